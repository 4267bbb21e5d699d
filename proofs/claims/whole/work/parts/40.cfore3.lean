theorem nI_dec (k : Nat) : nI (k + 1) + (-1) = nI k := by
  have := nI_pred k
  rw [Int32.sub_eq_add_neg] at this
  exact this
theorem w_B_pl {p : Nat} {v : Int32} {w : Nat → Int32} (h : w_B w) : w_B (w_pl p v w) := by
  unfold w_B
  rw [w_pl_n (Or.inl (by omega))]
  exact h
set_option maxHeartbeats 1000000 in
set_option maxRecDepth 100000 in
theorem kX4_greatestPull {l : Launch} {O : rx_O} (hO : cb_O O) {σ : rx_S} {n a : Nat} {w : Nat → Int32} (hw : cb_R cb_T σ 1 w) (hv : w_V 999 w) (hb : w_B w) (hn : n < 500) (ha : a < 6) (ha3 : a < rx_N (w 3)) (hbo : cb_bo σ 243) : rx_MI l O yX4_greatestPull cX4_greatestPull 6 (some .int) 5 [.ref 242, .ref 1, .int (nI a), .int (nI n)] σ (fun r τ => w_pf (-1) a n w 100 = r ∧ cb_fr 243 σ τ ∧ cb_bo τ 243) := by
  refine rx_Met_of (own := RX4) rfl hO.2.1 vsX4_greatestPull.2.2.2.2.2 (Nat.le_of_ble_eq_true rfl) rfl (fun p e s m args below meth c X => ?_)
  have loop : ∀ (k : Nat) (x : Int32) (τ : rx_S), (x = nI k + (-1)) → (k ≤ 100) → (cb_fr 243 σ τ) → (cb_bo τ 243) → (w_pf (-1) a n w 100 = w_pf (-1) a n w k) → rx_J O 6 p l e (rx_lv 5) s m args below meth c (rx_QI O below args s (fun r τ => w_pf (-1) a n w 100 = r ∧ cb_fr 243 σ τ ∧ cb_bo τ 243)) 4 [(0, .ref 242), (1, .ref 1), (2, .int (nI a)), (3, .int (nI n)), (4, .int x)] [] τ := by
    intro k
    induction k with
    | zero =>
      intro x τ hx hk hf hbo he
      subst hx
      refine rx_iload (i := 4) X dX4_greatestPull_4 rfl ?_
      refine rx_if_lt_t X dX4_greatestPull_6 (by decide) ?_
      refine rx_ldc X dX4_greatestPull_70 kcX4_60 ?_
      refine rx_iret X dX4_greatestPull_72 ?_
      exact ⟨by rw [he]; rfl, hf, hbo⟩
    | succ k ih =>
      intro x τ hx hk hf hbo he
      have n2 := hv.n2
      rw [nI_dec] at hx
      subst hx
      have inner : ∀ (q : Nat) (i : Nat) (z : Int32) (ρ : rx_S), (i + q = rx_N (w 2)) → (z = nI i) → (cb_fr 243 σ ρ) → (cb_R cb_T ρ 243 (w_pl i (nI k) w)) → rx_J O 6 p l e (rx_lv 5) s m args below meth c (rx_QI O below args s (fun r τ => w_pf (-1) a n w 100 = r ∧ cb_fr 243 σ τ ∧ cb_bo τ 243)) 20 [(0, .ref 242), (1, .ref 1), (2, .int (nI a)), (3, .int (nI n)), (4, .int (nI k)), (5, .int z)] [] ρ := by
        intro q
        induction q with
        | zero =>
          intro i z ρ hi hz hg hρ
          obtain rfl : i = rx_N (w 2) := by omega
          subst hz
          refine rx_iload (i := 5) X dX4_greatestPull_20 rfl ?_
          refine rx_aload_n (i := 0) X dX4_greatestPull_22 rfl rfl ?_
          refine rx_getR (ci := 4) (i := 0) X (kc_242 hO) rfl rfl (by decide) inX4 flX4_12 dX4_greatestPull_23 ?_
          refine rx_getI (ci := 3) (i := 2) X (kb_0 hO cb_B243) rfl rfl (by decide) inX3 flX4_80 dX4_greatestPull_26 ?_
          refine rx_top (hρ.2.1.1.2.2.1.trans ((w_pl_n (Or.inl (by omega))).trans (rx_nN (by have := hv.2.2.1; omega)))) ?_
          refine rx_icmp_ge_t X dX4_greatestPull_29 (Int32.le_refl _) ?_
          refine rx_aload_n (i := 0) X dX4_greatestPull_50 rfl rfl ?_
          refine rx_iload_n (i := 2) X dX4_greatestPull_51 rfl rfl ?_
          refine rx_iload_n (i := 3) X dX4_greatestPull_52 rfl rfl ?_
          have hset := hρ.less (Q := fun b => b = a) (fun _ _ => trivial)
          have hV := w_V_pl (p := rx_N (w 2)) (v := nI k) hv hv.n2.2 (by rw [nI_toInt (by omega)]; omega)
          have hBs := w_B_pl (p := rx_N (w 2)) (v := nI k) hb
          refine rx_callVi (ci := 4) X vsX4_arrivalOnward mlX4_53 (kX4_arrivalOnward hO hset hV hBs (by omega) (by omega) ha (by rw [w_pl_n (Or.inl (by omega))]; exact ha3)) (kc_242 hO) rfl rfl (by decide) (by decide) dX4_greatestPull_53 rfl (Nat.le_of_ble_eq_true rfl) (fun r53 t53 h53 => ?_)
          obtain ⟨rfl, h53f, h53b⟩ := h53
          refine rx_ldc X dX4_greatestPull_56 kcX4_60 ?_
          refine rx_icmp_eq X dX4_greatestPull_58 (fun h58 => ?_) (fun h58 => ?_)
          · refine rx_iinc (i := 4) (lo2 := [(0, .ref _), (1, .ref _), (2, .int _), (3, .int _), (4, .int _), (5, .int _)]) X dX4_greatestPull_64 rfl (rx_dec1 _) (by decide) rfl ?_
            refine rx_goto X dX4_greatestPull_67 ?_
            refine (rx_less [0, 1, 2, 3, 4] rfl) ?_
            refine ih _ _ rfl (by omega) (hg.trans h53f) h53b ?_
            rw [he, w_pf, if_neg ((w_arr_iff ha (by omega) (by omega) hV hBs).mp h58)]
          · refine rx_iload (i := 4) X dX4_greatestPull_61 rfl ?_
            refine rx_iret X dX4_greatestPull_63 ?_
            refine ⟨?_, hg.trans h53f, h53b⟩
            rw [he, w_pf, if_pos (Decidable.of_not_not (fun q => h58 ((w_arr_iff ha (by omega) (by omega) hV hBs).mpr q)))]
        | succ q ihq =>
          intro i z ρ hi hz hg hρ
          subst hz
          refine rx_iload (i := 5) X dX4_greatestPull_20 rfl ?_
          refine rx_aload_n (i := 0) X dX4_greatestPull_22 rfl rfl ?_
          refine rx_getR (ci := 4) (i := 0) X (kc_242 hO) rfl rfl (by decide) inX4 flX4_12 dX4_greatestPull_23 ?_
          refine rx_getI (ci := 3) (i := 2) X (kb_0 hO cb_B243) rfl rfl (by decide) inX3 flX4_80 dX4_greatestPull_26 ?_
          refine rx_top (hρ.2.1.1.2.2.1.trans ((w_pl_n (Or.inl (by omega))).trans (rx_nN (by have := hv.2.2.1; omega)))) ?_
          refine rx_icmp_ge_f X dX4_greatestPull_29 (nI_ge (b := rx_N (w 2)) (by omega) (by omega)) ?_
          refine rx_aload_n (i := 0) X dX4_greatestPull_32 rfl rfl ?_
          refine rx_getR (ci := 4) (i := 0) X (kc_242 hO) rfl rfl (by decide) inX4 flX4_12 dX4_greatestPull_33 ?_
          refine rx_getR (ci := 3) (i := 4) X (kb_0 hO cb_B243) rfl rfl (by decide) inX3 flX4_83 dX4_greatestPull_36 ?_
          refine rx_iload (i := 5) X dX4_greatestPull_39 rfl ?_
          refine rx_iload (i := 4) X dX4_greatestPull_41 rfl ?_
          refine rx_iastN (j := i) X (kb_1 hO cb_B243) hO.2.2.1 rfl (by omega) (by decide) dX4_greatestPull_43 ?_
          refine rx_iinc (i := 5) (lo2 := [(0, .ref _), (1, .ref _), (2, .int _), (3, .int _), (4, .int _), (5, .int _)]) X dX4_greatestPull_44 rfl (rx_inc1 _) (by decide) rfl ?_
          refine rx_goto X dX4_greatestPull_47 ?_
          refine ihq (i + 1) _ _ (by omega) (nI_1 i) (hg.u1 (by omega) (by omega)) ?_
          rw [← w_pl_s]
          exact hρ.inch (by omega)
      refine rx_iload (i := 4) X dX4_greatestPull_4 rfl ?_
      refine rx_if_lt_f X dX4_greatestPull_6 (fun q => absurd q (Int32.not_lt.mpr (nI_le (a := 0) (b := k) (by omega) (by omega)))) ?_
      refine rx_aload_n (i := 0) X dX4_greatestPull_9 rfl rfl ?_
      refine rx_getR (ci := 4) (i := 0) X (kc_242 hO) rfl rfl (by decide) inX4 flX4_12 dX4_greatestPull_10 ?_
      refine rx_aload_n (i := 1) X dX4_greatestPull_13 rfl rfl ?_
      refine rx_callVv (ci := 3) X vsX3_takeFrom mlX4_28 (kX3_tf hO hw hf) (kb_0 hO cb_B243) rfl rfl (by decide) (by decide) dX4_greatestPull_14 rfl (Nat.le_of_ble_eq_true rfl) (fun t14 h14 => ?_)
      obtain ⟨h14f, h14⟩ := h14
      refine rx_iconst (v := 0) X dX4_greatestPull_17 (by decide) ?_
      refine rx_istore (i := 5) (lo2 := [(0, .ref _), (1, .ref _), (2, .int _), (3, .int _), (4, .int _), (5, .int _)]) X dX4_greatestPull_18 (by decide) rfl ?_
      exact inner (rx_N (w 2)) 0 _ _ (by omega) rfl h14f (by rw [w_pl_0]; exact h14)
  refine rx_bipush (v := 99) X dX4_greatestPull_0 (by decide) ?_
  refine rx_istore (i := 4) (lo2 := [(0, .ref _), (1, .ref _), (2, .int _), (3, .int _), (4, .int _)]) X dX4_greatestPull_2 (by decide) rfl ?_
  exact loop 100 _ σ rfl (by omega) (cb_fr.rfl' 243 σ) hbo rfl
def ah (w : Nat → Int32) (a : Nat) : Nat → Int32
  | 0 => 0
  | n + 1 => if w (34 + a) < w (34 + n) then ah w a n ||| 1 <<< (nI n &&& 31) else ah w a n
theorem ah_s (w : Nat → Int32) (a n : Nat) : ah w a (n + 1) = if w (34 + a) < w (34 + n) then ah w a n ||| 1 <<< (nI n &&& 31) else ah w a n := rfl
set_option maxHeartbeats 1000000 in
set_option maxRecDepth 100000 in
theorem kX4_aheadOf {l : Launch} {O : rx_O} (hO : cb_O O) {σ : rx_S} {a : Nat} {w : Nat → Int32} (h : cb_R cb_T σ 243 w) (h3 : 0 ≤ (w 3).toInt ∧ (w 3).toInt ≤ 6) (ha : a < 6) (ha3 : a < rx_N (w 3)) : rx_MI l O yX4_aheadOf cX4_aheadOf 4 (some .int) 0 [.ref 242, .int (nI a)] σ (fun r τ => ah w a (rx_N (w 3)) = r ∧ σ = τ) := by
  refine rx_Met_of (own := RX4) rfl hO.2.1 vsX4_aheadOf.2.2.2.2.2 (Nat.le_of_ble_eq_true rfl) rfl (fun p e s m args below meth c X => ?_)
  have n3 := rx_Ni h3.1
  have loop : ∀ (k : Nat) (i : Nat) (x z : Int32), (i + k = rx_N (w 3)) → (x = nI i) → (z = ah w a i) → rx_J O 4 p l e (rx_lv 0) s m args below meth c (rx_QI O below args s (fun r τ => ah w a (rx_N (w 3)) = r ∧ σ = τ)) 4 [(0, .ref 242), (1, .int (nI a)), (2, .int z), (3, .int x)] [] σ := by
    intro k
    induction k with
    | zero =>
      intro i x z hi hx hz
      obtain rfl : i = rx_N (w 3) := by omega
      subst hx
      refine rx_iload_n (i := 3) X dX4_aheadOf_4 rfl rfl ?_
      refine rx_aload_n (i := 0) X dX4_aheadOf_5 rfl rfl ?_
      refine rx_getR (ci := 4) (i := 0) X (kc_242 hO) rfl rfl (by decide) inX4 flX4_12 dX4_aheadOf_6 ?_
      refine rx_getI (ci := 3) (i := 3) X (kb_0 hO cb_B243) rfl rfl (by decide) inX3 flX4_113 dX4_aheadOf_9 ?_
      refine rx_top (h.2.1.1.2.2.2.trans (rx_nN (by omega))) ?_
      refine rx_icmp_ge_t X dX4_aheadOf_12 (Int32.le_refl _) ?_
      refine rx_iload_n (i := 2) X dX4_aheadOf_54 rfl rfl ?_
      refine rx_iret X dX4_aheadOf_55 ?_
      exact ⟨hz.symm, rfl⟩
    | succ k ih =>
      intro i x z hi hx hz
      subst hx
      refine rx_iload_n (i := 3) X dX4_aheadOf_4 rfl rfl ?_
      refine rx_aload_n (i := 0) X dX4_aheadOf_5 rfl rfl ?_
      refine rx_getR (ci := 4) (i := 0) X (kc_242 hO) rfl rfl (by decide) inX4 flX4_12 dX4_aheadOf_6 ?_
      refine rx_getI (ci := 3) (i := 3) X (kb_0 hO cb_B243) rfl rfl (by decide) inX3 flX4_113 dX4_aheadOf_9 ?_
      refine rx_top (h.2.1.1.2.2.2.trans (rx_nN (by omega))) ?_
      refine rx_icmp_ge_f X dX4_aheadOf_12 (nI_ge (b := rx_N (w 3)) (by omega) (by omega)) ?_
      refine rx_aload_n (i := 0) X dX4_aheadOf_15 rfl rfl ?_
      refine rx_getR (ci := 4) (i := 0) X (kc_242 hO) rfl rfl (by decide) inX4 flX4_12 dX4_aheadOf_16 ?_
      refine rx_getR (ci := 3) (i := 5) X (kb_0 hO cb_B243) rfl rfl (by decide) inX3 flX4_43 dX4_aheadOf_19 ?_
      refine rx_iload_n (i := 3) X dX4_aheadOf_22 rfl rfl ?_
      refine rx_aaldN (j := i) X (kb_2 hO cb_B243) hO.2.2.2.2.2.1 rfl (by omega) (by decide) (kb_el (by omega)) dX4_aheadOf_23 ?_
      refine rx_getI (ci := 1) (i := 4) X (kb_a hO cb_B243 (by omega)) rfl rfl (by decide) inX1 flX4_47 dX4_aheadOf_24 ?_
      refine rx_top (h.2.2 i (by omega) (by omega) trivial).2.2.2.2.1 ?_
      refine rx_aload_n (i := 0) X dX4_aheadOf_27 rfl rfl ?_
      refine rx_getR (ci := 4) (i := 0) X (kc_242 hO) rfl rfl (by decide) inX4 flX4_12 dX4_aheadOf_28 ?_
      refine rx_getR (ci := 3) (i := 5) X (kb_0 hO cb_B243) rfl rfl (by decide) inX3 flX4_43 dX4_aheadOf_31 ?_
      refine rx_iload_n (i := 1) X dX4_aheadOf_34 rfl rfl ?_
      refine rx_aaldN (j := a) X (kb_2 hO cb_B243) hO.2.2.2.2.2.1 rfl ha (by decide) (kb_el ha) dX4_aheadOf_35 ?_
      refine rx_getI (ci := 1) (i := 4) X (kb_a hO cb_B243 ha) rfl rfl (by decide) inX1 flX4_47 dX4_aheadOf_36 ?_
      refine rx_top (h.2.2 a ha ha3 trivial).2.2.2.2.1 ?_
      refine rx_icmp_le X dX4_aheadOf_39 (fun h39 => ?_) (fun h39 => ?_)
      · refine rx_iinc (i := 3) (lo2 := [(0, .ref _), (1, .int _), (2, .int _), (3, .int _)]) X dX4_aheadOf_48 rfl (rx_inc1 _) (by decide) rfl ?_
        refine rx_goto X dX4_aheadOf_51 ?_
        refine ih (i + 1) _ _ (by omega) (nI_1 i) ?_
        rw [hz, ah_s, if_neg (Int32.not_lt.mpr h39)]
      · refine rx_iload_n (i := 2) X dX4_aheadOf_42 rfl rfl ?_
        refine rx_iconst (v := 1) X dX4_aheadOf_43 (by decide) ?_
        refine rx_iload_n (i := 3) X dX4_aheadOf_44 rfl rfl ?_
        refine rx_ishl X dX4_aheadOf_45 ?_
        refine rx_ior X dX4_aheadOf_46 ?_
        refine rx_istore_n (i := 2) (lo2 := [(0, .ref _), (1, .int _), (2, .int _), (3, .int _)]) X dX4_aheadOf_47 rfl (by decide) rfl ?_
        refine rx_iinc (i := 3) (lo2 := [(0, .ref _), (1, .int _), (2, .int _), (3, .int _)]) X dX4_aheadOf_48 rfl (rx_inc1 _) (by decide) rfl ?_
        refine rx_goto X dX4_aheadOf_51 ?_
        refine ih (i + 1) _ _ (by omega) (nI_1 i) ?_
        rw [hz, ah_s, if_pos (Int32.not_le.mp h39)]
  refine rx_iconst (v := 0) X dX4_aheadOf_0 (by decide) ?_
  refine rx_istore_n (i := 2) (lo2 := [(0, .ref _), (1, .int _), (2, .int _)]) X dX4_aheadOf_1 rfl (by decide) rfl ?_
  refine rx_iconst (v := 0) X dX4_aheadOf_2 (by decide) ?_
  refine rx_istore_n (i := 3) (lo2 := [(0, .ref _), (1, .int _), (2, .int _), (3, .int _)]) X dX4_aheadOf_3 rfl (by decide) rfl ?_
  exact loop (rx_N (w 3)) 0 _ _ (by omega) rfl rfl
abbrev b6 (x : Int32) : Prop := ∃ q, q < 64 ∧ x = nI q
theorem bf_congr {x y : Int32} (h : ∀ n, n < 6 → (w_has x n ↔ w_has y n)) : ∀ n, n ≤ 6 → bf x n = bf y n
  | 0, _ => rfl
  | n + 1, hn => by
    rw [bf_s, bf_s, bf_congr h n (by omega)]
    by_cases e : w_has x n
    · rw [if_pos e, if_pos ((h n (by omega)).mp e)]
    · rw [if_neg e, if_neg (fun q => e ((h n (by omega)).mpr q))]
theorem b6_ext {x y : Int32} (hx : b6 x) (hy : b6 y) (h : ∀ n, n < 6 → (w_has x n ↔ w_has y n)) : x = y := by
  obtain ⟨q, hq, rfl⟩ := hx
  obtain ⟨r, hr, rfl⟩ := hy
  rw [← bf_all q hq, ← bf_all r hr]
  exact bf_congr h 6 (by omega)
theorem b6_bit {x : Int32} {a : Nat} (h : b6 x) (ha : a < 6) : b6 (x ||| 1 <<< (nI a &&& 31)) := by
  obtain ⟨q, hq, rfl⟩ := h
  have z := w_B_or q hq a ha
  exact ⟨rx_N _, rx_Nlt z.1 z.2, rx_nN z.1⟩
theorem b6_own {x : Int32} {a : Nat} (h : b6 x) (ha : a < 6) : w_has (x ||| 1 <<< (nI a &&& 31)) a := by
  obtain ⟨q, hq, rfl⟩ := h
  exact bit_own q hq a ha
theorem b6_oth {x : Int32} {a b : Nat} (h : b6 x) (ha : a < 6) (hb : b < 6) (hne : ¬ b = a) : w_has (x ||| 1 <<< (nI a &&& 31)) b ↔ w_has x b := by
  obtain ⟨q, hq, rfl⟩ := h
  exact bit_oth q hq a ha b hb hne
theorem b6_0 : b6 0 := ⟨0, by decide, rfl⟩
theorem or_lt : ∀ q, q < 64 → ∀ r, r < 64 → 0 ≤ (nI q ||| nI r).toInt ∧ (nI q ||| nI r).toInt < 64 := by decide +kernel
theorem or_has : ∀ q, q < 64 → ∀ r, r < 64 → ∀ n, n < 6 → (w_has (nI q ||| nI r) n ↔ (w_has (nI q) n ∨ w_has (nI r) n)) := by decide +kernel
theorem an_lt : ∀ q, q < 64 → ∀ r, r < 64 → 0 ≤ (nI q &&& (nI r ^^^ -1)).toInt ∧ (nI q &&& (nI r ^^^ -1)).toInt < 64 := by decide +kernel
theorem an_has : ∀ q, q < 64 → ∀ r, r < 64 → ∀ n, n < 6 → (w_has (nI q &&& (nI r ^^^ -1)) n ↔ (w_has (nI q) n ∧ ¬ w_has (nI r) n)) := by decide +kernel
theorem ah_b6 {w : Nat → Int32} {a : Nat} : ∀ n, n ≤ 6 → b6 (ah w a n)
  | 0, _ => b6_0
  | n + 1, hn => by
    rw [ah_s]
    split
    · exact b6_bit (ah_b6 n (by omega)) (by omega)
    · exact ah_b6 n (by omega)
theorem ah_has {w : Nat → Int32} {a b : Nat} (hb : b < 6) : ∀ n, n ≤ 6 → (w_has (ah w a n) b ↔ (b < n ∧ w (34 + a) < w (34 + b)))
  | 0, _ => ⟨fun q => absurd q (zero_no b hb), fun q => absurd q.1 (Nat.not_lt_zero b)⟩
  | n + 1, hn => by
    have ih := ah_has (w := w) (a := a) hb n (by omega)
    rw [ah_s]
    by_cases e : b = n
    · subst e
      split
      · rename_i z; exact ⟨fun _ => ⟨by omega, z⟩, fun _ => b6_own (ah_b6 b (by omega)) hb⟩
      · rename_i z; exact ⟨fun q => absurd (ih.mp q).1 (by omega), fun q => absurd q.2 z⟩
    · split
      · rw [b6_oth (ah_b6 n (by omega)) (by omega) hb e, ih]; exact ⟨fun q => ⟨by omega, q.2⟩, fun q => ⟨by omega, q.2⟩⟩
      · rw [ih]; exact ⟨fun q => ⟨by omega, q.2⟩, fun q => ⟨by omega, q.2⟩⟩
theorem wc_b6 {w : Nat → Int32} {a : Nat} : ∀ n, n ≤ 6 → b6 (w_could w a n)
  | 0, _ => b6_0
  | n + 1, hn => by
    unfold w_could
    split
    · rw [Int32.or_zero]; exact wc_b6 n (by omega)
    · exact b6_bit (wc_b6 n (by omega)) (by omega)
theorem wc_has {w : Nat → Int32} {a b : Nat} (hb : b < 6) : ∀ n, n ≤ 6 → (w_has (w_could w a n) b ↔ (b < n ∧ ¬ w (34 + a) < w (34 + b)))
  | 0, _ => ⟨fun q => absurd q (zero_no b hb), fun q => absurd q.1 (Nat.not_lt_zero b)⟩
  | n + 1, hn => by
    have ih := wc_has (w := w) (a := a) hb n (by omega)
    rw [w_could]
    by_cases e : b = n
    · subst e
      split
      · rename_i z; rw [Int32.or_zero, ih]; exact ⟨fun q => absurd q.1 (by omega), fun q => absurd z q.2⟩
      · rename_i z; exact ⟨fun q => ⟨by omega, z⟩, fun _ => b6_own (wc_b6 b (by omega)) hb⟩
    · split
      · rw [Int32.or_zero, ih]; exact ⟨fun q => ⟨by omega, q.2⟩, fun q => ⟨by omega, q.2⟩⟩
      · rw [b6_oth (wc_b6 n (by omega)) (by omega) hb e, ih]; exact ⟨fun q => ⟨by omega, q.2⟩, fun q => ⟨by omega, q.2⟩⟩
theorem ps_b6 {v : Nat → Int32} {a : Nat} {c s : Int32} (hs : b6 s) : ∀ n, n ≤ 6 → b6 (w_ps v a c n s)
  | 0, _ => hs
  | n + 1, hn => by
    rw [w_ps]
    split
    · exact b6_bit (ps_b6 hs n (by omega)) (by omega)
    · rw [Int32.or_zero]; exact ps_b6 hs n (by omega)
theorem ps_has {v : Nat → Int32} {a b : Nat} {c s : Int32} (hs : b6 s) (hb : b < 6) : ∀ n, n ≤ 6 → (w_has (w_ps v a c n s) b ↔ (w_has s b ∨ (b < n ∧ w_has c b ∧ v (34 + a) < v (34 + b))))
  | 0, _ => ⟨fun q => Or.inl q, fun q => q.elim id (fun q => absurd q.1 (Nat.not_lt_zero b))⟩
  | n + 1, hn => by
    have ih := ps_has (v := v) (a := a) (c := c) hs hb n (by omega)
    rw [w_ps]
    by_cases e : b = n
    · subst e
      split
      · rename_i z; exact ⟨fun _ => Or.inr ⟨by omega, z⟩, fun _ => b6_own (ps_b6 hs b (by omega)) hb⟩
      · rename_i z; rw [Int32.or_zero, ih]; exact ⟨fun q => q.elim Or.inl (fun q => absurd q.1 (by omega)), fun q => q.elim Or.inl (fun q => absurd q.2 z)⟩
    · split
      · rw [b6_oth (ps_b6 hs n (by omega)) (by omega) hb e, ih]; exact ⟨fun q => q.elim Or.inl (fun q => Or.inr ⟨by omega, q.2⟩), fun q => q.elim Or.inl (fun q => Or.inr ⟨by omega, q.2⟩)⟩
      · rw [Int32.or_zero, ih]; exact ⟨fun q => q.elim Or.inl (fun q => Or.inr ⟨by omega, q.2⟩), fun q => q.elim Or.inl (fun q => Or.inr ⟨by omega, q.2⟩)⟩
theorem ps_step {w u : Nat → Int32} {a N : Nat} {s : Int32} (hs : b6 s) (hN : N ≤ 6) : s ||| (ah u a N &&& (ah w a N ^^^ -1)) = w_ps u a (w_could w a N) N s := by
  obtain ⟨q, hq, e⟩ := ah_b6 (w := u) (a := a) N hN
  obtain ⟨r, hr, f⟩ := ah_b6 (w := w) (a := a) N hN
  have z := an_lt q hq r hr
  have g : b6 (ah u a N &&& (ah w a N ^^^ -1)) := by rw [e, f]; exact ⟨rx_N _, rx_Nlt z.1 z.2, rx_nN z.1⟩
  have hb : ∀ n, n < 6 → (w_has (ah u a N &&& (ah w a N ^^^ -1)) n ↔ (w_has (ah u a N) n ∧ ¬ w_has (ah w a N) n)) := by rw [e, f]; exact an_has q hq r hr
  have o : ∀ (y : Int32), b6 y → b6 (s ||| y) ∧ ∀ n, n < 6 → (w_has (s ||| y) n ↔ (w_has s n ∨ w_has y n)) := by
    rintro y ⟨t, ht, rfl⟩
    obtain ⟨m, hm, rfl⟩ := hs
    have := or_lt m hm t ht
    exact ⟨⟨rx_N _, rx_Nlt this.1 this.2, rx_nN this.1⟩, or_has m hm t ht⟩
  refine b6_ext (o _ g).1 (ps_b6 hs N hN) (fun n hn => ?_)
  rw [(o _ g).2 n hn, hb n hn, ah_has hn N hN, ah_has hn N hN, ps_has hs hn N hN, wc_has hn N hN]
  constructor
  · rintro (h | ⟨h1, h2⟩)
    · exact Or.inl h
    · exact Or.inr ⟨h1.1, ⟨h1.1, fun k => h2 ⟨h1.1, k⟩⟩, h1.2⟩
  · rintro (h | ⟨h1, h2, h3⟩)
    · exact Or.inl h
    · exact Or.inr ⟨⟨h1, h3⟩, fun k => h2.2 k.2⟩
