/-- what stands in a row's way -/
def sp_li (σ : rx_S) (r i n : Int32) : Int32 × rx_S :=
  if ¬ (0 ≤ r.toInt ∧ r.toInt ≤ 7) ∨ ¬ (1 ≤ n.toInt ∧ n.toInt ≤ 12) then (-1000001, σ)
  else if (σ.1 2 (rx_N r)).toInt < 0 then (-1000011, rx_u σ 0 3 1)
  else if ¬ (0 ≤ i.toInt ∧ i.toInt ≤ (σ.1 2 (rx_N r)).toInt - n.toInt) then (-1000012, rx_u σ 0 3 2) else (0, σ)
theorem rx_subT {x y : Int32} (h1 : -1000000000 ≤ x.toInt) (h2 : x.toInt ≤ 1000000000) (h3 : -1000000000 ≤ y.toInt) (h4 : y.toInt ≤ 1000000000) : (x - y).toInt = x.toInt - y.toInt := by
  rw [Int32.toInt_sub, Int.bmod_eq_of_le] <;> omega
def w_so (sp : Int32) (a : Nat) (f : Nat → Int32) (at0 : Nat) : Nat → Nat → (Nat → Int32) → Bool
  | 0, _, _ => true
  | n + 1, k, u => decide (f (at0 + k) = w_one sp u (34 + a) / 10000) && w_so sp a f at0 n (k + 1) (w_one sp u)
def w_who (sp : Int32) (ix a : Nat) (f : Nat → Int32) (at0 n : Nat) (w : Nat → Int32) : Nat → Int32
  | 0 => 0
  | v + 1 => w_who sp ix a f at0 n w v ||| (if w_so sp a f at0 n 0 (upd w ix (nI (v + 1))) = true then 1 <<< (nI (v + 1) &&& 31) else (0 : Int32))
def sp_who (σ : rx_S) (x wh r i n : Int32) : Int32 × rx_S :=
  if ¬ mo_ant σ x ∨ ¬ (0 ≤ wh.toInt ∧ wh.toInt ≤ 2) then (-1000001, σ)
  else if (sp_li σ r i n).1 = 0 then (if wh = 0 then w_who (σ.1 0 6) (10 + rx_N x) (rx_N x) (σ.1 3) (40 * rx_N r + rx_N i) (rx_N n) (σ.1 4) 5 else if wh = 1 then w_who (σ.1 0 6) (16 + rx_N x) (rx_N x) (σ.1 3) (40 * rx_N r + rx_N i) (rx_N n) (σ.1 4) 20 else w_who (σ.1 0 6) (28 + rx_N x) (rx_N x) (σ.1 3) (40 * rx_N r + rx_N i) (rx_N n) (σ.1 4) 9, rx_u (sp_aside σ) 0 3 0)
  else sp_li σ r i n
def w_whi (sp : Int32) (f : Nat → Int32) (at0 n : Nat) (w : Nat → Int32) : Nat → Int32
  | 0 => 0
  | a + 1 => w_whi sp f at0 n w a ||| (if w_so sp a f at0 n 0 w = true then 1 <<< (nI a &&& 31) else (0 : Int32))
def sp_which (σ : rx_S) (r i n : Int32) : Int32 × rx_S :=
  if σ.1 0 4 = 0 then (-1000002, σ)
  else if (sp_li σ r i n).1 = 0 then (w_whi (σ.1 0 6) (σ.1 3) (40 * rx_N r + rx_N i) (rx_N n) (σ.1 4) (rx_N (σ.1 4 3)), rx_u (sp_aside σ) 0 3 0)
  else sp_li σ r i n
theorem sp_li_0 {σ : rx_S} {r i n : Int32} (h : (sp_li σ r i n).1 = 0) : (0 ≤ r.toInt ∧ r.toInt ≤ 7) ∧ (1 ≤ n.toInt ∧ n.toInt ≤ 12) ∧ 0 ≤ i.toInt ∧ i.toInt ≤ (σ.1 2 (rx_N r)).toInt - n.toInt := by
  unfold sp_li at h
  split at h
  · exact absurd (show (-1000001 : Int32) = 0 from h) (by decide)
  · split at h
    · exact absurd (show (-1000011 : Int32) = 0 from h) (by decide)
    · split at h
      · exact absurd (show (-1000012 : Int32) = 0 from h) (by decide)
      · rename_i h1 h2 h3
        omega
set_option maxHeartbeats 4000000 in
set_option maxRecDepth 100000 in
theorem kX8_lacksItems {l : Launch} {O : rx_O} (hO : mo_O O) {σ : rx_S} {r i n : Int32} (hs : mo_sz σ) : rx_MI l O yX8_lacksItems cX8_lacksItems 4 (some .int) 2 [.ref 0, .int r, .int i, .int n] σ (fun q τ => sp_li σ r i n = (q, τ) ∧ (q = 0 ∨ q < 0)) := by
  refine rx_Met_of (own := RX8) rfl hO.2.1 vsX8_lacksItems.2.2.2.2.2 (Nat.le_of_ble_eq_true rfl) rfl (fun p e s m args below meth c X => ?_)
  refine rx_iload_n (i := 1) X dX8_lacksItems_0 rfl rfl ?_
  refine rx_callTi X vsX8_isRow mlX8_67 (kX8_isRow hO) rfl (by decide) (by decide) dX8_lacksItems_1 rfl (Nat.le_of_ble_eq_true rfl) (fun r1 t1 h1 => ?_)
  obtain ⟨rfl, ⟨rfl, h1⟩ | ⟨rfl, h1⟩⟩ := h1
  · refine rx_if_eq_f X dX8_lacksItems_4 (by decide) ?_
    refine rx_iload_n (i := 3) X dX8_lacksItems_7 rfl rfl ?_
    refine rx_i2l X dX8_lacksItems_8 ?_
    refine rx_lconst (v := 1) X dX8_lacksItems_9 (by decide) ?_
    refine rx_ldc2 X dX8_lacksItems_10 kcX8_219 ?_
    refine rx_callTi X vsX8_in mlX8_63 (kX8_inI hO (A := 1) (B := 12) rfl rfl) rfl (by decide) (by decide) dX8_lacksItems_13 rfl (Nat.le_of_ble_eq_true rfl) (fun r13 t13 h13 => ?_)
    obtain ⟨rfl, ⟨rfl, h13⟩ | ⟨rfl, h13⟩⟩ := h13
    · refine rx_if_ne_t X dX8_lacksItems_16 (by decide) ?_
      refine rx_aload_n (i := 0) X dX8_lacksItems_22 rfl rfl ?_
      refine rx_getR (ci := 8) (i := 1) X (km_0 hO) rfl rfl (by decide) inX8 flX8_13 dX8_lacksItems_23 ?_
      refine rx_iload_n (i := 1) X dX8_lacksItems_26 rfl rfl ?_
      refine rx_ialdN (j := rx_N r) X (km_2 hO) hO.2.2.1 (rx_nN h1.1) (rx_Nlt h1.1 (by omega)) (by decide) dX8_lacksItems_27 ?_
      refine rx_if_ge X dX8_lacksItems_28 (fun h28 => ?_) (fun h28 => ?_)
      · try simp only [Int32.lt_iff_toInt_lt, Int32.le_iff_toInt_le, Int32.reduceToInt] at h28
        refine rx_iload_n (i := 2) X dX8_lacksItems_37 rfl rfl ?_
        refine rx_i2l X dX8_lacksItems_38 ?_
        refine rx_lconst (v := 0) X dX8_lacksItems_39 (by decide) ?_
        refine rx_aload_n (i := 0) X dX8_lacksItems_40 rfl rfl ?_
        refine rx_getR (ci := 8) (i := 1) X (km_0 hO) rfl rfl (by decide) inX8 flX8_13 dX8_lacksItems_41 ?_
        refine rx_iload_n (i := 1) X dX8_lacksItems_44 rfl rfl ?_
        refine rx_ialdN (j := rx_N r) X (km_2 hO) hO.2.2.1 (rx_nN h1.1) (rx_Nlt h1.1 (by omega)) (by decide) dX8_lacksItems_45 ?_
        refine rx_iload_n (i := 3) X dX8_lacksItems_46 rfl rfl ?_
        refine rx_isub X dX8_lacksItems_47 ?_
        refine rx_i2l X dX8_lacksItems_48 ?_
        refine rx_callTi X vsX8_in mlX8_63 (kX8_inI hO (A := 0) rfl ((Int32.toInt_toInt64 _).trans (rx_subT (by have := hs (rx_N r) (rx_Nlt h1.1 (by omega)); omega) (by have := hs (rx_N r) (rx_Nlt h1.1 (by omega)); omega) (by omega) (by omega)))) rfl (by decide) (by decide) dX8_lacksItems_49 rfl (Nat.le_of_ble_eq_true rfl) (fun r49 t49 h49 => ?_)
        obtain ⟨rfl, ⟨rfl, h49⟩ | ⟨rfl, h49⟩⟩ := h49
        · refine rx_if_eq_f X dX8_lacksItems_52 (by decide) ?_
          refine rx_iconst (v := 0) X dX8_lacksItems_55 (by decide) ?_
          refine rx_goto X dX8_lacksItems_56 ?_
          refine rx_iret X dX8_lacksItems_64 ?_
          refine ⟨?_, by first | exact Or.inl rfl | exact Or.inr (by decide)⟩
          rw [sp_li]
          first | rw [if_pos (by omega)] | (rw [if_neg (by omega), if_pos (by omega)]; rfl) | (rw [if_neg (by omega), if_neg (by omega), if_pos (by omega)]; rfl) | rw [if_neg (by omega), if_neg (by omega), if_neg (by omega)] | fail "leaf"
        · refine rx_if_eq_t X dX8_lacksItems_52 (by decide) ?_
          refine rx_aload_n (i := 0) X dX8_lacksItems_59 rfl rfl ?_
          refine rx_iconst (v := 2) X dX8_lacksItems_60 (by decide) ?_
          refine rx_callVi (ci := 8) X vsX8_find mlX8_74 (kX8_find hO) (km_0 hO) rfl rfl (by decide) (by decide) dX8_lacksItems_61 rfl (Nat.le_of_ble_eq_true rfl) (fun r61 t61 h61 => ?_)
          obtain ⟨rfl, rfl⟩ := h61
          refine rx_iret X dX8_lacksItems_64 ?_
          refine ⟨?_, by first | exact Or.inl rfl | exact Or.inr (by decide)⟩
          rw [sp_li]
          first | rw [if_pos (by omega)] | (rw [if_neg (by omega), if_pos (by omega)]; rfl) | (rw [if_neg (by omega), if_neg (by omega), if_pos (by omega)]; rfl) | rw [if_neg (by omega), if_neg (by omega), if_neg (by omega)] | fail "leaf"
      · try simp only [Int32.lt_iff_toInt_lt, Int32.le_iff_toInt_le, Int32.reduceToInt] at h28
        refine rx_aload_n (i := 0) X dX8_lacksItems_31 rfl rfl ?_
        refine rx_iconst (v := 1) X dX8_lacksItems_32 (by decide) ?_
        refine rx_callVi (ci := 8) X vsX8_find mlX8_74 (kX8_find hO) (km_0 hO) rfl rfl (by decide) (by decide) dX8_lacksItems_33 rfl (Nat.le_of_ble_eq_true rfl) (fun r33 t33 h33 => ?_)
        obtain ⟨rfl, rfl⟩ := h33
        refine rx_iret X dX8_lacksItems_36 ?_
        refine ⟨?_, by first | exact Or.inl rfl | exact Or.inr (by decide)⟩
        rw [sp_li]
        first | rw [if_pos (by omega)] | (rw [if_neg (by omega), if_pos (by omega)]; rfl) | (rw [if_neg (by omega), if_neg (by omega), if_pos (by omega)]; rfl) | rw [if_neg (by omega), if_neg (by omega), if_neg (by omega)] | fail "leaf"
    · refine rx_if_ne_f X dX8_lacksItems_16 (by decide) ?_
      refine rx_ldc X dX8_lacksItems_19 kcX8_73 ?_
      refine rx_iret X dX8_lacksItems_21 ?_
      refine ⟨?_, by first | exact Or.inl rfl | exact Or.inr (by decide)⟩
      rw [sp_li]
      first | rw [if_pos (by omega)] | (rw [if_neg (by omega), if_pos (by omega)]; rfl) | (rw [if_neg (by omega), if_neg (by omega), if_pos (by omega)]; rfl) | rw [if_neg (by omega), if_neg (by omega), if_neg (by omega)] | fail "leaf"
  · refine rx_if_eq_t X dX8_lacksItems_4 (by decide) ?_
    refine rx_ldc X dX8_lacksItems_19 kcX8_73 ?_
    refine rx_iret X dX8_lacksItems_21 ?_
    refine ⟨?_, by first | exact Or.inl rfl | exact Or.inr (by decide)⟩
    rw [sp_li]
    first | rw [if_pos (by omega)] | (rw [if_neg (by omega), if_pos (by omega)]; rfl) | (rw [if_neg (by omega), if_neg (by omega), if_pos (by omega)]; rfl) | rw [if_neg (by omega), if_neg (by omega), if_neg (by omega)] | fail "leaf"
set_option maxHeartbeats 4000000 in
set_option maxRecDepth 100000 in
theorem kA_so {l : Launch} {O : rx_O} (hO : mo_O O) {σ : rx_S} {u : Nat → Int32} {a at0 n K : Nat} (ha : a < 6) (hn : n < 100) (hat : at0 + n ≤ 320) (hK : K + n < 1000000) (hv : w_V K u) (h40 : ∀ i, 40 ≤ i → u i = σ.1 4 i) : rx_MI l O yX8_isSo cX8_isSo 6 (some .boolean) 6 [.ref 0, .int (nI a), .int (nI at0), .int (nI n)] (as_st σ u) (fun r τ => sp_aside σ = τ ∧ rx_b (w_so (σ.1 0 6) a (σ.1 3) at0 n 0 u = true) r) := by
  refine rx_Met_of (own := RX8) rfl hO.2.1 vsX8_isSo.2.2.2.2.2 (Nat.le_of_ble_eq_true rfl) rfl (fun p e s m args below meth c X => ?_)
  have loop : ∀ (k : Nat) (i K : Nat) (x c4 : Int32) (v : Nat → Int32), (i + k = n) → (x = nI i) → (K + k < 1000000) → (w_V K v) → (∀ j, 40 ≤ j → v j = σ.1 4 j) → ((c4 = 1 ∧ w_so (σ.1 0 6) a (σ.1 3) at0 n 0 u = w_so (σ.1 0 6) a (σ.1 3) at0 k i v) ∨ (c4 = 0 ∧ w_so (σ.1 0 6) a (σ.1 3) at0 n 0 u = false)) → rx_J O 6 p l e (rx_lv 6) s m args below meth c (rx_QI O below args s (fun r τ => sp_aside σ = τ ∧ rx_b (w_so (σ.1 0 6) a (σ.1 3) at0 n 0 u = true) r)) 6 [(0, .ref 0), (1, .int (nI a)), (2, .int (nI at0)), (3, .int (nI n)), (4, .int c4), (5, .int x)] [] (as_st σ v) := by
    intro k
    induction k with
    | zero =>
      intro i K x c4 v hi9 hx hK hv hi40 hc
      subst hx
      obtain rfl : i = n := by omega
      obtain ⟨rfl, hc⟩ | ⟨rfl, hc⟩ := hc
      · refine rx_iload (i := 5) X dX8_isSo_6 rfl ?_
        refine rx_iload_n (i := 3) X dX8_isSo_8 rfl rfl ?_
        refine rx_icmp_ge_t X dX8_isSo_9 (Int32.le_refl _) ?_
        refine rx_aload_n (i := 0) X dX8_isSo_59 rfl rfl ?_
        refine rx_callVv (ci := 8) X vsX8_takeBack mlX8_196 (kA_take hO hi40) (km_0 hO) rfl rfl (by decide) (by decide) dX8_isSo_60 rfl (Nat.le_of_ble_eq_true rfl) (fun t60 h60 => ?_)
        subst h60
        refine rx_iload (i := 4) X dX8_isSo_63 rfl ?_
        refine rx_zret X dX8_isSo_65 rfl ?_
        exact ⟨rfl, Or.inl ⟨rfl, by rw [hc]; rfl⟩⟩
      · refine rx_iload (i := 5) X dX8_isSo_6 rfl ?_
        refine rx_iload_n (i := 3) X dX8_isSo_8 rfl rfl ?_
        refine rx_icmp_ge_t X dX8_isSo_9 (Int32.le_refl _) ?_
        refine rx_aload_n (i := 0) X dX8_isSo_59 rfl rfl ?_
        refine rx_callVv (ci := 8) X vsX8_takeBack mlX8_196 (kA_take hO hi40) (km_0 hO) rfl rfl (by decide) (by decide) dX8_isSo_60 rfl (Nat.le_of_ble_eq_true rfl) (fun t60 h60 => ?_)
        subst h60
        refine rx_iload (i := 4) X dX8_isSo_63 rfl ?_
        refine rx_zret X dX8_isSo_65 rfl ?_
        exact ⟨rfl, Or.inr ⟨rfl, by rw [hc]; decide⟩⟩
    | succ k ih =>
      intro i K x c4 v hi9 hx hK hv hi40 hc
      subst hx
      obtain ⟨rfl, hc⟩ | ⟨rfl, hc⟩ := hc
      · refine rx_iload (i := 5) X dX8_isSo_6 rfl ?_
        refine rx_iload_n (i := 3) X dX8_isSo_8 rfl rfl ?_
        refine rx_icmp_ge_f X dX8_isSo_9 (nI_ge (b := n) (by omega) (by omega)) ?_
        refine rx_aload_n (i := 0) X dX8_isSo_12 rfl rfl ?_
        refine rx_callVv (ci := 8) X vsX8_oneMinute mlX8_170 (kA_one hO hv) (km_0 hO) rfl rfl (by decide) (by decide) dX8_isSo_13 rfl (Nat.le_of_ble_eq_true rfl) (fun t13 h13 => ?_)
        subst h13
        refine rx_iload (i := 4) X dX8_isSo_16 rfl ?_
        refine rx_if_eq_f X dX8_isSo_18 (by decide) ?_
        refine rx_aload_n (i := 0) X dX8_isSo_21 rfl rfl ?_
        refine rx_getR (ci := 8) (i := 2) X (km_0 hO) rfl rfl (by decide) inX8 flX8_16 dX8_isSo_22 ?_
        refine rx_iload_n (i := 2) X dX8_isSo_25 rfl rfl ?_
        refine rx_iload (i := 5) X dX8_isSo_26 rfl ?_
        refine rx_iadd X dX8_isSo_28 ?_
        refine rx_ialdN (j := at0 + i) X (km_3 hO) hO.2.2.1 (nI_add at0 i) (by omega) (by decide) dX8_isSo_29 ?_
        refine rx_top (congrFun (as_ne (by decide) (by decide)) _) ?_
        refine rx_aload_n (i := 0) X dX8_isSo_30 rfl rfl ?_
        refine rx_getR (ci := 8) (i := 5) X (km_0 hO) rfl rfl (by decide) inX8 flX8_19 dX8_isSo_31 ?_
        refine rx_bipush (v := 34) X dX8_isSo_34 (by decide) ?_
        refine rx_iload_n (i := 1) X dX8_isSo_36 rfl rfl ?_
        refine rx_iadd X dX8_isSo_37 ?_
        refine rx_ialdN (j := 34 + a) X (km_4 hO) hO.2.2.1 (nI_add 34 a) (by omega) (by decide) dX8_isSo_38 ?_
        refine rx_top (as_rd _ _ _) ?_
        refine rx_sipush (v := 10000) X dX8_isSo_39 (by decide) ?_
        refine rx_idiv X dX8_isSo_42 (by decide) ?_
        refine rx_icmp_ne X dX8_isSo_43 (fun h43 => ?_) (fun h43 => ?_)
        · refine rx_iconst (v := 0) X dX8_isSo_50 (by decide) ?_
          refine rx_istore (i := 4) (lo2 := [(0, .ref _), (1, .int _), (2, .int _), (3, .int _), (4, .int _), (5, .int _)]) X dX8_isSo_51 (by decide) rfl ?_
          refine rx_iinc (i := 5) (lo2 := [(0, .ref _), (1, .int _), (2, .int _), (3, .int _), (4, .int _), (5, .int _)]) X dX8_isSo_53 rfl (rx_inc1 _) (by decide) rfl ?_
          refine rx_goto X dX8_isSo_56 ?_
          refine ih (i + 1) (K + 1) _ _ _ (by omega) (nI_1 i) (by omega) (w_V_one (by omega) hv) (fun j hj => (w_hi_one hv hj).trans (hi40 j hj)) (Or.inr ⟨rfl, ?_⟩)
          first | (rw [hc, w_so, decide_eq_false h43, Bool.false_and]) | exact hc | fail "leaf"
        · refine rx_iconst (v := 1) X dX8_isSo_46 (by decide) ?_
          refine rx_goto X dX8_isSo_47 ?_
          refine rx_istore (i := 4) (lo2 := [(0, .ref _), (1, .int _), (2, .int _), (3, .int _), (4, .int _), (5, .int _)]) X dX8_isSo_51 (by decide) rfl ?_
          refine rx_iinc (i := 5) (lo2 := [(0, .ref _), (1, .int _), (2, .int _), (3, .int _), (4, .int _), (5, .int _)]) X dX8_isSo_53 rfl (rx_inc1 _) (by decide) rfl ?_
          refine rx_goto X dX8_isSo_56 ?_
          refine ih (i + 1) (K + 1) _ _ _ (by omega) (nI_1 i) (by omega) (w_V_one (by omega) hv) (fun j hj => (w_hi_one hv hj).trans (hi40 j hj)) (Or.inl ⟨rfl, ?_⟩)
          rw [hc, w_so, h43, decide_eq_true rfl, Bool.true_and]
      · refine rx_iload (i := 5) X dX8_isSo_6 rfl ?_
        refine rx_iload_n (i := 3) X dX8_isSo_8 rfl rfl ?_
        refine rx_icmp_ge_f X dX8_isSo_9 (nI_ge (b := n) (by omega) (by omega)) ?_
        refine rx_aload_n (i := 0) X dX8_isSo_12 rfl rfl ?_
        refine rx_callVv (ci := 8) X vsX8_oneMinute mlX8_170 (kA_one hO hv) (km_0 hO) rfl rfl (by decide) (by decide) dX8_isSo_13 rfl (Nat.le_of_ble_eq_true rfl) (fun t13 h13 => ?_)
        subst h13
        refine rx_iload (i := 4) X dX8_isSo_16 rfl ?_
        refine rx_if_eq_t X dX8_isSo_18 (by decide) ?_
        refine rx_iconst (v := 0) X dX8_isSo_50 (by decide) ?_
        refine rx_istore (i := 4) (lo2 := [(0, .ref _), (1, .int _), (2, .int _), (3, .int _), (4, .int _), (5, .int _)]) X dX8_isSo_51 (by decide) rfl ?_
        refine rx_iinc (i := 5) (lo2 := [(0, .ref _), (1, .int _), (2, .int _), (3, .int _), (4, .int _), (5, .int _)]) X dX8_isSo_53 rfl (rx_inc1 _) (by decide) rfl ?_
        refine rx_goto X dX8_isSo_56 ?_
        refine ih (i + 1) (K + 1) _ _ _ (by omega) (nI_1 i) (by omega) (w_V_one (by omega) hv) (fun j hj => (w_hi_one hv hj).trans (hi40 j hj)) (Or.inr ⟨rfl, ?_⟩)
        first | (rw [hc, w_so, decide_eq_false h43, Bool.false_and]) | exact hc | fail "leaf"
  refine rx_iconst (v := 1) X dX8_isSo_0 (by decide) ?_
  refine rx_istore (i := 4) (lo2 := [(0, .ref _), (1, .int _), (2, .int _), (3, .int _), (4, .int _)]) X dX8_isSo_1 (by decide) rfl ?_
  refine rx_iconst (v := 0) X dX8_isSo_3 (by decide) ?_
  refine rx_istore (i := 5) (lo2 := [(0, .ref _), (1, .int _), (2, .int _), (3, .int _), (4, .int _), (5, .int _)]) X dX8_isSo_4 (by decide) rfl ?_
  exact loop n 0 K _ _ u (by omega) rfl (by omega) hv h40 (Or.inl ⟨rfl, rfl⟩)
theorem sw3 {v : Int32} (h : 0 ≤ v.toInt ∧ v.toInt ≤ 2) : v = 0 ∨ v = 1 ∨ v = 2 := by
  have e : v.toInt = 0 ∨ v.toInt = 1 ∨ v.toInt = 2 := by omega
  rcases e with e | e | e
  · exact Or.inl (Int32.toInt_inj.mp e)
  · exact Or.inr (Or.inl (Int32.toInt_inj.mp e))
  · exact Or.inr (Or.inr (Int32.toInt_inj.mp e))
set_option maxHeartbeats 4000000 in
set_option maxRecDepth 100000 in
theorem kX8_who {l : Launch} {O : rx_O} (hO : mo_O O) {σ : rx_S} {x wh r i n : Int32} (hw : mo_W σ) (hs : mo_sz σ) : rx_MI l O yX8_who cX8_who 10 (some .int) 7 [.ref 0, .int x, .int wh, .int r, .int i, .int n] σ (fun q τ => sp_who σ x wh r i n = (q, τ)) := by
  refine rx_Met_of (own := RX8) rfl hO.2.1 vsX8_who.2.2.2.2.2 (Nat.le_of_ble_eq_true rfl) rfl (fun p e s m args below meth c X => ?_)
  have go0 : ∀ (a r i0 n : Nat), a < 6 → r < 8 → i0 ≤ 40 → n ≤ 12 → 1 ≤ n → 40 * r + i0 + n ≤ 320 → mo_ant σ (nI a) → (sp_li σ (nI r) (nI i0) (nI n)).1 = 0 → w_V 999 (σ.1 4) → rx_J O 10 p l e (rx_lv 7) s m args below meth c (rx_QI O below args s (fun q τ => sp_who σ (nI a) 0 (nI r) (nI i0) (nI n) = (q, τ))) 83 [(0, .ref 0), (1, .int (nI a)), (2, .int 0), (3, .int (nI r)), (4, .int (nI i0)), (5, .int (nI n)), (6, .int 0), (7, .int (nI (10 + a))), (8, .int 0), (9, .int 1)] [] (as_st σ (σ.1 4)) := by
    intro a r i0 n ha hr hi0 hn hn1 hat h2 hli hv
    have loop : ∀ (k : Nat) (v : Nat) (x s8 : Int32), (v + k = 5) → (x = nI (v + 1)) → (s8 = w_who (σ.1 0 6) (10 + a) a (σ.1 3) (40 * r + i0) n (σ.1 4) v) → rx_J O 10 p l e (rx_lv 7) s m args below meth c (rx_QI O below args s (fun q τ => sp_who σ (nI a) 0 (nI r) (nI i0) (nI n) = (q, τ))) 83 [(0, .ref 0), (1, .int (nI a)), (2, .int 0), (3, .int (nI r)), (4, .int (nI i0)), (5, .int (nI n)), (6, .int 0), (7, .int (nI (10 + a))), (8, .int s8), (9, .int x)] [] (as_st σ (σ.1 4)) := by
      intro k
      induction k with
      | zero =>
        intro v x s8 hi9 hx hs
        subst hx
        subst hs
        obtain rfl : v = 5 := by omega
        refine rx_iload (i := 9) X dX8_who_83 rfl ?_
        refine rx_iload_n (i := 2) X dX8_who_85 rfl rfl ?_
        refine rx_if_ne_f X dX8_who_86 (by decide) ?_
        refine rx_iconst (v := 5) X dX8_who_89 (by decide) ?_
        refine rx_goto X dX8_who_90 ?_
        refine rx_icmp_gt_t X dX8_who_105 (by decide) ?_
        refine rx_aload_n (i := 0) X dX8_who_153 rfl rfl ?_
        refine rx_iload (i := 8) X dX8_who_154 rfl ?_
        refine rx_callVi (ci := 8) X vsX8_well mlX8_78 (kX8_well hO) (km_0 hO) rfl rfl (by decide) (by decide) dX8_who_156 rfl (Nat.le_of_ble_eq_true rfl) (fun r156 t156 h156 => ?_)
        obtain ⟨rfl, rfl⟩ := h156
        refine rx_iret X dX8_who_159 ?_
        rw [sp_who, if_neg (fun z => z.elim (fun z => z h2) (fun z => z (by decide))), if_pos hli, rx_Nn (j := a) (by omega), rx_Nn (j := r) (by omega), rx_Nn (j := i0) (by omega), rx_Nn (j := n) (by omega), as_self]
        simp
      | succ k ih =>
        intro v x s8 hi9 hx hs
        subst hx
        subst hs
        refine rx_iload (i := 9) X dX8_who_83 rfl ?_
        refine rx_iload_n (i := 2) X dX8_who_85 rfl rfl ?_
        refine rx_if_ne_f X dX8_who_86 (by decide) ?_
        refine rx_iconst (v := 5) X dX8_who_89 (by decide) ?_
        refine rx_goto X dX8_who_90 ?_
        refine rx_icmp_gt_f X dX8_who_105 (nI_nlt (a := 5) (b := v + 1) (by omega) (by omega)) ?_
        refine rx_aload_n (i := 0) X dX8_who_108 rfl rfl ?_
        refine rx_getR (ci := 8) (i := 5) X (km_0 hO) rfl rfl (by decide) inX8 flX8_19 dX8_who_109 ?_
        refine rx_iload (i := 7) X dX8_who_112 rfl ?_
        refine rx_iload (i := 9) X dX8_who_114 rfl ?_
        refine rx_iastN (j := 10 + a) X (km_4 hO) hO.2.2.1 rfl (by omega) (by decide) dX8_who_116 ?_
        refine rx_sto (as_up _ _ _ _) ?_
        refine rx_iload (i := 8) X dX8_who_117 rfl ?_
        refine rx_aload_n (i := 0) X dX8_who_119 rfl rfl ?_
        refine rx_iload_n (i := 1) X dX8_who_120 rfl rfl ?_
        refine rx_bipush (v := 40) X dX8_who_121 (by decide) ?_
        refine rx_iload_n (i := 3) X dX8_who_123 rfl rfl ?_
        refine rx_imul X dX8_who_124 ?_
        refine rx_iload (i := 4) X dX8_who_125 rfl ?_
        refine rx_iadd X dX8_who_127 ?_
        refine rx_iload (i := 5) X dX8_who_128 rfl ?_
        have hvv := w_V_upd10 hv ha (v := nI (v + 1)) (by rw [nI_toInt (by omega)]; omega)
        rw [show (40 : Int32) * nI r + nI i0 = nI (40 * r + i0) by rw [show (40 : Int32) = nI 40 from rfl, pk_mul, nI_add]]
        refine rx_callVi (ci := 8) X vsX8_isSo mlX8_225 (kA_so hO ha (by omega) (by omega) (K := 999) (by omega) hvv (fun j hj => upd_n (by omega))) (km_0 hO) rfl rfl (by decide) (by decide) dX8_who_130 rfl (Nat.le_of_ble_eq_true rfl) (fun r130 t130 h130 => ?_)
        obtain ⟨rfl, ⟨rfl, h130⟩ | ⟨rfl, h130⟩⟩ := h130
        all_goals rw [← as_self]
        · refine rx_if_eq_f X dX8_who_133 (by decide) ?_
          refine rx_iconst (v := 1) X dX8_who_136 (by decide) ?_
          refine rx_iload (i := 9) X dX8_who_137 rfl ?_
          refine rx_ishl X dX8_who_139 ?_
          refine rx_goto X dX8_who_140 ?_
          refine rx_ior X dX8_who_144 ?_
          refine rx_istore (i := 8) (lo2 := [(0, .ref _), (1, .int _), (2, .int _), (3, .int _), (4, .int _), (5, .int _), (6, .int _), (7, .int _), (8, .int _), (9, .int _)]) X dX8_who_145 (by decide) rfl ?_
          refine rx_iinc (i := 9) (lo2 := [(0, .ref _), (1, .int _), (2, .int _), (3, .int _), (4, .int _), (5, .int _), (6, .int _), (7, .int _), (8, .int _), (9, .int _)]) X dX8_who_147 rfl (rx_inc1 _) (by decide) rfl ?_
          refine rx_goto X dX8_who_150 ?_
          refine ih (v + 1) _ _ (by omega) (nI_1 (v + 1)) ?_
          first | rw [w_who, if_pos h130] | rw [w_who, if_neg h130] | fail "leaf"
        · refine rx_if_eq_t X dX8_who_133 (by decide) ?_
          refine rx_iconst (v := 0) X dX8_who_143 (by decide) ?_
          refine rx_ior X dX8_who_144 ?_
          refine rx_istore (i := 8) (lo2 := [(0, .ref _), (1, .int _), (2, .int _), (3, .int _), (4, .int _), (5, .int _), (6, .int _), (7, .int _), (8, .int _), (9, .int _)]) X dX8_who_145 (by decide) rfl ?_
          refine rx_iinc (i := 9) (lo2 := [(0, .ref _), (1, .int _), (2, .int _), (3, .int _), (4, .int _), (5, .int _), (6, .int _), (7, .int _), (8, .int _), (9, .int _)]) X dX8_who_147 rfl (rx_inc1 _) (by decide) rfl ?_
          refine rx_goto X dX8_who_150 ?_
          refine ih (v + 1) _ _ (by omega) (nI_1 (v + 1)) ?_
          first | rw [w_who, if_pos h130] | rw [w_who, if_neg h130] | fail "leaf"
    exact loop 5 0 _ _ (by omega) rfl rfl
  have go1 : ∀ (a r i0 n : Nat), a < 6 → r < 8 → i0 ≤ 40 → n ≤ 12 → 1 ≤ n → 40 * r + i0 + n ≤ 320 → mo_ant σ (nI a) → (sp_li σ (nI r) (nI i0) (nI n)).1 = 0 → w_V 999 (σ.1 4) → rx_J O 10 p l e (rx_lv 7) s m args below meth c (rx_QI O below args s (fun q τ => sp_who σ (nI a) 1 (nI r) (nI i0) (nI n) = (q, τ))) 83 [(0, .ref 0), (1, .int (nI a)), (2, .int 1), (3, .int (nI r)), (4, .int (nI i0)), (5, .int (nI n)), (6, .int 0), (7, .int (nI (16 + a))), (8, .int 0), (9, .int 1)] [] (as_st σ (σ.1 4)) := by
    intro a r i0 n ha hr hi0 hn hn1 hat h2 hli hv
    have loop : ∀ (k : Nat) (v : Nat) (x s8 : Int32), (v + k = 20) → (x = nI (v + 1)) → (s8 = w_who (σ.1 0 6) (16 + a) a (σ.1 3) (40 * r + i0) n (σ.1 4) v) → rx_J O 10 p l e (rx_lv 7) s m args below meth c (rx_QI O below args s (fun q τ => sp_who σ (nI a) 1 (nI r) (nI i0) (nI n) = (q, τ))) 83 [(0, .ref 0), (1, .int (nI a)), (2, .int 1), (3, .int (nI r)), (4, .int (nI i0)), (5, .int (nI n)), (6, .int 0), (7, .int (nI (16 + a))), (8, .int s8), (9, .int x)] [] (as_st σ (σ.1 4)) := by
      intro k
      induction k with
      | zero =>
        intro v x s8 hi9 hx hs
        subst hx
        subst hs
        obtain rfl : v = 20 := by omega
        refine rx_iload (i := 9) X dX8_who_83 rfl ?_
        refine rx_iload_n (i := 2) X dX8_who_85 rfl rfl ?_
        refine rx_if_ne_t X dX8_who_86 (by decide) ?_
        refine rx_iload_n (i := 2) X dX8_who_93 rfl rfl ?_
        refine rx_iconst (v := 1) X dX8_who_94 (by decide) ?_
        refine rx_icmp_ne_f X dX8_who_95 (by decide) ?_
        refine rx_bipush (v := 20) X dX8_who_98 (by decide) ?_
        refine rx_goto X dX8_who_100 ?_
        refine rx_icmp_gt_t X dX8_who_105 (by decide) ?_
        refine rx_aload_n (i := 0) X dX8_who_153 rfl rfl ?_
        refine rx_iload (i := 8) X dX8_who_154 rfl ?_
        refine rx_callVi (ci := 8) X vsX8_well mlX8_78 (kX8_well hO) (km_0 hO) rfl rfl (by decide) (by decide) dX8_who_156 rfl (Nat.le_of_ble_eq_true rfl) (fun r156 t156 h156 => ?_)
        obtain ⟨rfl, rfl⟩ := h156
        refine rx_iret X dX8_who_159 ?_
        rw [sp_who, if_neg (fun z => z.elim (fun z => z h2) (fun z => z (by decide))), if_pos hli, rx_Nn (j := a) (by omega), rx_Nn (j := r) (by omega), rx_Nn (j := i0) (by omega), rx_Nn (j := n) (by omega), as_self]
        simp
      | succ k ih =>
        intro v x s8 hi9 hx hs
        subst hx
        subst hs
        refine rx_iload (i := 9) X dX8_who_83 rfl ?_
        refine rx_iload_n (i := 2) X dX8_who_85 rfl rfl ?_
        refine rx_if_ne_t X dX8_who_86 (by decide) ?_
        refine rx_iload_n (i := 2) X dX8_who_93 rfl rfl ?_
        refine rx_iconst (v := 1) X dX8_who_94 (by decide) ?_
        refine rx_icmp_ne_f X dX8_who_95 (by decide) ?_
        refine rx_bipush (v := 20) X dX8_who_98 (by decide) ?_
        refine rx_goto X dX8_who_100 ?_
        refine rx_icmp_gt_f X dX8_who_105 (nI_nlt (a := 20) (b := v + 1) (by omega) (by omega)) ?_
        refine rx_aload_n (i := 0) X dX8_who_108 rfl rfl ?_
        refine rx_getR (ci := 8) (i := 5) X (km_0 hO) rfl rfl (by decide) inX8 flX8_19 dX8_who_109 ?_
        refine rx_iload (i := 7) X dX8_who_112 rfl ?_
        refine rx_iload (i := 9) X dX8_who_114 rfl ?_
        refine rx_iastN (j := 16 + a) X (km_4 hO) hO.2.2.1 rfl (by omega) (by decide) dX8_who_116 ?_
        refine rx_sto (as_up _ _ _ _) ?_
        refine rx_iload (i := 8) X dX8_who_117 rfl ?_
        refine rx_aload_n (i := 0) X dX8_who_119 rfl rfl ?_
        refine rx_iload_n (i := 1) X dX8_who_120 rfl rfl ?_
        refine rx_bipush (v := 40) X dX8_who_121 (by decide) ?_
        refine rx_iload_n (i := 3) X dX8_who_123 rfl rfl ?_
        refine rx_imul X dX8_who_124 ?_
        refine rx_iload (i := 4) X dX8_who_125 rfl ?_
        refine rx_iadd X dX8_who_127 ?_
        refine rx_iload (i := 5) X dX8_who_128 rfl ?_
        have hvv := w_V_upd16 hv ha (v := nI (v + 1)) (by rw [nI_toInt (by omega)]; omega)
        rw [show (40 : Int32) * nI r + nI i0 = nI (40 * r + i0) by rw [show (40 : Int32) = nI 40 from rfl, pk_mul, nI_add]]
        refine rx_callVi (ci := 8) X vsX8_isSo mlX8_225 (kA_so hO ha (by omega) (by omega) (K := 999) (by omega) hvv (fun j hj => upd_n (by omega))) (km_0 hO) rfl rfl (by decide) (by decide) dX8_who_130 rfl (Nat.le_of_ble_eq_true rfl) (fun r130 t130 h130 => ?_)
        obtain ⟨rfl, ⟨rfl, h130⟩ | ⟨rfl, h130⟩⟩ := h130
        all_goals rw [← as_self]
        · refine rx_if_eq_f X dX8_who_133 (by decide) ?_
          refine rx_iconst (v := 1) X dX8_who_136 (by decide) ?_
          refine rx_iload (i := 9) X dX8_who_137 rfl ?_
          refine rx_ishl X dX8_who_139 ?_
          refine rx_goto X dX8_who_140 ?_
          refine rx_ior X dX8_who_144 ?_
          refine rx_istore (i := 8) (lo2 := [(0, .ref _), (1, .int _), (2, .int _), (3, .int _), (4, .int _), (5, .int _), (6, .int _), (7, .int _), (8, .int _), (9, .int _)]) X dX8_who_145 (by decide) rfl ?_
          refine rx_iinc (i := 9) (lo2 := [(0, .ref _), (1, .int _), (2, .int _), (3, .int _), (4, .int _), (5, .int _), (6, .int _), (7, .int _), (8, .int _), (9, .int _)]) X dX8_who_147 rfl (rx_inc1 _) (by decide) rfl ?_
          refine rx_goto X dX8_who_150 ?_
          refine ih (v + 1) _ _ (by omega) (nI_1 (v + 1)) ?_
          first | rw [w_who, if_pos h130] | rw [w_who, if_neg h130] | fail "leaf"
        · refine rx_if_eq_t X dX8_who_133 (by decide) ?_
          refine rx_iconst (v := 0) X dX8_who_143 (by decide) ?_
          refine rx_ior X dX8_who_144 ?_
          refine rx_istore (i := 8) (lo2 := [(0, .ref _), (1, .int _), (2, .int _), (3, .int _), (4, .int _), (5, .int _), (6, .int _), (7, .int _), (8, .int _), (9, .int _)]) X dX8_who_145 (by decide) rfl ?_
          refine rx_iinc (i := 9) (lo2 := [(0, .ref _), (1, .int _), (2, .int _), (3, .int _), (4, .int _), (5, .int _), (6, .int _), (7, .int _), (8, .int _), (9, .int _)]) X dX8_who_147 rfl (rx_inc1 _) (by decide) rfl ?_
          refine rx_goto X dX8_who_150 ?_
          refine ih (v + 1) _ _ (by omega) (nI_1 (v + 1)) ?_
          first | rw [w_who, if_pos h130] | rw [w_who, if_neg h130] | fail "leaf"
    exact loop 20 0 _ _ (by omega) rfl rfl
  have go2 : ∀ (a r i0 n : Nat), a < 6 → r < 8 → i0 ≤ 40 → n ≤ 12 → 1 ≤ n → 40 * r + i0 + n ≤ 320 → mo_ant σ (nI a) → (sp_li σ (nI r) (nI i0) (nI n)).1 = 0 → w_V 999 (σ.1 4) → rx_J O 10 p l e (rx_lv 7) s m args below meth c (rx_QI O below args s (fun q τ => sp_who σ (nI a) 2 (nI r) (nI i0) (nI n) = (q, τ))) 83 [(0, .ref 0), (1, .int (nI a)), (2, .int 2), (3, .int (nI r)), (4, .int (nI i0)), (5, .int (nI n)), (6, .int 0), (7, .int (nI (28 + a))), (8, .int 0), (9, .int 1)] [] (as_st σ (σ.1 4)) := by
    intro a r i0 n ha hr hi0 hn hn1 hat h2 hli hv
    have loop : ∀ (k : Nat) (v : Nat) (x s8 : Int32), (v + k = 9) → (x = nI (v + 1)) → (s8 = w_who (σ.1 0 6) (28 + a) a (σ.1 3) (40 * r + i0) n (σ.1 4) v) → rx_J O 10 p l e (rx_lv 7) s m args below meth c (rx_QI O below args s (fun q τ => sp_who σ (nI a) 2 (nI r) (nI i0) (nI n) = (q, τ))) 83 [(0, .ref 0), (1, .int (nI a)), (2, .int 2), (3, .int (nI r)), (4, .int (nI i0)), (5, .int (nI n)), (6, .int 0), (7, .int (nI (28 + a))), (8, .int s8), (9, .int x)] [] (as_st σ (σ.1 4)) := by
      intro k
      induction k with
      | zero =>
        intro v x s8 hi9 hx hs
        subst hx
        subst hs
        obtain rfl : v = 9 := by omega
        refine rx_iload (i := 9) X dX8_who_83 rfl ?_
        refine rx_iload_n (i := 2) X dX8_who_85 rfl rfl ?_
        refine rx_if_ne_t X dX8_who_86 (by decide) ?_
        refine rx_iload_n (i := 2) X dX8_who_93 rfl rfl ?_
        refine rx_iconst (v := 1) X dX8_who_94 (by decide) ?_
        refine rx_icmp_ne_t X dX8_who_95 (by decide) ?_
        refine rx_bipush (v := 9) X dX8_who_103 (by decide) ?_
        refine rx_icmp_gt_t X dX8_who_105 (by decide) ?_
        refine rx_aload_n (i := 0) X dX8_who_153 rfl rfl ?_
        refine rx_iload (i := 8) X dX8_who_154 rfl ?_
        refine rx_callVi (ci := 8) X vsX8_well mlX8_78 (kX8_well hO) (km_0 hO) rfl rfl (by decide) (by decide) dX8_who_156 rfl (Nat.le_of_ble_eq_true rfl) (fun r156 t156 h156 => ?_)
        obtain ⟨rfl, rfl⟩ := h156
        refine rx_iret X dX8_who_159 ?_
        rw [sp_who, if_neg (fun z => z.elim (fun z => z h2) (fun z => z (by decide))), if_pos hli, rx_Nn (j := a) (by omega), rx_Nn (j := r) (by omega), rx_Nn (j := i0) (by omega), rx_Nn (j := n) (by omega), as_self]
        simp
      | succ k ih =>
        intro v x s8 hi9 hx hs
        subst hx
        subst hs
        refine rx_iload (i := 9) X dX8_who_83 rfl ?_
        refine rx_iload_n (i := 2) X dX8_who_85 rfl rfl ?_
        refine rx_if_ne_t X dX8_who_86 (by decide) ?_
        refine rx_iload_n (i := 2) X dX8_who_93 rfl rfl ?_
        refine rx_iconst (v := 1) X dX8_who_94 (by decide) ?_
        refine rx_icmp_ne_t X dX8_who_95 (by decide) ?_
        refine rx_bipush (v := 9) X dX8_who_103 (by decide) ?_
        refine rx_icmp_gt_f X dX8_who_105 (nI_nlt (a := 9) (b := v + 1) (by omega) (by omega)) ?_
        refine rx_aload_n (i := 0) X dX8_who_108 rfl rfl ?_
        refine rx_getR (ci := 8) (i := 5) X (km_0 hO) rfl rfl (by decide) inX8 flX8_19 dX8_who_109 ?_
        refine rx_iload (i := 7) X dX8_who_112 rfl ?_
        refine rx_iload (i := 9) X dX8_who_114 rfl ?_
        refine rx_iastN (j := 28 + a) X (km_4 hO) hO.2.2.1 rfl (by omega) (by decide) dX8_who_116 ?_
        refine rx_sto (as_up _ _ _ _) ?_
        refine rx_iload (i := 8) X dX8_who_117 rfl ?_
        refine rx_aload_n (i := 0) X dX8_who_119 rfl rfl ?_
        refine rx_iload_n (i := 1) X dX8_who_120 rfl rfl ?_
        refine rx_bipush (v := 40) X dX8_who_121 (by decide) ?_
        refine rx_iload_n (i := 3) X dX8_who_123 rfl rfl ?_
        refine rx_imul X dX8_who_124 ?_
        refine rx_iload (i := 4) X dX8_who_125 rfl ?_
        refine rx_iadd X dX8_who_127 ?_
        refine rx_iload (i := 5) X dX8_who_128 rfl ?_
        have hvv := w_V_upd28 hv ha (v := nI (v + 1)) (by rw [nI_toInt (by omega)]; omega)
        rw [show (40 : Int32) * nI r + nI i0 = nI (40 * r + i0) by rw [show (40 : Int32) = nI 40 from rfl, pk_mul, nI_add]]
        refine rx_callVi (ci := 8) X vsX8_isSo mlX8_225 (kA_so hO ha (by omega) (by omega) (K := 999) (by omega) hvv (fun j hj => upd_n (by omega))) (km_0 hO) rfl rfl (by decide) (by decide) dX8_who_130 rfl (Nat.le_of_ble_eq_true rfl) (fun r130 t130 h130 => ?_)
        obtain ⟨rfl, ⟨rfl, h130⟩ | ⟨rfl, h130⟩⟩ := h130
        all_goals rw [← as_self]
        · refine rx_if_eq_f X dX8_who_133 (by decide) ?_
          refine rx_iconst (v := 1) X dX8_who_136 (by decide) ?_
          refine rx_iload (i := 9) X dX8_who_137 rfl ?_
          refine rx_ishl X dX8_who_139 ?_
          refine rx_goto X dX8_who_140 ?_
          refine rx_ior X dX8_who_144 ?_
          refine rx_istore (i := 8) (lo2 := [(0, .ref _), (1, .int _), (2, .int _), (3, .int _), (4, .int _), (5, .int _), (6, .int _), (7, .int _), (8, .int _), (9, .int _)]) X dX8_who_145 (by decide) rfl ?_
          refine rx_iinc (i := 9) (lo2 := [(0, .ref _), (1, .int _), (2, .int _), (3, .int _), (4, .int _), (5, .int _), (6, .int _), (7, .int _), (8, .int _), (9, .int _)]) X dX8_who_147 rfl (rx_inc1 _) (by decide) rfl ?_
          refine rx_goto X dX8_who_150 ?_
          refine ih (v + 1) _ _ (by omega) (nI_1 (v + 1)) ?_
          first | rw [w_who, if_pos h130] | rw [w_who, if_neg h130] | fail "leaf"
        · refine rx_if_eq_t X dX8_who_133 (by decide) ?_
          refine rx_iconst (v := 0) X dX8_who_143 (by decide) ?_
          refine rx_ior X dX8_who_144 ?_
          refine rx_istore (i := 8) (lo2 := [(0, .ref _), (1, .int _), (2, .int _), (3, .int _), (4, .int _), (5, .int _), (6, .int _), (7, .int _), (8, .int _), (9, .int _)]) X dX8_who_145 (by decide) rfl ?_
          refine rx_iinc (i := 9) (lo2 := [(0, .ref _), (1, .int _), (2, .int _), (3, .int _), (4, .int _), (5, .int _), (6, .int _), (7, .int _), (8, .int _), (9, .int _)]) X dX8_who_147 rfl (rx_inc1 _) (by decide) rfl ?_
          refine rx_goto X dX8_who_150 ?_
          refine ih (v + 1) _ _ (by omega) (nI_1 (v + 1)) ?_
          first | rw [w_who, if_pos h130] | rw [w_who, if_neg h130] | fail "leaf"
    exact loop 9 0 _ _ (by omega) rfl rfl
  refine rx_aload_n (i := 0) X dX8_who_0 rfl rfl ?_
  refine rx_iload_n (i := 1) X dX8_who_1 rfl rfl ?_
  refine rx_callVi (ci := 8) X vsX8_isAnt mlX8_184 (kX8_isAnt hO hw.n3.1) (km_0 hO) rfl rfl (by decide) (by decide) dX8_who_2 rfl (Nat.le_of_ble_eq_true rfl) (fun r2 t2 h2 => ?_)
  obtain ⟨rfl, ⟨rfl, h2⟩ | ⟨rfl, h2⟩⟩ := h2
  · obtain ⟨a, ha, rfl⟩ := rx_sub h2.1 (n := 6) (by have := hw.n3; omega)
    have hv := hw.V (by omega)
    refine rx_if_eq_f X dX8_who_5 (by decide) ?_
    refine rx_iload_n (i := 2) X dX8_who_8 rfl rfl ?_
    refine rx_i2l X dX8_who_9 ?_
    refine rx_lconst (v := 0) X dX8_who_10 (by decide) ?_
    refine rx_ldc2 X dX8_who_11 kcX8_71 ?_
    refine rx_callTi X vsX8_in mlX8_63 (kX8_inI hO (A := 0) (B := 2) rfl rfl) rfl (by decide) (by decide) dX8_who_14 rfl (Nat.le_of_ble_eq_true rfl) (fun r14 t14 h14 => ?_)
    obtain ⟨rfl, ⟨rfl, h14⟩ | ⟨rfl, h14⟩⟩ := h14
    · refine rx_if_ne_t X dX8_who_17 (by decide) ?_
      refine rx_aload_n (i := 0) X dX8_who_25 rfl rfl ?_
      refine rx_iload_n (i := 3) X dX8_who_26 rfl rfl ?_
      refine rx_iload (i := 4) X dX8_who_27 rfl ?_
      refine rx_iload (i := 5) X dX8_who_29 rfl ?_
      refine rx_callVi (ci := 8) X vsX8_lacksItems mlX8_221 (kX8_lacksItems hO hs) (km_0 hO) rfl rfl (by decide) (by decide) dX8_who_31 rfl (Nat.le_of_ble_eq_true rfl) (fun r31 t31 h31 => ?_)
      obtain ⟨h31, hq | hq⟩ := h31
      · subst hq
        have hli : (sp_li σ r i n).1 = 0 := by rw [h31]
        obtain ⟨g1, g2, g3, g4⟩ := sp_li_0 hli
        have gs := hs (rx_N r) (rx_Nlt g1.1 (by omega))
        obtain ⟨r, hr, rfl⟩ := rx_sub (x := r) (n := 8) g1.1 (by omega)
        obtain ⟨i, hi, rfl⟩ := rx_sub (x := i) (n := 41) g3 (by omega)
        obtain ⟨n, hn, rfl⟩ := rx_sub (x := n) (n := 13) (by omega) (by omega)
        have ei := nI_toInt (n := i) (by omega)
        have en := nI_toInt (n := n) (by omega)
        obtain rfl : σ = t31 := by
          have := congrArg Prod.snd h31
          rw [sp_li, if_neg (by omega), if_neg (by omega), if_neg (by omega)] at this
          exact this
        obtain rfl | rfl | rfl := sw3 h14
        · refine rx_istore (i := 6) (lo2 := [(0, .ref _), (1, .int _), (2, .int _), (3, .int _), (4, .int _), (5, .int _), (6, .int _)]) X dX8_who_34 (by decide) rfl ?_
          refine rx_iload (i := 6) X dX8_who_36 rfl ?_
          refine rx_if_ge_t X dX8_who_38 (by decide) ?_
          refine rx_aload_n (i := 0) X dX8_who_44 rfl rfl ?_
          refine rx_callVv (ci := 8) X vsX8_putAside mlX8_190 (kX8_putAside hO) (km_0 hO) rfl rfl (by decide) (by decide) dX8_who_45 rfl (Nat.le_of_ble_eq_true rfl) (fun t45 h45 => ?_)
          subst h45
          refine rx_iload_n (i := 2) X dX8_who_48 rfl rfl ?_
          refine rx_if_ne_f X dX8_who_49 (by decide) ?_
          refine rx_bipush (v := 10) X dX8_who_52 (by decide) ?_
          refine rx_iload_n (i := 1) X dX8_who_54 rfl rfl ?_
          refine rx_iadd X dX8_who_55 ?_
          refine rx_goto X dX8_who_56 ?_
          refine rx_istore (i := 7) (lo2 := [(0, .ref _), (1, .int _), (2, .int _), (3, .int _), (4, .int _), (5, .int _), (6, .int _), (7, .int _)]) X dX8_who_75 (by decide) rfl ?_
          refine rx_iconst (v := 0) X dX8_who_77 (by decide) ?_
          refine rx_istore (i := 8) (lo2 := [(0, .ref _), (1, .int _), (2, .int _), (3, .int _), (4, .int _), (5, .int _), (6, .int _), (7, .int _), (8, .int _)]) X dX8_who_78 (by decide) rfl ?_
          refine rx_iconst (v := 1) X dX8_who_80 (by decide) ?_
          refine rx_istore (i := 9) (lo2 := [(0, .ref _), (1, .int _), (2, .int _), (3, .int _), (4, .int _), (5, .int _), (6, .int _), (7, .int _), (8, .int _), (9, .int _)]) X dX8_who_81 (by decide) rfl ?_
          rw [show (10 : Int32) + nI a = nI (10 + a) from nI_add 10 a]
          exact go0 a r i n ha hr (by omega) (by omega) (by omega) (by have := rx_Nn (j := r) (by omega); rw [this] at gs g4; omega) h2 hli hv
        · refine rx_istore (i := 6) (lo2 := [(0, .ref _), (1, .int _), (2, .int _), (3, .int _), (4, .int _), (5, .int _), (6, .int _)]) X dX8_who_34 (by decide) rfl ?_
          refine rx_iload (i := 6) X dX8_who_36 rfl ?_
          refine rx_if_ge_t X dX8_who_38 (by decide) ?_
          refine rx_aload_n (i := 0) X dX8_who_44 rfl rfl ?_
          refine rx_callVv (ci := 8) X vsX8_putAside mlX8_190 (kX8_putAside hO) (km_0 hO) rfl rfl (by decide) (by decide) dX8_who_45 rfl (Nat.le_of_ble_eq_true rfl) (fun t45 h45 => ?_)
          subst h45
          refine rx_iload_n (i := 2) X dX8_who_48 rfl rfl ?_
          refine rx_if_ne_t X dX8_who_49 (by decide) ?_
          refine rx_iload_n (i := 2) X dX8_who_59 rfl rfl ?_
          refine rx_iconst (v := 1) X dX8_who_60 (by decide) ?_
          refine rx_icmp_ne_f X dX8_who_61 (by decide) ?_
          refine rx_bipush (v := 16) X dX8_who_64 (by decide) ?_
          refine rx_iload_n (i := 1) X dX8_who_66 rfl rfl ?_
          refine rx_iadd X dX8_who_67 ?_
          refine rx_goto X dX8_who_68 ?_
          refine rx_istore (i := 7) (lo2 := [(0, .ref _), (1, .int _), (2, .int _), (3, .int _), (4, .int _), (5, .int _), (6, .int _), (7, .int _)]) X dX8_who_75 (by decide) rfl ?_
          refine rx_iconst (v := 0) X dX8_who_77 (by decide) ?_
          refine rx_istore (i := 8) (lo2 := [(0, .ref _), (1, .int _), (2, .int _), (3, .int _), (4, .int _), (5, .int _), (6, .int _), (7, .int _), (8, .int _)]) X dX8_who_78 (by decide) rfl ?_
          refine rx_iconst (v := 1) X dX8_who_80 (by decide) ?_
          refine rx_istore (i := 9) (lo2 := [(0, .ref _), (1, .int _), (2, .int _), (3, .int _), (4, .int _), (5, .int _), (6, .int _), (7, .int _), (8, .int _), (9, .int _)]) X dX8_who_81 (by decide) rfl ?_
          rw [show (16 : Int32) + nI a = nI (16 + a) from nI_add 16 a]
          exact go1 a r i n ha hr (by omega) (by omega) (by omega) (by have := rx_Nn (j := r) (by omega); rw [this] at gs g4; omega) h2 hli hv
        · refine rx_istore (i := 6) (lo2 := [(0, .ref _), (1, .int _), (2, .int _), (3, .int _), (4, .int _), (5, .int _), (6, .int _)]) X dX8_who_34 (by decide) rfl ?_
          refine rx_iload (i := 6) X dX8_who_36 rfl ?_
          refine rx_if_ge_t X dX8_who_38 (by decide) ?_
          refine rx_aload_n (i := 0) X dX8_who_44 rfl rfl ?_
          refine rx_callVv (ci := 8) X vsX8_putAside mlX8_190 (kX8_putAside hO) (km_0 hO) rfl rfl (by decide) (by decide) dX8_who_45 rfl (Nat.le_of_ble_eq_true rfl) (fun t45 h45 => ?_)
          subst h45
          refine rx_iload_n (i := 2) X dX8_who_48 rfl rfl ?_
          refine rx_if_ne_t X dX8_who_49 (by decide) ?_
          refine rx_iload_n (i := 2) X dX8_who_59 rfl rfl ?_
          refine rx_iconst (v := 1) X dX8_who_60 (by decide) ?_
          refine rx_icmp_ne_t X dX8_who_61 (by decide) ?_
          refine rx_bipush (v := 28) X dX8_who_71 (by decide) ?_
          refine rx_iload_n (i := 1) X dX8_who_73 rfl rfl ?_
          refine rx_iadd X dX8_who_74 ?_
          refine rx_istore (i := 7) (lo2 := [(0, .ref _), (1, .int _), (2, .int _), (3, .int _), (4, .int _), (5, .int _), (6, .int _), (7, .int _)]) X dX8_who_75 (by decide) rfl ?_
          refine rx_iconst (v := 0) X dX8_who_77 (by decide) ?_
          refine rx_istore (i := 8) (lo2 := [(0, .ref _), (1, .int _), (2, .int _), (3, .int _), (4, .int _), (5, .int _), (6, .int _), (7, .int _), (8, .int _)]) X dX8_who_78 (by decide) rfl ?_
          refine rx_iconst (v := 1) X dX8_who_80 (by decide) ?_
          refine rx_istore (i := 9) (lo2 := [(0, .ref _), (1, .int _), (2, .int _), (3, .int _), (4, .int _), (5, .int _), (6, .int _), (7, .int _), (8, .int _), (9, .int _)]) X dX8_who_81 (by decide) rfl ?_
          rw [show (28 : Int32) + nI a = nI (28 + a) from nI_add 28 a]
          exact go2 a r i n ha hr (by omega) (by omega) (by omega) (by have := rx_Nn (j := r) (by omega); rw [this] at gs g4; omega) h2 hli hv
      · have hne : ¬ (sp_li σ r i n).1 = 0 := by rw [h31]; intro z; rw [show r31 = 0 from z] at hq; exact absurd hq (by decide)
        refine rx_istore (i := 6) (lo2 := [(0, .ref _), (1, .int _), (2, .int _), (3, .int _), (4, .int _), (5, .int _), (6, .int _)]) X dX8_who_34 (by decide) rfl ?_
        refine rx_iload (i := 6) X dX8_who_36 rfl ?_
        refine rx_if_ge_f X dX8_who_38 (Int32.not_le.mpr hq) ?_
        refine rx_iload (i := 6) X dX8_who_41 rfl ?_
        refine rx_iret X dX8_who_43 ?_
        first | rw [sp_who, if_pos (by omega)] | (rw [sp_who, if_neg (by omega), if_neg hne]; exact h31) | fail "leaf"
    · refine rx_if_ne_f X dX8_who_17 (by decide) ?_
      refine rx_ldc X dX8_who_20 kcX8_73 ?_
      refine rx_goto X dX8_who_22 ?_
      refine rx_istore (i := 6) (lo2 := [(0, .ref _), (1, .int _), (2, .int _), (3, .int _), (4, .int _), (5, .int _), (6, .int _)]) X dX8_who_34 (by decide) rfl ?_
      refine rx_iload (i := 6) X dX8_who_36 rfl ?_
      refine rx_if_ge_f X dX8_who_38 (by decide) ?_
      refine rx_iload (i := 6) X dX8_who_41 rfl ?_
      refine rx_iret X dX8_who_43 ?_
      first | rw [sp_who, if_pos (by omega)] | (rw [sp_who, if_neg (by omega), if_neg hne]; exact h31) | fail "leaf"
  · refine rx_if_eq_t X dX8_who_5 (by decide) ?_
    refine rx_ldc X dX8_who_20 kcX8_73 ?_
    refine rx_goto X dX8_who_22 ?_
    refine rx_istore (i := 6) (lo2 := [(0, .ref _), (1, .int _), (2, .int _), (3, .int _), (4, .int _), (5, .int _), (6, .int _)]) X dX8_who_34 (by decide) rfl ?_
    refine rx_iload (i := 6) X dX8_who_36 rfl ?_
    refine rx_if_ge_f X dX8_who_38 (by decide) ?_
    refine rx_iload (i := 6) X dX8_who_41 rfl ?_
    refine rx_iret X dX8_who_43 ?_
    first | rw [sp_who, if_pos (by omega)] | (rw [sp_who, if_neg (by omega), if_neg hne]; exact h31) | fail "leaf"
set_option maxHeartbeats 4000000 in
set_option maxRecDepth 100000 in
theorem kX8_which {l : Launch} {O : rx_O} (hO : mo_O O) {σ : rx_S} {r i n : Int32} (hw : mo_W σ) (hs : mo_sz σ) : rx_MI l O yX8_which cX8_which 7 (some .int) 7 [.ref 0, .int r, .int i, .int n] σ (fun q τ => sp_which σ r i n = (q, τ)) := by
  refine rx_Met_of (own := RX8) rfl hO.2.1 vsX8_which.2.2.2.2.2 (Nat.le_of_ble_eq_true rfl) rfl (fun p e s m args below meth c X => ?_)
  have go : ∀ (r i0 n : Nat), r < 8 → i0 ≤ 40 → n ≤ 12 → 1 ≤ n → 40 * r + i0 + n ≤ 320 → ¬ σ.1 0 4 = 0 → (sp_li σ (nI r) (nI i0) (nI n)).1 = 0 → w_V 999 (σ.1 4) → rx_J O 7 p l e (rx_lv 7) s m args below meth c (rx_QI O below args s (fun q τ => sp_which σ (nI r) (nI i0) (nI n) = (q, τ))) 37 [(0, .ref 0), (1, .int (nI r)), (2, .int (nI i0)), (3, .int (nI n)), (4, .int 0), (5, .int 0), (6, .int 0)] [] (as_st σ (σ.1 4)) := by
    intro r i0 n hr hi0 hn hn1 hat h4 hli hv
    have n3 := rx_Ni (x := σ.1 4 3) (by have := hv.2.2.2.1; omega)
    have i3 := hv.2.2.2.1
    have loop : ∀ (k : Nat) (v : Nat) (x s8 : Int32), (v + k = rx_N (σ.1 4 3)) → (x = nI v) → (s8 = w_whi (σ.1 0 6) (σ.1 3) (40 * r + i0) n (σ.1 4) v) → rx_J O 7 p l e (rx_lv 7) s m args below meth c (rx_QI O below args s (fun q τ => sp_which σ (nI r) (nI i0) (nI n) = (q, τ))) 37 [(0, .ref 0), (1, .int (nI r)), (2, .int (nI i0)), (3, .int (nI n)), (4, .int 0), (5, .int s8), (6, .int x)] [] (as_st σ (σ.1 4)) := by
      intro k
      induction k with
      | zero =>
        intro v x s8 hi9 hx hs8
        subst hx
        subst hs8
        obtain rfl : v = rx_N (σ.1 4 3) := by omega
        refine rx_iload (i := 6) X dX8_which_37 rfl ?_
        refine rx_aload_n (i := 0) X dX8_which_39 rfl rfl ?_
        refine rx_getR (ci := 8) (i := 5) X (km_0 hO) rfl rfl (by decide) inX8 flX8_19 dX8_which_40 ?_
        refine rx_iconst (v := 3) X dX8_which_43 (by decide) ?_
        refine rx_ialdN (j := 3) X (km_4 hO) hO.2.2.1 rfl (by decide) (by decide) dX8_which_44 ?_
        refine rx_top (as_rd _ _ _) ?_
        refine rx_icmp_ge_t X dX8_which_45 (by rw [← rx_nN (x := σ.1 4 3) (by omega)]; exact Int32.le_refl _) ?_
        refine rx_aload_n (i := 0) X dX8_which_83 rfl rfl ?_
        refine rx_iload (i := 5) X dX8_which_84 rfl ?_
        refine rx_callVi (ci := 8) X vsX8_well mlX8_78 (kX8_well hO) (km_0 hO) rfl rfl (by decide) (by decide) dX8_which_86 rfl (Nat.le_of_ble_eq_true rfl) (fun r86 t86 h86 => ?_)
        obtain ⟨rfl, rfl⟩ := h86
        refine rx_iret X dX8_which_89 ?_
        rw [sp_which, if_neg h4, if_pos hli, rx_Nn (j := r) (by omega), rx_Nn (j := i0) (by omega), rx_Nn (j := n) (by omega), as_self]
      | succ k ih =>
        intro v x s8 hi9 hx hs8
        subst hx
        subst hs8
        refine rx_iload (i := 6) X dX8_which_37 rfl ?_
        refine rx_aload_n (i := 0) X dX8_which_39 rfl rfl ?_
        refine rx_getR (ci := 8) (i := 5) X (km_0 hO) rfl rfl (by decide) inX8 flX8_19 dX8_which_40 ?_
        refine rx_iconst (v := 3) X dX8_which_43 (by decide) ?_
        refine rx_ialdN (j := 3) X (km_4 hO) hO.2.2.1 rfl (by decide) (by decide) dX8_which_44 ?_
        refine rx_top (as_rd _ _ _) ?_
        refine rx_icmp_ge_f X dX8_which_45 (by rw [rx_nN (x := σ.1 4 3) (by omega)]; exact nI_ge (by omega) (by omega)) ?_
        refine rx_iload (i := 5) X dX8_which_48 rfl ?_
        refine rx_aload_n (i := 0) X dX8_which_50 rfl rfl ?_
        refine rx_iload (i := 6) X dX8_which_51 rfl ?_
        refine rx_bipush (v := 40) X dX8_which_53 (by decide) ?_
        refine rx_iload_n (i := 1) X dX8_which_55 rfl rfl ?_
        refine rx_imul X dX8_which_56 ?_
        refine rx_iload_n (i := 2) X dX8_which_57 rfl rfl ?_
        refine rx_iadd X dX8_which_58 ?_
        refine rx_iload_n (i := 3) X dX8_which_59 rfl rfl ?_
        rw [show (40 : Int32) * nI r + nI i0 = nI (40 * r + i0) by rw [show (40 : Int32) = nI 40 from rfl, pk_mul, nI_add]]
        refine rx_callVi (ci := 8) X vsX8_isSo mlX8_225 (kA_so hO (a := v) (by omega) (by omega) (by omega) (K := 999) (by omega) hv (fun j hj => rfl)) (km_0 hO) rfl rfl (by decide) (by decide) dX8_which_60 rfl (Nat.le_of_ble_eq_true rfl) (fun r60 t60 h60 => ?_)
        obtain ⟨rfl, ⟨rfl, h60⟩ | ⟨rfl, h60⟩⟩ := h60
        all_goals rw [← as_self]
        · refine rx_if_eq_f X dX8_which_63 (by decide) ?_
          refine rx_iconst (v := 1) X dX8_which_66 (by decide) ?_
          refine rx_iload (i := 6) X dX8_which_67 rfl ?_
          refine rx_ishl X dX8_which_69 ?_
          refine rx_goto X dX8_which_70 ?_
          refine rx_ior X dX8_which_74 ?_
          refine rx_istore (i := 5) (lo2 := [(0, .ref _), (1, .int _), (2, .int _), (3, .int _), (4, .int _), (5, .int _), (6, .int _)]) X dX8_which_75 (by decide) rfl ?_
          refine rx_iinc (i := 6) (lo2 := [(0, .ref _), (1, .int _), (2, .int _), (3, .int _), (4, .int _), (5, .int _), (6, .int _)]) X dX8_which_77 rfl (rx_inc1 _) (by decide) rfl ?_
          refine rx_goto X dX8_which_80 ?_
          refine ih (v + 1) _ _ (by omega) (nI_1 v) ?_
          first | rw [w_whi, if_pos h60] | rw [w_whi, if_neg h60] | fail "leaf"
        · refine rx_if_eq_t X dX8_which_63 (by decide) ?_
          refine rx_iconst (v := 0) X dX8_which_73 (by decide) ?_
          refine rx_ior X dX8_which_74 ?_
          refine rx_istore (i := 5) (lo2 := [(0, .ref _), (1, .int _), (2, .int _), (3, .int _), (4, .int _), (5, .int _), (6, .int _)]) X dX8_which_75 (by decide) rfl ?_
          refine rx_iinc (i := 6) (lo2 := [(0, .ref _), (1, .int _), (2, .int _), (3, .int _), (4, .int _), (5, .int _), (6, .int _)]) X dX8_which_77 rfl (rx_inc1 _) (by decide) rfl ?_
          refine rx_goto X dX8_which_80 ?_
          refine ih (v + 1) _ _ (by omega) (nI_1 v) ?_
          first | rw [w_whi, if_pos h60] | rw [w_whi, if_neg h60] | fail "leaf"
    exact loop (rx_N (σ.1 4 3)) 0 _ _ (by omega) rfl rfl
  refine rx_aload_n (i := 0) X dX8_which_0 rfl rfl ?_
  refine rx_getZ (ci := 8) (i := 4) X (km_0 hO) rfl rfl (by decide) inX8 flX8_144 dX8_which_1 ?_
  refine rx_if_ne X dX8_which_4 (fun h4 => ?_) (fun h4 => ?_)
  · refine rx_aload_n (i := 0) X dX8_which_10 rfl rfl ?_
    refine rx_iload_n (i := 1) X dX8_which_11 rfl rfl ?_
    refine rx_iload_n (i := 2) X dX8_which_12 rfl rfl ?_
    refine rx_iload_n (i := 3) X dX8_which_13 rfl rfl ?_
    refine rx_callVi (ci := 8) X vsX8_lacksItems mlX8_221 (kX8_lacksItems hO hs) (km_0 hO) rfl rfl (by decide) (by decide) dX8_which_14 rfl (Nat.le_of_ble_eq_true rfl) (fun r14 t14 h14 => ?_)
    obtain ⟨h14, hq | hq⟩ := h14
    · subst hq
      have hli : (sp_li σ r i n).1 = 0 := by rw [h14]
      obtain ⟨g1, g2, g3, g4⟩ := sp_li_0 hli
      have gs := hs (rx_N r) (rx_Nlt g1.1 (by omega))
      obtain ⟨r, hr, rfl⟩ := rx_sub (x := r) (n := 8) g1.1 (by omega)
      obtain ⟨i, hi, rfl⟩ := rx_sub (x := i) (n := 41) g3 (by omega)
      obtain ⟨n, hn, rfl⟩ := rx_sub (x := n) (n := 13) (by omega) (by omega)
      have ei := nI_toInt (n := i) (by omega)
      have en := nI_toInt (n := n) (by omega)
      obtain rfl : σ = t14 := by
        have := congrArg Prod.snd h14
        rw [sp_li, if_neg (by omega), if_neg (by omega), if_neg (by omega)] at this
        exact this
      have hv := hw.V4 h4
      refine rx_istore (i := 4) (lo2 := [(0, .ref _), (1, .int _), (2, .int _), (3, .int _), (4, .int _)]) X dX8_which_17 (by decide) rfl ?_
      refine rx_iload (i := 4) X dX8_which_19 rfl ?_
      refine rx_if_ge_t X dX8_which_21 (by decide) ?_
      refine rx_aload_n (i := 0) X dX8_which_27 rfl rfl ?_
      refine rx_callVv (ci := 8) X vsX8_putAside mlX8_190 (kX8_putAside hO) (km_0 hO) rfl rfl (by decide) (by decide) dX8_which_28 rfl (Nat.le_of_ble_eq_true rfl) (fun t28 h28 => ?_)
      subst h28
      refine rx_iconst (v := 0) X dX8_which_31 (by decide) ?_
      refine rx_istore (i := 5) (lo2 := [(0, .ref _), (1, .int _), (2, .int _), (3, .int _), (4, .int _), (5, .int _)]) X dX8_which_32 (by decide) rfl ?_
      refine rx_iconst (v := 0) X dX8_which_34 (by decide) ?_
      refine rx_istore (i := 6) (lo2 := [(0, .ref _), (1, .int _), (2, .int _), (3, .int _), (4, .int _), (5, .int _), (6, .int _)]) X dX8_which_35 (by decide) rfl ?_
      exact go r i n hr (by omega) (by omega) (by omega) (by have := rx_Nn (j := r) (by omega); rw [this] at gs g4; omega) h4 hli hv
    · have hne : ¬ (sp_li σ r i n).1 = 0 := by rw [h14]; intro z; rw [show r14 = 0 from z] at hq; exact absurd hq (by decide)
      refine rx_istore (i := 4) (lo2 := [(0, .ref _), (1, .int _), (2, .int _), (3, .int _), (4, .int _)]) X dX8_which_17 (by decide) rfl ?_
      refine rx_iload (i := 4) X dX8_which_19 rfl ?_
      refine rx_if_ge_f X dX8_which_21 (Int32.not_le.mpr hq) ?_
      refine rx_iload (i := 4) X dX8_which_24 rfl ?_
      refine rx_iret X dX8_which_26 ?_
      first | rw [sp_which, if_pos h4] | (rw [sp_which, if_neg h4, if_neg hne]; exact h14) | fail "leaf"
  · refine rx_ldc X dX8_which_7 kcX8_173 ?_
    refine rx_iret X dX8_which_9 ?_
    first | rw [sp_which, if_pos h4] | (rw [sp_which, if_neg h4, if_neg hne]; exact h14) | fail "leaf"
