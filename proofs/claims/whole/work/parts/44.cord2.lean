section
variable {O : rx_O} {own : String} {cc : ByteArray} {nL : Nat} {rt : Option FieldType} {p : Program} {l : Launch} {e : Env} {R : Room} {s : State} {m : MethodId} {args : Array Value} {below : List Frame} {meth : Method} {c : Code} {Q : State → Prop} {pc pc2 tgt : Nat} {lo lo2 : List (Nat × Value)} {st : List Value} {σ : rx_S}
def jb_u (x y : Int32) : Int32 := (x.toUInt32 >>> (y.toUInt32 &&& Int32.toUInt32 31)).toInt32
theorem rx_iushr (X : rx_G O own cc nL rt p s m args meth c) {x y : Int32} (hd : rx_D cc pc .iushr 1 pc2) (k : rx_J O nL p l e R s m args below meth c Q pc2 lo (.int (jb_u x y) :: st) σ) : rx_J O nL p l e R s m args below meth c Q pc lo (.int y :: .int x :: st) σ := by
  obtain ⟨hd, rfl⟩ := hd
  exact fun H locs ls hP hS hl => lv_iushr X.1 X.2.1 hd rfl (k H locs ls hP hS hl)
end
def jb1 (x : Int32) : Int32 := x - (jb_u x 1 &&& 1431655765)
def jb2 (x : Int32) : Int32 := (x &&& 858993459) + (jb_u x 2 &&& 858993459)
def jb3 (x : Int32) : Int32 := (x + jb_u x 4) &&& 252645135
def jb4 (x : Int32) : Int32 := x + jb_u x 8
def jb5 (x : Int32) : Int32 := x + jb_u x 16
theorem jb_all : ∀ q, q < 64 → jb5 (jb4 (jb3 (jb2 (jb1 (nI q))))) &&& 63 = sp_ones 6 (nI q) 0 := by decide +kernel
theorem uL_s {σ : rx_S} {k i : Nat} {v : Int64} : (rx_uL σ k i v).2 k i = v := by rw [rx_uL_s]; exact if_pos rfl
theorem uL_n {σ : rx_S} {k i j : Nat} {v : Int64} (h : j ≠ i) : (rx_uL σ k i v).2 k j = σ.2 k j := by rw [rx_uL_s]; exact if_neg h
set_option maxHeartbeats 1000000 in
set_option maxRecDepth 100000 in
theorem kJ6_bitCount_0f7a4 {l : Launch} {O : rx_O} (hO : cb_O O) {σ : rx_S} {q : Nat} (hq : q < 64) : rx_MI l O yJ6_bitCount_0f7a4 cJ6_bitCount_0f7a4 1 (some .int) 0 [.int (nI q)] σ (fun r τ => sp_ones 6 (nI q) 0 = r ∧ σ = τ) := by
  refine rx_Met_of (own := RJ6) rfl hO.2.1 vsJ6_bitCount_0f7a4.2.2.2.2 (Nat.le_of_ble_eq_true rfl) rfl (fun p e s m args below meth c X => ?_)
  refine rx_iload_n (i := 0) X dJ6_bitCount_0f7a4_0 rfl rfl ?_
  refine rx_iload_n (i := 0) X dJ6_bitCount_0f7a4_1 rfl rfl ?_
  refine rx_iconst (v := 1) X dJ6_bitCount_0f7a4_2 (by decide) ?_
  refine rx_iushr X dJ6_bitCount_0f7a4_3 ?_
  refine rx_ldcw X dJ6_bitCount_0f7a4_4 kcJ6_265 ?_
  refine rx_iand X dJ6_bitCount_0f7a4_7 ?_
  refine rx_isub X dJ6_bitCount_0f7a4_8 ?_
  refine rx_top (y := jb1 (nI q)) rfl ?_
  refine rx_istore_n (i := 0) (lo2 := [(0, .int _)]) X dJ6_bitCount_0f7a4_9 rfl (by decide) rfl ?_
  refine rx_iload_n (i := 0) X dJ6_bitCount_0f7a4_10 rfl rfl ?_
  refine rx_ldcw X dJ6_bitCount_0f7a4_11 kcJ6_266 ?_
  refine rx_iand X dJ6_bitCount_0f7a4_14 ?_
  refine rx_iload_n (i := 0) X dJ6_bitCount_0f7a4_15 rfl rfl ?_
  refine rx_iconst (v := 2) X dJ6_bitCount_0f7a4_16 (by decide) ?_
  refine rx_iushr X dJ6_bitCount_0f7a4_17 ?_
  refine rx_ldcw X dJ6_bitCount_0f7a4_18 kcJ6_266 ?_
  refine rx_iand X dJ6_bitCount_0f7a4_21 ?_
  refine rx_iadd X dJ6_bitCount_0f7a4_22 ?_
  refine rx_top (y := jb2 (jb1 (nI q))) rfl ?_
  refine rx_istore_n (i := 0) (lo2 := [(0, .int _)]) X dJ6_bitCount_0f7a4_23 rfl (by decide) rfl ?_
  refine rx_iload_n (i := 0) X dJ6_bitCount_0f7a4_24 rfl rfl ?_
  refine rx_iload_n (i := 0) X dJ6_bitCount_0f7a4_25 rfl rfl ?_
  refine rx_iconst (v := 4) X dJ6_bitCount_0f7a4_26 (by decide) ?_
  refine rx_iushr X dJ6_bitCount_0f7a4_27 ?_
  refine rx_iadd X dJ6_bitCount_0f7a4_28 ?_
  refine rx_ldcw X dJ6_bitCount_0f7a4_29 kcJ6_267 ?_
  refine rx_iand X dJ6_bitCount_0f7a4_32 ?_
  refine rx_top (y := jb3 (jb2 (jb1 (nI q)))) rfl ?_
  refine rx_istore_n (i := 0) (lo2 := [(0, .int _)]) X dJ6_bitCount_0f7a4_33 rfl (by decide) rfl ?_
  refine rx_iload_n (i := 0) X dJ6_bitCount_0f7a4_34 rfl rfl ?_
  refine rx_iload_n (i := 0) X dJ6_bitCount_0f7a4_35 rfl rfl ?_
  refine rx_bipush (v := 8) X dJ6_bitCount_0f7a4_36 (by decide) ?_
  refine rx_iushr X dJ6_bitCount_0f7a4_38 ?_
  refine rx_iadd X dJ6_bitCount_0f7a4_39 ?_
  refine rx_top (y := jb4 (jb3 (jb2 (jb1 (nI q))))) rfl ?_
  refine rx_istore_n (i := 0) (lo2 := [(0, .int _)]) X dJ6_bitCount_0f7a4_40 rfl (by decide) rfl ?_
  refine rx_iload_n (i := 0) X dJ6_bitCount_0f7a4_41 rfl rfl ?_
  refine rx_iload_n (i := 0) X dJ6_bitCount_0f7a4_42 rfl rfl ?_
  refine rx_bipush (v := 16) X dJ6_bitCount_0f7a4_43 (by decide) ?_
  refine rx_iushr X dJ6_bitCount_0f7a4_45 ?_
  refine rx_iadd X dJ6_bitCount_0f7a4_46 ?_
  refine rx_top (y := jb5 (jb4 (jb3 (jb2 (jb1 (nI q)))))) rfl ?_
  refine rx_istore_n (i := 0) (lo2 := [(0, .int _)]) X dJ6_bitCount_0f7a4_47 rfl (by decide) rfl ?_
  refine rx_iload_n (i := 0) X dJ6_bitCount_0f7a4_48 rfl rfl ?_
  refine rx_bipush (v := 63) X dJ6_bitCount_0f7a4_49 (by decide) ?_
  refine rx_iand X dJ6_bitCount_0f7a4_51 ?_
  refine rx_iret X dJ6_bitCount_0f7a4_52 ?_
  exact ⟨(jb_all q hq).symm, rfl⟩
set_option maxHeartbeats 1000000 in
set_option maxRecDepth 100000 in
theorem kX4_blow {l : Launch} {O : rx_O} (hO : cb_O O) {σ : rx_S} {n a q : Nat} {w : Nat → Int32} (hw : cb_R cb_T σ 1 w) (hv : w_V 999 w) (hb : w_B w) (hn : n ≤ 8) (ha : a < 6) (ha3 : a < rx_N (w 3)) (hq : q ≤ 10) (hbo : cb_bo σ 243) : rx_MV l O yX4_blow cX4_blow 7 none 4 [.ref 242, .ref 1, .int (nI a), .int (nI n), .int (nI q)] σ (fun τ => (∀ k, (k < 243 ∨ 251 < k) → τ.1 k = σ.1 k) ∧ cb_bo τ 243 ∧ τ.2 242 5 = lN ((wd_A a n q w (2 ^ n)) / Nat.gcd (wd_A a n q w (2 ^ n)) (10 ^ n)) ∧ τ.2 242 6 = lN (10 ^ n / Nat.gcd (wd_A a n q w (2 ^ n)) (10 ^ n))) := by
  refine rx_Met_of (own := RX4) rfl hO.2.1 vsX4_blow.2.2.2.2.2 (Nat.le_of_ble_eq_true rfl) rfl (fun p e s m args below meth c X => ?_)
  have lp2 : ∀ (k : Nat) (i : Nat) (x : Int32) (τ : rx_S), (i + k = 2 ^ n) → (x = nI i) → (∀ k, (k < 243 ∨ 251 < k) → τ.1 k = σ.1 k) → (cb_bo τ 243) → (τ.2 242 5 = lN (wd_A a n q w i)) → (τ.2 242 6 = lN (10 ^ n)) → rx_J O 7 p l e (rx_lv 4) s m args below meth c (rx_QV O below args s (fun τ => (∀ k, (k < 243 ∨ 251 < k) → τ.1 k = σ.1 k) ∧ cb_bo τ 243 ∧ τ.2 242 5 = lN ((wd_A a n q w (2 ^ n)) / Nat.gcd (wd_A a n q w (2 ^ n)) (10 ^ n)) ∧ τ.2 242 6 = lN (10 ^ n / Nat.gcd (wd_A a n q w (2 ^ n)) (10 ^ n)))) 40 [(0, .ref 242), (1, .ref 1), (2, .int (nI a)), (3, .int (nI n)), (4, .int (nI q)), (5, .int x)] [] τ := by
    intro k
    induction k with
    | zero =>
      intro i x τ hi hx hk hbo hA hBl
      obtain rfl : i = 2 ^ n := by omega
      subst hx
      have pw := wd_pow n (by omega)
      have pA := wd_A_le (a := a) (n := n) (w := w) hq (2 ^ n)
      have pm : 2 ^ n * 10 ^ n ≤ 256 * 100000000 := Nat.mul_le_mul pw.2 pw.1
      have p10 : 0 < 10 ^ n := Nat.pow_pos (by decide)
      have hg0 : 0 < Nat.gcd (10 ^ n) (wd_A a n q w (2 ^ n)) := Nat.gcd_pos_of_pos_left _ p10
      have hgl : Nat.gcd (10 ^ n) (wd_A a n q w (2 ^ n)) ≤ 10 ^ n := Nat.gcd_le_left _ p10
      refine rx_iload (i := 5) X dX4_blow_40 rfl ?_
      refine rx_iconst (v := 1) X dX4_blow_42 (by decide) ?_
      refine rx_iload_n (i := 3) X dX4_blow_43 rfl rfl ?_
      refine rx_ishl X dX4_blow_44 ?_
      refine rx_top (wd_sh n (by omega)) ?_
      refine rx_icmp_ge_t X dX4_blow_45 (Int32.le_refl _) ?_
      refine rx_aload_n (i := 0) X dX4_blow_84 rfl rfl ?_
      refine rx_aload_n (i := 0) X dX4_blow_85 rfl rfl ?_
      refine rx_getL (ci := 4) (i := 6) X (kc_242 hO) rfl rfl (by decide) inX4 flX4_133 dX4_blow_86 ?_
      refine rx_topL hBl ?_
      refine rx_aload_n (i := 0) X dX4_blow_89 rfl rfl ?_
      refine rx_getL (ci := 4) (i := 5) X (kc_242 hO) rfl rfl (by decide) inX4 flX4_129 dX4_blow_90 ?_
      refine rx_topL hA ?_
      refine rx_callVl (ci := 4) X vsX4_commonDivisor mlX4_146 (kX4_commonDivisor hO (by omega) (by omega)) (kc_242 hO) rfl rfl (by decide) (by decide) dX4_blow_93 rfl (Nat.le_of_ble_eq_true rfl) (fun r93 t93 h93 => ?_)
      obtain ⟨rfl, rfl⟩ := h93
      refine rx_lstore (i := 5) (lo2 := [(0, .ref _), (1, .ref _), (2, .int _), (3, .int _), (4, .int _), (5, .long _)]) X dX4_blow_96 (by decide) rfl ?_
      refine rx_lload (i := 5) X dX4_blow_98 rfl ?_
      refine rx_lconst (v := 1) X dX4_blow_100 (by decide) ?_
      refine rx_lcmp X dX4_blow_101 ?_
      refine rx_if_le X dX4_blow_102 (fun h102 => ?_) (fun h102 => ?_)
      · rw [lg_cmp_le, Int64.le_iff_toInt_le, lN_t (by omega)] at h102
        have h102 : ((Nat.gcd (10 ^ n) (wd_A a n q w (2 ^ n)) : Nat) : Int) ≤ 1 := h102
        have hg1 : Nat.gcd (wd_A a n q w (2 ^ n)) (10 ^ n) = 1 := by rw [Nat.gcd_comm]; omega
        refine rx_vret X dX4_blow_127 ?_
        rw [hg1, Nat.div_one, Nat.div_one]
        exact ⟨hk, hbo, hA, hBl⟩
      · 
        refine rx_aload_n (i := 0) X dX4_blow_105 rfl rfl ?_
        refine rx_dup X dX4_blow_106 rfl ?_
        refine rx_getL (ci := 4) (i := 5) X (kc_242 hO) rfl rfl (by decide) inX4 flX4_129 dX4_blow_107 ?_
        refine rx_topL hA ?_
        refine rx_lload (i := 5) X dX4_blow_110 rfl ?_
        refine rx_ldiv X dX4_blow_112 (fun z => absurd ((lN_0 (by omega)).mp z) (by omega)) ?_
        refine rx_putL (ci := 4) (i := 5) X (kc_242 hO) rfl rfl (by decide) inX4 tyX4 tyX4_ok nmX4 flX4_129 rfl rfl dX4_blow_113 ?_
        refine rx_aload_n (i := 0) X dX4_blow_116 rfl rfl ?_
        refine rx_dup X dX4_blow_117 rfl ?_
        refine rx_getL (ci := 4) (i := 6) X (kc_242 hO) rfl rfl (by decide) inX4 flX4_133 dX4_blow_118 ?_
        refine rx_topL hBl ?_
        refine rx_lload (i := 5) X dX4_blow_121 rfl ?_
        refine rx_ldiv X dX4_blow_123 (fun z => absurd ((lN_0 (by omega)).mp z) (by omega)) ?_
        refine rx_putL (ci := 4) (i := 6) X (kc_242 hO) rfl rfl (by decide) inX4 tyX4 tyX4_ok nmX4 flX4_133 rfl rfl dX4_blow_124 ?_
        refine rx_vret X dX4_blow_127 ?_
        refine ⟨hk, hbo, ?_, ?_⟩
        · rw [uL_n (by decide), uL_s, lN_dv (by omega) (by omega) hg0, Nat.gcd_comm]
        · rw [uL_s, lN_dv (by omega) (by omega) hg0, Nat.gcd_comm]
    | succ k ih =>
      intro i x τ hi hx hk hbo hA hBl
      have pw := wd_pow n (by omega)
      subst hx
      refine rx_iload (i := 5) X dX4_blow_40 rfl ?_
      refine rx_iconst (v := 1) X dX4_blow_42 (by decide) ?_
      refine rx_iload_n (i := 3) X dX4_blow_43 rfl rfl ?_
      refine rx_ishl X dX4_blow_44 ?_
      refine rx_top (wd_sh n (by omega)) ?_
      refine rx_icmp_ge_f X dX4_blow_45 (nI_ge (by omega) (by omega)) ?_
      refine rx_aload_n (i := 0) X dX4_blow_48 rfl rfl ?_
      refine rx_aload_n (i := 1) X dX4_blow_49 rfl rfl ?_
      refine rx_iload_n (i := 2) X dX4_blow_50 rfl rfl ?_
      refine rx_iload_n (i := 3) X dX4_blow_51 rfl rfl ?_
      refine rx_iload (i := 5) X dX4_blow_52 rfl ?_
      refine rx_callVi (ci := 4) X vsX4_arrivesBlown mlX4_138 (kX4_arrivesBlown hO (hw.out (fun k _ _ => hk k (by omega))) hv hb hn ha ha3 (by omega)) (kc_242 hO) rfl rfl (by decide) (by decide) dX4_blow_54 rfl (Nat.le_of_ble_eq_true rfl) (fun r54 t54 h54 => ?_)
      obtain ⟨h54f, h54b, ⟨rfl, h54⟩ | ⟨rfl, h54⟩⟩ := h54
      · refine rx_if_eq_f X dX4_blow_57 (by decide) ?_
        refine rx_aload_n (i := 0) X dX4_blow_60 rfl rfl ?_
        refine rx_dup X dX4_blow_61 rfl ?_
        refine rx_getL (ci := 4) (i := 5) X (kc_242 hO) rfl rfl (by decide) inX4 flX4_129 dX4_blow_62 ?_
        refine rx_topL ((congrFun (congrFun h54f.1 242) 5).trans hA) ?_
        refine rx_aload_n (i := 0) X dX4_blow_65 rfl rfl ?_
        refine rx_iload_n (i := 3) X dX4_blow_66 rfl rfl ?_
        refine rx_iload (i := 4) X dX4_blow_67 rfl ?_
        refine rx_iload (i := 5) X dX4_blow_69 rfl ?_
        refine rx_callVl (ci := 4) X vsX4_casesOf mlX4_142 (kX4_casesOf hO hn hq (by omega)) (kc_242 hO) rfl rfl (by decide) (by decide) dX4_blow_71 rfl (Nat.le_of_ble_eq_true rfl) (fun r71 t71 h71 => ?_)
        obtain ⟨rfl, rfl⟩ := h71
        refine rx_ladd X dX4_blow_74 ?_
        refine rx_putL (ci := 4) (i := 5) X (kc_242 hO) rfl rfl (by decide) inX4 tyX4 tyX4_ok nmX4 flX4_129 rfl rfl dX4_blow_75 ?_
        refine rx_iinc (i := 5) (lo2 := [(0, .ref _), (1, .ref _), (2, .int _), (3, .int _), (4, .int _), (5, .int _)]) X dX4_blow_78 rfl (rx_inc1 _) (by decide) rfl ?_
        refine rx_goto X dX4_blow_81 ?_
        refine ih (i + 1) _ _ (by omega) (nI_1 i) (fun k hq => (h54f.2 k (by omega)).trans (hk k hq)) h54b ?_ ?_
        · rw [uL_s, wd_A, if_pos h54, lN_add]
        · rw [uL_n (by decide)]
          exact (congrFun (congrFun h54f.1 242) 6).trans hBl
      · refine rx_if_eq_t X dX4_blow_57 (by decide) ?_
        refine rx_iinc (i := 5) (lo2 := [(0, .ref _), (1, .ref _), (2, .int _), (3, .int _), (4, .int _), (5, .int _)]) X dX4_blow_78 rfl (rx_inc1 _) (by decide) rfl ?_
        refine rx_goto X dX4_blow_81 ?_
        refine ih (i + 1) _ _ (by omega) (nI_1 i) (fun k hq => (h54f.2 k (by omega)).trans (hk k hq)) h54b ?_ ?_
        · rw [wd_A, if_neg h54, Nat.add_zero]
          exact (congrFun (congrFun h54f.1 242) 5).trans hA
        · exact (congrFun (congrFun h54f.1 242) 6).trans hBl
  have lp1 : ∀ (k : Nat) (i : Nat) (x : Int32) (τ : rx_S), (i + k = n) → (x = nI i) → (τ.1 = σ.1) → (τ.2 242 5 = lN 0) → (τ.2 242 6 = lN (10 ^ i)) → rx_J O 7 p l e (rx_lv 4) s m args below meth c (rx_QV O below args s (fun τ => (∀ k, (k < 243 ∨ 251 < k) → τ.1 k = σ.1 k) ∧ cb_bo τ 243 ∧ τ.2 242 5 = lN ((wd_A a n q w (2 ^ n)) / Nat.gcd (wd_A a n q w (2 ^ n)) (10 ^ n)) ∧ τ.2 242 6 = lN (10 ^ n / Nat.gcd (wd_A a n q w (2 ^ n)) (10 ^ n)))) 13 [(0, .ref 242), (1, .ref 1), (2, .int (nI a)), (3, .int (nI n)), (4, .int (nI q)), (5, .int x)] [] τ := by
    intro k
    induction k with
    | zero =>
      intro i x τ hi hx h1 hA hBl
      obtain rfl : i = n := by omega
      subst hx
      refine rx_iload (i := 5) X dX4_blow_13 rfl ?_
      refine rx_iload_n (i := 3) X dX4_blow_15 rfl rfl ?_
      refine rx_icmp_ge_t X dX4_blow_16 (Int32.le_refl _) ?_
      refine rx_iconst (v := 0) X dX4_blow_37 (by decide) ?_
      refine rx_istore (i := 5) (lo2 := [(0, .ref _), (1, .ref _), (2, .int _), (3, .int _), (4, .int _), (5, .int _)]) X dX4_blow_38 (by decide) rfl ?_
      exact lp2 (2 ^ i) 0 _ _ (by omega) rfl (fun k _ => congrFun h1 k) (by unfold cb_bo; rw [h1]; exact hbo) hA hBl
    | succ k ih =>
      intro i x τ hi hx h1 hA hBl
      subst hx
      refine rx_iload (i := 5) X dX4_blow_13 rfl ?_
      refine rx_iload_n (i := 3) X dX4_blow_15 rfl rfl ?_
      refine rx_icmp_ge_f X dX4_blow_16 (nI_ge (by omega) (by omega)) ?_
      refine rx_aload_n (i := 0) X dX4_blow_19 rfl rfl ?_
      refine rx_dup X dX4_blow_20 rfl ?_
      refine rx_getL (ci := 4) (i := 6) X (kc_242 hO) rfl rfl (by decide) inX4 flX4_133 dX4_blow_21 ?_
      refine rx_topL hBl ?_
      refine rx_ldc2 X dX4_blow_24 kcX4_136 ?_
      refine rx_lmul X dX4_blow_27 ?_
      refine rx_putL (ci := 4) (i := 6) X (kc_242 hO) rfl rfl (by decide) inX4 tyX4 tyX4_ok nmX4 flX4_133 rfl rfl dX4_blow_28 ?_
      refine rx_iinc (i := 5) (lo2 := [(0, .ref _), (1, .ref _), (2, .int _), (3, .int _), (4, .int _), (5, .int _)]) X dX4_blow_31 rfl (rx_inc1 _) (by decide) rfl ?_
      refine rx_goto X dX4_blow_34 ?_
      refine ih (i + 1) _ _ (by omega) (nI_1 i) h1 ?_ ?_
      · rw [uL_n (by decide)]; exact hA
      · rw [uL_s, Nat.pow_succ, ← lN_mul]
        rfl
  refine rx_aload_n (i := 0) X dX4_blow_0 rfl rfl ?_
  refine rx_lconst (v := 0) X dX4_blow_1 (by decide) ?_
  refine rx_putL (ci := 4) (i := 5) X (kc_242 hO) rfl rfl (by decide) inX4 tyX4 tyX4_ok nmX4 flX4_129 rfl rfl dX4_blow_2 ?_
  refine rx_aload_n (i := 0) X dX4_blow_5 rfl rfl ?_
  refine rx_lconst (v := 1) X dX4_blow_6 (by decide) ?_
  refine rx_putL (ci := 4) (i := 6) X (kc_242 hO) rfl rfl (by decide) inX4 tyX4 tyX4_ok nmX4 flX4_133 rfl rfl dX4_blow_7 ?_
  refine rx_iconst (v := 0) X dX4_blow_10 (by decide) ?_
  refine rx_istore (i := 5) (lo2 := [(0, .ref _), (1, .ref _), (2, .int _), (3, .int _), (4, .int _), (5, .int _)]) X dX4_blow_11 (by decide) rfl ?_
  refine lp1 n 0 _ _ (by omega) rfl rfl ?_ ?_
  · rw [uL_n (by decide), uL_s]; rfl
  · rw [uL_s]; rfl
def od2 (a : Nat) (late : Int32) (c : Nat) (w : Nat → Int32) (k : Nat) (L : List Int32) (b : Int32) (B : List Int32) : Int32 × List Int32 := match nx c L with
  | none => (b, B)
  | some M => od_loop (-1) a late c w k M b B
section
variable {a c k : Nat} {late b : Int32} {w : Nat → Int32} {L M B : List Int32}
theorem od2_0 (hn : nx c L = none) : od2 a late c w k L b B = (b, B) := by rw [od2, hn]
theorem od2_1 (hn : nx c L = some M) : od2 a late c w k L b B = od_loop (-1) a late c w k M b B := by rw [od2, hn]
theorem od2_z : od2 a late c w 0 L b B = (b, B) := by
  cases hn : nx c L with
  | none => exact od2_0 hn
  | some M => rw [od2_1 hn]; rfl
theorem od_step : od_loop (-1) a late c w (k + 1) M b B = if od_bet late b (od_ab (-1) a M c 200 0 w) then od2 a late c w k M (od_ab (-1) a M c 200 0 w) M else od2 a late c w k M b B := by
  cases hn : nx c M with
  | none => rw [od_loop_0 hn, od2_0 hn, od2_0 hn]
  | some N => rw [od_loop_1 hn, od2_1 hn, od2_1 hn]
theorem od_late (hna : ¬ w_has (w 4) a) : ∀ k (M B : List Int32), od_loop (-1) a 1 c w k M (nI 201) B = (nI 201, B)
  | 0, M, B => rfl
  | k + 1, M, B => by
    have hv := (oc_b (a := a) (L := M) (c := c) (f := 200) (n := 0) (w := w) (by omega)).2
    rw [od_step, if_neg]
    · cases hn : nx c M with
      | none => exact od2_0 hn
      | some N => rw [od2_1 hn]; exact od_late hna k N B
    · rw [oc_ab hna]
      rintro (h | h | h)
      · exact absurd h (by decide)
      · have := Int32.lt_iff_toInt_lt.mp h.2
        rw [nI_toInt (by decide)] at this
        omega
      · exact h.1 rfl
theorem oc_less {bn : Nat} (hb : 1 ≤ bn ∧ bn ≤ 201) : (oc a M c (bn - 1) 0 w < nI bn ↔ oc a M c 200 0 w < nI bn) ∧ (oc a M c (bn - 1) 0 w < nI bn → oc a M c (bn - 1) 0 w = oc a M c 200 0 w) := by
  have hv := oc_b (a := a) (L := M) (c := c) (f := 200) (n := 0) (w := w) (by omega)
  have e201 : (201 : Int32).toInt = 201 := rfl
  have e := oc_cut (a := a) (L := M) (c := c) (k := bn - 1) (K := 200) (n := 0) (w := w) (by omega) (by omega)
  rw [e]
  simp only [Int32.lt_iff_toInt_lt, nI_toInt (show bn < 2 ^ 31 by omega)]
  by_cases h : (oc a M c 200 0 w).toInt ≤ ((0 : Nat) : Int) + ((bn - 1 : Nat) : Int)
  · rw [if_pos h]
    exact ⟨Iff.rfl, fun _ => rfl⟩
  · rw [if_neg h, e201]
    exact ⟨⟨fun q => absurd q (by omega), fun q => absurd q (by omega)⟩, fun q => absurd q (by omega)⟩
end
set_option maxHeartbeats 1000000 in
set_option maxRecDepth 100000 in
theorem kX4_bestOrder0 {l : Launch} {O : rx_O} (hO : cb_O O) {σ : rx_S} {a c : Nat} {w : Nat → Int32} (hw : cb_R cb_T σ 1 w) (hv : w_V 999 w) (hb : w_B w) (ha : a < 6) (ha3 : a < rx_N (w 3)) (hna : ¬ w_has (w 4) a) (hc : 1 ≤ c ∧ c ≤ 5) (hc2 : w 2 = nI c) : rx_MI l O yX4_bestOrder cX4_bestOrder 8 (some .int) 5 [.ref 242, .ref 1, .int (nI a), .int 0] σ (fun r τ => (if 200 < (od_loop (-1) a 0 c w 120 (nx_id c) (-1) []).1 then -1000000 else (od_loop (-1) a 0 c w 120 (nx_id c) (-1) []).1) = r ∧ nx_is c (τ.1 253) (od_loop (-1) a 0 c w 120 (nx_id c) (-1) []).2 ∧ (∀ k, (k ≤ 242 ∨ 254 ≤ k) → τ.1 k = σ.1 k) ∧ τ.2 = σ.2 ∧ cb_bo τ 243) := by
  refine rx_Met_of (own := RX4) rfl hO.2.1 vsX4_bestOrder.2.2.2.2.2 (Nat.le_of_ble_eq_true rfl) rfl (fun p e s m args below meth cd X => ?_)
  have fin : ∀ (τ : rx_S) (z : Int32) (B : List Int32), (od_loop (-1) a 0 c w 120 (nx_id c) (-1) []) = (z, B) → nx_is c (τ.1 253) B → (∀ k, (k ≤ 242 ∨ 254 ≤ k) → τ.1 k = σ.1 k) → τ.2 = σ.2 → cb_bo τ 243 → rx_J O 8 p l e (rx_lv 5) s m args below meth cd (rx_QI O below args s (fun r τ => (if 200 < (od_loop (-1) a 0 c w 120 (nx_id c) (-1) []).1 then -1000000 else (od_loop (-1) a 0 c w 120 (nx_id c) (-1) []).1) = r ∧ nx_is c (τ.1 253) (od_loop (-1) a 0 c w 120 (nx_id c) (-1) []).2 ∧ (∀ k, (k ≤ 242 ∨ 254 ≤ k) → τ.1 k = σ.1 k) ∧ τ.2 = σ.2 ∧ cb_bo τ 243)) 153 [(0, .ref 242), (1, .ref 1), (2, .int (nI a)), (3, .int 0), (4, .int (nI c)), (5, .int z)] [] τ := by
    intro τ z B hR hB hk h2 hbo
    refine rx_iload (i := 5) X dX4_bestOrder_153 rfl ?_
    refine rx_sipush (v := 200) X dX4_bestOrder_155 (by decide) ?_
    refine rx_icmp_le X dX4_bestOrder_158 (fun h158 => ?_) (fun h158 => ?_)
    · refine rx_iload (i := 5) X dX4_bestOrder_166 rfl ?_
      refine rx_iret X dX4_bestOrder_168 ?_
      refine ⟨?_, by rw [hR]; exact hB, hk, h2, hbo⟩
      rw [hR]
      exact if_neg (Int32.not_lt.mpr h158)
    · refine rx_ldc X dX4_bestOrder_161 kcX4_60 ?_
      refine rx_goto X dX4_bestOrder_163 ?_
      refine rx_iret X dX4_bestOrder_168 ?_
      refine ⟨?_, by rw [hR]; exact hB, hk, h2, hbo⟩
      rw [hR]
      exact if_pos (Int32.not_le.mp h158)
  have loop : ∀ (k : Nat) (i bn : Nat) (x z : Int32) (τ : rx_S) (L B : List Int32), (i + k = 120) → (1 ≤ i) → (x = nI i) → (z = nI bn) → (1 ≤ bn ∧ bn ≤ 201) → (nx_ok c (k + 1) L = true) → (nx_is c (τ.1 252) L) → (nx_is c (τ.1 253) B) → (∀ k, (k ≤ 242 ∨ 254 ≤ k) → τ.1 k = σ.1 k) → (τ.2 = σ.2) → (cb_bo τ 243) → ((od_loop (-1) a 0 c w 120 (nx_id c) (-1) []) = od2 a 0 c w k L z B) → rx_J O 8 p l e (rx_lv 5) s m args below meth cd (rx_QI O below args s (fun r τ => (if 200 < (od_loop (-1) a 0 c w 120 (nx_id c) (-1) []).1 then -1000000 else (od_loop (-1) a 0 c w 120 (nx_id c) (-1) []).1) = r ∧ nx_is c (τ.1 253) (od_loop (-1) a 0 c w 120 (nx_id c) (-1) []).2 ∧ (∀ k, (k ≤ 242 ∨ 254 ≤ k) → τ.1 k = σ.1 k) ∧ τ.2 = σ.2 ∧ cb_bo τ 243)) 54 [(0, .ref 242), (1, .ref 1), (2, .int (nI a)), (3, .int 0), (4, .int (nI c)), (5, .int z), (6, .int x)] [] τ := by
    intro k
    induction k with
    | zero =>
      intro i bn x z τ L B hi hi1 hx hz hbn hok hL hB hk h2 hbo hR
      obtain rfl : i = 120 := by omega
      subst hx
      refine rx_iload (i := 6) X dX4_bestOrder_54 rfl ?_
      refine rx_bipush (v := 120) X dX4_bestOrder_56 (by decide) ?_
      refine rx_icmp_ge_t X dX4_bestOrder_58 (by decide) ?_
      refine rx_less [0, 1, 2, 3, 4, 5] rfl ?_
      exact fin τ _ B (by rw [hR, od2_z]) hB hk h2 hbo
    | succ k ih =>
      intro i bn x z τ L B hi hi1 hx hz hbn hok hL hB hk h2 hbo hR
      subst hx
      subst hz
      refine rx_iload (i := 6) X dX4_bestOrder_54 rfl ?_
      refine rx_bipush (v := 120) X dX4_bestOrder_56 (by decide) ?_
      refine rx_icmp_ge_f X dX4_bestOrder_58 (nI_ge (b := 120) (by omega) (by decide)) ?_
      refine rx_aload_n (i := 0) X dX4_bestOrder_61 rfl rfl ?_
      refine rx_iload (i := 4) X dX4_bestOrder_62 rfl ?_
      refine rx_callVi (ci := 4) X vsX4_nextOrder mlX4_93 (kX4_nextOrder hO hc hL) (kc_242 hO) rfl rfl (by decide) (by decide) dX4_bestOrder_64 rfl (Nat.le_of_ble_eq_true rfl) (fun r64 t64 h64 => ?_)
      obtain ⟨h64k, h642, ⟨rfl, M, hnM, hM⟩ | ⟨rfl, hn0, rfl⟩⟩ := h64
      · refine rx_if_eq_f X dX4_bestOrder_67 (by decide) ?_
        refine rx_iload_n (i := 3) X dX4_bestOrder_70 rfl rfl ?_
        refine rx_if_eq_t X dX4_bestOrder_71 (by decide) ?_
        refine rx_aload_n (i := 0) X dX4_bestOrder_85 rfl rfl ?_
        refine rx_aload_n (i := 1) X dX4_bestOrder_86 rfl rfl ?_
        refine rx_iload_n (i := 2) X dX4_bestOrder_87 rfl rfl ?_
        refine rx_iload_n (i := 3) X dX4_bestOrder_88 rfl rfl ?_
        refine rx_if_eq_t X dX4_bestOrder_89 (by decide) ?_
        refine rx_iload (i := 5) X dX4_bestOrder_98 rfl ?_
        refine rx_iconst (v := 1) X dX4_bestOrder_100 (by decide) ?_
        refine rx_isub X dX4_bestOrder_101 ?_
        have hLv := (nx_okb_at (nx_ok_b (nx_ok_s hok hnM))).2
        have hbo2 : cb_bo t64 243 := fun q hq => by rw [h64k _ (by omega)]; exact hbo q hq
        have hw2 : cb_R cb_T t64 1 w := hw.out (fun q _ _ => (h64k q (by omega)).trans (hk q (by omega)))
        have hv0 := oc_b (a := a) (L := M) (c := c) (f := 200) (n := 0) (w := w) (by omega)
        have eb : nI bn - 1 = nI (bn - 1) := by
          conv => lhs; rw [show bn = (bn - 1) + 1 by omega]
          exact nI_pred (bn - 1)
        rw [eb]
        refine rx_callVi (ci := 4) X vsX4_arrivalInOrder mlX4_89 (kX4_arrivalInOrder hO (n := bn - 1) hw2 hv hb (by omega) ha ha3 hc hc2 hM hLv) (kc_242 hO) rfl rfl (by decide) (by decide) dX4_bestOrder_102 rfl (Nat.le_of_ble_eq_true rfl) (fun r102 t102 h102 => ?_)
        obtain ⟨rfl, h102f, h102b⟩ := h102
        refine rx_istore (i := 7) (lo2 := [(0, .ref _), (1, .ref _), (2, .int _), (3, .int _), (4, .int _), (5, .int _), (6, .int _), (7, .int _)]) X dX4_bestOrder_105 (by decide) rfl ?_
        refine rx_iload_n (i := 3) X dX4_bestOrder_107 rfl rfl ?_
        refine rx_if_eq_t X dX4_bestOrder_108 (by decide) ?_
        refine rx_iload (i := 7) X dX4_bestOrder_121 rfl ?_
        refine rx_iload (i := 5) X dX4_bestOrder_123 rfl ?_
        refine rx_icmp_ge X dX4_bestOrder_125 (fun h125 => ?_) (fun h125 => ?_)
        · refine rx_iinc (i := 6) (lo2 := [(0, .ref _), (1, .ref _), (2, .int _), (3, .int _), (4, .int _), (5, .int _), (6, .int _), (7, .int _)]) X dX4_bestOrder_147 rfl (rx_inc1 _) (by decide) rfl ?_
          refine rx_goto X dX4_bestOrder_150 ?_
          refine rx_less [0, 1, 2, 3, 4, 5, 6] rfl ?_
          refine ih (i + 1) bn _ _ _ M B (by omega) (by omega) (nI_1 i) rfl hbn (nx_ok_s hok hnM) ?_ ?_ (fun q hq => (h102f.2 q (by omega)).trans ((h64k q (by omega)).trans (hk q hq))) (h102f.1.trans (h642.trans h2)) h102b ?_
          · rw [h102f.2 252 (by omega)]; exact hM
          · rw [h102f.2 253 (by omega), h64k 253 (by omega)]; exact hB
          · rw [hR, od2_1 hnM, od_step, if_neg]
            rintro (z | z | z)
            · exact absurd (Int32.lt_iff_toInt_lt.mp z) (by rw [nI_toInt (by omega)]; show ¬ _ < (0 : Int); omega)
            · exact absurd z.1 (by decide)
            · rw [oc_ab hna] at z; exact absurd ((oc_less hbn).1.mpr z.2) (Int32.not_lt.mpr h125)
        · refine rx_iload (i := 7) X dX4_bestOrder_128 rfl ?_
          refine rx_istore (i := 5) (lo2 := [(0, .ref _), (1, .ref _), (2, .int _), (3, .int _), (4, .int _), (5, .int _), (6, .int _), (7, .int _)]) X dX4_bestOrder_130 (by decide) rfl ?_
          refine rx_aload_n (i := 0) X dX4_bestOrder_132 rfl rfl ?_
          refine rx_getR (ci := 4) (i := 1) X (kc_242 hO) rfl rfl (by decide) inX4 flX4_18 dX4_bestOrder_133 ?_
          refine rx_iconst (v := 0) X dX4_bestOrder_136 (by decide) ?_
          refine rx_aload_n (i := 0) X dX4_bestOrder_137 rfl rfl ?_
          refine rx_getR (ci := 4) (i := 2) X (kc_242 hO) rfl rfl (by decide) inX4 flX4_22 dX4_bestOrder_138 ?_
          refine rx_iconst (v := 0) X dX4_bestOrder_141 (by decide) ?_
          refine rx_iload (i := 4) X dX4_bestOrder_142 rfl ?_
          refine rx_copy X ac_l4 ac_n ac_st ac_in (kc_252 hO) (kc_253 hO) hO.2.2.1 hO.2.2.1 (by decide) (by decide) (nI_n0 (by omega)) (by rw [nI_clamp (by omega)]; show 0 + c ≤ 5; omega) (by rw [nI_clamp (by omega)]; show 0 + c ≤ 5; omega) (by decide) (Nat.le_of_ble_eq_true rfl) dX4_bestOrder_144 ?_
          refine rx_iinc (i := 6) (lo2 := [(0, .ref _), (1, .ref _), (2, .int _), (3, .int _), (4, .int _), (5, .int _), (6, .int _), (7, .int _)]) X dX4_bestOrder_147 rfl (rx_inc1 _) (by decide) rfl ?_
          refine rx_goto X dX4_bestOrder_150 ?_
          refine rx_less [0, 1, 2, 3, 4, 5, 6] rfl ?_
          have ev : oc a M c (bn - 1) 0 w = oc a M c 200 0 w := (oc_less hbn).2 (Int32.not_le.mp h125)
          have en : oc a M c (bn - 1) 0 w = nI (rx_N (oc a M c 200 0 w)) := ev.trans (rx_nN (by omega))
          have eN := rx_Ni (x := oc a M c 200 0 w) (by omega)
          refine ih (i + 1) (rx_N (oc a M c 200 0 w)) _ _ _ M M (by omega) (by omega) (nI_1 i) en (by omega) (nx_ok_s hok hnM) ?_ ⟨hM.1, fun q hq => ?_⟩ (fun q hq => ?_) (h102f.1.trans (h642.trans h2)) (fun q hq => ?_) ?_
          · rw [rx_ua_ne (by decide), h102f.2 252 (by omega)]; exact hM
          · rw [rx_ua_s, nI_clamp (by omega)]
            show (if 0 ≤ q ∧ q < 0 + c then _ else _) = _
            rw [if_pos (by omega)]
            show t102.1 252 (0 + (q - 0)) = _
            rw [Nat.zero_add, Nat.sub_zero, h102f.2 252 (by omega)]
            exact hM.2 q hq
          · rw [rx_ua_ne (by omega)]; exact (fun q hq => (h102f.2 q (by omega)).trans ((h64k q (by omega)).trans (hk q hq))) q hq
          · rw [rx_ua_ne (by omega)]; exact h102b q hq
          · rw [hR, od2_1 hnM, od_step, if_pos (Or.inr (Or.inr ⟨by decide, by rw [oc_ab hna]; exact (oc_less hbn).1.mp (Int32.not_le.mp h125)⟩)), oc_ab hna, ev]
      · refine rx_if_eq_t X dX4_bestOrder_67 (by decide) ?_
        refine rx_less [0, 1, 2, 3, 4, 5] rfl ?_
        exact fin _ _ B (by rw [hR, od2_0 hn0]) hB hk h2 hbo
  have ini : ∀ (k : Nat) (i : Nat) (x : Int32) (τ : rx_S), (i + k = c) → (x = nI i) → (∀ k, (k ≤ 242 ∨ 254 ≤ k) → τ.1 k = σ.1 k) → (τ.2 = σ.2) → (∀ q, q < i → τ.1 252 q = nI q) → (∀ q, q < i → τ.1 253 q = nI q) → rx_J O 8 p l e (rx_lv 5) s m args below meth cd (rx_QI O below args s (fun r τ => (if 200 < (od_loop (-1) a 0 c w 120 (nx_id c) (-1) []).1 then -1000000 else (od_loop (-1) a 0 c w 120 (nx_id c) (-1) []).1) = r ∧ nx_is c (τ.1 253) (od_loop (-1) a 0 c w 120 (nx_id c) (-1) []).2 ∧ (∀ k, (k ≤ 242 ∨ 254 ≤ k) → τ.1 k = σ.1 k) ∧ τ.2 = σ.2 ∧ cb_bo τ 243)) 9 [(0, .ref 242), (1, .ref 1), (2, .int (nI a)), (3, .int 0), (4, .int (nI c)), (5, .int x)] [] τ := by
    intro k
    induction k with
    | zero =>
      intro i x τ hi hx hk h2 h5 h6
      obtain rfl : i = c := by omega
      subst hx
      refine rx_iload (i := 5) X dX4_bestOrder_9 rfl ?_
      refine rx_iload (i := 4) X dX4_bestOrder_11 rfl ?_
      refine rx_icmp_ge_t X dX4_bestOrder_13 (Int32.le_refl _) ?_
      refine rx_aload_n (i := 0) X dX4_bestOrder_40 rfl rfl ?_
      refine rx_aload_n (i := 1) X dX4_bestOrder_41 rfl rfl ?_
      refine rx_iload_n (i := 2) X dX4_bestOrder_42 rfl rfl ?_
      refine rx_sipush (v := 200) X dX4_bestOrder_43 (by decide) ?_
      have hid : nx_is i (τ.1 252) (nx_id i) := ⟨by simp [nx_id], fun q hq => by rw [h5 q hq, nx_id_at hq]⟩
      have hid2 : nx_is i (τ.1 253) (nx_id i) := ⟨by simp [nx_id], fun q hq => by rw [h6 q hq, nx_id_at hq]⟩
      have hok := nx_id_ok i (by omega) (by omega)
      have hv0 := oc_b (a := a) (L := nx_id i) (c := i) (f := 200) (n := 0) (w := w) (by omega)
      refine rx_callVi (ci := 4) X vsX4_arrivalInOrder mlX4_89 (kX4_arrivalInOrder hO (n := 200) (hw.out (fun q _ _ => hk q (by omega))) hv hb (by omega) ha ha3 hc hc2 hid (nx_okb_at (nx_ok_b hok)).2) (kc_242 hO) rfl rfl (by decide) (by decide) dX4_bestOrder_46 rfl (Nat.le_of_ble_eq_true rfl) (fun r46 t46 h46 => ?_)
      obtain ⟨rfl, h46f, h46b⟩ := h46
      refine rx_istore (i := 5) (lo2 := [(0, .ref _), (1, .ref _), (2, .int _), (3, .int _), (4, .int _), (5, .int _)]) X dX4_bestOrder_49 (by decide) rfl ?_
      refine rx_iconst (v := 1) X dX4_bestOrder_51 (by decide) ?_
      refine rx_istore (i := 6) (lo2 := [(0, .ref _), (1, .ref _), (2, .int _), (3, .int _), (4, .int _), (5, .int _), (6, .int _)]) X dX4_bestOrder_52 (by decide) rfl ?_
      have eN := rx_Ni (x := oc a (nx_id i) i 200 0 w) (by omega)
      refine loop 119 1 (rx_N (oc a (nx_id i) i 200 0 w)) _ _ _ (nx_id i) (nx_id i) rfl (by omega) rfl (rx_nN (by omega)) (by omega) hok ?_ ?_ (fun q hq => (h46f.2 q (by omega)).trans (hk q hq)) (h46f.1.trans h2) h46b ?_
      · rw [h46f.2 252 (by omega)]; exact hid
      · rw [h46f.2 253 (by omega)]; exact hid2
      · rw [od_step, if_pos (Or.inl (by decide)), oc_ab hna]
    | succ k ih =>
      intro i x τ hi hx hk h2 h5 h6
      subst hx
      refine rx_iload (i := 5) X dX4_bestOrder_9 rfl ?_
      refine rx_iload (i := 4) X dX4_bestOrder_11 rfl ?_
      refine rx_icmp_ge_f X dX4_bestOrder_13 (nI_ge (by omega) (by omega)) ?_
      refine rx_aload_n (i := 0) X dX4_bestOrder_16 rfl rfl ?_
      refine rx_getR (ci := 4) (i := 1) X (kc_242 hO) rfl rfl (by decide) inX4 flX4_18 dX4_bestOrder_17 ?_
      refine rx_iload (i := 5) X dX4_bestOrder_20 rfl ?_
      refine rx_iload (i := 5) X dX4_bestOrder_22 rfl ?_
      refine rx_iastN (j := i) X (kc_252 hO) hO.2.2.1 rfl (by omega) (by decide) dX4_bestOrder_24 ?_
      refine rx_aload_n (i := 0) X dX4_bestOrder_25 rfl rfl ?_
      refine rx_getR (ci := 4) (i := 2) X (kc_242 hO) rfl rfl (by decide) inX4 flX4_22 dX4_bestOrder_26 ?_
      refine rx_iload (i := 5) X dX4_bestOrder_29 rfl ?_
      refine rx_iload (i := 5) X dX4_bestOrder_31 rfl ?_
      refine rx_iastN (j := i) X (kc_253 hO) hO.2.2.1 rfl (by omega) (by decide) dX4_bestOrder_33 ?_
      refine rx_iinc (i := 5) (lo2 := [(0, .ref _), (1, .ref _), (2, .int _), (3, .int _), (4, .int _), (5, .int _)]) X dX4_bestOrder_34 rfl (rx_inc1 _) (by decide) rfl ?_
      refine rx_goto X dX4_bestOrder_37 ?_
      refine ih (i + 1) _ _ (by omega) (nI_1 i) (fun q hq => ?_) ?_ (fun q hq => ?_) (fun q hq => ?_)
      · rw [rx_u_ne (by omega), rx_u_ne (by omega)]; exact hk q hq
      · exact h2
      · rw [rx_u_ne (by decide), rx_u_s]
        by_cases e : q = i
        · subst e; rw [upd_s]
        · rw [upd_n e]; exact h5 q (by omega)
      · rw [rx_u_s]
        by_cases e : q = i
        · subst e; rw [upd_s]
        · rw [upd_n e, rx_u_ne (by decide)]; exact h6 q (by omega)
  refine rx_aload_n (i := 1) X dX4_bestOrder_0 rfl rfl ?_
  refine rx_getI (ci := 3) (i := 2) X (kb_0 hO cb_B1) rfl rfl (by decide) inX3 flX4_80 dX4_bestOrder_1 ?_
  refine rx_top (hw.2.1.1.2.2.1.trans hc2) ?_
  refine rx_istore (i := 4) (lo2 := [(0, .ref _), (1, .ref _), (2, .int _), (3, .int _), (4, .int _)]) X dX4_bestOrder_4 (by decide) rfl ?_
  refine rx_iconst (v := 0) X dX4_bestOrder_6 (by decide) ?_
  refine rx_istore (i := 5) (lo2 := [(0, .ref _), (1, .ref _), (2, .int _), (3, .int _), (4, .int _), (5, .int _)]) X dX4_bestOrder_7 (by decide) rfl ?_
  exact ini c 0 _ _ (by omega) rfl (fun _ _ => rfl) rfl (fun q hq => absurd hq (by omega)) (fun q hq => absurd hq (by omega))
set_option maxHeartbeats 1000000 in
set_option maxRecDepth 100000 in
theorem kX4_bestOrder1 {l : Launch} {O : rx_O} (hO : cb_O O) {σ : rx_S} {a c : Nat} {w : Nat → Int32} (hw : cb_R cb_T σ 1 w) (hv : w_V 999 w) (hb : w_B w) (ha : a < 6) (ha3 : a < rx_N (w 3)) (hna : ¬ w_has (w 4) a) (hc : 1 ≤ c ∧ c ≤ 5) (hc2 : w 2 = nI c) : rx_MI l O yX4_bestOrder cX4_bestOrder 8 (some .int) 5 [.ref 242, .ref 1, .int (nI a), .int 1] σ (fun r τ => (if 200 < (od_loop (-1) a 1 c w 120 (nx_id c) (-1) []).1 then -1000000 else (od_loop (-1) a 1 c w 120 (nx_id c) (-1) []).1) = r ∧ nx_is c (τ.1 253) (od_loop (-1) a 1 c w 120 (nx_id c) (-1) []).2 ∧ (∀ k, (k ≤ 242 ∨ 254 ≤ k) → τ.1 k = σ.1 k) ∧ τ.2 = σ.2 ∧ cb_bo τ 243) := by
  refine rx_Met_of (own := RX4) rfl hO.2.1 vsX4_bestOrder.2.2.2.2.2 (Nat.le_of_ble_eq_true rfl) rfl (fun p e s m args below meth cd X => ?_)
  have fin : ∀ (τ : rx_S) (z : Int32) (B : List Int32), (od_loop (-1) a 1 c w 120 (nx_id c) (-1) []) = (z, B) → nx_is c (τ.1 253) B → (∀ k, (k ≤ 242 ∨ 254 ≤ k) → τ.1 k = σ.1 k) → τ.2 = σ.2 → cb_bo τ 243 → rx_J O 8 p l e (rx_lv 5) s m args below meth cd (rx_QI O below args s (fun r τ => (if 200 < (od_loop (-1) a 1 c w 120 (nx_id c) (-1) []).1 then -1000000 else (od_loop (-1) a 1 c w 120 (nx_id c) (-1) []).1) = r ∧ nx_is c (τ.1 253) (od_loop (-1) a 1 c w 120 (nx_id c) (-1) []).2 ∧ (∀ k, (k ≤ 242 ∨ 254 ≤ k) → τ.1 k = σ.1 k) ∧ τ.2 = σ.2 ∧ cb_bo τ 243)) 153 [(0, .ref 242), (1, .ref 1), (2, .int (nI a)), (3, .int 1), (4, .int (nI c)), (5, .int z)] [] τ := by
    intro τ z B hR hB hk h2 hbo
    refine rx_iload (i := 5) X dX4_bestOrder_153 rfl ?_
    refine rx_sipush (v := 200) X dX4_bestOrder_155 (by decide) ?_
    refine rx_icmp_le X dX4_bestOrder_158 (fun h158 => ?_) (fun h158 => ?_)
    · refine rx_iload (i := 5) X dX4_bestOrder_166 rfl ?_
      refine rx_iret X dX4_bestOrder_168 ?_
      refine ⟨?_, by rw [hR]; exact hB, hk, h2, hbo⟩
      rw [hR]
      exact if_neg (Int32.not_lt.mpr h158)
    · refine rx_ldc X dX4_bestOrder_161 kcX4_60 ?_
      refine rx_goto X dX4_bestOrder_163 ?_
      refine rx_iret X dX4_bestOrder_168 ?_
      refine ⟨?_, by rw [hR]; exact hB, hk, h2, hbo⟩
      rw [hR]
      exact if_pos (Int32.not_le.mp h158)
  have loop : ∀ (k : Nat) (i bn : Nat) (x z : Int32) (τ : rx_S) (L B : List Int32), (i + k = 120) → (1 ≤ i) → (x = nI i) → (z = nI bn) → (1 ≤ bn ∧ bn ≤ 201) → (nx_ok c (k + 1) L = true) → (nx_is c (τ.1 252) L) → (nx_is c (τ.1 253) B) → (∀ k, (k ≤ 242 ∨ 254 ≤ k) → τ.1 k = σ.1 k) → (τ.2 = σ.2) → (cb_bo τ 243) → ((od_loop (-1) a 1 c w 120 (nx_id c) (-1) []) = od2 a 1 c w k L z B) → rx_J O 8 p l e (rx_lv 5) s m args below meth cd (rx_QI O below args s (fun r τ => (if 200 < (od_loop (-1) a 1 c w 120 (nx_id c) (-1) []).1 then -1000000 else (od_loop (-1) a 1 c w 120 (nx_id c) (-1) []).1) = r ∧ nx_is c (τ.1 253) (od_loop (-1) a 1 c w 120 (nx_id c) (-1) []).2 ∧ (∀ k, (k ≤ 242 ∨ 254 ≤ k) → τ.1 k = σ.1 k) ∧ τ.2 = σ.2 ∧ cb_bo τ 243)) 54 [(0, .ref 242), (1, .ref 1), (2, .int (nI a)), (3, .int 1), (4, .int (nI c)), (5, .int z), (6, .int x)] [] τ := by
    intro k
    induction k with
    | zero =>
      intro i bn x z τ L B hi hi1 hx hz hbn hok hL hB hk h2 hbo hR
      obtain rfl : i = 120 := by omega
      subst hx
      refine rx_iload (i := 6) X dX4_bestOrder_54 rfl ?_
      refine rx_bipush (v := 120) X dX4_bestOrder_56 (by decide) ?_
      refine rx_icmp_ge_t X dX4_bestOrder_58 (by decide) ?_
      refine rx_less [0, 1, 2, 3, 4, 5] rfl ?_
      exact fin τ _ B (by rw [hR, od2_z]) hB hk h2 hbo
    | succ k ih =>
      intro i bn x z τ L B hi hi1 hx hz hbn hok hL hB hk h2 hbo hR
      subst hx
      subst hz
      refine rx_iload (i := 6) X dX4_bestOrder_54 rfl ?_
      refine rx_bipush (v := 120) X dX4_bestOrder_56 (by decide) ?_
      refine rx_icmp_ge_f X dX4_bestOrder_58 (nI_ge (b := 120) (by omega) (by decide)) ?_
      refine rx_aload_n (i := 0) X dX4_bestOrder_61 rfl rfl ?_
      refine rx_iload (i := 4) X dX4_bestOrder_62 rfl ?_
      refine rx_callVi (ci := 4) X vsX4_nextOrder mlX4_93 (kX4_nextOrder hO hc hL) (kc_242 hO) rfl rfl (by decide) (by decide) dX4_bestOrder_64 rfl (Nat.le_of_ble_eq_true rfl) (fun r64 t64 h64 => ?_)
      obtain ⟨h64k, h642, ⟨rfl, M, hnM, hM⟩ | ⟨rfl, hn0, rfl⟩⟩ := h64
      · refine rx_if_eq_f X dX4_bestOrder_67 (by decide) ?_
        refine rx_iload_n (i := 3) X dX4_bestOrder_70 rfl rfl ?_
        refine rx_if_eq_f X dX4_bestOrder_71 (by decide) ?_
        refine rx_iload (i := 5) X dX4_bestOrder_74 rfl ?_
        refine rx_sipush (v := 200) X dX4_bestOrder_76 (by decide) ?_
        refine rx_icmp_le X dX4_bestOrder_79 (fun h79 => ?_) (fun h79 => ?_)
        · refine rx_aload_n (i := 0) X dX4_bestOrder_85 rfl rfl ?_
          refine rx_aload_n (i := 1) X dX4_bestOrder_86 rfl rfl ?_
          refine rx_iload_n (i := 2) X dX4_bestOrder_87 rfl rfl ?_
          refine rx_iload_n (i := 3) X dX4_bestOrder_88 rfl rfl ?_
          refine rx_if_eq_f X dX4_bestOrder_89 (by decide) ?_
          refine rx_sipush (v := 200) X dX4_bestOrder_92 (by decide) ?_
          refine rx_goto X dX4_bestOrder_95 ?_
          have hLv := (nx_okb_at (nx_ok_b (nx_ok_s hok hnM))).2
          have hbo2 : cb_bo t64 243 := fun q hq => by rw [h64k _ (by omega)]; exact hbo q hq
          have hw2 : cb_R cb_T t64 1 w := hw.out (fun q _ _ => (h64k q (by omega)).trans (hk q (by omega)))
          have hv0 := oc_b (a := a) (L := M) (c := c) (f := 200) (n := 0) (w := w) (by omega)
          
          refine rx_callVi (ci := 4) X vsX4_arrivalInOrder mlX4_89 (kX4_arrivalInOrder hO (n := 200) hw2 hv hb (by omega) ha ha3 hc hc2 hM hLv) (kc_242 hO) rfl rfl (by decide) (by decide) dX4_bestOrder_102 rfl (Nat.le_of_ble_eq_true rfl) (fun r102 t102 h102 => ?_)
          obtain ⟨rfl, h102f, h102b⟩ := h102
          refine rx_istore (i := 7) (lo2 := [(0, .ref _), (1, .ref _), (2, .int _), (3, .int _), (4, .int _), (5, .int _), (6, .int _), (7, .int _)]) X dX4_bestOrder_105 (by decide) rfl ?_
          refine rx_iload_n (i := 3) X dX4_bestOrder_107 rfl rfl ?_
          refine rx_if_eq_f X dX4_bestOrder_108 (by decide) ?_
          refine rx_iload (i := 7) X dX4_bestOrder_111 rfl ?_
          refine rx_iload (i := 5) X dX4_bestOrder_113 rfl ?_
          refine rx_icmp_le X dX4_bestOrder_115 (fun h115 => ?_) (fun h115 => ?_)
          · refine rx_iinc (i := 6) (lo2 := [(0, .ref _), (1, .ref _), (2, .int _), (3, .int _), (4, .int _), (5, .int _), (6, .int _), (7, .int _)]) X dX4_bestOrder_147 rfl (rx_inc1 _) (by decide) rfl ?_
            refine rx_goto X dX4_bestOrder_150 ?_
            refine rx_less [0, 1, 2, 3, 4, 5, 6] rfl ?_
            refine ih (i + 1) bn _ _ _ M B (by omega) (by omega) (nI_1 i) rfl hbn (nx_ok_s hok hnM) ?_ ?_ (fun q hq => (h102f.2 q (by omega)).trans ((h64k q (by omega)).trans (hk q hq))) (h102f.1.trans (h642.trans h2)) h102b ?_
            · rw [h102f.2 252 (by omega)]; exact hM
            · rw [h102f.2 253 (by omega), h64k 253 (by omega)]; exact hB
            · rw [hR, od2_1 hnM, od_step, if_neg]
              rintro (z | z | z)
              · exact absurd (Int32.lt_iff_toInt_lt.mp z) (by rw [nI_toInt (by omega)]; show ¬ _ < (0 : Int); omega)
              · rw [oc_ab hna] at z; exact absurd z.2 (Int32.not_lt.mpr h115)
              · exact z.1 rfl
          · refine rx_goto X dX4_bestOrder_118 ?_
            refine rx_iload (i := 7) X dX4_bestOrder_128 rfl ?_
            refine rx_istore (i := 5) (lo2 := [(0, .ref _), (1, .ref _), (2, .int _), (3, .int _), (4, .int _), (5, .int _), (6, .int _), (7, .int _)]) X dX4_bestOrder_130 (by decide) rfl ?_
            refine rx_aload_n (i := 0) X dX4_bestOrder_132 rfl rfl ?_
            refine rx_getR (ci := 4) (i := 1) X (kc_242 hO) rfl rfl (by decide) inX4 flX4_18 dX4_bestOrder_133 ?_
            refine rx_iconst (v := 0) X dX4_bestOrder_136 (by decide) ?_
            refine rx_aload_n (i := 0) X dX4_bestOrder_137 rfl rfl ?_
            refine rx_getR (ci := 4) (i := 2) X (kc_242 hO) rfl rfl (by decide) inX4 flX4_22 dX4_bestOrder_138 ?_
            refine rx_iconst (v := 0) X dX4_bestOrder_141 (by decide) ?_
            refine rx_iload (i := 4) X dX4_bestOrder_142 rfl ?_
            refine rx_copy X ac_l4 ac_n ac_st ac_in (kc_252 hO) (kc_253 hO) hO.2.2.1 hO.2.2.1 (by decide) (by decide) (nI_n0 (by omega)) (by rw [nI_clamp (by omega)]; show 0 + c ≤ 5; omega) (by rw [nI_clamp (by omega)]; show 0 + c ≤ 5; omega) (by decide) (Nat.le_of_ble_eq_true rfl) dX4_bestOrder_144 ?_
            refine rx_iinc (i := 6) (lo2 := [(0, .ref _), (1, .ref _), (2, .int _), (3, .int _), (4, .int _), (5, .int _), (6, .int _), (7, .int _)]) X dX4_bestOrder_147 rfl (rx_inc1 _) (by decide) rfl ?_
            refine rx_goto X dX4_bestOrder_150 ?_
            refine rx_less [0, 1, 2, 3, 4, 5, 6] rfl ?_
            have ev : oc a M c 200 0 w = oc a M c 200 0 w := rfl
            have en : oc a M c 200 0 w = nI (rx_N (oc a M c 200 0 w)) := ev.trans (rx_nN (by omega))
            have eN := rx_Ni (x := oc a M c 200 0 w) (by omega)
            refine ih (i + 1) (rx_N (oc a M c 200 0 w)) _ _ _ M M (by omega) (by omega) (nI_1 i) en (by omega) (nx_ok_s hok hnM) ?_ ⟨hM.1, fun q hq => ?_⟩ (fun q hq => ?_) (h102f.1.trans (h642.trans h2)) (fun q hq => ?_) ?_
            · rw [rx_ua_ne (by decide), h102f.2 252 (by omega)]; exact hM
            · rw [rx_ua_s, nI_clamp (by omega)]
              show (if 0 ≤ q ∧ q < 0 + c then _ else _) = _
              rw [if_pos (by omega)]
              show t102.1 252 (0 + (q - 0)) = _
              rw [Nat.zero_add, Nat.sub_zero, h102f.2 252 (by omega)]
              exact hM.2 q hq
            · rw [rx_ua_ne (by omega)]; exact (fun q hq => (h102f.2 q (by omega)).trans ((h64k q (by omega)).trans (hk q hq))) q hq
            · rw [rx_ua_ne (by omega)]; exact h102b q hq
            · rw [hR, od2_1 hnM, od_step, if_pos (Or.inr (Or.inl ⟨rfl, by rw [oc_ab hna]; exact Int32.not_le.mp h115⟩)), oc_ab hna]
        · refine rx_goto X dX4_bestOrder_82 ?_
          refine rx_less [0, 1, 2, 3, 4, 5] rfl ?_
          have h201 : bn = 201 := by
            have := h79
            rw [Int32.le_iff_toInt_le, nI_toInt (by omega)] at this
            have e2 : (200 : Int32).toInt = 200 := rfl
            omega
          subst h201
          exact fin _ _ B (by rw [hR, od2_1 hnM, od_late hna]) (by rw [h64k 253 (by omega)]; exact hB) (fun q hq => (h64k q (by omega)).trans (hk q hq)) (h642.trans h2) (fun q hq => by rw [h64k _ (by omega)]; exact hbo q hq)
      · refine rx_if_eq_t X dX4_bestOrder_67 (by decide) ?_
        refine rx_less [0, 1, 2, 3, 4, 5] rfl ?_
        exact fin _ _ B (by rw [hR, od2_0 hn0]) hB hk h2 hbo
  have ini : ∀ (k : Nat) (i : Nat) (x : Int32) (τ : rx_S), (i + k = c) → (x = nI i) → (∀ k, (k ≤ 242 ∨ 254 ≤ k) → τ.1 k = σ.1 k) → (τ.2 = σ.2) → (∀ q, q < i → τ.1 252 q = nI q) → (∀ q, q < i → τ.1 253 q = nI q) → rx_J O 8 p l e (rx_lv 5) s m args below meth cd (rx_QI O below args s (fun r τ => (if 200 < (od_loop (-1) a 1 c w 120 (nx_id c) (-1) []).1 then -1000000 else (od_loop (-1) a 1 c w 120 (nx_id c) (-1) []).1) = r ∧ nx_is c (τ.1 253) (od_loop (-1) a 1 c w 120 (nx_id c) (-1) []).2 ∧ (∀ k, (k ≤ 242 ∨ 254 ≤ k) → τ.1 k = σ.1 k) ∧ τ.2 = σ.2 ∧ cb_bo τ 243)) 9 [(0, .ref 242), (1, .ref 1), (2, .int (nI a)), (3, .int 1), (4, .int (nI c)), (5, .int x)] [] τ := by
    intro k
    induction k with
    | zero =>
      intro i x τ hi hx hk h2 h5 h6
      obtain rfl : i = c := by omega
      subst hx
      refine rx_iload (i := 5) X dX4_bestOrder_9 rfl ?_
      refine rx_iload (i := 4) X dX4_bestOrder_11 rfl ?_
      refine rx_icmp_ge_t X dX4_bestOrder_13 (Int32.le_refl _) ?_
      refine rx_aload_n (i := 0) X dX4_bestOrder_40 rfl rfl ?_
      refine rx_aload_n (i := 1) X dX4_bestOrder_41 rfl rfl ?_
      refine rx_iload_n (i := 2) X dX4_bestOrder_42 rfl rfl ?_
      refine rx_sipush (v := 200) X dX4_bestOrder_43 (by decide) ?_
      have hid : nx_is i (τ.1 252) (nx_id i) := ⟨by simp [nx_id], fun q hq => by rw [h5 q hq, nx_id_at hq]⟩
      have hid2 : nx_is i (τ.1 253) (nx_id i) := ⟨by simp [nx_id], fun q hq => by rw [h6 q hq, nx_id_at hq]⟩
      have hok := nx_id_ok i (by omega) (by omega)
      have hv0 := oc_b (a := a) (L := nx_id i) (c := i) (f := 200) (n := 0) (w := w) (by omega)
      refine rx_callVi (ci := 4) X vsX4_arrivalInOrder mlX4_89 (kX4_arrivalInOrder hO (n := 200) (hw.out (fun q _ _ => hk q (by omega))) hv hb (by omega) ha ha3 hc hc2 hid (nx_okb_at (nx_ok_b hok)).2) (kc_242 hO) rfl rfl (by decide) (by decide) dX4_bestOrder_46 rfl (Nat.le_of_ble_eq_true rfl) (fun r46 t46 h46 => ?_)
      obtain ⟨rfl, h46f, h46b⟩ := h46
      refine rx_istore (i := 5) (lo2 := [(0, .ref _), (1, .ref _), (2, .int _), (3, .int _), (4, .int _), (5, .int _)]) X dX4_bestOrder_49 (by decide) rfl ?_
      refine rx_iconst (v := 1) X dX4_bestOrder_51 (by decide) ?_
      refine rx_istore (i := 6) (lo2 := [(0, .ref _), (1, .ref _), (2, .int _), (3, .int _), (4, .int _), (5, .int _), (6, .int _)]) X dX4_bestOrder_52 (by decide) rfl ?_
      have eN := rx_Ni (x := oc a (nx_id i) i 200 0 w) (by omega)
      refine loop 119 1 (rx_N (oc a (nx_id i) i 200 0 w)) _ _ _ (nx_id i) (nx_id i) rfl (by omega) rfl (rx_nN (by omega)) (by omega) hok ?_ ?_ (fun q hq => (h46f.2 q (by omega)).trans (hk q hq)) (h46f.1.trans h2) h46b ?_
      · rw [h46f.2 252 (by omega)]; exact hid
      · rw [h46f.2 253 (by omega)]; exact hid2
      · rw [od_step, if_pos (Or.inl (by decide)), oc_ab hna]
    | succ k ih =>
      intro i x τ hi hx hk h2 h5 h6
      subst hx
      refine rx_iload (i := 5) X dX4_bestOrder_9 rfl ?_
      refine rx_iload (i := 4) X dX4_bestOrder_11 rfl ?_
      refine rx_icmp_ge_f X dX4_bestOrder_13 (nI_ge (by omega) (by omega)) ?_
      refine rx_aload_n (i := 0) X dX4_bestOrder_16 rfl rfl ?_
      refine rx_getR (ci := 4) (i := 1) X (kc_242 hO) rfl rfl (by decide) inX4 flX4_18 dX4_bestOrder_17 ?_
      refine rx_iload (i := 5) X dX4_bestOrder_20 rfl ?_
      refine rx_iload (i := 5) X dX4_bestOrder_22 rfl ?_
      refine rx_iastN (j := i) X (kc_252 hO) hO.2.2.1 rfl (by omega) (by decide) dX4_bestOrder_24 ?_
      refine rx_aload_n (i := 0) X dX4_bestOrder_25 rfl rfl ?_
      refine rx_getR (ci := 4) (i := 2) X (kc_242 hO) rfl rfl (by decide) inX4 flX4_22 dX4_bestOrder_26 ?_
      refine rx_iload (i := 5) X dX4_bestOrder_29 rfl ?_
      refine rx_iload (i := 5) X dX4_bestOrder_31 rfl ?_
      refine rx_iastN (j := i) X (kc_253 hO) hO.2.2.1 rfl (by omega) (by decide) dX4_bestOrder_33 ?_
      refine rx_iinc (i := 5) (lo2 := [(0, .ref _), (1, .ref _), (2, .int _), (3, .int _), (4, .int _), (5, .int _)]) X dX4_bestOrder_34 rfl (rx_inc1 _) (by decide) rfl ?_
      refine rx_goto X dX4_bestOrder_37 ?_
      refine ih (i + 1) _ _ (by omega) (nI_1 i) (fun q hq => ?_) ?_ (fun q hq => ?_) (fun q hq => ?_)
      · rw [rx_u_ne (by omega), rx_u_ne (by omega)]; exact hk q hq
      · exact h2
      · rw [rx_u_ne (by decide), rx_u_s]
        by_cases e : q = i
        · subst e; rw [upd_s]
        · rw [upd_n e]; exact h5 q (by omega)
      · rw [rx_u_s]
        by_cases e : q = i
        · subst e; rw [upd_s]
        · rw [upd_n e, rx_u_ne (by decide)]; exact h6 q (by omega)
  refine rx_aload_n (i := 1) X dX4_bestOrder_0 rfl rfl ?_
  refine rx_getI (ci := 3) (i := 2) X (kb_0 hO cb_B1) rfl rfl (by decide) inX3 flX4_80 dX4_bestOrder_1 ?_
  refine rx_top (hw.2.1.1.2.2.1.trans hc2) ?_
  refine rx_istore (i := 4) (lo2 := [(0, .ref _), (1, .ref _), (2, .int _), (3, .int _), (4, .int _)]) X dX4_bestOrder_4 (by decide) rfl ?_
  refine rx_iconst (v := 0) X dX4_bestOrder_6 (by decide) ?_
  refine rx_istore (i := 5) (lo2 := [(0, .ref _), (1, .ref _), (2, .int _), (3, .int _), (4, .int _), (5, .int _)]) X dX4_bestOrder_7 (by decide) rfl ?_
  exact ini c 0 _ _ (by omega) rfl (fun _ _ => rfl) rfl (fun q hq => absurd hq (by omega)) (fun q hq => absurd hq (by omega))
