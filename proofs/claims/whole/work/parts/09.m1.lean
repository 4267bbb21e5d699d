set_option maxHeartbeats 4000000 in
set_option maxRecDepth 100000 in
theorem kX8_in {l : Launch} {O : rx_O} (hO : mo_O O) {σ : rx_S} {v lo hi : Int64} : rx_MI l O yX8_in cX8_in 6 (some .boolean) 0 [.long v, .long lo, .long hi] σ (fun r τ => σ = τ ∧ rx_b (lo.toInt ≤ v.toInt ∧ v.toInt ≤ hi.toInt) r) := by
  refine rx_Met_of (own := RX8) rfl hO.2.1 vsX8_in.2.2.2.2 (Nat.le_of_ble_eq_true rfl) rfl (fun p e s m args below meth c X => ?_)
  refine rx_lload_n (i := 0) X dX8_in_0 rfl rfl ?_
  refine rx_lload_n (i := 2) X dX8_in_1 rfl rfl ?_
  refine rx_lcmp X dX8_in_2 ?_
  refine rx_if_lt X dX8_in_3 (fun h3 => ?_) (fun h3 => ?_)
  · refine rx_iconst (v := 0) X dX8_in_17 (by decide) ?_
    refine rx_zret X dX8_in_18 rfl ?_
    exact ⟨rfl, by first | exact Or.inl ⟨rfl, by simp only [lg_cmp_lt, lg_cmp_gt, Int64.lt_iff_toInt_lt] at *; omega⟩ | exact Or.inr ⟨rfl, by simp only [lg_cmp_lt, lg_cmp_gt, Int64.lt_iff_toInt_lt] at *; omega⟩⟩
  · refine rx_lload_n (i := 0) X dX8_in_6 rfl rfl ?_
    refine rx_lload (i := 4) X dX8_in_7 rfl ?_
    refine rx_lcmp X dX8_in_9 ?_
    refine rx_if_gt X dX8_in_10 (fun h10 => ?_) (fun h10 => ?_)
    · refine rx_iconst (v := 0) X dX8_in_17 (by decide) ?_
      refine rx_zret X dX8_in_18 rfl ?_
      exact ⟨rfl, by first | exact Or.inl ⟨rfl, by simp only [lg_cmp_lt, lg_cmp_gt, Int64.lt_iff_toInt_lt] at *; omega⟩ | exact Or.inr ⟨rfl, by simp only [lg_cmp_lt, lg_cmp_gt, Int64.lt_iff_toInt_lt] at *; omega⟩⟩
    · refine rx_iconst (v := 1) X dX8_in_13 (by decide) ?_
      refine rx_goto X dX8_in_14 ?_
      refine rx_zret X dX8_in_18 rfl ?_
      exact ⟨rfl, by first | exact Or.inl ⟨rfl, by simp only [lg_cmp_lt, lg_cmp_gt, Int64.lt_iff_toInt_lt] at *; omega⟩ | exact Or.inr ⟨rfl, by simp only [lg_cmp_lt, lg_cmp_gt, Int64.lt_iff_toInt_lt] at *; omega⟩⟩
theorem kX8_inI {l : Launch} {O : rx_O} (hO : mo_O O) {σ : rx_S} {x : Int32} {a b : Int64} {A B : Int} (ha : a.toInt = A) (hb : b.toInt = B) : rx_MI l O yX8_in cX8_in 6 (some .boolean) 0 [.long x.toInt64, .long a, .long b] σ (fun r τ => σ = τ ∧ rx_b (A ≤ x.toInt ∧ x.toInt ≤ B) r) := by
  have h := kX8_in (l := l) hO (σ := σ) (v := x.toInt64) (lo := a) (hi := b)
  rw [Int32.toInt_toInt64, ha, hb] at h
  exact h
set_option maxHeartbeats 4000000 in
set_option maxRecDepth 100000 in
theorem kX8_has {l : Launch} {O : rx_O} (hO : mo_O O) {σ : rx_S} {x y : Int32} : rx_MI l O yX8_has cX8_has 2 (some .boolean) 0 [.int x, .int y] σ (fun r τ => σ = τ ∧ rx_b (x >>> (y &&& 31) &&& 1 = 1) r) := by
  refine rx_Met_of (own := RX8) rfl hO.2.1 vsX8_has.2.2.2.2 (Nat.le_of_ble_eq_true rfl) rfl (fun p e s m args below meth c X => ?_)
  refine rx_iload_n (i := 0) X dX8_has_0 rfl rfl ?_
  refine rx_iload_n (i := 1) X dX8_has_1 rfl rfl ?_
  refine rx_ishr X dX8_has_2 ?_
  refine rx_iconst (v := 1) X dX8_has_3 (by decide) ?_
  refine rx_iand X dX8_has_4 ?_
  refine rx_iconst (v := 1) X dX8_has_5 (by decide) ?_
  refine rx_icmp_ne X dX8_has_6 (fun h6 => ?_) (fun h6 => ?_)
  · refine rx_iconst (v := 0) X dX8_has_13 (by decide) ?_
    refine rx_zret X dX8_has_14 rfl ?_
    exact ⟨rfl, by first | exact Or.inl ⟨rfl, by assumption⟩ | exact Or.inr ⟨rfl, by assumption⟩ | exact Or.inl ⟨rfl, Decidable.of_not_not (by assumption)⟩⟩
  · refine rx_iconst (v := 1) X dX8_has_9 (by decide) ?_
    refine rx_goto X dX8_has_10 ?_
    refine rx_zret X dX8_has_14 rfl ?_
    exact ⟨rfl, by first | exact Or.inl ⟨rfl, by assumption⟩ | exact Or.inr ⟨rfl, by assumption⟩ | exact Or.inl ⟨rfl, Decidable.of_not_not (by assumption)⟩⟩
set_option maxHeartbeats 4000000 in
set_option maxRecDepth 100000 in
theorem kX8_find {l : Launch} {O : rx_O} (hO : mo_O O) {σ : rx_S} {f : Int32} : rx_MI l O yX8_find cX8_find 2 (some .int) 0 [.ref 0, .int f] σ (fun r τ => -1000010 - f = r ∧ rx_u σ 0 3 f = τ) := by
  refine rx_Met_of (own := RX8) rfl hO.2.1 vsX8_find.2.2.2.2.2 (Nat.le_of_ble_eq_true rfl) rfl (fun p e s m args below meth c X => ?_)
  refine rx_aload_n (i := 0) X dX8_find_0 rfl rfl ?_
  refine rx_iload_n (i := 1) X dX8_find_1 rfl rfl ?_
  refine rx_putI (ci := 8) (i := 3) X (km_0 hO) rfl rfl (by decide) inX8 tyX8 tyX8_ok nmX8 flX8_57 rfl rfl dX8_find_2 ?_
  refine rx_ldc X dX8_find_5 kcX8_60 ?_
  refine rx_iload_n (i := 1) X dX8_find_7 rfl rfl ?_
  refine rx_isub X dX8_find_8 ?_
  refine rx_iret X dX8_find_9 ?_
  exact ⟨rfl, rfl⟩
set_option maxHeartbeats 4000000 in
set_option maxRecDepth 100000 in
theorem kX8_well {l : Launch} {O : rx_O} (hO : mo_O O) {σ : rx_S} {f : Int32} : rx_MI l O yX8_well cX8_well 2 (some .int) 0 [.ref 0, .int f] σ (fun r τ => f = r ∧ rx_u σ 0 3 0 = τ) := by
  refine rx_Met_of (own := RX8) rfl hO.2.1 vsX8_well.2.2.2.2.2 (Nat.le_of_ble_eq_true rfl) rfl (fun p e s m args below meth c X => ?_)
  refine rx_aload_n (i := 0) X dX8_well_0 rfl rfl ?_
  refine rx_iconst (v := 0) X dX8_well_1 (by decide) ?_
  refine rx_putI (ci := 8) (i := 3) X (km_0 hO) rfl rfl (by decide) inX8 tyX8 tyX8_ok nmX8 flX8_57 rfl rfl dX8_well_2 ?_
  refine rx_iload_n (i := 1) X dX8_well_5 rfl rfl ?_
  refine rx_iret X dX8_well_6 ?_
  exact ⟨rfl, rfl⟩
set_option maxHeartbeats 4000000 in
set_option maxRecDepth 100000 in
theorem kX8_isRow {l : Launch} {O : rx_O} (hO : mo_O O) {σ : rx_S} {x : Int32} : rx_MI l O yX8_isRow cX8_isRow 1 (some .boolean) 1 [.int x] σ (fun r τ => σ = τ ∧ rx_b (0 ≤ x.toInt ∧ x.toInt ≤ 7) r) := by
  refine rx_Met_of (own := RX8) rfl hO.2.1 vsX8_isRow.2.2.2.2 (Nat.le_of_ble_eq_true rfl) rfl (fun p e s m args below meth c X => ?_)
  refine rx_iload_n (i := 0) X dX8_isRow_0 rfl rfl ?_
  refine rx_i2l X dX8_isRow_1 ?_
  refine rx_lconst (v := 0) X dX8_isRow_2 (by decide) ?_
  refine rx_ldc2 X dX8_isRow_3 kcX8_61 ?_
  refine rx_callTi X vsX8_in mlX8_63 (kX8_inI hO (A := 0) (B := 7) rfl rfl) rfl (by decide) (by decide) dX8_isRow_6 rfl (Nat.le_of_ble_eq_true rfl) (fun r6 t6 h6 => ?_)
  obtain ⟨rfl, ⟨rfl, h6⟩ | ⟨rfl, h6⟩⟩ := h6
  · refine rx_zret X dX8_isRow_9 rfl ?_
    exact ⟨rfl, by first | exact Or.inl ⟨rfl, by assumption⟩ | exact Or.inr ⟨rfl, by assumption⟩⟩
  · refine rx_zret X dX8_isRow_9 rfl ?_
    exact ⟨rfl, by first | exact Or.inl ⟨rfl, by assumption⟩ | exact Or.inr ⟨rfl, by assumption⟩⟩
def sp_lane (ln v : Int32) : Int32 := if ln = 0 then (v <<< (24 &&& 31)) >>> (24 &&& 31) else if ln = 1 then (v <<< (16 &&& 31)) >>> (16 &&& 31) else v
set_option maxHeartbeats 4000000 in
set_option maxRecDepth 100000 in
theorem kX8_asLane {l : Launch} {O : rx_O} (hO : mo_O O) {σ : rx_S} {ln v : Int32} : rx_MI l O yX8_asLane cX8_asLane 2 (some .int) 0 [.int ln, .int v] σ (fun r τ => sp_lane ln v = r ∧ σ = τ) := by
  refine rx_Met_of (own := RX8) rfl hO.2.1 vsX8_asLane.2.2.2.2 (Nat.le_of_ble_eq_true rfl) rfl (fun p e s m args below meth c X => ?_)
  refine rx_iload_n (i := 0) X dX8_asLane_0 rfl rfl ?_
  refine rx_if_ne X dX8_asLane_1 (fun h1 => ?_) (fun h1 => ?_)
  · refine rx_iload_n (i := 0) X dX8_asLane_14 rfl rfl ?_
    refine rx_iconst (v := 1) X dX8_asLane_15 (by decide) ?_
    refine rx_icmp_ne X dX8_asLane_16 (fun h16 => ?_) (fun h16 => ?_)
    · refine rx_iload_n (i := 1) X dX8_asLane_29 rfl rfl ?_
      refine rx_iret X dX8_asLane_30 ?_
      refine ⟨?_, rfl⟩
      unfold sp_lane
      simp_all
    · refine rx_iload_n (i := 1) X dX8_asLane_19 rfl rfl ?_
      refine rx_bipush (v := 16) X dX8_asLane_20 (by decide) ?_
      refine rx_ishl X dX8_asLane_22 ?_
      refine rx_bipush (v := 16) X dX8_asLane_23 (by decide) ?_
      refine rx_ishr X dX8_asLane_25 ?_
      refine rx_goto X dX8_asLane_26 ?_
      refine rx_iret X dX8_asLane_30 ?_
      refine ⟨?_, rfl⟩
      unfold sp_lane
      simp_all
  · refine rx_iload_n (i := 1) X dX8_asLane_4 rfl rfl ?_
    refine rx_bipush (v := 24) X dX8_asLane_5 (by decide) ?_
    refine rx_ishl X dX8_asLane_7 ?_
    refine rx_bipush (v := 24) X dX8_asLane_8 (by decide) ?_
    refine rx_ishr X dX8_asLane_10 ?_
    refine rx_goto X dX8_asLane_11 ?_
    refine rx_iret X dX8_asLane_30 ?_
    refine ⟨?_, rfl⟩
    unfold sp_lane
    simp_all
def it_fill (r n : Nat) (f : Nat → Int32) : Nat → Int32 := fun q => if 40 * r ≤ q ∧ q < 40 * r + n then 0 else f q
theorem it_fill_0 (r : Nat) (f : Nat → Int32) : it_fill r 0 f = f := by
  funext q
  unfold it_fill
  rw [if_neg (by omega)]
theorem it_fill_s (r n : Nat) (f : Nat → Int32) : upd (it_fill r n f) (40 * r + n) 0 = it_fill r (n + 1) f := by
  funext q
  unfold upd it_fill
  by_cases h : q = 40 * r + n
  · rw [if_pos h, if_pos (by omega)]
  · rw [if_neg h]
    by_cases h2 : 40 * r ≤ q ∧ q < 40 * r + n
    · rw [if_pos h2, if_pos (by omega)]
    · rw [if_neg h2, if_neg (by omega)]
def sp_row (σ : rx_S) (r ln n : Int32) : Int32 × rx_S :=
  if ¬ (0 ≤ r.toInt ∧ r.toInt ≤ 7) ∨ ¬ (0 ≤ ln.toInt ∧ ln.toInt ≤ 2) ∨ 40 < n.toInt then (-1000001, σ)
  else if n.toInt < 0 then (-1000014, rx_u σ 0 3 4)
  else (n, rx_u (rx_ua (rx_u (rx_u σ 1 (rx_N r) ln) 2 (rx_N r) n) 3 (it_fill (rx_N r) 40 (σ.1 3))) 0 3 0)
set_option maxHeartbeats 4000000 in
set_option maxRecDepth 100000 in
theorem kX8_row {l : Launch} {O : rx_O} (hO : mo_O O) {σ : rx_S} {rw ln n : Int32} : rx_MI l O yX8_row cX8_row 5 (some .int) 2 [.ref 0, .int rw, .int ln, .int n] σ (fun r τ => sp_row σ rw ln n = (r, τ)) := by
  refine rx_Met_of (own := RX8) rfl hO.2.1 vsX8_row.2.2.2.2.2 (Nat.le_of_ble_eq_true rfl) rfl (fun p e s m args below meth c X => ?_)
  have loop0 : (0 ≤ rw.toInt ∧ rw.toInt ≤ 7) → (0 ≤ ln.toInt ∧ ln.toInt ≤ 2) → n.toInt ≤ 40 → 0 ≤ n.toInt → rx_J O 5 p l e (rx_lv 2) s m args below meth c (rx_QI O below args s (fun r τ => sp_row σ rw ln n = (r, τ))) 55 [(0, .ref 0), (1, .int rw), (2, .int ln), (3, .int n), (4, .int 0)] [] (rx_u (rx_u σ 1 (rx_N rw) ln) 2 (rx_N rw) n) := by
    intro h1 h13 h19 h29
    have loop : ∀ (k : Nat) (i : Nat) (x : Int32) (τ : rx_S), (i + k = 40) → (x = nI i) → (τ = rx_ua (rx_u (rx_u σ 1 (rx_N rw) ln) 2 (rx_N rw) n) 3 (it_fill (rx_N rw) i (σ.1 3))) → rx_J O 5 p l e (rx_lv 2) s m args below meth c (rx_QI O below args s (fun r τ => sp_row σ rw ln n = (r, τ))) 55 [(0, .ref 0), (1, .int rw), (2, .int ln), (3, .int n), (4, .int x)] [] τ := by
      intro k
      induction k with
      | zero =>
        intro i x τ hi hx hτ
        obtain rfl : i = 40 := by omega
        subst hx
        subst hτ
        refine rx_iload (i := 4) X dX8_row_55 rfl ?_
        refine rx_bipush (v := 40) X dX8_row_57 (by decide) ?_
        refine rx_icmp_ge_t X dX8_row_59 (nI_le (a := 40) (Nat.le_refl 40) (by decide)) ?_
        refine rx_aload_n (i := 0) X dX8_row_81 rfl rfl ?_
        refine rx_iload_n (i := 3) X dX8_row_82 rfl rfl ?_
        refine rx_callVi (ci := 8) X vsX8_well mlX8_78 (kX8_well hO) (km_0 hO) rfl rfl (by decide) (by decide) dX8_row_83 rfl (Nat.le_of_ble_eq_true rfl) (fun r83 t83 h83 => ?_)
        obtain ⟨rfl, rfl⟩ := h83
        refine rx_iret X dX8_row_86 ?_
        rw [sp_row, if_neg (by omega), if_neg (by omega)]
      | succ k ih =>
        intro i x τ hi hx hτ
        refine rx_iload (i := 4) X dX8_row_55 rfl ?_
        refine rx_bipush (v := 40) X dX8_row_57 (by decide) ?_
        refine rx_icmp_ge_f X dX8_row_59 (by rw [hx]; exact nI_ge (a := i) (b := 40) (by omega) (by decide)) ?_
        refine rx_aload_n (i := 0) X dX8_row_62 rfl rfl ?_
        refine rx_getR (ci := 8) (i := 2) X (km_0 hO) rfl rfl (by decide) inX8 flX8_16 dX8_row_63 ?_
        refine rx_bipush (v := 40) X dX8_row_66 (by decide) ?_
        refine rx_iload_n (i := 1) X dX8_row_68 rfl rfl ?_
        refine rx_imul X dX8_row_69 ?_
        refine rx_iload (i := 4) X dX8_row_70 rfl ?_
        refine rx_iadd X dX8_row_72 ?_
        refine rx_iconst (v := 0) X dX8_row_73 (by decide) ?_
        refine rx_iastN (j := 40 * rx_N rw + i) X (km_3 hO) hO.2.2.1 (by rw [hx]; exact rx_lin 40 i h1.1) (by have := rx_Ni h1.1; omega) (by decide) dX8_row_74 ?_
        refine rx_iinc (i := 4) (lo2 := [(0, .ref _), (1, .int _), (2, .int _), (3, .int _), (4, .int _)]) X dX8_row_75 rfl (rx_inc1 _) (by decide) rfl ?_
        refine rx_goto X dX8_row_78 ?_
        exact ih (i + 1) _ _ (by omega) (by rw [hx]; exact nI_1 i) (by rw [hτ, rx_u_eq, rx_ua_s, it_fill_s, rx_ua_ua])
    exact loop 40 0 _ _ rfl rfl (by rw [it_fill_0]; exact (rx_ua_self _ 3).symm)
  refine rx_iload_n (i := 1) X dX8_row_0 rfl rfl ?_
  refine rx_callTi X vsX8_isRow mlX8_67 (kX8_isRow hO) rfl (by decide) (by decide) dX8_row_1 rfl (Nat.le_of_ble_eq_true rfl) (fun r1 t1 h1 => ?_)
  obtain ⟨rfl, ⟨rfl, h1⟩ | ⟨rfl, h1⟩⟩ := h1
  · refine rx_if_eq_f X dX8_row_4 (by decide) ?_
    refine rx_iload_n (i := 2) X dX8_row_7 rfl rfl ?_
    refine rx_i2l X dX8_row_8 ?_
    refine rx_lconst (v := 0) X dX8_row_9 (by decide) ?_
    refine rx_ldc2 X dX8_row_10 kcX8_71 ?_
    refine rx_callTi X vsX8_in mlX8_63 (kX8_inI hO (A := 0) (B := 2) rfl rfl) rfl (by decide) (by decide) dX8_row_13 rfl (Nat.le_of_ble_eq_true rfl) (fun r13 t13 h13 => ?_)
    obtain ⟨rfl, ⟨rfl, h13⟩ | ⟨rfl, h13⟩⟩ := h13
    · refine rx_if_eq_f X dX8_row_16 (by decide) ?_
      refine rx_iload_n (i := 3) X dX8_row_19 rfl rfl ?_
      refine rx_bipush (v := 40) X dX8_row_20 (by decide) ?_
      refine rx_icmp_le X dX8_row_22 (fun h22 => ?_) (fun h22 => ?_)
      · try simp only [Int32.lt_iff_toInt_lt, Int32.le_iff_toInt_le, Int32.reduceToInt] at h22
        refine rx_iload_n (i := 3) X dX8_row_28 rfl rfl ?_
        refine rx_if_ge X dX8_row_29 (fun h29 => ?_) (fun h29 => ?_)
        · try simp only [Int32.lt_iff_toInt_lt, Int32.le_iff_toInt_le, Int32.reduceToInt] at h29
          refine rx_aload_n (i := 0) X dX8_row_38 rfl rfl ?_
          refine rx_getR (ci := 8) (i := 0) X (km_0 hO) rfl rfl (by decide) inX8 flX8_7 dX8_row_39 ?_
          refine rx_iload_n (i := 1) X dX8_row_42 rfl rfl ?_
          refine rx_iload_n (i := 2) X dX8_row_43 rfl rfl ?_
          refine rx_iastN (j := rx_N rw) X (km_1 hO) hO.2.2.1 (rx_nN h1.1) (rx_Nlt h1.1 (by omega)) (by decide) dX8_row_44 ?_
          refine rx_aload_n (i := 0) X dX8_row_45 rfl rfl ?_
          refine rx_getR (ci := 8) (i := 1) X (km_0 hO) rfl rfl (by decide) inX8 flX8_13 dX8_row_46 ?_
          refine rx_iload_n (i := 1) X dX8_row_49 rfl rfl ?_
          refine rx_iload_n (i := 3) X dX8_row_50 rfl rfl ?_
          refine rx_iastN (j := rx_N rw) X (km_2 hO) hO.2.2.1 (rx_nN h1.1) (rx_Nlt h1.1 (by omega)) (by decide) dX8_row_51 ?_
          refine rx_iconst (v := 0) X dX8_row_52 (by decide) ?_
          refine rx_istore (i := 4) (lo2 := [(0, .ref _), (1, .int _), (2, .int _), (3, .int _), (4, .int _)]) X dX8_row_53 (by decide) rfl ?_
          exact loop0 h1 h13 (by omega) (by omega)
        · try simp only [Int32.lt_iff_toInt_lt, Int32.le_iff_toInt_le, Int32.reduceToInt] at h29
          refine rx_aload_n (i := 0) X dX8_row_32 rfl rfl ?_
          refine rx_iconst (v := 4) X dX8_row_33 (by decide) ?_
          refine rx_callVi (ci := 8) X vsX8_find mlX8_74 (kX8_find hO) (km_0 hO) rfl rfl (by decide) (by decide) dX8_row_34 rfl (Nat.le_of_ble_eq_true rfl) (fun r34 t34 h34 => ?_)
          obtain ⟨rfl, rfl⟩ := h34
          refine rx_iret X dX8_row_37 ?_
          rw [sp_row]
          first | rw [if_pos (by omega)] | (rw [if_neg (by omega), if_pos (by omega)]; rfl)
      · try simp only [Int32.lt_iff_toInt_lt, Int32.le_iff_toInt_le, Int32.reduceToInt] at h22
        refine rx_ldc X dX8_row_25 kcX8_73 ?_
        refine rx_iret X dX8_row_27 ?_
        rw [sp_row]
        first | rw [if_pos (by omega)] | (rw [if_neg (by omega), if_pos (by omega)]; rfl)
    · refine rx_if_eq_t X dX8_row_16 (by decide) ?_
      refine rx_ldc X dX8_row_25 kcX8_73 ?_
      refine rx_iret X dX8_row_27 ?_
      rw [sp_row]
      first | rw [if_pos (by omega)] | (rw [if_neg (by omega), if_pos (by omega)]; rfl)
  · refine rx_if_eq_t X dX8_row_4 (by decide) ?_
    refine rx_ldc X dX8_row_25 kcX8_73 ?_
    refine rx_iret X dX8_row_27 ?_
    rw [sp_row]
    first | rw [if_pos (by omega)] | (rw [if_neg (by omega), if_pos (by omega)]; rfl)
/-- what the reference's sizes are: -1, or 0 to 40 -/
def mo_sz (σ : rx_S) : Prop := ∀ r, r < 8 → -1 ≤ (σ.1 2 r).toInt ∧ (σ.1 2 r).toInt ≤ 40
def sp_set (σ : rx_S) (r i v : Int32) : Int32 × rx_S :=
  if ¬ (0 ≤ r.toInt ∧ r.toInt ≤ 7) then (-1000001, σ)
  else if (σ.1 2 (rx_N r)).toInt < 0 then (-1000011, rx_u σ 0 3 1)
  else if ¬ (0 ≤ i.toInt ∧ i.toInt < (σ.1 2 (rx_N r)).toInt) then (-1000012, rx_u σ 0 3 2)
  else (sp_lane (σ.1 1 (rx_N r)) v, rx_u (rx_u σ 3 (40 * rx_N r + rx_N i) (sp_lane (σ.1 1 (rx_N r)) v)) 0 3 0)
theorem rx_sub1 {x : Int32} (h : 0 ≤ x.toInt) : (x - 1).toInt = x.toInt - 1 := by
  have h1 := Int32.toInt_lt x
  rw [Int32.toInt_sub, show (1 : Int32).toInt = 1 from rfl, Int.bmod_eq_of_le] <;> omega
set_option maxHeartbeats 4000000 in
set_option maxRecDepth 100000 in
theorem kX8_set {l : Launch} {O : rx_O} (hO : mo_O O) {σ : rx_S} {rw i v : Int32} (hs : mo_sz σ) : rx_MI l O yX8_set cX8_set 4 (some .int) 2 [.ref 0, .int rw, .int i, .int v] σ (fun r τ => sp_set σ rw i v = (r, τ)) := by
  refine rx_Met_of (own := RX8) rfl hO.2.1 vsX8_set.2.2.2.2.2 (Nat.le_of_ble_eq_true rfl) rfl (fun p e s m args below meth c X => ?_)
  refine rx_iload_n (i := 1) X dX8_set_0 rfl rfl ?_
  refine rx_callTi X vsX8_isRow mlX8_67 (kX8_isRow hO) rfl (by decide) (by decide) dX8_set_1 rfl (Nat.le_of_ble_eq_true rfl) (fun r1 t1 h1 => ?_)
  obtain ⟨rfl, ⟨rfl, h1⟩ | ⟨rfl, h1⟩⟩ := h1
  · refine rx_if_ne_t X dX8_set_4 (by decide) ?_
    refine rx_aload_n (i := 0) X dX8_set_10 rfl rfl ?_
    refine rx_getR (ci := 8) (i := 1) X (km_0 hO) rfl rfl (by decide) inX8 flX8_13 dX8_set_11 ?_
    refine rx_iload_n (i := 1) X dX8_set_14 rfl rfl ?_
    refine rx_ialdN (j := rx_N rw) X (km_2 hO) hO.2.2.1 (rx_nN h1.1) (rx_Nlt h1.1 (by omega)) (by decide) dX8_set_15 ?_
    refine rx_if_ge X dX8_set_16 (fun h16 => ?_) (fun h16 => ?_)
    · try simp only [Int32.lt_iff_toInt_lt, Int32.le_iff_toInt_le, Int32.reduceToInt] at h16
      refine rx_iload_n (i := 2) X dX8_set_25 rfl rfl ?_
      refine rx_i2l X dX8_set_26 ?_
      refine rx_lconst (v := 0) X dX8_set_27 (by decide) ?_
      refine rx_aload_n (i := 0) X dX8_set_28 rfl rfl ?_
      refine rx_getR (ci := 8) (i := 1) X (km_0 hO) rfl rfl (by decide) inX8 flX8_13 dX8_set_29 ?_
      refine rx_iload_n (i := 1) X dX8_set_32 rfl rfl ?_
      refine rx_ialdN (j := rx_N rw) X (km_2 hO) hO.2.2.1 (rx_nN h1.1) (rx_Nlt h1.1 (by omega)) (by decide) dX8_set_33 ?_
      refine rx_iconst (v := 1) X dX8_set_34 (by decide) ?_
      refine rx_isub X dX8_set_35 ?_
      refine rx_i2l X dX8_set_36 ?_
      refine rx_callTi X vsX8_in mlX8_63 (kX8_inI hO (A := 0) rfl ((Int32.toInt_toInt64 _).trans (rx_sub1 h16))) rfl (by decide) (by decide) dX8_set_37 rfl (Nat.le_of_ble_eq_true rfl) (fun r37 t37 h37 => ?_)
      obtain ⟨rfl, ⟨rfl, h37⟩ | ⟨rfl, h37⟩⟩ := h37
      · refine rx_if_ne_t X dX8_set_40 (by decide) ?_
        refine rx_aload_n (i := 0) X dX8_set_49 rfl rfl ?_
        refine rx_getR (ci := 8) (i := 2) X (km_0 hO) rfl rfl (by decide) inX8 flX8_16 dX8_set_50 ?_
        refine rx_bipush (v := 40) X dX8_set_53 (by decide) ?_
        refine rx_iload_n (i := 1) X dX8_set_55 rfl rfl ?_
        refine rx_imul X dX8_set_56 ?_
        refine rx_iload_n (i := 2) X dX8_set_57 rfl rfl ?_
        refine rx_iadd X dX8_set_58 ?_
        refine rx_aload_n (i := 0) X dX8_set_59 rfl rfl ?_
        refine rx_getR (ci := 8) (i := 0) X (km_0 hO) rfl rfl (by decide) inX8 flX8_7 dX8_set_60 ?_
        refine rx_iload_n (i := 1) X dX8_set_63 rfl rfl ?_
        refine rx_ialdN (j := rx_N rw) X (km_1 hO) hO.2.2.1 (rx_nN h1.1) (rx_Nlt h1.1 (by omega)) (by decide) dX8_set_64 ?_
        refine rx_iload_n (i := 3) X dX8_set_65 rfl rfl ?_
        refine rx_callTi X vsX8_asLane mlX8_81 (kX8_asLane hO) rfl (by decide) (by decide) dX8_set_66 rfl (Nat.le_of_ble_eq_true rfl) (fun r66 t66 h66 => ?_)
        obtain ⟨rfl, rfl⟩ := h66
        refine rx_iastN (j := 40 * rx_N rw + rx_N i) X (km_3 hO) hO.2.2.1 (rx_lin2 40 h1.1 h37.1) (by have := rx_Ni h1.1; have := rx_Ni h37.1; have := (hs (rx_N rw) (rx_Nlt h1.1 (by omega))).2; omega) (by decide) dX8_set_69 ?_
        refine rx_aload_n (i := 0) X dX8_set_70 rfl rfl ?_
        refine rx_aload_n (i := 0) X dX8_set_71 rfl rfl ?_
        refine rx_getR (ci := 8) (i := 2) X (km_0 hO) rfl rfl (by decide) inX8 flX8_16 dX8_set_72 ?_
        refine rx_bipush (v := 40) X dX8_set_75 (by decide) ?_
        refine rx_iload_n (i := 1) X dX8_set_77 rfl rfl ?_
        refine rx_imul X dX8_set_78 ?_
        refine rx_iload_n (i := 2) X dX8_set_79 rfl rfl ?_
        refine rx_iadd X dX8_set_80 ?_
        refine rx_ialdN (j := 40 * rx_N rw + rx_N i) X (km_3 hO) hO.2.2.1 (rx_lin2 40 h1.1 h37.1) (by have := rx_Ni h1.1; have := rx_Ni h37.1; have := (hs (rx_N rw) (rx_Nlt h1.1 (by omega))).2; omega) (by decide) dX8_set_81 ?_
        refine rx_callVi (ci := 8) X vsX8_well mlX8_78 (kX8_well hO) (km_0 hO) rfl rfl (by decide) (by decide) dX8_set_82 rfl (Nat.le_of_ble_eq_true rfl) (fun r82 t82 h82 => ?_)
        obtain ⟨rfl, rfl⟩ := h82
        refine rx_iret X dX8_set_85 ?_
        rw [sp_set]
        first | rw [if_pos (by omega)] | (rw [if_neg (by omega), if_pos (by omega)]; rfl) | (rw [if_neg (by omega), if_neg (by omega), if_pos (by omega)]; rfl) | (rw [if_neg (by omega), if_neg (by omega), if_neg (by omega)]; refine Prod.ext ?_ rfl; show _ = (rx_u σ 3 _ _).1 3 _; rw [rx_u_s, upd_s])
      · refine rx_if_ne_f X dX8_set_40 (by decide) ?_
        refine rx_aload_n (i := 0) X dX8_set_43 rfl rfl ?_
        refine rx_iconst (v := 2) X dX8_set_44 (by decide) ?_
        refine rx_callVi (ci := 8) X vsX8_find mlX8_74 (kX8_find hO) (km_0 hO) rfl rfl (by decide) (by decide) dX8_set_45 rfl (Nat.le_of_ble_eq_true rfl) (fun r45 t45 h45 => ?_)
        obtain ⟨rfl, rfl⟩ := h45
        refine rx_iret X dX8_set_48 ?_
        rw [sp_set]
        first | rw [if_pos (by omega)] | (rw [if_neg (by omega), if_pos (by omega)]; rfl) | (rw [if_neg (by omega), if_neg (by omega), if_pos (by omega)]; rfl) | (rw [if_neg (by omega), if_neg (by omega), if_neg (by omega)]; refine Prod.ext ?_ rfl; show _ = (rx_u σ 3 _ _).1 3 _; rw [rx_u_s, upd_s])
    · try simp only [Int32.lt_iff_toInt_lt, Int32.le_iff_toInt_le, Int32.reduceToInt] at h16
      refine rx_aload_n (i := 0) X dX8_set_19 rfl rfl ?_
      refine rx_iconst (v := 1) X dX8_set_20 (by decide) ?_
      refine rx_callVi (ci := 8) X vsX8_find mlX8_74 (kX8_find hO) (km_0 hO) rfl rfl (by decide) (by decide) dX8_set_21 rfl (Nat.le_of_ble_eq_true rfl) (fun r21 t21 h21 => ?_)
      obtain ⟨rfl, rfl⟩ := h21
      refine rx_iret X dX8_set_24 ?_
      rw [sp_set]
      first | rw [if_pos (by omega)] | (rw [if_neg (by omega), if_pos (by omega)]; rfl) | (rw [if_neg (by omega), if_neg (by omega), if_pos (by omega)]; rfl) | (rw [if_neg (by omega), if_neg (by omega), if_neg (by omega)]; refine Prod.ext ?_ rfl; show _ = (rx_u σ 3 _ _).1 3 _; rw [rx_u_s, upd_s])
  · refine rx_if_ne_f X dX8_set_4 (by decide) ?_
    refine rx_ldc X dX8_set_7 kcX8_73 ?_
    refine rx_iret X dX8_set_9 ?_
    rw [sp_set]
    first | rw [if_pos (by omega)] | (rw [if_neg (by omega), if_pos (by omega)]; rfl) | (rw [if_neg (by omega), if_neg (by omega), if_pos (by omega)]; rfl) | (rw [if_neg (by omega), if_neg (by omega), if_neg (by omega)]; refine Prod.ext ?_ rfl; show _ = (rx_u σ 3 _ _).1 3 _; rw [rx_u_s, upd_s])
def sp_drop (σ : rx_S) (r : Int32) : Int32 × rx_S :=
  if ¬ (0 ≤ r.toInt ∧ r.toInt ≤ 7) then (-1000001, σ)
  else if (σ.1 2 (rx_N r)).toInt < 0 then (-1000011, rx_u σ 0 3 1)
  else (σ.1 2 (rx_N r), rx_u (rx_u σ 2 (rx_N r) (-1)) 0 3 0)
set_option maxHeartbeats 4000000 in
set_option maxRecDepth 100000 in
theorem kX8_drop {l : Launch} {O : rx_O} (hO : mo_O O) {σ : rx_S} {rw : Int32} : rx_MI l O yX8_drop cX8_drop 3 (some .int) 2 [.ref 0, .int rw] σ (fun r τ => sp_drop σ rw = (r, τ)) := by
  refine rx_Met_of (own := RX8) rfl hO.2.1 vsX8_drop.2.2.2.2.2 (Nat.le_of_ble_eq_true rfl) rfl (fun p e s m args below meth c X => ?_)
  refine rx_iload_n (i := 1) X dX8_drop_0 rfl rfl ?_
  refine rx_callTi X vsX8_isRow mlX8_67 (kX8_isRow hO) rfl (by decide) (by decide) dX8_drop_1 rfl (Nat.le_of_ble_eq_true rfl) (fun r1 t1 h1 => ?_)
  obtain ⟨rfl, ⟨rfl, h1⟩ | ⟨rfl, h1⟩⟩ := h1
  · refine rx_if_ne_t X dX8_drop_4 (by decide) ?_
    refine rx_aload_n (i := 0) X dX8_drop_10 rfl rfl ?_
    refine rx_getR (ci := 8) (i := 1) X (km_0 hO) rfl rfl (by decide) inX8 flX8_13 dX8_drop_11 ?_
    refine rx_iload_n (i := 1) X dX8_drop_14 rfl rfl ?_
    refine rx_ialdN (j := rx_N rw) X (km_2 hO) hO.2.2.1 (rx_nN h1.1) (rx_Nlt h1.1 (by omega)) (by decide) dX8_drop_15 ?_
    refine rx_if_ge X dX8_drop_16 (fun h16 => ?_) (fun h16 => ?_)
    · try simp only [Int32.lt_iff_toInt_lt, Int32.le_iff_toInt_le, Int32.reduceToInt] at h16
      refine rx_aload_n (i := 0) X dX8_drop_25 rfl rfl ?_
      refine rx_getR (ci := 8) (i := 1) X (km_0 hO) rfl rfl (by decide) inX8 flX8_13 dX8_drop_26 ?_
      refine rx_iload_n (i := 1) X dX8_drop_29 rfl rfl ?_
      refine rx_ialdN (j := rx_N rw) X (km_2 hO) hO.2.2.1 (rx_nN h1.1) (rx_Nlt h1.1 (by omega)) (by decide) dX8_drop_30 ?_
      refine rx_istore_n (i := 2) (lo2 := [(0, .ref _), (1, .int _), (2, .int _)]) X dX8_drop_31 rfl (by decide) rfl ?_
      refine rx_aload_n (i := 0) X dX8_drop_32 rfl rfl ?_
      refine rx_getR (ci := 8) (i := 1) X (km_0 hO) rfl rfl (by decide) inX8 flX8_13 dX8_drop_33 ?_
      refine rx_iload_n (i := 1) X dX8_drop_36 rfl rfl ?_
      refine rx_iconst (v := -1) X dX8_drop_37 (by decide) ?_
      refine rx_iastN (j := rx_N rw) X (km_2 hO) hO.2.2.1 (rx_nN h1.1) (rx_Nlt h1.1 (by omega)) (by decide) dX8_drop_38 ?_
      refine rx_aload_n (i := 0) X dX8_drop_39 rfl rfl ?_
      refine rx_iload_n (i := 2) X dX8_drop_40 rfl rfl ?_
      refine rx_callVi (ci := 8) X vsX8_well mlX8_78 (kX8_well hO) (km_0 hO) rfl rfl (by decide) (by decide) dX8_drop_41 rfl (Nat.le_of_ble_eq_true rfl) (fun r41 t41 h41 => ?_)
      obtain ⟨rfl, rfl⟩ := h41
      refine rx_iret X dX8_drop_44 ?_
      rw [sp_drop]
      first | rw [if_pos (by omega)] | (rw [if_neg (by omega), if_pos (by omega)]; rfl) | (rw [if_neg (by omega), if_neg (by omega)])
    · try simp only [Int32.lt_iff_toInt_lt, Int32.le_iff_toInt_le, Int32.reduceToInt] at h16
      refine rx_aload_n (i := 0) X dX8_drop_19 rfl rfl ?_
      refine rx_iconst (v := 1) X dX8_drop_20 (by decide) ?_
      refine rx_callVi (ci := 8) X vsX8_find mlX8_74 (kX8_find hO) (km_0 hO) rfl rfl (by decide) (by decide) dX8_drop_21 rfl (Nat.le_of_ble_eq_true rfl) (fun r21 t21 h21 => ?_)
      obtain ⟨rfl, rfl⟩ := h21
      refine rx_iret X dX8_drop_24 ?_
      rw [sp_drop]
      first | rw [if_pos (by omega)] | (rw [if_neg (by omega), if_pos (by omega)]; rfl) | (rw [if_neg (by omega), if_neg (by omega)])
  · refine rx_if_ne_f X dX8_drop_4 (by decide) ?_
    refine rx_ldc X dX8_drop_7 kcX8_73 ?_
    refine rx_iret X dX8_drop_9 ?_
    rw [sp_drop]
    first | rw [if_pos (by omega)] | (rw [if_neg (by omega), if_pos (by omega)]; rfl) | (rw [if_neg (by omega), if_neg (by omega)])
def sp_feed (σ : rx_S) (x : Int32) : Int32 × rx_S :=
  if ¬ (0 ≤ x.toInt ∧ x.toInt ≤ 255) then (-1000001, σ)
  else if σ.1 0 9 = 120 then (-1000003, σ)
  else (σ.1 0 9 + 1, rx_u (rx_u σ 6 (rx_N (σ.1 0 9)) x) 0 9 (σ.1 0 9 + 1))
set_option maxHeartbeats 4000000 in
set_option maxRecDepth 100000 in
theorem kX8_feed {l : Launch} {O : rx_O} (hO : mo_O O) {σ : rx_S} {x : Int32} (hb : 0 ≤ (σ.1 0 9).toInt ∧ (σ.1 0 9).toInt ≤ 120) : rx_MI l O yX8_feed cX8_feed 2 (some .int) 2 [.ref 0, .int x] σ (fun r τ => sp_feed σ x = (r, τ)) := by
  refine rx_Met_of (own := RX8) rfl hO.2.1 vsX8_feed.2.2.2.2.2 (Nat.le_of_ble_eq_true rfl) rfl (fun p e s m args below meth c X => ?_)
  refine rx_iload_n (i := 1) X dX8_feed_0 rfl rfl ?_
  refine rx_i2l X dX8_feed_1 ?_
  refine rx_lconst (v := 0) X dX8_feed_2 (by decide) ?_
  refine rx_ldc2 X dX8_feed_3 kcX8_85 ?_
  refine rx_callTi X vsX8_in mlX8_63 (kX8_inI hO (A := 0) (B := 255) rfl rfl) rfl (by decide) (by decide) dX8_feed_6 rfl (Nat.le_of_ble_eq_true rfl) (fun r6 t6 h6 => ?_)
  obtain ⟨rfl, ⟨rfl, h6⟩ | ⟨rfl, h6⟩⟩ := h6
  · refine rx_if_ne_t X dX8_feed_9 (by decide) ?_
    refine rx_aload_n (i := 0) X dX8_feed_15 rfl rfl ?_
    refine rx_getI (ci := 8) (i := 9) X (km_0 hO) rfl rfl (by decide) inX8 flX8_87 dX8_feed_16 ?_
    refine rx_bipush (v := 120) X dX8_feed_19 (by decide) ?_
    refine rx_icmp_ne X dX8_feed_21 (fun h21 => ?_) (fun h21 => ?_)
    · refine rx_aload_n (i := 0) X dX8_feed_27 rfl rfl ?_
      refine rx_getR (ci := 8) (i := 8) X (km_0 hO) rfl rfl (by decide) inX8 flX8_29 dX8_feed_28 ?_
      refine rx_aload_n (i := 0) X dX8_feed_31 rfl rfl ?_
      refine rx_getI (ci := 8) (i := 9) X (km_0 hO) rfl rfl (by decide) inX8 flX8_87 dX8_feed_32 ?_
      refine rx_iload_n (i := 1) X dX8_feed_35 rfl rfl ?_
      refine rx_iastN (j := rx_N (σ.1 0 9)) X (km_6 hO) hO.2.2.1 (rx_nN hb.1) (rx_Nlt hb.1 (by have := hb.2; simp only [← Int32.toInt_inj, Int32.reduceToInt] at h21; omega)) (by decide) dX8_feed_36 ?_
      refine rx_aload_n (i := 0) X dX8_feed_37 rfl rfl ?_
      refine rx_dup X dX8_feed_38 rfl ?_
      refine rx_getI (ci := 8) (i := 9) X (km_0 hO) rfl rfl (by decide) inX8 flX8_87 dX8_feed_39 ?_
      refine rx_iconst (v := 1) X dX8_feed_42 (by decide) ?_
      refine rx_iadd X dX8_feed_43 ?_
      refine rx_putI (ci := 8) (i := 9) X (km_0 hO) rfl rfl (by decide) inX8 tyX8 tyX8_ok nmX8 flX8_87 rfl rfl dX8_feed_44 ?_
      refine rx_aload_n (i := 0) X dX8_feed_47 rfl rfl ?_
      refine rx_getI (ci := 8) (i := 9) X (km_0 hO) rfl rfl (by decide) inX8 flX8_87 dX8_feed_48 ?_
      refine rx_iret X dX8_feed_51 ?_
      rw [sp_feed]
      first | rw [if_pos (by omega)] | (rw [if_neg (by omega), if_pos h21]) | (rw [if_neg (by omega), if_neg h21]; rfl)
    · refine rx_ldc X dX8_feed_24 kcX8_90 ?_
      refine rx_iret X dX8_feed_26 ?_
      rw [sp_feed]
      first | rw [if_pos (by omega)] | (rw [if_neg (by omega), if_pos h21]) | (rw [if_neg (by omega), if_neg h21]; rfl)
  · refine rx_if_ne_f X dX8_feed_9 (by decide) ?_
    refine rx_ldc X dX8_feed_12 kcX8_73 ?_
    refine rx_iret X dX8_feed_14 ?_
    rw [sp_feed]
    first | rw [if_pos (by omega)] | (rw [if_neg (by omega), if_pos h21]) | (rw [if_neg (by omega), if_neg h21]; rfl)
