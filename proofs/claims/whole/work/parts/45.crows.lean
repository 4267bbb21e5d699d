set_option maxHeartbeats 1000000 in
set_option maxRecDepth 100000 in
theorem kX5_isNumber {l : Launch} {O : rx_O} (hO : cb_O O) {σ : rx_S} {x : Int32} : rx_MI l O yX5_isNumber cX5_isNumber 2 (some .boolean) 0 [.ref 10, .int x] σ (fun r τ => σ = τ ∧ rx_b (0 ≤ x.toInt ∧ x.toInt ≤ 7) r) := by
  refine rx_Met_of (own := RX5) rfl hO.2.1 vsX5_isNumber.2.2.2.2.2 (Nat.le_of_ble_eq_true rfl) rfl (fun p e s m args below meth c X => ?_)
  refine rx_iload_n (i := 1) X dX5_isNumber_0 rfl rfl ?_
  refine rx_if_lt X dX5_isNumber_1 (fun h1 => ?_) (fun h1 => ?_)
  · try simp only [Int32.lt_iff_toInt_lt, Int32.le_iff_toInt_le, Int32.reduceToInt] at h1
    refine rx_iconst (v := 0) X dX5_isNumber_14 (by decide) ?_
    refine rx_zret X dX5_isNumber_15 rfl ?_
    exact ⟨rfl, by first | exact Or.inl ⟨rfl, by omega⟩ | exact Or.inr ⟨rfl, by omega⟩⟩
  · try simp only [Int32.lt_iff_toInt_lt, Int32.le_iff_toInt_le, Int32.reduceToInt] at h1
    refine rx_iload_n (i := 1) X dX5_isNumber_4 rfl rfl ?_
    refine rx_bipush (v := 8) X dX5_isNumber_5 (by decide) ?_
    refine rx_icmp_ge X dX5_isNumber_7 (fun h7 => ?_) (fun h7 => ?_)
    · try simp only [Int32.lt_iff_toInt_lt, Int32.le_iff_toInt_le, Int32.reduceToInt] at h7
      refine rx_iconst (v := 0) X dX5_isNumber_14 (by decide) ?_
      refine rx_zret X dX5_isNumber_15 rfl ?_
      exact ⟨rfl, by first | exact Or.inl ⟨rfl, by omega⟩ | exact Or.inr ⟨rfl, by omega⟩⟩
    · try simp only [Int32.lt_iff_toInt_lt, Int32.le_iff_toInt_le, Int32.reduceToInt] at h7
      refine rx_iconst (v := 1) X dX5_isNumber_10 (by decide) ?_
      refine rx_goto X dX5_isNumber_11 ?_
      refine rx_zret X dX5_isNumber_15 rfl ?_
      exact ⟨rfl, by first | exact Or.inl ⟨rfl, by omega⟩ | exact Or.inr ⟨rfl, by omega⟩⟩
set_option maxHeartbeats 1000000 in
set_option maxRecDepth 100000 in
theorem kX5_isMissing {l : Launch} {O : rx_O} (hO : cb_O O) {σ : rx_S} {r : Nat} (hr : r < 8) : rx_MI l O yX5_isMissing cX5_isMissing 2 (some .boolean) 1 [.ref 10, .int (nI r)] σ (fun q τ => σ = τ ∧ rx_b (σ.1 21 r = -1) q) := by
  refine rx_Met_of (own := RX5) rfl hO.2.1 vsX5_isMissing.2.2.2.2.2 (Nat.le_of_ble_eq_true rfl) rfl (fun p e s m args below meth c X => ?_)
  refine rx_aload_n (i := 0) X dX5_isMissing_0 rfl rfl ?_
  refine rx_iload_n (i := 1) X dX5_isMissing_1 rfl rfl ?_
  refine rx_callVi (ci := 5) X vsX5_isNumber mlX5_21 (kX5_isNumber hO) (kc_10 hO) rfl rfl (by decide) (by decide) dX5_isMissing_2 rfl (Nat.le_of_ble_eq_true rfl) (fun r2 t2 h2 => ?_)
  obtain ⟨rfl, ⟨rfl, h2⟩ | ⟨rfl, h2⟩⟩ := h2
  · refine rx_if_eq_f X dX5_isMissing_5 (by decide) ?_
    refine rx_aload_n (i := 0) X dX5_isMissing_8 rfl rfl ?_
    refine rx_getR (ci := 5) (i := 2) X (kc_10 hO) rfl rfl (by decide) inX5 flX5_18 dX5_isMissing_9 ?_
    refine rx_iload_n (i := 1) X dX5_isMissing_12 rfl rfl ?_
    refine rx_ialdN (j := r) X (kc_21 hO) hO.2.2.1 rfl hr (by decide) dX5_isMissing_13 ?_
    refine rx_iconst (v := -1) X dX5_isMissing_14 (by decide) ?_
    refine rx_icmp_ne X dX5_isMissing_15 (fun h15 => ?_) (fun h15 => ?_)
    · refine rx_iconst (v := 0) X dX5_isMissing_22 (by decide) ?_
      refine rx_zret X dX5_isMissing_23 rfl ?_
      exact ⟨rfl, Or.inr ⟨rfl, h15⟩⟩
    · refine rx_iconst (v := 1) X dX5_isMissing_18 (by decide) ?_
      refine rx_goto X dX5_isMissing_19 ?_
      refine rx_zret X dX5_isMissing_23 rfl ?_
      exact ⟨rfl, Or.inl ⟨rfl, h15⟩⟩
  · exact absurd ⟨by rw [nI_toInt (by omega)]; omega, by rw [nI_toInt (by omega)]; omega⟩ h2
theorem i32_sub {x y : Int32} (h : 0 ≤ x.toInt ∧ 0 ≤ y.toInt) : (x - y).toInt = x.toInt - y.toInt := by
  have h1 := Int32.toInt_lt x
  have h2 := Int32.toInt_lt y
  rw [Int32.toInt_sub, Int.bmod_eq_of_le] <;> omega
theorem i32_m1 {x : Int32} (h : -1 ≤ x.toInt) (h2 : ¬ x = -1) : 0 ≤ x.toInt := by
  have e : (-1 : Int32).toInt = -1 := rfl
  rw [← Int32.toInt_inj, e] at h2
  omega
set_option maxHeartbeats 1000000 in
set_option maxRecDepth 100000 in
theorem kX5_hasPlaces {l : Launch} {O : rx_O} (hO : cb_O O) {σ : rx_S} {r : Nat} {i n : Int32} (hr : r < 8) (hs : -1 ≤ (σ.1 21 r).toInt) : rx_MI l O yX5_hasPlaces cX5_hasPlaces 4 (some .boolean) 2 [.ref 10, .int (nI r), .int i, .int n] σ (fun q τ => σ = τ ∧ rx_b (¬ σ.1 21 r = -1 ∧ 0 ≤ i.toInt ∧ 0 ≤ n.toInt ∧ i.toInt ≤ (σ.1 21 r).toInt - n.toInt) q) := by
  refine rx_Met_of (own := RX5) rfl hO.2.1 vsX5_hasPlaces.2.2.2.2.2 (Nat.le_of_ble_eq_true rfl) rfl (fun p e s m args below meth c X => ?_)
  refine rx_aload_n (i := 0) X dX5_hasPlaces_0 rfl rfl ?_
  refine rx_iload_n (i := 1) X dX5_hasPlaces_1 rfl rfl ?_
  refine rx_callVi (ci := 5) X vsX5_isMissing mlX5_25 (kX5_isMissing hO hr) (kc_10 hO) rfl rfl (by decide) (by decide) dX5_hasPlaces_2 rfl (Nat.le_of_ble_eq_true rfl) (fun r2 t2 h2 => ?_)
  obtain ⟨rfl, ⟨rfl, h2⟩ | ⟨rfl, h2⟩⟩ := h2
  · refine rx_if_ne_t X dX5_hasPlaces_5 (by decide) ?_
    refine rx_iconst (v := 0) X dX5_hasPlaces_32 (by decide) ?_
    refine rx_zret X dX5_hasPlaces_33 rfl ?_
    exact ⟨rfl, Or.inr ⟨rfl, fun q => q.1 h2⟩⟩
  · refine rx_if_ne_f X dX5_hasPlaces_5 (by decide) ?_
    refine rx_iload_n (i := 2) X dX5_hasPlaces_8 rfl rfl ?_
    refine rx_if_lt X dX5_hasPlaces_9 (fun h9 => ?_) (fun h9 => ?_)
    · try simp only [Int32.lt_iff_toInt_lt, Int32.le_iff_toInt_le, Int32.reduceToInt] at h9
      refine rx_iconst (v := 0) X dX5_hasPlaces_32 (by decide) ?_
      refine rx_zret X dX5_hasPlaces_33 rfl ?_
      exact ⟨rfl, Or.inr ⟨rfl, fun q => absurd q.2.1 (by omega)⟩⟩
    · try simp only [Int32.lt_iff_toInt_lt, Int32.le_iff_toInt_le, Int32.reduceToInt] at h9
      refine rx_iload_n (i := 3) X dX5_hasPlaces_12 rfl rfl ?_
      refine rx_if_lt X dX5_hasPlaces_13 (fun h13 => ?_) (fun h13 => ?_)
      · try simp only [Int32.lt_iff_toInt_lt, Int32.le_iff_toInt_le, Int32.reduceToInt] at h13
        refine rx_iconst (v := 0) X dX5_hasPlaces_32 (by decide) ?_
        refine rx_zret X dX5_hasPlaces_33 rfl ?_
        exact ⟨rfl, Or.inr ⟨rfl, fun q => absurd q.2.2.1 (by omega)⟩⟩
      · try simp only [Int32.lt_iff_toInt_lt, Int32.le_iff_toInt_le, Int32.reduceToInt] at h13
        refine rx_iload_n (i := 2) X dX5_hasPlaces_16 rfl rfl ?_
        refine rx_aload_n (i := 0) X dX5_hasPlaces_17 rfl rfl ?_
        refine rx_getR (ci := 5) (i := 2) X (kc_10 hO) rfl rfl (by decide) inX5 flX5_18 dX5_hasPlaces_18 ?_
        refine rx_iload_n (i := 1) X dX5_hasPlaces_21 rfl rfl ?_
        refine rx_ialdN (j := r) X (kc_21 hO) hO.2.2.1 rfl hr (by decide) dX5_hasPlaces_22 ?_
        refine rx_iload_n (i := 3) X dX5_hasPlaces_23 rfl rfl ?_
        refine rx_isub X dX5_hasPlaces_24 ?_
        refine rx_icmp_gt X dX5_hasPlaces_25 (fun h25 => ?_) (fun h25 => ?_)
        · refine rx_iconst (v := 0) X dX5_hasPlaces_32 (by decide) ?_
          refine rx_zret X dX5_hasPlaces_33 rfl ?_
          have hz := i32_m1 hs h2
          have hy : 0 ≤ n.toInt := by omega
          rw [Int32.lt_iff_toInt_lt, i32_sub ⟨hz, hy⟩] at h25
          exact ⟨rfl, Or.inr ⟨rfl, fun q => absurd q.2.2.2 (by omega)⟩⟩
        · refine rx_iconst (v := 1) X dX5_hasPlaces_28 (by decide) ?_
          refine rx_goto X dX5_hasPlaces_29 ?_
          refine rx_zret X dX5_hasPlaces_33 rfl ?_
          have hz := i32_m1 hs h2
          have hy : 0 ≤ n.toInt := by omega
          rw [Int32.lt_iff_toInt_lt, i32_sub ⟨hz, hy⟩] at h25
          exact ⟨rfl, Or.inl ⟨rfl, h2, by omega, by omega, by omega⟩⟩
set_option maxHeartbeats 1000000 in
set_option maxRecDepth 100000 in
theorem kX5_make {l : Launch} {O : rx_O} (hO : cb_O O) {σ : rx_S} {r n : Nat} {ln : Int32} (hr : r < 8) (hn : n ≤ 40) : rx_MV l O yX5_make cX5_make 5 none 0 [.ref 10, .int (nI r), .int ln, .int (nI n)] σ (fun τ => (∀ k, k ≠ 12 + r → k ≠ 20 → k ≠ 21 → τ.1 k = σ.1 k) ∧ τ.1 20 = upd (σ.1 20) r ln ∧ τ.1 21 = upd (σ.1 21) r (nI n) ∧ τ.2 = σ.2 ∧ ∀ i, i < n → τ.1 (12 + r) i = 0) := by
  refine rx_Met_of (own := RX5) rfl hO.2.1 vsX5_make.2.2.2.2.2 (Nat.le_of_ble_eq_true rfl) rfl (fun p e s m args below meth c X => ?_)
  have loop : ∀ (k : Nat) (i : Nat) (x : Int32) (τ : rx_S), (i + k = n) → (x = nI i) → (∀ k, k ≠ 12 + r → k ≠ 20 → k ≠ 21 → τ.1 k = σ.1 k) → (τ.1 20 = upd (σ.1 20) r ln) → (τ.1 21 = upd (σ.1 21) r (nI n)) → (τ.2 = σ.2) → (∀ j, j < i → τ.1 (12 + r) j = 0) → rx_J O 5 p l e (rx_lv 0) s m args below meth c (rx_QV O below args s (fun τ => (∀ k, k ≠ 12 + r → k ≠ 20 → k ≠ 21 → τ.1 k = σ.1 k) ∧ τ.1 20 = upd (σ.1 20) r ln ∧ τ.1 21 = upd (σ.1 21) r (nI n) ∧ τ.2 = σ.2 ∧ ∀ i, i < n → τ.1 (12 + r) i = 0)) 17 [(0, .ref 10), (1, .int (nI r)), (2, .int ln), (3, .int (nI n)), (4, .int x)] [] τ := by
    intro k
    induction k with
    | zero =>
      intro i x τ hi hx h1 h2 h3 h4 h5
      obtain rfl : i = n := by omega
      subst hx
      refine rx_iload (i := 4) X dX5_make_17 rfl ?_
      refine rx_iload_n (i := 3) X dX5_make_19 rfl rfl ?_
      refine rx_icmp_ge_t X dX5_make_20 (Int32.le_refl _) ?_
      refine rx_vret X dX5_make_39 ?_
      exact ⟨h1, h2, h3, h4, h5⟩
    | succ k ih =>
      intro i x τ hi hx h1 h2 h3 h4 h5
      subst hx
      refine rx_iload (i := 4) X dX5_make_17 rfl ?_
      refine rx_iload_n (i := 3) X dX5_make_19 rfl rfl ?_
      refine rx_icmp_ge_f X dX5_make_20 (nI_ge (by omega) (by omega)) ?_
      refine rx_aload_n (i := 0) X dX5_make_23 rfl rfl ?_
      refine rx_getR (ci := 5) (i := 0) X (kc_10 hO) rfl rfl (by decide) inX5 flX5_11 dX5_make_24 ?_
      refine rx_iload_n (i := 1) X dX5_make_27 rfl rfl ?_
      refine rx_aaldA (j := r) X (kc_11 hO) hO.2.2.2.2.2.2.1 rfl rfl hr (by decide) (kc_rel hr) dX5_make_28 ?_
      refine rx_iload (i := 4) X dX5_make_29 rfl ?_
      refine rx_iconst (v := 0) X dX5_make_31 (by decide) ?_
      refine rx_iastN (j := i) X (kc_row hO hr) hO.2.2.1 rfl (by omega) (by decide) dX5_make_32 ?_
      refine rx_iinc (i := 4) (lo2 := [(0, .ref _), (1, .int _), (2, .int _), (3, .int _), (4, .int _)]) X dX5_make_33 rfl (rx_inc1 _) (by decide) rfl ?_
      refine rx_goto X dX5_make_36 ?_
      refine ih (i + 1) _ _ (by omega) (nI_1 i) (fun k a b c => ?_) ?_ ?_ h4 (fun j hj => ?_)
      · rw [rx_u_ne a]; exact h1 k a b c
      · rw [rx_u_ne (by omega)]; exact h2
      · rw [rx_u_ne (by omega)]; exact h3
      · rw [rx_u_s]
        by_cases e : j = i
        · subst e; rw [upd_s]
        · rw [upd_n e]; exact h5 j (by omega)
  refine rx_aload_n (i := 0) X dX5_make_0 rfl rfl ?_
  refine rx_getR (ci := 5) (i := 1) X (kc_10 hO) rfl rfl (by decide) inX5 flX5_14 dX5_make_1 ?_
  refine rx_iload_n (i := 1) X dX5_make_4 rfl rfl ?_
  refine rx_iload_n (i := 2) X dX5_make_5 rfl rfl ?_
  refine rx_iastN (j := r) X (kc_20 hO) hO.2.2.1 rfl hr (by decide) dX5_make_6 ?_
  refine rx_aload_n (i := 0) X dX5_make_7 rfl rfl ?_
  refine rx_getR (ci := 5) (i := 2) X (kc_10 hO) rfl rfl (by decide) inX5 flX5_18 dX5_make_8 ?_
  refine rx_iload_n (i := 1) X dX5_make_11 rfl rfl ?_
  refine rx_iload_n (i := 3) X dX5_make_12 rfl rfl ?_
  refine rx_iastN (j := r) X (kc_21 hO) hO.2.2.1 rfl hr (by decide) dX5_make_13 ?_
  refine rx_iconst (v := 0) X dX5_make_14 (by decide) ?_
  refine rx_istore (i := 4) (lo2 := [(0, .ref _), (1, .int _), (2, .int _), (3, .int _), (4, .int _)]) X dX5_make_15 (by decide) rfl ?_
  refine loop n 0 _ _ (by omega) rfl (fun k a b c => ?_) ?_ ?_ rfl (fun j hj => absurd hj (by omega))
  · rw [rx_u_ne c, rx_u_ne b]
  · rw [rx_u_ne (by decide), rx_u_s]
  · rw [rx_u_s, rx_u_ne (by decide)]
theorem la_b (v : Int32) : v.toInt8.toInt32 = (v <<< (24 &&& 31)) >>> (24 &&& 31) := by
  apply Int32.toBitVec_inj.mp
  have hs : ((24 &&& 31 : Int32).toBitVec.smod 32) = 24#32 := by decide
  have e : (v <<< (24 &&& 31) >>> (24 &&& 31)).toBitVec = (v.toBitVec <<< 24).sshiftRight 24 := by
    rw [Int32.toBitVec_shiftRight, Int32.toBitVec_shiftLeft, hs]
    rfl
  rw [e]
  rw [Int8.toBitVec_toInt32, Int32.toBitVec_toInt8]
  apply BitVec.eq_of_getLsbD_eq
  intro i hi
  simp only [BitVec.getLsbD_signExtend, BitVec.getLsbD_sshiftRight, BitVec.getLsbD_shiftLeft, BitVec.getLsbD_setWidth, BitVec.msb_eq_getLsbD_last]
  have hi32 : i < 32 := hi
  by_cases h : i < 8
  · simp [h, show 24 + i < 32 by omega, hi32, show ¬ 32 ≤ i by omega, show ¬ 24 + i < 24 by omega]
  · simp [h, show ¬ 24 + i < 32 by omega, hi32, show ¬ 32 ≤ i by omega]
theorem la_s (v : Int32) : v.toInt16.toInt32 = (v <<< (16 &&& 31)) >>> (16 &&& 31) := by
  apply Int32.toBitVec_inj.mp
  have hs : ((16 &&& 31 : Int32).toBitVec.smod 32) = 16#32 := by decide
  have e : (v <<< (16 &&& 31) >>> (16 &&& 31)).toBitVec = (v.toBitVec <<< 16).sshiftRight 16 := by
    rw [Int32.toBitVec_shiftRight, Int32.toBitVec_shiftLeft, hs]
    rfl
  rw [e]
  rw [Int16.toBitVec_toInt32, Int32.toBitVec_toInt16]
  apply BitVec.eq_of_getLsbD_eq
  intro i hi
  simp only [BitVec.getLsbD_signExtend, BitVec.getLsbD_sshiftRight, BitVec.getLsbD_shiftLeft, BitVec.getLsbD_setWidth, BitVec.msb_eq_getLsbD_last]
  have hi32 : i < 32 := hi
  by_cases h : i < 16
  · simp [h, show 16 + i < 32 by omega, hi32, show ¬ 32 ≤ i by omega, show ¬ 16 + i < 16 by omega]
  · simp [h, show ¬ 16 + i < 32 by omega, hi32, show ¬ 32 ≤ i by omega]
set_option maxHeartbeats 1000000 in
set_option maxRecDepth 100000 in
theorem kX5_put {l : Launch} {O : rx_O} (hO : cb_O O) {σ : rx_S} {r i : Nat} {v : Int32} (hr : r < 8) (hi : i < 40) : rx_MI l O yX5_put cX5_put 5 (some .int) 0 [.ref 10, .int (nI r), .int (nI i), .int v] σ (fun q τ => sp_lane (σ.1 20 r) v = q ∧ rx_u σ (12 + r) i (sp_lane (σ.1 20 r) v) = τ) := by
  refine rx_Met_of (own := RX5) rfl hO.2.1 vsX5_put.2.2.2.2.2 (Nat.le_of_ble_eq_true rfl) rfl (fun p e s m args below meth c X => ?_)
  refine rx_iload_n (i := 3) X dX5_put_0 rfl rfl ?_
  refine rx_istore (i := 4) (lo2 := [(0, .ref _), (1, .int _), (2, .int _), (3, .int _), (4, .int _)]) X dX5_put_1 (by decide) rfl ?_
  refine rx_aload_n (i := 0) X dX5_put_3 rfl rfl ?_
  refine rx_getR (ci := 5) (i := 1) X (kc_10 hO) rfl rfl (by decide) inX5 flX5_14 dX5_put_4 ?_
  refine rx_iload_n (i := 1) X dX5_put_7 rfl rfl ?_
  refine rx_ialdN (j := r) X (kc_20 hO) hO.2.2.1 rfl hr (by decide) dX5_put_8 ?_
  refine rx_if_ne X dX5_put_9 (fun h9 => ?_) (fun h9 => ?_)
  · refine rx_aload_n (i := 0) X dX5_put_19 rfl rfl ?_
    refine rx_getR (ci := 5) (i := 1) X (kc_10 hO) rfl rfl (by decide) inX5 flX5_14 dX5_put_20 ?_
    refine rx_iload_n (i := 1) X dX5_put_23 rfl rfl ?_
    refine rx_ialdN (j := r) X (kc_20 hO) hO.2.2.1 rfl hr (by decide) dX5_put_24 ?_
    refine rx_iconst (v := 1) X dX5_put_25 (by decide) ?_
    refine rx_icmp_ne X dX5_put_26 (fun h26 => ?_) (fun h26 => ?_)
    · refine rx_aload_n (i := 0) X dX5_put_33 rfl rfl ?_
      refine rx_getR (ci := 5) (i := 0) X (kc_10 hO) rfl rfl (by decide) inX5 flX5_11 dX5_put_34 ?_
      refine rx_iload_n (i := 1) X dX5_put_37 rfl rfl ?_
      refine rx_aaldA (j := r) X (kc_11 hO) hO.2.2.2.2.2.2.1 rfl rfl hr (by decide) (kc_rel hr) dX5_put_38 ?_
      refine rx_iload_n (i := 2) X dX5_put_39 rfl rfl ?_
      refine rx_iload (i := 4) X dX5_put_40 rfl ?_
      refine rx_iastN (j := i) X (kc_row hO hr) hO.2.2.1 rfl hi (by decide) dX5_put_42 ?_
      refine rx_iload (i := 4) X dX5_put_43 rfl ?_
      refine rx_iret X dX5_put_45 ?_
      unfold sp_lane
      rw [if_neg h9, if_neg h26]
      exact ⟨rfl, rfl⟩
    · refine rx_iload_n (i := 3) X dX5_put_29 rfl rfl ?_
      refine rx_i2s X dX5_put_30 ?_
      refine rx_istore (i := 4) (lo2 := [(0, .ref _), (1, .int _), (2, .int _), (3, .int _), (4, .int _)]) X dX5_put_31 (by decide) rfl ?_
      refine rx_aload_n (i := 0) X dX5_put_33 rfl rfl ?_
      refine rx_getR (ci := 5) (i := 0) X (kc_10 hO) rfl rfl (by decide) inX5 flX5_11 dX5_put_34 ?_
      refine rx_iload_n (i := 1) X dX5_put_37 rfl rfl ?_
      refine rx_aaldA (j := r) X (kc_11 hO) hO.2.2.2.2.2.2.1 rfl rfl hr (by decide) (kc_rel hr) dX5_put_38 ?_
      refine rx_iload_n (i := 2) X dX5_put_39 rfl rfl ?_
      refine rx_iload (i := 4) X dX5_put_40 rfl ?_
      refine rx_iastN (j := i) X (kc_row hO hr) hO.2.2.1 rfl hi (by decide) dX5_put_42 ?_
      refine rx_iload (i := 4) X dX5_put_43 rfl ?_
      refine rx_iret X dX5_put_45 ?_
      unfold sp_lane
      rw [if_neg h9, if_pos h26, la_s]
      exact ⟨rfl, rfl⟩
  · refine rx_iload_n (i := 3) X dX5_put_12 rfl rfl ?_
    refine rx_i2b X dX5_put_13 ?_
    refine rx_istore (i := 4) (lo2 := [(0, .ref _), (1, .int _), (2, .int _), (3, .int _), (4, .int _)]) X dX5_put_14 (by decide) rfl ?_
    refine rx_goto X dX5_put_16 ?_
    refine rx_aload_n (i := 0) X dX5_put_33 rfl rfl ?_
    refine rx_getR (ci := 5) (i := 0) X (kc_10 hO) rfl rfl (by decide) inX5 flX5_11 dX5_put_34 ?_
    refine rx_iload_n (i := 1) X dX5_put_37 rfl rfl ?_
    refine rx_aaldA (j := r) X (kc_11 hO) hO.2.2.2.2.2.2.1 rfl rfl hr (by decide) (kc_rel hr) dX5_put_38 ?_
    refine rx_iload_n (i := 2) X dX5_put_39 rfl rfl ?_
    refine rx_iload (i := 4) X dX5_put_40 rfl ?_
    refine rx_iastN (j := i) X (kc_row hO hr) hO.2.2.1 rfl hi (by decide) dX5_put_42 ?_
    refine rx_iload (i := 4) X dX5_put_43 rfl ?_
    refine rx_iret X dX5_put_45 ?_
    unfold sp_lane
    rw [if_pos h9, la_b]
    exact ⟨rfl, rfl⟩
set_option maxHeartbeats 1000000 in
set_option maxRecDepth 100000 in
theorem kX5_lose {l : Launch} {O : rx_O} (hO : cb_O O) {σ : rx_S} {r : Nat} (hr : r < 8) : rx_MI l O yX5_lose cX5_lose 3 (some .int) 0 [.ref 10, .int (nI r)] σ (fun q τ => σ.1 21 r = q ∧ rx_u σ 21 r (-1) = τ) := by
  refine rx_Met_of (own := RX5) rfl hO.2.1 vsX5_lose.2.2.2.2.2 (Nat.le_of_ble_eq_true rfl) rfl (fun p e s m args below meth c X => ?_)
  refine rx_aload_n (i := 0) X dX5_lose_0 rfl rfl ?_
  refine rx_getR (ci := 5) (i := 2) X (kc_10 hO) rfl rfl (by decide) inX5 flX5_18 dX5_lose_1 ?_
  refine rx_iload_n (i := 1) X dX5_lose_4 rfl rfl ?_
  refine rx_ialdN (j := r) X (kc_21 hO) hO.2.2.1 rfl hr (by decide) dX5_lose_5 ?_
  refine rx_istore_n (i := 2) (lo2 := [(0, .ref _), (1, .int _), (2, .int _)]) X dX5_lose_6 rfl (by decide) rfl ?_
  refine rx_aload_n (i := 0) X dX5_lose_7 rfl rfl ?_
  refine rx_getR (ci := 5) (i := 2) X (kc_10 hO) rfl rfl (by decide) inX5 flX5_18 dX5_lose_8 ?_
  refine rx_iload_n (i := 1) X dX5_lose_11 rfl rfl ?_
  refine rx_iconst (v := -1) X dX5_lose_12 (by decide) ?_
  refine rx_iastN (j := r) X (kc_21 hO) hO.2.2.1 rfl hr (by decide) dX5_lose_13 ?_
  refine rx_iload_n (i := 2) X dX5_lose_14 rfl rfl ?_
  refine rx_iret X dX5_lose_15 ?_
  exact ⟨rfl, rfl⟩
def cr_n (σ : rx_S) : Nat → Int32
  | 0 => 0
  | n + 1 => if σ.1 21 n = -1 then cr_n σ n else cr_n σ n + 1
set_option maxHeartbeats 1000000 in
set_option maxRecDepth 100000 in
theorem kX5_present {l : Launch} {O : rx_O} (hO : cb_O O) {σ : rx_S} : rx_MI l O yX5_present cX5_present 3 (some .int) 0 [.ref 10] σ (fun q τ => cr_n σ 8 = q ∧ σ = τ) := by
  refine rx_Met_of (own := RX5) rfl hO.2.1 vsX5_present.2.2.2.2.2 (Nat.le_of_ble_eq_true rfl) rfl (fun p e s m args below meth c X => ?_)
  have loop : ∀ (k : Nat) (i : Nat) (x z : Int32), (i + k = 8) → (x = nI i) → (z = cr_n σ i) → rx_J O 3 p l e (rx_lv 0) s m args below meth c (rx_QI O below args s (fun q τ => cr_n σ 8 = q ∧ σ = τ)) 4 [(0, .ref 10), (1, .int z), (2, .int x)] [] σ := by
    intro k
    induction k with
    | zero =>
      intro i x z hi hx hz
      obtain rfl : i = 8 := by omega
      subst hx
      refine rx_iload_n (i := 2) X dX5_present_4 rfl rfl ?_
      refine rx_bipush (v := 8) X dX5_present_5 (by decide) ?_
      refine rx_icmp_ge_t X dX5_present_7 (by decide) ?_
      refine rx_iload_n (i := 1) X dX5_present_29 rfl rfl ?_
      refine rx_iret X dX5_present_30 ?_
      exact ⟨hz.symm, rfl⟩
    | succ k ih =>
      intro i x z hi hx hz
      subst hx
      refine rx_iload_n (i := 2) X dX5_present_4 rfl rfl ?_
      refine rx_bipush (v := 8) X dX5_present_5 (by decide) ?_
      refine rx_icmp_ge_f X dX5_present_7 (nI_ge (b := 8) (by omega) (by decide)) ?_
      refine rx_aload_n (i := 0) X dX5_present_10 rfl rfl ?_
      refine rx_getR (ci := 5) (i := 2) X (kc_10 hO) rfl rfl (by decide) inX5 flX5_18 dX5_present_11 ?_
      refine rx_iload_n (i := 2) X dX5_present_14 rfl rfl ?_
      refine rx_ialdN (j := i) X (kc_21 hO) hO.2.2.1 rfl (by omega) (by decide) dX5_present_15 ?_
      refine rx_iconst (v := -1) X dX5_present_16 (by decide) ?_
      refine rx_icmp_eq X dX5_present_17 (fun h17 => ?_) (fun h17 => ?_)
      · refine rx_iinc (i := 2) (lo2 := [(0, .ref _), (1, .int _), (2, .int _)]) X dX5_present_23 rfl (rx_inc1 _) (by decide) rfl ?_
        refine rx_goto X dX5_present_26 ?_
        refine ih (i + 1) _ _ (by omega) (nI_1 i) ?_
        rw [hz, cr_n, if_pos h17]
      · refine rx_iinc (i := 1) (lo2 := [(0, .ref _), (1, .int _), (2, .int _)]) X dX5_present_20 rfl (rx_inc1 _) (by decide) rfl ?_
        refine rx_iinc (i := 2) (lo2 := [(0, .ref _), (1, .int _), (2, .int _)]) X dX5_present_23 rfl (rx_inc1 _) (by decide) rfl ?_
        refine rx_goto X dX5_present_26 ?_
        refine ih (i + 1) _ _ (by omega) (nI_1 i) ?_
        rw [hz, cr_n, if_neg h17]
  refine rx_iconst (v := 0) X dX5_present_0 (by decide) ?_
  refine rx_istore_n (i := 1) (lo2 := [(0, .ref _), (1, .int _)]) X dX5_present_1 rfl (by decide) rfl ?_
  refine rx_iconst (v := 0) X dX5_present_2 (by decide) ?_
  refine rx_istore_n (i := 2) (lo2 := [(0, .ref _), (1, .int _), (2, .int _)]) X dX5_present_3 rfl (by decide) rfl ?_
  exact loop 8 0 _ _ rfl rfl rfl
theorem ac_mod {a b : Nat} (h : a + b < 2 ^ 31) : nI a + nI b - (nI a + nI b) / 24 * 24 = nI ((a + b) % 24) := by
  rw [nI_add, show (24 : Int32) = nI 24 from rfl, pk_rem (by omega) (by omega) (by omega)]
/-- where an act is kept: the oldest, how many -/
def ac_o (od kn : Nat) : Nat := if kn = 24 then (od + 1) % 24 else od
def ac_n' (kn : Nat) : Nat := if kn = 24 then 23 else kn
theorem ac_o_lt {od kn : Nat} (h : od < 24) : ac_o od kn < 24 := by
  unfold ac_o
  split
  · exact Nat.mod_lt _ (by decide)
  · exact h
theorem nI_inj {a b : Nat} (ha : a < 2 ^ 31) (hb : b < 2 ^ 31) (h : nI a = nI b) : a = b := by
  have := congrArg Int32.toInt h
  rw [nI_toInt ha, nI_toInt hb] at this
  omega
set_option maxHeartbeats 1000000 in
set_option maxRecDepth 100000 in
theorem kX0_keep {l : Launch} {O : rx_O} (hO : cb_O O) {σ : rx_S} {od kn : Nat} (h1 : σ.1 24 1 = nI od) (h2 : σ.1 24 2 = nI kn) (hod : od < 24) (hkn : kn ≤ 24) (hbo : cb_bo σ 1) : rx_MV l O yX0_keep cX0_keep 2 none 2 [.ref 24, .ref 1] σ (fun τ => τ.1 24 1 = nI (ac_o od kn) ∧ τ.1 24 2 = nI (ac_n' kn + 1) ∧ (∀ k, k ≠ 24 → (k < (26 + 9 * ((ac_o od kn + ac_n' kn) % 24)) ∨ (26 + 9 * ((ac_o od kn + ac_n' kn) % 24)) + 8 < k) → τ.1 k = σ.1 k) ∧ τ.2 = σ.2 ∧ cb_cp σ τ (26 + 9 * ((ac_o od kn + ac_n' kn) % 24)) 1) := by
  refine rx_Met_of (own := RX0) rfl hO.2.1 vsX0_keep.2.2.2.2.2 (Nat.le_of_ble_eq_true rfl) rfl (fun p e s m args below meth c X => ?_)
  refine rx_aload_n (i := 0) X dX0_keep_0 rfl rfl ?_
  refine rx_getI (ci := 0) (i := 2) X (kc_24 hO) rfl rfl (by decide) inX0 flX0_16 dX0_keep_1 ?_
  refine rx_top h2 ?_
  refine rx_bipush (v := 24) X dX0_keep_4 (by decide) ?_
  refine rx_icmp_ne X dX0_keep_6 (fun h6 => ?_) (fun h6 => ?_)
  · have hne : ¬ kn = 24 := fun q => h6 (by rw [q]; rfl)
    have eo : ac_o od kn = od := if_neg hne
    have en : ac_n' kn = kn := if_neg hne
    refine rx_aload_n (i := 0) X dX0_keep_32 rfl rfl ?_
    refine rx_getR (ci := 0) (i := 0) X (kc_24 hO) rfl rfl (by decide) inX0 flX0_11 dX0_keep_33 ?_
    refine rx_aload_n (i := 0) X dX0_keep_36 rfl rfl ?_
    refine rx_getI (ci := 0) (i := 1) X (kc_24 hO) rfl rfl (by decide) inX0 flX0_20 dX0_keep_37 ?_
    refine rx_top h1 ?_
    refine rx_aload_n (i := 0) X dX0_keep_40 rfl rfl ?_
    refine rx_getI (ci := 0) (i := 2) X (kc_24 hO) rfl rfl (by decide) inX0 flX0_16 dX0_keep_41 ?_
    refine rx_top h2 ?_
    refine rx_iadd X dX0_keep_44 ?_
    refine rx_bipush (v := 24) X dX0_keep_45 (by decide) ?_
    refine rx_irem X dX0_keep_47 (by decide) ?_
    refine rx_top (ac_mod (a := od) (b := kn) (by omega)) ?_
    refine rx_aaldN (j := (od + kn) % 24) X (kc_25 hO) hO.2.2.2.2.1 rfl (Nat.mod_lt _ (by decide)) (by decide) (cb_acts_el _ (Nat.mod_lt _ (by decide))) dX0_keep_48 ?_
    refine rx_aload_n (i := 1) X dX0_keep_49 rfl rfl ?_
    have hj := Nat.mod_lt (od + kn) (show 0 < 24 by decide)
    have hfr : ∀ k, (k < 26 + 9 * ((od + kn) % 24) ∨ 26 + 9 * ((od + kn) % 24) + 8 < k) → True := fun _ _ => trivial
    refine rx_callVv (ci := 3) X vsX3_takeFrom mlX0_23 (kX3_takeFrom hO (cb_Ba0 _ hj) cb_B1 (by omega) hbo) (kb_0 hO (cb_Ba0 _ (Nat.mod_lt _ (by decide)))) rfl rfl (by decide) (by decide) dX0_keep_50 rfl (Nat.le_of_ble_eq_true rfl) (fun t50 h50 => ?_)
    obtain ⟨h50f, h50c⟩ := h50
    refine rx_aload_n (i := 0) X dX0_keep_53 rfl rfl ?_
    refine rx_dup X dX0_keep_54 rfl ?_
    refine rx_getI (ci := 0) (i := 2) X (kc_24 hO) rfl rfl (by decide) inX0 flX0_16 dX0_keep_55 ?_
    refine rx_top (show _ = nI kn by rw [h50f.2 24 (by omega)]; exact h2) ?_
    refine rx_iconst (v := 1) X dX0_keep_58 (by decide) ?_
    refine rx_iadd X dX0_keep_59 ?_
    refine rx_putI (ci := 0) (i := 2) X (kc_24 hO) rfl rfl (by decide) inX0 tyX0 tyX0_ok nmX0 flX0_16 rfl rfl dX0_keep_60 ?_
    refine rx_vret X dX0_keep_63 ?_
    rw [eo, en]
    refine ⟨?_, ?_, fun k a b => ?_, ?_, ⟨fun j hj => ?_, fun j hj => ?_, fun q hq j hj => ?_⟩⟩
    · rw [rx_u_s, upd_n (by decide), h50f.2 24 (by omega)]; exact h1
    · rw [rx_u_s, upd_s]; exact nI_1 kn
    · rw [rx_u_ne a, h50f.2 k b]
    · exact h50f.1
    · rw [rx_u_ne (by omega), h50c.1 j hj]
    · rw [rx_u_ne (by omega), h50c.2.1 j hj]
    · rw [rx_u_ne (by omega), h50c.2.2 q hq j hj]
  · have he : kn = 24 := nI_inj (by omega) (by decide) h6
    have eo : ac_o od kn = (od + 1) % 24 := if_pos he
    have en : ac_n' kn = 23 := if_pos he
    subst he
    refine rx_aload_n (i := 0) X dX0_keep_9 rfl rfl ?_
    refine rx_aload_n (i := 0) X dX0_keep_10 rfl rfl ?_
    refine rx_getI (ci := 0) (i := 1) X (kc_24 hO) rfl rfl (by decide) inX0 flX0_20 dX0_keep_11 ?_
    refine rx_top h1 ?_
    refine rx_iconst (v := 1) X dX0_keep_14 (by decide) ?_
    refine rx_iadd X dX0_keep_15 ?_
    refine rx_bipush (v := 24) X dX0_keep_16 (by decide) ?_
    refine rx_irem X dX0_keep_18 (by decide) ?_
    refine rx_top (ac_mod (a := od) (b := 1) (by omega)) ?_
    refine rx_putI (ci := 0) (i := 1) X (kc_24 hO) rfl rfl (by decide) inX0 tyX0 tyX0_ok nmX0 flX0_20 rfl rfl dX0_keep_19 ?_
    refine rx_aload_n (i := 0) X dX0_keep_22 rfl rfl ?_
    refine rx_dup X dX0_keep_23 rfl ?_
    refine rx_getI (ci := 0) (i := 2) X (kc_24 hO) rfl rfl (by decide) inX0 flX0_16 dX0_keep_24 ?_
    refine rx_top (show _ = nI 24 by rw [rx_u_s, upd_n (by decide)]; exact h2) ?_
    refine rx_iconst (v := 1) X dX0_keep_27 (by decide) ?_
    refine rx_isub X dX0_keep_28 ?_
    refine rx_top (y := nI 23) (by decide) ?_
    refine rx_putI (ci := 0) (i := 2) X (kc_24 hO) rfl rfl (by decide) inX0 tyX0 tyX0_ok nmX0 flX0_16 rfl rfl dX0_keep_29 ?_
    refine rx_aload_n (i := 0) X dX0_keep_32 rfl rfl ?_
    refine rx_getR (ci := 0) (i := 0) X (kc_24 hO) rfl rfl (by decide) inX0 flX0_11 dX0_keep_33 ?_
    refine rx_aload_n (i := 0) X dX0_keep_36 rfl rfl ?_
    refine rx_getI (ci := 0) (i := 1) X (kc_24 hO) rfl rfl (by decide) inX0 flX0_20 dX0_keep_37 ?_
    refine rx_top (show _ = nI ((od + 1) % 24) by rw [rx_u_s, upd_n (by decide), rx_u_s, upd_s]) ?_
    refine rx_aload_n (i := 0) X dX0_keep_40 rfl rfl ?_
    refine rx_getI (ci := 0) (i := 2) X (kc_24 hO) rfl rfl (by decide) inX0 flX0_16 dX0_keep_41 ?_
    refine rx_top (show _ = nI 23 by rw [rx_u_s, upd_s]) ?_
    refine rx_iadd X dX0_keep_44 ?_
    refine rx_bipush (v := 24) X dX0_keep_45 (by decide) ?_
    refine rx_irem X dX0_keep_47 (by decide) ?_
    refine rx_top (ac_mod (a := ((od + 1) % 24)) (b := 23) (by omega)) ?_
    refine rx_aaldN (j := (((od + 1) % 24) + 23) % 24) X (kc_25 hO) hO.2.2.2.2.1 rfl (Nat.mod_lt _ (by decide)) (by decide) (cb_acts_el _ (Nat.mod_lt _ (by decide))) dX0_keep_48 ?_
    refine rx_aload_n (i := 1) X dX0_keep_49 rfl rfl ?_
    have hj := Nat.mod_lt (((od + 1) % 24) + 23) (show 0 < 24 by decide)
    have hfr : ∀ k, (k < 26 + 9 * ((((od + 1) % 24) + 23) % 24) ∨ 26 + 9 * ((((od + 1) % 24) + 23) % 24) + 8 < k) → True := fun _ _ => trivial
    refine rx_callVv (ci := 3) X vsX3_takeFrom mlX0_23 (kX3_takeFrom hO (cb_Ba0 _ hj) cb_B1 (by omega) (fun q hq => by rw [rx_u_ne (by omega), rx_u_ne (by omega)]; exact hbo q hq)) (kb_0 hO (cb_Ba0 _ (Nat.mod_lt _ (by decide)))) rfl rfl (by decide) (by decide) dX0_keep_50 rfl (Nat.le_of_ble_eq_true rfl) (fun t50 h50 => ?_)
    obtain ⟨h50f, h50c⟩ := h50
    refine rx_aload_n (i := 0) X dX0_keep_53 rfl rfl ?_
    refine rx_dup X dX0_keep_54 rfl ?_
    refine rx_getI (ci := 0) (i := 2) X (kc_24 hO) rfl rfl (by decide) inX0 flX0_16 dX0_keep_55 ?_
    refine rx_top (show _ = nI 23 by rw [h50f.2 24 (by omega), rx_u_s, upd_s]) ?_
    refine rx_iconst (v := 1) X dX0_keep_58 (by decide) ?_
    refine rx_iadd X dX0_keep_59 ?_
    refine rx_putI (ci := 0) (i := 2) X (kc_24 hO) rfl rfl (by decide) inX0 tyX0 tyX0_ok nmX0 flX0_16 rfl rfl dX0_keep_60 ?_
    refine rx_vret X dX0_keep_63 ?_
    rw [eo, en]
    refine ⟨?_, ?_, fun k a b => ?_, ?_, ⟨fun j hj => ?_, fun j hj => ?_, fun q hq j hj => ?_⟩⟩
    · rw [rx_u_s, upd_n (by decide), h50f.2 24 (by omega), rx_u_s, upd_n (by decide), rx_u_s, upd_s]
    · rw [rx_u_s, upd_s]; exact nI_1 23
    · rw [rx_u_ne a, h50f.2 k b, rx_u_ne a, rx_u_ne a]
    · exact h50f.1
    · rw [rx_u_ne (by omega), h50c.1 j hj, rx_u_ne (by omega), rx_u_ne (by omega)]
    · rw [rx_u_ne (by omega), h50c.2.1 j hj, rx_u_ne (by omega), rx_u_ne (by omega)]
    · rw [rx_u_ne (by omega), h50c.2.2 q hq j hj, rx_u_ne (by omega), rx_u_ne (by omega)]
set_option maxHeartbeats 1000000 in
set_option maxRecDepth 100000 in
theorem kX0_takeBack {l : Launch} {O : rx_O} (hO : cb_O O) {σ : rx_S} {od kn : Nat} (h1 : σ.1 24 1 = nI od) (h2 : σ.1 24 2 = nI (kn + 1)) (hod : od < 24) (hkn : kn < 24) (hbo : cb_bo σ (26 + 9 * ((od + kn) % 24))) : rx_MI l O yX0_takeBack cX0_takeBack 2 (some .int) 2 [.ref 24, .ref 1] σ (fun r τ => r = nI kn ∧ τ.1 24 1 = nI od ∧ τ.1 24 2 = nI kn ∧ (∀ k, k ≠ 24 → (k < 1 ∨ 9 < k) → τ.1 k = σ.1 k) ∧ τ.2 = σ.2 ∧ cb_cp σ τ 1 (26 + 9 * ((od + kn) % 24))) := by
  refine rx_Met_of (own := RX0) rfl hO.2.1 vsX0_takeBack.2.2.2.2.2 (Nat.le_of_ble_eq_true rfl) rfl (fun p e s m args below meth c X => ?_)
  refine rx_aload_n (i := 0) X dX0_takeBack_0 rfl rfl ?_
  refine rx_getI (ci := 0) (i := 2) X (kc_24 hO) rfl rfl (by decide) inX0 flX0_16 dX0_takeBack_1 ?_
  refine rx_top h2 ?_
  refine rx_if_le_f X dX0_takeBack_4 (by rw [Int32.le_iff_toInt_le, nI_toInt (by omega)]; show ¬ _ ≤ (0 : Int); omega) ?_
  refine rx_aload_n (i := 0) X dX0_takeBack_7 rfl rfl ?_
  refine rx_dup X dX0_takeBack_8 rfl ?_
  refine rx_getI (ci := 0) (i := 2) X (kc_24 hO) rfl rfl (by decide) inX0 flX0_16 dX0_takeBack_9 ?_
  refine rx_top h2 ?_
  refine rx_iconst (v := 1) X dX0_takeBack_12 (by decide) ?_
  refine rx_isub X dX0_takeBack_13 ?_
  refine rx_top (nI_pred kn) ?_
  refine rx_putI (ci := 0) (i := 2) X (kc_24 hO) rfl rfl (by decide) inX0 tyX0 tyX0_ok nmX0 flX0_16 rfl rfl dX0_takeBack_14 ?_
  refine rx_aload_n (i := 1) X dX0_takeBack_17 rfl rfl ?_
  refine rx_aload_n (i := 0) X dX0_takeBack_18 rfl rfl ?_
  refine rx_getR (ci := 0) (i := 0) X (kc_24 hO) rfl rfl (by decide) inX0 flX0_11 dX0_takeBack_19 ?_
  refine rx_aload_n (i := 0) X dX0_takeBack_22 rfl rfl ?_
  refine rx_getI (ci := 0) (i := 1) X (kc_24 hO) rfl rfl (by decide) inX0 flX0_20 dX0_takeBack_23 ?_
  refine rx_top (show _ = nI od by rw [rx_u_s, upd_n (by decide)]; exact h1) ?_
  refine rx_aload_n (i := 0) X dX0_takeBack_26 rfl rfl ?_
  refine rx_getI (ci := 0) (i := 2) X (kc_24 hO) rfl rfl (by decide) inX0 flX0_16 dX0_takeBack_27 ?_
  refine rx_top (show _ = nI kn by rw [rx_u_s, upd_s]) ?_
  refine rx_iadd X dX0_takeBack_30 ?_
  refine rx_bipush (v := 24) X dX0_takeBack_31 (by decide) ?_
  refine rx_irem X dX0_takeBack_33 (by decide) ?_
  refine rx_top (ac_mod (a := od) (b := kn) (by omega)) ?_
  refine rx_aaldN (j := (od + kn) % 24) X (kc_25 hO) hO.2.2.2.2.1 rfl (Nat.mod_lt _ (by decide)) (by decide) (cb_acts_el _ (Nat.mod_lt _ (by decide))) dX0_takeBack_34 ?_
  have hj := Nat.mod_lt (od + kn) (show 0 < 24 by decide)
  refine rx_callVv (ci := 3) X vsX3_takeFrom mlX0_23 (kX3_takeFrom hO cb_B1 (cb_Ba0 _ hj) (by omega) (fun q hq => by rw [rx_u_ne (by omega)]; exact hbo q hq)) (kb_0 hO cb_B1) rfl rfl (by decide) (by decide) dX0_takeBack_35 rfl (Nat.le_of_ble_eq_true rfl) (fun t35 h35 => ?_)
  obtain ⟨h35f, h35c⟩ := h35
  refine rx_aload_n (i := 0) X dX0_takeBack_38 rfl rfl ?_
  refine rx_getI (ci := 0) (i := 2) X (kc_24 hO) rfl rfl (by decide) inX0 flX0_16 dX0_takeBack_39 ?_
  refine rx_top (show _ = nI kn by rw [h35f.2 24 (by omega), rx_u_s, upd_s]) ?_
  refine rx_iret X dX0_takeBack_42 ?_
  refine ⟨rfl, ?_, ?_, fun k a b => ?_, ?_, ⟨fun j hj => ?_, fun j hj => ?_, fun q hq j hj => ?_⟩⟩
  · rw [h35f.2 24 (by omega), rx_u_s, upd_n (by decide)]; exact h1
  · rw [h35f.2 24 (by omega), rx_u_s, upd_s]
  · rw [h35f.2 k (by omega), rx_u_ne a]
  · exact h35f.1
  · rw [h35c.1 j hj, rx_u_ne (by omega)]
  · rw [h35c.2.1 j hj, rx_u_ne (by omega)]
  · rw [h35c.2.2 q hq j hj, rx_u_ne (by omega)]
set_option maxHeartbeats 1000000 in
set_option maxRecDepth 100000 in
theorem kX0_forget {l : Launch} {O : rx_O} (hO : cb_O O) {σ : rx_S} : rx_MV l O yX0_forget cX0_forget 1 none 0 [.ref 24] σ (fun τ => rx_u σ 24 2 0 = τ) := by
  refine rx_Met_of (own := RX0) rfl hO.2.1 vsX0_forget.2.2.2.2.2 (Nat.le_of_ble_eq_true rfl) rfl (fun p e s m args below meth c X => ?_)
  refine rx_aload_n (i := 0) X dX0_forget_0 rfl rfl ?_
  refine rx_iconst (v := 0) X dX0_forget_1 (by decide) ?_
  refine rx_putI (ci := 0) (i := 2) X (kc_24 hO) rfl rfl (by decide) inX0 tyX0 tyX0_ok nmX0 flX0_16 rfl rfl dX0_forget_2 ?_
  refine rx_vret X dX0_forget_5 ?_
  rfl
