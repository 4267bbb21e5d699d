set_option maxHeartbeats 1000000 in
set_option maxRecDepth 100000 in
theorem kX7_found {l : Launch} {O : rx_O} (hO : cb_O O) {σ : rx_S} {f : Int32} : rx_MI l O yX7_found cX7_found 2 (some .int) 0 [.ref 0, .int f] σ (fun r τ => -1000010 - f = r ∧ rx_u σ 0 9 f = τ) := by
  refine rx_Met_of (own := RX7) rfl hO.2.1 vsX7_found.2.2.2.2.2 (Nat.le_of_ble_eq_true rfl) rfl (fun p e s m args below meth c X => ?_)
  refine rx_aload_n (i := 0) X dX7_found_0 rfl rfl ?_
  refine rx_iload_n (i := 1) X dX7_found_1 rfl rfl ?_
  refine rx_putI (ci := 7) (i := 9) X (kc_0 hO) rfl rfl (by decide) inX7 tyX7 tyX7_ok nmX7 flX7_63 rfl rfl dX7_found_2 ?_
  refine rx_ldcw X dX7_found_5 kcX7_309 ?_
  refine rx_iload_n (i := 1) X dX7_found_8 rfl rfl ?_
  refine rx_isub X dX7_found_9 ?_
  refine rx_iret X dX7_found_10 ?_
  exact ⟨rfl, rfl⟩
set_option maxHeartbeats 1000000 in
set_option maxRecDepth 100000 in
theorem kX7_fine {l : Launch} {O : rx_O} (hO : cb_O O) {σ : rx_S} {v : Int32} : rx_MI l O yX7_fine cX7_fine 2 (some .int) 0 [.ref 0, .int v] σ (fun r τ => v = r ∧ rx_u σ 0 9 0 = τ) := by
  refine rx_Met_of (own := RX7) rfl hO.2.1 vsX7_fine.2.2.2.2.2 (Nat.le_of_ble_eq_true rfl) rfl (fun p e s m args below meth c X => ?_)
  refine rx_aload_n (i := 0) X dX7_fine_0 rfl rfl ?_
  refine rx_iconst (v := 0) X dX7_fine_1 (by decide) ?_
  refine rx_putI (ci := 7) (i := 9) X (kc_0 hO) rfl rfl (by decide) inX7 tyX7 tyX7_ok nmX7 flX7_63 rfl rfl dX7_fine_2 ?_
  refine rx_iload_n (i := 1) X dX7_fine_5 rfl rfl ?_
  refine rx_iret X dX7_fine_6 ?_
  exact ⟨rfl, rfl⟩
set_option maxHeartbeats 1000000 in
set_option maxRecDepth 100000 in
theorem kX7_rowFinding {l : Launch} {O : rx_O} (hO : cb_O O) {σ : rx_S} {r : Nat} {i n : Int32} (hr : r < 8) (hs : -1 ≤ (σ.1 21 r).toInt) : rx_MI l O yX7_rowFinding cX7_rowFinding 4 (some .int) 3 [.ref 0, .int (nI r), .int i, .int n] σ (fun q τ => σ = τ ∧ ((q = 1 ∧ σ.1 21 r = -1) ∨ (q = 2 ∧ ¬ σ.1 21 r = -1 ∧ ¬ (0 ≤ i.toInt ∧ 0 ≤ n.toInt ∧ i.toInt ≤ (σ.1 21 r).toInt - n.toInt)) ∨ (q = 0 ∧ ¬ σ.1 21 r = -1 ∧ 0 ≤ i.toInt ∧ 0 ≤ n.toInt ∧ i.toInt ≤ (σ.1 21 r).toInt - n.toInt))) := by
  refine rx_Met_of (own := RX7) rfl hO.2.1 vsX7_rowFinding.2.2.2.2.2 (Nat.le_of_ble_eq_true rfl) rfl (fun p e s m args below meth c X => ?_)
  refine rx_aload_n (i := 0) X dX7_rowFinding_0 rfl rfl ?_
  refine rx_getR (ci := 7) (i := 1) X (kc_0 hO) rfl rfl (by decide) inX7 flX7_19 dX7_rowFinding_1 ?_
  refine rx_iload_n (i := 1) X dX7_rowFinding_4 rfl rfl ?_
  refine rx_callVi (ci := 5) X vsX5_isMissing mlX7_90 (kX5_isMissing hO hr) (kc_10 hO) rfl rfl (by decide) (by decide) dX7_rowFinding_5 rfl (Nat.le_of_ble_eq_true rfl) (fun r5 t5 h5 => ?_)
  obtain ⟨rfl, ⟨rfl, h5⟩ | ⟨rfl, h5⟩⟩ := h5
  · refine rx_if_eq_f X dX7_rowFinding_8 (by decide) ?_
    refine rx_iconst (v := 1) X dX7_rowFinding_11 (by decide) ?_
    refine rx_iret X dX7_rowFinding_12 ?_
    exact ⟨rfl, Or.inl ⟨rfl, h5⟩⟩
  · refine rx_if_eq_t X dX7_rowFinding_8 (by decide) ?_
    refine rx_aload_n (i := 0) X dX7_rowFinding_13 rfl rfl ?_
    refine rx_getR (ci := 7) (i := 1) X (kc_0 hO) rfl rfl (by decide) inX7 flX7_19 dX7_rowFinding_14 ?_
    refine rx_iload_n (i := 1) X dX7_rowFinding_17 rfl rfl ?_
    refine rx_iload_n (i := 2) X dX7_rowFinding_18 rfl rfl ?_
    refine rx_iload_n (i := 3) X dX7_rowFinding_19 rfl rfl ?_
    refine rx_callVi (ci := 5) X vsX5_hasPlaces mlX7_97 (kX5_hasPlaces hO hr hs) (kc_10 hO) rfl rfl (by decide) (by decide) dX7_rowFinding_20 rfl (Nat.le_of_ble_eq_true rfl) (fun r20 t20 h20 => ?_)
    obtain ⟨rfl, ⟨rfl, h20⟩ | ⟨rfl, h20⟩⟩ := h20
    · refine rx_if_eq_f X dX7_rowFinding_23 (by decide) ?_
      refine rx_iconst (v := 0) X dX7_rowFinding_26 (by decide) ?_
      refine rx_goto X dX7_rowFinding_27 ?_
      refine rx_iret X dX7_rowFinding_31 ?_
      exact ⟨rfl, Or.inr (Or.inr ⟨rfl, h20.1, h20.2.1, h20.2.2.1, h20.2.2.2⟩)⟩
    · refine rx_if_eq_t X dX7_rowFinding_23 (by decide) ?_
      refine rx_iconst (v := 2) X dX7_rowFinding_30 (by decide) ?_
      refine rx_iret X dX7_rowFinding_31 ?_
      exact ⟨rfl, Or.inr (Or.inl ⟨rfl, h5, fun q => h20 ⟨h5, q⟩⟩)⟩
set_option maxHeartbeats 1000000 in
set_option maxRecDepth 100000 in
theorem kX7_isRowAsked {l : Launch} {O : rx_O} (hO : cb_O O) {σ : rx_S} {x n : Int32} : rx_MI l O yX7_isRowAsked cX7_isRowAsked 3 (some .boolean) 1 [.ref 0, .int x, .int n] σ (fun r τ => σ = τ ∧ rx_b ((0 ≤ x.toInt ∧ x.toInt ≤ 7) ∧ 1 ≤ n.toInt ∧ n.toInt ≤ 12) r) := by
  refine rx_Met_of (own := RX7) rfl hO.2.1 vsX7_isRowAsked.2.2.2.2.2 (Nat.le_of_ble_eq_true rfl) rfl (fun p e s m args below meth c X => ?_)
  refine rx_aload_n (i := 0) X dX7_isRowAsked_0 rfl rfl ?_
  refine rx_getR (ci := 7) (i := 1) X (kc_0 hO) rfl rfl (by decide) inX7 flX7_19 dX7_isRowAsked_1 ?_
  refine rx_iload_n (i := 1) X dX7_isRowAsked_4 rfl rfl ?_
  refine rx_callVi (ci := 5) X vsX5_isNumber mlX7_67 (kX5_isNumber hO) (kc_10 hO) rfl rfl (by decide) (by decide) dX7_isRowAsked_5 rfl (Nat.le_of_ble_eq_true rfl) (fun r5 t5 h5 => ?_)
  obtain ⟨rfl, ⟨rfl, h5⟩ | ⟨rfl, h5⟩⟩ := h5
  · refine rx_if_eq_f X dX7_isRowAsked_8 (by decide) ?_
    refine rx_iload_n (i := 2) X dX7_isRowAsked_11 rfl rfl ?_
    refine rx_iconst (v := 1) X dX7_isRowAsked_12 (by decide) ?_
    refine rx_icmp_lt X dX7_isRowAsked_13 (fun h13 => ?_) (fun h13 => ?_)
    · try simp only [Int32.lt_iff_toInt_lt, Int32.le_iff_toInt_le, Int32.reduceToInt] at h13
      refine rx_iconst (v := 0) X dX7_isRowAsked_26 (by decide) ?_
      refine rx_zret X dX7_isRowAsked_27 rfl ?_
      exact ⟨rfl, by first | exact Or.inl ⟨rfl, by omega⟩ | exact Or.inr ⟨rfl, by omega⟩⟩
    · try simp only [Int32.lt_iff_toInt_lt, Int32.le_iff_toInt_le, Int32.reduceToInt] at h13
      refine rx_iload_n (i := 2) X dX7_isRowAsked_16 rfl rfl ?_
      refine rx_bipush (v := 12) X dX7_isRowAsked_17 (by decide) ?_
      refine rx_icmp_gt X dX7_isRowAsked_19 (fun h19 => ?_) (fun h19 => ?_)
      · try simp only [Int32.lt_iff_toInt_lt, Int32.le_iff_toInt_le, Int32.reduceToInt] at h19
        refine rx_iconst (v := 0) X dX7_isRowAsked_26 (by decide) ?_
        refine rx_zret X dX7_isRowAsked_27 rfl ?_
        exact ⟨rfl, by first | exact Or.inl ⟨rfl, by omega⟩ | exact Or.inr ⟨rfl, by omega⟩⟩
      · try simp only [Int32.lt_iff_toInt_lt, Int32.le_iff_toInt_le, Int32.reduceToInt] at h19
        refine rx_iconst (v := 1) X dX7_isRowAsked_22 (by decide) ?_
        refine rx_goto X dX7_isRowAsked_23 ?_
        refine rx_zret X dX7_isRowAsked_27 rfl ?_
        exact ⟨rfl, by first | exact Or.inl ⟨rfl, by omega⟩ | exact Or.inr ⟨rfl, by omega⟩⟩
  · refine rx_if_eq_t X dX7_isRowAsked_8 (by decide) ?_
    refine rx_iconst (v := 0) X dX7_isRowAsked_26 (by decide) ?_
    refine rx_zret X dX7_isRowAsked_27 rfl ?_
    exact ⟨rfl, by first | exact Or.inl ⟨rfl, by omega⟩ | exact Or.inr ⟨rfl, by omega⟩⟩
set_option maxHeartbeats 1000000 in
set_option maxRecDepth 100000 in
theorem kX7_isAskedAhead {l : Launch} {O : rx_O} (hO : cb_O O) {σ : rx_S} {x n w3 : Int32} (h3 : σ.1 1 3 = w3) : rx_MI l O yX7_isAskedAhead cX7_isAskedAhead 3 (some .boolean) 1 [.ref 0, .int x, .int n] σ (fun r τ => σ = τ ∧ rx_b ((0 ≤ x.toInt ∧ x.toInt < w3.toInt) ∧ 1 ≤ n.toInt ∧ n.toInt ≤ 99) r) := by
  refine rx_Met_of (own := RX7) rfl hO.2.1 vsX7_isAskedAhead.2.2.2.2.2 (Nat.le_of_ble_eq_true rfl) rfl (fun p e s m args below meth c X => ?_)
  refine rx_aload_n (i := 0) X dX7_isAskedAhead_0 rfl rfl ?_
  refine rx_getR (ci := 7) (i := 0) X (kc_0 hO) rfl rfl (by decide) inX7 flX7_10 dX7_isAskedAhead_1 ?_
  refine rx_iload_n (i := 1) X dX7_isAskedAhead_4 rfl rfl ?_
  refine rx_callVi (ci := 3) X vsX3_hasAnt mlX7_173 (kX3_hasAnt hO cb_B1 h3) (kb_0 hO cb_B1) rfl rfl (by decide) (by decide) dX7_isAskedAhead_5 rfl (Nat.le_of_ble_eq_true rfl) (fun r5 t5 h5 => ?_)
  obtain ⟨rfl, ⟨rfl, h5⟩ | ⟨rfl, h5⟩⟩ := h5
  · refine rx_if_eq_f X dX7_isAskedAhead_8 (by decide) ?_
    refine rx_iload_n (i := 2) X dX7_isAskedAhead_11 rfl rfl ?_
    refine rx_iconst (v := 1) X dX7_isAskedAhead_12 (by decide) ?_
    refine rx_icmp_lt X dX7_isAskedAhead_13 (fun h13 => ?_) (fun h13 => ?_)
    · try simp only [Int32.lt_iff_toInt_lt, Int32.le_iff_toInt_le, Int32.reduceToInt] at h13
      refine rx_iconst (v := 0) X dX7_isAskedAhead_26 (by decide) ?_
      refine rx_zret X dX7_isAskedAhead_27 rfl ?_
      exact ⟨rfl, by first | exact Or.inl ⟨rfl, by omega⟩ | exact Or.inr ⟨rfl, by omega⟩⟩
    · try simp only [Int32.lt_iff_toInt_lt, Int32.le_iff_toInt_le, Int32.reduceToInt] at h13
      refine rx_iload_n (i := 2) X dX7_isAskedAhead_16 rfl rfl ?_
      refine rx_bipush (v := 99) X dX7_isAskedAhead_17 (by decide) ?_
      refine rx_icmp_gt X dX7_isAskedAhead_19 (fun h19 => ?_) (fun h19 => ?_)
      · try simp only [Int32.lt_iff_toInt_lt, Int32.le_iff_toInt_le, Int32.reduceToInt] at h19
        refine rx_iconst (v := 0) X dX7_isAskedAhead_26 (by decide) ?_
        refine rx_zret X dX7_isAskedAhead_27 rfl ?_
        exact ⟨rfl, by first | exact Or.inl ⟨rfl, by omega⟩ | exact Or.inr ⟨rfl, by omega⟩⟩
      · try simp only [Int32.lt_iff_toInt_lt, Int32.le_iff_toInt_le, Int32.reduceToInt] at h19
        refine rx_iconst (v := 1) X dX7_isAskedAhead_22 (by decide) ?_
        refine rx_goto X dX7_isAskedAhead_23 ?_
        refine rx_zret X dX7_isAskedAhead_27 rfl ?_
        exact ⟨rfl, by first | exact Or.inl ⟨rfl, by omega⟩ | exact Or.inr ⟨rfl, by omega⟩⟩
  · refine rx_if_eq_t X dX7_isAskedAhead_8 (by decide) ?_
    refine rx_iconst (v := 0) X dX7_isAskedAhead_26 (by decide) ?_
    refine rx_zret X dX7_isAskedAhead_27 rfl ?_
    exact ⟨rfl, by first | exact Or.inl ⟨rfl, by omega⟩ | exact Or.inr ⟨rfl, by omega⟩⟩
theorem row_nat {x : Int32} (h : 0 ≤ x.toInt ∧ x.toInt ≤ 7) : ∃ r, x = nI r ∧ r < 8 ∧ rx_N (nI r) = r := by
  obtain ⟨m, rfl, h1, h2, h3⟩ := i_nat h.1
  exact ⟨m, rfl, by omega, h3⟩
theorem sz_neg {x : Int32} (h : -1 ≤ x.toInt) : (x = -1 ↔ x.toInt < 0) := by
  have e : (-1 : Int32).toInt = -1 := rfl
  rw [← Int32.toInt_inj, e]
  omega
set_option maxHeartbeats 1000000 in
set_option maxRecDepth 100000 in
theorem kX7_row {l : Launch} {O : rx_O} (hO : cb_O O) {σ : rx_S} {ρ : rx_S} {x ln n : Int32} (h : cR σ ρ) : rx_MI l O yX7_row cX7_row 4 (some .int) 2 [.ref 0, .int x, .int ln, .int n] σ (fun r τ => ∀ r2 ρ2, (sp_row ρ x ln n = (r2, ρ2)) → r = r2 ∧ cR τ ρ2) := by
  refine rx_Met_of (own := RX7) rfl hO.2.1 vsX7_row.2.2.2.2.2 (Nat.le_of_ble_eq_true rfl) rfl (fun p e s m args below meth c X => ?_)
  obtain ⟨⟨w1, wC, wB, wW⟩, ⟨s1, s2, s3⟩, hr, ht, hA, hI, hK⟩ := id h
  refine rx_aload_n (i := 0) X dX7_row_0 rfl rfl ?_
  refine rx_getR (ci := 7) (i := 1) X (kc_0 hO) rfl rfl (by decide) inX7 flX7_19 dX7_row_1 ?_
  refine rx_iload_n (i := 1) X dX7_row_4 rfl rfl ?_
  refine rx_callVi (ci := 5) X vsX5_isNumber mlX7_67 (kX5_isNumber hO) (kc_10 hO) rfl rfl (by decide) (by decide) dX7_row_5 rfl (Nat.le_of_ble_eq_true rfl) (fun r5 t5 h5 => ?_)
  obtain ⟨rfl, ⟨rfl, h5⟩ | ⟨rfl, h5⟩⟩ := h5
  · obtain ⟨r, rfl, hr8, hNr⟩ := row_nat h5
    refine rx_if_eq_f X dX7_row_8 (by decide) ?_
    refine rx_iload_n (i := 2) X dX7_row_11 rfl rfl ?_
    refine rx_if_lt X dX7_row_12 (fun h12 => ?_) (fun h12 => ?_)
    · try simp only [Int32.lt_iff_toInt_lt, Int32.le_iff_toInt_le, Int32.reduceToInt] at h12
      refine rx_ldc X dX7_row_26 kcX7_71 ?_
      refine rx_iret X dX7_row_28 ?_
      intro r2 ρ2 hq
      rw [sp_row, if_pos (by omega)] at hq
      obtain ⟨rfl, rfl⟩ := Prod.mk.inj hq
      exact ⟨rfl, h⟩
    · try simp only [Int32.lt_iff_toInt_lt, Int32.le_iff_toInt_le, Int32.reduceToInt] at h12
      refine rx_iload_n (i := 2) X dX7_row_15 rfl rfl ?_
      refine rx_iconst (v := 2) X dX7_row_16 (by decide) ?_
      refine rx_icmp_gt X dX7_row_17 (fun h17 => ?_) (fun h17 => ?_)
      · try simp only [Int32.lt_iff_toInt_lt, Int32.le_iff_toInt_le, Int32.reduceToInt] at h17
        refine rx_ldc X dX7_row_26 kcX7_71 ?_
        refine rx_iret X dX7_row_28 ?_
        intro r2 ρ2 hq
        rw [sp_row, if_pos (by omega)] at hq
        obtain ⟨rfl, rfl⟩ := Prod.mk.inj hq
        exact ⟨rfl, h⟩
      · try simp only [Int32.lt_iff_toInt_lt, Int32.le_iff_toInt_le, Int32.reduceToInt] at h17
        refine rx_iload_n (i := 3) X dX7_row_20 rfl rfl ?_
        refine rx_bipush (v := 40) X dX7_row_21 (by decide) ?_
        refine rx_icmp_le X dX7_row_23 (fun h23 => ?_) (fun h23 => ?_)
        · try simp only [Int32.lt_iff_toInt_lt, Int32.le_iff_toInt_le, Int32.reduceToInt] at h23
          refine rx_iload_n (i := 3) X dX7_row_29 rfl rfl ?_
          refine rx_if_ge X dX7_row_30 (fun h30 => ?_) (fun h30 => ?_)
          · try simp only [Int32.lt_iff_toInt_lt, Int32.le_iff_toInt_le, Int32.reduceToInt] at h30
            refine rx_aload_n (i := 0) X dX7_row_39 rfl rfl ?_
            refine rx_getR (ci := 7) (i := 1) X (kc_0 hO) rfl rfl (by decide) inX7 flX7_19 dX7_row_40 ?_
            refine rx_iload_n (i := 1) X dX7_row_43 rfl rfl ?_
            refine rx_iload_n (i := 2) X dX7_row_44 rfl rfl ?_
            refine rx_iload_n (i := 3) X dX7_row_45 rfl rfl ?_
            obtain ⟨m, rfl, hm1, hm2, hm3⟩ := i_nat (x := n) (by omega)
            refine rx_callVv (ci := 5) X vsX5_make mlX7_76 (kX5_make hO hr8 (by omega)) (kc_10 hO) rfl rfl (by decide) (by decide) dX7_row_46 rfl (Nat.le_of_ble_eq_true rfl) (fun t46 h46 => ?_)
            obtain ⟨g1, g2, g3, g4, g5⟩ := h46
            refine rx_aload_n (i := 0) X dX7_row_49 rfl rfl ?_
            refine rx_iload_n (i := 3) X dX7_row_50 rfl rfl ?_
            refine rx_callVi (ci := 7) X vsX7_fine mlX7_80 (kX7_fine hO) (kc_0 hO) rfl rfl (by decide) (by decide) dX7_row_51 rfl (Nat.le_of_ble_eq_true rfl) (fun r51 t51 h51 => ?_)
            obtain ⟨rfl, rfl⟩ := h51
            refine rx_iret X dX7_row_54 ?_
            intro r2 ρ2 hpq
            rw [sp_row, if_neg (by omega), if_neg (by omega), hNr] at hpq
            obtain ⟨rfl, rfl⟩ := Prod.mk.inj hpq
            clear hpq
            refine ⟨rfl, cR.st ?_⟩
            refine h.rows (fun k hk => g1 k (by omega) (by omega) (by omega)) (fun k a b c => by rw [rx_ua_ne c, rx_u_ne b, rx_u_ne a]) ⟨fun q hq => ?_, fun q hq => ?_, fun q hq i hi hs => ?_⟩
            · rw [rx_ua_ne (by decide), rx_u_s]
              by_cases e : q = r
              · subst e; rw [upd_s]; omega
              · rw [upd_n e, rx_u_ne (by decide)]; exact hr.1 q hq
            · rw [g2, g3, rx_ua_ne (by decide), rx_u_ne (by decide), rx_u_s, rx_ua_ne (by decide), rx_u_s, rx_u_ne (by decide)]
              by_cases e : q = r
              · subst e; rw [upd_s, upd_s, upd_s, upd_s]; exact ⟨rfl, rfl⟩
              · rw [upd_n e, upd_n e, upd_n e, upd_n e]; exact hr.2.1 q hq
            · rw [rx_ua_ne (by decide), rx_u_s] at hs
              rw [rx_ua_s]
              by_cases e : q = r
              · subst e
                rw [upd_s] at hs
                rw [g5 i (by omega)]
                exact (if_pos (by omega)).symm
              · rw [upd_n e, rx_u_ne (by decide)] at hs
                rw [g1 _ (by omega) (by omega) (by omega), hr.2.2 q hq i hi hs]
                exact (if_neg (by omega)).symm
          · try simp only [Int32.lt_iff_toInt_lt, Int32.le_iff_toInt_le, Int32.reduceToInt] at h30
            refine rx_aload_n (i := 0) X dX7_row_33 rfl rfl ?_
            refine rx_iconst (v := 4) X dX7_row_34 (by decide) ?_
            refine rx_callVi (ci := 7) X vsX7_found mlX7_72 (kX7_found hO) (kc_0 hO) rfl rfl (by decide) (by decide) dX7_row_35 rfl (Nat.le_of_ble_eq_true rfl) (fun r35 t35 h35 => ?_)
            obtain ⟨rfl, rfl⟩ := h35
            refine rx_iret X dX7_row_38 ?_
            intro r2 ρ2 hpq
            rw [sp_row, if_neg (by omega), if_pos (by omega)] at hpq
            obtain ⟨rfl, rfl⟩ := Prod.mk.inj hpq
            clear hpq
            exact ⟨by decide, h.st⟩
        · try simp only [Int32.lt_iff_toInt_lt, Int32.le_iff_toInt_le, Int32.reduceToInt] at h23
          refine rx_ldc X dX7_row_26 kcX7_71 ?_
          refine rx_iret X dX7_row_28 ?_
          intro r2 ρ2 hq
          rw [sp_row, if_pos (by omega)] at hq
          obtain ⟨rfl, rfl⟩ := Prod.mk.inj hq
          exact ⟨rfl, h⟩
  · refine rx_if_eq_t X dX7_row_8 (by decide) ?_
    refine rx_ldc X dX7_row_26 kcX7_71 ?_
    refine rx_iret X dX7_row_28 ?_
    intro r2 ρ2 hq
    rw [sp_row, if_pos (by omega)] at hq
    obtain ⟨rfl, rfl⟩ := Prod.mk.inj hq
    exact ⟨rfl, h⟩
set_option maxHeartbeats 1000000 in
set_option maxRecDepth 100000 in
theorem kX7_set {l : Launch} {O : rx_O} (hO : cb_O O) {σ : rx_S} {ρ : rx_S} {x i v : Int32} (h : cR σ ρ) : rx_MI l O yX7_set cX7_set 5 (some .int) 4 [.ref 0, .int x, .int i, .int v] σ (fun r τ => ∀ r2 ρ2, (sp_set ρ x i v = (r2, ρ2)) → r = r2 ∧ cR τ ρ2) := by
  refine rx_Met_of (own := RX7) rfl hO.2.1 vsX7_set.2.2.2.2.2 (Nat.le_of_ble_eq_true rfl) rfl (fun p e s m args below meth c X => ?_)
  obtain ⟨⟨w1, wC, wB, wW⟩, ⟨s1, s2, s3⟩, hr, ht, hA, hI, hK⟩ := id h
  refine rx_aload_n (i := 0) X dX7_set_0 rfl rfl ?_
  refine rx_getR (ci := 7) (i := 1) X (kc_0 hO) rfl rfl (by decide) inX7 flX7_19 dX7_set_1 ?_
  refine rx_iload_n (i := 1) X dX7_set_4 rfl rfl ?_
  refine rx_callVi (ci := 5) X vsX5_isNumber mlX7_67 (kX5_isNumber hO) (kc_10 hO) rfl rfl (by decide) (by decide) dX7_set_5 rfl (Nat.le_of_ble_eq_true rfl) (fun r5 t5 h5 => ?_)
  obtain ⟨rfl, ⟨rfl, h5⟩ | ⟨rfl, h5⟩⟩ := h5
  · obtain ⟨r, rfl, hr8, hNr⟩ := row_nat h5
    refine rx_if_ne_t X dX7_set_8 (by decide) ?_
    refine rx_aload_n (i := 0) X dX7_set_14 rfl rfl ?_
    refine rx_iload_n (i := 1) X dX7_set_15 rfl rfl ?_
    refine rx_iload_n (i := 2) X dX7_set_16 rfl rfl ?_
    refine rx_iconst (v := 1) X dX7_set_17 (by decide) ?_
    refine rx_callVi (ci := 7) X vsX7_rowFinding mlX7_83 (kX7_rowFinding hO hr8 (by rw [(hr.2.1 r hr8).2]; exact (hr.1 r hr8).1)) (kc_0 hO) rfl rfl (by decide) (by decide) dX7_set_18 rfl (Nat.le_of_ble_eq_true rfl) (fun r18 t18 h18 => ?_)
    rw [(hr.2.1 r hr8).2] at h18
    obtain ⟨rfl, ⟨rfl, h18⟩ | ⟨rfl, h18m, h18⟩ | ⟨rfl, h18m, h18⟩⟩ := h18
    · refine rx_istore (i := 4) (lo2 := [(0, .ref _), (1, .int _), (2, .int _), (3, .int _), (4, .int _)]) X dX7_set_21 (by decide) rfl ?_
      refine rx_iload (i := 4) X dX7_set_23 rfl ?_
      refine rx_if_eq_f X dX7_set_25 (by decide) ?_
      refine rx_aload_n (i := 0) X dX7_set_28 rfl rfl ?_
      refine rx_iload (i := 4) X dX7_set_29 rfl ?_
      refine rx_callVi (ci := 7) X vsX7_found mlX7_72 (kX7_found hO) (kc_0 hO) rfl rfl (by decide) (by decide) dX7_set_31 rfl (Nat.le_of_ble_eq_true rfl) (fun r31 t31 h31 => ?_)
      obtain ⟨rfl, rfl⟩ := h31
      refine rx_iret X dX7_set_34 ?_
      have hz1 := sz_neg (hr.1 r hr8).1
      have e1 : (1 : Int32).toInt = 1 := rfl
      intro r2 ρ2 hpq
      rw [sp_set, if_neg (by omega), hNr, if_pos (hz1.mp h18)] at hpq
      obtain ⟨rfl, rfl⟩ := Prod.mk.inj hpq
      clear hpq
      exact ⟨by decide, h.st⟩
    · refine rx_istore (i := 4) (lo2 := [(0, .ref _), (1, .int _), (2, .int _), (3, .int _), (4, .int _)]) X dX7_set_21 (by decide) rfl ?_
      refine rx_iload (i := 4) X dX7_set_23 rfl ?_
      refine rx_if_eq_f X dX7_set_25 (by decide) ?_
      refine rx_aload_n (i := 0) X dX7_set_28 rfl rfl ?_
      refine rx_iload (i := 4) X dX7_set_29 rfl ?_
      refine rx_callVi (ci := 7) X vsX7_found mlX7_72 (kX7_found hO) (kc_0 hO) rfl rfl (by decide) (by decide) dX7_set_31 rfl (Nat.le_of_ble_eq_true rfl) (fun r31 t31 h31 => ?_)
      obtain ⟨rfl, rfl⟩ := h31
      refine rx_iret X dX7_set_34 ?_
      have hz1 := sz_neg (hr.1 r hr8).1
      have e1 : (1 : Int32).toInt = 1 := rfl
      intro r2 ρ2 hpq
      rw [sp_set, if_neg (by omega), hNr, if_neg (fun q => h18m (hz1.mpr q)), if_pos (by omega)] at hpq
      obtain ⟨rfl, rfl⟩ := Prod.mk.inj hpq
      clear hpq
      exact ⟨by decide, h.st⟩
    · refine rx_istore (i := 4) (lo2 := [(0, .ref _), (1, .int _), (2, .int _), (3, .int _), (4, .int _)]) X dX7_set_21 (by decide) rfl ?_
      refine rx_iload (i := 4) X dX7_set_23 rfl ?_
      refine rx_if_eq_t X dX7_set_25 (by decide) ?_
      refine rx_aload_n (i := 0) X dX7_set_35 rfl rfl ?_
      refine rx_aload_n (i := 0) X dX7_set_36 rfl rfl ?_
      refine rx_getR (ci := 7) (i := 1) X (kc_0 hO) rfl rfl (by decide) inX7 flX7_19 dX7_set_37 ?_
      refine rx_iload_n (i := 1) X dX7_set_40 rfl rfl ?_
      refine rx_iload_n (i := 2) X dX7_set_41 rfl rfl ?_
      refine rx_iload_n (i := 3) X dX7_set_42 rfl rfl ?_
      obtain ⟨m, rfl, hm1, hm2, hm3⟩ := i_nat (x := i) h18.1
      refine rx_callVi (ci := 5) X vsX5_put mlX7_87 (kX5_put hO hr8 (by have := (hr.1 r hr8).2; have e1 : (1 : Int32).toInt = 1 := rfl; omega)) (kc_10 hO) rfl rfl (by decide) (by decide) dX7_set_43 rfl (Nat.le_of_ble_eq_true rfl) (fun r43 t43 h43 => ?_)
      obtain ⟨rfl, rfl⟩ := h43
      refine rx_callVi (ci := 7) X vsX7_fine mlX7_80 (kX7_fine hO) (kc_0 hO) rfl rfl (by decide) (by decide) dX7_set_46 rfl (Nat.le_of_ble_eq_true rfl) (fun r46 t46 h46 => ?_)
      obtain ⟨rfl, rfl⟩ := h46
      refine rx_iret X dX7_set_49 ?_
      have hz1 := sz_neg (hr.1 r hr8).1
      have e1 : (1 : Int32).toInt = 1 := rfl
      intro r2 ρ2 hpq
      rw [sp_set, if_neg (by omega), hNr, if_neg (fun q => h18m (hz1.mpr q)), if_neg (by omega), hm3] at hpq
      obtain ⟨rfl, rfl⟩ := Prod.mk.inj hpq
      clear hpq
      rw [(hr.2.1 r hr8).1]
      refine ⟨rfl, cR.st ?_⟩
      have hs40 := (hr.1 r hr8).2
      refine h.rows (fun k hk => rx_u_ne (by omega)) (fun k a b c => rx_u_ne c) ⟨fun q hq => ?_, fun q hq => ?_, fun q hq i hi hs => ?_⟩
      · rw [rx_u_ne (by decide)]; exact hr.1 q hq
      · rw [rx_u_ne (by omega), rx_u_ne (by omega), rx_u_ne (by omega), rx_u_ne (by omega)]; exact hr.2.1 q hq
      · rw [rx_u_ne (by decide)] at hs
        rw [rx_u_s]
        by_cases e : q = r
        · subst e
          rw [rx_u_s]
          by_cases e2 : i = m
          · subst e2; rw [upd_s, upd_s]
          · rw [upd_n e2, upd_n (by omega)]; exact hr.2.2 q hq i hi hs
        · rw [rx_u_ne (by omega), upd_n (by omega)]; exact hr.2.2 q hq i hi hs
  · refine rx_if_ne_f X dX7_set_8 (by decide) ?_
    refine rx_ldc X dX7_set_11 kcX7_71 ?_
    refine rx_iret X dX7_set_13 ?_
    intro r2 ρ2 hq
    rw [sp_set, if_pos (by omega)] at hq
    obtain ⟨rfl, rfl⟩ := Prod.mk.inj hq
    exact ⟨rfl, h⟩
set_option maxHeartbeats 1000000 in
set_option maxRecDepth 100000 in
theorem kX7_drop {l : Launch} {O : rx_O} (hO : cb_O O) {σ : rx_S} {ρ : rx_S} {x : Int32} (h : cR σ ρ) : rx_MI l O yX7_drop cX7_drop 2 (some .int) 3 [.ref 0, .int x] σ (fun r τ => ∀ r2 ρ2, (sp_drop ρ x = (r2, ρ2)) → r = r2 ∧ cR τ ρ2) := by
  refine rx_Met_of (own := RX7) rfl hO.2.1 vsX7_drop.2.2.2.2.2 (Nat.le_of_ble_eq_true rfl) rfl (fun p e s m args below meth c X => ?_)
  obtain ⟨⟨w1, wC, wB, wW⟩, ⟨s1, s2, s3⟩, hr, ht, hA, hI, hK⟩ := id h
  refine rx_aload_n (i := 0) X dX7_drop_0 rfl rfl ?_
  refine rx_getR (ci := 7) (i := 1) X (kc_0 hO) rfl rfl (by decide) inX7 flX7_19 dX7_drop_1 ?_
  refine rx_iload_n (i := 1) X dX7_drop_4 rfl rfl ?_
  refine rx_callVi (ci := 5) X vsX5_isNumber mlX7_67 (kX5_isNumber hO) (kc_10 hO) rfl rfl (by decide) (by decide) dX7_drop_5 rfl (Nat.le_of_ble_eq_true rfl) (fun r5 t5 h5 => ?_)
  obtain ⟨rfl, ⟨rfl, h5⟩ | ⟨rfl, h5⟩⟩ := h5
  · obtain ⟨r, rfl, hr8, hNr⟩ := row_nat h5
    refine rx_if_ne_t X dX7_drop_8 (by decide) ?_
    refine rx_aload_n (i := 0) X dX7_drop_14 rfl rfl ?_
    refine rx_getR (ci := 7) (i := 1) X (kc_0 hO) rfl rfl (by decide) inX7 flX7_19 dX7_drop_15 ?_
    refine rx_iload_n (i := 1) X dX7_drop_18 rfl rfl ?_
    refine rx_callVi (ci := 5) X vsX5_isMissing mlX7_90 (kX5_isMissing hO hr8) (kc_10 hO) rfl rfl (by decide) (by decide) dX7_drop_19 rfl (Nat.le_of_ble_eq_true rfl) (fun r19 t19 h19 => ?_)
    obtain ⟨rfl, ⟨rfl, h19⟩ | ⟨rfl, h19⟩⟩ := h19
    · refine rx_if_eq_f X dX7_drop_22 (by decide) ?_
      refine rx_aload_n (i := 0) X dX7_drop_25 rfl rfl ?_
      refine rx_iconst (v := 1) X dX7_drop_26 (by decide) ?_
      refine rx_callVi (ci := 7) X vsX7_found mlX7_72 (kX7_found hO) (kc_0 hO) rfl rfl (by decide) (by decide) dX7_drop_27 rfl (Nat.le_of_ble_eq_true rfl) (fun r27 t27 h27 => ?_)
      obtain ⟨rfl, rfl⟩ := h27
      refine rx_iret X dX7_drop_30 ?_
      have hz1 := sz_neg (hr.1 r hr8).1
      rw [(hr.2.1 r hr8).2] at h19
      intro r2 ρ2 hpq
      rw [sp_drop, if_neg (by omega), hNr, if_pos (hz1.mp h19)] at hpq
      obtain ⟨rfl, rfl⟩ := Prod.mk.inj hpq
      clear hpq
      exact ⟨by decide, h.st⟩
    · refine rx_if_eq_t X dX7_drop_22 (by decide) ?_
      refine rx_aload_n (i := 0) X dX7_drop_31 rfl rfl ?_
      refine rx_aload_n (i := 0) X dX7_drop_32 rfl rfl ?_
      refine rx_getR (ci := 7) (i := 1) X (kc_0 hO) rfl rfl (by decide) inX7 flX7_19 dX7_drop_33 ?_
      refine rx_iload_n (i := 1) X dX7_drop_36 rfl rfl ?_
      refine rx_callVi (ci := 5) X vsX5_lose mlX7_111 (kX5_lose hO hr8) (kc_10 hO) rfl rfl (by decide) (by decide) dX7_drop_37 rfl (Nat.le_of_ble_eq_true rfl) (fun r37 t37 h37 => ?_)
      obtain ⟨rfl, rfl⟩ := h37
      refine rx_callVi (ci := 7) X vsX7_fine mlX7_80 (kX7_fine hO) (kc_0 hO) rfl rfl (by decide) (by decide) dX7_drop_40 rfl (Nat.le_of_ble_eq_true rfl) (fun r40 t40 h40 => ?_)
      obtain ⟨rfl, rfl⟩ := h40
      refine rx_iret X dX7_drop_43 ?_
      have hz1 := sz_neg (hr.1 r hr8).1
      rw [(hr.2.1 r hr8).2] at h19
      intro r2 ρ2 hpq
      rw [sp_drop, if_neg (by omega), hNr, if_neg (fun q => h19 (hz1.mpr q))] at hpq
      obtain ⟨rfl, rfl⟩ := Prod.mk.inj hpq
      clear hpq
      refine ⟨(hr.2.1 r hr8).2, cR.st ?_⟩
      refine h.rows (fun k hk => rx_u_ne (by omega)) (fun k a b c => rx_u_ne b) ⟨fun q hq => ?_, fun q hq => ?_, fun q hq i hi hs => ?_⟩
      · rw [rx_u_s]
        by_cases e : q = r
        · subst e; rw [upd_s]; decide
        · rw [upd_n e]; exact hr.1 q hq
      · rw [rx_u_ne (by decide), rx_u_s, rx_u_ne (by decide), rx_u_s]
        by_cases e : q = r
        · subst e; rw [upd_s, upd_s]; exact ⟨(hr.2.1 q hq).1, rfl⟩
        · rw [upd_n e, upd_n e]; exact hr.2.1 q hq
      · rw [rx_u_s] at hs
        rw [rx_u_ne (by omega), rx_u_ne (by decide)]
        by_cases e : q = r
        · subst e
          rw [upd_s] at hs
          have : (-1 : Int32).toInt = -1 := rfl
          omega
        · rw [upd_n e] at hs; exact hr.2.2 q hq i hi hs
  · refine rx_if_ne_f X dX7_drop_8 (by decide) ?_
    refine rx_ldc X dX7_drop_11 kcX7_71 ?_
    refine rx_iret X dX7_drop_13 ?_
    intro r2 ρ2 hq
    rw [sp_drop, if_pos (by omega)] at hq
    obtain ⟨rfl, rfl⟩ := Prod.mk.inj hq
    exact ⟨rfl, h⟩
set_option maxHeartbeats 1000000 in
set_option maxRecDepth 100000 in
theorem kX7_copy {l : Launch} {O : rx_O} (hO : cb_O O) {σ : rx_S} {ρ : rx_S} {xa i xb j n : Int32} (h : cR σ ρ) : rx_MI l O yX7_copy cX7_copy 6 (some .int) 3 [.ref 0, .int xa, .int i, .int xb, .int j, .int n] σ (fun r τ => ∀ r2 ρ2, (sp_copyQ ρ (sp_copy ρ xa i xb j n) r2 ρ2) → r = r2 ∧ cR τ ρ2) := by
  refine rx_Met_of (own := RX7) rfl hO.2.1 vsX7_copy.2.2.2.2.2 (Nat.le_of_ble_eq_true rfl) rfl (fun p e s m args below meth c X => ?_)
  obtain ⟨⟨w1, wC, wB, wW⟩, ⟨s1, s2, s3⟩, hr, ht, hA, hI, hK⟩ := id h
  refine rx_aload_n (i := 0) X dX7_copy_0 rfl rfl ?_
  refine rx_getR (ci := 7) (i := 1) X (kc_0 hO) rfl rfl (by decide) inX7 flX7_19 dX7_copy_1 ?_
  refine rx_iload_n (i := 1) X dX7_copy_4 rfl rfl ?_
  refine rx_callVi (ci := 5) X vsX5_isNumber mlX7_67 (kX5_isNumber hO) (kc_10 hO) rfl rfl (by decide) (by decide) dX7_copy_5 rfl (Nat.le_of_ble_eq_true rfl) (fun r5 t5 h5 => ?_)
  obtain ⟨rfl, ⟨rfl, h5⟩ | ⟨rfl, h5⟩⟩ := h5
  · obtain ⟨a, rfl, ha8, hNa⟩ := row_nat h5
    refine rx_if_eq_f X dX7_copy_8 (by decide) ?_
    refine rx_aload_n (i := 0) X dX7_copy_11 rfl rfl ?_
    refine rx_getR (ci := 7) (i := 1) X (kc_0 hO) rfl rfl (by decide) inX7 flX7_19 dX7_copy_12 ?_
    refine rx_iload_n (i := 3) X dX7_copy_15 rfl rfl ?_
    refine rx_callVi (ci := 5) X vsX5_isNumber mlX7_67 (kX5_isNumber hO) (kc_10 hO) rfl rfl (by decide) (by decide) dX7_copy_16 rfl (Nat.le_of_ble_eq_true rfl) (fun r16 t16 h16 => ?_)
    obtain ⟨rfl, ⟨rfl, h16⟩ | ⟨rfl, h16⟩⟩ := h16
    · obtain ⟨b, rfl, hb8, hNb⟩ := row_nat h16
      refine rx_if_ne_t X dX7_copy_19 (by decide) ?_
      refine rx_aload_n (i := 0) X dX7_copy_25 rfl rfl ?_
      refine rx_getR (ci := 7) (i := 1) X (kc_0 hO) rfl rfl (by decide) inX7 flX7_19 dX7_copy_26 ?_
      refine rx_iload_n (i := 1) X dX7_copy_29 rfl rfl ?_
      refine rx_callVi (ci := 5) X vsX5_isMissing mlX7_90 (kX5_isMissing hO ha8) (kc_10 hO) rfl rfl (by decide) (by decide) dX7_copy_30 rfl (Nat.le_of_ble_eq_true rfl) (fun r30 t30 h30 => ?_)
      obtain ⟨rfl, ⟨rfl, h30⟩ | ⟨rfl, h30⟩⟩ := h30
      · refine rx_if_ne_t X dX7_copy_33 (by decide) ?_
        refine rx_aload_n (i := 0) X dX7_copy_47 rfl rfl ?_
        refine rx_iconst (v := 1) X dX7_copy_48 (by decide) ?_
        refine rx_callVi (ci := 7) X vsX7_found mlX7_72 (kX7_found hO) (kc_0 hO) rfl rfl (by decide) (by decide) dX7_copy_49 rfl (Nat.le_of_ble_eq_true rfl) (fun r49 t49 h49 => ?_)
        obtain ⟨rfl, rfl⟩ := h49
        refine rx_iret X dX7_copy_52 ?_
        have hza := sz_neg (hr.1 a ha8).1
        have hzb := sz_neg (hr.1 b hb8).1
        rw [(hr.2.1 a ha8).2] at h30
        rintro r2 ρ2 ⟨q1, q2, q3, q4⟩
        rw [sp_copy, if_neg (by omega), hNa, hNb, if_pos (Or.inl (hza.mp h30))] at q1 q2 q3
        refine ⟨(show (-1000010 - 1 : Int32) = -1000011 from rfl).trans q1.symm, ?_⟩
        refine (cR.st (v := 1) h).ref (fun k a1 a2 _ _ _ _ => ?_) (fun j _ _ _ _ _ => by rw [q3, rx_u_s])
        by_cases e : k = 3
        · rw [e, q2, rx_u_ne (by decide)]
        · rw [q4 k a1 e a2, rx_u_ne a1]
      · refine rx_if_ne_f X dX7_copy_33 (by decide) ?_
        refine rx_aload_n (i := 0) X dX7_copy_36 rfl rfl ?_
        refine rx_getR (ci := 7) (i := 1) X (kc_0 hO) rfl rfl (by decide) inX7 flX7_19 dX7_copy_37 ?_
        refine rx_iload_n (i := 3) X dX7_copy_40 rfl rfl ?_
        refine rx_callVi (ci := 5) X vsX5_isMissing mlX7_90 (kX5_isMissing hO hb8) (kc_10 hO) rfl rfl (by decide) (by decide) dX7_copy_41 rfl (Nat.le_of_ble_eq_true rfl) (fun r41 t41 h41 => ?_)
        obtain ⟨rfl, ⟨rfl, h41⟩ | ⟨rfl, h41⟩⟩ := h41
        · refine rx_if_eq_f X dX7_copy_44 (by decide) ?_
          refine rx_aload_n (i := 0) X dX7_copy_47 rfl rfl ?_
          refine rx_iconst (v := 1) X dX7_copy_48 (by decide) ?_
          refine rx_callVi (ci := 7) X vsX7_found mlX7_72 (kX7_found hO) (kc_0 hO) rfl rfl (by decide) (by decide) dX7_copy_49 rfl (Nat.le_of_ble_eq_true rfl) (fun r49 t49 h49 => ?_)
          obtain ⟨rfl, rfl⟩ := h49
          refine rx_iret X dX7_copy_52 ?_
          have hza := sz_neg (hr.1 a ha8).1
          have hzb := sz_neg (hr.1 b hb8).1
          rw [(hr.2.1 b hb8).2] at h41
          rintro r2 ρ2 ⟨q1, q2, q3, q4⟩
          rw [sp_copy, if_neg (by omega), hNa, hNb, if_pos (Or.inr (hzb.mp h41))] at q1 q2 q3
          refine ⟨(show (-1000010 - 1 : Int32) = -1000011 from rfl).trans q1.symm, ?_⟩
          refine (cR.st (v := 1) h).ref (fun k a1 a2 _ _ _ _ => ?_) (fun j _ _ _ _ _ => by rw [q3, rx_u_s])
          by_cases e : k = 3
          · rw [e, q2, rx_u_ne (by decide)]
          · rw [q4 k a1 e a2, rx_u_ne a1]
        · refine rx_if_eq_t X dX7_copy_44 (by decide) ?_
          refine rx_aload_n (i := 0) X dX7_copy_53 rfl rfl ?_
          refine rx_getR (ci := 7) (i := 1) X (kc_0 hO) rfl rfl (by decide) inX7 flX7_19 dX7_copy_54 ?_
          refine rx_getR (ci := 5) (i := 1) X (kc_10 hO) rfl rfl (by decide) inX5 flX7_93 dX7_copy_57 ?_
          refine rx_iload_n (i := 1) X dX7_copy_60 rfl rfl ?_
          refine rx_ialdN (j := a) X (kc_20 hO) hO.2.2.1 rfl ha8 (by decide) dX7_copy_61 ?_
          refine rx_top (hr.2.1 a ha8).1 ?_
          refine rx_aload_n (i := 0) X dX7_copy_62 rfl rfl ?_
          refine rx_getR (ci := 7) (i := 1) X (kc_0 hO) rfl rfl (by decide) inX7 flX7_19 dX7_copy_63 ?_
          refine rx_getR (ci := 5) (i := 1) X (kc_10 hO) rfl rfl (by decide) inX5 flX7_93 dX7_copy_66 ?_
          refine rx_iload_n (i := 3) X dX7_copy_69 rfl rfl ?_
          refine rx_ialdN (j := b) X (kc_20 hO) hO.2.2.1 rfl hb8 (by decide) dX7_copy_70 ?_
          refine rx_top (hr.2.1 b hb8).1 ?_
          refine rx_icmp_eq X dX7_copy_71 (fun h71 => ?_) (fun h71 => ?_)
          · refine rx_aload_n (i := 0) X dX7_copy_80 rfl rfl ?_
            refine rx_getR (ci := 7) (i := 1) X (kc_0 hO) rfl rfl (by decide) inX7 flX7_19 dX7_copy_81 ?_
            refine rx_iload_n (i := 1) X dX7_copy_84 rfl rfl ?_
            refine rx_iload_n (i := 2) X dX7_copy_85 rfl rfl ?_
            refine rx_iload (i := 5) X dX7_copy_86 rfl ?_
            refine rx_callVi (ci := 5) X vsX5_hasPlaces mlX7_97 (kX5_hasPlaces hO ha8 (by rw [(hr.2.1 a ha8).2]; exact (hr.1 a ha8).1)) (kc_10 hO) rfl rfl (by decide) (by decide) dX7_copy_88 rfl (Nat.le_of_ble_eq_true rfl) (fun r88 t88 h88 => ?_)
            obtain ⟨rfl, ⟨rfl, h88⟩ | ⟨rfl, h88⟩⟩ := h88
            · refine rx_if_eq_f X dX7_copy_91 (by decide) ?_
              refine rx_aload_n (i := 0) X dX7_copy_94 rfl rfl ?_
              refine rx_getR (ci := 7) (i := 1) X (kc_0 hO) rfl rfl (by decide) inX7 flX7_19 dX7_copy_95 ?_
              refine rx_iload_n (i := 3) X dX7_copy_98 rfl rfl ?_
              refine rx_iload (i := 4) X dX7_copy_99 rfl ?_
              refine rx_iload (i := 5) X dX7_copy_101 rfl ?_
              refine rx_callVi (ci := 5) X vsX5_hasPlaces mlX7_97 (kX5_hasPlaces hO hb8 (by rw [(hr.2.1 b hb8).2]; exact (hr.1 b hb8).1)) (kc_10 hO) rfl rfl (by decide) (by decide) dX7_copy_103 rfl (Nat.le_of_ble_eq_true rfl) (fun r103 t103 h103 => ?_)
              obtain ⟨rfl, ⟨rfl, h103⟩ | ⟨rfl, h103⟩⟩ := h103
              · refine rx_if_ne_t X dX7_copy_106 (by decide) ?_
                refine rx_aload_n (i := 0) X dX7_copy_115 rfl rfl ?_
                refine rx_getR (ci := 7) (i := 1) X (kc_0 hO) rfl rfl (by decide) inX7 flX7_19 dX7_copy_116 ?_
                refine rx_getR (ci := 5) (i := 0) X (kc_10 hO) rfl rfl (by decide) inX5 flX7_101 dX7_copy_119 ?_
                refine rx_iload_n (i := 1) X dX7_copy_122 rfl rfl ?_
                refine rx_aaldA (j := a) X (kc_11 hO) hO.2.2.2.2.2.2.1 rfl rfl ha8 (by decide) (kc_rel ha8) dX7_copy_123 ?_
                refine rx_iload_n (i := 2) X dX7_copy_124 rfl rfl ?_
                refine rx_aload_n (i := 0) X dX7_copy_125 rfl rfl ?_
                refine rx_getR (ci := 7) (i := 1) X (kc_0 hO) rfl rfl (by decide) inX7 flX7_19 dX7_copy_126 ?_
                refine rx_getR (ci := 5) (i := 0) X (kc_10 hO) rfl rfl (by decide) inX5 flX7_101 dX7_copy_129 ?_
                refine rx_iload_n (i := 3) X dX7_copy_132 rfl rfl ?_
                refine rx_aaldA (j := b) X (kc_11 hO) hO.2.2.2.2.2.2.1 rfl rfl hb8 (by decide) (kc_rel hb8) dX7_copy_133 ?_
                refine rx_iload (i := 4) X dX7_copy_134 rfl ?_
                refine rx_iload (i := 5) X dX7_copy_136 rfl ?_
                obtain ⟨pi, rfl, pi1, pi2, pi3⟩ := i_nat (x := i) h88.2.1
                obtain ⟨pj, rfl, pj1, pj2, pj3⟩ := i_nat (x := j) h103.2.1
                obtain ⟨pn, rfl, pn1, pn2, pn3⟩ := i_nat (x := n) h88.2.2.1
                have sa := (hr.1 a ha8).2
                have sb := (hr.1 b hb8).2
                have qa := h88.2.2.2
                have qb := h103.2.2.2
                rw [(hr.2.1 a ha8).2] at qa
                rw [(hr.2.1 b hb8).2] at qb
                refine rx_copy X ac_l7 ac_n ac_st ac_in (kc_row hO ha8) (kc_row hO hb8) hO.2.2.1 hO.2.2.1 (nI_n0 (by omega)) (nI_n0 (by omega)) (nI_n0 (by omega)) (by rw [nI_clamp (by omega), nI_clamp (by omega)]; omega) (by rw [nI_clamp (by omega), nI_clamp (by omega)]; omega) (by decide) (Nat.le_of_ble_eq_true rfl) dX7_copy_138 ?_
                refine rx_aload_n (i := 0) X dX7_copy_141 rfl rfl ?_
                refine rx_iload (i := 5) X dX7_copy_142 rfl ?_
                refine rx_callVi (ci := 7) X vsX7_fine mlX7_80 (kX7_fine hO) (kc_0 hO) rfl rfl (by decide) (by decide) dX7_copy_144 rfl (Nat.le_of_ble_eq_true rfl) (fun r144 t144 h144 => ?_)
                obtain ⟨rfl, rfl⟩ := h144
                refine rx_iret X dX7_copy_147 ?_
                have hza := sz_neg (hr.1 a ha8).1
                have hzb := sz_neg (hr.1 b hb8).1
                rw [(hr.2.1 a ha8).2] at h30
                rw [(hr.2.1 b hb8).2] at h41
                rintro r2 ρ2 ⟨q1, q2, q3, q4⟩
                rw [sp_copy, if_neg (by omega), hNa, hNb, if_neg (fun q => q.elim (fun z => h30 (hza.mpr z)) (fun z => h41 (hzb.mpr z))), if_neg (fun q => q h71), if_neg (by omega), pi3, pj3, pn3] at q1 q2 q3
                refine ⟨q1.symm, ?_⟩
                have key : cR (rx_ua σ (12 + b) (va_cpy (σ.1 (12 + a)) (σ.1 (12 + b)) (nI pi).toNatClampNeg (nI pj).toNatClampNeg (nI pn).toNatClampNeg)) (rx_ua ρ 3 (it_cp pn (40 * a + pi) (40 * b + pj) (ρ.1 3) (ρ.1 3))) := by
                  rw [nI_clamp pi1, nI_clamp pj1, nI_clamp pn1]
                  refine h.rows (fun k hk => rx_ua_ne (by omega)) (fun k a b c => rx_ua_ne c) ⟨fun q hq => ?_, fun q hq => ?_, fun q hq i hi hs => ?_⟩
                  · rw [rx_ua_ne (by decide)]; exact hr.1 q hq
                  · rw [rx_ua_ne (by omega), rx_ua_ne (by omega), rx_ua_ne (by omega), rx_ua_ne (by omega)]; exact hr.2.1 q hq
                  · rw [rx_ua_ne (by decide)] at hs
                    rw [rx_ua_s]
                    by_cases e : q = b
                    · subst e
                      rw [rx_ua_s]
                      show (if pj ≤ i ∧ i < pj + pn then σ.1 (12 + a) (pi + (i - pj)) else σ.1 (12 + q) i) = (if 40 * q + pj ≤ 40 * q + i ∧ 40 * q + i < 40 * q + pj + pn then ρ.1 3 (40 * a + pi + (40 * q + i - (40 * q + pj))) else ρ.1 3 (40 * q + i))
                      by_cases e2 : pj ≤ i ∧ i < pj + pn
                      · rw [if_pos e2, if_pos (by omega), hr.2.2 a ha8 (pi + (i - pj)) (by omega) (by omega)]
                        exact congrArg (ρ.1 3) (by omega)
                      · rw [if_neg e2, if_neg (by omega)]; exact hr.2.2 q hq i hi hs
                    · rw [rx_ua_ne (by omega), hr.2.2 q hq i hi hs]
                      exact (if_neg (by omega)).symm
                refine (cR.st (v := 0) key).ref (fun k a1 a2 _ _ _ _ => ?_) (fun j _ _ _ _ _ => by rw [q3, rx_u_s, rx_ua_ne (by decide)])
                by_cases e : k = 3
                · rw [e, q2, rx_u_ne (by decide), rx_ua_s]
                · rw [q4 k a1 e a2, rx_u_ne a1, rx_ua_ne e]
              · refine rx_if_ne_f X dX7_copy_106 (by decide) ?_
                refine rx_aload_n (i := 0) X dX7_copy_109 rfl rfl ?_
                refine rx_iconst (v := 2) X dX7_copy_110 (by decide) ?_
                refine rx_callVi (ci := 7) X vsX7_found mlX7_72 (kX7_found hO) (kc_0 hO) rfl rfl (by decide) (by decide) dX7_copy_111 rfl (Nat.le_of_ble_eq_true rfl) (fun r111 t111 h111 => ?_)
                obtain ⟨rfl, rfl⟩ := h111
                refine rx_iret X dX7_copy_114 ?_
                have hza := sz_neg (hr.1 a ha8).1
                have hzb := sz_neg (hr.1 b hb8).1
                rw [(hr.2.1 a ha8).2] at h30
                rw [(hr.2.1 b hb8).2] at h41
                rw [(hr.2.1 b hb8).2] at h103
                rintro r2 ρ2 ⟨q1, q2, q3, q4⟩
                rw [sp_copy, if_neg (by omega), hNa, hNb, if_neg (fun q => q.elim (fun z => h30 (hza.mpr z)) (fun z => h41 (hzb.mpr z))), if_neg (fun q => q h71), if_pos (Or.inr (Or.inr (fun z => h103 ⟨h41, z.1, h88.2.2.1, z.2⟩)))] at q1 q2 q3
                refine ⟨(show (-1000010 - 2 : Int32) = -1000012 from rfl).trans q1.symm, ?_⟩
                refine (cR.st (v := 2) h).ref (fun k a1 a2 _ _ _ _ => ?_) (fun j _ _ _ _ _ => by rw [q3, rx_u_s])
                by_cases e : k = 3
                · rw [e, q2, rx_u_ne (by decide)]
                · rw [q4 k a1 e a2, rx_u_ne a1]
            · refine rx_if_eq_t X dX7_copy_91 (by decide) ?_
              refine rx_aload_n (i := 0) X dX7_copy_109 rfl rfl ?_
              refine rx_iconst (v := 2) X dX7_copy_110 (by decide) ?_
              refine rx_callVi (ci := 7) X vsX7_found mlX7_72 (kX7_found hO) (kc_0 hO) rfl rfl (by decide) (by decide) dX7_copy_111 rfl (Nat.le_of_ble_eq_true rfl) (fun r111 t111 h111 => ?_)
              obtain ⟨rfl, rfl⟩ := h111
              refine rx_iret X dX7_copy_114 ?_
              have hza := sz_neg (hr.1 a ha8).1
              have hzb := sz_neg (hr.1 b hb8).1
              rw [(hr.2.1 a ha8).2] at h30
              rw [(hr.2.1 b hb8).2] at h41
              rw [(hr.2.1 a ha8).2] at h88
              rintro r2 ρ2 ⟨q1, q2, q3, q4⟩
              rw [sp_copy, if_neg (by omega), hNa, hNb, if_neg (fun q => q.elim (fun z => h30 (hza.mpr z)) (fun z => h41 (hzb.mpr z))), if_neg (fun q => q h71), if_pos (by rcases Int.lt_or_le n.toInt 0 with q | q; exact Or.inl q; exact Or.inr (Or.inl (fun z => h88 ⟨h30, z.1, q, z.2⟩)))] at q1 q2 q3
              refine ⟨(show (-1000010 - 2 : Int32) = -1000012 from rfl).trans q1.symm, ?_⟩
              refine (cR.st (v := 2) h).ref (fun k a1 a2 _ _ _ _ => ?_) (fun j _ _ _ _ _ => by rw [q3, rx_u_s])
              by_cases e : k = 3
              · rw [e, q2, rx_u_ne (by decide)]
              · rw [q4 k a1 e a2, rx_u_ne a1]
          · refine rx_aload_n (i := 0) X dX7_copy_74 rfl rfl ?_
            refine rx_iconst (v := 5) X dX7_copy_75 (by decide) ?_
            refine rx_callVi (ci := 7) X vsX7_found mlX7_72 (kX7_found hO) (kc_0 hO) rfl rfl (by decide) (by decide) dX7_copy_76 rfl (Nat.le_of_ble_eq_true rfl) (fun r76 t76 h76 => ?_)
            obtain ⟨rfl, rfl⟩ := h76
            refine rx_iret X dX7_copy_79 ?_
            have hza := sz_neg (hr.1 a ha8).1
            have hzb := sz_neg (hr.1 b hb8).1
            rw [(hr.2.1 a ha8).2] at h30
            rw [(hr.2.1 b hb8).2] at h41
            rintro r2 ρ2 ⟨q1, q2, q3, q4⟩
            rw [sp_copy, if_neg (by omega), hNa, hNb, if_neg (fun q => q.elim (fun z => h30 (hza.mpr z)) (fun z => h41 (hzb.mpr z))), if_pos h71] at q1 q2 q3
            refine ⟨(show (-1000010 - 5 : Int32) = -1000015 from rfl).trans q1.symm, ?_⟩
            refine (cR.st (v := 5) h).ref (fun k a1 a2 _ _ _ _ => ?_) (fun j _ _ _ _ _ => by rw [q3, rx_u_s])
            by_cases e : k = 3
            · rw [e, q2, rx_u_ne (by decide)]
            · rw [q4 k a1 e a2, rx_u_ne a1]
    · refine rx_if_ne_f X dX7_copy_19 (by decide) ?_
      refine rx_ldc X dX7_copy_22 kcX7_71 ?_
      refine rx_iret X dX7_copy_24 ?_
      rintro r2 ρ2 ⟨q1, q2, q3, q4⟩
      rw [sp_copy, if_pos (by omega)] at q1 q2 q3
      refine ⟨q1.symm, h.ref (fun k a1 a2 _ _ _ _ => ?_) (fun j _ _ _ _ _ => ?_)⟩
      · by_cases e : k = 3
        · rw [e, q2]
        · exact q4 k a1 e a2
      · rw [q3]
        by_cases e : j = 3
        · rw [e, upd_s]
        · rw [upd_n e]
  · refine rx_if_eq_t X dX7_copy_8 (by decide) ?_
    refine rx_ldc X dX7_copy_22 kcX7_71 ?_
    refine rx_iret X dX7_copy_24 ?_
    rintro r2 ρ2 ⟨q1, q2, q3, q4⟩
    rw [sp_copy, if_pos (by omega)] at q1 q2 q3
    refine ⟨q1.symm, h.ref (fun k a1 a2 _ _ _ _ => ?_) (fun j _ _ _ _ _ => ?_)⟩
    · by_cases e : k = 3
      · rw [e, q2]
      · exact q4 k a1 e a2
    · rw [q3]
      by_cases e : j = 3
      · rw [e, upd_s]
      · rw [upd_n e]
set_option maxHeartbeats 1000000 in
set_option maxRecDepth 100000 in
theorem kX7_feed {l : Launch} {O : rx_O} (hO : cb_O O) {σ : rx_S} {ρ : rx_S} {x : Int32} (h : cR σ ρ) : rx_MI l O yX7_feed cX7_feed 2 (some .int) 2 [.ref 0, .int x] σ (fun r τ => ∀ r2 ρ2, (sp_feed ρ x = (r2, ρ2)) → r = r2 ∧ cR τ ρ2) := by
  refine rx_Met_of (own := RX7) rfl hO.2.1 vsX7_feed.2.2.2.2.2 (Nat.le_of_ble_eq_true rfl) rfl (fun p e s m args below meth c X => ?_)
  obtain ⟨⟨w1, wC, wB, wW⟩, ⟨s1, s2, s3⟩, hr, ht, hA, hI, hK⟩ := id h
  obtain ⟨N, t1, t2, t3, t4, t5⟩ := ht
  refine rx_iload_n (i := 1) X dX7_feed_0 rfl rfl ?_
  refine rx_if_lt X dX7_feed_1 (fun h1 => ?_) (fun h1 => ?_)
  · try simp only [Int32.lt_iff_toInt_lt, Int32.le_iff_toInt_le, Int32.reduceToInt] at h1
    refine rx_ldc X dX7_feed_11 kcX7_71 ?_
    refine rx_iret X dX7_feed_13 ?_
    intro r2 ρ2 hq
    rw [sp_feed, if_pos (by omega)] at hq
    obtain ⟨rfl, rfl⟩ := Prod.mk.inj hq
    exact ⟨rfl, h⟩
  · try simp only [Int32.lt_iff_toInt_lt, Int32.le_iff_toInt_le, Int32.reduceToInt] at h1
    refine rx_iload_n (i := 1) X dX7_feed_4 rfl rfl ?_
    refine rx_sipush (v := 255) X dX7_feed_5 (by decide) ?_
    refine rx_icmp_le X dX7_feed_8 (fun h8 => ?_) (fun h8 => ?_)
    · try simp only [Int32.lt_iff_toInt_lt, Int32.le_iff_toInt_le, Int32.reduceToInt] at h8
      refine rx_aload_n (i := 0) X dX7_feed_14 rfl rfl ?_
      refine rx_getR (ci := 7) (i := 2) X (kc_0 hO) rfl rfl (by decide) inX7 flX7_26 dX7_feed_15 ?_
      refine rx_getI (ci := 6) (i := 1) X (kc_22 hO) rfl rfl (by decide) inX6 flX7_114 dX7_feed_18 ?_
      refine rx_top t2 ?_
      refine rx_bipush (v := 120) X dX7_feed_21 (by decide) ?_
      refine rx_icmp_lt X dX7_feed_23 (fun h23 => ?_) (fun h23 => ?_)
      · try simp only [Int32.lt_iff_toInt_lt, Int32.le_iff_toInt_le, Int32.reduceToInt] at h23
        rw [nI_toInt (by omega)] at h23
        refine rx_aload_n (i := 0) X dX7_feed_29 rfl rfl ?_
        refine rx_getR (ci := 7) (i := 2) X (kc_0 hO) rfl rfl (by decide) inX7 flX7_26 dX7_feed_30 ?_
        refine rx_iload_n (i := 1) X dX7_feed_33 rfl rfl ?_
        refine rx_callVi (ci := 6) X vsX6_add mlX7_118 (kX6_add hO t2 (by omega)) (kc_22 hO) rfl rfl (by decide) (by decide) dX7_feed_34 rfl (Nat.le_of_ble_eq_true rfl) (fun r34 t34 h34 => ?_)
        obtain ⟨rfl, rfl⟩ := h34
        refine rx_iret X dX7_feed_37 ?_
        intro r2 ρ2 hpq
        rw [sp_feed, if_neg (by omega), if_neg (by rw [t3]; exact fun q => absurd (nI_inj (b := 120) (by omega) (by decide) q) (by omega)), t3, rx_Nn (j := N) (by omega), nI_1] at hpq
        obtain ⟨rfl, rfl⟩ := Prod.mk.inj hpq
        clear hpq
        refine ⟨rfl, ?_⟩
        have c : ∀ k, k ≠ 22 → k ≠ 23 → (rx_u (rx_u σ 23 N x) 22 1 (nI (N + 1))).1 k = σ.1 k := fun k a b => by rw [rx_u_ne a, rx_u_ne b]
        have m : ∀ k, k ≠ 0 → k ≠ 6 → (rx_u (rx_u ρ 6 N x) 0 9 (nI (N + 1))).1 k = ρ.1 k := fun k a b => by rw [rx_u_ne a, rx_u_ne b]
        have m0 : ∀ j, j ≠ 9 → (rx_u (rx_u ρ 6 N x) 0 9 (nI (N + 1))).1 0 j = ρ.1 0 j := fun j hj => by rw [rx_u_s, upd_n hj, rx_u_ne (by decide)]
        refine ⟨h.1.mv (fun k _ _ => c k (by omega) (by omega)) (by rw [c 0 (by omega) (by omega)]) (m 4 (by omega) (by omega)) (m0 4 (by omega)), h.2.1.mv (by rw [c 0 (by omega) (by omega)]) (fun a ha => by rw [c _ (by omega) (by omega)]; exact s3 a ha) (m0 3 (by omega)) (m0 6 (by omega)), hr.mv (fun k _ _ => c k (by omega) (by omega)) (m 1 (by omega) (by omega)) (m 2 (by omega) (by omega)) (m 3 (by omega) (by omega)), ⟨N + 1, by omega, by rw [rx_u_s, upd_s], by rw [rx_u_s, upd_s], ?_, ?_⟩, hA.mv (fun k _ _ => c k (by omega) (by omega)) (m 8 (by omega) (by omega)) (m0 18 (by omega)) (m0 4 (by omega)), hI.mv (fun k _ _ => c k (by omega) (by omega)) (m 12 (by omega) (by omega)) (m 13 (by omega) (by omega)) (fun q => (m0 4 (by omega)).trans q), hK.mv (by rw [c 255 (by omega) (by omega)]) (c 256 (by omega) (by omega)) (m0 25 (by omega)) (m 14 (by omega) (by omega))⟩
        · rw [rx_u_ne (by decide), rx_u_s, rx_u_ne (by decide), rx_u_s, t4]
        · rw [m0 10 (by omega), rx_u_s, upd_n (by decide), rx_u_ne (by decide)]; exact t5
      · try simp only [Int32.lt_iff_toInt_lt, Int32.le_iff_toInt_le, Int32.reduceToInt] at h23
        rw [nI_toInt (by omega)] at h23
        refine rx_ldc X dX7_feed_26 kcX7_117 ?_
        refine rx_iret X dX7_feed_28 ?_
        intro r2 ρ2 hpq
        rw [sp_feed, if_neg (by omega), if_pos (by rw [t3, show N = 120 by omega]; rfl)] at hpq
        obtain ⟨rfl, rfl⟩ := Prod.mk.inj hpq
        clear hpq
        exact ⟨rfl, h⟩
    · try simp only [Int32.lt_iff_toInt_lt, Int32.le_iff_toInt_le, Int32.reduceToInt] at h8
      refine rx_ldc X dX7_feed_11 kcX7_71 ?_
      refine rx_iret X dX7_feed_13 ?_
      intro r2 ρ2 hq
      rw [sp_feed, if_pos (by omega)] at hq
      obtain ⟨rfl, rfl⟩ := Prod.mk.inj hq
      exact ⟨rfl, h⟩
