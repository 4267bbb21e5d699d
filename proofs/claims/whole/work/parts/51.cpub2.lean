set_option maxHeartbeats 1000000 in
set_option maxRecDepth 100000 in
theorem kX7_fault {l : Launch} {O : rx_O} (hO : cb_O O) {σ : rx_S} {ρ : rx_S} (h : cR σ ρ) : rx_MI l O yX7_fault cX7_fault 1 (some .int) 0 [.ref 0] σ (fun r τ => ∀ r2 ρ2, (ρ.1 0 10 = r2 ∧ ρ = ρ2) → r = r2 ∧ cR τ ρ2) := by
  refine rx_Met_of (own := RX7) rfl hO.2.1 vsX7_fault.2.2.2.2.2 (Nat.le_of_ble_eq_true rfl) rfl (fun p e s m args below meth c X => ?_)
  obtain ⟨⟨w1, wC, wB, wW⟩, ⟨s1, s2, s3⟩, hr, ht, hA, hI, hK⟩ := id h
  obtain ⟨N, t1, t2, t3, t4, t5⟩ := ht
  refine rx_aload_n (i := 0) X dX7_fault_0 rfl rfl ?_
  refine rx_getR (ci := 7) (i := 2) X (kc_0 hO) rfl rfl (by decide) inX7 flX7_26 dX7_fault_1 ?_
  refine rx_getI (ci := 6) (i := 3) X (kc_22 hO) rfl rfl (by decide) inX6 flX7_142 dX7_fault_4 ?_
  refine rx_top t5 ?_
  refine rx_iret X dX7_fault_7 ?_
  rintro r2 ρ2 ⟨rfl, rfl⟩
  exact ⟨rfl, h⟩
set_option maxHeartbeats 1000000 in
set_option maxRecDepth 100000 in
theorem kX7_status {l : Launch} {O : rx_O} (hO : cb_O O) {σ : rx_S} {ρ : rx_S} (h : cR σ ρ) : rx_MI l O yX7_status cX7_status 1 (some .int) 0 [.ref 0] σ (fun r τ => ∀ r2 ρ2, (ρ.1 0 3 = r2 ∧ ρ = ρ2) → r = r2 ∧ cR τ ρ2) := by
  refine rx_Met_of (own := RX7) rfl hO.2.1 vsX7_status.2.2.2.2.2 (Nat.le_of_ble_eq_true rfl) rfl (fun p e s m args below meth c X => ?_)
  obtain ⟨⟨w1, wC, wB, wW⟩, ⟨s1, s2, s3⟩, hr, ht, hA, hI, hK⟩ := id h
  refine rx_aload_n (i := 0) X dX7_status_0 rfl rfl ?_
  refine rx_getI (ci := 7) (i := 9) X (kc_0 hO) rfl rfl (by decide) inX7 flX7_63 dX7_status_1 ?_
  refine rx_top s1 ?_
  refine rx_iret X dX7_status_4 ?_
  rintro r2 ρ2 ⟨rfl, rfl⟩
  exact ⟨rfl, h⟩
set_option maxHeartbeats 1000000 in
set_option maxRecDepth 100000 in
theorem kX7_trace {l : Launch} {O : rx_O} (hO : cb_O O) {σ : rx_S} {ρ : rx_S} {i : Int32} (h : cR σ ρ) : rx_MI l O yX7_trace cX7_trace 2 (some .int) 0 [.ref 0, .int i] σ (fun r τ => ∀ r2 ρ2, (sp_trace ρ i = r2 ∧ ρ = ρ2) → r = r2 ∧ cR τ ρ2) := by
  refine rx_Met_of (own := RX7) rfl hO.2.1 vsX7_trace.2.2.2.2.2 (Nat.le_of_ble_eq_true rfl) rfl (fun p e s m args below meth c X => ?_)
  obtain ⟨⟨w1, wC, wB, wW⟩, ⟨s1, s2, s3⟩, hr, ht, hA, hI, hK⟩ := id h
  obtain ⟨n, k1, k2, k3, k4⟩ := hK
  have kn2 := nI_toInt (show n < 2 ^ 31 by omega)
  refine rx_iload_n (i := 1) X dX7_trace_0 rfl rfl ?_
  refine rx_if_lt X dX7_trace_1 (fun h1 => ?_) (fun h1 => ?_)
  · try simp only [Int32.lt_iff_toInt_lt, Int32.le_iff_toInt_le, Int32.reduceToInt] at h1
    refine rx_ldc X dX7_trace_27 kcX7_204 ?_
    refine rx_iret X dX7_trace_29 ?_
    rintro r2 ρ2 ⟨rfl, rfl⟩
    exact ⟨(if_neg (by omega)).symm, h⟩
  · try simp only [Int32.lt_iff_toInt_lt, Int32.le_iff_toInt_le, Int32.reduceToInt] at h1
    refine rx_iload_n (i := 1) X dX7_trace_4 rfl rfl ?_
    refine rx_aload_n (i := 0) X dX7_trace_5 rfl rfl ?_
    refine rx_getR (ci := 7) (i := 5) X (kc_0 hO) rfl rfl (by decide) inX7 flX7_47 dX7_trace_6 ?_
    refine rx_getI (ci := 2) (i := 1) X (kc_255 hO) rfl rfl (by decide) inX2 flX7_300 dX7_trace_9 ?_
    refine rx_top k2 ?_
    refine rx_icmp_ge X dX7_trace_12 (fun h12 => ?_) (fun h12 => ?_)
    · try simp only [Int32.lt_iff_toInt_lt, Int32.le_iff_toInt_le, Int32.reduceToInt] at h12
      rw [nI_toInt (by omega)] at h12
      refine rx_ldc X dX7_trace_27 kcX7_204 ?_
      refine rx_iret X dX7_trace_29 ?_
      rintro r2 ρ2 ⟨rfl, rfl⟩
      exact ⟨(if_neg (by rw [k3, kn2]; omega)).symm, h⟩
    · try simp only [Int32.lt_iff_toInt_lt, Int32.le_iff_toInt_le, Int32.reduceToInt] at h12
      rw [nI_toInt (by omega)] at h12
      obtain ⟨m, rfl, hm1, hm2, hm3⟩ := i_nat (x := i) (by omega)
      refine rx_aload_n (i := 0) X dX7_trace_15 rfl rfl ?_
      refine rx_getR (ci := 7) (i := 5) X (kc_0 hO) rfl rfl (by decide) inX7 flX7_47 dX7_trace_16 ?_
      refine rx_getR (ci := 2) (i := 0) X (kc_255 hO) rfl rfl (by decide) inX2 flX7_303 dX7_trace_19 ?_
      refine rx_iload_n (i := 1) X dX7_trace_22 rfl rfl ?_
      refine rx_ialdN (j := m) X (kc_256 hO) hO.2.2.1 rfl (by omega) (by decide) dX7_trace_23 ?_
      refine rx_top (congrFun k4 m) ?_
      refine rx_goto X dX7_trace_24 ?_
      refine rx_iret X dX7_trace_29 ?_
      rintro r2 ρ2 ⟨rfl, rfl⟩
      exact ⟨by rw [sp_trace, if_pos (by rw [k3, kn2]; omega), hm3], h⟩
theorem cR.pl {σ ρ : rx_S} {x : Int32} (h : cR σ ρ) (hx : 0 ≤ x.toInt ∧ x.toInt < (ρ.1 4 2).toInt) : ∃ a, x = nI a ∧ a < 5 ∧ a < rx_N (ρ.1 4 2) ∧ rx_N (nI a) = a ∧ ρ.1 0 4 = 1 ∧ w_V 999 (ρ.1 4) := by
  have hv : ρ.1 0 4 = 1 ∧ w_V 999 (ρ.1 4) := by
    rcases h.1.2.2.2 with q | q
    · exact q
    · have := hx.2
      rw [q.2 2 (by omega)] at this
      have e : (0 : Int32).toInt = 0 := rfl
      have := hx.1
      omega
  have n2 := hv.2.n2
  have i2 := rx_Ni (x := ρ.1 4 2) (by have := hv.2.2.2.1; omega)
  have ix := rx_Ni hx.1
  have := hx.2
  exact ⟨rx_N x, rx_nN hx.1, by omega, by omega, rx_Nn (by omega), hv.1, hv.2⟩
set_option maxHeartbeats 1000000 in
set_option maxRecDepth 100000 in
theorem kX7_pulls {l : Launch} {O : rx_O} (hO : cb_O O) {σ : rx_S} {ρ : rx_S} {k : Int32} (h : cR σ ρ) : rx_MI l O yX7_pulls cX7_pulls 2 (some .int) 0 [.ref 0, .int k] σ (fun r τ => ∀ r2 ρ2, (sp_pulls ρ k = r2 ∧ ρ = ρ2) → r = r2 ∧ cR τ ρ2) := by
  refine rx_Met_of (own := RX7) rfl hO.2.1 vsX7_pulls.2.2.2.2.2 (Nat.le_of_ble_eq_true rfl) rfl (fun p e s m args below meth c X => ?_)
  obtain ⟨⟨w1, wC, wB, wW⟩, ⟨s1, s2, s3⟩, hr, ht, hA, hI, hK⟩ := id h
  refine rx_iload_n (i := 1) X dX7_pulls_0 rfl rfl ?_
  refine rx_if_ge X dX7_pulls_1 (fun h1 => ?_) (fun h1 => ?_)
  · try simp only [Int32.lt_iff_toInt_lt, Int32.le_iff_toInt_le, Int32.reduceToInt] at h1
    refine rx_iload_n (i := 1) X dX7_pulls_7 rfl rfl ?_
    refine rx_aload_n (i := 0) X dX7_pulls_8 rfl rfl ?_
    refine rx_getR (ci := 7) (i := 0) X (kc_0 hO) rfl rfl (by decide) inX7 flX7_10 dX7_pulls_9 ?_
    refine rx_getI (ci := 3) (i := 2) X (kb_0 hO cb_B1) rfl rfl (by decide) inX3 flX7_164 dX7_pulls_12 ?_
    refine rx_top wB.2.1.1.2.2.1 ?_
    refine rx_icmp_ge X dX7_pulls_15 (fun h15 => ?_) (fun h15 => ?_)
    · try simp only [Int32.lt_iff_toInt_lt, Int32.le_iff_toInt_le, Int32.reduceToInt] at h15
      refine rx_ldc X dX7_pulls_30 kcX7_204 ?_
      refine rx_iret X dX7_pulls_32 ?_
      rintro r2 ρ2 ⟨rfl, rfl⟩
      exact ⟨by rw [sp_pulls, if_neg (by omega), if_neg (by omega)], h⟩
    · try simp only [Int32.lt_iff_toInt_lt, Int32.le_iff_toInt_le, Int32.reduceToInt] at h15
      have hx : 0 ≤ k.toInt ∧ k.toInt < (ρ.1 4 2).toInt := by omega
      obtain ⟨a, rfl, ha, ha2, hna, hth, hv⟩ := h.pl hx
      refine rx_aload_n (i := 0) X dX7_pulls_18 rfl rfl ?_
      refine rx_getR (ci := 7) (i := 0) X (kc_0 hO) rfl rfl (by decide) inX7 flX7_10 dX7_pulls_19 ?_
      refine rx_getR (ci := 3) (i := 4) X (kb_0 hO cb_B1) rfl rfl (by decide) inX3 flX7_167 dX7_pulls_22 ?_
      refine rx_iload_n (i := 1) X dX7_pulls_25 rfl rfl ?_
      refine rx_ialdN (j := a) X (kb_1 hO cb_B1) hO.2.2.1 rfl ha (by decide) dX7_pulls_26 ?_
      refine rx_top (wB.2.1.2 a ha ha2) ?_
      refine rx_goto X dX7_pulls_27 ?_
      refine rx_iret X dX7_pulls_32 ?_
      rintro r2 ρ2 ⟨rfl, rfl⟩
      exact ⟨by rw [sp_pulls, if_neg (by omega), if_pos (by omega), hna], h⟩
  · try simp only [Int32.lt_iff_toInt_lt, Int32.le_iff_toInt_le, Int32.reduceToInt] at h1
    refine rx_ldc X dX7_pulls_4 kcX7_71 ?_
    refine rx_iret X dX7_pulls_6 ?_
    rintro r2 ρ2 ⟨rfl, rfl⟩
    exact ⟨(if_pos (by omega)).symm, h⟩
theorem sw_ne {x : Int32} {n : Int} (h : x.toInt < 0 ∨ n < x.toInt) (c : Int32) (hc : 0 ≤ c.toInt ∧ c.toInt ≤ n) : ¬ x = c := by
  rintro rfl
  omega
set_option maxHeartbeats 1000000 in
set_option maxRecDepth 100000 in
theorem kX7_ant {l : Launch} {O : rx_O} (hO : cb_O O) {σ : rx_S} {ρ : rx_S} {x v : Int32} (h : cR σ ρ) : rx_MI l O yX7_ant cX7_ant 4 (some .int) 2 [.ref 0, .int x, .int v] σ (fun r τ => ∀ r2 ρ2, (sp_ant ρ x v = r2 ∧ ρ = ρ2) → r = r2 ∧ cR τ ρ2) := by
  refine rx_Met_of (own := RX7) rfl hO.2.1 vsX7_ant.2.2.2.2.2 (Nat.le_of_ble_eq_true rfl) rfl (fun p e s m args below meth c X => ?_)
  obtain ⟨⟨w1, wC, wB, wW⟩, ⟨s1, s2, s3⟩, hr, ht, hA, hI, hK⟩ := id h
  refine rx_aload_n (i := 0) X dX7_ant_0 rfl rfl ?_
  refine rx_getR (ci := 7) (i := 0) X (kc_0 hO) rfl rfl (by decide) inX7 flX7_10 dX7_ant_1 ?_
  refine rx_iload_n (i := 1) X dX7_ant_4 rfl rfl ?_
  refine rx_callVi (ci := 3) X vsX3_hasAnt mlX7_173 (kX3_hasAnt hO cb_B1 wB.2.1.1.2.2.2) (kb_0 hO cb_B1) rfl rfl (by decide) (by decide) dX7_ant_5 rfl (Nat.le_of_ble_eq_true rfl) (fun r5 t5 h5 => ?_)
  obtain ⟨rfl, ⟨rfl, h5⟩ | ⟨rfl, h5⟩⟩ := h5
  · obtain ⟨a, rfl, ha, ha3, hna, hth, hv⟩ := h.ant h5
    refine rx_if_ne_t X dX7_ant_8 (by decide) ?_
    refine rx_aload_n (i := 0) X dX7_ant_14 rfl rfl ?_
    refine rx_getR (ci := 7) (i := 0) X (kc_0 hO) rfl rfl (by decide) inX7 flX7_10 dX7_ant_15 ?_
    refine rx_getR (ci := 3) (i := 5) X (kb_0 hO cb_B1) rfl rfl (by decide) inX3 flX7_176 dX7_ant_18 ?_
    refine rx_iload_n (i := 1) X dX7_ant_21 rfl rfl ?_
    refine rx_aaldN (j := a) X (kb_2 hO cb_B1) hO.2.2.2.2.2.1 rfl ha (by decide) (kb_el ha) dX7_ant_22 ?_
    refine rx_astore_n (i := 3) (lo2 := [(0, .ref _), (1, .int _), (2, .int _), (3, .ref _)]) X dX7_ant_23 rfl (by decide) rfl ?_
    refine rx_iload_n (i := 2) X dX7_ant_24 rfl rfl ?_
    rcases sw6 v with rfl | rfl | rfl | rfl | rfl | rfl | hsw
    · refine rx_tableIn (tgt := 64) X dX7_ant_25 (by decide) (by decide) rfl rfl ?_
      refine rx_aload_n (i := 3) X dX7_ant_64 rfl rfl ?_
      refine rx_getI (ci := 1) (i := 1) X (kb_a hO cb_B1 ha) rfl rfl (by decide) inX1 flX7_192 dX7_ant_65 ?_
      refine rx_top (wB.2.2 a ha ha3 trivial).2.1 ?_
      refine rx_iret X dX7_ant_68 ?_
      rintro r2 ρ2 ⟨rfl, rfl⟩
      exact ⟨by rw [sp_ant, if_neg (fun q => q h5), hna]; rfl, h⟩
    · refine rx_tableIn (tgt := 69) X dX7_ant_25 (by decide) (by decide) rfl rfl ?_
      refine rx_aload_n (i := 3) X dX7_ant_69 rfl rfl ?_
      refine rx_getI (ci := 1) (i := 3) X (kb_a hO cb_B1 ha) rfl rfl (by decide) inX1 flX7_195 dX7_ant_70 ?_
      refine rx_top (wB.2.2 a ha ha3 trivial).2.2.2.1 ?_
      refine rx_iret X dX7_ant_73 ?_
      rintro r2 ρ2 ⟨rfl, rfl⟩
      exact ⟨by rw [sp_ant, if_neg (fun q => q h5), hna]; rfl, h⟩
    · refine rx_tableIn (tgt := 74) X dX7_ant_25 (by decide) (by decide) rfl rfl ?_
      refine rx_aload_n (i := 3) X dX7_ant_74 rfl rfl ?_
      refine rx_getI (ci := 1) (i := 4) X (kb_a hO cb_B1 ha) rfl rfl (by decide) inX1 flX7_189 dX7_ant_75 ?_
      refine rx_top (wB.2.2 a ha ha3 trivial).2.2.2.2.1 ?_
      refine rx_iret X dX7_ant_78 ?_
      rintro r2 ρ2 ⟨rfl, rfl⟩
      exact ⟨by rw [sp_ant, if_neg (fun q => q h5), hna]; rfl, h⟩
    · refine rx_tableIn (tgt := 79) X dX7_ant_25 (by decide) (by decide) rfl rfl ?_
      refine rx_aload_n (i := 3) X dX7_ant_79 rfl rfl ?_
      refine rx_getZ (ci := 1) (i := 5) X (kb_a hO cb_B1 ha) rfl rfl (by decide) inX1 flX7_180 dX7_ant_80 ?_
      refine rx_if_eq X dX7_ant_83 (fun h83 => ?_) (fun h83 => ?_)
      · refine rx_iconst (v := 0) X dX7_ant_90 (by decide) ?_
        refine rx_iret X dX7_ant_91 ?_
        rintro r2 ρ2 ⟨rfl, rfl⟩
        exact ⟨by rw [sp_ant, if_neg (fun q => q h5), hna]; exact (if_neg (fun q => (wB.2.2 a ha ha3 trivial).has.mpr q h83)).symm, h⟩
      · refine rx_iconst (v := 1) X dX7_ant_86 (by decide) ?_
        refine rx_goto X dX7_ant_87 ?_
        refine rx_iret X dX7_ant_91 ?_
        rintro r2 ρ2 ⟨rfl, rfl⟩
        exact ⟨by rw [sp_ant, if_neg (fun q => q h5), hna]; exact (if_pos ((wB.2.2 a ha ha3 trivial).has.mp h83)).symm, h⟩
    · refine rx_tableIn (tgt := 92) X dX7_ant_25 (by decide) (by decide) rfl rfl ?_
      refine rx_aload_n (i := 3) X dX7_ant_92 rfl rfl ?_
      refine rx_getZ (ci := 1) (i := 5) X (kb_a hO cb_B1 ha) rfl rfl (by decide) inX1 flX7_180 dX7_ant_93 ?_
      refine rx_if_eq X dX7_ant_96 (fun h96 => ?_) (fun h96 => ?_)
      · refine rx_bipush (v := 100) X dX7_ant_104 (by decide) ?_
        refine rx_aload_n (i := 3) X dX7_ant_106 rfl rfl ?_
        refine rx_aload_n (i := 0) X dX7_ant_107 rfl rfl ?_
        refine rx_getR (ci := 7) (i := 0) X (kc_0 hO) rfl rfl (by decide) inX7 flX7_10 dX7_ant_108 ?_
        refine rx_getI (ci := 3) (i := 1) X (kb_0 hO cb_B1) rfl rfl (by decide) inX3 flX7_153 dX7_ant_111 ?_
        refine rx_top wB.2.1.1.2.1 ?_
        refine rx_callVi (ci := 1) X vsX1_gait mlX7_198 (kX1_gait hO (kb_a hO cb_B1 ha)) (kb_a hO cb_B1 ha) rfl rfl (by decide) (by decide) dX7_ant_114 rfl (Nat.le_of_ble_eq_true rfl) (fun r114 t114 h114 => ?_)
        obtain ⟨rfl, rfl⟩ := h114
        refine rx_iadd X dX7_ant_117 ?_
        refine rx_iret X dX7_ant_118 ?_
        rintro r2 ρ2 ⟨rfl, rfl⟩
        exact ⟨by rw [sp_ant, if_neg (fun q => q h5), hna, (wB.2.2 a ha ha3 trivial).gait (hv.2.2.2.2.2 a ha3)]; exact (Int32.add_comm _ _).trans (if_neg (fun q => (wB.2.2 a ha ha3 trivial).has.mpr q h96)).symm, h⟩
      · refine rx_bipush (v := 100) X dX7_ant_99 (by decide) ?_
        refine rx_goto X dX7_ant_101 ?_
        refine rx_iret X dX7_ant_118 ?_
        rintro r2 ρ2 ⟨rfl, rfl⟩
        exact ⟨by rw [sp_ant, if_neg (fun q => q h5), hna]; exact (if_pos ((wB.2.2 a ha ha3 trivial).has.mp h96)).symm, h⟩
    · refine rx_tableIn (tgt := 119) X dX7_ant_25 (by decide) (by decide) rfl rfl ?_
      refine rx_aload_n (i := 3) X dX7_ant_119 rfl rfl ?_
      refine rx_getI (ci := 1) (i := 2) X (kb_a hO cb_B1 ha) rfl rfl (by decide) inX1 flX7_201 dX7_ant_120 ?_
      refine rx_top (wB.2.2 a ha ha3 trivial).2.2.1 ?_
      refine rx_iret X dX7_ant_123 ?_
      rintro r2 ρ2 ⟨rfl, rfl⟩
      exact ⟨by rw [sp_ant, if_neg (fun q => q h5), hna]; rfl, h⟩
    · refine rx_tableOut (tgt := 124) X dX7_ant_25 hsw rfl ?_
      refine rx_ldc X dX7_ant_124 kcX7_71 ?_
      refine rx_iret X dX7_ant_126 ?_
      rintro r2 ρ2 ⟨rfl, rfl⟩
      exact ⟨by rw [sp_ant, if_neg (fun q => q h5), hna, if_neg (sw_ne hsw 0 (by decide)), if_neg (sw_ne hsw 1 (by decide)), if_neg (sw_ne hsw 2 (by decide)), if_neg (sw_ne hsw 3 (by decide)), if_neg (sw_ne hsw 4 (by decide)), if_neg (sw_ne hsw 5 (by decide))], h⟩
  · refine rx_if_ne_f X dX7_ant_8 (by decide) ?_
    refine rx_ldc X dX7_ant_11 kcX7_71 ?_
    refine rx_iret X dX7_ant_13 ?_
    rintro r2 ρ2 ⟨rfl, rfl⟩
    exact ⟨(if_pos h5).symm, h⟩
set_option maxHeartbeats 1000000 in
set_option maxRecDepth 100000 in
theorem kX7_inches {l : Launch} {O : rx_O} (hO : cb_O O) {σ : rx_S} {ρ : rx_S} {x : Int32} (h : cR σ ρ) : rx_MI l O yX7_inches cX7_inches 2 (some .int) 1 [.ref 0, .int x] σ (fun r τ => ∀ r2 ρ2, (sp_inches ρ x = r2 ∧ ρ = ρ2) → r = r2 ∧ cR τ ρ2) := by
  refine rx_Met_of (own := RX7) rfl hO.2.1 vsX7_inches.2.2.2.2.2 (Nat.le_of_ble_eq_true rfl) rfl (fun p e s m args below meth c X => ?_)
  obtain ⟨⟨w1, wC, wB, wW⟩, ⟨s1, s2, s3⟩, hr, ht, hA, hI, hK⟩ := id h
  refine rx_aload_n (i := 0) X dX7_inches_0 rfl rfl ?_
  refine rx_getR (ci := 7) (i := 0) X (kc_0 hO) rfl rfl (by decide) inX7 flX7_10 dX7_inches_1 ?_
  refine rx_iload_n (i := 1) X dX7_inches_4 rfl rfl ?_
  refine rx_callVi (ci := 3) X vsX3_hasAnt mlX7_173 (kX3_hasAnt hO cb_B1 wB.2.1.1.2.2.2) (kb_0 hO cb_B1) rfl rfl (by decide) (by decide) dX7_inches_5 rfl (Nat.le_of_ble_eq_true rfl) (fun r5 t5 h5 => ?_)
  obtain ⟨rfl, ⟨rfl, h5⟩ | ⟨rfl, h5⟩⟩ := h5
  · obtain ⟨a, rfl, ha, ha3, hna, hth, hv⟩ := h.ant h5
    refine rx_if_ne_t X dX7_inches_8 (by decide) ?_
    refine rx_aload_n (i := 0) X dX7_inches_14 rfl rfl ?_
    refine rx_getR (ci := 7) (i := 0) X (kc_0 hO) rfl rfl (by decide) inX7 flX7_10 dX7_inches_15 ?_
    refine rx_getR (ci := 3) (i := 5) X (kb_0 hO cb_B1) rfl rfl (by decide) inX3 flX7_176 dX7_inches_18 ?_
    refine rx_iload_n (i := 1) X dX7_inches_21 rfl rfl ?_
    refine rx_aaldN (j := a) X (kb_2 hO cb_B1) hO.2.2.2.2.2.1 rfl ha (by decide) (kb_el ha) dX7_inches_22 ?_
    refine rx_getI (ci := 1) (i := 4) X (kb_a hO cb_B1 ha) rfl rfl (by decide) inX1 flX7_189 dX7_inches_23 ?_
    refine rx_top (wB.2.2 a ha ha3 trivial).2.2.2.2.1 ?_
    refine rx_i2l X dX7_inches_26 ?_
    refine rx_aload_n (i := 0) X dX7_inches_27 rfl rfl ?_
    refine rx_getR (ci := 7) (i := 0) X (kc_0 hO) rfl rfl (by decide) inX7 flX7_10 dX7_inches_28 ?_
    refine rx_getI (ci := 3) (i := 0) X (kb_0 hO cb_B1) rfl rfl (by decide) inX3 flX7_163 dX7_inches_31 ?_
    refine rx_top wB.2.1.1.1 ?_
    refine rx_i2l X dX7_inches_34 ?_
    refine rx_lmul X dX7_inches_35 ?_
    refine rx_ldc2 X dX7_inches_36 kcX7_265 ?_
    refine rx_ldiv X dX7_inches_39 (by decide) ?_
    refine rx_l2i X dX7_inches_40 ?_
    refine rx_iret X dX7_inches_41 ?_
    rintro r2 ρ2 ⟨rfl, rfl⟩
    exact ⟨by rw [sp_inches, if_neg (fun q => q h5), hna], h⟩
  · refine rx_if_ne_f X dX7_inches_8 (by decide) ?_
    refine rx_ldc X dX7_inches_11 kcX7_71 ?_
    refine rx_iret X dX7_inches_13 ?_
    rintro r2 ρ2 ⟨rfl, rfl⟩
    exact ⟨(if_pos h5).symm, h⟩
set_option maxHeartbeats 1000000 in
set_option maxRecDepth 100000 in
theorem kX7_kind {l : Launch} {O : rx_O} (hO : cb_O O) {σ : rx_S} {ρ : rx_S} {x : Int32} (h : cR σ ρ) : rx_MI l O yX7_kind cX7_kind 2 (some .int) 1 [.ref 0, .int x] σ (fun r τ => ∀ r2 ρ2, (sp_kind ρ x = r2 ∧ ρ = ρ2) → r = r2 ∧ cR τ ρ2) := by
  refine rx_Met_of (own := RX7) rfl hO.2.1 vsX7_kind.2.2.2.2.2 (Nat.le_of_ble_eq_true rfl) rfl (fun p e s m args below meth c X => ?_)
  obtain ⟨⟨w1, wC, wB, wW⟩, ⟨s1, s2, s3⟩, hr, ht, hA, hI, hK⟩ := id h
  refine rx_aload_n (i := 0) X dX7_kind_0 rfl rfl ?_
  refine rx_getR (ci := 7) (i := 0) X (kc_0 hO) rfl rfl (by decide) inX7 flX7_10 dX7_kind_1 ?_
  refine rx_iload_n (i := 1) X dX7_kind_4 rfl rfl ?_
  refine rx_callVi (ci := 3) X vsX3_hasAnt mlX7_173 (kX3_hasAnt hO cb_B1 wB.2.1.1.2.2.2) (kb_0 hO cb_B1) rfl rfl (by decide) (by decide) dX7_kind_5 rfl (Nat.le_of_ble_eq_true rfl) (fun r5 t5 h5 => ?_)
  obtain ⟨rfl, ⟨rfl, h5⟩ | ⟨rfl, h5⟩⟩ := h5
  · obtain ⟨a, rfl, ha, ha3, hna, hth, hv⟩ := h.ant h5
    refine rx_if_eq_f X dX7_kind_8 (by decide) ?_
    refine rx_aload_n (i := 0) X dX7_kind_11 rfl rfl ?_
    refine rx_getR (ci := 7) (i := 0) X (kc_0 hO) rfl rfl (by decide) inX7 flX7_10 dX7_kind_12 ?_
    refine rx_getR (ci := 3) (i := 5) X (kb_0 hO cb_B1) rfl rfl (by decide) inX3 flX7_176 dX7_kind_15 ?_
    refine rx_iload_n (i := 1) X dX7_kind_18 rfl rfl ?_
    refine rx_aaldN (j := a) X (kb_2 hO cb_B1) hO.2.2.2.2.2.1 rfl ha (by decide) (kb_el ha) dX7_kind_19 ?_
    refine rx_getI (ci := 1) (i := 0) X (kb_a hO cb_B1 ha) rfl rfl (by decide) inX1 flX7_290 dX7_kind_20 ?_
    refine rx_top (wB.2.2 a ha ha3 trivial).1 ?_
    refine rx_goto X dX7_kind_23 ?_
    refine rx_iret X dX7_kind_28 ?_
    rintro r2 ρ2 ⟨rfl, rfl⟩
    exact ⟨by rw [sp_kind, if_neg (fun q => q h5), hna], h⟩
  · refine rx_if_eq_t X dX7_kind_8 (by decide) ?_
    refine rx_ldc X dX7_kind_26 kcX7_71 ?_
    refine rx_iret X dX7_kind_28 ?_
    rintro r2 ρ2 ⟨rfl, rfl⟩
    exact ⟨(if_pos h5).symm, h⟩
theorem as_is {k q : Int32} (hk : 1 ≤ k.toInt ∧ k.toInt ≤ 5) (hq : 0 ≤ q.toInt ∧ q.toInt ≤ 5) : a_is q 6 k = decide (mo_isK k q) := by
  obtain ⟨m, rfl, h1, h2, h3⟩ := i_nat (x := k) (by omega)
  obtain ⟨n, rfl, g1, g2, g3⟩ := i_nat (x := q) (by omega)
  obtain ⟨j, rfl⟩ : ∃ j, m = j + 1 := ⟨m - 1, by omega⟩
  exact a_is_K j (by omega) n (by omega)
set_option maxHeartbeats 1000000 in
set_option maxRecDepth 100000 in
theorem kX7_as {l : Launch} {O : rx_O} (hO : cb_O O) {σ : rx_S} {ρ : rx_S} {x q : Int32} (h : cR σ ρ) : rx_MI l O yX7_as cX7_as 3 (some .int) 1 [.ref 0, .int x, .int q] σ (fun r τ => ∀ r2 ρ2, (sp_as ρ x q = (r2, ρ2)) → r = r2 ∧ cR τ ρ2) := by
  refine rx_Met_of (own := RX7) rfl hO.2.1 vsX7_as.2.2.2.2.2 (Nat.le_of_ble_eq_true rfl) rfl (fun p e s m args below meth c X => ?_)
  obtain ⟨⟨w1, wC, wB, wW⟩, ⟨s1, s2, s3⟩, hr, ht, hA, hI, hK⟩ := id h
  refine rx_aload_n (i := 0) X dX7_as_0 rfl rfl ?_
  refine rx_getR (ci := 7) (i := 0) X (kc_0 hO) rfl rfl (by decide) inX7 flX7_10 dX7_as_1 ?_
  refine rx_iload_n (i := 1) X dX7_as_4 rfl rfl ?_
  refine rx_callVi (ci := 3) X vsX3_hasAnt mlX7_173 (kX3_hasAnt hO cb_B1 wB.2.1.1.2.2.2) (kb_0 hO cb_B1) rfl rfl (by decide) (by decide) dX7_as_5 rfl (Nat.le_of_ble_eq_true rfl) (fun r5 t5 h5 => ?_)
  obtain ⟨rfl, ⟨rfl, h5⟩ | ⟨rfl, h5⟩⟩ := h5
  · obtain ⟨a, rfl, ha, ha3, hna, hth, hv⟩ := h.ant h5
    refine rx_if_eq_f X dX7_as_8 (by decide) ?_
    refine rx_iload_n (i := 2) X dX7_as_11 rfl rfl ?_
    refine rx_if_lt X dX7_as_12 (fun h12 => ?_) (fun h12 => ?_)
    · try simp only [Int32.lt_iff_toInt_lt, Int32.le_iff_toInt_le, Int32.reduceToInt] at h12
      refine rx_ldc X dX7_as_20 kcX7_71 ?_
      refine rx_iret X dX7_as_22 ?_
      intro r2 ρ2 hq
      rw [sp_as, if_pos (by omega)] at hq
      obtain ⟨rfl, rfl⟩ := Prod.mk.inj hq
      exact ⟨rfl, h⟩
    · try simp only [Int32.lt_iff_toInt_lt, Int32.le_iff_toInt_le, Int32.reduceToInt] at h12
      refine rx_iload_n (i := 2) X dX7_as_15 rfl rfl ?_
      refine rx_iconst (v := 5) X dX7_as_16 (by decide) ?_
      refine rx_icmp_le X dX7_as_17 (fun h17 => ?_) (fun h17 => ?_)
      · try simp only [Int32.lt_iff_toInt_lt, Int32.le_iff_toInt_le, Int32.reduceToInt] at h17
        refine rx_aload_n (i := 0) X dX7_as_23 rfl rfl ?_
        refine rx_getR (ci := 7) (i := 0) X (kc_0 hO) rfl rfl (by decide) inX7 flX7_10 dX7_as_24 ?_
        refine rx_getR (ci := 3) (i := 5) X (kb_0 hO cb_B1) rfl rfl (by decide) inX3 flX7_176 dX7_as_27 ?_
        refine rx_iload_n (i := 1) X dX7_as_30 rfl rfl ?_
        refine rx_aaldN (j := a) X (kb_2 hO cb_B1) hO.2.2.2.2.2.1 rfl ha (by decide) (kb_el ha) dX7_as_31 ?_
        refine rx_iload_n (i := 2) X dX7_as_32 rfl rfl ?_
        refine rx_callVi (ci := 1) X vsX1_isOf mlX7_293 (kX1_isOf hO (kb_a hO cb_B1 ha)) (kb_a hO cb_B1 ha) rfl rfl (by decide) (by decide) dX7_as_33 rfl (Nat.le_of_ble_eq_true rfl) (fun r33 t33 h33 => ?_)
        obtain ⟨rfl, h33⟩ := h33
        have hk0 := (hv.2.2.2.2.2 a ha3).1
        rw [(wB.2.2 a ha ha3 trivial).1, as_is hk0 (by omega)] at h33
        obtain ⟨rfl, h33⟩ | ⟨rfl, h33⟩ := h33
        · refine rx_if_eq_f X dX7_as_36 (by decide) ?_
          refine rx_aload_n (i := 0) X dX7_as_39 rfl rfl ?_
          refine rx_iload_n (i := 1) X dX7_as_40 rfl rfl ?_
          refine rx_callVi (ci := 7) X vsX7_fine mlX7_80 (kX7_fine hO) (kc_0 hO) rfl rfl (by decide) (by decide) dX7_as_41 rfl (Nat.le_of_ble_eq_true rfl) (fun r41 t41 h41 => ?_)
          obtain ⟨rfl, rfl⟩ := h41
          refine rx_goto X dX7_as_44 ?_
          refine rx_iret X dX7_as_52 ?_
          intro r2 ρ2 hpq
          rw [sp_as, if_neg (by omega), hna, if_pos (of_decide_eq_true h33)] at hpq
          obtain ⟨rfl, rfl⟩ := Prod.mk.inj hpq
          clear hpq
          exact ⟨rfl, h.st⟩
        · refine rx_if_eq_t X dX7_as_36 (by decide) ?_
          refine rx_aload_n (i := 0) X dX7_as_47 rfl rfl ?_
          refine rx_iconst (v := 3) X dX7_as_48 (by decide) ?_
          refine rx_callVi (ci := 7) X vsX7_found mlX7_72 (kX7_found hO) (kc_0 hO) rfl rfl (by decide) (by decide) dX7_as_49 rfl (Nat.le_of_ble_eq_true rfl) (fun r49 t49 h49 => ?_)
          obtain ⟨rfl, rfl⟩ := h49
          refine rx_iret X dX7_as_52 ?_
          intro r2 ρ2 hpq
          rw [sp_as, if_neg (by omega), hna, if_neg (fun q => h33 (decide_eq_true q))] at hpq
          obtain ⟨rfl, rfl⟩ := Prod.mk.inj hpq
          clear hpq
          exact ⟨by decide, h.st⟩
      · try simp only [Int32.lt_iff_toInt_lt, Int32.le_iff_toInt_le, Int32.reduceToInt] at h17
        refine rx_ldc X dX7_as_20 kcX7_71 ?_
        refine rx_iret X dX7_as_22 ?_
        intro r2 ρ2 hq
        rw [sp_as, if_pos (by omega)] at hq
        obtain ⟨rfl, rfl⟩ := Prod.mk.inj hq
        exact ⟨rfl, h⟩
  · refine rx_if_eq_t X dX7_as_8 (by decide) ?_
    refine rx_ldc X dX7_as_20 kcX7_71 ?_
    refine rx_iret X dX7_as_22 ?_
    intro r2 ρ2 hq
    rw [sp_as, if_pos (by omega)] at hq
    obtain ⟨rfl, rfl⟩ := Prod.mk.inj hq
    exact ⟨rfl, h⟩
theorem kd5 {w : Nat → Int32} {a : Nat} (h : 1 ≤ (w (10 + a)).toInt ∧ (w (10 + a)).toInt ≤ 5) : w (10 + a) = 1 ∨ w (10 + a) = 2 ∨ w (10 + a) = 3 ∨ w (10 + a) = 4 ∨ w (10 + a) = 5 := by
  simp only [← Int32.toInt_inj, Int32.reduceToInt]
  omega
theorem ak_le {w : Nat → Int32} {a : Nat} (h : 1 ≤ (w (10 + a)).toInt ∧ (w (10 + a)).toInt ≤ 5) : (ak_sz w a).2.length ≤ 16 ∧ (ak_mk w a).2.length ≤ 16 := by
  rcases kd5 h with k | k | k | k | k
  · rw [(ak1 k).1, (ak1 k).2]; exact ⟨Nat.le_of_ble_eq_true rfl, Nat.le_of_ble_eq_true rfl⟩
  · rw [(ak2 k).1, (ak2 k).2]; exact ⟨Nat.le_of_ble_eq_true rfl, Nat.le_of_ble_eq_true rfl⟩
  · rw [(ak3 k).1, (ak3 k).2]; exact ⟨Nat.le_of_ble_eq_true rfl, Nat.le_of_ble_eq_true rfl⟩
  · rw [(ak4 k).1, (ak4 k).2]; exact ⟨Nat.le_of_ble_eq_true rfl, Nat.le_of_ble_eq_true rfl⟩
  · rw [(ak5 k).1, (ak5 k).2]; exact ⟨Nat.le_of_ble_eq_true rfl, Nat.le_of_ble_eq_true rfl⟩
theorem kX2_an1 {l : Launch} {O : rx_O} (hO : cb_O O) {σ : rx_S} {a : Nat} {w : Nat → Int32} (ha : a < 6) (hz : cb_an (σ.1 (1 + 3 + a)) w a) (hk : 1 ≤ (w (10 + a)).toInt ∧ (w (10 + a)).toInt ≤ 5) : rx_MI l O yX2_answer cX2_answer 4 (some .int) 6 [.ref 255, .ref (1 + 3 + a), .int (nI a), .int 1] σ (fun r τ => r = (ak_sz w a).1 ∧ (∀ k, k ≠ 255 → k ≠ 256 → τ.1 k = σ.1 k) ∧ τ.2 = σ.2 ∧ τ.1 255 1 = nI (ak_sz w a).2.length ∧ τ.1 256 = tr_f (σ.1 256) (ak_sz w a).2) := by
  rcases kd5 hk with k | k | k | k | k
  · exact kX2_an11 hO ha hz k
  · exact kX2_an21 hO ha hz k
  · exact kX2_an31 hO ha hz k
  · exact kX2_an41 hO ha hz k
  · exact kX2_an51 hO ha hz k
theorem kX2_an0 {l : Launch} {O : rx_O} (hO : cb_O O) {σ : rx_S} {a : Nat} {w : Nat → Int32} (ha : a < 6) (hz : cb_an (σ.1 (1 + 3 + a)) w a) (hk : 1 ≤ (w (10 + a)).toInt ∧ (w (10 + a)).toInt ≤ 5) : rx_MI l O yX2_answer cX2_answer 4 (some .int) 6 [.ref 255, .ref (1 + 3 + a), .int (nI a), .int 0] σ (fun r τ => r = (ak_mk w a).1 ∧ (∀ k, k ≠ 255 → k ≠ 256 → τ.1 k = σ.1 k) ∧ τ.2 = σ.2 ∧ τ.1 255 1 = nI (ak_mk w a).2.length ∧ τ.1 256 = tr_f (σ.1 256) (ak_mk w a).2) := by
  rcases kd5 hk with k | k | k | k | k
  · exact kX2_an10 hO ha hz k
  · exact kX2_an20 hO ha hz k
  · exact kX2_an30 hO ha hz k
  · exact kX2_an40 hO ha hz k
  · exact kX2_an50 hO ha hz k
set_option maxHeartbeats 1000000 in
set_option maxRecDepth 100000 in
theorem kX7_ask {l : Launch} {O : rx_O} (hO : cb_O O) {σ : rx_S} {ρ : rx_S} {x v : Int32} (h : cR σ ρ) : rx_MI l O yX7_ask cX7_ask 3 (some .int) 7 [.ref 0, .int x, .int v] σ (fun r τ => ∀ r2 ρ2, (sp_ask ρ x v = (r2, ρ2)) → r = r2 ∧ cR τ ρ2) := by
  refine rx_Met_of (own := RX7) rfl hO.2.1 vsX7_ask.2.2.2.2.2 (Nat.le_of_ble_eq_true rfl) rfl (fun p e s m args below meth c X => ?_)
  obtain ⟨⟨w1, wC, wB, wW⟩, ⟨s1, s2, s3⟩, hr, ht, hA, hI, hK⟩ := id h
  refine rx_aload_n (i := 0) X dX7_ask_0 rfl rfl ?_
  refine rx_getR (ci := 7) (i := 0) X (kc_0 hO) rfl rfl (by decide) inX7 flX7_10 dX7_ask_1 ?_
  refine rx_iload_n (i := 1) X dX7_ask_4 rfl rfl ?_
  refine rx_callVi (ci := 3) X vsX3_hasAnt mlX7_173 (kX3_hasAnt hO cb_B1 wB.2.1.1.2.2.2) (kb_0 hO cb_B1) rfl rfl (by decide) (by decide) dX7_ask_5 rfl (Nat.le_of_ble_eq_true rfl) (fun r5 t5 h5 => ?_)
  obtain ⟨rfl, ⟨rfl, h5⟩ | ⟨rfl, h5⟩⟩ := h5
  · obtain ⟨a, rfl, ha, ha3, hna, hth, hv⟩ := h.ant h5
    refine rx_if_eq_f X dX7_ask_8 (by decide) ?_
    refine rx_iload_n (i := 2) X dX7_ask_11 rfl rfl ?_
    refine rx_if_lt X dX7_ask_12 (fun h12 => ?_) (fun h12 => ?_)
    · try simp only [Int32.lt_iff_toInt_lt, Int32.le_iff_toInt_le, Int32.reduceToInt] at h12
      refine rx_ldc X dX7_ask_20 kcX7_71 ?_
      refine rx_iret X dX7_ask_22 ?_
      intro r2 ρ2 hq
      rw [sp_ask, if_pos (by omega)] at hq
      obtain ⟨rfl, rfl⟩ := Prod.mk.inj hq
      exact ⟨rfl, h⟩
    · try simp only [Int32.lt_iff_toInt_lt, Int32.le_iff_toInt_le, Int32.reduceToInt] at h12
      refine rx_iload_n (i := 2) X dX7_ask_15 rfl rfl ?_
      refine rx_iconst (v := 1) X dX7_ask_16 (by decide) ?_
      refine rx_icmp_le X dX7_ask_17 (fun h17 => ?_) (fun h17 => ?_)
      · try simp only [Int32.lt_iff_toInt_lt, Int32.le_iff_toInt_le, Int32.reduceToInt] at h17
        refine rx_aload_n (i := 0) X dX7_ask_23 rfl rfl ?_
        refine rx_getR (ci := 7) (i := 5) X (kc_0 hO) rfl rfl (by decide) inX7 flX7_47 dX7_ask_24 ?_
        refine rx_aload_n (i := 0) X dX7_ask_27 rfl rfl ?_
        refine rx_getR (ci := 7) (i := 0) X (kc_0 hO) rfl rfl (by decide) inX7 flX7_10 dX7_ask_28 ?_
        refine rx_getR (ci := 3) (i := 5) X (kb_0 hO cb_B1) rfl rfl (by decide) inX3 flX7_176 dX7_ask_31 ?_
        refine rx_iload_n (i := 1) X dX7_ask_34 rfl rfl ?_
        refine rx_aaldN (j := a) X (kb_2 hO cb_B1) hO.2.2.2.2.2.1 rfl ha (by decide) (kb_el ha) dX7_ask_35 ?_
        refine rx_iload_n (i := 1) X dX7_ask_36 rfl rfl ?_
        refine rx_iload_n (i := 2) X dX7_ask_37 rfl rfl ?_
        refine rx_if_ne X dX7_ask_38 (fun h38 => ?_) (fun h38 => ?_)
        · refine rx_iconst (v := 0) X dX7_ask_45 (by decide) ?_
          refine rx_callVi (ci := 2) X vsX2_answer mlX7_296 (kX2_an0 hO ha (wB.2.2 a ha ha3 trivial) (hv.2.2.2.2.2 a ha3).1) (kc_255 hO) rfl rfl (by decide) (by decide) dX7_ask_46 rfl (Nat.le_of_ble_eq_true rfl) (fun r46 t46 h46 => ?_)
          obtain ⟨rfl, g1, g2, g3, g4⟩ := h46
          refine rx_iret X dX7_ask_49 ?_
          intro r2 ρ2 hpq
          rw [sp_ask, if_neg (by omega), hna, if_neg h38] at hpq
          obtain ⟨rfl, rfl⟩ := Prod.mk.inj hpq
          clear hpq
          refine ⟨rfl, ?_⟩
          have hle := ak_le (w := ρ.1 4) (a := a) (hv.2.2.2.2.2 a ha3).1
          obtain ⟨n, k1, k2, k3, k4⟩ := hK
          have m : ∀ k, k ≠ 0 → k ≠ 14 → (tr_st ρ (ak_mk (ρ.1 4) a).2).1 k = ρ.1 k := fun k a b => by rw [tr_st, rx_u_ne a, rx_ua_ne b]
          have m0 : ∀ j, j ≠ 25 → (tr_st ρ (ak_mk (ρ.1 4) a).2).1 0 j = ρ.1 0 j := fun j hj => by rw [tr_st, rx_u_s, upd_n hj, rx_ua_ne (by decide)]
          refine ⟨h.1.mv (fun k _ _ => g1 k (by omega) (by omega)) (by rw [g1 0 (by omega) (by omega)]) (m 4 (by omega) (by omega)) (m0 4 (by omega)), h.2.1.mv (by rw [g1 0 (by omega) (by omega)]) (fun a ha => by rw [g1 _ (by omega) (by omega)]; exact s3 a ha) (m0 3 (by omega)) (m0 6 (by omega)), hr.mv (fun k _ _ => g1 k (by omega) (by omega)) (m 1 (by omega) (by omega)) (m 2 (by omega) (by omega)) (m 3 (by omega) (by omega)), ht.mv (by rw [g1 22 (by omega) (by omega)]) (by rw [g1 22 (by omega) (by omega)]) (g1 23 (by omega) (by omega)) (m 6 (by omega) (by omega)) (m0 9 (by omega)) (m0 10 (by omega)), hA.mv (fun k _ _ => g1 k (by omega) (by omega)) (m 8 (by omega) (by omega)) (m0 18 (by omega)) (m0 4 (by omega)), hI.mv (fun k _ _ => g1 k (by omega) (by omega)) (m 12 (by omega) (by omega)) (m 13 (by omega) (by omega)) (fun q => (m0 4 (by omega)).trans q), ⟨(ak_mk (ρ.1 4) a).2.length, by omega, g3, tr_25 ρ _, ?_⟩⟩
          rw [g4, k4, tr_st, rx_u_ne (by decide), rx_ua_s]
        · refine rx_iconst (v := 1) X dX7_ask_41 (by decide) ?_
          refine rx_goto X dX7_ask_42 ?_
          refine rx_callVi (ci := 2) X vsX2_answer mlX7_296 (kX2_an1 hO ha (wB.2.2 a ha ha3 trivial) (hv.2.2.2.2.2 a ha3).1) (kc_255 hO) rfl rfl (by decide) (by decide) dX7_ask_46 rfl (Nat.le_of_ble_eq_true rfl) (fun r46 t46 h46 => ?_)
          obtain ⟨rfl, g1, g2, g3, g4⟩ := h46
          refine rx_iret X dX7_ask_49 ?_
          intro r2 ρ2 hpq
          rw [sp_ask, if_neg (by omega), hna, if_pos h38] at hpq
          obtain ⟨rfl, rfl⟩ := Prod.mk.inj hpq
          clear hpq
          refine ⟨rfl, ?_⟩
          have hle := ak_le (w := ρ.1 4) (a := a) (hv.2.2.2.2.2 a ha3).1
          obtain ⟨n, k1, k2, k3, k4⟩ := hK
          have m : ∀ k, k ≠ 0 → k ≠ 14 → (tr_st ρ (ak_sz (ρ.1 4) a).2).1 k = ρ.1 k := fun k a b => by rw [tr_st, rx_u_ne a, rx_ua_ne b]
          have m0 : ∀ j, j ≠ 25 → (tr_st ρ (ak_sz (ρ.1 4) a).2).1 0 j = ρ.1 0 j := fun j hj => by rw [tr_st, rx_u_s, upd_n hj, rx_ua_ne (by decide)]
          refine ⟨h.1.mv (fun k _ _ => g1 k (by omega) (by omega)) (by rw [g1 0 (by omega) (by omega)]) (m 4 (by omega) (by omega)) (m0 4 (by omega)), h.2.1.mv (by rw [g1 0 (by omega) (by omega)]) (fun a ha => by rw [g1 _ (by omega) (by omega)]; exact s3 a ha) (m0 3 (by omega)) (m0 6 (by omega)), hr.mv (fun k _ _ => g1 k (by omega) (by omega)) (m 1 (by omega) (by omega)) (m 2 (by omega) (by omega)) (m 3 (by omega) (by omega)), ht.mv (by rw [g1 22 (by omega) (by omega)]) (by rw [g1 22 (by omega) (by omega)]) (g1 23 (by omega) (by omega)) (m 6 (by omega) (by omega)) (m0 9 (by omega)) (m0 10 (by omega)), hA.mv (fun k _ _ => g1 k (by omega) (by omega)) (m 8 (by omega) (by omega)) (m0 18 (by omega)) (m0 4 (by omega)), hI.mv (fun k _ _ => g1 k (by omega) (by omega)) (m 12 (by omega) (by omega)) (m 13 (by omega) (by omega)) (fun q => (m0 4 (by omega)).trans q), ⟨(ak_sz (ρ.1 4) a).2.length, by omega, g3, tr_25 ρ _, ?_⟩⟩
          rw [g4, k4, tr_st, rx_u_ne (by decide), rx_ua_s]
      · try simp only [Int32.lt_iff_toInt_lt, Int32.le_iff_toInt_le, Int32.reduceToInt] at h17
        refine rx_ldc X dX7_ask_20 kcX7_71 ?_
        refine rx_iret X dX7_ask_22 ?_
        intro r2 ρ2 hq
        rw [sp_ask, if_pos (by omega)] at hq
        obtain ⟨rfl, rfl⟩ := Prod.mk.inj hq
        exact ⟨rfl, h⟩
  · refine rx_if_eq_t X dX7_ask_8 (by decide) ?_
    refine rx_ldc X dX7_ask_20 kcX7_71 ?_
    refine rx_iret X dX7_ask_22 ?_
    intro r2 ρ2 hq
    rw [sp_ask, if_pos (by omega)] at hq
    obtain ⟨rfl, rfl⟩ := Prod.mk.inj hq
    exact ⟨rfl, h⟩
theorem rw_n {σ ρ : rx_S} (h : rR σ ρ) : ∀ n, n ≤ 8 → cr_n σ n = mo_rows ρ n
  | 0, _ => rfl
  | n + 1, hn => by
    have ih := rw_n h n (by omega)
    have e := (h.2.1 n (by omega)).2
    have z := sz_neg (h.1 n (by omega)).1
    rw [cr_n, mo_rows, ih, e]
    by_cases q : ρ.1 2 n = -1
    · rw [if_pos q, if_pos (Int32.lt_iff_toInt_lt.mpr (z.mp q)), Int32.add_zero]
    · rw [if_neg q, if_neg (fun y => q (z.mpr (Int32.lt_iff_toInt_lt.mp y)))]
theorem cR.n3 {σ ρ : rx_S} (h : cR σ ρ) : 0 ≤ (ρ.1 4 3).toInt ∧ (ρ.1 4 3).toInt ≤ 6 := by
  rcases h.1.2.2.2 with q | q
  · have := q.2.2.2.2.1; omega
  · rw [q.2 3 (by omega)]; decide
set_option maxHeartbeats 1000000 in
set_option maxRecDepth 100000 in
theorem kX7_count {l : Launch} {O : rx_O} (hO : cb_O O) {σ : rx_S} {ρ : rx_S} {v : Int32} (h : cR σ ρ) : rx_MI l O yX7_count cX7_count 2 (some .int) 1 [.ref 0, .int v] σ (fun r τ => ∀ r2 ρ2, (sp_count ρ v = r2 ∧ ρ = ρ2) → r = r2 ∧ cR τ ρ2) := by
  refine rx_Met_of (own := RX7) rfl hO.2.1 vsX7_count.2.2.2.2.2 (Nat.le_of_ble_eq_true rfl) rfl (fun p e s m args below meth c X => ?_)
  obtain ⟨⟨w1, wC, wB, wW⟩, ⟨s1, s2, s3⟩, hr, ht, hA, hI, hK⟩ := id h
  obtain ⟨N, t1, t2, t3, t4, t5⟩ := ht
  obtain ⟨od, kn, a1, a2, a3, a4, a5, a6, a7⟩ := hA
  refine rx_iload_n (i := 1) X dX7_count_0 rfl rfl ?_
  rcases sw8 v with rfl | rfl | rfl | rfl | rfl | rfl | rfl | rfl | hsw
  · refine rx_tableIn (tgt := 48) X dX7_count_1 (by decide) (by decide) rfl rfl ?_
    refine rx_aload_n (i := 0) X dX7_count_48 rfl rfl ?_
    refine rx_getR (ci := 7) (i := 1) X (kc_0 hO) rfl rfl (by decide) inX7 flX7_19 dX7_count_49 ?_
    refine rx_callVi (ci := 5) X vsX5_present mlX7_306 (kX5_present hO) (kc_10 hO) rfl rfl (by decide) (by decide) dX7_count_52 rfl (Nat.le_of_ble_eq_true rfl) (fun r52 t52 h52 => ?_)
    obtain ⟨rfl, rfl⟩ := h52
    refine rx_iret X dX7_count_55 ?_
    rintro r2 ρ2 ⟨rfl, rfl⟩
    exact ⟨rw_n hr 8 (by omega), h⟩
  · refine rx_tableIn (tgt := 56) X dX7_count_1 (by decide) (by decide) rfl rfl ?_
    refine rx_aload_n (i := 0) X dX7_count_56 rfl rfl ?_
    refine rx_getR (ci := 7) (i := 0) X (kc_0 hO) rfl rfl (by decide) inX7 flX7_10 dX7_count_57 ?_
    refine rx_getI (ci := 3) (i := 2) X (kb_0 hO cb_B1) rfl rfl (by decide) inX3 flX7_164 dX7_count_60 ?_
    refine rx_top wB.2.1.1.2.2.1 ?_
    refine rx_iret X dX7_count_63 ?_
    rintro r2 ρ2 ⟨rfl, rfl⟩
    exact ⟨rfl, h⟩
  · refine rx_tableIn (tgt := 64) X dX7_count_1 (by decide) (by decide) rfl rfl ?_
    refine rx_aload_n (i := 0) X dX7_count_64 rfl rfl ?_
    refine rx_getR (ci := 7) (i := 0) X (kc_0 hO) rfl rfl (by decide) inX7 flX7_10 dX7_count_65 ?_
    refine rx_getI (ci := 3) (i := 3) X (kb_0 hO cb_B1) rfl rfl (by decide) inX3 flX7_139 dX7_count_68 ?_
    refine rx_top wB.2.1.1.2.2.2 ?_
    refine rx_iret X dX7_count_71 ?_
    rintro r2 ρ2 ⟨rfl, rfl⟩
    exact ⟨rfl, h⟩
  · refine rx_tableIn (tgt := 72) X dX7_count_1 (by decide) (by decide) rfl rfl ?_
    refine rx_aload_n (i := 0) X dX7_count_72 rfl rfl ?_
    refine rx_getR (ci := 7) (i := 0) X (kc_0 hO) rfl rfl (by decide) inX7 flX7_10 dX7_count_73 ?_
    refine rx_getI (ci := 3) (i := 1) X (kb_0 hO cb_B1) rfl rfl (by decide) inX3 flX7_153 dX7_count_76 ?_
    refine rx_top wB.2.1.1.2.1 ?_
    refine rx_iret X dX7_count_79 ?_
    rintro r2 ρ2 ⟨rfl, rfl⟩
    exact ⟨rfl, h⟩
  · refine rx_tableIn (tgt := 80) X dX7_count_1 (by decide) (by decide) rfl rfl ?_
    refine rx_aload_n (i := 0) X dX7_count_80 rfl rfl ?_
    refine rx_getR (ci := 7) (i := 0) X (kc_0 hO) rfl rfl (by decide) inX7 flX7_10 dX7_count_81 ?_
    refine rx_getI (ci := 3) (i := 0) X (kb_0 hO cb_B1) rfl rfl (by decide) inX3 flX7_163 dX7_count_84 ?_
    refine rx_top wB.2.1.1.1 ?_
    refine rx_iret X dX7_count_87 ?_
    rintro r2 ρ2 ⟨rfl, rfl⟩
    exact ⟨rfl, h⟩
  · refine rx_tableIn (tgt := 88) X dX7_count_1 (by decide) (by decide) rfl rfl ?_
    refine rx_aload_n (i := 0) X dX7_count_88 rfl rfl ?_
    refine rx_getR (ci := 7) (i := 0) X (kc_0 hO) rfl rfl (by decide) inX7 flX7_10 dX7_count_89 ?_
    refine rx_callVi (ci := 3) X vsX3_arrivedBits mlX7_213 (kX3_arrivedBits hO cb_B1 wB h.n3 wC) (kb_0 hO cb_B1) rfl rfl (by decide) (by decide) dX7_count_92 rfl (Nat.le_of_ble_eq_true rfl) (fun r92 t92 h92 => ?_)
    obtain ⟨rfl, rfl⟩ := h92
    refine rx_iret X dX7_count_95 ?_
    rintro r2 ρ2 ⟨rfl, rfl⟩
    exact ⟨rfl, h⟩
  · refine rx_tableIn (tgt := 96) X dX7_count_1 (by decide) (by decide) rfl rfl ?_
    refine rx_aload_n (i := 0) X dX7_count_96 rfl rfl ?_
    refine rx_getR (ci := 7) (i := 3) X (kc_0 hO) rfl rfl (by decide) inX7 flX7_33 dX7_count_97 ?_
    refine rx_getI (ci := 0) (i := 2) X (kc_24 hO) rfl rfl (by decide) inX0 flX7_145 dX7_count_100 ?_
    refine rx_top (a4.trans a5.symm) ?_
    refine rx_iret X dX7_count_103 ?_
    rintro r2 ρ2 ⟨rfl, rfl⟩
    exact ⟨rfl, h⟩
  · refine rx_tableIn (tgt := 104) X dX7_count_1 (by decide) (by decide) rfl rfl ?_
    refine rx_aload_n (i := 0) X dX7_count_104 rfl rfl ?_
    refine rx_getR (ci := 7) (i := 2) X (kc_0 hO) rfl rfl (by decide) inX7 flX7_26 dX7_count_105 ?_
    refine rx_getI (ci := 6) (i := 1) X (kc_22 hO) rfl rfl (by decide) inX6 flX7_114 dX7_count_108 ?_
    refine rx_top (t2.trans t3.symm) ?_
    refine rx_iret X dX7_count_111 ?_
    rintro r2 ρ2 ⟨rfl, rfl⟩
    exact ⟨rfl, h⟩
  · refine rx_tableOut (tgt := 112) X dX7_count_1 hsw rfl ?_
    refine rx_ldc X dX7_count_112 kcX7_71 ?_
    refine rx_iret X dX7_count_114 ?_
    rintro r2 ρ2 ⟨rfl, rfl⟩
    exact ⟨by rw [sp_count, if_neg (sw_ne hsw 0 (by decide)), if_neg (sw_ne hsw 1 (by decide)), if_neg (sw_ne hsw 2 (by decide)), if_neg (sw_ne hsw 3 (by decide)), if_neg (sw_ne hsw 4 (by decide)), if_neg (sw_ne hsw 5 (by decide)), if_neg (sw_ne hsw 6 (by decide)), if_neg (sw_ne hsw 7 (by decide))], h⟩
