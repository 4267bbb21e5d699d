theorem u4_eq {σ : rx_S} {w : Nat → Int32} {j : Nat} {v : Int32} (h : σ.1 4 = w) : rx_u σ 4 j v = rx_ua σ 4 (upd w j v) := by rw [rx_u_eq, h]
set_option maxHeartbeats 1000000 in
set_option maxRecDepth 100000 in
theorem kX7_pull {l : Launch} {O : rx_O} (hO : cb_O O) {σ : rx_S} {ρ : rx_S} {q v : Int32} (h : cR σ ρ) : rx_MI l O yX7_pull cX7_pull 4 (some .int) 3 [.ref 0, .int q, .int v] σ (fun r τ => ∀ r2 ρ2, (sp_pull ρ q v = (r2, ρ2)) → r = r2 ∧ cR τ ρ2) := by
  refine rx_Met_of (own := RX7) rfl hO.2.1 vsX7_pull.2.2.2.2.2 (Nat.le_of_ble_eq_true rfl) rfl (fun p e s m args below meth c X => ?_)
  obtain ⟨⟨w1, wC, wB, wW⟩, ⟨s1, s2, s3⟩, hr, ht, hA, hI, hK⟩ := id h
  obtain ⟨od, kn, a1, a2, a3, a4, a5, a6, a7⟩ := id hA
  refine rx_iload_n (i := 1) X dX7_pull_0 rfl rfl ?_
  refine rx_if_lt X dX7_pull_1 (fun h1 => ?_) (fun h1 => ?_)
  · try simp only [Int32.lt_iff_toInt_lt, Int32.le_iff_toInt_le, Int32.reduceToInt] at h1
    refine rx_ldc X dX7_pull_25 kcX7_71 ?_
    refine rx_iret X dX7_pull_27 ?_
    intro r2 ρ2 hq
    rw [sp_pull, if_pos (by omega)] at hq
    obtain ⟨rfl, rfl⟩ := Prod.mk.inj hq
    exact ⟨rfl, h⟩
  · try simp only [Int32.lt_iff_toInt_lt, Int32.le_iff_toInt_le, Int32.reduceToInt] at h1
    refine rx_iload_n (i := 1) X dX7_pull_4 rfl rfl ?_
    refine rx_aload_n (i := 0) X dX7_pull_5 rfl rfl ?_
    refine rx_getR (ci := 7) (i := 0) X (kc_0 hO) rfl rfl (by decide) inX7 flX7_10 dX7_pull_6 ?_
    refine rx_getI (ci := 3) (i := 2) X (kb_0 hO cb_B1) rfl rfl (by decide) inX3 flX7_164 dX7_pull_9 ?_
    refine rx_top wB.2.1.1.2.2.1 ?_
    refine rx_icmp_ge X dX7_pull_12 (fun h12 => ?_) (fun h12 => ?_)
    · try simp only [Int32.lt_iff_toInt_lt, Int32.le_iff_toInt_le, Int32.reduceToInt] at h12
      refine rx_ldc X dX7_pull_25 kcX7_71 ?_
      refine rx_iret X dX7_pull_27 ?_
      intro r2 ρ2 hq
      rw [sp_pull, if_pos (by omega)] at hq
      obtain ⟨rfl, rfl⟩ := Prod.mk.inj hq
      exact ⟨rfl, h⟩
    · try simp only [Int32.lt_iff_toInt_lt, Int32.le_iff_toInt_le, Int32.reduceToInt] at h12
      refine rx_iload_n (i := 2) X dX7_pull_15 rfl rfl ?_
      refine rx_if_lt X dX7_pull_16 (fun h16 => ?_) (fun h16 => ?_)
      · try simp only [Int32.lt_iff_toInt_lt, Int32.le_iff_toInt_le, Int32.reduceToInt] at h16
        refine rx_ldc X dX7_pull_25 kcX7_71 ?_
        refine rx_iret X dX7_pull_27 ?_
        intro r2 ρ2 hq
        rw [sp_pull, if_pos (by omega)] at hq
        obtain ⟨rfl, rfl⟩ := Prod.mk.inj hq
        exact ⟨rfl, h⟩
      · try simp only [Int32.lt_iff_toInt_lt, Int32.le_iff_toInt_le, Int32.reduceToInt] at h16
        refine rx_iload_n (i := 2) X dX7_pull_19 rfl rfl ?_
        refine rx_bipush (v := 99) X dX7_pull_20 (by decide) ?_
        refine rx_icmp_le X dX7_pull_22 (fun h22 => ?_) (fun h22 => ?_)
        · try simp only [Int32.lt_iff_toInt_lt, Int32.le_iff_toInt_le, Int32.reduceToInt] at h22
          have hx : 0 ≤ q.toInt ∧ q.toInt < (ρ.1 4 2).toInt := by omega
          obtain ⟨a, rfl, ha, ha2, hna, hth, hv⟩ := h.pl hx
          refine rx_aload_n (i := 0) X dX7_pull_28 rfl rfl ?_
          refine rx_getR (ci := 7) (i := 3) X (kc_0 hO) rfl rfl (by decide) inX7 flX7_33 dX7_pull_29 ?_
          refine rx_aload_n (i := 0) X dX7_pull_32 rfl rfl ?_
          refine rx_getR (ci := 7) (i := 0) X (kc_0 hO) rfl rfl (by decide) inX7 flX7_10 dX7_pull_33 ?_
          refine rx_callVv (ci := 0) X vsX0_keep mlX7_156 (kX0_keep hO a3 a4 a1 a2 wB.1) (kc_24 hO) rfl rfl (by decide) (by decide) dX7_pull_36 rfl (Nat.le_of_ble_eq_true rfl) (fun t36 h36 => ?_)
          obtain ⟨k1, k2, k3, k4, k5⟩ := h36
          obtain ⟨hc, n4, nth, n6⟩ := h.note hth a1 a2 a5 a7 k1 k2 k3 k5
          have pw1 := hc.wall nth
          rw [n4] at pw1
          refine rx_aload_n (i := 0) X dX7_pull_39 rfl rfl ?_
          refine rx_getR (ci := 7) (i := 0) X (kc_0 hO) rfl rfl (by decide) inX7 flX7_10 dX7_pull_40 ?_
          refine rx_getR (ci := 3) (i := 4) X (kb_0 hO cb_B1) rfl rfl (by decide) inX3 flX7_167 dX7_pull_43 ?_
          refine rx_iload_n (i := 1) X dX7_pull_46 rfl rfl ?_
          refine rx_ialdN (j := a) X (kb_1 hO cb_B1) hO.2.2.1 rfl ha (by decide) dX7_pull_47 ?_
          refine rx_top (pw1.1.2.1.2 a ha ha2) ?_
          refine rx_istore_n (i := 3) (lo2 := [(0, .ref _), (1, .int _), (2, .int _), (3, .int _)]) X dX7_pull_48 rfl (by decide) rfl ?_
          refine rx_aload_n (i := 0) X dX7_pull_49 rfl rfl ?_
          refine rx_getR (ci := 7) (i := 0) X (kc_0 hO) rfl rfl (by decide) inX7 flX7_10 dX7_pull_50 ?_
          refine rx_getR (ci := 3) (i := 4) X (kb_0 hO cb_B1) rfl rfl (by decide) inX3 flX7_167 dX7_pull_53 ?_
          refine rx_iload_n (i := 1) X dX7_pull_56 rfl rfl ?_
          refine rx_iload_n (i := 2) X dX7_pull_57 rfl rfl ?_
          refine rx_iastN (j := a) X (kb_1 hO cb_B1) hO.2.2.1 rfl ha (by decide) dX7_pull_58 ?_
          refine rx_iload_n (i := 3) X dX7_pull_59 rfl rfl ?_
          refine rx_iret X dX7_pull_60 ?_
          intro r2 ρ2 hpq
          rw [sp_pull, if_neg (by omega), hna] at hpq
          obtain ⟨rfl, rfl⟩ := Prod.mk.inj hpq
          clear hpq
          refine ⟨rfl, ?_⟩
          rw [u4_eq n4]
          exact hc.now (fun k hk => rx_u_ne (by omega)) nth ⟨pw1.1.inch ha, w_V_upd5 pw1.2.1 ha (by omega), w_C_upd pw1.2.2 (by omega) (by omega)⟩
        · try simp only [Int32.lt_iff_toInt_lt, Int32.le_iff_toInt_le, Int32.reduceToInt] at h22
          refine rx_ldc X dX7_pull_25 kcX7_71 ?_
          refine rx_iret X dX7_pull_27 ?_
          intro r2 ρ2 hq
          rw [sp_pull, if_pos (by omega)] at hq
          obtain ⟨rfl, rfl⟩ := Prod.mk.inj hq
          exact ⟨rfl, h⟩
set_option maxHeartbeats 1000000 in
set_option maxRecDepth 100000 in
theorem kX7_letGo {l : Launch} {O : rx_O} (hO : cb_O O) {σ : rx_S} {ρ : rx_S} (h : cR σ ρ) : rx_MI l O yX7_letGo cX7_letGo 1 (some .int) 3 [.ref 0] σ (fun r τ => ∀ r2 ρ2, (sp_letGo ρ = (r2, ρ2)) → r = r2 ∧ cR τ ρ2) := by
  refine rx_Met_of (own := RX7) rfl hO.2.1 vsX7_letGo.2.2.2.2.2 (Nat.le_of_ble_eq_true rfl) rfl (fun p e s m args below meth c X => ?_)
  obtain ⟨⟨w1, wC, wB, wW⟩, ⟨s1, s2, s3⟩, hr, ht, hA, hI, hK⟩ := id h
  obtain ⟨od, kn, a1, a2, a3, a4, a5, a6, a7⟩ := id hA
  refine rx_aload_n (i := 0) X dX7_letGo_0 rfl rfl ?_
  refine rx_getZ (ci := 7) (i := 8) X (kc_0 hO) rfl rfl (by decide) inX7 flX7_59 dX7_letGo_1 ?_
  refine rx_top w1 ?_
  refine rx_if_ne X dX7_letGo_4 (fun h4 => ?_) (fun h4 => ?_)
  · have hth := h.there h4
    obtain ⟨hth, hv⟩ := hth
    refine rx_aload_n (i := 0) X dX7_letGo_10 rfl rfl ?_
    refine rx_getR (ci := 7) (i := 3) X (kc_0 hO) rfl rfl (by decide) inX7 flX7_33 dX7_letGo_11 ?_
    refine rx_aload_n (i := 0) X dX7_letGo_14 rfl rfl ?_
    refine rx_getR (ci := 7) (i := 0) X (kc_0 hO) rfl rfl (by decide) inX7 flX7_10 dX7_letGo_15 ?_
    refine rx_callVv (ci := 0) X vsX0_keep mlX7_156 (kX0_keep hO a3 a4 a1 a2 wB.1) (kc_24 hO) rfl rfl (by decide) (by decide) dX7_letGo_18 rfl (Nat.le_of_ble_eq_true rfl) (fun t18 h18 => ?_)
    obtain ⟨k1, k2, k3, k4, k5⟩ := h18
    obtain ⟨hc, n4, nth, n6⟩ := h.note hth a1 a2 a5 a7 k1 k2 k3 k5
    have pw1 := hc.wall nth
    rw [n4] at pw1
    refine rx_aload_n (i := 0) X dX7_letGo_21 rfl rfl ?_
    refine rx_getR (ci := 7) (i := 0) X (kc_0 hO) rfl rfl (by decide) inX7 flX7_10 dX7_letGo_22 ?_
    refine rx_callVv (ci := 3) X vsX3_slacken mlX7_170 (kX3_slacken hO cb_B1 pw1.1 pw1.2.1.1.1) (kb_0 hO cb_B1) rfl rfl (by decide) (by decide) dX7_letGo_25 rfl (Nat.le_of_ble_eq_true rfl) (fun t25 h25 => ?_)
    obtain ⟨h25f, h25⟩ := h25
    refine rx_aload_n (i := 0) X dX7_letGo_28 rfl rfl ?_
    refine rx_getR (ci := 7) (i := 0) X (kc_0 hO) rfl rfl (by decide) inX7 flX7_10 dX7_letGo_29 ?_
    refine rx_getI (ci := 3) (i := 0) X (kb_0 hO cb_B1) rfl rfl (by decide) inX3 flX7_163 dX7_letGo_32 ?_
    refine rx_top h25.2.1.1.1 ?_
    refine rx_iret X dX7_letGo_35 ?_
    intro r2 ρ2 hpq
    rw [sp_letGo, if_neg h4] at hpq
    obtain ⟨rfl, rfl⟩ := Prod.mk.inj hpq
    clear hpq
    refine ⟨rfl, hc.now (fun k hk => h25f.2 k (by omega)) nth ⟨h25, w_V_slack pw1.2.1, w_C_slack pw1.2.2⟩⟩
  · refine rx_ldc X dX7_letGo_7 kcX7_148 ?_
    refine rx_iret X dX7_letGo_9 ?_
    intro r2 ρ2 hpq
    rw [sp_letGo, if_pos h4] at hpq
    obtain ⟨rfl, rfl⟩ := Prod.mk.inj hpq
    clear hpq
    exact ⟨rfl, h⟩
set_option maxHeartbeats 1000000 in
set_option maxRecDepth 100000 in
theorem kX7_place {l : Launch} {O : rx_O} (hO : cb_O O) {σ : rx_S} {ρ : rx_S} {x v : Int32} (h : cR σ ρ) : rx_MI l O yX7_place cX7_place 5 (some .int) 3 [.ref 0, .int x, .int v] σ (fun r τ => ∀ r2 ρ2, (sp_place ρ x v = (r2, ρ2)) → r = r2 ∧ cR τ ρ2) := by
  refine rx_Met_of (own := RX7) rfl hO.2.1 vsX7_place.2.2.2.2.2 (Nat.le_of_ble_eq_true rfl) rfl (fun p e s m args below meth c X => ?_)
  obtain ⟨⟨w1, wC, wB, wW⟩, ⟨s1, s2, s3⟩, hr, ht, hA, hI, hK⟩ := id h
  obtain ⟨od, kn, a1, a2, a3, a4, a5, a6, a7⟩ := id hA
  refine rx_aload_n (i := 0) X dX7_place_0 rfl rfl ?_
  refine rx_getR (ci := 7) (i := 0) X (kc_0 hO) rfl rfl (by decide) inX7 flX7_10 dX7_place_1 ?_
  refine rx_iload_n (i := 1) X dX7_place_4 rfl rfl ?_
  refine rx_callVi (ci := 3) X vsX3_hasAnt mlX7_173 (kX3_hasAnt hO cb_B1 wB.2.1.1.2.2.2) (kb_0 hO cb_B1) rfl rfl (by decide) (by decide) dX7_place_5 rfl (Nat.le_of_ble_eq_true rfl) (fun r5 t5 h5 => ?_)
  obtain ⟨rfl, ⟨rfl, h5⟩ | ⟨rfl, h5⟩⟩ := h5
  · obtain ⟨a, rfl, ha, ha3, hna, hth, hv⟩ := h.ant h5
    refine rx_if_eq_f X dX7_place_8 (by decide) ?_
    refine rx_iload_n (i := 2) X dX7_place_11 rfl rfl ?_
    refine rx_if_lt X dX7_place_12 (fun h12 => ?_) (fun h12 => ?_)
    · try simp only [Int32.lt_iff_toInt_lt, Int32.le_iff_toInt_le, Int32.reduceToInt] at h12
      refine rx_ldc X dX7_place_21 kcX7_71 ?_
      refine rx_iret X dX7_place_23 ?_
      intro r2 ρ2 hq
      rw [sp_place, if_pos (by omega)] at hq
      obtain ⟨rfl, rfl⟩ := Prod.mk.inj hq
      exact ⟨rfl, h⟩
    · try simp only [Int32.lt_iff_toInt_lt, Int32.le_iff_toInt_le, Int32.reduceToInt] at h12
      refine rx_iload_n (i := 2) X dX7_place_15 rfl rfl ?_
      refine rx_bipush (v := 99) X dX7_place_16 (by decide) ?_
      refine rx_icmp_le X dX7_place_18 (fun h18 => ?_) (fun h18 => ?_)
      · try simp only [Int32.lt_iff_toInt_lt, Int32.le_iff_toInt_le, Int32.reduceToInt] at h18
        refine rx_aload_n (i := 0) X dX7_place_24 rfl rfl ?_
        refine rx_getR (ci := 7) (i := 0) X (kc_0 hO) rfl rfl (by decide) inX7 flX7_10 dX7_place_25 ?_
        refine rx_getR (ci := 3) (i := 5) X (kb_0 hO cb_B1) rfl rfl (by decide) inX3 flX7_176 dX7_place_28 ?_
        refine rx_iload_n (i := 1) X dX7_place_31 rfl rfl ?_
        refine rx_aaldN (j := a) X (kb_2 hO cb_B1) hO.2.2.2.2.2.1 rfl ha (by decide) (kb_el ha) dX7_place_32 ?_
        refine rx_astore_n (i := 3) (lo2 := [(0, .ref _), (1, .int _), (2, .int _), (3, .ref _)]) X dX7_place_33 rfl (by decide) rfl ?_
        refine rx_aload_n (i := 3) X dX7_place_34 rfl rfl ?_
        refine rx_getZ (ci := 1) (i := 5) X (kb_a hO cb_B1 ha) rfl rfl (by decide) inX1 flX7_180 dX7_place_35 ?_
        refine rx_if_eq X dX7_place_38 (fun h38 => ?_) (fun h38 => ?_)
        · refine rx_aload_n (i := 0) X dX7_place_44 rfl rfl ?_
          refine rx_getR (ci := 7) (i := 3) X (kc_0 hO) rfl rfl (by decide) inX7 flX7_33 dX7_place_45 ?_
          refine rx_aload_n (i := 0) X dX7_place_48 rfl rfl ?_
          refine rx_getR (ci := 7) (i := 0) X (kc_0 hO) rfl rfl (by decide) inX7 flX7_10 dX7_place_49 ?_
          refine rx_callVv (ci := 0) X vsX0_keep mlX7_156 (kX0_keep hO a3 a4 a1 a2 wB.1) (kc_24 hO) rfl rfl (by decide) (by decide) dX7_place_52 rfl (Nat.le_of_ble_eq_true rfl) (fun t52 h52 => ?_)
          obtain ⟨k1, k2, k3, k4, k5⟩ := h52
          obtain ⟨hc, n4, nth, n6⟩ := h.note hth a1 a2 a5 a7 k1 k2 k3 k5
          have pw1 := hc.wall nth
          rw [n4] at pw1
          refine rx_aload_n (i := 3) X dX7_place_55 rfl rfl ?_
          refine rx_callVi (ci := 1) X vsX1_hundredth mlX7_185 (kX1_hundredth hO (kb_a hO cb_B1 ha)) (kb_a hO cb_B1 ha) rfl rfl (by decide) (by decide) dX7_place_56 rfl (Nat.le_of_ble_eq_true rfl) (fun r56 t56 h56 => ?_)
          obtain ⟨rfl, rfl⟩ := h56
          refine rx_top (show _ = ρ.1 4 (34 + a) / 10000 by rw [(pw1.1.2.2 a ha ha3 trivial).2.2.2.2.1]) ?_
          refine rx_istore (i := 4) (lo2 := [(0, .ref _), (1, .int _), (2, .int _), (3, .ref _), (4, .int _)]) X dX7_place_59 (by decide) rfl ?_
          refine rx_aload_n (i := 3) X dX7_place_61 rfl rfl ?_
          refine rx_iload_n (i := 2) X dX7_place_62 rfl rfl ?_
          refine rx_sipush (v := 10000) X dX7_place_63 (by decide) ?_
          refine rx_imul X dX7_place_66 ?_
          refine rx_putI (ci := 1) (i := 4) X (kb_a hO cb_B1 ha) rfl rfl (by decide) inX1 tyX1 tyX1_ok nmX1 flX7_189 rfl rfl dX7_place_67 ?_
          refine rx_iload (i := 4) X dX7_place_70 rfl ?_
          refine rx_iret X dX7_place_72 ?_
          intro r2 ρ2 hpq
          rw [sp_place, if_neg (by omega), hna, if_neg (fun q => (wB.2.2 a ha ha3 trivial).has.mpr q h38)] at hpq
          obtain ⟨rfl, rfl⟩ := Prod.mk.inj hpq
          clear hpq
          refine ⟨rfl, ?_⟩
          obtain ⟨m, rfl, hm1, hm2, hm3⟩ := i_nat (x := v) (by omega)
          rw [Int32.mul_comm, u4_eq n4]
          refine hc.now (fun k hk => rx_u_ne (by omega)) nth ⟨pw1.1.part ha, w_V_upd34 pw1.2.1 ha ?_, w_C_upd pw1.2.2 (by omega) (by omega)⟩
          rw [show (10000 : Int32) = nI 10000 from rfl, pk_mul, nI_toInt (by omega)]
          omega
        · refine rx_ldc X dX7_place_41 kcX7_148 ?_
          refine rx_iret X dX7_place_43 ?_
          intro r2 ρ2 hpq
          rw [sp_place, if_neg (by omega), hna, if_pos ((wB.2.2 a ha ha3 trivial).has.mp h38)] at hpq
          obtain ⟨rfl, rfl⟩ := Prod.mk.inj hpq
          clear hpq
          exact ⟨rfl, h⟩
      · try simp only [Int32.lt_iff_toInt_lt, Int32.le_iff_toInt_le, Int32.reduceToInt] at h18
        refine rx_ldc X dX7_place_21 kcX7_71 ?_
        refine rx_iret X dX7_place_23 ?_
        intro r2 ρ2 hq
        rw [sp_place, if_pos (by omega)] at hq
        obtain ⟨rfl, rfl⟩ := Prod.mk.inj hq
        exact ⟨rfl, h⟩
  · refine rx_if_eq_t X dX7_place_8 (by decide) ?_
    refine rx_ldc X dX7_place_21 kcX7_71 ?_
    refine rx_iret X dX7_place_23 ?_
    intro r2 ρ2 hq
    rw [sp_place, if_pos (by omega)] at hq
    obtain ⟨rfl, rfl⟩ := Prod.mk.inj hq
    exact ⟨rfl, h⟩
set_option maxHeartbeats 1000000 in
set_option maxRecDepth 100000 in
theorem kX7_step {l : Launch} {O : rx_O} (hO : cb_O O) {σ : rx_S} {ρ : rx_S} {x v : Int32} (h : cR σ ρ) : rx_MI l O yX7_step cX7_step 4 (some .int) 3 [.ref 0, .int x, .int v] σ (fun r τ => ∀ r2 ρ2, (sp_step ρ x v = (r2, ρ2)) → r = r2 ∧ cR τ ρ2) := by
  refine rx_Met_of (own := RX7) rfl hO.2.1 vsX7_step.2.2.2.2.2 (Nat.le_of_ble_eq_true rfl) rfl (fun p e s m args below meth c X => ?_)
  obtain ⟨⟨w1, wC, wB, wW⟩, ⟨s1, s2, s3⟩, hr, ht, hA, hI, hK⟩ := id h
  obtain ⟨od, kn, a1, a2, a3, a4, a5, a6, a7⟩ := id hA
  refine rx_aload_n (i := 0) X dX7_step_0 rfl rfl ?_
  refine rx_getR (ci := 7) (i := 0) X (kc_0 hO) rfl rfl (by decide) inX7 flX7_10 dX7_step_1 ?_
  refine rx_iload_n (i := 1) X dX7_step_4 rfl rfl ?_
  refine rx_callVi (ci := 3) X vsX3_hasAnt mlX7_173 (kX3_hasAnt hO cb_B1 wB.2.1.1.2.2.2) (kb_0 hO cb_B1) rfl rfl (by decide) (by decide) dX7_step_5 rfl (Nat.le_of_ble_eq_true rfl) (fun r5 t5 h5 => ?_)
  obtain ⟨rfl, ⟨rfl, h5⟩ | ⟨rfl, h5⟩⟩ := h5
  · obtain ⟨a, rfl, ha, ha3, hna, hth, hv⟩ := h.ant h5
    refine rx_if_eq_f X dX7_step_8 (by decide) ?_
    refine rx_iload_n (i := 2) X dX7_step_11 rfl rfl ?_
    refine rx_iconst (v := 1) X dX7_step_12 (by decide) ?_
    refine rx_icmp_lt X dX7_step_13 (fun h13 => ?_) (fun h13 => ?_)
    · try simp only [Int32.lt_iff_toInt_lt, Int32.le_iff_toInt_le, Int32.reduceToInt] at h13
      refine rx_ldc X dX7_step_22 kcX7_71 ?_
      refine rx_iret X dX7_step_24 ?_
      intro r2 ρ2 hq
      rw [sp_step, if_pos (by omega)] at hq
      obtain ⟨rfl, rfl⟩ := Prod.mk.inj hq
      exact ⟨rfl, h⟩
    · try simp only [Int32.lt_iff_toInt_lt, Int32.le_iff_toInt_le, Int32.reduceToInt] at h13
      refine rx_iload_n (i := 2) X dX7_step_16 rfl rfl ?_
      refine rx_bipush (v := 20) X dX7_step_17 (by decide) ?_
      refine rx_icmp_le X dX7_step_19 (fun h19 => ?_) (fun h19 => ?_)
      · try simp only [Int32.lt_iff_toInt_lt, Int32.le_iff_toInt_le, Int32.reduceToInt] at h19
        refine rx_aload_n (i := 0) X dX7_step_25 rfl rfl ?_
        refine rx_getR (ci := 7) (i := 3) X (kc_0 hO) rfl rfl (by decide) inX7 flX7_33 dX7_step_26 ?_
        refine rx_aload_n (i := 0) X dX7_step_29 rfl rfl ?_
        refine rx_getR (ci := 7) (i := 0) X (kc_0 hO) rfl rfl (by decide) inX7 flX7_10 dX7_step_30 ?_
        refine rx_callVv (ci := 0) X vsX0_keep mlX7_156 (kX0_keep hO a3 a4 a1 a2 wB.1) (kc_24 hO) rfl rfl (by decide) (by decide) dX7_step_33 rfl (Nat.le_of_ble_eq_true rfl) (fun t33 h33 => ?_)
        obtain ⟨k1, k2, k3, k4, k5⟩ := h33
        obtain ⟨hc, n4, nth, n6⟩ := h.note hth a1 a2 a5 a7 k1 k2 k3 k5
        have pw1 := hc.wall nth
        rw [n4] at pw1
        refine rx_aload_n (i := 0) X dX7_step_36 rfl rfl ?_
        refine rx_getR (ci := 7) (i := 0) X (kc_0 hO) rfl rfl (by decide) inX7 flX7_10 dX7_step_37 ?_
        refine rx_getR (ci := 3) (i := 5) X (kb_0 hO cb_B1) rfl rfl (by decide) inX3 flX7_176 dX7_step_40 ?_
        refine rx_iload_n (i := 1) X dX7_step_43 rfl rfl ?_
        refine rx_aaldN (j := a) X (kb_2 hO cb_B1) hO.2.2.2.2.2.1 rfl ha (by decide) (kb_el ha) dX7_step_44 ?_
        refine rx_getI (ci := 1) (i := 1) X (kb_a hO cb_B1 ha) rfl rfl (by decide) inX1 flX7_192 dX7_step_45 ?_
        refine rx_top (pw1.1.2.2 a ha ha3 trivial).2.1 ?_
        refine rx_istore_n (i := 3) (lo2 := [(0, .ref _), (1, .int _), (2, .int _), (3, .int _)]) X dX7_step_48 rfl (by decide) rfl ?_
        refine rx_aload_n (i := 0) X dX7_step_49 rfl rfl ?_
        refine rx_getR (ci := 7) (i := 0) X (kc_0 hO) rfl rfl (by decide) inX7 flX7_10 dX7_step_50 ?_
        refine rx_getR (ci := 3) (i := 5) X (kb_0 hO cb_B1) rfl rfl (by decide) inX3 flX7_176 dX7_step_53 ?_
        refine rx_iload_n (i := 1) X dX7_step_56 rfl rfl ?_
        refine rx_aaldN (j := a) X (kb_2 hO cb_B1) hO.2.2.2.2.2.1 rfl ha (by decide) (kb_el ha) dX7_step_57 ?_
        refine rx_iload_n (i := 2) X dX7_step_58 rfl rfl ?_
        refine rx_putI (ci := 1) (i := 1) X (kb_a hO cb_B1 ha) rfl rfl (by decide) inX1 tyX1 tyX1_ok nmX1 flX7_192 rfl rfl dX7_step_59 ?_
        refine rx_iload_n (i := 3) X dX7_step_62 rfl rfl ?_
        refine rx_iret X dX7_step_63 ?_
        intro r2 ρ2 hpq
        rw [sp_step, if_neg (by omega), hna] at hpq
        obtain ⟨rfl, rfl⟩ := Prod.mk.inj hpq
        clear hpq
        refine ⟨rfl, ?_⟩
        rw [u4_eq n4]
        exact hc.now (fun k hk => rx_u_ne (by omega)) nth ⟨pw1.1.step ha, w_V_upd16 pw1.2.1 ha (by omega), w_C_upd pw1.2.2 (by omega) (by omega)⟩
      · try simp only [Int32.lt_iff_toInt_lt, Int32.le_iff_toInt_le, Int32.reduceToInt] at h19
        refine rx_ldc X dX7_step_22 kcX7_71 ?_
        refine rx_iret X dX7_step_24 ?_
        intro r2 ρ2 hq
        rw [sp_step, if_pos (by omega)] at hq
        obtain ⟨rfl, rfl⟩ := Prod.mk.inj hq
        exact ⟨rfl, h⟩
  · refine rx_if_eq_t X dX7_step_8 (by decide) ?_
    refine rx_ldc X dX7_step_22 kcX7_71 ?_
    refine rx_iret X dX7_step_24 ?_
    intro r2 ρ2 hq
    rw [sp_step, if_pos (by omega)] at hq
    obtain ⟨rfl, rfl⟩ := Prod.mk.inj hq
    exact ⟨rfl, h⟩
set_option maxHeartbeats 1000000 in
set_option maxRecDepth 100000 in
theorem kX7_minutes {l : Launch} {O : rx_O} (hO : cb_O O) {σ : rx_S} {ρ : rx_S} {n : Int32} (h : cR σ ρ) : rx_MI l O yX7_minutes cX7_minutes 3 (some .int) 4 [.ref 0, .int n] σ (fun r τ => ∀ r2 ρ2, (sp_minutes ρ n = (r2, ρ2)) → r = r2 ∧ cR τ ρ2) := by
  refine rx_Met_of (own := RX7) rfl hO.2.1 vsX7_minutes.2.2.2.2.2 (Nat.le_of_ble_eq_true rfl) rfl (fun p e s m args below meth c X => ?_)
  obtain ⟨⟨w1, wC, wB, wW⟩, ⟨s1, s2, s3⟩, hr, ht, hA, hI, hK⟩ := id h
  refine rx_aload_n (i := 0) X dX7_minutes_0 rfl rfl ?_
  refine rx_getZ (ci := 7) (i := 8) X (kc_0 hO) rfl rfl (by decide) inX7 flX7_59 dX7_minutes_1 ?_
  refine rx_top w1 ?_
  refine rx_if_ne X dX7_minutes_4 (fun h4 => ?_) (fun h4 => ?_)
  · have hth := h.there h4
    obtain ⟨hth, hv⟩ := hth
    refine rx_iload_n (i := 1) X dX7_minutes_10 rfl rfl ?_
    refine rx_iconst (v := 1) X dX7_minutes_11 (by decide) ?_
    refine rx_icmp_lt X dX7_minutes_12 (fun h12 => ?_) (fun h12 => ?_)
    · try simp only [Int32.lt_iff_toInt_lt, Int32.le_iff_toInt_le, Int32.reduceToInt] at h12
      refine rx_ldc X dX7_minutes_21 kcX7_71 ?_
      refine rx_iret X dX7_minutes_23 ?_
      intro r2 ρ2 hpq
      rw [sp_minutes, if_neg h4, if_pos (by omega)] at hpq
      obtain ⟨rfl, rfl⟩ := Prod.mk.inj hpq
      clear hpq
      exact ⟨rfl, h⟩
    · try simp only [Int32.lt_iff_toInt_lt, Int32.le_iff_toInt_le, Int32.reduceToInt] at h12
      refine rx_iload_n (i := 1) X dX7_minutes_15 rfl rfl ?_
      refine rx_bipush (v := 24) X dX7_minutes_16 (by decide) ?_
      refine rx_icmp_le X dX7_minutes_18 (fun h18 => ?_) (fun h18 => ?_)
      · try simp only [Int32.lt_iff_toInt_lt, Int32.le_iff_toInt_le, Int32.reduceToInt] at h18
        refine rx_aload_n (i := 0) X dX7_minutes_24 rfl rfl ?_
        refine rx_getR (ci := 7) (i := 0) X (kc_0 hO) rfl rfl (by decide) inX7 flX7_10 dX7_minutes_25 ?_
        refine rx_getI (ci := 3) (i := 1) X (kb_0 hO cb_B1) rfl rfl (by decide) inX3 flX7_153 dX7_minutes_28 ?_
        refine rx_top wB.2.1.1.2.1 ?_
        refine rx_iload_n (i := 1) X dX7_minutes_31 rfl rfl ?_
        refine rx_iadd X dX7_minutes_32 ?_
        have hs : (ρ.1 4 1 + n).toInt = (ρ.1 4 1).toInt + n.toInt := by
          have h1 := hv.2.1
          rw [Int32.toInt_add, Int.bmod_eq_of_le] <;> omega
        refine rx_sipush (v := 999) X dX7_minutes_33 (by decide) ?_
        refine rx_icmp_le X dX7_minutes_36 (fun h36 => ?_) (fun h36 => ?_)
        · rw [Int32.le_iff_toInt_le, hs] at h36
          have e9 : (999 : Int32).toInt = 999 := rfl
          refine rx_iconst (v := 0) X dX7_minutes_42 (by decide) ?_
          refine rx_istore_n (i := 2) (lo2 := [(0, .ref _), (1, .int _), (2, .int _)]) X dX7_minutes_43 rfl (by decide) rfl ?_
          obtain ⟨mm, rfl, hm1, hm2, hm3⟩ := i_nat (x := n) (by omega)
          have hS : sp_minutes ρ (nI mm) = ((sp_mins mm ρ).1 4 0, sp_mins mm ρ) := by rw [sp_minutes, if_neg h4, if_neg (by omega), if_neg (by omega), hm3]
          have loop : ∀ (k : Nat) (i : Nat) (x : Int32) (τ ρ3 : rx_S), (i + k = mm) → (x = nI i) → (cR τ ρ3) → (ρ3.1 0 4 = 1) → ((ρ3.1 4 1).toInt + k ≤ 999) → (sp_mins mm ρ = sp_mins k ρ3) → rx_J O 3 p l e (rx_lv 4) s m args below meth c (rx_QI O below args s (fun r τ => ∀ r2 ρ2, (sp_minutes ρ (nI mm) = (r2, ρ2)) → r = r2 ∧ cR τ ρ2)) 44 [(0, .ref 0), (1, .int (nI mm)), (2, .int x)] [] τ := by
            intro k
            induction k with
            | zero =>
              intro i x τ ρ3 hi hx hc hth hmn he
              obtain rfl : i = mm := by omega
              subst hx
              refine rx_iload_n (i := 2) X dX7_minutes_44 rfl rfl ?_
              refine rx_iload_n (i := 1) X dX7_minutes_45 rfl rfl ?_
              refine rx_icmp_ge_t X dX7_minutes_46 (Int32.le_refl _) ?_
              refine rx_aload_n (i := 0) X dX7_minutes_74 rfl rfl ?_
              refine rx_getR (ci := 7) (i := 0) X (kc_0 hO) rfl rfl (by decide) inX7 flX7_10 dX7_minutes_75 ?_
              refine rx_getI (ci := 3) (i := 0) X (kb_0 hO cb_B1) rfl rfl (by decide) inX3 flX7_163 dX7_minutes_78 ?_
              refine rx_top hc.1.2.2.1.2.1.1.1 ?_
              refine rx_iret X dX7_minutes_81 ?_
              intro r2 ρ2 hq
              rw [hS, he] at hq
              obtain ⟨rfl, rfl⟩ := Prod.mk.inj hq
              exact ⟨rfl, hc⟩
            | succ k ih =>
              intro i x τ ρ3 hi hx hc hth hmn he
              subst hx
              refine rx_iload_n (i := 2) X dX7_minutes_44 rfl rfl ?_
              refine rx_iload_n (i := 1) X dX7_minutes_45 rfl rfl ?_
              refine rx_icmp_ge_f X dX7_minutes_46 (nI_ge (by omega) (by omega)) ?_
              refine rx_aload_n (i := 0) X dX7_minutes_49 rfl rfl ?_
              refine rx_getR (ci := 7) (i := 3) X (kc_0 hO) rfl rfl (by decide) inX7 flX7_33 dX7_minutes_50 ?_
              refine rx_aload_n (i := 0) X dX7_minutes_53 rfl rfl ?_
              refine rx_getR (ci := 7) (i := 0) X (kc_0 hO) rfl rfl (by decide) inX7 flX7_10 dX7_minutes_54 ?_
              obtain ⟨od, kn, a1, a2, a3, a4, a5, a6, a7⟩ := hc.2.2.2.2.1
              refine rx_callVv (ci := 0) X vsX0_keep mlX7_156 (kX0_keep hO a3 a4 a1 a2 hc.1.2.2.1.1) (kc_24 hO) rfl rfl (by decide) (by decide) dX7_minutes_57 rfl (Nat.le_of_ble_eq_true rfl) (fun t57 h57 => ?_)
              obtain ⟨k1, k2, k3, k4, k5⟩ := h57
              obtain ⟨hc2, n4, nth, n6⟩ := hc.note hth a1 a2 a5 a7 k1 k2 k3 k5
              have pw1 := hc2.wall nth
              rw [n4] at pw1
              refine rx_aload_n (i := 0) X dX7_minutes_60 rfl rfl ?_
              refine rx_getR (ci := 7) (i := 0) X (kc_0 hO) rfl rfl (by decide) inX7 flX7_10 dX7_minutes_61 ?_
              refine rx_iconst (v := -1) X dX7_minutes_64 (by decide) ?_
              refine rx_callVv (ci := 3) X vsX3_passMinute mlX7_159 (kX3_passMinute hO cb_B1 pw1.1 pw1.2.1 pw1.2.2.1) (kb_0 hO cb_B1) rfl rfl (by decide) (by decide) dX7_minutes_65 rfl (Nat.le_of_ble_eq_true rfl) (fun t65 h65 => ?_)
              obtain ⟨h65f, h65⟩ := h65
              refine rx_iinc (i := 2) (lo2 := [(0, .ref _), (1, .int _), (2, .int _)]) X dX7_minutes_68 rfl (rx_inc1 _) (by decide) rfl ?_
              refine rx_goto X dX7_minutes_71 ?_
              have hm1 : (ρ3.1 4 1).toInt + 1 ≤ 999 := by omega
              have h6 : ρ3.1 0 6 = -1 := hc.2.1.2.1
              have hcn := hc2.now (w := w_one (-1) (ρ3.1 4)) (fun k hk => h65f.2 k (by omega)) nth ⟨h65, w_V_999 pw1.2.1 hm1, w_C_one pw1.2.2 pw1.2.1⟩
              refine ih (i + 1) _ _ _ (by omega) (nI_1 i) hcn (by rw [rx_ua_ne (by decide)]; exact nth) ?_ ?_
              · rw [rx_ua_s]
                have e1 : w_one (-1) (ρ3.1 4) 1 = ρ3.1 4 1 + 1 := by
                  rw [w_one_st]
                  show w_all (-1) _ (ρ3.1 4) 1 + 1 = _
                  rw [w_all_n (by omega) (fun a _ => by omega)]
                have h1 := pw1.2.1.2.1
                have e2 : (1 : Int32).toInt = 1 := rfl
                rw [e1, Int32.toInt_add, Int.bmod_eq_of_le] <;> omega
              · rw [he, sp_mins, h6]
          exact loop mm 0 _ σ ρ (by omega) rfl h hth (by omega) rfl
        · rw [Int32.le_iff_toInt_le, hs] at h36
          have e9 : (999 : Int32).toInt = 999 := rfl
          refine rx_ldc X dX7_minutes_39 kcX7_117 ?_
          refine rx_iret X dX7_minutes_41 ?_
          intro r2 ρ2 hpq
          rw [sp_minutes, if_neg h4, if_neg (by omega), if_pos (by omega)] at hpq
          obtain ⟨rfl, rfl⟩ := Prod.mk.inj hpq
          clear hpq
          exact ⟨rfl, h⟩
      · try simp only [Int32.lt_iff_toInt_lt, Int32.le_iff_toInt_le, Int32.reduceToInt] at h18
        refine rx_ldc X dX7_minutes_21 kcX7_71 ?_
        refine rx_iret X dX7_minutes_23 ?_
        intro r2 ρ2 hpq
        rw [sp_minutes, if_neg h4, if_pos (by omega)] at hpq
        obtain ⟨rfl, rfl⟩ := Prod.mk.inj hpq
        clear hpq
        exact ⟨rfl, h⟩
  · refine rx_ldc X dX7_minutes_7 kcX7_148 ?_
    refine rx_iret X dX7_minutes_9 ?_
    intro r2 ρ2 hpq
    rw [sp_minutes, if_pos h4] at hpq
    obtain ⟨rfl, rfl⟩ := Prod.mk.inj hpq
    clear hpq
    exact ⟨rfl, h⟩
theorem cR.back {σ τ ρ ρ2 : rx_S} {od kn : Nat} {w : Nat → Int32} (h : cR σ ρ) (hth : ρ.1 0 4 = 1) (h1 : od < 24) (h2 : kn ≤ 24) (h7 : ∀ j, j < kn → pw σ (26 + 9 * ((od + j) % 24)) (fun i => ρ.1 8 (40 * j + i))) (hw : pw τ 1 w)
    (c1 : τ.1 24 1 = nI od) (c2 : τ.1 24 2 = nI kn) (c : ∀ k, k ≠ 24 → (k = 0 ∨ 9 < k) → τ.1 k = σ.1 k) (m4 : ∀ i, i < 40 → ρ2.1 4 i = w i) (m : ∀ k, k ≠ 0 → k ≠ 4 → ρ2.1 k = ρ.1 k) (m0 : ∀ j, j ≠ 18 → ρ2.1 0 j = ρ.1 0 j) (m18 : ρ2.1 0 18 = nI kn) : cR τ ρ2 := by
  have hw2 := hw.ext (u := ρ2.1 4) (fun i hi => (m4 i hi).symm)
  refine ⟨⟨?_, hw2.2.2, hw2.1, Or.inl ⟨(m0 4 (by omega)).trans hth, hw2.2.1⟩⟩, h.2.1.mv (by rw [c 0 (by omega) (by omega)]) (fun a ha => by rw [c _ (by omega) (by omega)]; exact h.2.1.2.2 a ha) (m0 3 (by omega)) (m0 6 (by omega)), h.2.2.1.mv (fun k _ _ => c k (by omega) (by omega)) (m 1 (by omega) (by omega)) (m 2 (by omega) (by omega)) (m 3 (by omega) (by omega)), h.2.2.2.1.mv (by rw [c 22 (by omega) (by omega)]) (by rw [c 22 (by omega) (by omega)]) (c 23 (by omega) (by omega)) (m 6 (by omega) (by omega)) (m0 9 (by omega)) (m0 10 (by omega)), ⟨od, kn, h1, h2, c1, c2, m18, fun _ => (m0 4 (by omega)).trans hth, fun j hj => ?_⟩, h.2.2.2.2.2.1.mv (fun k _ _ => c k (by omega) (by omega)) (m 12 (by omega) (by omega)) (m 13 (by omega) (by omega)) (fun q => (m0 4 (by omega)).trans q), h.2.2.2.2.2.2.mv (by rw [c 255 (by omega) (by omega)]) (c 256 (by omega) (by omega)) (m0 25 (by omega)) (m 14 (by omega) (by omega))⟩
  · rw [c 0 (by omega) (by omega), m0 4 (by omega)]; exact h.1.1
  · rw [m 8 (by omega) (by omega)]
    have hm := Nat.mod_lt (od + j) (show 0 < 24 by decide)
    exact (h7 j hj).out (fun k a b => c k (by omega) (by omega))
set_option maxHeartbeats 1000000 in
set_option maxRecDepth 100000 in
theorem kX7_undo {l : Launch} {O : rx_O} (hO : cb_O O) {σ : rx_S} {ρ : rx_S} (h : cR σ ρ) : rx_MI l O yX7_undo cX7_undo 1 (some .int) 3 [.ref 0] σ (fun r τ => ∀ r2 ρ2, (sp_undo ρ = (r2, ρ2)) → r = r2 ∧ cR τ ρ2) := by
  refine rx_Met_of (own := RX7) rfl hO.2.1 vsX7_undo.2.2.2.2.2 (Nat.le_of_ble_eq_true rfl) rfl (fun p e s m args below meth c X => ?_)
  obtain ⟨⟨w1, wC, wB, wW⟩, ⟨s1, s2, s3⟩, hr, ht, hA, hI, hK⟩ := id h
  obtain ⟨od, kn, a1, a2, a3, a4, a5, a6, a7⟩ := id hA
  refine rx_aload_n (i := 0) X dX7_undo_0 rfl rfl ?_
  refine rx_getR (ci := 7) (i := 3) X (kc_0 hO) rfl rfl (by decide) inX7 flX7_33 dX7_undo_1 ?_
  refine rx_getI (ci := 0) (i := 2) X (kc_24 hO) rfl rfl (by decide) inX0 flX7_145 dX7_undo_4 ?_
  refine rx_top a4 ?_
  refine rx_if_ne X dX7_undo_7 (fun h7 => ?_) (fun h7 => ?_)
  · have hkn : ¬ kn = 0 := fun z => h7 (by rw [z]; rfl)
    obtain ⟨kn, rfl⟩ : ∃ q, kn = q + 1 := ⟨kn - 1, by omega⟩
    have hpw := a7 kn (by omega)
    refine rx_aload_n (i := 0) X dX7_undo_13 rfl rfl ?_
    refine rx_getR (ci := 7) (i := 3) X (kc_0 hO) rfl rfl (by decide) inX7 flX7_33 dX7_undo_14 ?_
    refine rx_aload_n (i := 0) X dX7_undo_17 rfl rfl ?_
    refine rx_getR (ci := 7) (i := 0) X (kc_0 hO) rfl rfl (by decide) inX7 flX7_10 dX7_undo_18 ?_
    refine rx_callVi (ci := 0) X vsX0_takeBack mlX7_149 (kX0_takeBack hO a3 a4 a1 (by omega) hpw.1.1) (kc_24 hO) rfl rfl (by decide) (by decide) dX7_undo_21 rfl (Nat.le_of_ble_eq_true rfl) (fun r21 t21 h21 => ?_)
    obtain ⟨rfl, g1, g2, g3, g4, g5⟩ := h21
    refine rx_iret X dX7_undo_24 ?_
    intro r2 ρ2 hpq
    rw [sp_undo, if_neg (by rw [a5]; exact h7), a5, rx_Nn (j := kn + 1) (by omega), Nat.add_sub_cancel] at hpq
    obtain ⟨rfl, rfl⟩ := Prod.mk.inj hpq
    clear hpq
    refine ⟨rfl, h.back (a6 (by omega)) a1 (by omega) (fun j hj => a7 j (by omega)) (hpw.cp g5) g1 g2 (fun k a b => g3 k a (by omega)) (fun i hi => ?_) (fun k a b => by rw [rx_u_ne a, rx_ua_ne b]) (fun j hj => by rw [rx_u_s, upd_n hj, rx_ua_ne (by decide)]) (by rw [rx_u_s, upd_s])⟩
    rw [rx_u_ne (by decide), rx_ua_s]
    exact cpn_lt hi
  · refine rx_ldc X dX7_undo_10 kcX7_148 ?_
    refine rx_iret X dX7_undo_12 ?_
    intro r2 ρ2 hpq
    rw [sp_undo, if_pos (by rw [a5]; exact h7)] at hpq
    obtain ⟨rfl, rfl⟩ := Prod.mk.inj hpq
    clear hpq
    exact ⟨rfl, h⟩
set_option maxHeartbeats 1000000 in
set_option maxRecDepth 100000 in
theorem kX7_image {l : Launch} {O : rx_O} (hO : cb_O O) {σ : rx_S} {ρ : rx_S} {k : Int32} (h : cR σ ρ) : rx_MI l O yX7_image cX7_image 2 (some .int) 2 [.ref 0, .int k] σ (fun r τ => ∀ r2 ρ2, (sp_image ρ k = (r2, ρ2)) → r = r2 ∧ cR τ ρ2) := by
  refine rx_Met_of (own := RX7) rfl hO.2.1 vsX7_image.2.2.2.2.2 (Nat.le_of_ble_eq_true rfl) rfl (fun p e s m args below meth c X => ?_)
  obtain ⟨⟨w1, wC, wB, wW⟩, ⟨s1, s2, s3⟩, hr, ht, hA, hI, hK⟩ := id h
  refine rx_iload_n (i := 1) X dX7_image_0 rfl rfl ?_
  refine rx_if_lt X dX7_image_1 (fun h1 => ?_) (fun h1 => ?_)
  · try simp only [Int32.lt_iff_toInt_lt, Int32.le_iff_toInt_le, Int32.reduceToInt] at h1
    refine rx_ldc X dX7_image_9 kcX7_71 ?_
    refine rx_iret X dX7_image_11 ?_
    intro r2 ρ2 hq
    rw [sp_image, if_pos (by omega)] at hq
    obtain ⟨rfl, rfl⟩ := Prod.mk.inj hq
    exact ⟨rfl, h⟩
  · try simp only [Int32.lt_iff_toInt_lt, Int32.le_iff_toInt_le, Int32.reduceToInt] at h1
    refine rx_iload_n (i := 1) X dX7_image_4 rfl rfl ?_
    refine rx_iconst (v := 2) X dX7_image_5 (by decide) ?_
    refine rx_icmp_lt X dX7_image_6 (fun h6 => ?_) (fun h6 => ?_)
    · try simp only [Int32.lt_iff_toInt_lt, Int32.le_iff_toInt_le, Int32.reduceToInt] at h6
      refine rx_aload_n (i := 0) X dX7_image_12 rfl rfl ?_
      refine rx_getZ (ci := 7) (i := 8) X (kc_0 hO) rfl rfl (by decide) inX7 flX7_59 dX7_image_13 ?_
      refine rx_top w1 ?_
      refine rx_if_ne X dX7_image_16 (fun h16 => ?_) (fun h16 => ?_)
      · obtain ⟨hth, hv⟩ := h.there h16
        obtain ⟨m, rfl, hm1, hm2, hm3⟩ := i_nat (x := k) (by omega)
        refine rx_aload_n (i := 0) X dX7_image_22 rfl rfl ?_
        refine rx_getR (ci := 7) (i := 6) X (kc_0 hO) rfl rfl (by decide) inX7 flX7_51 dX7_image_23 ?_
        refine rx_iload_n (i := 1) X dX7_image_26 rfl rfl ?_
        refine rx_aaldN (j := m) X (kc_257 hO) hO.2.2.2.2.1 rfl (by omega) (by decide) (kc_iel (by omega)) dX7_image_27 ?_
        refine rx_aload_n (i := 0) X dX7_image_28 rfl rfl ?_
        refine rx_getR (ci := 7) (i := 0) X (kc_0 hO) rfl rfl (by decide) inX7 flX7_10 dX7_image_29 ?_
        refine rx_callVv (ci := 3) X vsX3_takeFrom mlX7_132 (kX3_takeFrom hO (cb_Bi (show m < 2 by omega)) cb_B1 (by omega) wB.1) (kb_0 hO (cb_Bi (by omega))) rfl rfl (by decide) (by decide) dX7_image_32 rfl (Nat.le_of_ble_eq_true rfl) (fun t32 h32 => ?_)
        obtain ⟨h32f, h32c⟩ := h32
        refine rx_aload_n (i := 0) X dX7_image_35 rfl rfl ?_
        refine rx_getR (ci := 7) (i := 7) X (kc_0 hO) rfl rfl (by decide) inX7 flX7_55 dX7_image_36 ?_
        refine rx_iload_n (i := 1) X dX7_image_39 rfl rfl ?_
        refine rx_iconst (v := 1) X dX7_image_40 (by decide) ?_
        refine rx_zastN (j := m) X (kc_276 hO) hO.2.2.2.1 rfl (by omega) (by decide) rfl dX7_image_41 ?_
        refine rx_iconst (v := 1) X dX7_image_42 (by decide) ?_
        refine rx_iret X dX7_image_43 ?_
        intro r2 ρ2 hpq
        rw [sp_image, if_neg (by omega), if_neg h16, hm3] at hpq
        obtain ⟨rfl, rfl⟩ := Prod.mk.inj hpq
        clear hpq
        refine ⟨rfl, ?_⟩
        have hpw := h.wall hth
        have c : ∀ k, (k < 258 + 9 * m ∨ 258 + 9 * m + 8 < k) → k ≠ 276 → (rx_u t32 276 m 1).1 k = σ.1 k := fun k a b => by rw [rx_u_ne b]; exact h32f.2 k a
        have m' : ∀ k, k ≠ 12 → k ≠ 13 → (rx_u (rx_ua ρ 13 (ac_put m 40 (ρ.1 4) (ρ.1 13))) 12 m 1).1 k = ρ.1 k := fun k a b => by rw [rx_u_ne a, rx_ua_ne b]
        have m0 : ∀ j, (rx_u (rx_ua ρ 13 (ac_put m 40 (ρ.1 4) (ρ.1 13))) 12 m 1).1 0 j = ρ.1 0 j := fun j => by rw [m' 0 (by omega) (by omega)]
        refine ⟨h.1.mv (fun k _ _ => c k (by omega) (by omega)) (by rw [c 0 (by omega) (by omega)]) (m' 4 (by omega) (by omega)) (m0 4), h.2.1.mv (by rw [c 0 (by omega) (by omega)]) (fun a ha => by rw [c _ (by omega) (by omega)]; exact s3 a ha) (m0 3) (m0 6), hr.mv (fun k _ _ => c k (by omega) (by omega)) (m' 1 (by omega) (by omega)) (m' 2 (by omega) (by omega)) (m' 3 (by omega) (by omega)), ht.mv (by rw [c 22 (by omega) (by omega)]) (by rw [c 22 (by omega) (by omega)]) (c 23 (by omega) (by omega)) (m' 6 (by omega) (by omega)) (m0 9) (m0 10), hA.mv (fun k _ _ => c k (by omega) (by omega)) (m' 8 (by omega) (by omega)) (m0 18) (m0 4), fun q hq => ?_, hK.mv (by rw [c 255 (by omega) (by omega)]) (c 256 (by omega) (by omega)) (m0 25) (m' 14 (by omega) (by omega))⟩
        have e13 : (rx_u (rx_ua ρ 13 (ac_put m 40 (ρ.1 4) (ρ.1 13))) 12 m 1).1 13 = ac_put m 40 (ρ.1 4) (ρ.1 13) := by rw [rx_u_ne (by decide), rx_ua_s]
        rw [rx_u_s, m0 4, e13, h32f.2 276 (by omega)]
        have e12 : (rx_u (rx_ua ρ 13 (ac_put m 40 (ρ.1 4) (ρ.1 13))) 12 m 1).1 12 = upd (ρ.1 12) m 1 := by rw [rx_u_s, rx_ua_ne (by decide)]
        rw [e12]
        obtain ⟨i1, i2⟩ := hI q hq
        by_cases e : q = m
        · subst e
          rw [upd_s, upd_s]
          refine ⟨rfl, Or.inr ⟨rfl, hth, ((hpw.cp h32c).out (fun k a b => rx_u_ne (by omega))).ext (fun i hi => ?_)⟩⟩
          show _ = (if 40 * q ≤ 40 * q + i ∧ 40 * q + i < 40 * q + 40 then ρ.1 4 (40 * q + i - 40 * q) else _)
          rw [if_pos (by omega), Nat.add_sub_cancel_left]
        · rw [upd_n e, upd_n e]
          refine ⟨i1, i2.elim Or.inl (fun z => Or.inr ⟨z.1, z.2.1, (z.2.2.out (fun k a b => c k (by omega) (by omega))).ext (fun i hi => ?_)⟩)⟩
          show _ = (if 40 * m ≤ 40 * q + i ∧ 40 * q + i < 40 * m + 40 then _ else _)
          rw [if_neg (by omega)]
      · refine rx_ldc X dX7_image_19 kcX7_148 ?_
        refine rx_iret X dX7_image_21 ?_
        intro r2 ρ2 hpq
        rw [sp_image, if_neg (by omega), if_pos h16] at hpq
        obtain ⟨rfl, rfl⟩ := Prod.mk.inj hpq
        clear hpq
        exact ⟨rfl, h⟩
    · try simp only [Int32.lt_iff_toInt_lt, Int32.le_iff_toInt_le, Int32.reduceToInt] at h6
      refine rx_ldc X dX7_image_9 kcX7_71 ?_
      refine rx_iret X dX7_image_11 ?_
      intro r2 ρ2 hq
      rw [sp_image, if_pos (by omega)] at hq
      obtain ⟨rfl, rfl⟩ := Prod.mk.inj hq
      exact ⟨rfl, h⟩
set_option maxHeartbeats 1000000 in
set_option maxRecDepth 100000 in
theorem kX7_restore {l : Launch} {O : rx_O} (hO : cb_O O) {σ : rx_S} {ρ : rx_S} {k : Int32} (h : cR σ ρ) : rx_MI l O yX7_restore cX7_restore 2 (some .int) 2 [.ref 0, .int k] σ (fun r τ => ∀ r2 ρ2, (sp_restore ρ k = (r2, ρ2)) → r = r2 ∧ cR τ ρ2) := by
  refine rx_Met_of (own := RX7) rfl hO.2.1 vsX7_restore.2.2.2.2.2 (Nat.le_of_ble_eq_true rfl) rfl (fun p e s m args below meth c X => ?_)
  obtain ⟨⟨w1, wC, wB, wW⟩, ⟨s1, s2, s3⟩, hr, ht, hA, hI, hK⟩ := id h
  obtain ⟨od, kn, a1, a2, a3, a4, a5, a6, a7⟩ := id hA
  refine rx_iload_n (i := 1) X dX7_restore_0 rfl rfl ?_
  refine rx_if_lt X dX7_restore_1 (fun h1 => ?_) (fun h1 => ?_)
  · try simp only [Int32.lt_iff_toInt_lt, Int32.le_iff_toInt_le, Int32.reduceToInt] at h1
    refine rx_ldc X dX7_restore_9 kcX7_71 ?_
    refine rx_iret X dX7_restore_11 ?_
    intro r2 ρ2 hq
    rw [sp_restore, if_pos (by omega)] at hq
    obtain ⟨rfl, rfl⟩ := Prod.mk.inj hq
    exact ⟨rfl, h⟩
  · try simp only [Int32.lt_iff_toInt_lt, Int32.le_iff_toInt_le, Int32.reduceToInt] at h1
    refine rx_iload_n (i := 1) X dX7_restore_4 rfl rfl ?_
    refine rx_iconst (v := 2) X dX7_restore_5 (by decide) ?_
    refine rx_icmp_lt X dX7_restore_6 (fun h6 => ?_) (fun h6 => ?_)
    · try simp only [Int32.lt_iff_toInt_lt, Int32.le_iff_toInt_le, Int32.reduceToInt] at h6
      obtain ⟨m, rfl, hm1, hm2, hm3⟩ := i_nat (x := k) (by omega)
      obtain ⟨i1, i2⟩ := hI m (by omega)
      refine rx_aload_n (i := 0) X dX7_restore_12 rfl rfl ?_
      refine rx_getR (ci := 7) (i := 7) X (kc_0 hO) rfl rfl (by decide) inX7 flX7_55 dX7_restore_13 ?_
      refine rx_iload_n (i := 1) X dX7_restore_16 rfl rfl ?_
      refine rx_zaldN (j := m) X (kc_276 hO) hO.2.2.2.1 rfl (by omega) (by decide) dX7_restore_17 ?_
      refine rx_top i1 ?_
      refine rx_if_ne X dX7_restore_18 (fun h18 => ?_) (fun h18 => ?_)
      · obtain ⟨i3, i4, i5⟩ := i2.resolve_left h18
        refine rx_aload_n (i := 0) X dX7_restore_24 rfl rfl ?_
        refine rx_getR (ci := 7) (i := 0) X (kc_0 hO) rfl rfl (by decide) inX7 flX7_10 dX7_restore_25 ?_
        refine rx_aload_n (i := 0) X dX7_restore_28 rfl rfl ?_
        refine rx_getR (ci := 7) (i := 6) X (kc_0 hO) rfl rfl (by decide) inX7 flX7_51 dX7_restore_29 ?_
        refine rx_iload_n (i := 1) X dX7_restore_32 rfl rfl ?_
        refine rx_aaldN (j := m) X (kc_257 hO) hO.2.2.2.2.1 rfl (by omega) (by decide) (kc_iel (by omega)) dX7_restore_33 ?_
        refine rx_callVv (ci := 3) X vsX3_takeFrom mlX7_132 (kX3_takeFrom hO cb_B1 (cb_Bi (show m < 2 by omega)) (by omega) i5.1.1) (kb_0 hO cb_B1) rfl rfl (by decide) (by decide) dX7_restore_34 rfl (Nat.le_of_ble_eq_true rfl) (fun t34 h34 => ?_)
        obtain ⟨h34f, h34c⟩ := h34
        refine rx_aload_n (i := 0) X dX7_restore_37 rfl rfl ?_
        refine rx_getR (ci := 7) (i := 3) X (kc_0 hO) rfl rfl (by decide) inX7 flX7_33 dX7_restore_38 ?_
        refine rx_callVv (ci := 0) X vsX0_forget mlX7_136 (kX0_forget hO) (kc_24 hO) rfl rfl (by decide) (by decide) dX7_restore_41 rfl (Nat.le_of_ble_eq_true rfl) (fun t41 h41 => ?_)
        subst h41
        refine rx_iconst (v := 1) X dX7_restore_44 (by decide) ?_
        refine rx_iret X dX7_restore_45 ?_
        intro r2 ρ2 hpq
        rw [sp_restore, if_neg (by omega), hm3, if_neg h18] at hpq
        obtain ⟨rfl, rfl⟩ := Prod.mk.inj hpq
        clear hpq
        refine ⟨rfl, h.back i4 a1 (Nat.zero_le 24) (fun j hj => absurd hj (by omega)) ((i5.cp h34c).out (fun k a b => rx_u_ne (by omega))) ?_ ?_ (fun k a b => by rw [rx_u_ne a, h34f.2 k (by omega)]) (fun i hi => ?_) (fun k a b => by rw [rx_u_ne a, rx_ua_ne b]) (fun j hj => by rw [rx_u_s, upd_n hj, rx_ua_ne (by decide)]) (by rw [rx_u_s, upd_s]; rfl)⟩
        · rw [rx_u_s, upd_n (by decide), h34f.2 24 (by omega)]; exact a3
        · rw [rx_u_s, upd_s]; rfl
        · rw [rx_u_ne (by decide), rx_ua_s]
          exact cpn_lt hi
      · refine rx_ldc X dX7_restore_21 kcX7_148 ?_
        refine rx_iret X dX7_restore_23 ?_
        intro r2 ρ2 hpq
        rw [sp_restore, if_neg (by omega), hm3, if_pos h18] at hpq
        obtain ⟨rfl, rfl⟩ := Prod.mk.inj hpq
        clear hpq
        exact ⟨rfl, h⟩
    · try simp only [Int32.lt_iff_toInt_lt, Int32.le_iff_toInt_le, Int32.reduceToInt] at h6
      refine rx_ldc X dX7_restore_9 kcX7_71 ?_
      refine rx_iret X dX7_restore_11 ?_
      intro r2 ρ2 hq
      rw [sp_restore, if_pos (by omega)] at hq
      obtain ⟨rfl, rfl⟩ := Prod.mk.inj hq
      exact ⟨rfl, h⟩
set_option maxHeartbeats 1000000 in
set_option maxRecDepth 100000 in
theorem kX7_wall {l : Launch} {O : rx_O} (hO : cb_O O) {σ : rx_S} {ρ : rx_S} (h : cR σ ρ) : rx_MI l O yX7_wall cX7_wall 3 (some .int) 5 [.ref 0] σ (fun r τ => ∀ r2 ρ2, (∃ N, ρ.1 0 9 = nI N ∧ N ≤ 120 ∧ sp_wallQ ρ N r2 ρ2) → r = r2 ∧ cR τ ρ2) := by
  refine rx_Met_of (own := RX7) rfl hO.2.1 vsX7_wall.2.2.2.2.2 (Nat.le_of_ble_eq_true rfl) rfl (fun p e s m args below meth c X => ?_)
  obtain ⟨⟨w1, wC, wB, wW⟩, ⟨s1, s2, s3⟩, hr, ht, hA, hI, hK⟩ := id h
  obtain ⟨N, t1, t2, t3, t4, t5⟩ := ht
  obtain ⟨od, kn, a1, a2, a3, a4, a5, a6, a7⟩ := id hA
  refine rx_aload_n (i := 0) X dX7_wall_0 rfl rfl ?_
  refine rx_getR (ci := 7) (i := 4) X (kc_0 hO) rfl rfl (by decide) inX7 flX7_40 dX7_wall_1 ?_
  refine rx_getR (ci := 4) (i := 0) X (kc_242 hO) rfl rfl (by decide) inX4 flX7_121 dX7_wall_4 ?_
  refine rx_astore_n (i := 1) (lo2 := [(0, .ref _), (1, .ref _)]) X dX7_wall_7 rfl (by decide) rfl ?_
  refine rx_aload_n (i := 0) X dX7_wall_8 rfl rfl ?_
  refine rx_getR (ci := 7) (i := 2) X (kc_0 hO) rfl rfl (by decide) inX7 flX7_26 dX7_wall_9 ?_
  refine rx_aload_n (i := 1) X dX7_wall_12 rfl rfl ?_
  refine rx_callVi (ci := 6) X vsX6_readWall mlX7_124 (kX6_readWall hO (rd := ρ.1 7) t4 t2 t1 s3) (kc_22 hO) rfl rfl (by decide) (by decide) dX7_wall_13 rfl (Nat.le_of_ble_eq_true rfl) (fun r13 t13 h13 => ?_)
  obtain ⟨hz, ⟨rfl, q, rd2, e2, hI2, h32, hl2, hR2⟩ | ⟨rfl, f, q, rd2, e2, hf, h2f, h2q, h2b⟩⟩ := h13
  · refine rx_istore_n (i := 2) (lo2 := [(0, .ref _), (1, .ref _), (2, .int _)]) X dX7_wall_16 rfl (by decide) rfl ?_
    refine rx_aload_n (i := 0) X dX7_wall_17 rfl rfl ?_
    refine rx_getR (ci := 7) (i := 2) X (kc_0 hO) rfl rfl (by decide) inX7 flX7_26 dX7_wall_18 ?_
    refine rx_iconst (v := 0) X dX7_wall_21 (by decide) ?_
    refine rx_putI (ci := 6) (i := 1) X (kc_22 hO) rfl rfl (by decide) inX6 tyX6 tyX6_ok nmX6 flX7_114 rfl rfl dX7_wall_22 ?_
    refine rx_iload_n (i := 2) X dX7_wall_25 rfl rfl ?_
    refine rx_if_ne_t X dX7_wall_26 (by decide) ?_
    refine rx_aload_n (i := 0) X dX7_wall_40 rfl rfl ?_
    refine rx_getR (ci := 7) (i := 0) X (kc_0 hO) rfl rfl (by decide) inX7 flX7_10 dX7_wall_41 ?_
    refine rx_aload_n (i := 1) X dX7_wall_44 rfl rfl ?_
    refine rx_callVv (ci := 3) X vsX3_takeFrom mlX7_132 (kX3_takeFrom hO cb_B1 cb_B243 (by omega) (fun a ha => by rw [rx_u_ne (by omega)]; exact hR2.1 a ha)) (kb_0 hO cb_B1) rfl rfl (by decide) (by decide) dX7_wall_45 rfl (Nat.le_of_ble_eq_true rfl) (fun t45 h45 => ?_)
    obtain ⟨h45f, h45c⟩ := h45
    refine rx_aload_n (i := 0) X dX7_wall_48 rfl rfl ?_
    refine rx_iconst (v := 1) X dX7_wall_49 (by decide) ?_
    refine rx_putZ (ci := 7) (i := 8) X (kc_0 hO) rfl rfl (by decide) inX7 tyX7 tyX7_ok nmX7 flX7_59 rfl rfl rfl rfl dX7_wall_50 ?_
    refine rx_aload_n (i := 0) X dX7_wall_53 rfl rfl ?_
    refine rx_getR (ci := 7) (i := 3) X (kc_0 hO) rfl rfl (by decide) inX7 flX7_33 dX7_wall_54 ?_
    refine rx_callVv (ci := 0) X vsX0_forget mlX7_136 (kX0_forget hO) (kc_24 hO) rfl rfl (by decide) (by decide) dX7_wall_57 rfl (Nat.le_of_ble_eq_true rfl) (fun t57 h57 => ?_)
    subst h57
    refine rx_aload_n (i := 0) X dX7_wall_60 rfl rfl ?_
    refine rx_getR (ci := 7) (i := 0) X (kc_0 hO) rfl rfl (by decide) inX7 flX7_10 dX7_wall_61 ?_
    refine rx_getI (ci := 3) (i := 3) X (kb_0 hO cb_B1) rfl rfl (by decide) inX3 flX7_139 dX7_wall_64 ?_
    refine rx_top (show _ = rd2 3 by rw [rx_u_ne (by decide), rx_u_ne (by decide), h45c.1 3 (by decide), rx_u_ne (by decide)]; exact hR2.2.1.1.2.2.2) ?_
    refine rx_iret X dX7_wall_67 ?_
    rintro r2 ρ2 ⟨N2, hN1, hN2, hq⟩
    obtain rfl : N = N2 := nI_inj (by omega) (by omega) (t3.symm.trans hN1)
    obtain ⟨-, q2, q3, q4, q5, q6, q7, q8⟩ := Or.resolve_right hq (fun z => z.1 (by rw [e2]))
    rw [e2] at q2 q3
    refine ⟨q2.symm, ?_⟩
    have c : ∀ k, k ≠ 0 → k ≠ 22 → k ≠ 24 → (k < 1 ∨ 9 < k) → (k < 243 ∨ 251 < k) → (rx_u (rx_u t45 0 8 1) 24 2 0).1 k = σ.1 k := fun k a b d e g => by rw [rx_u_ne d, rx_u_ne a, h45f.2 k (by omega), rx_u_ne b]; exact hz.1 k b g
    have c0 : ∀ j, j ≠ 8 → (rx_u (rx_u t45 0 8 1) 24 2 0).1 0 j = σ.1 0 j := fun j hj => by rw [rx_u_ne (by decide), rx_u_s, upd_n hj, h45f.2 0 (by omega), rx_u_ne (by decide)]; exact congrFun (hz.1 0 (by omega) (by omega)) j
    have c22 : ∀ j, j ≠ 1 → (rx_u (rx_u t45 0 8 1) 24 2 0).1 22 j = t13.1 22 j := fun j hj => by rw [rx_u_ne (by decide), rx_u_ne (by decide), h45f.2 22 (by omega), rx_u_s, upd_n hj]
    have m0 : ∀ j, (j = 3 ∨ j = 6 ∨ j = 10 ∨ j = 25) → ρ2.1 0 j = ρ.1 0 j := fun j hj => q8 j (by omega) (by omega) (by omega) (by omega) (by omega) (by omega) (by omega) (by omega)
    have hR1 : cb_R cb_T (rx_u (rx_u t45 0 8 1) 24 2 0) 1 rd2 := (h45c.R (hR2.out (fun k _ _ => rx_u_ne (by omega)))).out (fun k a b => by rw [rx_u_ne (by omega), rx_u_ne (by omega)])
    have hV1 : w_V 999 rd2 := w_V_mono (Nat.zero_le 999) (pz_I_V hI2 h32)
    have hC1 : w_C rd2 := by
      have e4 := hI2.2.2.2.2.1
      refine ⟨by unfold w_B; rw [e4]; decide, fun a _ h6 => ?_⟩
      rw [e4]
      exact zero_no a h6
    have hpw := pw.ext (u := ρ2.1 4) ⟨hR1, hV1, hC1⟩ (fun i hi => by rw [q3]; exact (cpn_lt hi).symm)
    refine ⟨⟨?_, hpw.2.2, hpw.1, Or.inl ⟨q6, hpw.2.1⟩⟩, h.2.1.mv (c0 9 (by omega)) (fun a ha => ?_) (m0 3 (by omega)) (m0 6 (by omega)), hr.mv (fun k _ _ => c k (by omega) (by omega) (by omega) (by omega) (by omega)) (q4 1 (by omega) (by omega) (by omega)) (q4 2 (by omega) (by omega) (by omega)) (q4 3 (by omega) (by omega) (by omega)), ⟨0, by omega, ?_, q5, by rw [c 23 (by omega) (by omega) (by omega) (by omega) (by omega), q4 6 (by omega) (by omega) (by omega)]; exact t4, ?_⟩, ⟨od, 0, a1, by omega, ?_, ?_, q7, fun z => absurd z (by omega), fun j hj => absurd hj (by omega)⟩, hI.mv (fun k _ _ => c k (by omega) (by omega) (by omega) (by omega) (by omega)) (q4 12 (by omega) (by omega) (by omega)) (q4 13 (by omega) (by omega) (by omega)) (fun _ => q6), hK.mv (by rw [c 255 (by omega) (by omega) (by omega) (by omega) (by omega)]) (c 256 (by omega) (by omega) (by omega) (by omega) (by omega)) (m0 25 (by omega)) (q4 14 (by omega) (by omega) (by omega))⟩
    · rw [rx_u_ne (by decide), rx_u_s, upd_s, q6]
    · rw [rx_u_ne (by omega), rx_u_ne (by omega), h45f.2 _ (by omega), rx_u_ne (by omega)]; exact hR2.1 a ha
    · rw [rx_u_ne (by decide), rx_u_ne (by decide), h45f.2 22 (by omega), rx_u_s, upd_s]; rfl
    · rw [c22 3 (by decide), m0 10 (by omega), hl2]; exact t5
    · rw [rx_u_s, upd_n (by decide), rx_u_ne (by decide), h45f.2 24 (by omega), rx_u_ne (by decide), hz.1 24 (by omega) (by omega)]; exact a3
    · rw [rx_u_s, upd_s]; rfl
  · refine rx_istore_n (i := 2) (lo2 := [(0, .ref _), (1, .ref _), (2, .int _)]) X dX7_wall_16 rfl (by decide) rfl ?_
    refine rx_aload_n (i := 0) X dX7_wall_17 rfl rfl ?_
    refine rx_getR (ci := 7) (i := 2) X (kc_0 hO) rfl rfl (by decide) inX7 flX7_26 dX7_wall_18 ?_
    refine rx_iconst (v := 0) X dX7_wall_21 (by decide) ?_
    refine rx_putI (ci := 6) (i := 1) X (kc_22 hO) rfl rfl (by decide) inX6 tyX6 tyX6_ok nmX6 flX7_114 rfl rfl dX7_wall_22 ?_
    refine rx_iload_n (i := 2) X dX7_wall_25 rfl rfl ?_
    refine rx_if_ne_f X dX7_wall_26 (by decide) ?_
    refine rx_ldc X dX7_wall_29 kcX7_128 ?_
    refine rx_aload_n (i := 0) X dX7_wall_31 rfl rfl ?_
    refine rx_getR (ci := 7) (i := 2) X (kc_0 hO) rfl rfl (by decide) inX7 flX7_26 dX7_wall_32 ?_
    refine rx_getI (ci := 6) (i := 2) X (kc_22 hO) rfl rfl (by decide) inX6 flX7_129 dX7_wall_35 ?_
    refine rx_top (show _ = nI q by rw [rx_u_s, upd_n (by decide)]; exact h2q) ?_
    refine rx_isub X dX7_wall_38 ?_
    refine rx_iret X dX7_wall_39 ?_
    rintro r2 ρ2 ⟨N2, hN1, hN2, hq⟩
    obtain rfl : N = N2 := nI_inj (by omega) (by omega) (t3.symm.trans hN1)
    rcases hq with hq | ⟨-, q2, q3, q4, q5, q6⟩
    · exact absurd hq.1 (by rw [e2]; exact hf)
    rw [e2] at q2 q5
    refine ⟨q2.symm, ?_⟩
    have c : ∀ k, k ≠ 22 → (k < 243 ∨ 251 < k) → (rx_u t13 22 1 0).1 k = σ.1 k := fun k a b => by rw [rx_u_ne a]; exact hz.1 k a b
    exact ⟨h.1.mv (fun k _ _ => c k (by omega) (by omega)) (by rw [c 0 (by omega) (by omega)]) (q3 4 (by omega) (by omega)) (q6 4 (by omega) (by omega) (by omega) (by omega) (by omega) (by omega) (by omega)), h.2.1.mv (by rw [c 0 (by omega) (by omega)]) (fun a ha => by rw [rx_u_ne (by omega)]; exact h2b a ha) (q6 3 (by omega) (by omega) (by omega) (by omega) (by omega) (by omega) (by omega)) (q6 6 (by omega) (by omega) (by omega) (by omega) (by omega) (by omega) (by omega)), hr.mv (fun k _ _ => c k (by omega) (by omega)) (q3 1 (by omega) (by omega)) (q3 2 (by omega) (by omega)) (q3 3 (by omega) (by omega)), ⟨0, by omega, by rw [rx_u_s, upd_s]; rfl, q4, by rw [c 23 (by omega) (by omega), q3 6 (by omega) (by omega)]; exact t4, by rw [rx_u_s, upd_n (by decide), q5]; exact h2f⟩, hA.mv (fun k _ _ => c k (by omega) (by omega)) (q3 8 (by omega) (by omega)) (q6 18 (by omega) (by omega) (by omega) (by omega) (by omega) (by omega) (by omega)) (q6 4 (by omega) (by omega) (by omega) (by omega) (by omega) (by omega) (by omega)), hI.mv (fun k _ _ => c k (by omega) (by omega)) (q3 12 (by omega) (by omega)) (q3 13 (by omega) (by omega)) (fun z => (q6 4 (by omega) (by omega) (by omega) (by omega) (by omega) (by omega) (by omega)).trans z), hK.mv (by rw [c 255 (by omega) (by omega)]) (c 256 (by omega) (by omega)) (q6 25 (by omega) (by omega) (by omega) (by omega) (by omega) (by omega) (by omega)) (q3 14 (by omega) (by omega))⟩
