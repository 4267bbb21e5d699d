set_option maxHeartbeats 1000000 in
set_option maxRecDepth 100000 in
theorem kX7_ahead {l : Launch} {O : rx_O} (hO : cb_O O) {σ : rx_S} {ρ : rx_S} {x n : Int32} (h : cR σ ρ) : rx_MI l O yX7_ahead cX7_ahead 3 (some .int) 6 [.ref 0, .int x, .int n] σ (fun r τ => ∀ r2 ρ2, (sp_ahead ρ x n = (r2, ρ2)) → r = r2 ∧ cR τ ρ2) := by
  refine rx_Met_of (own := RX7) rfl hO.2.1 vsX7_ahead.2.2.2.2.2 (Nat.le_of_ble_eq_true rfl) rfl (fun p e s m args below meth c X => ?_)
  obtain ⟨⟨w1, wC, wB, wW⟩, ⟨s1, s2, s3⟩, hr, ht, hA, hI, hK⟩ := id h
  refine rx_aload_n (i := 0) X dX7_ahead_0 rfl rfl ?_
  refine rx_getR (ci := 7) (i := 0) X (kc_0 hO) rfl rfl (by decide) inX7 flX7_10 dX7_ahead_1 ?_
  refine rx_iload_n (i := 1) X dX7_ahead_4 rfl rfl ?_
  refine rx_callVi (ci := 3) X vsX3_hasAnt mlX7_173 (kX3_hasAnt hO cb_B1 wB.2.1.1.2.2.2) (kb_0 hO cb_B1) rfl rfl (by decide) (by decide) dX7_ahead_5 rfl (Nat.le_of_ble_eq_true rfl) (fun r5 t5 h5 => ?_)
  obtain ⟨rfl, ⟨rfl, h5⟩ | ⟨rfl, h5⟩⟩ := h5
  · obtain ⟨a, rfl, ha, ha3, hna, hth, hv⟩ := h.ant h5
    refine rx_if_eq_f X dX7_ahead_8 (by decide) ?_
    refine rx_iload_n (i := 2) X dX7_ahead_11 rfl rfl ?_
    refine rx_if_lt X dX7_ahead_12 (fun h12 => ?_) (fun h12 => ?_)
    · try simp only [Int32.lt_iff_toInt_lt, Int32.le_iff_toInt_le, Int32.reduceToInt] at h12
      refine rx_ldc X dX7_ahead_21 kcX7_71 ?_
      refine rx_iret X dX7_ahead_23 ?_
      intro r2 ρ2 hq
      rw [sp_ahead, if_pos (by omega)] at hq
      obtain ⟨rfl, rfl⟩ := Prod.mk.inj hq
      exact ⟨rfl, h⟩
    · try simp only [Int32.lt_iff_toInt_lt, Int32.le_iff_toInt_le, Int32.reduceToInt] at h12
      refine rx_iload_n (i := 2) X dX7_ahead_15 rfl rfl ?_
      refine rx_bipush (v := 99) X dX7_ahead_16 (by decide) ?_
      refine rx_icmp_le X dX7_ahead_18 (fun h18 => ?_) (fun h18 => ?_)
      · try simp only [Int32.lt_iff_toInt_lt, Int32.le_iff_toInt_le, Int32.reduceToInt] at h18
        refine rx_aload_n (i := 0) X dX7_ahead_24 rfl rfl ?_
        refine rx_getR (ci := 7) (i := 4) X (kc_0 hO) rfl rfl (by decide) inX7 flX7_40 dX7_ahead_25 ?_
        refine rx_aload_n (i := 0) X dX7_ahead_28 rfl rfl ?_
        refine rx_getR (ci := 7) (i := 0) X (kc_0 hO) rfl rfl (by decide) inX7 flX7_10 dX7_ahead_29 ?_
        refine rx_iload_n (i := 1) X dX7_ahead_32 rfl rfl ?_
        refine rx_iload_n (i := 2) X dX7_ahead_33 rfl rfl ?_
        obtain ⟨mm, rfl, hmm1, hmm2, hmm3⟩ := i_nat (x := n) (by omega)
        refine rx_callVi (ci := 4) X vsX4_partBehind mlX7_205 (kX4_partBehind hO wB hv wC.1 (by omega) ha ha3) (kc_242 hO) rfl rfl (by decide) (by decide) dX7_ahead_34 rfl (Nat.le_of_ble_eq_true rfl) (fun r34 t34 h34 => ?_)
        obtain ⟨rfl, h34f, h34b⟩ := h34
        refine rx_iret X dX7_ahead_37 ?_
        intro r2 ρ2 hpq
        rw [sp_ahead, if_neg (by omega), hmm3, hna, s2] at hpq
        obtain ⟨rfl, rfl⟩ := Prod.mk.inj hpq
        clear hpq
        exact ⟨rfl, (h.fore (fun k hk => h34f.2 k (by omega)) h34b).aside⟩
      · try simp only [Int32.lt_iff_toInt_lt, Int32.le_iff_toInt_le, Int32.reduceToInt] at h18
        refine rx_ldc X dX7_ahead_21 kcX7_71 ?_
        refine rx_iret X dX7_ahead_23 ?_
        intro r2 ρ2 hq
        rw [sp_ahead, if_pos (by omega)] at hq
        obtain ⟨rfl, rfl⟩ := Prod.mk.inj hq
        exact ⟨rfl, h⟩
  · refine rx_if_eq_t X dX7_ahead_8 (by decide) ?_
    refine rx_ldc X dX7_ahead_21 kcX7_71 ?_
    refine rx_iret X dX7_ahead_23 ?_
    intro r2 ρ2 hq
    rw [sp_ahead, if_pos (by omega)] at hq
    obtain ⟨rfl, rfl⟩ := Prod.mk.inj hq
    exact ⟨rfl, h⟩
set_option maxHeartbeats 1000000 in
set_option maxRecDepth 100000 in
theorem kX7_band {l : Launch} {O : rx_O} (hO : cb_O O) {σ : rx_S} {ρ : rx_S} {n v : Int32} (h : cR σ ρ) : rx_MI l O yX7_band cX7_band 3 (some .int) 5 [.ref 0, .int n, .int v] σ (fun r τ => ∀ r2 ρ2, (sp_band ρ n v = (r2, ρ2)) → r = r2 ∧ cR τ ρ2) := by
  refine rx_Met_of (own := RX7) rfl hO.2.1 vsX7_band.2.2.2.2.2 (Nat.le_of_ble_eq_true rfl) rfl (fun p e s m args below meth c X => ?_)
  obtain ⟨⟨w1, wC, wB, wW⟩, ⟨s1, s2, s3⟩, hr, ht, hA, hI, hK⟩ := id h
  refine rx_aload_n (i := 0) X dX7_band_0 rfl rfl ?_
  refine rx_getZ (ci := 7) (i := 8) X (kc_0 hO) rfl rfl (by decide) inX7 flX7_59 dX7_band_1 ?_
  refine rx_top w1 ?_
  refine rx_if_ne X dX7_band_4 (fun h4 => ?_) (fun h4 => ?_)
  · have hth := h.there h4
    obtain ⟨hth, hv⟩ := hth
    refine rx_iload_n (i := 1) X dX7_band_10 rfl rfl ?_
    refine rx_if_lt X dX7_band_11 (fun h11 => ?_) (fun h11 => ?_)
    · try simp only [Int32.lt_iff_toInt_lt, Int32.le_iff_toInt_le, Int32.reduceToInt] at h11
      refine rx_ldc X dX7_band_29 kcX7_71 ?_
      refine rx_iret X dX7_band_31 ?_
      intro r2 ρ2 hpq
      rw [sp_band, if_neg h4, if_pos (by omega)] at hpq
      obtain ⟨rfl, rfl⟩ := Prod.mk.inj hpq
      clear hpq
      exact ⟨rfl, h⟩
    · try simp only [Int32.lt_iff_toInt_lt, Int32.le_iff_toInt_le, Int32.reduceToInt] at h11
      refine rx_iload_n (i := 1) X dX7_band_14 rfl rfl ?_
      refine rx_bipush (v := 99) X dX7_band_15 (by decide) ?_
      refine rx_icmp_gt X dX7_band_17 (fun h17 => ?_) (fun h17 => ?_)
      · try simp only [Int32.lt_iff_toInt_lt, Int32.le_iff_toInt_le, Int32.reduceToInt] at h17
        refine rx_ldc X dX7_band_29 kcX7_71 ?_
        refine rx_iret X dX7_band_31 ?_
        intro r2 ρ2 hpq
        rw [sp_band, if_neg h4, if_pos (by omega)] at hpq
        obtain ⟨rfl, rfl⟩ := Prod.mk.inj hpq
        clear hpq
        exact ⟨rfl, h⟩
      · try simp only [Int32.lt_iff_toInt_lt, Int32.le_iff_toInt_le, Int32.reduceToInt] at h17
        refine rx_iload_n (i := 2) X dX7_band_20 rfl rfl ?_
        refine rx_if_lt X dX7_band_21 (fun h21 => ?_) (fun h21 => ?_)
        · try simp only [Int32.lt_iff_toInt_lt, Int32.le_iff_toInt_le, Int32.reduceToInt] at h21
          refine rx_ldc X dX7_band_29 kcX7_71 ?_
          refine rx_iret X dX7_band_31 ?_
          intro r2 ρ2 hpq
          rw [sp_band, if_neg h4, if_pos (by omega)] at hpq
          obtain ⟨rfl, rfl⟩ := Prod.mk.inj hpq
          clear hpq
          exact ⟨rfl, h⟩
        · try simp only [Int32.lt_iff_toInt_lt, Int32.le_iff_toInt_le, Int32.reduceToInt] at h21
          refine rx_iload_n (i := 2) X dX7_band_24 rfl rfl ?_
          refine rx_iconst (v := 1) X dX7_band_25 (by decide) ?_
          refine rx_icmp_le X dX7_band_26 (fun h26 => ?_) (fun h26 => ?_)
          · try simp only [Int32.lt_iff_toInt_lt, Int32.le_iff_toInt_le, Int32.reduceToInt] at h26
            refine rx_aload_n (i := 0) X dX7_band_32 rfl rfl ?_
            refine rx_getR (ci := 7) (i := 4) X (kc_0 hO) rfl rfl (by decide) inX7 flX7_40 dX7_band_33 ?_
            refine rx_aload_n (i := 0) X dX7_band_36 rfl rfl ?_
            refine rx_getR (ci := 7) (i := 0) X (kc_0 hO) rfl rfl (by decide) inX7 flX7_10 dX7_band_37 ?_
            refine rx_iload_n (i := 1) X dX7_band_40 rfl rfl ?_
            obtain ⟨mm, rfl, hmm1, hmm2, hmm3⟩ := i_nat (x := n) (by omega)
            refine rx_callVv (ci := 4) X vsX4_lookAhead mlX7_209 (kX4_lookAhead hO wB hv wC.1 (by omega)) (kc_242 hO) rfl rfl (by decide) (by decide) dX7_band_41 rfl (Nat.le_of_ble_eq_true rfl) (fun t41 h41 => ?_)
            obtain ⟨h41f, h41⟩ := h41
            refine rx_iload_n (i := 2) X dX7_band_44 rfl rfl ?_
            refine rx_if_ne X dX7_band_45 (fun h45 => ?_) (fun h45 => ?_)
            · refine rx_aload_n (i := 0) X dX7_band_61 rfl rfl ?_
              refine rx_getR (ci := 7) (i := 4) X (kc_0 hO) rfl rfl (by decide) inX7 flX7_40 dX7_band_62 ?_
              refine rx_getR (ci := 4) (i := 0) X (kc_242 hO) rfl rfl (by decide) inX4 flX7_121 dX7_band_65 ?_
              refine rx_callVi (ci := 3) X vsX3_arrivedBits mlX7_213 (kX3_arrivedBits hO cb_B243 h41 (by rw [(w_on_3 (K := 999) (by omega) hv)]; exact h.n3) (w_C_on (K := 999) (by omega) hv wC)) (kb_0 hO cb_B243) rfl rfl (by decide) (by decide) dX7_band_68 rfl (Nat.le_of_ble_eq_true rfl) (fun r68 t68 h68 => ?_)
              obtain ⟨rfl, rfl⟩ := h68
              refine rx_iret X dX7_band_71 ?_
              intro r2 ρ2 hpq
              rw [sp_band, if_neg h4, if_neg (by omega), hmm3, s2, if_neg h45] at hpq
              obtain ⟨rfl, rfl⟩ := Prod.mk.inj hpq
              clear hpq
              exact ⟨rfl, (h.fore (fun k hk => h41f.2 k (by omega)) h41.1).aside⟩
            · refine rx_aload_n (i := 0) X dX7_band_48 rfl rfl ?_
              refine rx_getR (ci := 7) (i := 4) X (kc_0 hO) rfl rfl (by decide) inX7 flX7_40 dX7_band_49 ?_
              refine rx_getR (ci := 4) (i := 0) X (kc_242 hO) rfl rfl (by decide) inX4 flX7_121 dX7_band_52 ?_
              refine rx_getI (ci := 3) (i := 0) X (kb_0 hO cb_B243) rfl rfl (by decide) inX3 flX7_163 dX7_band_55 ?_
              refine rx_top h41.2.1.1.1 ?_
              refine rx_goto X dX7_band_58 ?_
              refine rx_iret X dX7_band_71 ?_
              intro r2 ρ2 hpq
              rw [sp_band, if_neg h4, if_neg (by omega), hmm3, s2, if_pos h45] at hpq
              obtain ⟨rfl, rfl⟩ := Prod.mk.inj hpq
              clear hpq
              exact ⟨rfl, (h.fore (fun k hk => h41f.2 k (by omega)) h41.1).aside⟩
          · try simp only [Int32.lt_iff_toInt_lt, Int32.le_iff_toInt_le, Int32.reduceToInt] at h26
            refine rx_ldc X dX7_band_29 kcX7_71 ?_
            refine rx_iret X dX7_band_31 ?_
            intro r2 ρ2 hpq
            rw [sp_band, if_neg h4, if_pos (by omega)] at hpq
            obtain ⟨rfl, rfl⟩ := Prod.mk.inj hpq
            clear hpq
            exact ⟨rfl, h⟩
  · refine rx_ldc X dX7_band_7 kcX7_148 ?_
    refine rx_iret X dX7_band_9 ?_
    intro r2 ρ2 hpq
    rw [sp_band, if_pos h4] at hpq
    obtain ⟨rfl, rfl⟩ := Prod.mk.inj hpq
    clear hpq
    exact ⟨rfl, h⟩
set_option maxHeartbeats 1000000 in
set_option maxRecDepth 100000 in
theorem kX7_arrives {l : Launch} {O : rx_O} (hO : cb_O O) {σ : rx_S} {ρ : rx_S} {x : Int32} (h : cR σ ρ) : rx_MI l O yX7_arrives cX7_arrives 2 (some .int) 6 [.ref 0, .int x] σ (fun r τ => ∀ r2 ρ2, (sp_arrives ρ x = (r2, ρ2)) → r = r2 ∧ cR τ ρ2) := by
  refine rx_Met_of (own := RX7) rfl hO.2.1 vsX7_arrives.2.2.2.2.2 (Nat.le_of_ble_eq_true rfl) rfl (fun p e s m args below meth c X => ?_)
  obtain ⟨⟨w1, wC, wB, wW⟩, ⟨s1, s2, s3⟩, hr, ht, hA, hI, hK⟩ := id h
  refine rx_aload_n (i := 0) X dX7_arrives_0 rfl rfl ?_
  refine rx_getR (ci := 7) (i := 0) X (kc_0 hO) rfl rfl (by decide) inX7 flX7_10 dX7_arrives_1 ?_
  refine rx_iload_n (i := 1) X dX7_arrives_4 rfl rfl ?_
  refine rx_callVi (ci := 3) X vsX3_hasAnt mlX7_173 (kX3_hasAnt hO cb_B1 wB.2.1.1.2.2.2) (kb_0 hO cb_B1) rfl rfl (by decide) (by decide) dX7_arrives_5 rfl (Nat.le_of_ble_eq_true rfl) (fun r5 t5 h5 => ?_)
  obtain ⟨rfl, ⟨rfl, h5⟩ | ⟨rfl, h5⟩⟩ := h5
  · obtain ⟨a, rfl, ha, ha3, hna, hth, hv⟩ := h.ant h5
    refine rx_if_ne_t X dX7_arrives_8 (by decide) ?_
    refine rx_aload_n (i := 0) X dX7_arrives_14 rfl rfl ?_
    refine rx_getR (ci := 7) (i := 4) X (kc_0 hO) rfl rfl (by decide) inX7 flX7_40 dX7_arrives_15 ?_
    refine rx_aload_n (i := 0) X dX7_arrives_18 rfl rfl ?_
    refine rx_getR (ci := 7) (i := 0) X (kc_0 hO) rfl rfl (by decide) inX7 flX7_10 dX7_arrives_19 ?_
    refine rx_iload_n (i := 1) X dX7_arrives_22 rfl rfl ?_
    refine rx_callVi (ci := 4) X vsX4_arrival mlX7_216 (kX4_arrival hO wB hv wC.1 ha ha3) (kc_242 hO) rfl rfl (by decide) (by decide) dX7_arrives_23 rfl (Nat.le_of_ble_eq_true rfl) (fun r23 t23 h23 => ?_)
    obtain ⟨rfl, h23f, h23b⟩ := h23
    refine rx_iret X dX7_arrives_26 ?_
    intro r2 ρ2 hpq
    rw [sp_arrives, if_neg (fun q => q h5), hna, s2] at hpq
    obtain ⟨rfl, rfl⟩ := Prod.mk.inj hpq
    clear hpq
    exact ⟨rfl, (h.fore (fun k hk => h23f.2 k (by omega)) h23b).aside⟩
  · refine rx_if_ne_f X dX7_arrives_8 (by decide) ?_
    refine rx_ldc X dX7_arrives_11 kcX7_71 ?_
    refine rx_iret X dX7_arrives_13 ?_
    intro r2 ρ2 hpq
    rw [sp_arrives, if_pos h5] at hpq
    obtain ⟨rfl, rfl⟩ := Prod.mk.inj hpq
    clear hpq
    exact ⟨rfl, h⟩
set_option maxHeartbeats 1000000 in
set_option maxRecDepth 100000 in
theorem kX7_leads {l : Launch} {O : rx_O} (hO : cb_O O) {σ : rx_S} {ρ : rx_S} {n : Int32} (h : cR σ ρ) : rx_MI l O yX7_leads cX7_leads 2 (some .int) 5 [.ref 0, .int n] σ (fun r τ => ∀ r2 ρ2, (sp_leads ρ n = (r2, ρ2)) → r = r2 ∧ cR τ ρ2) := by
  refine rx_Met_of (own := RX7) rfl hO.2.1 vsX7_leads.2.2.2.2.2 (Nat.le_of_ble_eq_true rfl) rfl (fun p e s m args below meth c X => ?_)
  obtain ⟨⟨w1, wC, wB, wW⟩, ⟨s1, s2, s3⟩, hr, ht, hA, hI, hK⟩ := id h
  refine rx_aload_n (i := 0) X dX7_leads_0 rfl rfl ?_
  refine rx_getZ (ci := 7) (i := 8) X (kc_0 hO) rfl rfl (by decide) inX7 flX7_59 dX7_leads_1 ?_
  refine rx_top w1 ?_
  refine rx_if_ne X dX7_leads_4 (fun h4 => ?_) (fun h4 => ?_)
  · have hth := h.there h4
    obtain ⟨hth, hv⟩ := hth
    refine rx_iload_n (i := 1) X dX7_leads_10 rfl rfl ?_
    refine rx_if_lt X dX7_leads_11 (fun h11 => ?_) (fun h11 => ?_)
    · try simp only [Int32.lt_iff_toInt_lt, Int32.le_iff_toInt_le, Int32.reduceToInt] at h11
      refine rx_ldc X dX7_leads_20 kcX7_71 ?_
      refine rx_iret X dX7_leads_22 ?_
      intro r2 ρ2 hpq
      rw [sp_leads, if_neg h4, if_pos (by omega)] at hpq
      obtain ⟨rfl, rfl⟩ := Prod.mk.inj hpq
      clear hpq
      exact ⟨rfl, h⟩
    · try simp only [Int32.lt_iff_toInt_lt, Int32.le_iff_toInt_le, Int32.reduceToInt] at h11
      refine rx_iload_n (i := 1) X dX7_leads_14 rfl rfl ?_
      refine rx_bipush (v := 99) X dX7_leads_15 (by decide) ?_
      refine rx_icmp_le X dX7_leads_17 (fun h17 => ?_) (fun h17 => ?_)
      · try simp only [Int32.lt_iff_toInt_lt, Int32.le_iff_toInt_le, Int32.reduceToInt] at h17
        refine rx_aload_n (i := 0) X dX7_leads_23 rfl rfl ?_
        refine rx_getR (ci := 7) (i := 4) X (kc_0 hO) rfl rfl (by decide) inX7 flX7_40 dX7_leads_24 ?_
        refine rx_aload_n (i := 0) X dX7_leads_27 rfl rfl ?_
        refine rx_getR (ci := 7) (i := 0) X (kc_0 hO) rfl rfl (by decide) inX7 flX7_10 dX7_leads_28 ?_
        refine rx_iload_n (i := 1) X dX7_leads_31 rfl rfl ?_
        obtain ⟨mm, rfl, hmm1, hmm2, hmm3⟩ := i_nat (x := n) (by omega)
        refine rx_callVv (ci := 4) X vsX4_lookAhead mlX7_209 (kX4_lookAhead hO wB hv wC.1 (by omega)) (kc_242 hO) rfl rfl (by decide) (by decide) dX7_leads_32 rfl (Nat.le_of_ble_eq_true rfl) (fun t32 h32 => ?_)
        obtain ⟨h32f, h32⟩ := h32
        refine rx_aload_n (i := 0) X dX7_leads_35 rfl rfl ?_
        refine rx_getR (ci := 7) (i := 4) X (kc_0 hO) rfl rfl (by decide) inX7 flX7_40 dX7_leads_36 ?_
        refine rx_getR (ci := 4) (i := 0) X (kc_242 hO) rfl rfl (by decide) inX4 flX7_121 dX7_leads_39 ?_
        refine rx_callVi (ci := 3) X vsX3_firstAhead mlX7_220 (kX3_firstAhead hO cb_B243 h32 (by rw [(w_on_3 (K := 999) (by omega) hv)]; exact hv.2.2.2.1)) (kb_0 hO cb_B243) rfl rfl (by decide) (by decide) dX7_leads_42 rfl (Nat.le_of_ble_eq_true rfl) (fun r42 t42 h42 => ?_)
        obtain ⟨rfl, rfl⟩ := h42
        refine rx_iret X dX7_leads_45 ?_
        intro r2 ρ2 hpq
        rw [sp_leads, if_neg h4, if_neg (by omega), hmm3, s2] at hpq
        obtain ⟨rfl, rfl⟩ := Prod.mk.inj hpq
        clear hpq
        rw [(w_on_3 (K := 999) (by omega) hv)]
        exact ⟨rfl, (h.fore (fun k hk => h32f.2 k (by omega)) h32.1).aside⟩
      · try simp only [Int32.lt_iff_toInt_lt, Int32.le_iff_toInt_le, Int32.reduceToInt] at h17
        refine rx_ldc X dX7_leads_20 kcX7_71 ?_
        refine rx_iret X dX7_leads_22 ?_
        intro r2 ρ2 hpq
        rw [sp_leads, if_neg h4, if_pos (by omega)] at hpq
        obtain ⟨rfl, rfl⟩ := Prod.mk.inj hpq
        clear hpq
        exact ⟨rfl, h⟩
  · refine rx_ldc X dX7_leads_7 kcX7_148 ?_
    refine rx_iret X dX7_leads_9 ?_
    intro r2 ρ2 hpq
    rw [sp_leads, if_pos h4] at hpq
    obtain ⟨rfl, rfl⟩ := Prod.mk.inj hpq
    clear hpq
    exact ⟨rfl, h⟩
set_option maxHeartbeats 1000000 in
set_option maxRecDepth 100000 in
theorem kX7_meet {l : Launch} {O : rx_O} (hO : cb_O O) {σ : rx_S} {ρ : rx_S} {x z : Int32} (h : cR σ ρ) : rx_MI l O yX7_meet cX7_meet 3 (some .int) 5 [.ref 0, .int x, .int z] σ (fun r τ => ∀ r2 ρ2, (sp_meet ρ x z = (r2, ρ2)) → r = r2 ∧ cR τ ρ2) := by
  refine rx_Met_of (own := RX7) rfl hO.2.1 vsX7_meet.2.2.2.2.2 (Nat.le_of_ble_eq_true rfl) rfl (fun p e s m args below meth c X => ?_)
  obtain ⟨⟨w1, wC, wB, wW⟩, ⟨s1, s2, s3⟩, hr, ht, hA, hI, hK⟩ := id h
  refine rx_aload_n (i := 0) X dX7_meet_0 rfl rfl ?_
  refine rx_getR (ci := 7) (i := 0) X (kc_0 hO) rfl rfl (by decide) inX7 flX7_10 dX7_meet_1 ?_
  refine rx_iload_n (i := 1) X dX7_meet_4 rfl rfl ?_
  refine rx_callVi (ci := 3) X vsX3_hasAnt mlX7_173 (kX3_hasAnt hO cb_B1 wB.2.1.1.2.2.2) (kb_0 hO cb_B1) rfl rfl (by decide) (by decide) dX7_meet_5 rfl (Nat.le_of_ble_eq_true rfl) (fun r5 t5 h5 => ?_)
  obtain ⟨rfl, ⟨rfl, h5⟩ | ⟨rfl, h5⟩⟩ := h5
  · obtain ⟨a, rfl, ha, ha3, hna, hth, hv⟩ := h.ant h5
    refine rx_if_eq_f X dX7_meet_8 (by decide) ?_
    refine rx_aload_n (i := 0) X dX7_meet_11 rfl rfl ?_
    refine rx_getR (ci := 7) (i := 0) X (kc_0 hO) rfl rfl (by decide) inX7 flX7_10 dX7_meet_12 ?_
    refine rx_iload_n (i := 2) X dX7_meet_15 rfl rfl ?_
    refine rx_callVi (ci := 3) X vsX3_hasAnt mlX7_173 (kX3_hasAnt hO cb_B1 wB.2.1.1.2.2.2) (kb_0 hO cb_B1) rfl rfl (by decide) (by decide) dX7_meet_16 rfl (Nat.le_of_ble_eq_true rfl) (fun r16 t16 h16 => ?_)
    obtain ⟨rfl, ⟨rfl, h16⟩ | ⟨rfl, h16⟩⟩ := h16
    · obtain ⟨b, rfl, hb, hb3, hnb, hth, hv⟩ := h.ant h16
      refine rx_if_eq_f X dX7_meet_19 (by decide) ?_
      refine rx_iload_n (i := 1) X dX7_meet_22 rfl rfl ?_
      refine rx_iload_n (i := 2) X dX7_meet_23 rfl rfl ?_
      refine rx_icmp_ne X dX7_meet_24 (fun h24 => ?_) (fun h24 => ?_)
      · refine rx_aload_n (i := 0) X dX7_meet_30 rfl rfl ?_
        refine rx_getR (ci := 7) (i := 4) X (kc_0 hO) rfl rfl (by decide) inX7 flX7_40 dX7_meet_31 ?_
        refine rx_aload_n (i := 0) X dX7_meet_34 rfl rfl ?_
        refine rx_getR (ci := 7) (i := 0) X (kc_0 hO) rfl rfl (by decide) inX7 flX7_10 dX7_meet_35 ?_
        refine rx_iload_n (i := 1) X dX7_meet_38 rfl rfl ?_
        refine rx_iload_n (i := 2) X dX7_meet_39 rfl rfl ?_
        refine rx_callVi (ci := 4) X vsX4_meeting mlX7_223 (kX4_meeting hO wB hv wC.1 ha ha3 hb hb3 (fun z => h24 (by rw [z]))) (kc_242 hO) rfl rfl (by decide) (by decide) dX7_meet_40 rfl (Nat.le_of_ble_eq_true rfl) (fun r40 t40 h40 => ?_)
        obtain ⟨rfl, h40f, h40b⟩ := h40
        refine rx_iret X dX7_meet_43 ?_
        intro r2 ρ2 hpq
        rw [sp_meet, if_neg (fun q => q.elim (fun z => z h5) (fun q => q.elim (fun z => z h16) h24)), hna, hnb, s2] at hpq
        obtain ⟨rfl, rfl⟩ := Prod.mk.inj hpq
        clear hpq
        exact ⟨rfl, (h.fore (fun k hk => h40f.2 k (by omega)) h40b).aside⟩
      · refine rx_ldc X dX7_meet_27 kcX7_71 ?_
        refine rx_iret X dX7_meet_29 ?_
        intro r2 ρ2 hpq
        rw [sp_meet, if_pos (Or.inr (Or.inr h24))] at hpq
        obtain ⟨rfl, rfl⟩ := Prod.mk.inj hpq
        clear hpq
        exact ⟨rfl, h⟩
    · refine rx_if_eq_t X dX7_meet_19 (by decide) ?_
      refine rx_ldc X dX7_meet_27 kcX7_71 ?_
      refine rx_iret X dX7_meet_29 ?_
      intro r2 ρ2 hpq
      rw [sp_meet, if_pos (Or.inr (Or.inl h16))] at hpq
      obtain ⟨rfl, rfl⟩ := Prod.mk.inj hpq
      clear hpq
      exact ⟨rfl, h⟩
  · refine rx_if_eq_t X dX7_meet_8 (by decide) ?_
    refine rx_ldc X dX7_meet_27 kcX7_71 ?_
    refine rx_iret X dX7_meet_29 ?_
    intro r2 ρ2 hpq
    rw [sp_meet, if_pos (Or.inl h5)] at hpq
    obtain ⟨rfl, rfl⟩ := Prod.mk.inj hpq
    clear hpq
    exact ⟨rfl, h⟩
set_option maxHeartbeats 1000000 in
set_option maxRecDepth 100000 in
theorem kX7_fast {l : Launch} {O : rx_O} (hO : cb_O O) {σ : rx_S} {ρ : rx_S} {x n : Int32} (h : cR σ ρ) : rx_MI l O yX7_fast cX7_fast 3 (some .int) 6 [.ref 0, .int x, .int n] σ (fun r τ => ∀ r2 ρ2, (sp_fast ρ x n = (r2, ρ2)) → r = r2 ∧ cR τ ρ2) := by
  refine rx_Met_of (own := RX7) rfl hO.2.1 vsX7_fast.2.2.2.2.2 (Nat.le_of_ble_eq_true rfl) rfl (fun p e s m args below meth c X => ?_)
  obtain ⟨⟨w1, wC, wB, wW⟩, ⟨s1, s2, s3⟩, hr, ht, hA, hI, hK⟩ := id h
  refine rx_aload_n (i := 0) X dX7_fast_0 rfl rfl ?_
  refine rx_iload_n (i := 1) X dX7_fast_1 rfl rfl ?_
  refine rx_iload_n (i := 2) X dX7_fast_2 rfl rfl ?_
  refine rx_callVi (ci := 7) X vsX7_isAskedAhead mlX7_226 (kX7_isAskedAhead hO wB.2.1.1.2.2.2) (kc_0 hO) rfl rfl (by decide) (by decide) dX7_fast_3 rfl (Nat.le_of_ble_eq_true rfl) (fun r3 t3 h3 => ?_)
  obtain ⟨rfl, ⟨rfl, h3⟩ | ⟨rfl, h3⟩⟩ := h3
  · obtain ⟨a, rfl, ha, ha3, hna, hth, hv⟩ := h.ant h3.1
    obtain ⟨mm, rfl, hmm1, hmm2, hmm3⟩ := i_nat (x := n) (by omega)
    refine rx_if_ne_t X dX7_fast_6 (by decide) ?_
    refine rx_aload_n (i := 0) X dX7_fast_12 rfl rfl ?_
    refine rx_getR (ci := 7) (i := 0) X (kc_0 hO) rfl rfl (by decide) inX7 flX7_10 dX7_fast_13 ?_
    refine rx_getR (ci := 3) (i := 5) X (kb_0 hO cb_B1) rfl rfl (by decide) inX3 flX7_176 dX7_fast_16 ?_
    refine rx_iload_n (i := 1) X dX7_fast_19 rfl rfl ?_
    refine rx_aaldN (j := a) X (kb_2 hO cb_B1) hO.2.2.2.2.2.1 rfl ha (by decide) (kb_el ha) dX7_fast_20 ?_
    refine rx_getZ (ci := 1) (i := 5) X (kb_a hO cb_B1 ha) rfl rfl (by decide) inX1 flX7_180 dX7_fast_21 ?_
    refine rx_if_eq X dX7_fast_24 (fun h24 => ?_) (fun h24 => ?_)
    · refine rx_aload_n (i := 0) X dX7_fast_32 rfl rfl ?_
      refine rx_getR (ci := 7) (i := 4) X (kc_0 hO) rfl rfl (by decide) inX7 flX7_40 dX7_fast_33 ?_
      refine rx_aload_n (i := 0) X dX7_fast_36 rfl rfl ?_
      refine rx_getR (ci := 7) (i := 0) X (kc_0 hO) rfl rfl (by decide) inX7 flX7_10 dX7_fast_37 ?_
      refine rx_iload_n (i := 1) X dX7_fast_40 rfl rfl ?_
      refine rx_iload_n (i := 2) X dX7_fast_41 rfl rfl ?_
      refine rx_callVi (ci := 4) X vsX4_leastStep mlX7_230 (kX4_leastStep hO wB hv wC.1 (by omega) ha ha3 s3) (kc_242 hO) rfl rfl (by decide) (by decide) dX7_fast_42 rfl (Nat.le_of_ble_eq_true rfl) (fun r42 t42 h42 => ?_)
      obtain ⟨rfl, h42f, h42b⟩ := h42
      refine rx_iret X dX7_fast_45 ?_
      intro r2 ρ2 hpq
      rw [sp_fast, sp_lk, if_neg (by omega), hna, if_neg (fun q => (wB.2.2 a ha ha3 trivial).has.mpr q h24), hmm3, s2] at hpq
      obtain ⟨rfl, rfl⟩ := Prod.mk.inj hpq
      clear hpq
      exact ⟨rfl, (h.fore (fun k hk => h42f.2 k (by omega)) h42b).aside⟩
    · refine rx_ldc X dX7_fast_27 kcX7_148 ?_
      refine rx_goto X dX7_fast_29 ?_
      refine rx_iret X dX7_fast_45 ?_
      intro r2 ρ2 hpq
      rw [sp_fast, sp_lk, if_neg (by omega), hna, if_pos ((wB.2.2 a ha ha3 trivial).has.mp h24)] at hpq
      obtain ⟨rfl, rfl⟩ := Prod.mk.inj hpq
      clear hpq
      exact ⟨rfl, h⟩
  · refine rx_if_ne_f X dX7_fast_6 (by decide) ?_
    refine rx_ldc X dX7_fast_9 kcX7_71 ?_
    refine rx_iret X dX7_fast_11 ?_
    intro r2 ρ2 hpq
    rw [sp_fast, sp_lk, if_pos (by omega)] at hpq
    obtain ⟨rfl, rfl⟩ := Prod.mk.inj hpq
    clear hpq
    exact ⟨rfl, h⟩
set_option maxHeartbeats 1000000 in
set_option maxRecDepth 100000 in
theorem kX7_pullFor {l : Launch} {O : rx_O} (hO : cb_O O) {σ : rx_S} {ρ : rx_S} {x n : Int32} (h : cR σ ρ) : rx_MI l O yX7_pullFor cX7_pullFor 3 (some .int) 6 [.ref 0, .int x, .int n] σ (fun r τ => ∀ r2 ρ2, (sp_pullFor ρ x n = (r2, ρ2)) → r = r2 ∧ cR τ ρ2) := by
  refine rx_Met_of (own := RX7) rfl hO.2.1 vsX7_pullFor.2.2.2.2.2 (Nat.le_of_ble_eq_true rfl) rfl (fun p e s m args below meth c X => ?_)
  obtain ⟨⟨w1, wC, wB, wW⟩, ⟨s1, s2, s3⟩, hr, ht, hA, hI, hK⟩ := id h
  refine rx_aload_n (i := 0) X dX7_pullFor_0 rfl rfl ?_
  refine rx_iload_n (i := 1) X dX7_pullFor_1 rfl rfl ?_
  refine rx_iload_n (i := 2) X dX7_pullFor_2 rfl rfl ?_
  refine rx_callVi (ci := 7) X vsX7_isAskedAhead mlX7_226 (kX7_isAskedAhead hO wB.2.1.1.2.2.2) (kc_0 hO) rfl rfl (by decide) (by decide) dX7_pullFor_3 rfl (Nat.le_of_ble_eq_true rfl) (fun r3 t3 h3 => ?_)
  obtain ⟨rfl, ⟨rfl, h3⟩ | ⟨rfl, h3⟩⟩ := h3
  · obtain ⟨a, rfl, ha, ha3, hna, hth, hv⟩ := h.ant h3.1
    obtain ⟨mm, rfl, hmm1, hmm2, hmm3⟩ := i_nat (x := n) (by omega)
    refine rx_if_ne_t X dX7_pullFor_6 (by decide) ?_
    refine rx_aload_n (i := 0) X dX7_pullFor_12 rfl rfl ?_
    refine rx_getR (ci := 7) (i := 0) X (kc_0 hO) rfl rfl (by decide) inX7 flX7_10 dX7_pullFor_13 ?_
    refine rx_getR (ci := 3) (i := 5) X (kb_0 hO cb_B1) rfl rfl (by decide) inX3 flX7_176 dX7_pullFor_16 ?_
    refine rx_iload_n (i := 1) X dX7_pullFor_19 rfl rfl ?_
    refine rx_aaldN (j := a) X (kb_2 hO cb_B1) hO.2.2.2.2.2.1 rfl ha (by decide) (kb_el ha) dX7_pullFor_20 ?_
    refine rx_getZ (ci := 1) (i := 5) X (kb_a hO cb_B1 ha) rfl rfl (by decide) inX1 flX7_180 dX7_pullFor_21 ?_
    refine rx_if_eq X dX7_pullFor_24 (fun h24 => ?_) (fun h24 => ?_)
    · refine rx_aload_n (i := 0) X dX7_pullFor_32 rfl rfl ?_
      refine rx_getR (ci := 7) (i := 4) X (kc_0 hO) rfl rfl (by decide) inX7 flX7_40 dX7_pullFor_33 ?_
      refine rx_aload_n (i := 0) X dX7_pullFor_36 rfl rfl ?_
      refine rx_getR (ci := 7) (i := 0) X (kc_0 hO) rfl rfl (by decide) inX7 flX7_10 dX7_pullFor_37 ?_
      refine rx_iload_n (i := 1) X dX7_pullFor_40 rfl rfl ?_
      refine rx_iload_n (i := 2) X dX7_pullFor_41 rfl rfl ?_
      refine rx_callVi (ci := 4) X vsX4_greatestPull mlX7_233 (kX4_greatestPull hO wB hv wC.1 (by omega) ha ha3 s3) (kc_242 hO) rfl rfl (by decide) (by decide) dX7_pullFor_42 rfl (Nat.le_of_ble_eq_true rfl) (fun r42 t42 h42 => ?_)
      obtain ⟨rfl, h42f, h42b⟩ := h42
      refine rx_iret X dX7_pullFor_45 ?_
      intro r2 ρ2 hpq
      rw [sp_pullFor, sp_lk, if_neg (by omega), hna, if_neg (fun q => (wB.2.2 a ha ha3 trivial).has.mpr q h24), hmm3, s2] at hpq
      obtain ⟨rfl, rfl⟩ := Prod.mk.inj hpq
      clear hpq
      exact ⟨rfl, (h.fore (fun k hk => h42f.2 k (by omega)) h42b).aside⟩
    · refine rx_ldc X dX7_pullFor_27 kcX7_148 ?_
      refine rx_goto X dX7_pullFor_29 ?_
      refine rx_iret X dX7_pullFor_45 ?_
      intro r2 ρ2 hpq
      rw [sp_pullFor, sp_lk, if_neg (by omega), hna, if_pos ((wB.2.2 a ha ha3 trivial).has.mp h24)] at hpq
      obtain ⟨rfl, rfl⟩ := Prod.mk.inj hpq
      clear hpq
      exact ⟨rfl, h⟩
  · refine rx_if_ne_f X dX7_pullFor_6 (by decide) ?_
    refine rx_ldc X dX7_pullFor_9 kcX7_71 ?_
    refine rx_iret X dX7_pullFor_11 ?_
    intro r2 ρ2 hpq
    rw [sp_pullFor, sp_lk, if_pos (by omega)] at hpq
    obtain ⟨rfl, rfl⟩ := Prod.mk.inj hpq
    clear hpq
    exact ⟨rfl, h⟩
set_option maxHeartbeats 1000000 in
set_option maxRecDepth 100000 in
theorem kX7_rest {l : Launch} {O : rx_O} (hO : cb_O O) {σ : rx_S} {ρ : rx_S} {x n : Int32} (h : cR σ ρ) : rx_MI l O yX7_rest cX7_rest 3 (some .int) 6 [.ref 0, .int x, .int n] σ (fun r τ => ∀ r2 ρ2, (sp_rest ρ x n = (r2, ρ2)) → r = r2 ∧ cR τ ρ2) := by
  refine rx_Met_of (own := RX7) rfl hO.2.1 vsX7_rest.2.2.2.2.2 (Nat.le_of_ble_eq_true rfl) rfl (fun p e s m args below meth c X => ?_)
  obtain ⟨⟨w1, wC, wB, wW⟩, ⟨s1, s2, s3⟩, hr, ht, hA, hI, hK⟩ := id h
  refine rx_aload_n (i := 0) X dX7_rest_0 rfl rfl ?_
  refine rx_iload_n (i := 1) X dX7_rest_1 rfl rfl ?_
  refine rx_iload_n (i := 2) X dX7_rest_2 rfl rfl ?_
  refine rx_callVi (ci := 7) X vsX7_isAskedAhead mlX7_226 (kX7_isAskedAhead hO wB.2.1.1.2.2.2) (kc_0 hO) rfl rfl (by decide) (by decide) dX7_rest_3 rfl (Nat.le_of_ble_eq_true rfl) (fun r3 t3 h3 => ?_)
  obtain ⟨rfl, ⟨rfl, h3⟩ | ⟨rfl, h3⟩⟩ := h3
  · obtain ⟨a, rfl, ha, ha3, hna, hth, hv⟩ := h.ant h3.1
    obtain ⟨mm, rfl, hmm1, hmm2, hmm3⟩ := i_nat (x := n) (by omega)
    refine rx_if_ne_t X dX7_rest_6 (by decide) ?_
    refine rx_aload_n (i := 0) X dX7_rest_12 rfl rfl ?_
    refine rx_getR (ci := 7) (i := 0) X (kc_0 hO) rfl rfl (by decide) inX7 flX7_10 dX7_rest_13 ?_
    refine rx_getR (ci := 3) (i := 5) X (kb_0 hO cb_B1) rfl rfl (by decide) inX3 flX7_176 dX7_rest_16 ?_
    refine rx_iload_n (i := 1) X dX7_rest_19 rfl rfl ?_
    refine rx_aaldN (j := a) X (kb_2 hO cb_B1) hO.2.2.2.2.2.1 rfl ha (by decide) (kb_el ha) dX7_rest_20 ?_
    refine rx_getZ (ci := 1) (i := 5) X (kb_a hO cb_B1 ha) rfl rfl (by decide) inX1 flX7_180 dX7_rest_21 ?_
    refine rx_if_eq X dX7_rest_24 (fun h24 => ?_) (fun h24 => ?_)
    · refine rx_aload_n (i := 0) X dX7_rest_32 rfl rfl ?_
      refine rx_getR (ci := 7) (i := 4) X (kc_0 hO) rfl rfl (by decide) inX7 flX7_40 dX7_rest_33 ?_
      refine rx_aload_n (i := 0) X dX7_rest_36 rfl rfl ?_
      refine rx_getR (ci := 7) (i := 0) X (kc_0 hO) rfl rfl (by decide) inX7 flX7_10 dX7_rest_37 ?_
      refine rx_iload_n (i := 1) X dX7_rest_40 rfl rfl ?_
      refine rx_iload_n (i := 2) X dX7_rest_41 rfl rfl ?_
      refine rx_callVi (ci := 4) X vsX4_bestRest mlX7_246 (kX4_bestRest hO wB hv wC.1 (by omega) ha ha3 s3) (kc_242 hO) rfl rfl (by decide) (by decide) dX7_rest_42 rfl (Nat.le_of_ble_eq_true rfl) (fun r42 t42 h42 => ?_)
      obtain ⟨rfl, h42f, h42b⟩ := h42
      refine rx_iret X dX7_rest_45 ?_
      intro r2 ρ2 hpq
      rw [sp_rest, sp_lk, if_neg (by omega), hna, if_neg (fun q => (wB.2.2 a ha ha3 trivial).has.mpr q h24), hmm3, s2] at hpq
      obtain ⟨rfl, rfl⟩ := Prod.mk.inj hpq
      clear hpq
      exact ⟨rfl, (h.fore (fun k hk => h42f.2 k (by omega)) h42b).aside⟩
    · refine rx_ldc X dX7_rest_27 kcX7_148 ?_
      refine rx_goto X dX7_rest_29 ?_
      refine rx_iret X dX7_rest_45 ?_
      intro r2 ρ2 hpq
      rw [sp_rest, sp_lk, if_neg (by omega), hna, if_pos ((wB.2.2 a ha ha3 trivial).has.mp h24)] at hpq
      obtain ⟨rfl, rfl⟩ := Prod.mk.inj hpq
      clear hpq
      exact ⟨rfl, h⟩
  · refine rx_if_ne_f X dX7_rest_6 (by decide) ?_
    refine rx_ldc X dX7_rest_9 kcX7_71 ?_
    refine rx_iret X dX7_rest_11 ?_
    intro r2 ρ2 hpq
    rw [sp_rest, sp_lk, if_pos (by omega)] at hpq
    obtain ⟨rfl, rfl⟩ := Prod.mk.inj hpq
    clear hpq
    exact ⟨rfl, h⟩
set_option maxHeartbeats 1000000 in
set_option maxRecDepth 100000 in
theorem kX7_passed {l : Launch} {O : rx_O} (hO : cb_O O) {σ : rx_S} {ρ : rx_S} {x n : Int32} (h : cR σ ρ) : rx_MI l O yX7_passed cX7_passed 3 (some .int) 5 [.ref 0, .int x, .int n] σ (fun r τ => ∀ r2 ρ2, (sp_passed ρ x n = (r2, ρ2)) → r = r2 ∧ cR τ ρ2) := by
  refine rx_Met_of (own := RX7) rfl hO.2.1 vsX7_passed.2.2.2.2.2 (Nat.le_of_ble_eq_true rfl) rfl (fun p e s m args below meth c X => ?_)
  obtain ⟨⟨w1, wC, wB, wW⟩, ⟨s1, s2, s3⟩, hr, ht, hA, hI, hK⟩ := id h
  refine rx_aload_n (i := 0) X dX7_passed_0 rfl rfl ?_
  refine rx_iload_n (i := 1) X dX7_passed_1 rfl rfl ?_
  refine rx_iload_n (i := 2) X dX7_passed_2 rfl rfl ?_
  refine rx_callVi (ci := 7) X vsX7_isAskedAhead mlX7_226 (kX7_isAskedAhead hO wB.2.1.1.2.2.2) (kc_0 hO) rfl rfl (by decide) (by decide) dX7_passed_3 rfl (Nat.le_of_ble_eq_true rfl) (fun r3 t3 h3 => ?_)
  obtain ⟨rfl, ⟨rfl, h3⟩ | ⟨rfl, h3⟩⟩ := h3
  · obtain ⟨a, rfl, ha, ha3, hna, hth, hv⟩ := h.ant h3.1
    obtain ⟨mm, rfl, hmm1, hmm2, hmm3⟩ := i_nat (x := n) (by omega)
    refine rx_if_ne_t X dX7_passed_6 (by decide) ?_
    refine rx_aload_n (i := 0) X dX7_passed_12 rfl rfl ?_
    refine rx_getR (ci := 7) (i := 4) X (kc_0 hO) rfl rfl (by decide) inX7 flX7_40 dX7_passed_13 ?_
    refine rx_aload_n (i := 0) X dX7_passed_16 rfl rfl ?_
    refine rx_getR (ci := 7) (i := 0) X (kc_0 hO) rfl rfl (by decide) inX7 flX7_10 dX7_passed_17 ?_
    refine rx_iload_n (i := 1) X dX7_passed_20 rfl rfl ?_
    refine rx_iload_n (i := 2) X dX7_passed_21 rfl rfl ?_
    refine rx_callVi (ci := 4) X vsX4_passing mlX7_249 (kX4_passing hO wB hv wC.1 (by omega) ha ha3) (kc_242 hO) rfl rfl (by decide) (by decide) dX7_passed_22 rfl (Nat.le_of_ble_eq_true rfl) (fun r22 t22 h22 => ?_)
    obtain ⟨rfl, h22f, h22b⟩ := h22
    refine rx_iret X dX7_passed_25 ?_
    intro r2 ρ2 hpq
    rw [sp_passed, if_neg (by omega), hna, hmm3, s2] at hpq
    obtain ⟨rfl, rfl⟩ := Prod.mk.inj hpq
    clear hpq
    exact ⟨rfl, (h.fore (fun k hk => h22f.2 k (by omega)) h22b).aside⟩
  · refine rx_if_ne_f X dX7_passed_6 (by decide) ?_
    refine rx_ldc X dX7_passed_9 kcX7_71 ?_
    refine rx_iret X dX7_passed_11 ?_
    intro r2 ρ2 hpq
    rw [sp_passed, if_pos (by omega)] at hpq
    obtain ⟨rfl, rfl⟩ := Prod.mk.inj hpq
    clear hpq
    exact ⟨rfl, h⟩
set_option maxHeartbeats 1000000 in
set_option maxRecDepth 100000 in
theorem kX7_half {l : Launch} {O : rx_O} (hO : cb_O O) {σ : rx_S} {ρ : rx_S} {x : Int32} (h : cR σ ρ) : rx_MI l O yX7_half cX7_half 2 (some .int) 5 [.ref 0, .int x] σ (fun r τ => ∀ r2 ρ2, (sp_half ρ x = (r2, ρ2)) → r = r2 ∧ cR τ ρ2) := by
  refine rx_Met_of (own := RX7) rfl hO.2.1 vsX7_half.2.2.2.2.2 (Nat.le_of_ble_eq_true rfl) rfl (fun p e s m args below meth c X => ?_)
  obtain ⟨⟨w1, wC, wB, wW⟩, ⟨s1, s2, s3⟩, hr, ht, hA, hI, hK⟩ := id h
  refine rx_aload_n (i := 0) X dX7_half_0 rfl rfl ?_
  refine rx_getR (ci := 7) (i := 0) X (kc_0 hO) rfl rfl (by decide) inX7 flX7_10 dX7_half_1 ?_
  refine rx_iload_n (i := 1) X dX7_half_4 rfl rfl ?_
  refine rx_callVi (ci := 3) X vsX3_hasAnt mlX7_173 (kX3_hasAnt hO cb_B1 wB.2.1.1.2.2.2) (kb_0 hO cb_B1) rfl rfl (by decide) (by decide) dX7_half_5 rfl (Nat.le_of_ble_eq_true rfl) (fun r5 t5 h5 => ?_)
  obtain ⟨rfl, ⟨rfl, h5⟩ | ⟨rfl, h5⟩⟩ := h5
  · obtain ⟨a, rfl, ha, ha3, hna, hth, hv⟩ := h.ant h5
    refine rx_if_ne_t X dX7_half_8 (by decide) ?_
    refine rx_aload_n (i := 0) X dX7_half_14 rfl rfl ?_
    refine rx_getR (ci := 7) (i := 0) X (kc_0 hO) rfl rfl (by decide) inX7 flX7_10 dX7_half_15 ?_
    refine rx_getR (ci := 3) (i := 5) X (kb_0 hO cb_B1) rfl rfl (by decide) inX3 flX7_176 dX7_half_18 ?_
    refine rx_iload_n (i := 1) X dX7_half_21 rfl rfl ?_
    refine rx_aaldN (j := a) X (kb_2 hO cb_B1) hO.2.2.2.2.2.1 rfl ha (by decide) (kb_el ha) dX7_half_22 ?_
    refine rx_getZ (ci := 1) (i := 5) X (kb_a hO cb_B1 ha) rfl rfl (by decide) inX1 flX7_180 dX7_half_23 ?_
    refine rx_if_eq X dX7_half_26 (fun h26 => ?_) (fun h26 => ?_)
    · refine rx_aload_n (i := 0) X dX7_half_34 rfl rfl ?_
      refine rx_getR (ci := 7) (i := 4) X (kc_0 hO) rfl rfl (by decide) inX7 flX7_40 dX7_half_35 ?_
      refine rx_aload_n (i := 0) X dX7_half_38 rfl rfl ?_
      refine rx_getR (ci := 7) (i := 0) X (kc_0 hO) rfl rfl (by decide) inX7 flX7_10 dX7_half_39 ?_
      refine rx_iload_n (i := 1) X dX7_half_42 rfl rfl ?_
      refine rx_callVi (ci := 4) X vsX4_halfCrossed mlX7_243 (kX4_halfCrossed hO wB hv wC.1 ha ha3) (kc_242 hO) rfl rfl (by decide) (by decide) dX7_half_43 rfl (Nat.le_of_ble_eq_true rfl) (fun r43 t43 h43 => ?_)
      obtain ⟨rfl, h43f, h43b⟩ := h43
      refine rx_iret X dX7_half_46 ?_
      intro r2 ρ2 hpq
      rw [sp_half, sp_lk, if_neg (fun q => q.elim (fun z => z h5) (fun z => z (by decide))), hna, if_neg (fun q => (wB.2.2 a ha ha3 trivial).has.mpr q h26), s2] at hpq
      obtain ⟨rfl, rfl⟩ := Prod.mk.inj hpq
      clear hpq
      exact ⟨rfl, (h.fore (fun k hk => h43f.2 k (by omega)) h43b).aside⟩
    · refine rx_ldc X dX7_half_29 kcX7_148 ?_
      refine rx_goto X dX7_half_31 ?_
      refine rx_iret X dX7_half_46 ?_
      intro r2 ρ2 hpq
      rw [sp_half, sp_lk, if_neg (fun q => q.elim (fun z => z h5) (fun z => z (by decide))), hna, if_pos ((wB.2.2 a ha ha3 trivial).has.mp h26)] at hpq
      obtain ⟨rfl, rfl⟩ := Prod.mk.inj hpq
      clear hpq
      exact ⟨rfl, h⟩
  · refine rx_if_ne_f X dX7_half_8 (by decide) ?_
    refine rx_ldc X dX7_half_11 kcX7_71 ?_
    refine rx_iret X dX7_half_13 ?_
    intro r2 ρ2 hpq
    rw [sp_half, sp_lk, if_pos (Or.inl h5)] at hpq
    obtain ⟨rfl, rfl⟩ := Prod.mk.inj hpq
    clear hpq
    exact ⟨rfl, h⟩
set_option maxHeartbeats 1000000 in
set_option maxRecDepth 100000 in
theorem kX7_order {l : Launch} {O : rx_O} (hO : cb_O O) {σ : rx_S} {ρ : rx_S} {x late kk : Int32} (h : cR σ ρ) : rx_MI l O yX7_order cX7_order 5 (some .int) 6 [.ref 0, .int x, .int late, .int kk] σ (fun r τ => ∀ r2 ρ2, (r2 = sp_orderV ρ x late kk ∧ mo_sam ρ ρ2) → r = r2 ∧ cR τ ρ2) := by
  refine rx_Met_of (own := RX7) rfl hO.2.1 vsX7_order.2.2.2.2.2 (Nat.le_of_ble_eq_true rfl) rfl (fun p e s m args below meth c X => ?_)
  obtain ⟨⟨w1, wC, wB, wW⟩, ⟨s1, s2, s3⟩, hr, ht, hA, hI, hK⟩ := id h
  refine rx_aload_n (i := 0) X dX7_order_0 rfl rfl ?_
  refine rx_getR (ci := 7) (i := 0) X (kc_0 hO) rfl rfl (by decide) inX7 flX7_10 dX7_order_1 ?_
  refine rx_iload_n (i := 1) X dX7_order_4 rfl rfl ?_
  refine rx_callVi (ci := 3) X vsX3_hasAnt mlX7_173 (kX3_hasAnt hO cb_B1 wB.2.1.1.2.2.2) (kb_0 hO cb_B1) rfl rfl (by decide) (by decide) dX7_order_5 rfl (Nat.le_of_ble_eq_true rfl) (fun r5 t5 h5 => ?_)
  obtain ⟨rfl, ⟨rfl, h5⟩ | ⟨rfl, h5⟩⟩ := h5
  · obtain ⟨a, rfl, ha, ha3, hna, hth, hv⟩ := h.ant h5
    refine rx_if_eq_f X dX7_order_8 (by decide) ?_
    refine rx_iload_n (i := 2) X dX7_order_11 rfl rfl ?_
    refine rx_if_lt X dX7_order_12 (fun h12 => ?_) (fun h12 => ?_)
    · try simp only [Int32.lt_iff_toInt_lt, Int32.le_iff_toInt_le, Int32.reduceToInt] at h12
      refine rx_ldc X dX7_order_25 kcX7_71 ?_
      refine rx_iret X dX7_order_27 ?_
      rintro r2 ρ2 ⟨rfl, hm⟩
      exact ⟨by rw [sp_orderV, if_pos (by omega)], h.sam hm⟩
    · try simp only [Int32.lt_iff_toInt_lt, Int32.le_iff_toInt_le, Int32.reduceToInt] at h12
      refine rx_iload_n (i := 2) X dX7_order_15 rfl rfl ?_
      refine rx_iconst (v := 1) X dX7_order_16 (by decide) ?_
      refine rx_icmp_gt X dX7_order_17 (fun h17 => ?_) (fun h17 => ?_)
      · try simp only [Int32.lt_iff_toInt_lt, Int32.le_iff_toInt_le, Int32.reduceToInt] at h17
        refine rx_ldc X dX7_order_25 kcX7_71 ?_
        refine rx_iret X dX7_order_27 ?_
        rintro r2 ρ2 ⟨rfl, hm⟩
        exact ⟨by rw [sp_orderV, if_pos (by omega)], h.sam hm⟩
      · try simp only [Int32.lt_iff_toInt_lt, Int32.le_iff_toInt_le, Int32.reduceToInt] at h17
        refine rx_iload_n (i := 3) X dX7_order_20 rfl rfl ?_
        refine rx_iconst (v := -1) X dX7_order_21 (by decide) ?_
        refine rx_icmp_ge X dX7_order_22 (fun h22 => ?_) (fun h22 => ?_)
        · try simp only [Int32.lt_iff_toInt_lt, Int32.le_iff_toInt_le, Int32.reduceToInt] at h22
          refine rx_aload_n (i := 0) X dX7_order_28 rfl rfl ?_
          refine rx_getR (ci := 7) (i := 0) X (kc_0 hO) rfl rfl (by decide) inX7 flX7_10 dX7_order_29 ?_
          refine rx_getR (ci := 3) (i := 5) X (kb_0 hO cb_B1) rfl rfl (by decide) inX3 flX7_176 dX7_order_32 ?_
          refine rx_iload_n (i := 1) X dX7_order_35 rfl rfl ?_
          refine rx_aaldN (j := a) X (kb_2 hO cb_B1) hO.2.2.2.2.2.1 rfl ha (by decide) (kb_el ha) dX7_order_36 ?_
          refine rx_getZ (ci := 1) (i := 5) X (kb_a hO cb_B1 ha) rfl rfl (by decide) inX1 flX7_180 dX7_order_37 ?_
          refine rx_if_eq X dX7_order_40 (fun h40 => ?_) (fun h40 => ?_)
          · refine rx_iload_n (i := 3) X dX7_order_46 rfl rfl ?_
            refine rx_aload_n (i := 0) X dX7_order_47 rfl rfl ?_
            refine rx_getR (ci := 7) (i := 0) X (kc_0 hO) rfl rfl (by decide) inX7 flX7_10 dX7_order_48 ?_
            refine rx_getI (ci := 3) (i := 2) X (kb_0 hO cb_B1) rfl rfl (by decide) inX3 flX7_164 dX7_order_51 ?_
            refine rx_top wB.2.1.1.2.2.1 ?_
            refine rx_icmp_lt X dX7_order_54 (fun h54 => ?_) (fun h54 => ?_)
            · try simp only [Int32.lt_iff_toInt_lt, Int32.le_iff_toInt_le, Int32.reduceToInt] at h54
              refine rx_aload_n (i := 0) X dX7_order_60 rfl rfl ?_
              refine rx_getR (ci := 7) (i := 4) X (kc_0 hO) rfl rfl (by decide) inX7 flX7_40 dX7_order_61 ?_
              refine rx_aload_n (i := 0) X dX7_order_64 rfl rfl ?_
              refine rx_getR (ci := 7) (i := 0) X (kc_0 hO) rfl rfl (by decide) inX7 flX7_10 dX7_order_65 ?_
              refine rx_iload_n (i := 1) X dX7_order_68 rfl rfl ?_
              refine rx_iload_n (i := 2) X dX7_order_69 rfl rfl ?_
              refine rx_iconst (v := 1) X dX7_order_70 (by decide) ?_
              refine rx_icmp_ne X dX7_order_71 (fun h71 => ?_) (fun h71 => ?_)
              · have hl0 : late = 0 := by
                  simp only [← Int32.toInt_inj, Int32.reduceToInt] at h71 ⊢
                  omega
                subst hl0
                refine rx_iconst (v := 0) X dX7_order_78 (by decide) ?_
                have n2 := hv.n2
                have i2 := rx_Ni (x := ρ.1 4 2) (by have := hv.2.2.1; omega)
                have hnh : ¬ w_has (ρ.1 4 4) a := fun q => (wB.2.2 a ha ha3 trivial).has.mpr q h40
                refine rx_callVi (ci := 4) X vsX4_bestOrder mlX7_236 (kX4_bestOrder0 hO wB hv wC.1 ha ha3 hnh n2 (rx_nN (by omega))) (kc_242 hO) rfl rfl (by decide) (by decide) dX7_order_79 rfl (Nat.le_of_ble_eq_true rfl) (fun r79 t79 h79 => ?_)
                obtain ⟨rfl, g2, g3, g4, g5⟩ := h79
                refine rx_istore (i := 4) (lo2 := [(0, .ref _), (1, .int _), (2, .int _), (3, .int _), (4, .int _)]) X dX7_order_82 (by decide) rfl ?_
                refine rx_iload_n (i := 3) X dX7_order_84 rfl rfl ?_
                refine rx_iconst (v := -1) X dX7_order_85 (by decide) ?_
                refine rx_icmp_ne X dX7_order_86 (fun h86 => ?_) (fun h86 => ?_)
                · have hk0 : 0 ≤ kk.toInt := by
                    have e1 : (-1 : Int32).toInt = -1 := rfl
                    have : ¬ kk.toInt = -1 := fun z => h86 (Int32.toInt_inj.mp (z.trans e1.symm))
                    omega
                  obtain ⟨mm, rfl, hmm1, hmm2, hmm3⟩ := i_nat (x := kk) (by omega)
                  refine rx_aload_n (i := 0) X dX7_order_94 rfl rfl ?_
                  refine rx_getR (ci := 7) (i := 4) X (kc_0 hO) rfl rfl (by decide) inX7 flX7_40 dX7_order_95 ?_
                  refine rx_getR (ci := 4) (i := 2) X (kc_242 hO) rfl rfl (by decide) inX4 flX7_240 dX7_order_98 ?_
                  refine rx_iload_n (i := 3) X dX7_order_101 rfl rfl ?_
                  refine rx_ialdN (j := mm) X (kc_253 hO) hO.2.2.1 rfl (by omega) (by decide) dX7_order_102 ?_
                  refine rx_top (g2.2 mm (by omega)) ?_
                  refine rx_iret X dX7_order_103 ?_
                  rintro r2 ρ2 ⟨rfl, hm⟩
                  exact ⟨by rw [sp_orderV, if_neg (by omega), hna, if_neg (fun q => (wB.2.2 a ha ha3 trivial).has.mpr q h40), if_neg (by omega), if_pos (by omega), s2, hmm3], (h.fore (fun k hk => g3 k (by omega)) g5).sam hm⟩
                · refine rx_iload (i := 4) X dX7_order_89 rfl ?_
                  refine rx_goto X dX7_order_91 ?_
                  refine rx_iret X dX7_order_103 ?_
                  rintro r2 ρ2 ⟨rfl, hm⟩
                  have hkm : kk.toInt = -1 := by rw [h86]; rfl
                  have hk1 : kk.toInt < 0 := by omega
                  exact ⟨by conv => rhs; rw [sp_orderV, if_neg (by omega), hna, if_neg (fun q => (wB.2.2 a ha ha3 trivial).has.mpr q h40), if_pos hk1, s2], (h.fore (fun k hk => g3 k (by omega)) g5).sam hm⟩
              · subst h71
                refine rx_iconst (v := 1) X dX7_order_74 (by decide) ?_
                refine rx_goto X dX7_order_75 ?_
                have n2 := hv.n2
                have i2 := rx_Ni (x := ρ.1 4 2) (by have := hv.2.2.1; omega)
                have hnh : ¬ w_has (ρ.1 4 4) a := fun q => (wB.2.2 a ha ha3 trivial).has.mpr q h40
                refine rx_callVi (ci := 4) X vsX4_bestOrder mlX7_236 (kX4_bestOrder1 hO wB hv wC.1 ha ha3 hnh n2 (rx_nN (by omega))) (kc_242 hO) rfl rfl (by decide) (by decide) dX7_order_79 rfl (Nat.le_of_ble_eq_true rfl) (fun r79 t79 h79 => ?_)
                obtain ⟨rfl, g2, g3, g4, g5⟩ := h79
                refine rx_istore (i := 4) (lo2 := [(0, .ref _), (1, .int _), (2, .int _), (3, .int _), (4, .int _)]) X dX7_order_82 (by decide) rfl ?_
                refine rx_iload_n (i := 3) X dX7_order_84 rfl rfl ?_
                refine rx_iconst (v := -1) X dX7_order_85 (by decide) ?_
                refine rx_icmp_ne X dX7_order_86 (fun h86 => ?_) (fun h86 => ?_)
                · have hk0 : 0 ≤ kk.toInt := by
                    have e1 : (-1 : Int32).toInt = -1 := rfl
                    have : ¬ kk.toInt = -1 := fun z => h86 (Int32.toInt_inj.mp (z.trans e1.symm))
                    omega
                  obtain ⟨mm, rfl, hmm1, hmm2, hmm3⟩ := i_nat (x := kk) (by omega)
                  refine rx_aload_n (i := 0) X dX7_order_94 rfl rfl ?_
                  refine rx_getR (ci := 7) (i := 4) X (kc_0 hO) rfl rfl (by decide) inX7 flX7_40 dX7_order_95 ?_
                  refine rx_getR (ci := 4) (i := 2) X (kc_242 hO) rfl rfl (by decide) inX4 flX7_240 dX7_order_98 ?_
                  refine rx_iload_n (i := 3) X dX7_order_101 rfl rfl ?_
                  refine rx_ialdN (j := mm) X (kc_253 hO) hO.2.2.1 rfl (by omega) (by decide) dX7_order_102 ?_
                  refine rx_top (g2.2 mm (by omega)) ?_
                  refine rx_iret X dX7_order_103 ?_
                  rintro r2 ρ2 ⟨rfl, hm⟩
                  exact ⟨by rw [sp_orderV, if_neg (by omega), hna, if_neg (fun q => (wB.2.2 a ha ha3 trivial).has.mpr q h40), if_neg (by omega), if_pos (by omega), s2, hmm3], (h.fore (fun k hk => g3 k (by omega)) g5).sam hm⟩
                · refine rx_iload (i := 4) X dX7_order_89 rfl ?_
                  refine rx_goto X dX7_order_91 ?_
                  refine rx_iret X dX7_order_103 ?_
                  rintro r2 ρ2 ⟨rfl, hm⟩
                  have hkm : kk.toInt = -1 := by rw [h86]; rfl
                  have hk1 : kk.toInt < 0 := by omega
                  exact ⟨by conv => rhs; rw [sp_orderV, if_neg (by omega), hna, if_neg (fun q => (wB.2.2 a ha ha3 trivial).has.mpr q h40), if_pos hk1, s2], (h.fore (fun k hk => g3 k (by omega)) g5).sam hm⟩
            · try simp only [Int32.lt_iff_toInt_lt, Int32.le_iff_toInt_le, Int32.reduceToInt] at h54
              refine rx_ldc X dX7_order_57 kcX7_204 ?_
              refine rx_iret X dX7_order_59 ?_
              rintro r2 ρ2 ⟨rfl, hm⟩
              have := hv.2.2.1
              exact ⟨by rw [sp_orderV, if_neg (by omega), hna, if_neg (fun q => (wB.2.2 a ha ha3 trivial).has.mpr q h40), if_neg (by omega), if_neg (by omega)], h.sam hm⟩
          · refine rx_ldc X dX7_order_43 kcX7_148 ?_
            refine rx_iret X dX7_order_45 ?_
            rintro r2 ρ2 ⟨rfl, hm⟩
            exact ⟨by rw [sp_orderV, if_neg (by omega), hna, if_pos ((wB.2.2 a ha ha3 trivial).has.mp h40)], h.sam hm⟩
        · try simp only [Int32.lt_iff_toInt_lt, Int32.le_iff_toInt_le, Int32.reduceToInt] at h22
          refine rx_ldc X dX7_order_25 kcX7_71 ?_
          refine rx_iret X dX7_order_27 ?_
          rintro r2 ρ2 ⟨rfl, hm⟩
          exact ⟨by rw [sp_orderV, if_pos (by omega)], h.sam hm⟩
  · refine rx_if_eq_t X dX7_order_8 (by decide) ?_
    refine rx_ldc X dX7_order_25 kcX7_71 ?_
    refine rx_iret X dX7_order_27 ?_
    rintro r2 ρ2 ⟨rfl, hm⟩
    exact ⟨by rw [sp_orderV, if_pos (by omega)], h.sam hm⟩
theorem kX4_fit {l : Launch} {O : rx_O} (hO : cb_O O) {σ : rx_S} {n a at0 : Nat} {w f : Nat → Int32} {wh : Int32} (hwh : 0 ≤ wh.toInt ∧ wh.toInt ≤ 2) (hw : cb_R cb_T σ 1 w) (hv : w_V 999 w) (hb : w_B w) (ha : a < 6) (ha3 : a < rx_N (w 3)) (hbo : cb_bo σ 243) (hm4 : σ.1 242 4 = nI n) (hm : ∀ i, i < n → σ.1 254 i = f (at0 + i)) (hn12 : n ≤ 12) : rx_MI l O yX4_fitting cX4_fitting 8 (some .int) 5 [.ref 242, .ref 1, .int (nI a), .int wh] σ (fun r τ => (if wh = 0 then w_who (-1) (10 + a) a f at0 n w 5 else if wh = 1 then w_who (-1) (16 + a) a f at0 n w 20 else w_who (-1) (28 + a) a f at0 n w 9) = r ∧ cb_fr 243 σ τ ∧ cb_bo τ 243) := by
  have h3 : wh = 0 ∨ wh = 1 ∨ wh = 2 := by
    simp only [← Int32.toInt_inj, Int32.reduceToInt]
    omega
  rcases h3 with rfl | rfl | rfl
  · exact kX4_fitting0 hO hw hv hb ha ha3 hbo hm4 hm hn12
  · exact kX4_fitting1 hO hw hv hb ha ha3 hbo hm4 hm hn12
  · exact kX4_fitting2 hO hw hv hb ha ha3 hbo hm4 hm hn12
section
variable {ρ : rx_S} {r i n : Int32}
theorem li_1 (h : ¬ ((0 ≤ r.toInt ∧ r.toInt ≤ 7) ∧ 1 ≤ n.toInt ∧ n.toInt ≤ 12)) : sp_li ρ r i n = (-1000001, ρ) := by rw [sp_li, if_pos (by omega)]
theorem li_2 (h : (0 ≤ r.toInt ∧ r.toInt ≤ 7) ∧ 1 ≤ n.toInt ∧ n.toInt ≤ 12) (h2 : (ρ.1 2 (rx_N r)).toInt < 0) : sp_li ρ r i n = (-1000011, rx_u ρ 0 3 1) := by rw [sp_li, if_neg (by omega), if_pos h2]
theorem li_3 (h : (0 ≤ r.toInt ∧ r.toInt ≤ 7) ∧ 1 ≤ n.toInt ∧ n.toInt ≤ 12) (h2 : ¬ (ρ.1 2 (rx_N r)).toInt < 0) (h3 : ¬ (0 ≤ i.toInt ∧ i.toInt ≤ (ρ.1 2 (rx_N r)).toInt - n.toInt)) : sp_li ρ r i n = (-1000012, rx_u ρ 0 3 2) := by rw [sp_li, if_neg (by omega), if_neg h2, if_pos h3]
theorem li_0 (h : (0 ≤ r.toInt ∧ r.toInt ≤ 7) ∧ 1 ≤ n.toInt ∧ n.toInt ≤ 12) (h2 : ¬ (ρ.1 2 (rx_N r)).toInt < 0) (h3 : 0 ≤ i.toInt ∧ i.toInt ≤ (ρ.1 2 (rx_N r)).toInt - n.toInt) : sp_li ρ r i n = (0, ρ) := by rw [sp_li, if_neg (by omega), if_neg h2, if_neg (fun q => q h3)]
theorem who_1 {x wh : Int32} {v : Int32} {st : rx_S} (h : ¬ (¬ mo_ant ρ x ∨ ¬ (0 ≤ wh.toInt ∧ wh.toInt ≤ 2))) (hl : sp_li ρ r i n = (v, st)) (hv : ¬ v = 0) : sp_who ρ x wh r i n = (v, st) := by rw [sp_who, if_neg h, hl, if_neg hv]
theorem who_0 {x wh : Int32} (h : ¬ (¬ mo_ant ρ x ∨ ¬ (0 ≤ wh.toInt ∧ wh.toInt ≤ 2))) (hl : sp_li ρ r i n = (0, ρ)) : sp_who ρ x wh r i n = (if wh = 0 then w_who (ρ.1 0 6) (10 + rx_N x) (rx_N x) (ρ.1 3) (40 * rx_N r + rx_N i) (rx_N n) (ρ.1 4) 5 else if wh = 1 then w_who (ρ.1 0 6) (16 + rx_N x) (rx_N x) (ρ.1 3) (40 * rx_N r + rx_N i) (rx_N n) (ρ.1 4) 20 else w_who (ρ.1 0 6) (28 + rx_N x) (rx_N x) (ρ.1 3) (40 * rx_N r + rx_N i) (rx_N n) (ρ.1 4) 9, rx_u (sp_aside ρ) 0 3 0) := by rw [sp_who, if_neg h, hl, if_pos rfl]
theorem which_1 {v : Int32} {st : rx_S} (h : ¬ ρ.1 0 4 = 0) (hl : sp_li ρ r i n = (v, st)) (hv : ¬ v = 0) : sp_which ρ r i n = (v, st) := by rw [sp_which, if_neg h, hl, if_neg hv]
theorem which_0 (h : ¬ ρ.1 0 4 = 0) (hl : sp_li ρ r i n = (0, ρ)) : sp_which ρ r i n = (w_whi (ρ.1 0 6) (ρ.1 3) (40 * rx_N r + rx_N i) (rx_N n) (ρ.1 4) (rx_N (ρ.1 4 3)), rx_u (sp_aside ρ) 0 3 0) := by rw [sp_which, if_neg h, hl, if_pos rfl]
end
set_option maxHeartbeats 1000000 in
set_option maxRecDepth 100000 in
theorem kX7_who {l : Launch} {O : rx_O} (hO : cb_O O) {σ : rx_S} {ρ : rx_S} {x wh xr i n : Int32} (h : cR σ ρ) : rx_MI l O yX7_who cX7_who 7 (some .int) 6 [.ref 0, .int x, .int wh, .int xr, .int i, .int n] σ (fun r τ => ∀ r2 ρ2, (sp_who ρ x wh xr i n = (r2, ρ2)) → r = r2 ∧ cR τ ρ2) := by
  refine rx_Met_of (own := RX7) rfl hO.2.1 vsX7_who.2.2.2.2.2 (Nat.le_of_ble_eq_true rfl) rfl (fun p e s m args below meth c X => ?_)
  obtain ⟨⟨w1, wC, wB, wW⟩, ⟨s1, s2, s3⟩, hr, ht, hA, hI, hK⟩ := id h
  refine rx_aload_n (i := 0) X dX7_who_0 rfl rfl ?_
  refine rx_getR (ci := 7) (i := 0) X (kc_0 hO) rfl rfl (by decide) inX7 flX7_10 dX7_who_1 ?_
  refine rx_iload_n (i := 1) X dX7_who_4 rfl rfl ?_
  refine rx_callVi (ci := 3) X vsX3_hasAnt mlX7_173 (kX3_hasAnt hO cb_B1 wB.2.1.1.2.2.2) (kb_0 hO cb_B1) rfl rfl (by decide) (by decide) dX7_who_5 rfl (Nat.le_of_ble_eq_true rfl) (fun r5 t5 h5 => ?_)
  obtain ⟨rfl, ⟨rfl, h5⟩ | ⟨rfl, h5⟩⟩ := h5
  · obtain ⟨a, rfl, ha, ha3, hna, hth, hv⟩ := h.ant h5
    refine rx_if_eq_f X dX7_who_8 (by decide) ?_
    refine rx_iload_n (i := 2) X dX7_who_11 rfl rfl ?_
    refine rx_if_lt X dX7_who_12 (fun h12 => ?_) (fun h12 => ?_)
    · try simp only [Int32.lt_iff_toInt_lt, Int32.le_iff_toInt_le, Int32.reduceToInt] at h12
      refine rx_ldc X dX7_who_30 kcX7_71 ?_
      refine rx_iret X dX7_who_32 ?_
      intro r2 ρ2 hq
      rw [sp_who, if_pos (by omega)] at hq
      obtain ⟨rfl, rfl⟩ := Prod.mk.inj hq
      exact ⟨rfl, h⟩
    · try simp only [Int32.lt_iff_toInt_lt, Int32.le_iff_toInt_le, Int32.reduceToInt] at h12
      refine rx_iload_n (i := 2) X dX7_who_15 rfl rfl ?_
      refine rx_iconst (v := 2) X dX7_who_16 (by decide) ?_
      refine rx_icmp_gt X dX7_who_17 (fun h17 => ?_) (fun h17 => ?_)
      · try simp only [Int32.lt_iff_toInt_lt, Int32.le_iff_toInt_le, Int32.reduceToInt] at h17
        refine rx_ldc X dX7_who_30 kcX7_71 ?_
        refine rx_iret X dX7_who_32 ?_
        intro r2 ρ2 hq
        rw [sp_who, if_pos (by omega)] at hq
        obtain ⟨rfl, rfl⟩ := Prod.mk.inj hq
        exact ⟨rfl, h⟩
      · try simp only [Int32.lt_iff_toInt_lt, Int32.le_iff_toInt_le, Int32.reduceToInt] at h17
        refine rx_aload_n (i := 0) X dX7_who_20 rfl rfl ?_
        refine rx_iload_n (i := 3) X dX7_who_21 rfl rfl ?_
        refine rx_iload (i := 5) X dX7_who_22 rfl ?_
        refine rx_callVi (ci := 7) X vsX7_isRowAsked mlX7_252 (kX7_isRowAsked hO) (kc_0 hO) rfl rfl (by decide) (by decide) dX7_who_24 rfl (Nat.le_of_ble_eq_true rfl) (fun r24 t24 h24 => ?_)
        obtain ⟨rfl, ⟨rfl, h24⟩ | ⟨rfl, h24⟩⟩ := h24
        · obtain ⟨r, rfl, hr8, hNr⟩ := row_nat h24.1
          have hz1 := sz_neg (hr.1 r hr8).1
          have hs40 := (hr.1 r hr8).2
          refine rx_if_ne_t X dX7_who_27 (by decide) ?_
          refine rx_aload_n (i := 0) X dX7_who_33 rfl rfl ?_
          refine rx_iload_n (i := 3) X dX7_who_34 rfl rfl ?_
          refine rx_iload (i := 4) X dX7_who_35 rfl ?_
          refine rx_iload (i := 5) X dX7_who_37 rfl ?_
          refine rx_callVi (ci := 7) X vsX7_rowFinding mlX7_83 (kX7_rowFinding hO hr8 (by rw [(hr.2.1 r hr8).2]; exact (hr.1 r hr8).1)) (kc_0 hO) rfl rfl (by decide) (by decide) dX7_who_39 rfl (Nat.le_of_ble_eq_true rfl) (fun r39 t39 h39 => ?_)
          rw [(hr.2.1 r hr8).2] at h39
          obtain ⟨rfl, ⟨rfl, h39⟩ | ⟨rfl, h39m, h39⟩ | ⟨rfl, h39m, h39⟩⟩ := h39
          · refine rx_istore (i := 6) (lo2 := [(0, .ref _), (1, .int _), (2, .int _), (3, .int _), (4, .int _), (5, .int _), (6, .int _)]) X dX7_who_42 (by decide) rfl ?_
            refine rx_iload (i := 6) X dX7_who_44 rfl ?_
            refine rx_if_eq_f X dX7_who_46 (by decide) ?_
            refine rx_aload_n (i := 0) X dX7_who_49 rfl rfl ?_
            refine rx_iload (i := 6) X dX7_who_50 rfl ?_
            refine rx_callVi (ci := 7) X vsX7_found mlX7_72 (kX7_found hO) (kc_0 hO) rfl rfl (by decide) (by decide) dX7_who_52 rfl (Nat.le_of_ble_eq_true rfl) (fun r52 t52 h52 => ?_)
            obtain ⟨rfl, rfl⟩ := h52
            refine rx_iret X dX7_who_55 ?_
            intro r2 ρ2 hpq
            rw [who_1 (by omega) (li_2 h24 (by rw [hNr]; exact hz1.mp h39)) (by decide)] at hpq
            obtain ⟨rfl, rfl⟩ := Prod.mk.inj hpq
            clear hpq
            exact ⟨by decide, h.st⟩
          · refine rx_istore (i := 6) (lo2 := [(0, .ref _), (1, .int _), (2, .int _), (3, .int _), (4, .int _), (5, .int _), (6, .int _)]) X dX7_who_42 (by decide) rfl ?_
            refine rx_iload (i := 6) X dX7_who_44 rfl ?_
            refine rx_if_eq_f X dX7_who_46 (by decide) ?_
            refine rx_aload_n (i := 0) X dX7_who_49 rfl rfl ?_
            refine rx_iload (i := 6) X dX7_who_50 rfl ?_
            refine rx_callVi (ci := 7) X vsX7_found mlX7_72 (kX7_found hO) (kc_0 hO) rfl rfl (by decide) (by decide) dX7_who_52 rfl (Nat.le_of_ble_eq_true rfl) (fun r52 t52 h52 => ?_)
            obtain ⟨rfl, rfl⟩ := h52
            refine rx_iret X dX7_who_55 ?_
            intro r2 ρ2 hpq
            rw [who_1 (by omega) (li_3 h24 (by rw [hNr]; exact fun q => h39m (hz1.mpr q)) (by rw [hNr]; omega)) (by decide)] at hpq
            obtain ⟨rfl, rfl⟩ := Prod.mk.inj hpq
            clear hpq
            exact ⟨by decide, h.st⟩
          · refine rx_istore (i := 6) (lo2 := [(0, .ref _), (1, .int _), (2, .int _), (3, .int _), (4, .int _), (5, .int _), (6, .int _)]) X dX7_who_42 (by decide) rfl ?_
            refine rx_iload (i := 6) X dX7_who_44 rfl ?_
            refine rx_if_eq_t X dX7_who_46 (by decide) ?_
            refine rx_aload_n (i := 0) X dX7_who_56 rfl rfl ?_
            refine rx_getR (ci := 7) (i := 4) X (kc_0 hO) rfl rfl (by decide) inX7 flX7_40 dX7_who_57 ?_
            refine rx_aload_n (i := 0) X dX7_who_60 rfl rfl ?_
            refine rx_getR (ci := 7) (i := 1) X (kc_0 hO) rfl rfl (by decide) inX7 flX7_19 dX7_who_61 ?_
            refine rx_getR (ci := 5) (i := 0) X (kc_10 hO) rfl rfl (by decide) inX5 flX7_101 dX7_who_64 ?_
            refine rx_iload_n (i := 3) X dX7_who_67 rfl rfl ?_
            refine rx_aaldA (j := r) X (kc_11 hO) hO.2.2.2.2.2.2.1 rfl rfl hr8 (by decide) (kc_rel hr8) dX7_who_68 ?_
            refine rx_iload (i := 4) X dX7_who_69 rfl ?_
            refine rx_iload (i := 5) X dX7_who_71 rfl ?_
            obtain ⟨im, rfl, him1, him2, him3⟩ := i_nat (x := i) (by omega)
            obtain ⟨nm, rfl, hnm1, hnm2, hnm3⟩ := i_nat (x := n) (by omega)
            have hq3 := h39.2.2
            refine rx_callVv (ci := 4) X vsX4_readMarks mlX7_255 (kX4_readMarks hO hr8 (by omega) (by omega)) (kc_242 hO) rfl rfl (by decide) (by decide) dX7_who_73 rfl (Nat.le_of_ble_eq_true rfl) (fun t73 h73 => ?_)
            obtain ⟨g1, g2, g3⟩ := h73
            refine rx_aload_n (i := 0) X dX7_who_76 rfl rfl ?_
            refine rx_aload_n (i := 0) X dX7_who_77 rfl rfl ?_
            refine rx_getR (ci := 7) (i := 4) X (kc_0 hO) rfl rfl (by decide) inX7 flX7_40 dX7_who_78 ?_
            refine rx_aload_n (i := 0) X dX7_who_81 rfl rfl ?_
            refine rx_getR (ci := 7) (i := 0) X (kc_0 hO) rfl rfl (by decide) inX7 flX7_10 dX7_who_82 ?_
            refine rx_iload_n (i := 1) X dX7_who_85 rfl rfl ?_
            refine rx_iload_n (i := 2) X dX7_who_86 rfl rfl ?_
            refine rx_callVi (ci := 4) X vsX4_fitting mlX7_259 (kX4_fit hO (at0 := 40 * r + im) (f := ρ.1 3) (by omega) (wB.out (fun k _ _ => g1 k (by omega) (by omega))) hv wC.1 ha ha3 (fun q hq => by rw [g1 _ (by omega) (by omega)]; exact s3 q hq) g2 (fun j hj => by rw [g3 j hj, hr.2.2 r hr8 (im + j) (by omega) (by omega), ← Nat.add_assoc]) (by omega)) (kc_242 hO) rfl rfl (by decide) (by decide) dX7_who_87 rfl (Nat.le_of_ble_eq_true rfl) (fun r87 t87 h87 => ?_)
            obtain ⟨rfl, h87f, h87b⟩ := h87
            refine rx_callVi (ci := 7) X vsX7_fine mlX7_80 (kX7_fine hO) (kc_0 hO) rfl rfl (by decide) (by decide) dX7_who_90 rfl (Nat.le_of_ble_eq_true rfl) (fun r90 t90 h90 => ?_)
            obtain ⟨rfl, rfl⟩ := h90
            refine rx_iret X dX7_who_93 ?_
            intro r2 ρ2 hpq
            rw [who_0 (by omega) (li_0 h24 (by rw [hNr]; exact fun q => h39m (hz1.mpr q)) (by rw [hNr]; omega)), hNr, him3, hnm3, hna, s2] at hpq
            obtain ⟨rfl, rfl⟩ := Prod.mk.inj hpq
            clear hpq
            exact ⟨rfl, (h.fore (fun k hk => (h87f.2 k (by omega)).trans (g1 k (by omega) (by omega))) h87b).aside.st⟩
        · refine rx_if_ne_f X dX7_who_27 (by decide) ?_
          refine rx_ldc X dX7_who_30 kcX7_71 ?_
          refine rx_iret X dX7_who_32 ?_
          intro r2 ρ2 hpq
          rw [who_1 (by omega) (li_1 h24) (by decide)] at hpq
          obtain ⟨rfl, rfl⟩ := Prod.mk.inj hpq
          clear hpq
          exact ⟨rfl, h⟩
  · refine rx_if_eq_t X dX7_who_8 (by decide) ?_
    refine rx_ldc X dX7_who_30 kcX7_71 ?_
    refine rx_iret X dX7_who_32 ?_
    intro r2 ρ2 hq
    rw [sp_who, if_pos (by omega)] at hq
    obtain ⟨rfl, rfl⟩ := Prod.mk.inj hq
    exact ⟨rfl, h⟩
set_option maxHeartbeats 1000000 in
set_option maxRecDepth 100000 in
theorem kX7_which {l : Launch} {O : rx_O} (hO : cb_O O) {σ : rx_S} {ρ : rx_S} {xr i n : Int32} (h : cR σ ρ) : rx_MI l O yX7_which cX7_which 5 (some .int) 6 [.ref 0, .int xr, .int i, .int n] σ (fun r τ => ∀ r2 ρ2, (sp_which ρ xr i n = (r2, ρ2)) → r = r2 ∧ cR τ ρ2) := by
  refine rx_Met_of (own := RX7) rfl hO.2.1 vsX7_which.2.2.2.2.2 (Nat.le_of_ble_eq_true rfl) rfl (fun p e s m args below meth c X => ?_)
  obtain ⟨⟨w1, wC, wB, wW⟩, ⟨s1, s2, s3⟩, hr, ht, hA, hI, hK⟩ := id h
  refine rx_aload_n (i := 0) X dX7_which_0 rfl rfl ?_
  refine rx_getZ (ci := 7) (i := 8) X (kc_0 hO) rfl rfl (by decide) inX7 flX7_59 dX7_which_1 ?_
  refine rx_top w1 ?_
  refine rx_if_ne X dX7_which_4 (fun h4 => ?_) (fun h4 => ?_)
  · have hth := h.there h4
    obtain ⟨hth, hv⟩ := hth
    refine rx_aload_n (i := 0) X dX7_which_10 rfl rfl ?_
    refine rx_iload_n (i := 1) X dX7_which_11 rfl rfl ?_
    refine rx_iload_n (i := 3) X dX7_which_12 rfl rfl ?_
    refine rx_callVi (ci := 7) X vsX7_isRowAsked mlX7_252 (kX7_isRowAsked hO) (kc_0 hO) rfl rfl (by decide) (by decide) dX7_which_13 rfl (Nat.le_of_ble_eq_true rfl) (fun r13 t13 h13 => ?_)
    obtain ⟨rfl, ⟨rfl, h13⟩ | ⟨rfl, h13⟩⟩ := h13
    · obtain ⟨r, rfl, hr8, hNr⟩ := row_nat h13.1
      have hz1 := sz_neg (hr.1 r hr8).1
      have hs40 := (hr.1 r hr8).2
      refine rx_if_ne_t X dX7_which_16 (by decide) ?_
      refine rx_aload_n (i := 0) X dX7_which_22 rfl rfl ?_
      refine rx_iload_n (i := 1) X dX7_which_23 rfl rfl ?_
      refine rx_iload_n (i := 2) X dX7_which_24 rfl rfl ?_
      refine rx_iload_n (i := 3) X dX7_which_25 rfl rfl ?_
      refine rx_callVi (ci := 7) X vsX7_rowFinding mlX7_83 (kX7_rowFinding hO hr8 (by rw [(hr.2.1 r hr8).2]; exact (hr.1 r hr8).1)) (kc_0 hO) rfl rfl (by decide) (by decide) dX7_which_26 rfl (Nat.le_of_ble_eq_true rfl) (fun r26 t26 h26 => ?_)
      rw [(hr.2.1 r hr8).2] at h26
      obtain ⟨rfl, ⟨rfl, h26⟩ | ⟨rfl, h26m, h26⟩ | ⟨rfl, h26m, h26⟩⟩ := h26
      · refine rx_istore (i := 4) (lo2 := [(0, .ref _), (1, .int _), (2, .int _), (3, .int _), (4, .int _)]) X dX7_which_29 (by decide) rfl ?_
        refine rx_iload (i := 4) X dX7_which_31 rfl ?_
        refine rx_if_eq_f X dX7_which_33 (by decide) ?_
        refine rx_aload_n (i := 0) X dX7_which_36 rfl rfl ?_
        refine rx_iload (i := 4) X dX7_which_37 rfl ?_
        refine rx_callVi (ci := 7) X vsX7_found mlX7_72 (kX7_found hO) (kc_0 hO) rfl rfl (by decide) (by decide) dX7_which_39 rfl (Nat.le_of_ble_eq_true rfl) (fun r39 t39 h39 => ?_)
        obtain ⟨rfl, rfl⟩ := h39
        refine rx_iret X dX7_which_42 ?_
        intro r2 ρ2 hpq
        rw [which_1 h4 (li_2 h13 (by rw [hNr]; exact hz1.mp h26)) (by decide)] at hpq
        obtain ⟨rfl, rfl⟩ := Prod.mk.inj hpq
        clear hpq
        exact ⟨by decide, h.st⟩
      · refine rx_istore (i := 4) (lo2 := [(0, .ref _), (1, .int _), (2, .int _), (3, .int _), (4, .int _)]) X dX7_which_29 (by decide) rfl ?_
        refine rx_iload (i := 4) X dX7_which_31 rfl ?_
        refine rx_if_eq_f X dX7_which_33 (by decide) ?_
        refine rx_aload_n (i := 0) X dX7_which_36 rfl rfl ?_
        refine rx_iload (i := 4) X dX7_which_37 rfl ?_
        refine rx_callVi (ci := 7) X vsX7_found mlX7_72 (kX7_found hO) (kc_0 hO) rfl rfl (by decide) (by decide) dX7_which_39 rfl (Nat.le_of_ble_eq_true rfl) (fun r39 t39 h39 => ?_)
        obtain ⟨rfl, rfl⟩ := h39
        refine rx_iret X dX7_which_42 ?_
        intro r2 ρ2 hpq
        rw [which_1 h4 (li_3 h13 (by rw [hNr]; exact fun q => h26m (hz1.mpr q)) (by rw [hNr]; omega)) (by decide)] at hpq
        obtain ⟨rfl, rfl⟩ := Prod.mk.inj hpq
        clear hpq
        exact ⟨by decide, h.st⟩
      · refine rx_istore (i := 4) (lo2 := [(0, .ref _), (1, .int _), (2, .int _), (3, .int _), (4, .int _)]) X dX7_which_29 (by decide) rfl ?_
        refine rx_iload (i := 4) X dX7_which_31 rfl ?_
        refine rx_if_eq_t X dX7_which_33 (by decide) ?_
        refine rx_aload_n (i := 0) X dX7_which_43 rfl rfl ?_
        refine rx_getR (ci := 7) (i := 4) X (kc_0 hO) rfl rfl (by decide) inX7 flX7_40 dX7_which_44 ?_
        refine rx_aload_n (i := 0) X dX7_which_47 rfl rfl ?_
        refine rx_getR (ci := 7) (i := 1) X (kc_0 hO) rfl rfl (by decide) inX7 flX7_19 dX7_which_48 ?_
        refine rx_getR (ci := 5) (i := 0) X (kc_10 hO) rfl rfl (by decide) inX5 flX7_101 dX7_which_51 ?_
        refine rx_iload_n (i := 1) X dX7_which_54 rfl rfl ?_
        refine rx_aaldA (j := r) X (kc_11 hO) hO.2.2.2.2.2.2.1 rfl rfl hr8 (by decide) (kc_rel hr8) dX7_which_55 ?_
        refine rx_iload_n (i := 2) X dX7_which_56 rfl rfl ?_
        refine rx_iload_n (i := 3) X dX7_which_57 rfl rfl ?_
        obtain ⟨im, rfl, him1, him2, him3⟩ := i_nat (x := i) (by omega)
        obtain ⟨nm, rfl, hnm1, hnm2, hnm3⟩ := i_nat (x := n) (by omega)
        have hq3 := h26.2.2
        refine rx_callVv (ci := 4) X vsX4_readMarks mlX7_255 (kX4_readMarks hO hr8 (by omega) (by omega)) (kc_242 hO) rfl rfl (by decide) (by decide) dX7_which_58 rfl (Nat.le_of_ble_eq_true rfl) (fun t58 h58 => ?_)
        obtain ⟨g1, g2, g3⟩ := h58
        refine rx_aload_n (i := 0) X dX7_which_61 rfl rfl ?_
        refine rx_aload_n (i := 0) X dX7_which_62 rfl rfl ?_
        refine rx_getR (ci := 7) (i := 4) X (kc_0 hO) rfl rfl (by decide) inX7 flX7_40 dX7_which_63 ?_
        refine rx_aload_n (i := 0) X dX7_which_66 rfl rfl ?_
        refine rx_getR (ci := 7) (i := 0) X (kc_0 hO) rfl rfl (by decide) inX7 flX7_10 dX7_which_67 ?_
        refine rx_callVi (ci := 4) X vsX4_fittingAnts mlX7_262 (kX4_fittingAnts hO (at0 := 40 * r + im) (f := ρ.1 3) (wB.out (fun k _ _ => g1 k (by omega) (by omega))) hv wC.1 (fun q hq => by rw [g1 _ (by omega) (by omega)]; exact s3 q hq) g2 (fun j hj => by rw [g3 j hj, hr.2.2 r hr8 (im + j) (by omega) (by omega), ← Nat.add_assoc]) (by omega)) (kc_242 hO) rfl rfl (by decide) (by decide) dX7_which_70 rfl (Nat.le_of_ble_eq_true rfl) (fun r70 t70 h70 => ?_)
        obtain ⟨rfl, h70f, h70b⟩ := h70
        refine rx_callVi (ci := 7) X vsX7_fine mlX7_80 (kX7_fine hO) (kc_0 hO) rfl rfl (by decide) (by decide) dX7_which_73 rfl (Nat.le_of_ble_eq_true rfl) (fun r73 t73 h73 => ?_)
        obtain ⟨rfl, rfl⟩ := h73
        refine rx_iret X dX7_which_76 ?_
        intro r2 ρ2 hpq
        rw [which_0 h4 (li_0 h13 (by rw [hNr]; exact fun q => h26m (hz1.mpr q)) (by rw [hNr]; omega)), hNr, him3, hnm3, s2] at hpq
        obtain ⟨rfl, rfl⟩ := Prod.mk.inj hpq
        clear hpq
        exact ⟨rfl, (h.fore (fun k hk => (h70f.2 k (by omega)).trans (g1 k (by omega) (by omega))) h70b).aside.st⟩
    · refine rx_if_ne_f X dX7_which_16 (by decide) ?_
      refine rx_ldc X dX7_which_19 kcX7_71 ?_
      refine rx_iret X dX7_which_21 ?_
      intro r2 ρ2 hpq
      rw [which_1 h4 (li_1 h13) (by decide)] at hpq
      obtain ⟨rfl, rfl⟩ := Prod.mk.inj hpq
      clear hpq
      exact ⟨rfl, h⟩
  · refine rx_ldc X dX7_which_7 kcX7_148 ?_
    refine rx_iret X dX7_which_9 ?_
    intro r2 ρ2 hpq
    rw [sp_which, if_pos h4] at hpq
    obtain ⟨rfl, rfl⟩ := Prod.mk.inj hpq
    clear hpq
    exact ⟨rfl, h⟩
set_option maxHeartbeats 1000000 in
set_option maxRecDepth 100000 in
theorem kX7_wind {l : Launch} {O : rx_O} (hO : cb_O O) {σ : rx_S} {ρ : rx_S} {x n q v : Int32} (h : cR σ ρ) : rx_ML l O yX7_wind cX7_wind 5 (some .long) 5 [.ref 0, .int x, .int n, .int q, .int v] σ (fun r τ => ∀ r2 ρ2, (r2 = sp_windV ρ x n q v ∧ mo_sam ρ ρ2) → r = r2 ∧ cR τ ρ2) := by
  refine rx_Met_of (own := RX7) rfl hO.2.1 vsX7_wind.2.2.2.2.2 (Nat.le_of_ble_eq_true rfl) rfl (fun p e s m args below meth c X => ?_)
  obtain ⟨⟨w1, wC, wB, wW⟩, ⟨s1, s2, s3⟩, hr, ht, hA, hI, hK⟩ := id h
  refine rx_aload_n (i := 0) X dX7_wind_0 rfl rfl ?_
  refine rx_getR (ci := 7) (i := 0) X (kc_0 hO) rfl rfl (by decide) inX7 flX7_10 dX7_wind_1 ?_
  refine rx_iload_n (i := 1) X dX7_wind_4 rfl rfl ?_
  refine rx_callVi (ci := 3) X vsX3_hasAnt mlX7_173 (kX3_hasAnt hO cb_B1 wB.2.1.1.2.2.2) (kb_0 hO cb_B1) rfl rfl (by decide) (by decide) dX7_wind_5 rfl (Nat.le_of_ble_eq_true rfl) (fun r5 t5 h5 => ?_)
  obtain ⟨rfl, ⟨rfl, h5⟩ | ⟨rfl, h5⟩⟩ := h5
  · obtain ⟨a, rfl, ha, ha3, hna, hth, hv⟩ := h.ant h5
    refine rx_if_eq_f X dX7_wind_8 (by decide) ?_
    refine rx_iload_n (i := 2) X dX7_wind_11 rfl rfl ?_
    refine rx_if_lt X dX7_wind_12 (fun h12 => ?_) (fun h12 => ?_)
    · try simp only [Int32.lt_iff_toInt_lt, Int32.le_iff_toInt_le, Int32.reduceToInt] at h12
      refine rx_ldc2 X dX7_wind_21 kcX7_267 ?_
      refine rx_lret X dX7_wind_24 ?_
      rintro r2 ρ2 ⟨rfl, hm⟩
      exact ⟨by rw [sp_windV, if_pos (by omega)], h.sam hm⟩
    · try simp only [Int32.lt_iff_toInt_lt, Int32.le_iff_toInt_le, Int32.reduceToInt] at h12
      refine rx_iload_n (i := 2) X dX7_wind_15 rfl rfl ?_
      refine rx_bipush (v := 8) X dX7_wind_16 (by decide) ?_
      refine rx_icmp_le X dX7_wind_18 (fun h18 => ?_) (fun h18 => ?_)
      · try simp only [Int32.lt_iff_toInt_lt, Int32.le_iff_toInt_le, Int32.reduceToInt] at h18
        refine rx_iload_n (i := 3) X dX7_wind_25 rfl rfl ?_
        refine rx_if_lt X dX7_wind_26 (fun h26 => ?_) (fun h26 => ?_)
        · try simp only [Int32.lt_iff_toInt_lt, Int32.le_iff_toInt_le, Int32.reduceToInt] at h26
          refine rx_ldc2 X dX7_wind_46 kcX7_267 ?_
          refine rx_lret X dX7_wind_49 ?_
          rintro r2 ρ2 ⟨rfl, hm⟩
          exact ⟨by rw [sp_windV, if_pos (by omega)], h.sam hm⟩
        · try simp only [Int32.lt_iff_toInt_lt, Int32.le_iff_toInt_le, Int32.reduceToInt] at h26
          refine rx_iload_n (i := 3) X dX7_wind_29 rfl rfl ?_
          refine rx_bipush (v := 10) X dX7_wind_30 (by decide) ?_
          refine rx_icmp_gt X dX7_wind_32 (fun h32 => ?_) (fun h32 => ?_)
          · try simp only [Int32.lt_iff_toInt_lt, Int32.le_iff_toInt_le, Int32.reduceToInt] at h32
            refine rx_ldc2 X dX7_wind_46 kcX7_267 ?_
            refine rx_lret X dX7_wind_49 ?_
            rintro r2 ρ2 ⟨rfl, hm⟩
            exact ⟨by rw [sp_windV, if_pos (by omega)], h.sam hm⟩
          · try simp only [Int32.lt_iff_toInt_lt, Int32.le_iff_toInt_le, Int32.reduceToInt] at h32
            refine rx_iload (i := 4) X dX7_wind_35 rfl ?_
            refine rx_if_lt X dX7_wind_37 (fun h37 => ?_) (fun h37 => ?_)
            · try simp only [Int32.lt_iff_toInt_lt, Int32.le_iff_toInt_le, Int32.reduceToInt] at h37
              refine rx_ldc2 X dX7_wind_46 kcX7_267 ?_
              refine rx_lret X dX7_wind_49 ?_
              rintro r2 ρ2 ⟨rfl, hm⟩
              exact ⟨by rw [sp_windV, if_pos (by omega)], h.sam hm⟩
            · try simp only [Int32.lt_iff_toInt_lt, Int32.le_iff_toInt_le, Int32.reduceToInt] at h37
              refine rx_iload (i := 4) X dX7_wind_40 rfl ?_
              refine rx_iconst (v := 1) X dX7_wind_42 (by decide) ?_
              refine rx_icmp_le X dX7_wind_43 (fun h43 => ?_) (fun h43 => ?_)
              · try simp only [Int32.lt_iff_toInt_lt, Int32.le_iff_toInt_le, Int32.reduceToInt] at h43
                refine rx_aload_n (i := 0) X dX7_wind_50 rfl rfl ?_
                refine rx_getR (ci := 7) (i := 4) X (kc_0 hO) rfl rfl (by decide) inX7 flX7_40 dX7_wind_51 ?_
                refine rx_aload_n (i := 0) X dX7_wind_54 rfl rfl ?_
                refine rx_getR (ci := 7) (i := 0) X (kc_0 hO) rfl rfl (by decide) inX7 flX7_10 dX7_wind_55 ?_
                refine rx_iload_n (i := 1) X dX7_wind_58 rfl rfl ?_
                refine rx_iload_n (i := 2) X dX7_wind_59 rfl rfl ?_
                refine rx_iload_n (i := 3) X dX7_wind_60 rfl rfl ?_
                obtain ⟨nm, rfl, hnm1, hnm2, hnm3⟩ := i_nat (x := n) (by omega)
                obtain ⟨qm, rfl, hqm1, hqm2, hqm3⟩ := i_nat (x := q) (by omega)
                refine rx_callVv (ci := 4) X vsX4_blow mlX7_269 (kX4_blow hO wB hv wC.1 (by omega) ha ha3 (by omega) s3) (kc_242 hO) rfl rfl (by decide) (by decide) dX7_wind_61 rfl (Nat.le_of_ble_eq_true rfl) (fun t61 h61 => ?_)
                obtain ⟨g1, g2, g3, g4⟩ := h61
                refine rx_iload (i := 4) X dX7_wind_64 rfl ?_
                refine rx_if_ne X dX7_wind_66 (fun h66 => ?_) (fun h66 => ?_)
                · refine rx_aload_n (i := 0) X dX7_wind_79 rfl rfl ?_
                  refine rx_getR (ci := 7) (i := 4) X (kc_0 hO) rfl rfl (by decide) inX7 flX7_40 dX7_wind_80 ?_
                  refine rx_getL (ci := 4) (i := 6) X (kc_242 hO) rfl rfl (by decide) inX4 flX7_277 dX7_wind_83 ?_
                  refine rx_topL g4 ?_
                  refine rx_lret X dX7_wind_86 ?_
                  rintro r2 ρ2 ⟨rfl, hm⟩
                  exact ⟨by rw [sp_windV, if_neg (by omega), hna, hnm3, hqm3, if_neg h66], (h.fore (fun k hk => g1 k (by omega)) g2).sam hm⟩
                · refine rx_aload_n (i := 0) X dX7_wind_69 rfl rfl ?_
                  refine rx_getR (ci := 7) (i := 4) X (kc_0 hO) rfl rfl (by decide) inX7 flX7_40 dX7_wind_70 ?_
                  refine rx_getL (ci := 4) (i := 5) X (kc_242 hO) rfl rfl (by decide) inX4 flX7_273 dX7_wind_73 ?_
                  refine rx_topL g3 ?_
                  refine rx_goto X dX7_wind_76 ?_
                  refine rx_lret X dX7_wind_86 ?_
                  rintro r2 ρ2 ⟨rfl, hm⟩
                  exact ⟨by rw [sp_windV, if_neg (by omega), hna, hnm3, hqm3, if_pos h66], (h.fore (fun k hk => g1 k (by omega)) g2).sam hm⟩
              · try simp only [Int32.lt_iff_toInt_lt, Int32.le_iff_toInt_le, Int32.reduceToInt] at h43
                refine rx_ldc2 X dX7_wind_46 kcX7_267 ?_
                refine rx_lret X dX7_wind_49 ?_
                rintro r2 ρ2 ⟨rfl, hm⟩
                exact ⟨by rw [sp_windV, if_pos (by omega)], h.sam hm⟩
      · try simp only [Int32.lt_iff_toInt_lt, Int32.le_iff_toInt_le, Int32.reduceToInt] at h18
        refine rx_ldc2 X dX7_wind_21 kcX7_267 ?_
        refine rx_lret X dX7_wind_24 ?_
        rintro r2 ρ2 ⟨rfl, hm⟩
        exact ⟨by rw [sp_windV, if_pos (by omega)], h.sam hm⟩
  · refine rx_if_eq_t X dX7_wind_8 (by decide) ?_
    refine rx_ldc2 X dX7_wind_21 kcX7_267 ?_
    refine rx_lret X dX7_wind_24 ?_
    rintro r2 ρ2 ⟨rfl, hm⟩
    exact ⟨by rw [sp_windV, if_pos (by omega)], h.sam hm⟩
set_option maxHeartbeats 1000000 in
set_option maxRecDepth 100000 in
theorem kX7_drawn {l : Launch} {O : rx_O} (hO : cb_O O) {σ : rx_S} {ρ : rx_S} {n sd v : Int32} (h : cR σ ρ) : rx_MI l O yX7_drawn cX7_drawn 4 (some .int) 5 [.ref 0, .int n, .int sd, .int v] σ (fun r τ => ∀ r2 ρ2, (r2 = sp_drawnV ρ n sd v ∧ mo_sam ρ ρ2) → r = r2 ∧ cR τ ρ2) := by
  refine rx_Met_of (own := RX7) rfl hO.2.1 vsX7_drawn.2.2.2.2.2 (Nat.le_of_ble_eq_true rfl) rfl (fun p e s m args below meth c X => ?_)
  obtain ⟨⟨w1, wC, wB, wW⟩, ⟨s1, s2, s3⟩, hr, ht, hA, hI, hK⟩ := id h
  refine rx_aload_n (i := 0) X dX7_drawn_0 rfl rfl ?_
  refine rx_getZ (ci := 7) (i := 8) X (kc_0 hO) rfl rfl (by decide) inX7 flX7_59 dX7_drawn_1 ?_
  refine rx_top w1 ?_
  refine rx_if_ne X dX7_drawn_4 (fun h4 => ?_) (fun h4 => ?_)
  · have hth := h.there h4
    obtain ⟨hth, hv⟩ := hth
    refine rx_iload_n (i := 1) X dX7_drawn_10 rfl rfl ?_
    refine rx_if_lt X dX7_drawn_11 (fun h11 => ?_) (fun h11 => ?_)
    · try simp only [Int32.lt_iff_toInt_lt, Int32.le_iff_toInt_le, Int32.reduceToInt] at h11
      refine rx_ldc X dX7_drawn_41 kcX7_71 ?_
      refine rx_iret X dX7_drawn_43 ?_
      rintro r2 ρ2 ⟨rfl, hm⟩
      exact ⟨by rw [sp_drawnV, if_neg h4, if_pos (by omega)], h.sam hm⟩
    · try simp only [Int32.lt_iff_toInt_lt, Int32.le_iff_toInt_le, Int32.reduceToInt] at h11
      refine rx_iload_n (i := 1) X dX7_drawn_14 rfl rfl ?_
      refine rx_bipush (v := 99) X dX7_drawn_15 (by decide) ?_
      refine rx_icmp_gt X dX7_drawn_17 (fun h17 => ?_) (fun h17 => ?_)
      · try simp only [Int32.lt_iff_toInt_lt, Int32.le_iff_toInt_le, Int32.reduceToInt] at h17
        refine rx_ldc X dX7_drawn_41 kcX7_71 ?_
        refine rx_iret X dX7_drawn_43 ?_
        rintro r2 ρ2 ⟨rfl, hm⟩
        exact ⟨by rw [sp_drawnV, if_neg h4, if_pos (by omega)], h.sam hm⟩
      · try simp only [Int32.lt_iff_toInt_lt, Int32.le_iff_toInt_le, Int32.reduceToInt] at h17
        refine rx_iload_n (i := 2) X dX7_drawn_20 rfl rfl ?_
        refine rx_iconst (v := 1) X dX7_drawn_21 (by decide) ?_
        refine rx_icmp_lt X dX7_drawn_22 (fun h22 => ?_) (fun h22 => ?_)
        · try simp only [Int32.lt_iff_toInt_lt, Int32.le_iff_toInt_le, Int32.reduceToInt] at h22
          refine rx_ldc X dX7_drawn_41 kcX7_71 ?_
          refine rx_iret X dX7_drawn_43 ?_
          rintro r2 ρ2 ⟨rfl, hm⟩
          exact ⟨by rw [sp_drawnV, if_neg h4, if_pos (by omega)], h.sam hm⟩
        · try simp only [Int32.lt_iff_toInt_lt, Int32.le_iff_toInt_le, Int32.reduceToInt] at h22
          refine rx_iload_n (i := 2) X dX7_drawn_25 rfl rfl ?_
          refine rx_ldcw X dX7_drawn_26 kcX7_280 ?_
          refine rx_icmp_gt X dX7_drawn_29 (fun h29 => ?_) (fun h29 => ?_)
          · try simp only [Int32.lt_iff_toInt_lt, Int32.le_iff_toInt_le, Int32.reduceToInt] at h29
            refine rx_ldc X dX7_drawn_41 kcX7_71 ?_
            refine rx_iret X dX7_drawn_43 ?_
            rintro r2 ρ2 ⟨rfl, hm⟩
            exact ⟨by rw [sp_drawnV, if_neg h4, if_pos (by omega)], h.sam hm⟩
          · try simp only [Int32.lt_iff_toInt_lt, Int32.le_iff_toInt_le, Int32.reduceToInt] at h29
            refine rx_iload_n (i := 3) X dX7_drawn_32 rfl rfl ?_
            refine rx_if_lt X dX7_drawn_33 (fun h33 => ?_) (fun h33 => ?_)
            · try simp only [Int32.lt_iff_toInt_lt, Int32.le_iff_toInt_le, Int32.reduceToInt] at h33
              refine rx_ldc X dX7_drawn_41 kcX7_71 ?_
              refine rx_iret X dX7_drawn_43 ?_
              rintro r2 ρ2 ⟨rfl, hm⟩
              exact ⟨by rw [sp_drawnV, if_neg h4, if_pos (by omega)], h.sam hm⟩
            · try simp only [Int32.lt_iff_toInt_lt, Int32.le_iff_toInt_le, Int32.reduceToInt] at h33
              refine rx_iload_n (i := 3) X dX7_drawn_36 rfl rfl ?_
              refine rx_iconst (v := 1) X dX7_drawn_37 (by decide) ?_
              refine rx_icmp_le X dX7_drawn_38 (fun h38 => ?_) (fun h38 => ?_)
              · try simp only [Int32.lt_iff_toInt_lt, Int32.le_iff_toInt_le, Int32.reduceToInt] at h38
                refine rx_aload_n (i := 0) X dX7_drawn_44 rfl rfl ?_
                refine rx_getR (ci := 7) (i := 4) X (kc_0 hO) rfl rfl (by decide) inX7 flX7_40 dX7_drawn_45 ?_
                refine rx_aload_n (i := 0) X dX7_drawn_48 rfl rfl ?_
                refine rx_getR (ci := 7) (i := 0) X (kc_0 hO) rfl rfl (by decide) inX7 flX7_10 dX7_drawn_49 ?_
                refine rx_iload_n (i := 1) X dX7_drawn_52 rfl rfl ?_
                refine rx_iload_n (i := 2) X dX7_drawn_53 rfl rfl ?_
                obtain ⟨mm, rfl, hmm1, hmm2, hmm3⟩ := i_nat (x := n) (by omega)
                refine rx_callVv (ci := 4) X vsX4_walkByDraws mlX7_281 (kX4_walkByDraws hO wB hv wC.1 (by omega)) (kc_242 hO) rfl rfl (by decide) (by decide) dX7_drawn_54 rfl (Nat.le_of_ble_eq_true rfl) (fun t54 h54 => ?_)
                obtain ⟨h54f, h54⟩ := h54
                have hdr := w_C_dr (n := mm) (K := 999) (x := sd.toInt64) (w := ρ.1 4) (by omega) hv wC
                refine rx_iload_n (i := 3) X dX7_drawn_57 rfl rfl ?_
                refine rx_if_ne X dX7_drawn_58 (fun h58 => ?_) (fun h58 => ?_)
                · refine rx_aload_n (i := 0) X dX7_drawn_77 rfl rfl ?_
                  refine rx_getR (ci := 7) (i := 4) X (kc_0 hO) rfl rfl (by decide) inX7 flX7_40 dX7_drawn_78 ?_
                  refine rx_getR (ci := 4) (i := 0) X (kc_242 hO) rfl rfl (by decide) inX4 flX7_121 dX7_drawn_81 ?_
                  refine rx_getI (ci := 3) (i := 0) X (kb_0 hO cb_B243) rfl rfl (by decide) inX3 flX7_163 dX7_drawn_84 ?_
                  refine rx_top h54.2.1.1.1 ?_
                  refine rx_iret X dX7_drawn_87 ?_
                  rintro r2 ρ2 ⟨rfl, hm⟩
                  exact ⟨by rw [sp_drawnV, if_neg h4, if_neg (by omega), if_neg h58, hmm3], (h.fore (fun k hk => h54f.2 k (by omega)) h54.1).sam hm⟩
                · refine rx_aload_n (i := 0) X dX7_drawn_61 rfl rfl ?_
                  refine rx_getR (ci := 7) (i := 4) X (kc_0 hO) rfl rfl (by decide) inX7 flX7_40 dX7_drawn_62 ?_
                  refine rx_getR (ci := 4) (i := 0) X (kc_242 hO) rfl rfl (by decide) inX4 flX7_121 dX7_drawn_65 ?_
                  refine rx_callVi (ci := 3) X vsX3_arrivedBits mlX7_213 (kX3_arrivedBits hO cb_B243 h54 (by rw [hdr.2.2]; exact h.n3) hdr.1) (kb_0 hO cb_B243) rfl rfl (by decide) (by decide) dX7_drawn_68 rfl (Nat.le_of_ble_eq_true rfl) (fun r68 t68 h68 => ?_)
                  obtain ⟨rfl, rfl⟩ := h68
                  obtain ⟨q, hq64, eq64⟩ := hdr.1.1.at
                  refine rx_top eq64 ?_
                  refine rx_callTi X vsJ6_bitCount_0f7a4 mlX7_285 (kJ6_bitCount_0f7a4 hO hq64) rfl (by decide) (by decide) dX7_drawn_71 rfl (Nat.le_of_ble_eq_true rfl) (fun r71 t71 h71 => ?_)
                  obtain ⟨rfl, rfl⟩ := h71
                  refine rx_goto X dX7_drawn_74 ?_
                  refine rx_iret X dX7_drawn_87 ?_
                  rintro r2 ρ2 ⟨rfl, hm⟩
                  exact ⟨by rw [sp_drawnV, if_neg h4, if_neg (by omega), if_pos h58, hmm3, eq64], (h.fore (fun k hk => h54f.2 k (by omega)) h54.1).sam hm⟩
              · try simp only [Int32.lt_iff_toInt_lt, Int32.le_iff_toInt_le, Int32.reduceToInt] at h38
                refine rx_ldc X dX7_drawn_41 kcX7_71 ?_
                refine rx_iret X dX7_drawn_43 ?_
                rintro r2 ρ2 ⟨rfl, hm⟩
                exact ⟨by rw [sp_drawnV, if_neg h4, if_pos (by omega)], h.sam hm⟩
  · refine rx_ldc X dX7_drawn_7 kcX7_148 ?_
    refine rx_iret X dX7_drawn_9 ?_
    rintro r2 ρ2 ⟨rfl, hm⟩
    exact ⟨by rw [sp_drawnV, if_pos h4], h.sam hm⟩
