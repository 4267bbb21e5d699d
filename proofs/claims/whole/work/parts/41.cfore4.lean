set_option maxHeartbeats 1000000 in
set_option maxRecDepth 100000 in
theorem kX4_passing {l : Launch} {O : rx_O} (hO : cb_O O) {σ : rx_S} {n a : Nat} {w : Nat → Int32} (hw : cb_R cb_T σ 1 w) (hv : w_V 999 w) (hb : w_B w) (hn : n < 1000) (ha : a < 6) (ha3 : a < rx_N (w 3)) : rx_MI l O yX4_passing cX4_passing 7 (some .int) 4 [.ref 242, .ref 1, .int (nI a), .int (nI n)] σ (fun r τ => w_pass (-1) a (w_could w a (rx_N (w 3))) n 0 w = r ∧ cb_fr 243 σ τ ∧ cb_bo τ 243) := by
  refine rx_Met_of (own := RX4) rfl hO.2.1 vsX4_passing.2.2.2.2.2 (Nat.le_of_ble_eq_true rfl) rfl (fun p e s m args below meth c X => ?_)
  have loop : ∀ (k : Nat) (i : Nat) (x z : Int32) (τ : rx_S) (u : Nat → Int32), (i + k = n) → (x = nI i) → (cb_fr 243 σ τ) → (cb_R cb_T τ 243 u) → (w_V (999 + i) u) → (w_B u) → (u 3 = w 3) → (b6 z) → (w_pass (-1) a (w_could w a (rx_N (w 3))) n 0 w = w_pass (-1) a (w_could w a (rx_N (w 3))) k z u) → rx_J O 7 p l e (rx_lv 4) s m args below meth c (rx_QI O below args s (fun r τ => w_pass (-1) a (w_could w a (rx_N (w 3))) n 0 w = r ∧ cb_fr 243 σ τ ∧ cb_bo τ 243)) 23 [(0, .ref 242), (1, .ref 1), (2, .int (nI a)), (3, .int (nI n)), (4, .int (ah w a (rx_N (w 3)) ^^^ -1)), (5, .int z), (6, .int x)] [] τ := by
    intro k
    induction k with
    | zero =>
      intro i x z τ u hi hx hf hτ hv2 hb2 hu3 hs he
      obtain rfl : i = n := by omega
      subst hx
      refine rx_iload (i := 6) X dX4_passing_23 rfl ?_
      refine rx_iload_n (i := 3) X dX4_passing_25 rfl rfl ?_
      refine rx_icmp_ge_t X dX4_passing_26 (Int32.le_refl _) ?_
      refine rx_iload (i := 5) X dX4_passing_56 rfl ?_
      refine rx_iret X dX4_passing_58 ?_
      exact ⟨by rw [he]; rfl, hf, hτ.1⟩
    | succ k ih =>
      intro i x z τ u hi hx hf hτ hv2 hb2 hu3 hs he
      subst hx
      have n3 := hv2.n3
      refine rx_iload (i := 6) X dX4_passing_23 rfl ?_
      refine rx_iload_n (i := 3) X dX4_passing_25 rfl rfl ?_
      refine rx_icmp_ge_f X dX4_passing_26 (nI_ge (by omega) (by omega)) ?_
      refine rx_aload_n (i := 0) X dX4_passing_29 rfl rfl ?_
      refine rx_getR (ci := 4) (i := 0) X (kc_242 hO) rfl rfl (by decide) inX4 flX4_12 dX4_passing_30 ?_
      refine rx_iconst (v := -1) X dX4_passing_33 (by decide) ?_
      refine rx_callVv (ci := 3) X vsX3_passMinute mlX4_32 (kX3_passMinute hO cb_B243 hτ hv2 hb2) (kb_0 hO cb_B243) rfl rfl (by decide) (by decide) dX4_passing_34 rfl (Nat.le_of_ble_eq_true rfl) (fun t34 h34 => ?_)
      obtain ⟨h34f, h34⟩ := h34
      refine rx_iload (i := 5) X dX4_passing_37 rfl ?_
      refine rx_aload_n (i := 0) X dX4_passing_39 rfl rfl ?_
      refine rx_iload_n (i := 2) X dX4_passing_40 rfl rfl ?_
      refine rx_callVi (ci := 4) X vsX4_aheadOf mlX4_109 (kX4_aheadOf hO h34 (by rw [w_one_3]; have := hv2.2.2.2.1; omega) ha (by rw [w_one_3, hu3]; exact ha3)) (kc_242 hO) rfl rfl (by decide) (by decide) dX4_passing_41 rfl (Nat.le_of_ble_eq_true rfl) (fun r41 t41 h41 => ?_)
      obtain ⟨rfl, rfl⟩ := h41
      refine rx_iload (i := 4) X dX4_passing_44 rfl ?_
      refine rx_iand X dX4_passing_46 ?_
      refine rx_ior X dX4_passing_47 ?_
      refine rx_istore (i := 5) (lo2 := [(0, .ref _), (1, .ref _), (2, .int _), (3, .int _), (4, .int _), (5, .int _), (6, .int _)]) X dX4_passing_48 (by decide) rfl ?_
      refine rx_iinc (i := 6) (lo2 := [(0, .ref _), (1, .ref _), (2, .int _), (3, .int _), (4, .int _), (5, .int _), (6, .int _)]) X dX4_passing_50 rfl (rx_inc1 _) (by decide) rfl ?_
      refine rx_goto X dX4_passing_53 ?_
      refine ih (i + 1) _ _ _ _ (by omega) (nI_1 i) (hf.trans h34f) h34 (w_V_one (K := 999 + i) (by omega) hv2) (w_B_one hb2 hv2) (by rw [w_one_3]; exact hu3) (by rw [w_one_3, hu3, ps_step hs (by rw [← hu3]; exact n3.2)]; exact ps_b6 hs _ (by rw [← hu3]; exact n3.2)) ?_
      rw [he, w_pass, w_one_3, hu3, ps_step hs (by rw [← hu3]; exact n3.2)]
  refine rx_aload_n (i := 0) X dX4_passing_0 rfl rfl ?_
  refine rx_getR (ci := 4) (i := 0) X (kc_242 hO) rfl rfl (by decide) inX4 flX4_12 dX4_passing_1 ?_
  refine rx_aload_n (i := 1) X dX4_passing_4 rfl rfl ?_
  refine rx_callVv (ci := 3) X vsX3_takeFrom mlX4_28 (kX3_tf hO hw (cb_fr.rfl' 243 σ)) (kb_0 hO cb_B243) rfl rfl (by decide) (by decide) dX4_passing_5 rfl (Nat.le_of_ble_eq_true rfl) (fun t5 h5 => ?_)
  obtain ⟨h5f, h5⟩ := h5
  refine rx_aload_n (i := 0) X dX4_passing_8 rfl rfl ?_
  refine rx_iload_n (i := 2) X dX4_passing_9 rfl rfl ?_
  refine rx_callVi (ci := 4) X vsX4_aheadOf mlX4_109 (kX4_aheadOf hO h5 (by have := hv.2.2.2.1; omega) ha ha3) (kc_242 hO) rfl rfl (by decide) (by decide) dX4_passing_10 rfl (Nat.le_of_ble_eq_true rfl) (fun r10 t10 h10 => ?_)
  obtain ⟨rfl, rfl⟩ := h10
  refine rx_iconst (v := -1) X dX4_passing_13 (by decide) ?_
  refine rx_ixor X dX4_passing_14 ?_
  refine rx_istore (i := 4) (lo2 := [(0, .ref _), (1, .ref _), (2, .int _), (3, .int _), (4, .int _)]) X dX4_passing_15 (by decide) rfl ?_
  refine rx_iconst (v := 0) X dX4_passing_17 (by decide) ?_
  refine rx_istore (i := 5) (lo2 := [(0, .ref _), (1, .ref _), (2, .int _), (3, .int _), (4, .int _), (5, .int _)]) X dX4_passing_18 (by decide) rfl ?_
  refine rx_iconst (v := 0) X dX4_passing_20 (by decide) ?_
  refine rx_istore (i := 6) (lo2 := [(0, .ref _), (1, .ref _), (2, .int _), (3, .int _), (4, .int _), (5, .int _), (6, .int _)]) X dX4_passing_21 (by decide) rfl ?_
  exact loop n 0 _ _ _ _ (by omega) rfl h5f h5 hv hb rfl b6_0 rfl
set_option maxHeartbeats 1000000 in
set_option maxRecDepth 100000 in
theorem kX4_fitsMarks {l : Launch} {O : rx_O} (hO : cb_O O) {σ : rx_S} {n a at0 K : Nat} {w f : Nat → Int32} (h : cb_R (fun b => b = a) σ 243 w) (hv : w_V K w) (hb : w_B w) (hK : K < 10000) (ha : a < 6) (ha3 : a < rx_N (w 3)) (hm4 : σ.1 242 4 = nI n) (hm : ∀ i, i < n → σ.1 254 i = f (at0 + i)) (hn12 : n ≤ 12) : rx_MI l O yX4_fitsMarks cX4_fitsMarks 3 (some .boolean) 4 [.ref 242, .int (nI a)] σ (fun r τ => cb_fr 243 σ τ ∧ cb_bo τ 243 ∧ rx_b (w_so (-1) a f at0 n 0 w = true) r) := by
  refine rx_Met_of (own := RX4) rfl hO.2.1 vsX4_fitsMarks.2.2.2.2.2 (Nat.le_of_ble_eq_true rfl) rfl (fun p e s m args below meth c X => ?_)
  have loop : ∀ (k : Nat) (i : Nat) (x : Int32) (τ : rx_S) (u : Nat → Int32), (i + k = n) → (x = nI i) → (cb_fr 243 σ τ) → (cb_R (fun b => b = a) τ 243 u) → (w_V (9999 + i) u) → (w_B u) → (a < rx_N (u 3)) → (w_so (-1) a f at0 n 0 w = w_so (-1) a f at0 k i u) → rx_J O 3 p l e (rx_lv 4) s m args below meth c (rx_QI O below args s (fun r τ => cb_fr 243 σ τ ∧ cb_bo τ 243 ∧ rx_b (w_so (-1) a f at0 n 0 w = true) r)) 2 [(0, .ref 242), (1, .int (nI a)), (2, .int x)] [] τ := by
    intro k
    induction k with
    | zero =>
      intro i x τ u hi hx hf hτ hv2 hb2 ha3 he
      obtain rfl : i = n := by omega
      subst hx
      refine rx_iload_n (i := 2) X dX4_fitsMarks_2 rfl rfl ?_
      refine rx_aload_n (i := 0) X dX4_fitsMarks_3 rfl rfl ?_
      refine rx_getI (ci := 4) (i := 4) X (kc_242 hO) rfl rfl (by decide) inX4 flX4_116 dX4_fitsMarks_4 ?_
      refine rx_top ((congrFun (hf.2 242 (by omega)) 4).trans hm4) ?_
      refine rx_icmp_ge_t X dX4_fitsMarks_7 (Int32.le_refl _) ?_
      refine rx_iconst (v := 1) X dX4_fitsMarks_47 (by decide) ?_
      refine rx_zret X dX4_fitsMarks_48 rfl ?_
      exact ⟨hf, hτ.1, Or.inl ⟨rfl, by rw [he]; rfl⟩⟩
    | succ k ih =>
      intro i x τ u hi hx hf hτ hv2 hb2 ha3 he
      subst hx
      refine rx_iload_n (i := 2) X dX4_fitsMarks_2 rfl rfl ?_
      refine rx_aload_n (i := 0) X dX4_fitsMarks_3 rfl rfl ?_
      refine rx_getI (ci := 4) (i := 4) X (kc_242 hO) rfl rfl (by decide) inX4 flX4_116 dX4_fitsMarks_4 ?_
      refine rx_top ((congrFun (hf.2 242 (by omega)) 4).trans hm4) ?_
      refine rx_icmp_ge_f X dX4_fitsMarks_7 (nI_ge (by omega) (by omega)) ?_
      refine rx_aload_n (i := 0) X dX4_fitsMarks_10 rfl rfl ?_
      refine rx_getR (ci := 4) (i := 0) X (kc_242 hO) rfl rfl (by decide) inX4 flX4_12 dX4_fitsMarks_11 ?_
      refine rx_iload_n (i := 1) X dX4_fitsMarks_14 rfl rfl ?_
      refine rx_callVv (ci := 3) X vsX3_passMinuteOf mlX4_40 (kX3_pmo hO cb_B243 hτ hv2 hb2 ha ha3) (kb_0 hO cb_B243) rfl rfl (by decide) (by decide) dX4_fitsMarks_15 rfl (Nat.le_of_ble_eq_true rfl) (fun t15 h15 => ?_)
      obtain ⟨h15f, h15⟩ := h15
      refine rx_aload_n (i := 0) X dX4_fitsMarks_18 rfl rfl ?_
      refine rx_getR (ci := 4) (i := 0) X (kc_242 hO) rfl rfl (by decide) inX4 flX4_12 dX4_fitsMarks_19 ?_
      refine rx_getR (ci := 3) (i := 5) X (kb_0 hO cb_B243) rfl rfl (by decide) inX3 flX4_43 dX4_fitsMarks_22 ?_
      refine rx_iload_n (i := 1) X dX4_fitsMarks_25 rfl rfl ?_
      refine rx_aaldN (j := a) X (kb_2 hO cb_B243) hO.2.2.2.2.2.1 rfl ha (by decide) (kb_el ha) dX4_fitsMarks_26 ?_
      refine rx_callVi (ci := 1) X vsX1_hundredth mlX4_125 (kX1_hundredth hO (kb_a hO cb_B243 ha)) (kb_a hO cb_B243 ha) rfl rfl (by decide) (by decide) dX4_fitsMarks_27 rfl (Nat.le_of_ble_eq_true rfl) (fun r27 t27 h27 => ?_)
      obtain ⟨rfl, rfl⟩ := h27
      refine rx_top (show _ = w_one (-1) u (34 + a) / 10000 by rw [(h15.2.2 a ha (by rw [w_one_n3]; exact ha3) rfl).2.2.2.2.1]) ?_
      refine rx_aload_n (i := 0) X dX4_fitsMarks_30 rfl rfl ?_
      refine rx_getR (ci := 4) (i := 3) X (kc_242 hO) rfl rfl (by decide) inX4 flX4_25 dX4_fitsMarks_31 ?_
      refine rx_iload_n (i := 2) X dX4_fitsMarks_34 rfl rfl ?_
      refine rx_ialdN (j := i) X (kc_254 hO) hO.2.2.1 rfl (by omega) (by decide) dX4_fitsMarks_35 ?_
      refine rx_top ((congrFun ((hf.trans h15f).2 254 (by omega)) i).trans (hm i (by omega))) ?_
      refine rx_icmp_eq X dX4_fitsMarks_36 (fun h36 => ?_) (fun h36 => ?_)
      · refine rx_iinc (i := 2) (lo2 := [(0, .ref _), (1, .int _), (2, .int _)]) X dX4_fitsMarks_41 rfl (rx_inc1 _) (by decide) rfl ?_
        refine rx_goto X dX4_fitsMarks_44 ?_
        refine ih (i + 1) _ _ _ (by omega) (nI_1 i) (hf.trans h15f) h15 (w_V_one (K := 9999 + i) (by omega) hv2) (w_B_one hb2 hv2) (by rw [w_one_n3]; exact ha3) ?_
        rw [he, w_so, decide_eq_true h36.symm, Bool.true_and]
      · refine rx_iconst (v := 0) X dX4_fitsMarks_39 (by decide) ?_
        refine rx_zret X dX4_fitsMarks_40 rfl ?_
        refine ⟨hf.trans h15f, h15.1, Or.inr ⟨rfl, ?_⟩⟩
        rw [he, w_so, decide_eq_false (fun q => h36 q.symm), Bool.false_and]
        exact Bool.false_ne_true
  refine rx_iconst (v := 0) X dX4_fitsMarks_0 (by decide) ?_
  refine rx_istore_n (i := 2) (lo2 := [(0, .ref _), (1, .int _), (2, .int _)]) X dX4_fitsMarks_1 rfl (by decide) rfl ?_
  exact loop n 0 _ _ _ (by omega) rfl (cb_fr.rfl' 243 σ) h (w_V_mono (by omega) hv) hb ha3 rfl
set_option maxHeartbeats 1000000 in
set_option maxRecDepth 100000 in
theorem kX4_fitting0 {l : Launch} {O : rx_O} (hO : cb_O O) {σ : rx_S} {n a at0 : Nat} {w f : Nat → Int32} (hw : cb_R cb_T σ 1 w) (hv : w_V 999 w) (hb : w_B w) (ha : a < 6) (ha3 : a < rx_N (w 3)) (hbo : cb_bo σ 243) (hm4 : σ.1 242 4 = nI n) (hm : ∀ i, i < n → σ.1 254 i = f (at0 + i)) (hn12 : n ≤ 12) : rx_MI l O yX4_fitting cX4_fitting 8 (some .int) 5 [.ref 242, .ref 1, .int (nI a), .int 0] σ (fun r τ => w_who (-1) (10 + a) a f at0 n w 5 = r ∧ cb_fr 243 σ τ ∧ cb_bo τ 243) := by
  refine rx_Met_of (own := RX4) rfl hO.2.1 vsX4_fitting.2.2.2.2.2 (Nat.le_of_ble_eq_true rfl) rfl (fun p e s m args below meth c X => ?_)
  have loop : ∀ (k : Nat) (i : Nat) (x z : Int32) (τ : rx_S), (i + k = 5) → (x = nI (i + 1)) → (cb_fr 243 σ τ) → (cb_bo τ 243) → (z = w_who (-1) (10 + a) a f at0 n w i) → rx_J O 8 p l e (rx_lv 5) s m args below meth c (rx_QI O below args s (fun r τ => w_who (-1) (10 + a) a f at0 n w 5 = r ∧ cb_fr 243 σ τ ∧ cb_bo τ 243)) 28 [(0, .ref 242), (1, .ref 1), (2, .int (nI a)), (3, .int 0), (4, .int 5), (5, .int z), (6, .int x)] [] τ := by
    intro k
    induction k with
    | zero =>
      intro i x z τ hi hx hf hbo hz
      obtain rfl : i = 5 := by omega
      subst hx
      refine rx_iload (i := 6) X dX4_fitting_28 rfl ?_
      refine rx_iload (i := 4) X dX4_fitting_30 rfl ?_
      refine rx_icmp_gt_t X dX4_fitting_32 (by decide) ?_
      refine rx_iload (i := 5) X dX4_fitting_113 rfl ?_
      refine rx_iret X dX4_fitting_115 ?_
      exact ⟨hz.symm, hf, hbo⟩
    | succ k ih =>
      intro i x z τ hi hx hf hbo hz
      subst hx
      refine rx_iload (i := 6) X dX4_fitting_28 rfl ?_
      refine rx_iload (i := 4) X dX4_fitting_30 rfl ?_
      refine rx_icmp_gt_f X dX4_fitting_32 (nI_ngt (b := 5) (by omega) (by decide)) ?_
      refine rx_aload_n (i := 0) X dX4_fitting_35 rfl rfl ?_
      refine rx_getR (ci := 4) (i := 0) X (kc_242 hO) rfl rfl (by decide) inX4 flX4_12 dX4_fitting_36 ?_
      refine rx_aload_n (i := 1) X dX4_fitting_39 rfl rfl ?_
      refine rx_callVv (ci := 3) X vsX3_takeFrom mlX4_28 (kX3_tf hO hw hf) (kb_0 hO cb_B243) rfl rfl (by decide) (by decide) dX4_fitting_40 rfl (Nat.le_of_ble_eq_true rfl) (fun t40 h40 => ?_)
      obtain ⟨h40f, h40⟩ := h40
      refine rx_aload_n (i := 0) X dX4_fitting_43 rfl rfl ?_
      refine rx_getR (ci := 4) (i := 0) X (kc_242 hO) rfl rfl (by decide) inX4 flX4_12 dX4_fitting_44 ?_
      refine rx_getR (ci := 3) (i := 5) X (kb_0 hO cb_B243) rfl rfl (by decide) inX3 flX4_43 dX4_fitting_47 ?_
      refine rx_iload_n (i := 2) X dX4_fitting_50 rfl rfl ?_
      refine rx_aaldN (j := a) X (kb_2 hO cb_B243) hO.2.2.2.2.2.1 rfl ha (by decide) (kb_el ha) dX4_fitting_51 ?_
      refine rx_astore (i := 7) (lo2 := [(0, .ref _), (1, .ref _), (2, .int _), (3, .int _), (4, .int _), (5, .int _), (6, .int _), (7, .ref _)]) X dX4_fitting_52 (by decide) rfl ?_
      refine rx_iload_n (i := 3) X dX4_fitting_54 rfl rfl ?_
      refine rx_if_ne_f X dX4_fitting_55 (by decide) ?_
      refine rx_aload (i := 7) X dX4_fitting_58 rfl ?_
      refine rx_iload (i := 6) X dX4_fitting_60 rfl ?_
      refine rx_putI (ci := 1) (i := 0) X (kb_a hO cb_B243 ha) rfl rfl (by decide) inX1 tyX1 tyX1_ok nmX1 flX4_119 rfl rfl dX4_fitting_62 ?_
      refine rx_goto X dX4_fitting_65 ?_
      refine rx_aload_n (i := 0) X dX4_fitting_90 rfl rfl ?_
      refine rx_iload_n (i := 2) X dX4_fitting_91 rfl rfl ?_
      have hset := (h40.kind (v := nI (i + 1)) ha)
      have hV := w_V_upd10 (v := nI (i + 1)) hv ha (by rw [nI_toInt (by omega)]; omega)
      have hBs := w_B_upd (v := nI (i + 1)) hb (show 10 + a ≠ 4 by omega)
      have hff := h40f.u1 (k := 243 + 3 + a) (i := 0) (v := nI (i + 1)) (by omega) (by omega)
      have hq4 := (congrFun (hff.2 242 (by omega)) 4).trans hm4
      have hq : ∀ i, i < n → _ = f (at0 + i) := fun i hi => (congrFun (hff.2 254 (by omega)) i).trans (hm i hi)
      refine rx_callVi (ci := 4) X vsX4_fitsMarks mlX4_122 (kX4_fitsMarks hO hset hV hBs (by omega) ha (by rw [upd_n (by omega)]; exact ha3) hq4 hq hn12) (kc_242 hO) rfl rfl (by decide) (by decide) dX4_fitting_92 rfl (Nat.le_of_ble_eq_true rfl) (fun r92 t92 h92 => ?_)
      obtain ⟨h92f, h92b, ⟨rfl, h92⟩ | ⟨rfl, h92⟩⟩ := h92
      · refine rx_if_eq_f X dX4_fitting_95 (by decide) ?_
        refine rx_iload (i := 5) X dX4_fitting_98 rfl ?_
        refine rx_iconst (v := 1) X dX4_fitting_100 (by decide) ?_
        refine rx_iload (i := 6) X dX4_fitting_101 rfl ?_
        refine rx_ishl X dX4_fitting_103 ?_
        refine rx_ior X dX4_fitting_104 ?_
        refine rx_istore (i := 5) (lo2 := [(0, .ref _), (1, .ref _), (2, .int _), (3, .int _), (4, .int _), (5, .int _), (6, .int _), (7, .ref _)]) X dX4_fitting_105 (by decide) rfl ?_
        refine rx_iinc (i := 6) (lo2 := [(0, .ref _), (1, .ref _), (2, .int _), (3, .int _), (4, .int _), (5, .int _), (6, .int _), (7, .ref _)]) X dX4_fitting_107 rfl (rx_inc1 _) (by decide) rfl ?_
        refine rx_goto X dX4_fitting_110 ?_
        refine (rx_less [0, 1, 2, 3, 4, 5, 6] rfl) ?_
        refine ih (i + 1) _ _ _ (by omega) (nI_1 (i + 1)) (hff.trans h92f) h92b ?_
        rw [w_who, if_pos h92, hz]
      · refine rx_if_eq_t X dX4_fitting_95 (by decide) ?_
        refine rx_iinc (i := 6) (lo2 := [(0, .ref _), (1, .ref _), (2, .int _), (3, .int _), (4, .int _), (5, .int _), (6, .int _), (7, .ref _)]) X dX4_fitting_107 rfl (rx_inc1 _) (by decide) rfl ?_
        refine rx_goto X dX4_fitting_110 ?_
        refine (rx_less [0, 1, 2, 3, 4, 5, 6] rfl) ?_
        refine ih (i + 1) _ _ _ (by omega) (nI_1 (i + 1)) (hff.trans h92f) h92b ?_
        rw [w_who, if_neg h92, hz, Int32.or_zero]
  refine rx_iload_n (i := 3) X dX4_fitting_0 rfl rfl ?_
  refine rx_if_ne_f X dX4_fitting_1 (by decide) ?_
  refine rx_iconst (v := 5) X dX4_fitting_4 (by decide) ?_
  refine rx_goto X dX4_fitting_5 ?_
  refine rx_istore (i := 4) (lo2 := [(0, .ref _), (1, .ref _), (2, .int _), (3, .int _), (4, .int _)]) X dX4_fitting_20 (by decide) rfl ?_
  refine rx_iconst (v := 0) X dX4_fitting_22 (by decide) ?_
  refine rx_istore (i := 5) (lo2 := [(0, .ref _), (1, .ref _), (2, .int _), (3, .int _), (4, .int _), (5, .int _)]) X dX4_fitting_23 (by decide) rfl ?_
  refine rx_iconst (v := 1) X dX4_fitting_25 (by decide) ?_
  refine rx_istore (i := 6) (lo2 := [(0, .ref _), (1, .ref _), (2, .int _), (3, .int _), (4, .int _), (5, .int _), (6, .int _)]) X dX4_fitting_26 (by decide) rfl ?_
  exact loop 5 0 _ _ σ rfl rfl (cb_fr.rfl' 243 σ) hbo rfl
set_option maxHeartbeats 1000000 in
set_option maxRecDepth 100000 in
theorem kX4_fitting1 {l : Launch} {O : rx_O} (hO : cb_O O) {σ : rx_S} {n a at0 : Nat} {w f : Nat → Int32} (hw : cb_R cb_T σ 1 w) (hv : w_V 999 w) (hb : w_B w) (ha : a < 6) (ha3 : a < rx_N (w 3)) (hbo : cb_bo σ 243) (hm4 : σ.1 242 4 = nI n) (hm : ∀ i, i < n → σ.1 254 i = f (at0 + i)) (hn12 : n ≤ 12) : rx_MI l O yX4_fitting cX4_fitting 8 (some .int) 5 [.ref 242, .ref 1, .int (nI a), .int 1] σ (fun r τ => w_who (-1) (16 + a) a f at0 n w 20 = r ∧ cb_fr 243 σ τ ∧ cb_bo τ 243) := by
  refine rx_Met_of (own := RX4) rfl hO.2.1 vsX4_fitting.2.2.2.2.2 (Nat.le_of_ble_eq_true rfl) rfl (fun p e s m args below meth c X => ?_)
  have loop : ∀ (k : Nat) (i : Nat) (x z : Int32) (τ : rx_S), (i + k = 20) → (x = nI (i + 1)) → (cb_fr 243 σ τ) → (cb_bo τ 243) → (z = w_who (-1) (16 + a) a f at0 n w i) → rx_J O 8 p l e (rx_lv 5) s m args below meth c (rx_QI O below args s (fun r τ => w_who (-1) (16 + a) a f at0 n w 20 = r ∧ cb_fr 243 σ τ ∧ cb_bo τ 243)) 28 [(0, .ref 242), (1, .ref 1), (2, .int (nI a)), (3, .int 1), (4, .int 20), (5, .int z), (6, .int x)] [] τ := by
    intro k
    induction k with
    | zero =>
      intro i x z τ hi hx hf hbo hz
      obtain rfl : i = 20 := by omega
      subst hx
      refine rx_iload (i := 6) X dX4_fitting_28 rfl ?_
      refine rx_iload (i := 4) X dX4_fitting_30 rfl ?_
      refine rx_icmp_gt_t X dX4_fitting_32 (by decide) ?_
      refine rx_iload (i := 5) X dX4_fitting_113 rfl ?_
      refine rx_iret X dX4_fitting_115 ?_
      exact ⟨hz.symm, hf, hbo⟩
    | succ k ih =>
      intro i x z τ hi hx hf hbo hz
      subst hx
      refine rx_iload (i := 6) X dX4_fitting_28 rfl ?_
      refine rx_iload (i := 4) X dX4_fitting_30 rfl ?_
      refine rx_icmp_gt_f X dX4_fitting_32 (nI_ngt (b := 20) (by omega) (by decide)) ?_
      refine rx_aload_n (i := 0) X dX4_fitting_35 rfl rfl ?_
      refine rx_getR (ci := 4) (i := 0) X (kc_242 hO) rfl rfl (by decide) inX4 flX4_12 dX4_fitting_36 ?_
      refine rx_aload_n (i := 1) X dX4_fitting_39 rfl rfl ?_
      refine rx_callVv (ci := 3) X vsX3_takeFrom mlX4_28 (kX3_tf hO hw hf) (kb_0 hO cb_B243) rfl rfl (by decide) (by decide) dX4_fitting_40 rfl (Nat.le_of_ble_eq_true rfl) (fun t40 h40 => ?_)
      obtain ⟨h40f, h40⟩ := h40
      refine rx_aload_n (i := 0) X dX4_fitting_43 rfl rfl ?_
      refine rx_getR (ci := 4) (i := 0) X (kc_242 hO) rfl rfl (by decide) inX4 flX4_12 dX4_fitting_44 ?_
      refine rx_getR (ci := 3) (i := 5) X (kb_0 hO cb_B243) rfl rfl (by decide) inX3 flX4_43 dX4_fitting_47 ?_
      refine rx_iload_n (i := 2) X dX4_fitting_50 rfl rfl ?_
      refine rx_aaldN (j := a) X (kb_2 hO cb_B243) hO.2.2.2.2.2.1 rfl ha (by decide) (kb_el ha) dX4_fitting_51 ?_
      refine rx_astore (i := 7) (lo2 := [(0, .ref _), (1, .ref _), (2, .int _), (3, .int _), (4, .int _), (5, .int _), (6, .int _), (7, .ref _)]) X dX4_fitting_52 (by decide) rfl ?_
      refine rx_iload_n (i := 3) X dX4_fitting_54 rfl rfl ?_
      refine rx_if_ne_t X dX4_fitting_55 (by decide) ?_
      refine rx_iload_n (i := 3) X dX4_fitting_68 rfl rfl ?_
      refine rx_iconst (v := 1) X dX4_fitting_69 (by decide) ?_
      refine rx_icmp_ne_f X dX4_fitting_70 (by decide) ?_
      refine rx_aload (i := 7) X dX4_fitting_73 rfl ?_
      refine rx_iload (i := 6) X dX4_fitting_75 rfl ?_
      refine rx_putI (ci := 1) (i := 1) X (kb_a hO cb_B243 ha) rfl rfl (by decide) inX1 tyX1 tyX1_ok nmX1 flX4_77 rfl rfl dX4_fitting_77 ?_
      refine rx_goto X dX4_fitting_80 ?_
      refine rx_aload_n (i := 0) X dX4_fitting_90 rfl rfl ?_
      refine rx_iload_n (i := 2) X dX4_fitting_91 rfl rfl ?_
      have hset := (h40.step (v := nI (i + 1)) ha).less (Q := fun b => b = a) (fun _ _ => trivial)
      have hV := w_V_upd16 (v := nI (i + 1)) hv ha (by rw [nI_toInt (by omega)]; omega)
      have hBs := w_B_upd (v := nI (i + 1)) hb (show 16 + a ≠ 4 by omega)
      have hff := h40f.u1 (k := 243 + 3 + a) (i := 1) (v := nI (i + 1)) (by omega) (by omega)
      have hq4 := (congrFun (hff.2 242 (by omega)) 4).trans hm4
      have hq : ∀ i, i < n → _ = f (at0 + i) := fun i hi => (congrFun (hff.2 254 (by omega)) i).trans (hm i hi)
      refine rx_callVi (ci := 4) X vsX4_fitsMarks mlX4_122 (kX4_fitsMarks hO hset hV hBs (by omega) ha (by rw [upd_n (by omega)]; exact ha3) hq4 hq hn12) (kc_242 hO) rfl rfl (by decide) (by decide) dX4_fitting_92 rfl (Nat.le_of_ble_eq_true rfl) (fun r92 t92 h92 => ?_)
      obtain ⟨h92f, h92b, ⟨rfl, h92⟩ | ⟨rfl, h92⟩⟩ := h92
      · refine rx_if_eq_f X dX4_fitting_95 (by decide) ?_
        refine rx_iload (i := 5) X dX4_fitting_98 rfl ?_
        refine rx_iconst (v := 1) X dX4_fitting_100 (by decide) ?_
        refine rx_iload (i := 6) X dX4_fitting_101 rfl ?_
        refine rx_ishl X dX4_fitting_103 ?_
        refine rx_ior X dX4_fitting_104 ?_
        refine rx_istore (i := 5) (lo2 := [(0, .ref _), (1, .ref _), (2, .int _), (3, .int _), (4, .int _), (5, .int _), (6, .int _), (7, .ref _)]) X dX4_fitting_105 (by decide) rfl ?_
        refine rx_iinc (i := 6) (lo2 := [(0, .ref _), (1, .ref _), (2, .int _), (3, .int _), (4, .int _), (5, .int _), (6, .int _), (7, .ref _)]) X dX4_fitting_107 rfl (rx_inc1 _) (by decide) rfl ?_
        refine rx_goto X dX4_fitting_110 ?_
        refine (rx_less [0, 1, 2, 3, 4, 5, 6] rfl) ?_
        refine ih (i + 1) _ _ _ (by omega) (nI_1 (i + 1)) (hff.trans h92f) h92b ?_
        rw [w_who, if_pos h92, hz]
      · refine rx_if_eq_t X dX4_fitting_95 (by decide) ?_
        refine rx_iinc (i := 6) (lo2 := [(0, .ref _), (1, .ref _), (2, .int _), (3, .int _), (4, .int _), (5, .int _), (6, .int _), (7, .ref _)]) X dX4_fitting_107 rfl (rx_inc1 _) (by decide) rfl ?_
        refine rx_goto X dX4_fitting_110 ?_
        refine (rx_less [0, 1, 2, 3, 4, 5, 6] rfl) ?_
        refine ih (i + 1) _ _ _ (by omega) (nI_1 (i + 1)) (hff.trans h92f) h92b ?_
        rw [w_who, if_neg h92, hz, Int32.or_zero]
  refine rx_iload_n (i := 3) X dX4_fitting_0 rfl rfl ?_
  refine rx_if_ne_t X dX4_fitting_1 (by decide) ?_
  refine rx_iload_n (i := 3) X dX4_fitting_8 rfl rfl ?_
  refine rx_iconst (v := 1) X dX4_fitting_9 (by decide) ?_
  refine rx_icmp_ne_f X dX4_fitting_10 (by decide) ?_
  refine rx_bipush (v := 20) X dX4_fitting_13 (by decide) ?_
  refine rx_goto X dX4_fitting_15 ?_
  refine rx_istore (i := 4) (lo2 := [(0, .ref _), (1, .ref _), (2, .int _), (3, .int _), (4, .int _)]) X dX4_fitting_20 (by decide) rfl ?_
  refine rx_iconst (v := 0) X dX4_fitting_22 (by decide) ?_
  refine rx_istore (i := 5) (lo2 := [(0, .ref _), (1, .ref _), (2, .int _), (3, .int _), (4, .int _), (5, .int _)]) X dX4_fitting_23 (by decide) rfl ?_
  refine rx_iconst (v := 1) X dX4_fitting_25 (by decide) ?_
  refine rx_istore (i := 6) (lo2 := [(0, .ref _), (1, .ref _), (2, .int _), (3, .int _), (4, .int _), (5, .int _), (6, .int _)]) X dX4_fitting_26 (by decide) rfl ?_
  exact loop 20 0 _ _ σ rfl rfl (cb_fr.rfl' 243 σ) hbo rfl
set_option maxHeartbeats 1000000 in
set_option maxRecDepth 100000 in
theorem kX4_fitting2 {l : Launch} {O : rx_O} (hO : cb_O O) {σ : rx_S} {n a at0 : Nat} {w f : Nat → Int32} (hw : cb_R cb_T σ 1 w) (hv : w_V 999 w) (hb : w_B w) (ha : a < 6) (ha3 : a < rx_N (w 3)) (hbo : cb_bo σ 243) (hm4 : σ.1 242 4 = nI n) (hm : ∀ i, i < n → σ.1 254 i = f (at0 + i)) (hn12 : n ≤ 12) : rx_MI l O yX4_fitting cX4_fitting 8 (some .int) 5 [.ref 242, .ref 1, .int (nI a), .int 2] σ (fun r τ => w_who (-1) (28 + a) a f at0 n w 9 = r ∧ cb_fr 243 σ τ ∧ cb_bo τ 243) := by
  refine rx_Met_of (own := RX4) rfl hO.2.1 vsX4_fitting.2.2.2.2.2 (Nat.le_of_ble_eq_true rfl) rfl (fun p e s m args below meth c X => ?_)
  have loop : ∀ (k : Nat) (i : Nat) (x z : Int32) (τ : rx_S), (i + k = 9) → (x = nI (i + 1)) → (cb_fr 243 σ τ) → (cb_bo τ 243) → (z = w_who (-1) (28 + a) a f at0 n w i) → rx_J O 8 p l e (rx_lv 5) s m args below meth c (rx_QI O below args s (fun r τ => w_who (-1) (28 + a) a f at0 n w 9 = r ∧ cb_fr 243 σ τ ∧ cb_bo τ 243)) 28 [(0, .ref 242), (1, .ref 1), (2, .int (nI a)), (3, .int 2), (4, .int 9), (5, .int z), (6, .int x)] [] τ := by
    intro k
    induction k with
    | zero =>
      intro i x z τ hi hx hf hbo hz
      obtain rfl : i = 9 := by omega
      subst hx
      refine rx_iload (i := 6) X dX4_fitting_28 rfl ?_
      refine rx_iload (i := 4) X dX4_fitting_30 rfl ?_
      refine rx_icmp_gt_t X dX4_fitting_32 (by decide) ?_
      refine rx_iload (i := 5) X dX4_fitting_113 rfl ?_
      refine rx_iret X dX4_fitting_115 ?_
      exact ⟨hz.symm, hf, hbo⟩
    | succ k ih =>
      intro i x z τ hi hx hf hbo hz
      subst hx
      refine rx_iload (i := 6) X dX4_fitting_28 rfl ?_
      refine rx_iload (i := 4) X dX4_fitting_30 rfl ?_
      refine rx_icmp_gt_f X dX4_fitting_32 (nI_ngt (b := 9) (by omega) (by decide)) ?_
      refine rx_aload_n (i := 0) X dX4_fitting_35 rfl rfl ?_
      refine rx_getR (ci := 4) (i := 0) X (kc_242 hO) rfl rfl (by decide) inX4 flX4_12 dX4_fitting_36 ?_
      refine rx_aload_n (i := 1) X dX4_fitting_39 rfl rfl ?_
      refine rx_callVv (ci := 3) X vsX3_takeFrom mlX4_28 (kX3_tf hO hw hf) (kb_0 hO cb_B243) rfl rfl (by decide) (by decide) dX4_fitting_40 rfl (Nat.le_of_ble_eq_true rfl) (fun t40 h40 => ?_)
      obtain ⟨h40f, h40⟩ := h40
      refine rx_aload_n (i := 0) X dX4_fitting_43 rfl rfl ?_
      refine rx_getR (ci := 4) (i := 0) X (kc_242 hO) rfl rfl (by decide) inX4 flX4_12 dX4_fitting_44 ?_
      refine rx_getR (ci := 3) (i := 5) X (kb_0 hO cb_B243) rfl rfl (by decide) inX3 flX4_43 dX4_fitting_47 ?_
      refine rx_iload_n (i := 2) X dX4_fitting_50 rfl rfl ?_
      refine rx_aaldN (j := a) X (kb_2 hO cb_B243) hO.2.2.2.2.2.1 rfl ha (by decide) (kb_el ha) dX4_fitting_51 ?_
      refine rx_astore (i := 7) (lo2 := [(0, .ref _), (1, .ref _), (2, .int _), (3, .int _), (4, .int _), (5, .int _), (6, .int _), (7, .ref _)]) X dX4_fitting_52 (by decide) rfl ?_
      refine rx_iload_n (i := 3) X dX4_fitting_54 rfl rfl ?_
      refine rx_if_ne_t X dX4_fitting_55 (by decide) ?_
      refine rx_iload_n (i := 3) X dX4_fitting_68 rfl rfl ?_
      refine rx_iconst (v := 1) X dX4_fitting_69 (by decide) ?_
      refine rx_icmp_ne_t X dX4_fitting_70 (by decide) ?_
      refine rx_aload (i := 7) X dX4_fitting_83 rfl ?_
      refine rx_iload (i := 6) X dX4_fitting_85 rfl ?_
      refine rx_putI (ci := 1) (i := 3) X (kb_a hO cb_B243 ha) rfl rfl (by decide) inX1 tyX1 tyX1_ok nmX1 flX4_86 rfl rfl dX4_fitting_87 ?_
      refine rx_aload_n (i := 0) X dX4_fitting_90 rfl rfl ?_
      refine rx_iload_n (i := 2) X dX4_fitting_91 rfl rfl ?_
      have hset := (h40.rest (v := nI (i + 1)) ha).less (Q := fun b => b = a) (fun _ _ => trivial)
      have hV := w_V_upd28 (v := nI (i + 1)) hv ha (by rw [nI_toInt (by omega)]; omega)
      have hBs := w_B_upd (v := nI (i + 1)) hb (show 28 + a ≠ 4 by omega)
      have hff := h40f.u1 (k := 243 + 3 + a) (i := 3) (v := nI (i + 1)) (by omega) (by omega)
      have hq4 := (congrFun (hff.2 242 (by omega)) 4).trans hm4
      have hq : ∀ i, i < n → _ = f (at0 + i) := fun i hi => (congrFun (hff.2 254 (by omega)) i).trans (hm i hi)
      refine rx_callVi (ci := 4) X vsX4_fitsMarks mlX4_122 (kX4_fitsMarks hO hset hV hBs (by omega) ha (by rw [upd_n (by omega)]; exact ha3) hq4 hq hn12) (kc_242 hO) rfl rfl (by decide) (by decide) dX4_fitting_92 rfl (Nat.le_of_ble_eq_true rfl) (fun r92 t92 h92 => ?_)
      obtain ⟨h92f, h92b, ⟨rfl, h92⟩ | ⟨rfl, h92⟩⟩ := h92
      · refine rx_if_eq_f X dX4_fitting_95 (by decide) ?_
        refine rx_iload (i := 5) X dX4_fitting_98 rfl ?_
        refine rx_iconst (v := 1) X dX4_fitting_100 (by decide) ?_
        refine rx_iload (i := 6) X dX4_fitting_101 rfl ?_
        refine rx_ishl X dX4_fitting_103 ?_
        refine rx_ior X dX4_fitting_104 ?_
        refine rx_istore (i := 5) (lo2 := [(0, .ref _), (1, .ref _), (2, .int _), (3, .int _), (4, .int _), (5, .int _), (6, .int _), (7, .ref _)]) X dX4_fitting_105 (by decide) rfl ?_
        refine rx_iinc (i := 6) (lo2 := [(0, .ref _), (1, .ref _), (2, .int _), (3, .int _), (4, .int _), (5, .int _), (6, .int _), (7, .ref _)]) X dX4_fitting_107 rfl (rx_inc1 _) (by decide) rfl ?_
        refine rx_goto X dX4_fitting_110 ?_
        refine (rx_less [0, 1, 2, 3, 4, 5, 6] rfl) ?_
        refine ih (i + 1) _ _ _ (by omega) (nI_1 (i + 1)) (hff.trans h92f) h92b ?_
        rw [w_who, if_pos h92, hz]
      · refine rx_if_eq_t X dX4_fitting_95 (by decide) ?_
        refine rx_iinc (i := 6) (lo2 := [(0, .ref _), (1, .ref _), (2, .int _), (3, .int _), (4, .int _), (5, .int _), (6, .int _), (7, .ref _)]) X dX4_fitting_107 rfl (rx_inc1 _) (by decide) rfl ?_
        refine rx_goto X dX4_fitting_110 ?_
        refine (rx_less [0, 1, 2, 3, 4, 5, 6] rfl) ?_
        refine ih (i + 1) _ _ _ (by omega) (nI_1 (i + 1)) (hff.trans h92f) h92b ?_
        rw [w_who, if_neg h92, hz, Int32.or_zero]
  refine rx_iload_n (i := 3) X dX4_fitting_0 rfl rfl ?_
  refine rx_if_ne_t X dX4_fitting_1 (by decide) ?_
  refine rx_iload_n (i := 3) X dX4_fitting_8 rfl rfl ?_
  refine rx_iconst (v := 1) X dX4_fitting_9 (by decide) ?_
  refine rx_icmp_ne_t X dX4_fitting_10 (by decide) ?_
  refine rx_bipush (v := 9) X dX4_fitting_18 (by decide) ?_
  refine rx_istore (i := 4) (lo2 := [(0, .ref _), (1, .ref _), (2, .int _), (3, .int _), (4, .int _)]) X dX4_fitting_20 (by decide) rfl ?_
  refine rx_iconst (v := 0) X dX4_fitting_22 (by decide) ?_
  refine rx_istore (i := 5) (lo2 := [(0, .ref _), (1, .ref _), (2, .int _), (3, .int _), (4, .int _), (5, .int _)]) X dX4_fitting_23 (by decide) rfl ?_
  refine rx_iconst (v := 1) X dX4_fitting_25 (by decide) ?_
  refine rx_istore (i := 6) (lo2 := [(0, .ref _), (1, .ref _), (2, .int _), (3, .int _), (4, .int _), (5, .int _), (6, .int _)]) X dX4_fitting_26 (by decide) rfl ?_
  exact loop 9 0 _ _ σ rfl rfl (cb_fr.rfl' 243 σ) hbo rfl
set_option maxHeartbeats 1000000 in
set_option maxRecDepth 100000 in
theorem kX4_fittingAnts {l : Launch} {O : rx_O} (hO : cb_O O) {σ : rx_S} {n at0 : Nat} {w f : Nat → Int32} (hw : cb_R cb_T σ 1 w) (hv : w_V 999 w) (hb : w_B w) (hbo : cb_bo σ 243) (hm4 : σ.1 242 4 = nI n) (hm : ∀ i, i < n → σ.1 254 i = f (at0 + i)) (hn12 : n ≤ 12) : rx_MI l O yX4_fittingAnts cX4_fittingAnts 4 (some .int) 5 [.ref 242, .ref 1] σ (fun r τ => w_whi (-1) f at0 n w (rx_N (w 3)) = r ∧ cb_fr 243 σ τ ∧ cb_bo τ 243) := by
  refine rx_Met_of (own := RX4) rfl hO.2.1 vsX4_fittingAnts.2.2.2.2.2 (Nat.le_of_ble_eq_true rfl) rfl (fun p e s m args below meth c X => ?_)
  have n3 := hv.n3
  have loop : ∀ (k : Nat) (i : Nat) (x z : Int32) (τ : rx_S), (i + k = rx_N (w 3)) → (x = nI i) → (cb_fr 243 σ τ) → (cb_bo τ 243) → (z = w_whi (-1) f at0 n w i) → rx_J O 4 p l e (rx_lv 5) s m args below meth c (rx_QI O below args s (fun r τ => w_whi (-1) f at0 n w (rx_N (w 3)) = r ∧ cb_fr 243 σ τ ∧ cb_bo τ 243)) 4 [(0, .ref 242), (1, .ref 1), (2, .int z), (3, .int x)] [] τ := by
    intro k
    induction k with
    | zero =>
      intro i x z τ hi hx hf hbo hz
      obtain rfl : i = rx_N (w 3) := by omega
      subst hx
      refine rx_iload_n (i := 3) X dX4_fittingAnts_4 rfl rfl ?_
      refine rx_aload_n (i := 1) X dX4_fittingAnts_5 rfl rfl ?_
      refine rx_getI (ci := 3) (i := 3) X (kb_0 hO cb_B1) rfl rfl (by decide) inX3 flX4_113 dX4_fittingAnts_6 ?_
      refine rx_top ((hw.fr hf (by omega)).2.1.1.2.2.2.trans (rx_nN (by have := hv.2.2.2.1; omega))) ?_
      refine rx_icmp_ge_t X dX4_fittingAnts_9 (Int32.le_refl _) ?_
      refine rx_iload_n (i := 2) X dX4_fittingAnts_40 rfl rfl ?_
      refine rx_iret X dX4_fittingAnts_41 ?_
      exact ⟨hz.symm, hf, hbo⟩
    | succ k ih =>
      intro i x z τ hi hx hf hbo hz
      subst hx
      refine rx_iload_n (i := 3) X dX4_fittingAnts_4 rfl rfl ?_
      refine rx_aload_n (i := 1) X dX4_fittingAnts_5 rfl rfl ?_
      refine rx_getI (ci := 3) (i := 3) X (kb_0 hO cb_B1) rfl rfl (by decide) inX3 flX4_113 dX4_fittingAnts_6 ?_
      refine rx_top ((hw.fr hf (by omega)).2.1.1.2.2.2.trans (rx_nN (by have := hv.2.2.2.1; omega))) ?_
      refine rx_icmp_ge_f X dX4_fittingAnts_9 (nI_ge (b := rx_N (w 3)) (by omega) (by omega)) ?_
      refine rx_aload_n (i := 0) X dX4_fittingAnts_12 rfl rfl ?_
      refine rx_getR (ci := 4) (i := 0) X (kc_242 hO) rfl rfl (by decide) inX4 flX4_12 dX4_fittingAnts_13 ?_
      refine rx_aload_n (i := 1) X dX4_fittingAnts_16 rfl rfl ?_
      refine rx_callVv (ci := 3) X vsX3_takeFrom mlX4_28 (kX3_tf hO hw hf) (kb_0 hO cb_B243) rfl rfl (by decide) (by decide) dX4_fittingAnts_17 rfl (Nat.le_of_ble_eq_true rfl) (fun t17 h17 => ?_)
      obtain ⟨h17f, h17⟩ := h17
      refine rx_aload_n (i := 0) X dX4_fittingAnts_20 rfl rfl ?_
      refine rx_iload_n (i := 3) X dX4_fittingAnts_21 rfl rfl ?_
      have hset := h17.less (Q := fun b => b = i) (fun _ _ => trivial)
      have hq4 := (congrFun (h17f.2 242 (by omega)) 4).trans hm4
      have hq : ∀ i, i < n → _ = f (at0 + i) := fun i hi => (congrFun (h17f.2 254 (by omega)) i).trans (hm i hi)
      refine rx_callVi (ci := 4) X vsX4_fitsMarks mlX4_122 (kX4_fitsMarks hO hset hv hb (by omega) (by omega) (by omega) hq4 hq hn12) (kc_242 hO) rfl rfl (by decide) (by decide) dX4_fittingAnts_22 rfl (Nat.le_of_ble_eq_true rfl) (fun r22 t22 h22 => ?_)
      obtain ⟨h22f, h22b, ⟨rfl, h22⟩ | ⟨rfl, h22⟩⟩ := h22
      · refine rx_if_eq_f X dX4_fittingAnts_25 (by decide) ?_
        refine rx_iload_n (i := 2) X dX4_fittingAnts_28 rfl rfl ?_
        refine rx_iconst (v := 1) X dX4_fittingAnts_29 (by decide) ?_
        refine rx_iload_n (i := 3) X dX4_fittingAnts_30 rfl rfl ?_
        refine rx_ishl X dX4_fittingAnts_31 ?_
        refine rx_ior X dX4_fittingAnts_32 ?_
        refine rx_istore_n (i := 2) (lo2 := [(0, .ref _), (1, .ref _), (2, .int _), (3, .int _)]) X dX4_fittingAnts_33 rfl (by decide) rfl ?_
        refine rx_iinc (i := 3) (lo2 := [(0, .ref _), (1, .ref _), (2, .int _), (3, .int _)]) X dX4_fittingAnts_34 rfl (rx_inc1 _) (by decide) rfl ?_
        refine rx_goto X dX4_fittingAnts_37 ?_
        refine ih (i + 1) _ _ _ (by omega) (nI_1 i) (h17f.trans h22f) h22b ?_
        rw [w_whi, if_pos h22, hz]
      · refine rx_if_eq_t X dX4_fittingAnts_25 (by decide) ?_
        refine rx_iinc (i := 3) (lo2 := [(0, .ref _), (1, .ref _), (2, .int _), (3, .int _)]) X dX4_fittingAnts_34 rfl (rx_inc1 _) (by decide) rfl ?_
        refine rx_goto X dX4_fittingAnts_37 ?_
        refine ih (i + 1) _ _ _ (by omega) (nI_1 i) (h17f.trans h22f) h22b ?_
        rw [w_whi, if_neg h22, hz, Int32.or_zero]
  refine rx_iconst (v := 0) X dX4_fittingAnts_0 (by decide) ?_
  refine rx_istore_n (i := 2) (lo2 := [(0, .ref _), (1, .ref _), (2, .int _)]) X dX4_fittingAnts_1 rfl (by decide) rfl ?_
  refine rx_iconst (v := 0) X dX4_fittingAnts_2 (by decide) ?_
  refine rx_istore_n (i := 3) (lo2 := [(0, .ref _), (1, .ref _), (2, .int _), (3, .int _)]) X dX4_fittingAnts_3 rfl (by decide) rfl ?_
  exact loop (rx_N (w 3)) 0 _ _ σ (by omega) rfl (cb_fr.rfl' 243 σ) hbo rfl
theorem ac_n : Cond.native arraycopyName ∈ rx_tbl := rx_in (i := 372) (by decide +kernel) rfl
theorem ac_st : Cond.static arraycopyName ∈ rx_tbl := rx_in (i := 371) (by decide +kernel) rfl
theorem ac_in : Cond.initialized "java/lang/System" ∈ rx_tbl := rx_in (i := 73) (by decide +kernel) rfl
theorem ac_l4 : Cond.methodLink RX4 97 arraycopyName ∈ rx_tbl := rx_in (i := 663) (by decide +kernel) rfl
theorem ac_l7 : Cond.methodLink RX7 105 arraycopyName ∈ rx_tbl := rx_in (i := 370) (by decide +kernel) rfl
theorem nI_n0 {k : Nat} (h : k < 2 ^ 31) : ¬ nI k < 0 := Int32.not_lt.mpr (nI_le (a := 0) (Nat.zero_le k) h)
set_option maxHeartbeats 1000000 in
set_option maxRecDepth 100000 in
theorem kX4_readMarks {l : Launch} {O : rx_O} (hO : cb_O O) {σ : rx_S} {r i n : Nat} (hr : r < 8) (hin : i + n ≤ 40) (hn12 : n ≤ 12) : rx_MV l O yX4_readMarks cX4_readMarks 4 none 1 [.ref 242, .ref (12 + r), .int (nI i), .int (nI n)] σ (fun τ => (∀ k, k ≠ 242 → k ≠ 254 → τ.1 k = σ.1 k) ∧ τ.1 242 4 = nI n ∧ ∀ j, j < n → τ.1 254 j = σ.1 (12 + r) (i + j)) := by
  refine rx_Met_of (own := RX4) rfl hO.2.1 vsX4_readMarks.2.2.2.2.2 (Nat.le_of_ble_eq_true rfl) rfl (fun p e s m args below meth c X => ?_)
  refine rx_aload_n (i := 0) X dX4_readMarks_0 rfl rfl ?_
  refine rx_iload_n (i := 3) X dX4_readMarks_1 rfl rfl ?_
  refine rx_putI (ci := 4) (i := 4) X (kc_242 hO) rfl rfl (by decide) inX4 tyX4 tyX4_ok nmX4 flX4_116 rfl rfl dX4_readMarks_2 ?_
  refine rx_aload_n (i := 1) X dX4_readMarks_5 rfl rfl ?_
  refine rx_iload_n (i := 2) X dX4_readMarks_6 rfl rfl ?_
  refine rx_aload_n (i := 0) X dX4_readMarks_7 rfl rfl ?_
  refine rx_getR (ci := 4) (i := 3) X (kc_242 hO) rfl rfl (by decide) inX4 flX4_25 dX4_readMarks_8 ?_
  refine rx_iconst (v := 0) X dX4_readMarks_11 (by decide) ?_
  refine rx_iload_n (i := 3) X dX4_readMarks_12 rfl rfl ?_
  refine rx_copy X ac_l4 ac_n ac_st ac_in (kc_row hO hr) (kc_254 hO) hO.2.2.1 hO.2.2.1 (nI_n0 (by omega)) (by decide) (nI_n0 (by omega)) (by rw [nI_clamp (by omega), nI_clamp (by omega)]; exact hin) (by rw [nI_clamp (by omega)]; show 0 + n ≤ 12; omega) (by decide) (Nat.le_of_ble_eq_true rfl) dX4_readMarks_13 ?_
  refine rx_vret X dX4_readMarks_16 ?_
  refine ⟨fun k h1 h2 => by rw [rx_ua_ne h2, rx_u_ne h1], by rw [rx_ua_ne (by omega), rx_u_s, upd_s], fun j hj => ?_⟩
  rw [rx_ua_s, nI_clamp (by omega), nI_clamp (by omega), rx_u_ne (by omega)]
  show (if 0 ≤ j ∧ j < 0 + n then σ.1 (12 + r) (i + (j - 0)) else _) = _
  rw [if_pos (by omega), Nat.sub_zero]
