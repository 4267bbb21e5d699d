theorem nI_m1 : ∀ a, a < 6 → ¬ nI a = (-1 : Int32) := by decide +kernel
theorem kX3_pmo {l : Launch} {O : rx_O} (hO : cb_O O) {σ : rx_S} {B K a : Nat} {w : Nat → Int32} (hB : cb_B B) (h : cb_R (fun b => b = a) σ B w) (hv : w_V K w) (hb : w_B w) (ha : a < 6) (hn : a < rx_N (w 3)) : rx_MV l O yX3_passMinuteOf cX3_passMinuteOf 2 none 3 [.ref B, .int (nI a)] σ (fun τ => cb_fr B σ τ ∧ cb_R (fun b => b = a) τ B (w_one (-1) w)) :=
  rx_MV.weak (kX3_passMinuteOf hO hB h hv hb ha hn rfl) (fun τ q => ⟨q.1, q.2.alone ha hn hv.n3.2 hb (nI_m1 a ha)⟩)
theorem kX3_tf {l : Launch} {O : rx_O} (hO : cb_O O) {σ ρ : rx_S} {w : Nat → Int32} (h : cb_R cb_T ρ 1 w) (hf : cb_fr 243 ρ σ) : rx_MV l O yX3_takeFrom cX3_takeFrom 3 none 1 [.ref 243, .ref 1] σ (fun τ => cb_fr 243 ρ τ ∧ cb_R cb_T τ 243 w) :=
  rx_MV.weak (kX3_takeFrom hO cb_B243 cb_B1 (by omega) (h.fr hf (by omega)).1) (fun τ q => ⟨hf.trans q.1, q.2.R (h.fr hf (by omega))⟩)
def c_cmp (x y : Int32) : Int32 := if x < y then -1 else if x = y then 0 else 1
theorem w_one_n3 {sp : Int32} {w : Nat → Int32} : rx_N (w_one sp w 3) = rx_N (w 3) := by rw [w_one_3]
set_option maxHeartbeats 4000000 in
set_option maxRecDepth 100000 in
theorem kJ6_compare_7cf53 {l : Launch} {O : rx_O} (hO : cb_O O) {σ : rx_S} {x y : Int32} : rx_MI l O yJ6_compare_7cf53 cJ6_compare_7cf53 2 (some .int) 0 [.int x, .int y] σ (fun r τ => c_cmp x y = r ∧ σ = τ) := by
  refine rx_Met_of (own := RJ6) rfl hO.2.1 vsJ6_compare_7cf53.2.2.2.2 (Nat.le_of_ble_eq_true rfl) rfl (fun p e s m args below meth c X => ?_)
  refine rx_iload_n (i := 0) X dJ6_compare_7cf53_0 rfl rfl ?_
  refine rx_iload_n (i := 1) X dJ6_compare_7cf53_1 rfl rfl ?_
  refine rx_icmp_ge X dJ6_compare_7cf53_2 (fun h2 => ?_) (fun h2 => ?_)
  · refine rx_iload_n (i := 0) X dJ6_compare_7cf53_9 rfl rfl ?_
    refine rx_iload_n (i := 1) X dJ6_compare_7cf53_10 rfl rfl ?_
    refine rx_icmp_ne X dJ6_compare_7cf53_11 (fun h11 => ?_) (fun h11 => ?_)
    · refine rx_iconst (v := 1) X dJ6_compare_7cf53_18 (by decide) ?_
      refine rx_iret X dJ6_compare_7cf53_19 ?_
      exact ⟨(if_neg (Int32.not_lt.mpr h2)).trans (if_neg h11), rfl⟩
    · refine rx_iconst (v := 0) X dJ6_compare_7cf53_14 (by decide) ?_
      refine rx_goto X dJ6_compare_7cf53_15 ?_
      refine rx_iret X dJ6_compare_7cf53_19 ?_
      exact ⟨(if_neg (Int32.not_lt.mpr h2)).trans (if_pos h11), rfl⟩
  · refine rx_iconst (v := -1) X dJ6_compare_7cf53_5 (by decide) ?_
    refine rx_goto X dJ6_compare_7cf53_6 ?_
    refine rx_iret X dJ6_compare_7cf53_19 ?_
    exact ⟨if_pos (Int32.not_le.mp h2), rfl⟩
set_option maxHeartbeats 4000000 in
set_option maxRecDepth 100000 in
theorem kX4_lookAhead {l : Launch} {O : rx_O} (hO : cb_O O) {σ : rx_S} {n : Nat} {w : Nat → Int32} (hw : cb_R cb_T σ 1 w) (hv : w_V 999 w) (hb : w_B w) (hn : n < 1000) : rx_MV l O yX4_lookAhead cX4_lookAhead 4 none 4 [.ref 242, .ref 1, .int (nI n)] σ (fun τ => cb_fr 243 σ τ ∧ cb_R cb_T τ 243 (w_on (-1) n w)) := by
  refine rx_Met_of (own := RX4) rfl hO.2.1 vsX4_lookAhead.2.2.2.2.2 (Nat.le_of_ble_eq_true rfl) rfl (fun p e s m args below meth c X => ?_)
  have loop : ∀ (k : Nat) (i : Nat) (x : Int32) (τ : rx_S) (u : Nat → Int32), (i + k = n) → (x = nI i) → (cb_fr 243 σ τ) → (cb_R cb_T τ 243 u) → (w_V (999 + i) u) → (w_B u) → (w_on (-1) n w = w_on (-1) k u) → rx_J O 4 p l e (rx_lv 4) s m args below meth c (rx_QV O below args s (fun τ => cb_fr 243 σ τ ∧ cb_R cb_T τ 243 (w_on (-1) n w))) 10 [(0, .ref 242), (1, .ref 1), (2, .int (nI n)), (3, .int x)] [] τ := by
    intro k
    induction k with
    | zero =>
      intro i x τ u hi hx hf hτ hv2 hb2 he
      obtain rfl : i = n := by omega
      subst hx
      refine rx_iload_n (i := 3) X dX4_lookAhead_10 rfl rfl ?_
      refine rx_iload_n (i := 2) X dX4_lookAhead_11 rfl rfl ?_
      refine rx_icmp_ge_t X dX4_lookAhead_12 (Int32.le_refl _) ?_
      refine rx_vret X dX4_lookAhead_29 ?_
      exact ⟨hf, by rw [he]; exact hτ⟩
    | succ k ih =>
      intro i x τ u hi hx hf hτ hv2 hb2 he
      subst hx
      refine rx_iload_n (i := 3) X dX4_lookAhead_10 rfl rfl ?_
      refine rx_iload_n (i := 2) X dX4_lookAhead_11 rfl rfl ?_
      refine rx_icmp_ge_f X dX4_lookAhead_12 (nI_ge (by omega) (by omega)) ?_
      refine rx_aload_n (i := 0) X dX4_lookAhead_15 rfl rfl ?_
      refine rx_getR (ci := 4) (i := 0) X (kc_242 hO) rfl rfl (by decide) inX4 flX4_12 dX4_lookAhead_16 ?_
      refine rx_iconst (v := -1) X dX4_lookAhead_19 (by decide) ?_
      refine rx_callVv (ci := 3) X vsX3_passMinute mlX4_32 (kX3_passMinute hO cb_B243 hτ hv2 hb2) (kb_0 hO cb_B243) rfl rfl (by decide) (by decide) dX4_lookAhead_20 rfl (Nat.le_of_ble_eq_true rfl) (fun t20 h20 => ?_)
      obtain ⟨h20f, h20⟩ := h20
      refine rx_iinc (i := 3) (lo2 := [(0, .ref _), (1, .ref _), (2, .int _), (3, .int _)]) X dX4_lookAhead_23 rfl (rx_inc1 _) (by decide) rfl ?_
      refine rx_goto X dX4_lookAhead_26 ?_
      exact ih (i + 1) _ _ _ (by omega) (nI_1 i) (hf.trans h20f) h20 (w_V_one (K := 999 + i) (by omega) hv2) (w_B_one hb2 hv2) (by rw [he]; rfl)
  refine rx_aload_n (i := 0) X dX4_lookAhead_0 rfl rfl ?_
  refine rx_getR (ci := 4) (i := 0) X (kc_242 hO) rfl rfl (by decide) inX4 flX4_12 dX4_lookAhead_1 ?_
  refine rx_aload_n (i := 1) X dX4_lookAhead_4 rfl rfl ?_
  refine rx_callVv (ci := 3) X vsX3_takeFrom mlX4_28 (kX3_tf hO hw (cb_fr.rfl' 243 σ)) (kb_0 hO cb_B243) rfl rfl (by decide) (by decide) dX4_lookAhead_5 rfl (Nat.le_of_ble_eq_true rfl) (fun t5 h5 => ?_)
  obtain ⟨h5f, h5⟩ := h5
  refine rx_iconst (v := 0) X dX4_lookAhead_8 (by decide) ?_
  refine rx_istore_n (i := 3) (lo2 := [(0, .ref _), (1, .ref _), (2, .int _), (3, .int _)]) X dX4_lookAhead_9 rfl (by decide) rfl ?_
  exact loop n 0 _ _ _ (by omega) rfl h5f h5 hv hb rfl
set_option maxHeartbeats 4000000 in
set_option maxRecDepth 100000 in
theorem kX4_partOnward {l : Launch} {O : rx_O} (hO : cb_O O) {σ : rx_S} {n a K : Nat} {w : Nat → Int32} (h : cb_R (fun b => b = a) σ 243 w) (hv : w_V K w) (hb : w_B w) (hn : n < 1000) (hK : K < 10000) (ha : a < 6) (ha3 : a < rx_N (w 3)) : rx_MI l O yX4_partOnward cX4_partOnward 4 (some .int) 4 [.ref 242, .int (nI a), .int (nI n)] σ (fun r τ => w_on (-1) n w (34 + a) = r ∧ cb_fr 243 σ τ ∧ cb_bo τ 243) := by
  refine rx_Met_of (own := RX4) rfl hO.2.1 vsX4_partOnward.2.2.2.2.2 (Nat.le_of_ble_eq_true rfl) rfl (fun p e s m args below meth c X => ?_)
  have loop : ∀ (k : Nat) (i K : Nat) (x : Int32) (τ : rx_S) (u : Nat → Int32), (i + k = n) → (x = nI i) → (K + k < 1000000) → (cb_fr 243 σ τ) → (cb_R (fun b => b = a) τ 243 u) → (w_V K u) → (w_B u) → (a < rx_N (u 3)) → (w_on (-1) n w (34 + a) = w_on (-1) k u (34 + a)) → rx_J O 4 p l e (rx_lv 4) s m args below meth c (rx_QI O below args s (fun r τ => w_on (-1) n w (34 + a) = r ∧ cb_fr 243 σ τ ∧ cb_bo τ 243)) 2 [(0, .ref 242), (1, .int (nI a)), (2, .int (nI n)), (3, .int x)] [] τ := by
    intro k
    induction k with
    | zero =>
      intro i K x τ u hi hx hK hf hτ hv2 hb2 ha3 he
      obtain rfl : i = n := by omega
      subst hx
      refine rx_iload_n (i := 3) X dX4_partOnward_2 rfl rfl ?_
      refine rx_iload_n (i := 2) X dX4_partOnward_3 rfl rfl ?_
      refine rx_icmp_ge_t X dX4_partOnward_4 (Int32.le_refl _) ?_
      refine rx_aload_n (i := 0) X dX4_partOnward_21 rfl rfl ?_
      refine rx_getR (ci := 4) (i := 0) X (kc_242 hO) rfl rfl (by decide) inX4 flX4_12 dX4_partOnward_22 ?_
      refine rx_getR (ci := 3) (i := 5) X (kb_0 hO cb_B243) rfl rfl (by decide) inX3 flX4_43 dX4_partOnward_25 ?_
      refine rx_iload_n (i := 1) X dX4_partOnward_28 rfl rfl ?_
      refine rx_aaldN (j := a) X (kb_2 hO cb_B243) hO.2.2.2.2.2.1 rfl ha (by decide) (kb_el ha) dX4_partOnward_29 ?_
      refine rx_getI (ci := 1) (i := 4) X (kb_a hO cb_B243 ha) rfl rfl (by decide) inX1 flX4_47 dX4_partOnward_30 ?_
      refine rx_top (hτ.2.2 a ha ha3 rfl).2.2.2.2.1 ?_
      refine rx_iret X dX4_partOnward_33 ?_
      exact ⟨by rw [he]; rfl, hf, hτ.1⟩
    | succ k ih =>
      intro i K x τ u hi hx hK hf hτ hv2 hb2 ha3 he
      subst hx
      refine rx_iload_n (i := 3) X dX4_partOnward_2 rfl rfl ?_
      refine rx_iload_n (i := 2) X dX4_partOnward_3 rfl rfl ?_
      refine rx_icmp_ge_f X dX4_partOnward_4 (nI_ge (by omega) (by omega)) ?_
      refine rx_aload_n (i := 0) X dX4_partOnward_7 rfl rfl ?_
      refine rx_getR (ci := 4) (i := 0) X (kc_242 hO) rfl rfl (by decide) inX4 flX4_12 dX4_partOnward_8 ?_
      refine rx_iload_n (i := 1) X dX4_partOnward_11 rfl rfl ?_
      refine rx_callVv (ci := 3) X vsX3_passMinuteOf mlX4_40 (kX3_pmo hO cb_B243 hτ hv2 hb2 ha ha3) (kb_0 hO cb_B243) rfl rfl (by decide) (by decide) dX4_partOnward_12 rfl (Nat.le_of_ble_eq_true rfl) (fun t12 h12 => ?_)
      obtain ⟨h12f, h12⟩ := h12
      refine rx_iinc (i := 3) (lo2 := [(0, .ref _), (1, .int _), (2, .int _), (3, .int _)]) X dX4_partOnward_15 rfl (rx_inc1 _) (by decide) rfl ?_
      refine rx_goto X dX4_partOnward_18 ?_
      exact ih (i + 1) (K + 1) _ _ _ (by omega) (nI_1 i) (by omega) (hf.trans h12f) h12 (w_V_one (by omega) hv2) (w_B_one hb2 hv2) (by rw [w_one_n3]; exact ha3) (by rw [he]; rfl)
  refine rx_iconst (v := 0) X dX4_partOnward_0 (by decide) ?_
  refine rx_istore_n (i := 3) (lo2 := [(0, .ref _), (1, .int _), (2, .int _), (3, .int _)]) X dX4_partOnward_1 rfl (by decide) rfl ?_
  exact loop n 0 K _ _ _ (by omega) rfl (by omega) (cb_fr.rfl' 243 σ) h hv hb ha3 rfl
set_option maxHeartbeats 4000000 in
set_option maxRecDepth 100000 in
theorem kX4_arrivalOnward {l : Launch} {O : rx_O} (hO : cb_O O) {σ : rx_S} {n a K : Nat} {w : Nat → Int32} (h : cb_R (fun b => b = a) σ 243 w) (hv : w_V K w) (hb : w_B w) (hn : n < 1000) (hK : K < 10000) (ha : a < 6) (ha3 : a < rx_N (w 3)) : rx_MI l O yX4_arrivalOnward cX4_arrivalOnward 4 (some .int) 4 [.ref 242, .int (nI a), .int (nI n)] σ (fun r τ => w_arr (-1) a n 0 w = r ∧ cb_fr 243 σ τ ∧ cb_bo τ 243) := by
  refine rx_Met_of (own := RX4) rfl hO.2.1 vsX4_arrivalOnward.2.2.2.2.2 (Nat.le_of_ble_eq_true rfl) rfl (fun p e s m args below meth c X => ?_)
  have loop : ∀ (k : Nat) (i K : Nat) (x : Int32) (τ : rx_S) (u : Nat → Int32), (i + k = n) → (x = nI i) → (K + k < 1000000) → (cb_fr 243 σ τ) → (cb_R (fun b => b = a) τ 243 u) → (w_V K u) → (w_B u) → (a < rx_N (u 3)) → (w_arr (-1) a n 0 w = w_arr (-1) a k i u) → rx_J O 4 p l e (rx_lv 4) s m args below meth c (rx_QI O below args s (fun r τ => w_arr (-1) a n 0 w = r ∧ cb_fr 243 σ τ ∧ cb_bo τ 243)) 2 [(0, .ref 242), (1, .int (nI a)), (2, .int (nI n)), (3, .int x)] [] τ := by
    intro k
    induction k with
    | zero =>
      intro i K x τ u hi hx hK hf hτ hv2 hb2 ha3 he
      obtain rfl : i = n := by omega
      subst hx
      refine rx_iload_n (i := 3) X dX4_arrivalOnward_2 rfl rfl ?_
      refine rx_iload_n (i := 2) X dX4_arrivalOnward_3 rfl rfl ?_
      refine rx_icmp_ge_t X dX4_arrivalOnward_4 (Int32.le_refl _) ?_
      refine rx_aload_n (i := 0) X dX4_arrivalOnward_38 rfl rfl ?_
      refine rx_getR (ci := 4) (i := 0) X (kc_242 hO) rfl rfl (by decide) inX4 flX4_12 dX4_arrivalOnward_39 ?_
      refine rx_getR (ci := 3) (i := 5) X (kb_0 hO cb_B243) rfl rfl (by decide) inX3 flX4_43 dX4_arrivalOnward_42 ?_
      refine rx_iload_n (i := 1) X dX4_arrivalOnward_45 rfl rfl ?_
      refine rx_aaldN (j := a) X (kb_2 hO cb_B243) hO.2.2.2.2.2.1 rfl ha (by decide) (kb_el ha) dX4_arrivalOnward_46 ?_
      refine rx_getZ (ci := 1) (i := 5) X (kb_a hO cb_B243 ha) rfl rfl (by decide) inX1 flX4_56 dX4_arrivalOnward_47 ?_
      refine rx_if_eq X dX4_arrivalOnward_50 (fun h50 => ?_) (fun h50 => ?_)
      · refine rx_ldc X dX4_arrivalOnward_57 kcX4_60 ?_
        refine rx_iret X dX4_arrivalOnward_59 ?_
        refine ⟨?_, hf, hτ.1⟩
        rw [he, w_arr, if_neg (fun q => absurd h50 ((hτ.2.2 a ha ha3 rfl).has.mpr q))]
      · refine rx_iload_n (i := 2) X dX4_arrivalOnward_53 rfl rfl ?_
        refine rx_goto X dX4_arrivalOnward_54 ?_
        refine rx_iret X dX4_arrivalOnward_59 ?_
        refine ⟨?_, hf, hτ.1⟩
        rw [he, w_arr, if_pos ((hτ.2.2 a ha ha3 rfl).has.mp h50)]
    | succ k ih =>
      intro i K x τ u hi hx hK hf hτ hv2 hb2 ha3 he
      subst hx
      refine rx_iload_n (i := 3) X dX4_arrivalOnward_2 rfl rfl ?_
      refine rx_iload_n (i := 2) X dX4_arrivalOnward_3 rfl rfl ?_
      refine rx_icmp_ge_f X dX4_arrivalOnward_4 (nI_ge (by omega) (by omega)) ?_
      refine rx_aload_n (i := 0) X dX4_arrivalOnward_7 rfl rfl ?_
      refine rx_getR (ci := 4) (i := 0) X (kc_242 hO) rfl rfl (by decide) inX4 flX4_12 dX4_arrivalOnward_8 ?_
      refine rx_getR (ci := 3) (i := 5) X (kb_0 hO cb_B243) rfl rfl (by decide) inX3 flX4_43 dX4_arrivalOnward_11 ?_
      refine rx_iload_n (i := 1) X dX4_arrivalOnward_14 rfl rfl ?_
      refine rx_aaldN (j := a) X (kb_2 hO cb_B243) hO.2.2.2.2.2.1 rfl ha (by decide) (kb_el ha) dX4_arrivalOnward_15 ?_
      refine rx_getZ (ci := 1) (i := 5) X (kb_a hO cb_B243 ha) rfl rfl (by decide) inX1 flX4_56 dX4_arrivalOnward_16 ?_
      refine rx_if_eq X dX4_arrivalOnward_19 (fun h19 => ?_) (fun h19 => ?_)
      · refine rx_aload_n (i := 0) X dX4_arrivalOnward_24 rfl rfl ?_
        refine rx_getR (ci := 4) (i := 0) X (kc_242 hO) rfl rfl (by decide) inX4 flX4_12 dX4_arrivalOnward_25 ?_
        refine rx_iload_n (i := 1) X dX4_arrivalOnward_28 rfl rfl ?_
        refine rx_callVv (ci := 3) X vsX3_passMinuteOf mlX4_40 (kX3_pmo hO cb_B243 hτ hv2 hb2 ha ha3) (kb_0 hO cb_B243) rfl rfl (by decide) (by decide) dX4_arrivalOnward_29 rfl (Nat.le_of_ble_eq_true rfl) (fun t29 h29 => ?_)
        obtain ⟨h29f, h29⟩ := h29
        refine rx_iinc (i := 3) (lo2 := [(0, .ref _), (1, .int _), (2, .int _), (3, .int _)]) X dX4_arrivalOnward_32 rfl (rx_inc1 _) (by decide) rfl ?_
        refine rx_goto X dX4_arrivalOnward_35 ?_
        exact ih (i + 1) (K + 1) _ _ _ (by omega) (nI_1 i) (by omega) (hf.trans h29f) h29 (w_V_one (by omega) hv2) (w_B_one hb2 hv2) (by rw [w_one_n3]; exact ha3) (by rw [he, w_arr, if_neg (fun q => absurd h19 ((hτ.2.2 a ha ha3 rfl).has.mpr q))])
      · refine rx_iload_n (i := 3) X dX4_arrivalOnward_22 rfl rfl ?_
        refine rx_iret X dX4_arrivalOnward_23 ?_
        refine ⟨?_, hf, hτ.1⟩
        rw [he, w_arr, if_pos ((hτ.2.2 a ha ha3 rfl).has.mp h19)]
  refine rx_iconst (v := 0) X dX4_arrivalOnward_0 (by decide) ?_
  refine rx_istore_n (i := 3) (lo2 := [(0, .ref _), (1, .int _), (2, .int _), (3, .int _)]) X dX4_arrivalOnward_1 rfl (by decide) rfl ?_
  exact loop n 0 K _ _ _ (by omega) rfl (by omega) (cb_fr.rfl' 243 σ) h hv hb ha3 rfl
set_option maxHeartbeats 4000000 in
set_option maxRecDepth 100000 in
theorem kX4_partBehind {l : Launch} {O : rx_O} (hO : cb_O O) {σ : rx_S} {n a : Nat} {w : Nat → Int32} (hw : cb_R cb_T σ 1 w) (hv : w_V 999 w) (hb : w_B w) (hn : n < 1000) (ha : a < 6) (ha3 : a < rx_N (w 3)) : rx_MI l O yX4_partBehind cX4_partBehind 4 (some .int) 5 [.ref 242, .ref 1, .int (nI a), .int (nI n)] σ (fun r τ => w_on (-1) n w (34 + a) = r ∧ cb_fr 243 σ τ ∧ cb_bo τ 243) := by
  refine rx_Met_of (own := RX4) rfl hO.2.1 vsX4_partBehind.2.2.2.2.2 (Nat.le_of_ble_eq_true rfl) rfl (fun p e s m args below meth c X => ?_)
  refine rx_aload_n (i := 0) X dX4_partBehind_0 rfl rfl ?_
  refine rx_getR (ci := 4) (i := 0) X (kc_242 hO) rfl rfl (by decide) inX4 flX4_12 dX4_partBehind_1 ?_
  refine rx_aload_n (i := 1) X dX4_partBehind_4 rfl rfl ?_
  refine rx_callVv (ci := 3) X vsX3_takeFrom mlX4_28 (kX3_tf hO hw (cb_fr.rfl' 243 σ)) (kb_0 hO cb_B243) rfl rfl (by decide) (by decide) dX4_partBehind_5 rfl (Nat.le_of_ble_eq_true rfl) (fun t5 h5 => ?_)
  obtain ⟨h5f, h5⟩ := h5
  refine rx_aload_n (i := 0) X dX4_partBehind_8 rfl rfl ?_
  refine rx_iload_n (i := 2) X dX4_partBehind_9 rfl rfl ?_
  refine rx_iload_n (i := 3) X dX4_partBehind_10 rfl rfl ?_
  refine rx_callVi (ci := 4) X vsX4_partOnward mlX4_36 (kX4_partOnward hO (h5.less (fun _ _ => trivial)) hv hb hn (by omega) ha ha3) (kc_242 hO) rfl rfl (by decide) (by decide) dX4_partBehind_11 rfl (Nat.le_of_ble_eq_true rfl) (fun r11 t11 h11 => ?_)
  obtain ⟨rfl, h11f, h11b⟩ := h11
  refine rx_iret X dX4_partBehind_14 ?_
  exact ⟨rfl, h5f.trans h11f, h11b⟩
set_option maxHeartbeats 4000000 in
set_option maxRecDepth 100000 in
theorem kX4_arrival {l : Launch} {O : rx_O} (hO : cb_O O) {σ : rx_S} {a : Nat} {w : Nat → Int32} (hw : cb_R cb_T σ 1 w) (hv : w_V 999 w) (hb : w_B w) (ha : a < 6) (ha3 : a < rx_N (w 3)) : rx_MI l O yX4_arrival cX4_arrival 3 (some .int) 5 [.ref 242, .ref 1, .int (nI a)] σ (fun r τ => w_arr (-1) a 200 0 w = r ∧ cb_fr 243 σ τ ∧ cb_bo τ 243) := by
  refine rx_Met_of (own := RX4) rfl hO.2.1 vsX4_arrival.2.2.2.2.2 (Nat.le_of_ble_eq_true rfl) rfl (fun p e s m args below meth c X => ?_)
  refine rx_aload_n (i := 0) X dX4_arrival_0 rfl rfl ?_
  refine rx_getR (ci := 4) (i := 0) X (kc_242 hO) rfl rfl (by decide) inX4 flX4_12 dX4_arrival_1 ?_
  refine rx_aload_n (i := 1) X dX4_arrival_4 rfl rfl ?_
  refine rx_callVv (ci := 3) X vsX3_takeFrom mlX4_28 (kX3_tf hO hw (cb_fr.rfl' 243 σ)) (kb_0 hO cb_B243) rfl rfl (by decide) (by decide) dX4_arrival_5 rfl (Nat.le_of_ble_eq_true rfl) (fun t5 h5 => ?_)
  obtain ⟨h5f, h5⟩ := h5
  refine rx_aload_n (i := 0) X dX4_arrival_8 rfl rfl ?_
  refine rx_iload_n (i := 2) X dX4_arrival_9 rfl rfl ?_
  refine rx_sipush (v := 200) X dX4_arrival_10 (by decide) ?_
  refine rx_callVi (ci := 4) X vsX4_arrivalOnward mlX4_53 (kX4_arrivalOnward hO (n := 200) (h5.less (fun _ _ => trivial)) hv hb (by omega) (by omega) ha ha3) (kc_242 hO) rfl rfl (by decide) (by decide) dX4_arrival_13 rfl (Nat.le_of_ble_eq_true rfl) (fun r13 t13 h13 => ?_)
  obtain ⟨rfl, h13f, h13b⟩ := h13
  refine rx_iret X dX4_arrival_16 ?_
  exact ⟨rfl, h5f.trans h13f, h13b⟩
