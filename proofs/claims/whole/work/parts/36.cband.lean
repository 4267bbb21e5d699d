theorem mm_s : Cond.static Lib.Math.min.name ∈ rx_tbl := rx_in (i := 516) (by decide +kernel) rfl
theorem mm_i : Cond.initialized "java/lang/Math" ∈ rx_tbl := rx_in (i := 74) (by decide +kernel) rfl
theorem mm_c : Cond.code Lib.Math.min.name Lib.Math.min.code 2 (some .int) ∈ rx_tbl := rx_in (i := 517) (by decide +kernel) rfl
theorem mx_s : Cond.static Lib.Math.max.name ∈ rx_tbl := rx_in (i := 531) (by decide +kernel) rfl
theorem mx_c : Cond.code Lib.Math.max.name Lib.Math.max.code 2 (some .int) ∈ rx_tbl := rx_in (i := 532) (by decide +kernel) rfl
theorem w_ix0 {w : Nat → Int32} (h1 : 0 ≤ (w 1).toInt) (h2 : 1 ≤ (w 2).toInt) : (w 1 - w 1 / w 2 * w 2) = nI (rx_N (w 1) % rx_N (w 2)) := by
  have a1 := rx_nN h1
  have a2 := rx_nN (x := w 2) (by omega)
  have a3 := rx_Ni (x := w 2) (by omega)
  have a4 := rx_Ni h1
  have a5 := Int32.toInt_lt (w 1)
  have a6 := Int32.toInt_lt (w 2)
  conv => lhs; rw [a1, a2]
  rw [pk_rem (by omega) (by omega) (by omega)]
theorem w_pos {x : Int32} (h : 1 ≤ x.toInt) : ¬ x ≤ 0 := by
  rw [Int32.le_iff_toInt_le]
  show ¬ x.toInt ≤ 0
  omega
set_option maxHeartbeats 4000000 in
set_option maxRecDepth 100000 in
theorem kX3_stretch {l : Launch} {O : rx_O} (hO : cb_O O) {σ : rx_S} {B : Nat} {P : Nat → Prop} {w : Nat → Int32} {more : Int32} (hB : cb_B B) (h : cb_R P σ B w) : rx_MV l O yX3_stretch cX3_stretch 2 none 1 [.ref B, .int more] σ (fun τ => cb_fr B σ τ ∧ cb_R P τ B (w_st more w)) := by
  refine rx_Met_of (own := RX3) rfl hO.2.1 vsX3_stretch.2.2.2.2.2 (Nat.le_of_ble_eq_true rfl) rfl (fun p e s m args below meth c X => ?_)
  refine rx_aload_n (i := 0) X dX3_stretch_0 rfl rfl ?_
  refine rx_sipush (v := 9999) X dX3_stretch_1 (by decide) ?_
  refine rx_aload_n (i := 0) X dX3_stretch_4 rfl rfl ?_
  refine rx_getI (ci := 3) (i := 0) X (kb_0 hO hB) rfl rfl (by decide) inX3 flX3_20 dX3_stretch_5 ?_
  refine rx_iload_n (i := 1) X dX3_stretch_8 rfl rfl ?_
  refine rx_iadd X dX3_stretch_9 ?_
  refine rx_min X mlX3_52 mm_s mm_i mm_c (by decide) (Nat.le_of_ble_eq_true rfl) dX3_stretch_10 ?_
  refine rx_putI (ci := 3) (i := 0) X (kb_0 hO hB) rfl rfl (by decide) inX3 tyX3 tyX3_ok nmX3 flX3_20 rfl rfl dX3_stretch_13 ?_
  refine rx_aload_n (i := 0) X dX3_stretch_16 rfl rfl ?_
  refine rx_dup X dX3_stretch_17 rfl ?_
  refine rx_getI (ci := 3) (i := 1) X (kb_0 hO hB) rfl rfl (by decide) inX3 flX3_24 dX3_stretch_18 ?_
  refine rx_iconst (v := 1) X dX3_stretch_21 (by decide) ?_
  refine rx_iadd X dX3_stretch_22 ?_
  refine rx_putI (ci := 3) (i := 1) X (kb_0 hO hB) rfl rfl (by decide) inX3 tyX3 tyX3_ok nmX3 flX3_24 rfl rfl dX3_stretch_23 ?_
  refine rx_vret X dX3_stretch_26 ?_
  refine ⟨((cb_fr.rfl' B σ).u1 (by omega) (by omega)).u1 (by omega) (by omega), ?_⟩
  simp only [rx_u_eq, rx_ua_s, rx_ua_ua]
  refine h.obj ?_ ?_ h.2.1.1.2.2.1 h.2.1.1.2.2.2 (fun j hj => (w_st_hi hj).symm)
  · show (if σ.1 B 0 + more < 9999 then σ.1 B 0 + more else 9999) = w_len w more
    rw [h.2.1.1.1, w_len_min]
    rfl
  · show σ.1 B 1 + 1 = w 1 + 1
    rw [h.2.1.1.2.1]
theorem w_slack_max {x : Int32} (h : 1 ≤ x.toInt) : (if 1 < x / 2 then x / 2 else 1) = (if x < 2 then 1 else x / 2) := by
  have e : (x / 2).toInt = x.toInt.tdiv 2 := w_div_toInt (by decide)
  rw [Int.tdiv_eq_ediv_of_nonneg (by omega)] at e
  by_cases h1 : x < 2
  · rw [if_pos h1]
    have : x.toInt < 2 := Int32.lt_iff_toInt_lt.mp h1
    rw [if_neg]
    rw [Int32.lt_iff_toInt_lt, e]
    show ¬ 1 < _
    omega
  · rw [if_neg h1]
    have : ¬ x.toInt < 2 := fun q => h1 (Int32.lt_iff_toInt_lt.mpr q)
    by_cases h2 : 1 < x / 2
    · rw [if_pos h2]
    · rw [if_neg h2]
      apply Int32.toInt_inj.mp
      rw [Int32.lt_iff_toInt_lt, e] at h2
      have h3 : ¬ 1 < x.toInt / 2 := h2
      rw [e]
      show 1 = _
      omega
set_option maxHeartbeats 4000000 in
set_option maxRecDepth 100000 in
theorem kX3_slacken {l : Launch} {O : rx_O} (hO : cb_O O) {σ : rx_S} {B : Nat} {P : Nat → Prop} {w : Nat → Int32} (hB : cb_B B) (h : cb_R P σ B w) (h0 : 1 ≤ (w 0).toInt) : rx_MV l O yX3_slacken cX3_slacken 1 none 1 [.ref B] σ (fun τ => cb_fr B σ τ ∧ cb_R P τ B (w_slack w)) := by
  refine rx_Met_of (own := RX3) rfl hO.2.1 vsX3_slacken.2.2.2.2.2 (Nat.le_of_ble_eq_true rfl) rfl (fun p e s m args below meth c X => ?_)
  refine rx_aload_n (i := 0) X dX3_slacken_0 rfl rfl ?_
  refine rx_iconst (v := 1) X dX3_slacken_1 (by decide) ?_
  refine rx_aload_n (i := 0) X dX3_slacken_2 rfl rfl ?_
  refine rx_getI (ci := 3) (i := 0) X (kb_0 hO hB) rfl rfl (by decide) inX3 flX3_20 dX3_slacken_3 ?_
  refine rx_iconst (v := 2) X dX3_slacken_6 (by decide) ?_
  refine rx_idiv X dX3_slacken_7 (by decide) ?_
  refine rx_max X mlX3_58 mx_s mm_i mx_c (by decide) (Nat.le_of_ble_eq_true rfl) dX3_slacken_8 ?_
  refine rx_putI (ci := 3) (i := 0) X (kb_0 hO hB) rfl rfl (by decide) inX3 tyX3 tyX3_ok nmX3 flX3_20 rfl rfl dX3_slacken_11 ?_
  refine rx_vret X dX3_slacken_14 ?_
  refine ⟨(cb_fr.rfl' B σ).u1 (by omega) (by omega), ?_⟩
  simp only [rx_u_eq, rx_ua_s, rx_ua_ua]
  refine h.obj ?_ h.2.1.1.2.1 h.2.1.1.2.2.1 h.2.1.1.2.2.2 (fun j hj => (upd_n (by omega)).symm)
  show (if 1 < σ.1 B 0 / 2 then σ.1 B 0 / 2 else 1) = (if w 0 < 2 then 1 else w 0 / 2)
  rw [h.2.1.1.1, w_slack_max h0]
set_option maxHeartbeats 4000000 in
set_option maxRecDepth 100000 in
theorem kX3_stretchInTurn {l : Launch} {O : rx_O} (hO : cb_O O) {σ : rx_S} {B : Nat} {P : Nat → Prop} {w : Nat → Int32} (hB : cb_B B) (h : cb_R P σ B w) (h1 : 0 ≤ (w 1).toInt) (h2 : 1 ≤ (w 2).toInt ∧ (w 2).toInt ≤ 5) : rx_MV l O yX3_stretchInTurn cX3_stretchInTurn 1 none 2 [.ref B] σ (fun τ => cb_fr B σ τ ∧ cb_R P τ B (w_st (w_in w) w)) := by
  refine rx_Met_of (own := RX3) rfl hO.2.1 vsX3_stretchInTurn.2.2.2.2.2 (Nat.le_of_ble_eq_true rfl) rfl (fun p e s m args below meth c X => ?_)
  refine rx_aload_n (i := 0) X dX3_stretchInTurn_0 rfl rfl ?_
  refine rx_aload_n (i := 0) X dX3_stretchInTurn_1 rfl rfl ?_
  refine rx_getI (ci := 3) (i := 2) X (kb_0 hO hB) rfl rfl (by decide) inX3 flX3_27 dX3_stretchInTurn_2 ?_
  refine rx_top h.2.1.1.2.2.1 ?_
  refine rx_if_le_f X dX3_stretchInTurn_5 (w_pos h2.1) ?_
  refine rx_aload_n (i := 0) X dX3_stretchInTurn_8 rfl rfl ?_
  refine rx_getR (ci := 3) (i := 4) X (kb_0 hO hB) rfl rfl (by decide) inX3 flX3_9 dX3_stretchInTurn_9 ?_
  refine rx_aload_n (i := 0) X dX3_stretchInTurn_12 rfl rfl ?_
  refine rx_getI (ci := 3) (i := 1) X (kb_0 hO hB) rfl rfl (by decide) inX3 flX3_24 dX3_stretchInTurn_13 ?_
  refine rx_top h.2.1.1.2.1 ?_
  refine rx_aload_n (i := 0) X dX3_stretchInTurn_16 rfl rfl ?_
  refine rx_getI (ci := 3) (i := 2) X (kb_0 hO hB) rfl rfl (by decide) inX3 flX3_27 dX3_stretchInTurn_17 ?_
  refine rx_top h.2.1.1.2.2.1 ?_
  refine rx_irem X dX3_stretchInTurn_20 (w_ne0 h2.1) ?_
  refine rx_ialdN (j := rx_N (w 1) % rx_N (w 2)) X (kb_1 hO hB) hO.2.2.1 (w_ix0 h1 h2.1) (by have := w_ix_lt (w := w) h2; omega) (by decide) dX3_stretchInTurn_21 ?_
  refine rx_top (h.2.1.2 _ (by have := w_ix_lt (w := w) h2; omega) (w_ix_lt (w := w) h2).1) ?_
  refine rx_goto X dX3_stretchInTurn_22 ?_
  refine rx_callVv (ci := 3) X vsX3_stretch mlX3_48 (kX3_stretch hO hB h) (kb_0 hO hB) rfl rfl (by decide) (by decide) dX3_stretchInTurn_26 rfl (Nat.le_of_ble_eq_true rfl) (fun t26 h26 => ?_)
  obtain ⟨h26f, h26⟩ := h26
  refine rx_vret X dX3_stretchInTurn_29 ?_
  exact ⟨h26f, h26⟩
set_option maxHeartbeats 4000000 in
set_option maxRecDepth 100000 in
theorem kX3_hasAnt {l : Launch} {O : rx_O} (hO : cb_O O) {σ : rx_S} {B : Nat} {w3 x : Int32} (hB : cb_B B) (h3 : σ.1 B 3 = w3) : rx_MI l O yX3_hasAnt cX3_hasAnt 2 (some .boolean) 0 [.ref B, .int x] σ (fun r τ => σ = τ ∧ rx_b (0 ≤ x.toInt ∧ x.toInt < w3.toInt) r) := by
  refine rx_Met_of (own := RX3) rfl hO.2.1 vsX3_hasAnt.2.2.2.2.2 (Nat.le_of_ble_eq_true rfl) rfl (fun p e s m args below meth c X => ?_)
  refine rx_iload_n (i := 1) X dX3_hasAnt_0 rfl rfl ?_
  refine rx_if_lt X dX3_hasAnt_1 (fun h1 => ?_) (fun h1 => ?_)
  · try simp only [Int32.lt_iff_toInt_lt, Int32.le_iff_toInt_le, Int32.reduceToInt] at h1
    refine rx_iconst (v := 0) X dX3_hasAnt_16 (by decide) ?_
    refine rx_zret X dX3_hasAnt_17 rfl ?_
    exact ⟨rfl, by first | exact Or.inl ⟨rfl, by omega⟩ | exact Or.inr ⟨rfl, by omega⟩⟩
  · try simp only [Int32.lt_iff_toInt_lt, Int32.le_iff_toInt_le, Int32.reduceToInt] at h1
    refine rx_iload_n (i := 1) X dX3_hasAnt_4 rfl rfl ?_
    refine rx_aload_n (i := 0) X dX3_hasAnt_5 rfl rfl ?_
    refine rx_getI (ci := 3) (i := 3) X (kb_0 hO hB) rfl rfl (by decide) inX3 flX3_30 dX3_hasAnt_6 ?_
    refine rx_top h3 ?_
    refine rx_icmp_ge X dX3_hasAnt_9 (fun h9 => ?_) (fun h9 => ?_)
    · try simp only [Int32.lt_iff_toInt_lt, Int32.le_iff_toInt_le, Int32.reduceToInt] at h9
      refine rx_iconst (v := 0) X dX3_hasAnt_16 (by decide) ?_
      refine rx_zret X dX3_hasAnt_17 rfl ?_
      exact ⟨rfl, by first | exact Or.inl ⟨rfl, by omega⟩ | exact Or.inr ⟨rfl, by omega⟩⟩
    · try simp only [Int32.lt_iff_toInt_lt, Int32.le_iff_toInt_le, Int32.reduceToInt] at h9
      refine rx_iconst (v := 1) X dX3_hasAnt_12 (by decide) ?_
      refine rx_goto X dX3_hasAnt_13 ?_
      refine rx_zret X dX3_hasAnt_17 rfl ?_
      exact ⟨rfl, by first | exact Or.inl ⟨rfl, by omega⟩ | exact Or.inr ⟨rfl, by omega⟩⟩
set_option maxHeartbeats 4000000 in
set_option maxRecDepth 100000 in
theorem kX3_passMinuteOf {l : Launch} {O : rx_O} (hO : cb_O O) {σ : rx_S} {B : Nat} {P : Nat → Prop} {w : Nat → Int32} {K a : Nat} (hB : cb_B B) (h : cb_R P σ B w) (hv : w_V K w) (hb : w_B w) (ha : a < 6) (hn : a < rx_N (w 3)) (hp : P a) : rx_MV l O yX3_passMinuteOf cX3_passMinuteOf 2 none 3 [.ref B, .int (nI a)] σ (fun τ => cb_fr B σ τ ∧ cb_R P τ B (w_st (w_in w) (w_g1 w a))) := by
  refine rx_Met_of (own := RX3) rfl hO.2.1 vsX3_passMinuteOf.2.2.2.2.2 (Nat.le_of_ble_eq_true rfl) rfl (fun p e s m args below meth c X => ?_)
  refine rx_aload_n (i := 0) X dX3_passMinuteOf_0 rfl rfl ?_
  refine rx_getR (ci := 3) (i := 5) X (kb_0 hO hB) rfl rfl (by decide) inX3 flX3_15 dX3_passMinuteOf_1 ?_
  refine rx_iload_n (i := 1) X dX3_passMinuteOf_4 rfl rfl ?_
  refine rx_aaldN (j := a) X (kb_2 hO hB) hO.2.2.2.2.2.1 rfl ha (by decide) (kb_el ha) dX3_passMinuteOf_5 ?_
  refine rx_aload_n (i := 0) X dX3_passMinuteOf_6 rfl rfl ?_
  refine rx_getI (ci := 3) (i := 1) X (kb_0 hO hB) rfl rfl (by decide) inX3 flX3_24 dX3_passMinuteOf_7 ?_
  refine rx_top h.2.1.1.2.1 ?_
  refine rx_aload_n (i := 0) X dX3_passMinuteOf_10 rfl rfl ?_
  refine rx_getI (ci := 3) (i := 0) X (kb_0 hO hB) rfl rfl (by decide) inX3 flX3_20 dX3_passMinuteOf_11 ?_
  refine rx_top h.2.1.1.1 ?_
  refine rx_callVv (ci := 1) X vsX1_go mlX3_41 (kX1_go hO (kb_a hO hB ha)) (kb_a hO hB ha) rfl rfl (by decide) (by decide) dX3_passMinuteOf_14 rfl (Nat.le_of_ble_eq_true rfl) (fun t14 h14 => ?_)
  subst h14
  refine rx_aload_n (i := 0) X dX3_passMinuteOf_17 rfl rfl ?_
  refine rx_callVv (ci := 3) X vsX3_stretchInTurn mlX3_45 (kX3_stretchInTurn hO hB (h.go ha hp hn (hv.2.2.2.2.2 a hn) hv.1.1 hb) (by rw [w_g1_n (by omega) (by omega)]; exact hv.2.1.1) (by rw [w_g1_n (by omega) (by omega)]; exact hv.2.2.1)) (kb_0 hO hB) rfl rfl (by decide) (by decide) dX3_passMinuteOf_18 rfl (Nat.le_of_ble_eq_true rfl) (fun t18 h18 => ?_)
  obtain ⟨h18f, h18⟩ := h18
  refine rx_vret X dX3_passMinuteOf_21 ?_
  refine ⟨((cb_fr.rfl' B σ).ua (by omega) (by omega)).trans h18f, ?_⟩
  rw [w_in_g1 hv.2.2.1] at h18
  exact h18
set_option maxHeartbeats 4000000 in
set_option maxRecDepth 100000 in
theorem kX3_passMinute {l : Launch} {O : rx_O} (hO : cb_O O) {σ : rx_S} {B K : Nat} {w : Nat → Int32} {sp : Int32} (hB : cb_B B) (h : cb_R cb_T σ B w) (hv : w_V K w) (hb : w_B w) : rx_MV l O yX3_passMinute cX3_passMinute 3 none 3 [.ref B, .int sp] σ (fun τ => cb_fr B σ τ ∧ cb_R cb_T τ B (w_one sp w)) := by
  refine rx_Met_of (own := RX3) rfl hO.2.1 vsX3_passMinute.2.2.2.2.2 (Nat.le_of_ble_eq_true rfl) rfl (fun p e s m args below meth c X => ?_)
  have loop : ∀ (k : Nat) (i : Nat) (x : Int32) (τ : rx_S), (i + k = rx_N (w 3)) → (x = nI i) → (cb_fr B σ τ) → (cb_R cb_T τ B (w_all sp i w)) → rx_J O 3 p l e (rx_lv 3) s m args below meth c (rx_QV O below args s (fun τ => cb_fr B σ τ ∧ cb_R cb_T τ B (w_one sp w))) 2 [(0, .ref B), (1, .int sp), (2, .int x)] [] τ := by
    intro k
    induction k with
    | zero =>
      intro i x τ hi hx hf hτ
      have n3 := hv.n3
      have e3 : w_all sp i w 3 = w 3 := w_all_n (by omega) (fun b _ => by omega)
      have e0 : w_all sp i w 0 = w 0 := w_all_n (by omega) (fun b _ => by omega)
      have hw3 : w 3 = nI (rx_N (w 3)) := rx_nN (by have := hv.2.2.2.1; omega)
      obtain rfl : i = rx_N (w 3) := by omega
      subst hx
      refine rx_iload_n (i := 2) X dX3_passMinute_2 rfl rfl ?_
      refine rx_aload_n (i := 0) X dX3_passMinute_3 rfl rfl ?_
      refine rx_getI (ci := 3) (i := 3) X (kb_0 hO hB) rfl rfl (by decide) inX3 flX3_30 dX3_passMinute_4 ?_
      refine rx_top (hτ.2.1.1.2.2.2.trans (e3.trans hw3)) ?_
      refine rx_icmp_ge_t X dX3_passMinute_7 (Int32.le_refl _) ?_
      refine rx_aload_n (i := 0) X dX3_passMinute_38 rfl rfl ?_
      refine rx_callVv (ci := 3) X vsX3_stretchInTurn mlX3_45 (kX3_stretchInTurn hO hB hτ (by rw [w_all_n (by omega) (fun b _ => by omega)]; exact hv.2.1.1) (by rw [w_all_n (by omega) (fun b _ => by omega)]; exact hv.2.2.1)) (kb_0 hO hB) rfl rfl (by decide) (by decide) dX3_passMinute_39 rfl (Nat.le_of_ble_eq_true rfl) (fun t39 h39 => ?_)
      obtain ⟨h39f, h39⟩ := h39
      refine rx_vret X dX3_passMinute_42 ?_
      refine ⟨hf.trans h39f, ?_⟩
      rw [w_in_all hv.2.2.1] at h39
      exact h39
    | succ k ih =>
      intro i x τ hi hx hf hτ
      have n3 := hv.n3
      have e3 : w_all sp i w 3 = w 3 := w_all_n (by omega) (fun b _ => by omega)
      have e0 : w_all sp i w 0 = w 0 := w_all_n (by omega) (fun b _ => by omega)
      have hw3 : w 3 = nI (rx_N (w 3)) := rx_nN (by have := hv.2.2.2.1; omega)
      subst hx
      refine rx_iload_n (i := 2) X dX3_passMinute_2 rfl rfl ?_
      refine rx_aload_n (i := 0) X dX3_passMinute_3 rfl rfl ?_
      refine rx_getI (ci := 3) (i := 3) X (kb_0 hO hB) rfl rfl (by decide) inX3 flX3_30 dX3_passMinute_4 ?_
      refine rx_top (hτ.2.1.1.2.2.2.trans (e3.trans hw3)) ?_
      refine rx_icmp_ge_f X dX3_passMinute_7 (nI_ge (b := rx_N (w 3)) (by omega) (by omega)) ?_
      refine rx_iload_n (i := 2) X dX3_passMinute_10 rfl rfl ?_
      refine rx_iload_n (i := 1) X dX3_passMinute_11 rfl rfl ?_
      refine rx_icmp_eq X dX3_passMinute_12 (fun h12 => ?_) (fun h12 => ?_)
      · refine rx_iinc (i := 2) (lo2 := [(0, .ref _), (1, .int _), (2, .int _)]) X dX3_passMinute_32 rfl (rx_inc1 _) (by decide) rfl ?_
        refine rx_goto X dX3_passMinute_35 ?_
        refine ih (i + 1) _ _ (by omega) (nI_1 i) hf ?_
        rw [w_all_t h12]
        exact hτ
      · refine rx_aload_n (i := 0) X dX3_passMinute_15 rfl rfl ?_
        refine rx_getR (ci := 3) (i := 5) X (kb_0 hO hB) rfl rfl (by decide) inX3 flX3_15 dX3_passMinute_16 ?_
        refine rx_iload_n (i := 2) X dX3_passMinute_19 rfl rfl ?_
        refine rx_aaldN (j := i) X (kb_2 hO hB) hO.2.2.2.2.2.1 rfl (by omega) (by decide) (kb_el (by omega)) dX3_passMinute_20 ?_
        refine rx_aload_n (i := 0) X dX3_passMinute_21 rfl rfl ?_
        refine rx_getI (ci := 3) (i := 1) X (kb_0 hO hB) rfl rfl (by decide) inX3 flX3_24 dX3_passMinute_22 ?_
        refine rx_top hτ.2.1.1.2.1 ?_
        refine rx_aload_n (i := 0) X dX3_passMinute_25 rfl rfl ?_
        refine rx_getI (ci := 3) (i := 0) X (kb_0 hO hB) rfl rfl (by decide) inX3 flX3_20 dX3_passMinute_26 ?_
        refine rx_top hτ.2.1.1.1 ?_
        refine rx_callVv (ci := 1) X vsX1_go mlX3_41 (kX1_go hO (kb_a hO hB (a := i) (by omega))) (kb_a hO hB (by omega)) rfl rfl (by decide) (by decide) dX3_passMinute_29 rfl (Nat.le_of_ble_eq_true rfl) (fun t29 h29 => ?_)
        subst h29
        refine rx_iinc (i := 2) (lo2 := [(0, .ref _), (1, .int _), (2, .int _)]) X dX3_passMinute_32 rfl (rx_inc1 _) (by decide) rfl ?_
        refine rx_goto X dX3_passMinute_35 ?_
        refine ih (i + 1) _ _ (by omega) (nI_1 i) (hf.ua (by omega) (by omega)) ?_
        rw [show w_all sp (i + 1) w = w_g1 (w_all sp i w) i by
          unfold w_g1
          by_cases hh : w_has (w_all sp i w 4) i
          · rw [if_pos hh, w_all_h hh]
          · rw [if_neg hh, w_all_g hh h12]]
        exact hτ.go (by omega) trivial (by rw [e3]; omega) (w_all_A (by omega) hv.1.1 hv.2.2.2.2.2 i (by omega) i (by omega)) (by rw [e0]; exact hv.1.1) (w_B_all hb i (by omega))
  refine rx_iconst (v := 0) X dX3_passMinute_0 (by decide) ?_
  refine rx_istore_n (i := 2) (lo2 := [(0, .ref _), (1, .int _), (2, .int _)]) X dX3_passMinute_1 rfl (by decide) rfl ?_
  exact loop (rx_N (w 3)) 0 _ σ (by omega) rfl (cb_fr.rfl' B σ) h
