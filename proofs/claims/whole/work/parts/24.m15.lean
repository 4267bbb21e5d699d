/-! ===== asks: the trace as a list ===== -/
def tr_f (f : Nat → Int32) (bs : List Int32) : Nat → Int32 := fun i => (bs[i]?).getD (f i)
def tr_st (σ : rx_S) (bs : List Int32) : rx_S := rx_u (rx_ua σ 14 (tr_f (σ.1 14) bs)) 0 25 (nI bs.length)
theorem tr_25 (σ : rx_S) (bs : List Int32) : (tr_st σ bs).1 0 25 = nI bs.length := by rw [tr_st, u0s]
theorem tr_ne {σ : rx_S} {bs : List Int32} {k : Nat} (h : k ≠ 0) (h2 : k ≠ 14) : (tr_st σ bs).1 k = σ.1 k := by rw [tr_st, rx_u_ne h, rx_ua_ne h2]
theorem tr_4 (σ : rx_S) (bs : List Int32) (i : Nat) : (tr_st σ bs).1 4 i = σ.1 4 i := by rw [tr_ne (by decide) (by decide)]
theorem tr_nil (σ : rx_S) : rx_u σ 0 25 0 = tr_st σ [] := by
  unfold tr_st
  rw [show tr_f (σ.1 14) [] = σ.1 14 from rfl, rx_ua_self]
  rfl
theorem tr_f_s (f : Nat → Int32) (bs : List Int32) (b : Int32) : upd (tr_f f bs) bs.length b = tr_f f (bs ++ [b]) := by
  funext i
  unfold upd tr_f
  by_cases h : i = bs.length
  · subst h
    rw [if_pos rfl, List.getElem?_append_right (Nat.le_refl _), Nat.sub_self]
    rfl
  · rw [if_neg h]
    by_cases h2 : i < bs.length
    · rw [List.getElem?_append_left h2]
    · rw [List.getElem?_eq_none (by omega), List.getElem?_eq_none (by rw [List.length_append]; show bs.length + 1 ≤ i; omega)]
theorem tr_step (σ : rx_S) (bs : List Int32) (b : Int32) : rx_u (rx_u (tr_st σ bs) 14 bs.length b) 0 25 (nI bs.length + 1) = tr_st σ (bs ++ [b]) := by
  have e : rx_u (tr_st σ bs) 14 bs.length b = rx_u (rx_ua σ 14 (tr_f (σ.1 14) (bs ++ [b]))) 0 25 (nI bs.length) := by
    unfold tr_st
    simp only [rx_u_eq]
    rw [rx_ua_c0 _ (by decide), rx_ua_ua, rx_ua_ne (k := 0) (by decide), rx_ua_s, tr_f_s, rx_ua_ne (by decide), rx_ua_ne (by decide)]
  rw [e]
  unfold tr_st
  simp only [rx_u_eq, rx_ua_s, rx_ua_ua, upd_upd, List.length_append, List.length_cons, List.length_nil]
  rw [nI_1]
def ak_pm (w : Nat → Int32) (a : Nat) : Int32 × List Int32 := (nI a + w (34 + a) / 10000, [21, 20])
def ak_bs (w : Nat → Int32) (a : Nat) : Int32 × List Int32 := (w (16 + a) - 100, [13, 10])
def ak_sb (w : Nat → Int32) (a : Nat) : Int32 × List Int32 := if w (10 + a) = 5 then (2 * (ak_bs w a).1, 14 :: (ak_bs w a).2) else ak_bs w a
def ak_mk (w : Nat → Int32) (a : Nat) : Int32 × List Int32 := if w (10 + a) = 2 then (2 * (ak_pm w a).1, 24 :: (ak_pm w a).2) else if w (10 + a) = 3 then ((ak_pm w a).1 - 1000, 22 :: (ak_pm w a).2) else if w (10 + a) = 1 then ak_pm w a else (nI a - (ak_sb w a).1, 23 :: 20 :: (ak_sb w a).2)
def ak_ps (w : Nat → Int32) (a : Nat) : Int32 × List Int32 := (w (16 + a) + (ak_mk w a).1, 11 :: 10 :: (ak_mk w a).2)
def ak_sz (w : Nat → Int32) (a : Nat) : Int32 × List Int32 := if w (10 + a) = 2 then (-(ak_ps w a).1, 12 :: (ak_ps w a).2) else if w (10 + a) < 4 then ak_ps w a else ak_sb w a
theorem ak_sb_l (w : Nat → Int32) (a : Nat) : (ak_sb w a).2.length ≤ 3 := by
  unfold ak_sb ak_bs
  split <;> exact Nat.le_of_ble_eq_true rfl
theorem ak_mk_l (w : Nat → Int32) (a : Nat) : (ak_mk w a).2.length ≤ 5 := by
  have := ak_sb_l w a
  unfold ak_mk ak_pm
  split
  · exact Nat.le_of_ble_eq_true rfl
  · split
    · exact Nat.le_of_ble_eq_true rfl
    · split
      · exact Nat.le_of_ble_eq_true rfl
      · show (ak_sb w a).2.length + 1 + 1 ≤ 5
        omega
def sp_ask (σ : rx_S) (x v : Int32) : Int32 × rx_S := if ¬ mo_ant σ x ∨ ¬ (0 ≤ v.toInt ∧ v.toInt ≤ 1) then (-1000001, σ) else if v = 0 then ((ak_sz (σ.1 4) (rx_N x)).1, tr_st σ (ak_sz (σ.1 4) (rx_N x)).2) else ((ak_mk (σ.1 4) (rx_N x)).1, tr_st σ (ak_mk (σ.1 4) (rx_N x)).2)
set_option maxHeartbeats 4000000 in
set_option maxRecDepth 100000 in
theorem kX8_begin {l : Launch} {O : rx_O} (hO : mo_O O) {σ : rx_S} {bs : List Int32} {b : Int32} (hb : bs.length < 16) : rx_MV l O yX8_begin cX8_begin 2 none 0 [.ref 0, .int b] (tr_st σ bs) (fun τ => tr_st σ (bs ++ [b]) = τ) := by
  refine rx_Met_of (own := RX8) rfl hO.2.1 vsX8_begin.2.2.2.2.2 (Nat.le_of_ble_eq_true rfl) rfl (fun p e s m args below meth c X => ?_)
  refine rx_aload_n (i := 0) X dX8_begin_0 rfl rfl ?_
  refine rx_getI (ci := 8) (i := 25) X (km_0 hO) rfl rfl (by decide) inX8 flX8_253 dX8_begin_1 ?_
  refine rx_top (tr_25 _ _) ?_
  refine rx_bipush (v := 16) X dX8_begin_4 (by decide) ?_
  refine rx_icmp_ge_f X dX8_begin_6 (nI_ge (b := 16) (by omega) (by decide)) ?_
  refine rx_aload_n (i := 0) X dX8_begin_9 rfl rfl ?_
  refine rx_getR (ci := 8) (i := 24) X (km_0 hO) rfl rfl (by decide) inX8 flX8_54 dX8_begin_10 ?_
  refine rx_aload_n (i := 0) X dX8_begin_13 rfl rfl ?_
  refine rx_getI (ci := 8) (i := 25) X (km_0 hO) rfl rfl (by decide) inX8 flX8_253 dX8_begin_14 ?_
  refine rx_top (tr_25 _ _) ?_
  refine rx_iload_n (i := 1) X dX8_begin_17 rfl rfl ?_
  refine rx_iastN (j := bs.length) X (km_14 hO) hO.2.2.1 rfl (by omega) (by decide) dX8_begin_18 ?_
  refine rx_aload_n (i := 0) X dX8_begin_19 rfl rfl ?_
  refine rx_dup X dX8_begin_20 rfl ?_
  refine rx_getI (ci := 8) (i := 25) X (km_0 hO) rfl rfl (by decide) inX8 flX8_253 dX8_begin_21 ?_
  refine rx_top ((congrFun (rx_u_ne (by decide)) _).trans (tr_25 _ _)) ?_
  refine rx_iconst (v := 1) X dX8_begin_24 (by decide) ?_
  refine rx_iadd X dX8_begin_25 ?_
  refine rx_putI (ci := 8) (i := 25) X (km_0 hO) rfl rfl (by decide) inX8 tyX8 tyX8_ok nmX8 flX8_253 rfl rfl dX8_begin_26 ?_
  refine rx_vret X dX8_begin_29 ?_
  exact (tr_step σ bs b).symm
set_option maxHeartbeats 4000000 in
set_option maxRecDepth 100000 in
theorem kX8_lent {l : Launch} {O : rx_O} (hO : mo_O O) {σ : rx_S} {bs : List Int32} {a : Nat} {b : Int32} (ha : a < 6) (hb : bs.length < 16) : rx_MI l O yX8_lent cX8_lent 3 (some .int) 1 [.ref 0, .int (nI a), .int b] (tr_st σ bs) (fun r τ => (if b = 10 then σ.1 4 (16 + a) else nI a) = r ∧ tr_st σ (bs ++ [b]) = τ) := by
  refine rx_Met_of (own := RX8) rfl hO.2.1 vsX8_lent.2.2.2.2.2 (Nat.le_of_ble_eq_true rfl) rfl (fun p e s m args below meth c X => ?_)
  refine rx_aload_n (i := 0) X dX8_lent_0 rfl rfl ?_
  refine rx_iload_n (i := 2) X dX8_lent_1 rfl rfl ?_
  refine rx_callVv (ci := 8) X vsX8_begin mlX8_256 (kX8_begin hO (by first | omega | (simp only [List.length_append, List.length_cons, List.length_nil]; omega))) (km_0 hO) rfl rfl (by decide) (by decide) dX8_lent_2 rfl (Nat.le_of_ble_eq_true rfl) (fun t2 h2 => ?_)
  subst h2
  refine rx_iload_n (i := 2) X dX8_lent_5 rfl rfl ?_
  refine rx_bipush (v := 10) X dX8_lent_6 (by decide) ?_
  refine rx_icmp_ne X dX8_lent_8 (fun h8 => ?_) (fun h8 => ?_)
  · refine rx_iload_n (i := 1) X dX8_lent_23 rfl rfl ?_
    refine rx_iret X dX8_lent_24 ?_
    first | exact ⟨by rw [if_pos h8], rfl⟩ | exact ⟨by rw [if_neg h8], rfl⟩ | fail "leaf"
  · refine rx_aload_n (i := 0) X dX8_lent_11 rfl rfl ?_
    refine rx_getR (ci := 8) (i := 5) X (km_0 hO) rfl rfl (by decide) inX8 flX8_19 dX8_lent_12 ?_
    refine rx_bipush (v := 16) X dX8_lent_15 (by decide) ?_
    refine rx_iload_n (i := 1) X dX8_lent_17 rfl rfl ?_
    refine rx_iadd X dX8_lent_18 ?_
    refine rx_ialdN (j := 16 + a) X (km_4 hO) hO.2.2.1 (nI_add 16 a) (by omega) (by decide) dX8_lent_19 ?_
    refine rx_top (tr_4 _ _ _) ?_
    refine rx_goto X dX8_lent_20 ?_
    refine rx_iret X dX8_lent_24 ?_
    first | exact ⟨by rw [if_pos h8], rfl⟩ | exact ⟨by rw [if_neg h8], rfl⟩ | fail "leaf"
set_option maxHeartbeats 4000000 in
set_option maxRecDepth 100000 in
theorem kX8_plainMark {l : Launch} {O : rx_O} (hO : mo_O O) {σ : rx_S} {bs : List Int32} {a : Nat} (ha : a < 6) (hb : bs.length < 15) : rx_MI l O yX8_plainMark cX8_plainMark 2 (some .int) 2 [.ref 0, .int (nI a)] (tr_st σ bs) (fun r τ => (ak_pm (σ.1 4) a).1 = r ∧ tr_st σ (bs ++ (ak_pm (σ.1 4) a).2) = τ) := by
  refine rx_Met_of (own := RX8) rfl hO.2.1 vsX8_plainMark.2.2.2.2.2 (Nat.le_of_ble_eq_true rfl) rfl (fun p e s m args below meth c X => ?_)
  refine rx_aload_n (i := 0) X dX8_plainMark_0 rfl rfl ?_
  refine rx_bipush (v := 21) X dX8_plainMark_1 (by decide) ?_
  refine rx_callVv (ci := 8) X vsX8_begin mlX8_256 (kX8_begin hO (by first | omega | (simp only [List.length_append, List.length_cons, List.length_nil]; omega))) (km_0 hO) rfl rfl (by decide) (by decide) dX8_plainMark_3 rfl (Nat.le_of_ble_eq_true rfl) (fun t3 h3 => ?_)
  subst h3
  refine rx_aload_n (i := 0) X dX8_plainMark_6 rfl rfl ?_
  refine rx_iload_n (i := 1) X dX8_plainMark_7 rfl rfl ?_
  refine rx_bipush (v := 20) X dX8_plainMark_8 (by decide) ?_
  refine rx_callVi (ci := 8) X vsX8_lent mlX8_259 (kX8_lent hO ha (by first | omega | (simp only [List.length_append, List.length_cons, List.length_nil]; omega))) (km_0 hO) rfl rfl (by decide) (by decide) dX8_plainMark_10 rfl (Nat.le_of_ble_eq_true rfl) (fun r10 t10 h10 => ?_)
  obtain ⟨rfl, rfl⟩ := h10
  refine rx_aload_n (i := 0) X dX8_plainMark_13 rfl rfl ?_
  refine rx_getR (ci := 8) (i := 5) X (km_0 hO) rfl rfl (by decide) inX8 flX8_19 dX8_plainMark_14 ?_
  refine rx_bipush (v := 34) X dX8_plainMark_17 (by decide) ?_
  refine rx_iload_n (i := 1) X dX8_plainMark_19 rfl rfl ?_
  refine rx_iadd X dX8_plainMark_20 ?_
  refine rx_ialdN (j := 34 + a) X (km_4 hO) hO.2.2.1 (nI_add 34 a) (by omega) (by decide) dX8_plainMark_21 ?_
  refine rx_top (tr_4 _ _ _) ?_
  refine rx_sipush (v := 10000) X dX8_plainMark_22 (by decide) ?_
  refine rx_idiv X dX8_plainMark_25 (by decide) ?_
  refine rx_iadd X dX8_plainMark_26 ?_
  refine rx_iret X dX8_plainMark_27 ?_
  refine ⟨rfl, ?_⟩
  simp only [List.append_assoc, List.cons_append, List.nil_append]
  rfl
set_option maxHeartbeats 4000000 in
set_option maxRecDepth 100000 in
theorem kX8_backSize {l : Launch} {O : rx_O} (hO : mo_O O) {σ : rx_S} {bs : List Int32} {a : Nat} (ha : a < 6) (hb : bs.length < 15) : rx_MI l O yX8_backSize cX8_backSize 2 (some .int) 2 [.ref 0, .int (nI a)] (tr_st σ bs) (fun r τ => (ak_bs (σ.1 4) a).1 = r ∧ tr_st σ (bs ++ (ak_bs (σ.1 4) a).2) = τ) := by
  refine rx_Met_of (own := RX8) rfl hO.2.1 vsX8_backSize.2.2.2.2.2 (Nat.le_of_ble_eq_true rfl) rfl (fun p e s m args below meth c X => ?_)
  refine rx_aload_n (i := 0) X dX8_backSize_0 rfl rfl ?_
  refine rx_bipush (v := 13) X dX8_backSize_1 (by decide) ?_
  refine rx_callVv (ci := 8) X vsX8_begin mlX8_256 (kX8_begin hO (by first | omega | (simp only [List.length_append, List.length_cons, List.length_nil]; omega))) (km_0 hO) rfl rfl (by decide) (by decide) dX8_backSize_3 rfl (Nat.le_of_ble_eq_true rfl) (fun t3 h3 => ?_)
  subst h3
  refine rx_aload_n (i := 0) X dX8_backSize_6 rfl rfl ?_
  refine rx_iload_n (i := 1) X dX8_backSize_7 rfl rfl ?_
  refine rx_bipush (v := 10) X dX8_backSize_8 (by decide) ?_
  refine rx_callVi (ci := 8) X vsX8_lent mlX8_259 (kX8_lent hO ha (by first | omega | (simp only [List.length_append, List.length_cons, List.length_nil]; omega))) (km_0 hO) rfl rfl (by decide) (by decide) dX8_backSize_10 rfl (Nat.le_of_ble_eq_true rfl) (fun r10 t10 h10 => ?_)
  obtain ⟨rfl, rfl⟩ := h10
  refine rx_bipush (v := 100) X dX8_backSize_13 (by decide) ?_
  refine rx_isub X dX8_backSize_15 ?_
  refine rx_iret X dX8_backSize_16 ?_
  refine ⟨rfl, ?_⟩
  simp only [List.append_assoc, List.cons_append, List.nil_append]
  rfl
set_option maxHeartbeats 4000000 in
set_option maxRecDepth 100000 in
theorem kX8_sizeOfBack {l : Launch} {O : rx_O} (hO : mo_O O) {σ : rx_S} {bs : List Int32} {a : Nat} (ha : a < 6) (hb : bs.length < 14) : rx_MI l O yX8_sizeOfBack cX8_sizeOfBack 2 (some .int) 3 [.ref 0, .int (nI a)] (tr_st σ bs) (fun r τ => (ak_sb (σ.1 4) a).1 = r ∧ tr_st σ (bs ++ (ak_sb (σ.1 4) a).2) = τ) := by
  refine rx_Met_of (own := RX8) rfl hO.2.1 vsX8_sizeOfBack.2.2.2.2.2 (Nat.le_of_ble_eq_true rfl) rfl (fun p e s m args below meth c X => ?_)
  refine rx_aload_n (i := 0) X dX8_sizeOfBack_0 rfl rfl ?_
  refine rx_getR (ci := 8) (i := 5) X (km_0 hO) rfl rfl (by decide) inX8 flX8_19 dX8_sizeOfBack_1 ?_
  refine rx_bipush (v := 10) X dX8_sizeOfBack_4 (by decide) ?_
  refine rx_iload_n (i := 1) X dX8_sizeOfBack_6 rfl rfl ?_
  refine rx_iadd X dX8_sizeOfBack_7 ?_
  refine rx_ialdN (j := 10 + a) X (km_4 hO) hO.2.2.1 (nI_add 10 a) (by omega) (by decide) dX8_sizeOfBack_8 ?_
  refine rx_top (tr_4 _ _ _) ?_
  refine rx_iconst (v := 5) X dX8_sizeOfBack_9 (by decide) ?_
  refine rx_icmp_ne X dX8_sizeOfBack_10 (fun h10 => ?_) (fun h10 => ?_)
  · refine rx_aload_n (i := 0) X dX8_sizeOfBack_27 rfl rfl ?_
    refine rx_iload_n (i := 1) X dX8_sizeOfBack_28 rfl rfl ?_
    refine rx_callVi (ci := 8) X vsX8_backSize mlX8_262 (kX8_backSize hO ha (by first | omega | (simp only [List.length_append, List.length_cons, List.length_nil]; omega))) (km_0 hO) rfl rfl (by decide) (by decide) dX8_sizeOfBack_29 rfl (Nat.le_of_ble_eq_true rfl) (fun r29 t29 h29 => ?_)
    obtain ⟨rfl, rfl⟩ := h29
    refine rx_iret X dX8_sizeOfBack_32 ?_
    unfold ak_sb
    first | (rw [if_pos h10]; refine ⟨rfl, ?_⟩; simp only [List.append_assoc, List.cons_append, List.nil_append]) | (rw [if_neg h10]; exact ⟨rfl, rfl⟩) | fail "leaf"
  · refine rx_aload_n (i := 0) X dX8_sizeOfBack_13 rfl rfl ?_
    refine rx_bipush (v := 14) X dX8_sizeOfBack_14 (by decide) ?_
    refine rx_callVv (ci := 8) X vsX8_begin mlX8_256 (kX8_begin hO (by first | omega | (simp only [List.length_append, List.length_cons, List.length_nil]; omega))) (km_0 hO) rfl rfl (by decide) (by decide) dX8_sizeOfBack_16 rfl (Nat.le_of_ble_eq_true rfl) (fun t16 h16 => ?_)
    subst h16
    refine rx_iconst (v := 2) X dX8_sizeOfBack_19 (by decide) ?_
    refine rx_aload_n (i := 0) X dX8_sizeOfBack_20 rfl rfl ?_
    refine rx_iload_n (i := 1) X dX8_sizeOfBack_21 rfl rfl ?_
    refine rx_callVi (ci := 8) X vsX8_backSize mlX8_262 (kX8_backSize hO ha (by first | omega | (simp only [List.length_append, List.length_cons, List.length_nil]; omega))) (km_0 hO) rfl rfl (by decide) (by decide) dX8_sizeOfBack_22 rfl (Nat.le_of_ble_eq_true rfl) (fun r22 t22 h22 => ?_)
    obtain ⟨rfl, rfl⟩ := h22
    refine rx_imul X dX8_sizeOfBack_25 ?_
    refine rx_iret X dX8_sizeOfBack_26 ?_
    unfold ak_sb
    first | (rw [if_pos h10]; refine ⟨rfl, ?_⟩; simp only [List.append_assoc, List.cons_append, List.nil_append]) | (rw [if_neg h10]; exact ⟨rfl, rfl⟩) | fail "leaf"
set_option maxHeartbeats 4000000 in
set_option maxRecDepth 100000 in
theorem kX8_markOf {l : Launch} {O : rx_O} (hO : mo_O O) {σ : rx_S} {bs : List Int32} {a : Nat} (ha : a < 6) (hb : bs.length < 12) : rx_MI l O yX8_markOf cX8_markOf 4 (some .int) 4 [.ref 0, .int (nI a)] (tr_st σ bs) (fun r τ => (ak_mk (σ.1 4) a).1 = r ∧ tr_st σ (bs ++ (ak_mk (σ.1 4) a).2) = τ) := by
  refine rx_Met_of (own := RX8) rfl hO.2.1 vsX8_markOf.2.2.2.2.2 (Nat.le_of_ble_eq_true rfl) rfl (fun p e s m args below meth c X => ?_)
  refine rx_aload_n (i := 0) X dX8_markOf_0 rfl rfl ?_
  refine rx_getR (ci := 8) (i := 5) X (km_0 hO) rfl rfl (by decide) inX8 flX8_19 dX8_markOf_1 ?_
  refine rx_bipush (v := 10) X dX8_markOf_4 (by decide) ?_
  refine rx_iload_n (i := 1) X dX8_markOf_6 rfl rfl ?_
  refine rx_iadd X dX8_markOf_7 ?_
  refine rx_ialdN (j := 10 + a) X (km_4 hO) hO.2.2.1 (nI_add 10 a) (by omega) (by decide) dX8_markOf_8 ?_
  refine rx_top (tr_4 _ _ _) ?_
  refine rx_istore_n (i := 2) (lo2 := [(0, .ref _), (1, .int _), (2, .int _)]) X dX8_markOf_9 rfl (by decide) rfl ?_
  refine rx_iload_n (i := 2) X dX8_markOf_10 rfl rfl ?_
  refine rx_iconst (v := 2) X dX8_markOf_11 (by decide) ?_
  refine rx_icmp_ne X dX8_markOf_12 (fun h12 => ?_) (fun h12 => ?_)
  · refine rx_iload_n (i := 2) X dX8_markOf_29 rfl rfl ?_
    refine rx_iconst (v := 3) X dX8_markOf_30 (by decide) ?_
    refine rx_icmp_ne X dX8_markOf_31 (fun h31 => ?_) (fun h31 => ?_)
    · refine rx_iload_n (i := 2) X dX8_markOf_50 rfl rfl ?_
      refine rx_iconst (v := 1) X dX8_markOf_51 (by decide) ?_
      refine rx_icmp_ne X dX8_markOf_52 (fun h52 => ?_) (fun h52 => ?_)
      · refine rx_aload_n (i := 0) X dX8_markOf_61 rfl rfl ?_
        refine rx_bipush (v := 23) X dX8_markOf_62 (by decide) ?_
        refine rx_callVv (ci := 8) X vsX8_begin mlX8_256 (kX8_begin hO (by first | omega | (simp only [List.length_append, List.length_cons, List.length_nil]; omega))) (km_0 hO) rfl rfl (by decide) (by decide) dX8_markOf_64 rfl (Nat.le_of_ble_eq_true rfl) (fun t64 h64 => ?_)
        subst h64
        refine rx_aload_n (i := 0) X dX8_markOf_67 rfl rfl ?_
        refine rx_iload_n (i := 1) X dX8_markOf_68 rfl rfl ?_
        refine rx_bipush (v := 20) X dX8_markOf_69 (by decide) ?_
        refine rx_callVi (ci := 8) X vsX8_lent mlX8_259 (kX8_lent hO ha (by first | omega | (simp only [List.length_append, List.length_cons, List.length_nil]; omega))) (km_0 hO) rfl rfl (by decide) (by decide) dX8_markOf_71 rfl (Nat.le_of_ble_eq_true rfl) (fun r71 t71 h71 => ?_)
        obtain ⟨rfl, rfl⟩ := h71
        refine rx_istore_n (i := 3) (lo2 := [(0, .ref _), (1, .int _), (2, .int _), (3, .int _)]) X dX8_markOf_74 rfl (by decide) rfl ?_
        refine rx_iload_n (i := 3) X dX8_markOf_75 rfl rfl ?_
        refine rx_aload_n (i := 0) X dX8_markOf_76 rfl rfl ?_
        refine rx_iload_n (i := 1) X dX8_markOf_77 rfl rfl ?_
        refine rx_callVi (ci := 8) X vsX8_sizeOfBack mlX8_268 (kX8_sizeOfBack hO ha (by first | omega | (simp only [List.length_append, List.length_cons, List.length_nil]; omega))) (km_0 hO) rfl rfl (by decide) (by decide) dX8_markOf_78 rfl (Nat.le_of_ble_eq_true rfl) (fun r78 t78 h78 => ?_)
        obtain ⟨rfl, rfl⟩ := h78
        refine rx_isub X dX8_markOf_81 ?_
        refine rx_iret X dX8_markOf_82 ?_
        unfold ak_mk
        first | (rw [if_pos h12]; refine ⟨rfl, ?_⟩; simp only [List.append_assoc, List.cons_append, List.nil_append]) | (rw [if_neg h12, if_pos h31]; refine ⟨rfl, ?_⟩; simp only [List.append_assoc, List.cons_append, List.nil_append]) | (rw [if_neg h12, if_neg h31, if_pos h52]; exact ⟨rfl, rfl⟩) | (rw [if_neg h12, if_neg h31, if_neg h52]; refine ⟨rfl, ?_⟩; simp only [List.append_assoc, List.cons_append, List.nil_append]) | fail "leaf"
      · refine rx_aload_n (i := 0) X dX8_markOf_55 rfl rfl ?_
        refine rx_iload_n (i := 1) X dX8_markOf_56 rfl rfl ?_
        refine rx_callVi (ci := 8) X vsX8_plainMark mlX8_265 (kX8_plainMark hO ha (by first | omega | (simp only [List.length_append, List.length_cons, List.length_nil]; omega))) (km_0 hO) rfl rfl (by decide) (by decide) dX8_markOf_57 rfl (Nat.le_of_ble_eq_true rfl) (fun r57 t57 h57 => ?_)
        obtain ⟨rfl, rfl⟩ := h57
        refine rx_iret X dX8_markOf_60 ?_
        unfold ak_mk
        first | (rw [if_pos h12]; refine ⟨rfl, ?_⟩; simp only [List.append_assoc, List.cons_append, List.nil_append]) | (rw [if_neg h12, if_pos h31]; refine ⟨rfl, ?_⟩; simp only [List.append_assoc, List.cons_append, List.nil_append]) | (rw [if_neg h12, if_neg h31, if_pos h52]; exact ⟨rfl, rfl⟩) | (rw [if_neg h12, if_neg h31, if_neg h52]; refine ⟨rfl, ?_⟩; simp only [List.append_assoc, List.cons_append, List.nil_append]) | fail "leaf"
    · refine rx_aload_n (i := 0) X dX8_markOf_34 rfl rfl ?_
      refine rx_bipush (v := 22) X dX8_markOf_35 (by decide) ?_
      refine rx_callVv (ci := 8) X vsX8_begin mlX8_256 (kX8_begin hO (by first | omega | (simp only [List.length_append, List.length_cons, List.length_nil]; omega))) (km_0 hO) rfl rfl (by decide) (by decide) dX8_markOf_37 rfl (Nat.le_of_ble_eq_true rfl) (fun t37 h37 => ?_)
      subst h37
      refine rx_aload_n (i := 0) X dX8_markOf_40 rfl rfl ?_
      refine rx_iload_n (i := 1) X dX8_markOf_41 rfl rfl ?_
      refine rx_callVi (ci := 8) X vsX8_plainMark mlX8_265 (kX8_plainMark hO ha (by first | omega | (simp only [List.length_append, List.length_cons, List.length_nil]; omega))) (km_0 hO) rfl rfl (by decide) (by decide) dX8_markOf_42 rfl (Nat.le_of_ble_eq_true rfl) (fun r42 t42 h42 => ?_)
      obtain ⟨rfl, rfl⟩ := h42
      refine rx_sipush (v := 1000) X dX8_markOf_45 (by decide) ?_
      refine rx_isub X dX8_markOf_48 ?_
      refine rx_iret X dX8_markOf_49 ?_
      unfold ak_mk
      first | (rw [if_pos h12]; refine ⟨rfl, ?_⟩; simp only [List.append_assoc, List.cons_append, List.nil_append]) | (rw [if_neg h12, if_pos h31]; refine ⟨rfl, ?_⟩; simp only [List.append_assoc, List.cons_append, List.nil_append]) | (rw [if_neg h12, if_neg h31, if_pos h52]; exact ⟨rfl, rfl⟩) | (rw [if_neg h12, if_neg h31, if_neg h52]; refine ⟨rfl, ?_⟩; simp only [List.append_assoc, List.cons_append, List.nil_append]) | fail "leaf"
  · refine rx_aload_n (i := 0) X dX8_markOf_15 rfl rfl ?_
    refine rx_bipush (v := 24) X dX8_markOf_16 (by decide) ?_
    refine rx_callVv (ci := 8) X vsX8_begin mlX8_256 (kX8_begin hO (by first | omega | (simp only [List.length_append, List.length_cons, List.length_nil]; omega))) (km_0 hO) rfl rfl (by decide) (by decide) dX8_markOf_18 rfl (Nat.le_of_ble_eq_true rfl) (fun t18 h18 => ?_)
    subst h18
    refine rx_iconst (v := 2) X dX8_markOf_21 (by decide) ?_
    refine rx_aload_n (i := 0) X dX8_markOf_22 rfl rfl ?_
    refine rx_iload_n (i := 1) X dX8_markOf_23 rfl rfl ?_
    refine rx_callVi (ci := 8) X vsX8_plainMark mlX8_265 (kX8_plainMark hO ha (by first | omega | (simp only [List.length_append, List.length_cons, List.length_nil]; omega))) (km_0 hO) rfl rfl (by decide) (by decide) dX8_markOf_24 rfl (Nat.le_of_ble_eq_true rfl) (fun r24 t24 h24 => ?_)
    obtain ⟨rfl, rfl⟩ := h24
    refine rx_imul X dX8_markOf_27 ?_
    refine rx_iret X dX8_markOf_28 ?_
    unfold ak_mk
    first | (rw [if_pos h12]; refine ⟨rfl, ?_⟩; simp only [List.append_assoc, List.cons_append, List.nil_append]) | (rw [if_neg h12, if_pos h31]; refine ⟨rfl, ?_⟩; simp only [List.append_assoc, List.cons_append, List.nil_append]) | (rw [if_neg h12, if_neg h31, if_pos h52]; exact ⟨rfl, rfl⟩) | (rw [if_neg h12, if_neg h31, if_neg h52]; refine ⟨rfl, ?_⟩; simp only [List.append_assoc, List.cons_append, List.nil_append]) | fail "leaf"
set_option maxHeartbeats 4000000 in
set_option maxRecDepth 100000 in
theorem kX8_plainSize {l : Launch} {O : rx_O} (hO : mo_O O) {σ : rx_S} {bs : List Int32} {a : Nat} (ha : a < 6) (hb : bs.length < 10) : rx_MI l O yX8_plainSize cX8_plainSize 3 (some .int) 5 [.ref 0, .int (nI a)] (tr_st σ bs) (fun r τ => (ak_ps (σ.1 4) a).1 = r ∧ tr_st σ (bs ++ (ak_ps (σ.1 4) a).2) = τ) := by
  refine rx_Met_of (own := RX8) rfl hO.2.1 vsX8_plainSize.2.2.2.2.2 (Nat.le_of_ble_eq_true rfl) rfl (fun p e s m args below meth c X => ?_)
  refine rx_aload_n (i := 0) X dX8_plainSize_0 rfl rfl ?_
  refine rx_bipush (v := 11) X dX8_plainSize_1 (by decide) ?_
  refine rx_callVv (ci := 8) X vsX8_begin mlX8_256 (kX8_begin hO (by first | omega | (simp only [List.length_append, List.length_cons, List.length_nil]; omega))) (km_0 hO) rfl rfl (by decide) (by decide) dX8_plainSize_3 rfl (Nat.le_of_ble_eq_true rfl) (fun t3 h3 => ?_)
  subst h3
  refine rx_aload_n (i := 0) X dX8_plainSize_6 rfl rfl ?_
  refine rx_iload_n (i := 1) X dX8_plainSize_7 rfl rfl ?_
  refine rx_bipush (v := 10) X dX8_plainSize_8 (by decide) ?_
  refine rx_callVi (ci := 8) X vsX8_lent mlX8_259 (kX8_lent hO ha (by first | omega | (simp only [List.length_append, List.length_cons, List.length_nil]; omega))) (km_0 hO) rfl rfl (by decide) (by decide) dX8_plainSize_10 rfl (Nat.le_of_ble_eq_true rfl) (fun r10 t10 h10 => ?_)
  obtain ⟨rfl, rfl⟩ := h10
  refine rx_istore_n (i := 2) (lo2 := [(0, .ref _), (1, .int _), (2, .int _)]) X dX8_plainSize_13 rfl (by decide) rfl ?_
  refine rx_iload_n (i := 2) X dX8_plainSize_14 rfl rfl ?_
  refine rx_aload_n (i := 0) X dX8_plainSize_15 rfl rfl ?_
  refine rx_iload_n (i := 1) X dX8_plainSize_16 rfl rfl ?_
  refine rx_callVi (ci := 8) X vsX8_markOf mlX8_271 (kX8_markOf hO ha (by first | omega | (simp only [List.length_append, List.length_cons, List.length_nil]; omega))) (km_0 hO) rfl rfl (by decide) (by decide) dX8_plainSize_17 rfl (Nat.le_of_ble_eq_true rfl) (fun r17 t17 h17 => ?_)
  obtain ⟨rfl, rfl⟩ := h17
  refine rx_iadd X dX8_plainSize_20 ?_
  refine rx_iret X dX8_plainSize_21 ?_
  refine ⟨rfl, ?_⟩
  unfold ak_ps
  simp only [List.append_assoc, List.cons_append, List.nil_append]
set_option maxHeartbeats 4000000 in
set_option maxRecDepth 100000 in
theorem kX8_sizeOf {l : Launch} {O : rx_O} (hO : mo_O O) {σ : rx_S} {bs : List Int32} {a : Nat} (ha : a < 6) (hb : bs.length < 9) : rx_MI l O yX8_sizeOf cX8_sizeOf 3 (some .int) 6 [.ref 0, .int (nI a)] (tr_st σ bs) (fun r τ => (ak_sz (σ.1 4) a).1 = r ∧ tr_st σ (bs ++ (ak_sz (σ.1 4) a).2) = τ) := by
  refine rx_Met_of (own := RX8) rfl hO.2.1 vsX8_sizeOf.2.2.2.2.2 (Nat.le_of_ble_eq_true rfl) rfl (fun p e s m args below meth c X => ?_)
  refine rx_aload_n (i := 0) X dX8_sizeOf_0 rfl rfl ?_
  refine rx_getR (ci := 8) (i := 5) X (km_0 hO) rfl rfl (by decide) inX8 flX8_19 dX8_sizeOf_1 ?_
  refine rx_bipush (v := 10) X dX8_sizeOf_4 (by decide) ?_
  refine rx_iload_n (i := 1) X dX8_sizeOf_6 rfl rfl ?_
  refine rx_iadd X dX8_sizeOf_7 ?_
  refine rx_ialdN (j := 10 + a) X (km_4 hO) hO.2.2.1 (nI_add 10 a) (by omega) (by decide) dX8_sizeOf_8 ?_
  refine rx_top (tr_4 _ _ _) ?_
  refine rx_istore_n (i := 2) (lo2 := [(0, .ref _), (1, .int _), (2, .int _)]) X dX8_sizeOf_9 rfl (by decide) rfl ?_
  refine rx_iload_n (i := 2) X dX8_sizeOf_10 rfl rfl ?_
  refine rx_iconst (v := 2) X dX8_sizeOf_11 (by decide) ?_
  refine rx_icmp_ne X dX8_sizeOf_12 (fun h12 => ?_) (fun h12 => ?_)
  · refine rx_iload_n (i := 2) X dX8_sizeOf_28 rfl rfl ?_
    refine rx_iconst (v := 4) X dX8_sizeOf_29 (by decide) ?_
    refine rx_icmp_lt X dX8_sizeOf_30 (fun h30 => ?_) (fun h30 => ?_)
    · refine rx_aload_n (i := 0) X dX8_sizeOf_41 rfl rfl ?_
      refine rx_iload_n (i := 1) X dX8_sizeOf_42 rfl rfl ?_
      refine rx_callVi (ci := 8) X vsX8_plainSize mlX8_274 (kX8_plainSize hO ha (by first | omega | (simp only [List.length_append, List.length_cons, List.length_nil]; omega))) (km_0 hO) rfl rfl (by decide) (by decide) dX8_sizeOf_43 rfl (Nat.le_of_ble_eq_true rfl) (fun r43 t43 h43 => ?_)
      obtain ⟨rfl, rfl⟩ := h43
      refine rx_iret X dX8_sizeOf_46 ?_
      unfold ak_sz
      first | (rw [if_pos h12]; refine ⟨rfl, ?_⟩; simp only [List.append_assoc, List.cons_append, List.nil_append]) | (rw [if_neg h12, if_pos h30]; exact ⟨rfl, rfl⟩) | (rw [if_neg h12, if_neg h30]; exact ⟨rfl, rfl⟩) | fail "leaf"
    · refine rx_aload_n (i := 0) X dX8_sizeOf_33 rfl rfl ?_
      refine rx_iload_n (i := 1) X dX8_sizeOf_34 rfl rfl ?_
      refine rx_callVi (ci := 8) X vsX8_sizeOfBack mlX8_268 (kX8_sizeOfBack hO ha (by first | omega | (simp only [List.length_append, List.length_cons, List.length_nil]; omega))) (km_0 hO) rfl rfl (by decide) (by decide) dX8_sizeOf_35 rfl (Nat.le_of_ble_eq_true rfl) (fun r35 t35 h35 => ?_)
      obtain ⟨rfl, rfl⟩ := h35
      refine rx_goto X dX8_sizeOf_38 ?_
      refine rx_iret X dX8_sizeOf_46 ?_
      unfold ak_sz
      first | (rw [if_pos h12]; refine ⟨rfl, ?_⟩; simp only [List.append_assoc, List.cons_append, List.nil_append]) | (rw [if_neg h12, if_pos h30]; exact ⟨rfl, rfl⟩) | (rw [if_neg h12, if_neg h30]; exact ⟨rfl, rfl⟩) | fail "leaf"
  · refine rx_aload_n (i := 0) X dX8_sizeOf_15 rfl rfl ?_
    refine rx_bipush (v := 12) X dX8_sizeOf_16 (by decide) ?_
    refine rx_callVv (ci := 8) X vsX8_begin mlX8_256 (kX8_begin hO (by first | omega | (simp only [List.length_append, List.length_cons, List.length_nil]; omega))) (km_0 hO) rfl rfl (by decide) (by decide) dX8_sizeOf_18 rfl (Nat.le_of_ble_eq_true rfl) (fun t18 h18 => ?_)
    subst h18
    refine rx_aload_n (i := 0) X dX8_sizeOf_21 rfl rfl ?_
    refine rx_iload_n (i := 1) X dX8_sizeOf_22 rfl rfl ?_
    refine rx_callVi (ci := 8) X vsX8_plainSize mlX8_274 (kX8_plainSize hO ha (by first | omega | (simp only [List.length_append, List.length_cons, List.length_nil]; omega))) (km_0 hO) rfl rfl (by decide) (by decide) dX8_sizeOf_23 rfl (Nat.le_of_ble_eq_true rfl) (fun r23 t23 h23 => ?_)
    obtain ⟨rfl, rfl⟩ := h23
    refine rx_ineg X dX8_sizeOf_26 ?_
    refine rx_iret X dX8_sizeOf_27 ?_
    unfold ak_sz
    first | (rw [if_pos h12]; refine ⟨rfl, ?_⟩; simp only [List.append_assoc, List.cons_append, List.nil_append]) | (rw [if_neg h12, if_pos h30]; exact ⟨rfl, rfl⟩) | (rw [if_neg h12, if_neg h30]; exact ⟨rfl, rfl⟩) | fail "leaf"
set_option maxHeartbeats 4000000 in
set_option maxRecDepth 100000 in
theorem kX8_ask {l : Launch} {O : rx_O} (hO : mo_O O) {σ : rx_S} {x v : Int32} (hw : mo_W σ) : rx_MI l O yX8_ask cX8_ask 3 (some .int) 7 [.ref 0, .int x, .int v] σ (fun r τ => sp_ask σ x v = (r, τ)) := by
  refine rx_Met_of (own := RX8) rfl hO.2.1 vsX8_ask.2.2.2.2.2 (Nat.le_of_ble_eq_true rfl) rfl (fun p e s m args below meth c X => ?_)
  refine rx_aload_n (i := 0) X dX8_ask_0 rfl rfl ?_
  refine rx_iload_n (i := 1) X dX8_ask_1 rfl rfl ?_
  refine rx_callVi (ci := 8) X vsX8_isAnt mlX8_184 (kX8_isAnt hO hw.n3.1) (km_0 hO) rfl rfl (by decide) (by decide) dX8_ask_2 rfl (Nat.le_of_ble_eq_true rfl) (fun r2 t2 h2 => ?_)
  obtain ⟨rfl, ⟨rfl, h2⟩ | ⟨rfl, h2⟩⟩ := h2
  · obtain ⟨a, ha, rfl⟩ := rx_sub h2.1 (n := 6) (by have := hw.n3; omega)
    refine rx_if_eq_f X dX8_ask_5 (by decide) ?_
    refine rx_iload_n (i := 2) X dX8_ask_8 rfl rfl ?_
    refine rx_i2l X dX8_ask_9 ?_
    refine rx_lconst (v := 0) X dX8_ask_10 (by decide) ?_
    refine rx_lconst (v := 1) X dX8_ask_11 (by decide) ?_
    refine rx_callTi X vsX8_in mlX8_63 (kX8_inI hO (A := 0) (B := 1) rfl rfl) rfl (by decide) (by decide) dX8_ask_12 rfl (Nat.le_of_ble_eq_true rfl) (fun r12 t12 h12 => ?_)
    obtain ⟨rfl, ⟨rfl, h12⟩ | ⟨rfl, h12⟩⟩ := h12
    · refine rx_if_ne_t X dX8_ask_15 (by decide) ?_
      refine rx_aload_n (i := 0) X dX8_ask_21 rfl rfl ?_
      refine rx_iconst (v := 0) X dX8_ask_22 (by decide) ?_
      refine rx_putI (ci := 8) (i := 25) X (km_0 hO) rfl rfl (by decide) inX8 tyX8 tyX8_ok nmX8 flX8_253 rfl rfl dX8_ask_23 ?_
      rw [tr_nil]
      refine rx_iload_n (i := 2) X dX8_ask_26 rfl rfl ?_
      refine rx_if_ne X dX8_ask_27 (fun h27 => ?_) (fun h27 => ?_)
      · refine rx_aload_n (i := 0) X dX8_ask_38 rfl rfl ?_
        refine rx_iload_n (i := 1) X dX8_ask_39 rfl rfl ?_
        refine rx_callVi (ci := 8) X vsX8_markOf mlX8_271 (kX8_markOf hO ha (by decide)) (km_0 hO) rfl rfl (by decide) (by decide) dX8_ask_40 rfl (Nat.le_of_ble_eq_true rfl) (fun r40 t40 h40 => ?_)
        obtain ⟨rfl, rfl⟩ := h40
        refine rx_iret X dX8_ask_43 ?_
        rw [sp_ask]
        first | rw [if_pos (by omega)] | rw [if_neg (by omega), rx_Nn (j := a) (by omega), if_pos h27, List.nil_append] | rw [if_neg (by omega), rx_Nn (j := a) (by omega), if_neg h27, List.nil_append] | fail "leaf"
      · refine rx_aload_n (i := 0) X dX8_ask_30 rfl rfl ?_
        refine rx_iload_n (i := 1) X dX8_ask_31 rfl rfl ?_
        refine rx_callVi (ci := 8) X vsX8_sizeOf mlX8_277 (kX8_sizeOf hO ha (by decide)) (km_0 hO) rfl rfl (by decide) (by decide) dX8_ask_32 rfl (Nat.le_of_ble_eq_true rfl) (fun r32 t32 h32 => ?_)
        obtain ⟨rfl, rfl⟩ := h32
        refine rx_goto X dX8_ask_35 ?_
        refine rx_iret X dX8_ask_43 ?_
        rw [sp_ask]
        first | rw [if_pos (by omega)] | rw [if_neg (by omega), rx_Nn (j := a) (by omega), if_pos h27, List.nil_append] | rw [if_neg (by omega), rx_Nn (j := a) (by omega), if_neg h27, List.nil_append] | fail "leaf"
    · refine rx_if_ne_f X dX8_ask_15 (by decide) ?_
      refine rx_ldc X dX8_ask_18 kcX8_73 ?_
      refine rx_iret X dX8_ask_20 ?_
      rw [sp_ask]
      first | rw [if_pos (by omega)] | rw [if_neg (by omega), rx_Nn (j := a) (by omega), if_pos h27, List.nil_append] | rw [if_neg (by omega), rx_Nn (j := a) (by omega), if_neg h27, List.nil_append] | fail "leaf"
  · refine rx_if_eq_t X dX8_ask_5 (by decide) ?_
    refine rx_ldc X dX8_ask_18 kcX8_73 ?_
    refine rx_iret X dX8_ask_20 ?_
    rw [sp_ask]
    first | rw [if_pos (by omega)] | rw [if_neg (by omega), rx_Nn (j := a) (by omega), if_pos h27, List.nil_append] | rw [if_neg (by omega), rx_Nn (j := a) (by omega), if_neg h27, List.nil_append] | fail "leaf"
