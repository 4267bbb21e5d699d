abbrev mo_n (n : Int32) : Prop := 1 ≤ n.toInt ∧ n.toInt ≤ 99
theorem w_V_upd16 {K a : Nat} {w : Nat → Int32} {v : Int32} (hw : w_V K w) (ha : a < 6) (hv : 1 ≤ v.toInt ∧ v.toInt ≤ 20) : w_V K (upd w (16 + a) v) := by
  obtain ⟨h0, h1, h2, h3, h4, h5⟩ := hw
  have n2 := rx_Ni (x := w 2) (by omega)
  have n3 := rx_Ni (x := w 3) (by omega)
  refine ⟨by rw [upd_n (by omega)]; exact h0, by rw [upd_n (by omega)]; exact h1, by rw [upd_n (by omega)]; exact h2, by rw [upd_n (by omega)]; exact h3, fun i hi => ?_, fun b hb => ?_⟩
  · rw [upd_n (by omega)] at hi
    rw [upd_n (by omega)]
    exact h4 i hi
  · rw [upd_n (by omega)] at hb
    obtain ⟨b1, b2, b3, b4, b5⟩ := h5 b hb
    refine ⟨by rw [upd_n (by omega)]; exact b1, ?_, by rw [upd_n (by omega)]; exact b3, by rw [upd_n (by omega)]; exact b4, by rw [upd_n (by omega)]; exact b5⟩
    by_cases e : b = a
    · subst e
      rw [upd_s]
      exact hv
    · rw [upd_n (by omega)]
      exact b2
theorem w_V_upd28 {K a : Nat} {w : Nat → Int32} {v : Int32} (hw : w_V K w) (ha : a < 6) (hv : 1 ≤ v.toInt ∧ v.toInt ≤ 9) : w_V K (upd w (28 + a) v) := by
  obtain ⟨h0, h1, h2, h3, h4, h5⟩ := hw
  have n2 := rx_Ni (x := w 2) (by omega)
  have n3 := rx_Ni (x := w 3) (by omega)
  refine ⟨by rw [upd_n (by omega)]; exact h0, by rw [upd_n (by omega)]; exact h1, by rw [upd_n (by omega)]; exact h2, by rw [upd_n (by omega)]; exact h3, fun i hi => ?_, fun b hb => ?_⟩
  · rw [upd_n (by omega)] at hi
    rw [upd_n (by omega)]
    exact h4 i hi
  · rw [upd_n (by omega)] at hb
    obtain ⟨b1, b2, b3, b4, b5⟩ := h5 b hb
    refine ⟨by rw [upd_n (by omega)]; exact b1, by rw [upd_n (by omega)]; exact b2, by rw [upd_n (by omega)]; exact b3, ?_, by rw [upd_n (by omega)]; exact b5⟩
    by_cases e : b = a
    · subst e
      rw [upd_s]
      exact hv
    · rw [upd_n (by omega)]
      exact b4
theorem w_V_upd10 {K a : Nat} {w : Nat → Int32} {v : Int32} (hw : w_V K w) (ha : a < 6) (hv : 1 ≤ v.toInt ∧ v.toInt ≤ 5) : w_V K (upd w (10 + a) v) := by
  obtain ⟨h0, h1, h2, h3, h4, h5⟩ := hw
  have n2 := rx_Ni (x := w 2) (by omega)
  have n3 := rx_Ni (x := w 3) (by omega)
  refine ⟨by rw [upd_n (by omega)]; exact h0, by rw [upd_n (by omega)]; exact h1, by rw [upd_n (by omega)]; exact h2, by rw [upd_n (by omega)]; exact h3, fun i hi => ?_, fun b hb => ?_⟩
  · rw [upd_n (by omega)] at hi
    rw [upd_n (by omega)]
    exact h4 i hi
  · rw [upd_n (by omega)] at hb
    obtain ⟨b1, b2, b3, b4, b5⟩ := h5 b hb
    refine ⟨?_, by rw [upd_n (by omega)]; exact b2, by rw [upd_n (by omega)]; exact b3, by rw [upd_n (by omega)]; exact b4, by rw [upd_n (by omega)]; exact b5⟩
    by_cases e : b = a
    · subst e
      rw [upd_s]
      exact hv
    · rw [upd_n (by omega)]
      exact b1
/-- the first p PULLS become v -/
def w_pl (p : Nat) (v : Int32) (w : Nat → Int32) : Nat → Int32 := fun i => if 5 ≤ i ∧ i < 5 + p then v else w i
theorem w_pl_0 (v : Int32) (w : Nat → Int32) : w_pl 0 v w = w := by
  funext i
  exact if_neg (by omega)
theorem w_pl_s (p : Nat) (v : Int32) (w : Nat → Int32) : upd (w_pl p v w) (5 + p) v = w_pl (p + 1) v w := by
  funext i
  unfold upd w_pl
  by_cases h : i = 5 + p
  · rw [if_pos h, if_pos (by omega)]
  · rw [if_neg h]
    by_cases h2 : 5 ≤ i ∧ i < 5 + p
    · rw [if_pos h2, if_pos (by omega)]
    · rw [if_neg h2, if_neg (by omega)]
theorem w_pl_n {p i : Nat} {v : Int32} {w : Nat → Int32} (h : i < 5 ∨ 5 + p ≤ i) : w_pl p v w i = w i := if_neg (by omega)
theorem w_V_pl {K p : Nat} {w : Nat → Int32} {v : Int32} (hw : w_V K w) (hp : p ≤ 5) (hv : 0 ≤ v.toInt ∧ v.toInt ≤ 99) : w_V K (w_pl p v w) := by
  obtain ⟨h0, h1, h2, h3, h4, h5⟩ := hw
  refine ⟨by rw [w_pl_n (by omega)]; exact h0, by rw [w_pl_n (by omega)]; exact h1, by rw [w_pl_n (by omega)]; exact h2, by rw [w_pl_n (by omega)]; exact h3, fun i hi => ?_, fun b hb => ?_⟩
  · rw [w_pl_n (by omega)] at hi
    by_cases e : i < p
    · rw [w_pl, if_pos (by omega)]
      exact hv
    · rw [w_pl_n (by omega)]
      exact h4 i hi
  · rw [w_pl_n (by omega)] at hb
    obtain ⟨b1, b2, b3, b4, b5⟩ := h5 b hb
    exact ⟨by rw [w_pl_n (by omega)]; exact b1, by rw [w_pl_n (by omega)]; exact b2, by rw [w_pl_n (by omega)]; exact b3, by rw [w_pl_n (by omega)]; exact b4, by rw [w_pl_n (by omega)]; exact b5⟩
set_option maxHeartbeats 4000000 in
set_option maxRecDepth 100000 in
theorem kX8_lacks {l : Launch} {O : rx_O} (hO : mo_O O) {σ : rx_S} {x n : Int32} (hw : mo_W σ) : rx_MI l O yX8_lacks cX8_lacks 3 (some .int) 2 [.ref 0, .int x, .int n] σ (fun r τ => σ = τ ∧ ((r = -1000001 ∧ (¬ mo_ant σ x ∨ ¬ mo_n n)) ∨ (r = -1000002 ∧ mo_ant σ x ∧ mo_n n ∧ w_has (σ.1 4 4) (rx_N x)) ∨ (r = 0 ∧ mo_ant σ x ∧ mo_n n ∧ ¬ w_has (σ.1 4 4) (rx_N x)))) := by
  refine rx_Met_of (own := RX8) rfl hO.2.1 vsX8_lacks.2.2.2.2.2 (Nat.le_of_ble_eq_true rfl) rfl (fun p e s m args below meth c X => ?_)
  refine rx_aload_n (i := 0) X dX8_lacks_0 rfl rfl ?_
  refine rx_iload_n (i := 1) X dX8_lacks_1 rfl rfl ?_
  refine rx_callVi (ci := 8) X vsX8_isAnt mlX8_184 (kX8_isAnt hO hw.n3.1) (km_0 hO) rfl rfl (by decide) (by decide) dX8_lacks_2 rfl (Nat.le_of_ble_eq_true rfl) (fun r2 t2 h2 => ?_)
  obtain ⟨rfl, ⟨rfl, h2⟩ | ⟨rfl, h2⟩⟩ := h2
  · obtain ⟨a, ha, rfl⟩ := rx_sub h2.1 (n := 6) (by have := hw.n3; omega)
    refine rx_if_eq_f X dX8_lacks_5 (by decide) ?_
    refine rx_iload_n (i := 2) X dX8_lacks_8 rfl rfl ?_
    refine rx_i2l X dX8_lacks_9 ?_
    refine rx_lconst (v := 1) X dX8_lacks_10 (by decide) ?_
    refine rx_ldc2 X dX8_lacks_11 kcX8_179 ?_
    refine rx_callTi X vsX8_in mlX8_63 (kX8_inI hO (A := 1) (B := 99) rfl rfl) rfl (by decide) (by decide) dX8_lacks_14 rfl (Nat.le_of_ble_eq_true rfl) (fun r14 t14 h14 => ?_)
    obtain ⟨rfl, ⟨rfl, h14⟩ | ⟨rfl, h14⟩⟩ := h14
    · refine rx_if_ne_t X dX8_lacks_17 (by decide) ?_
      refine rx_aload_n (i := 0) X dX8_lacks_25 rfl rfl ?_
      refine rx_getR (ci := 8) (i := 5) X (km_0 hO) rfl rfl (by decide) inX8 flX8_19 dX8_lacks_26 ?_
      refine rx_iconst (v := 4) X dX8_lacks_29 (by decide) ?_
      refine rx_ialdN (j := 4) X (km_4 hO) hO.2.2.1 rfl (by decide) (by decide) dX8_lacks_30 ?_
      refine rx_iload_n (i := 1) X dX8_lacks_31 rfl rfl ?_
      refine rx_callTi X vsX8_has mlX8_159 (kX8_has hO) rfl (by decide) (by decide) dX8_lacks_32 rfl (Nat.le_of_ble_eq_true rfl) (fun r32 t32 h32 => ?_)
      obtain ⟨rfl, ⟨rfl, h32⟩ | ⟨rfl, h32⟩⟩ := h32
      · refine rx_if_eq_f X dX8_lacks_35 (by decide) ?_
        refine rx_ldc X dX8_lacks_38 kcX8_173 ?_
        refine rx_goto X dX8_lacks_40 ?_
        refine rx_iret X dX8_lacks_44 ?_
        refine ⟨rfl, ?_⟩
        first | exact Or.inl ⟨rfl, by omega⟩ | (rw [rx_Nn (j := a) (by omega)]; exact Or.inr (Or.inl ⟨rfl, by omega, by omega, h32⟩)) | (rw [rx_Nn (j := a) (by omega)]; exact Or.inr (Or.inr ⟨rfl, by omega, by omega, h32⟩)) | fail "leaf"
      · refine rx_if_eq_t X dX8_lacks_35 (by decide) ?_
        refine rx_iconst (v := 0) X dX8_lacks_43 (by decide) ?_
        refine rx_iret X dX8_lacks_44 ?_
        refine ⟨rfl, ?_⟩
        first | exact Or.inl ⟨rfl, by omega⟩ | (rw [rx_Nn (j := a) (by omega)]; exact Or.inr (Or.inl ⟨rfl, by omega, by omega, h32⟩)) | (rw [rx_Nn (j := a) (by omega)]; exact Or.inr (Or.inr ⟨rfl, by omega, by omega, h32⟩)) | fail "leaf"
    · refine rx_if_ne_f X dX8_lacks_17 (by decide) ?_
      refine rx_ldc X dX8_lacks_20 kcX8_73 ?_
      refine rx_goto X dX8_lacks_22 ?_
      refine rx_iret X dX8_lacks_44 ?_
      refine ⟨rfl, ?_⟩
      first | exact Or.inl ⟨rfl, by omega⟩ | (rw [rx_Nn (j := a) (by omega)]; exact Or.inr (Or.inl ⟨rfl, by omega, by omega, h32⟩)) | (rw [rx_Nn (j := a) (by omega)]; exact Or.inr (Or.inr ⟨rfl, by omega, by omega, h32⟩)) | fail "leaf"
  · refine rx_if_eq_t X dX8_lacks_5 (by decide) ?_
    refine rx_ldc X dX8_lacks_20 kcX8_73 ?_
    refine rx_goto X dX8_lacks_22 ?_
    refine rx_iret X dX8_lacks_44 ?_
    refine ⟨rfl, ?_⟩
    first | exact Or.inl ⟨rfl, by omega⟩ | (rw [rx_Nn (j := a) (by omega)]; exact Or.inr (Or.inl ⟨rfl, by omega, by omega, h32⟩)) | (rw [rx_Nn (j := a) (by omega)]; exact Or.inr (Or.inr ⟨rfl, by omega, by omega, h32⟩)) | fail "leaf"
set_option maxHeartbeats 4000000 in
set_option maxRecDepth 100000 in
theorem kA_thereBy {l : Launch} {O : rx_O} (hO : mo_O O) {σ : rx_S} {u : Nat → Int32} {a n K : Nat} (ha : a < 6) (hn : n < 1000) (hK : K + n < 1000000) (hv : w_V K u) (h40 : ∀ i, 40 ≤ i → u i = σ.1 4 i) : rx_MI l O yX8_isThereBy cX8_isThereBy 4 (some .boolean) 6 [.ref 0, .int (nI a), .int (nI n)] (as_st σ u) (fun r τ => sp_aside σ = τ ∧ rx_b (w_has (w_on (σ.1 0 6) n u 4) a) r) := by
  refine rx_Met_of (own := RX8) rfl hO.2.1 vsX8_isThereBy.2.2.2.2.2 (Nat.le_of_ble_eq_true rfl) rfl (fun p e s m args below meth c X => ?_)
  refine rx_aload_n (i := 0) X dX8_isThereBy_0 rfl rfl ?_
  refine rx_iload_n (i := 2) X dX8_isThereBy_1 rfl rfl ?_
  refine rx_callVv (ci := 8) X vsX8_goOn mlX8_193 (kA_on hO hn hK hv) (km_0 hO) rfl rfl (by decide) (by decide) dX8_isThereBy_2 rfl (Nat.le_of_ble_eq_true rfl) (fun t2 h2 => ?_)
  subst h2
  refine rx_aload_n (i := 0) X dX8_isThereBy_5 rfl rfl ?_
  refine rx_getR (ci := 8) (i := 5) X (km_0 hO) rfl rfl (by decide) inX8 flX8_19 dX8_isThereBy_6 ?_
  refine rx_iconst (v := 4) X dX8_isThereBy_9 (by decide) ?_
  refine rx_ialdN (j := 4) X (km_4 hO) hO.2.2.1 rfl (by decide) (by decide) dX8_isThereBy_10 ?_
  refine rx_top (as_rd _ _ _) ?_
  refine rx_iload_n (i := 1) X dX8_isThereBy_11 rfl rfl ?_
  refine rx_callTi X vsX8_has mlX8_159 (kX8_has hO) rfl (by decide) (by decide) dX8_isThereBy_12 rfl (Nat.le_of_ble_eq_true rfl) (fun r12 t12 h12 => ?_)
  obtain ⟨rfl, ⟨rfl, h12⟩ | ⟨rfl, h12⟩⟩ := h12
  · refine rx_istore_n (i := 3) (lo2 := [(0, .ref _), (1, .int _), (2, .int _), (3, .int _)]) X dX8_isThereBy_15 rfl (by decide) rfl ?_
    refine rx_aload_n (i := 0) X dX8_isThereBy_16 rfl rfl ?_
    refine rx_callVv (ci := 8) X vsX8_takeBack mlX8_196 (kA_take hO (fun i hi => (w_hi_on hi hK hv).trans (h40 i hi))) (km_0 hO) rfl rfl (by decide) (by decide) dX8_isThereBy_17 rfl (Nat.le_of_ble_eq_true rfl) (fun t17 h17 => ?_)
    subst h17
    refine rx_iload_n (i := 3) X dX8_isThereBy_20 rfl rfl ?_
    refine rx_zret X dX8_isThereBy_21 rfl ?_
    exact ⟨rfl, by first | exact Or.inl ⟨rfl, h12⟩ | exact Or.inr ⟨rfl, h12⟩⟩
  · refine rx_istore_n (i := 3) (lo2 := [(0, .ref _), (1, .int _), (2, .int _), (3, .int _)]) X dX8_isThereBy_15 rfl (by decide) rfl ?_
    refine rx_aload_n (i := 0) X dX8_isThereBy_16 rfl rfl ?_
    refine rx_callVv (ci := 8) X vsX8_takeBack mlX8_196 (kA_take hO (fun i hi => (w_hi_on hi hK hv).trans (h40 i hi))) (km_0 hO) rfl rfl (by decide) (by decide) dX8_isThereBy_17 rfl (Nat.le_of_ble_eq_true rfl) (fun t17 h17 => ?_)
    subst h17
    refine rx_iload_n (i := 3) X dX8_isThereBy_20 rfl rfl ?_
    refine rx_zret X dX8_isThereBy_21 rfl ?_
    exact ⟨rfl, by first | exact Or.inl ⟨rfl, h12⟩ | exact Or.inr ⟨rfl, h12⟩⟩
def w_meet (sp : Int32) (lo hi : Nat) : Nat → Nat → (Nat → Int32) → Int32
  | 0, n, w => if w (34 + lo) < w (34 + hi) then -1000000 else nI n
  | f + 1, n, w => if w (34 + lo) < w (34 + hi) then w_meet sp lo hi f (n + 1) (w_one sp w) else nI n
def sp_meet (σ : rx_S) (x z : Int32) : Int32 × rx_S := if ¬ mo_ant σ x ∨ ¬ mo_ant σ z ∨ x = z then (-1000001, σ) else (if σ.1 4 (34 + rx_N x) < σ.1 4 (34 + rx_N z) then w_meet (σ.1 0 6) (rx_N x) (rx_N z) 200 0 (σ.1 4) else w_meet (σ.1 0 6) (rx_N z) (rx_N x) 200 0 (σ.1 4), sp_aside σ)
set_option maxHeartbeats 4000000 in
set_option maxRecDepth 100000 in
theorem kX8_meet {l : Launch} {O : rx_O} (hO : mo_O O) {σ : rx_S} {x z : Int32} (hw : mo_W σ) : rx_MI l O yX8_meet cX8_meet 8 (some .int) 6 [.ref 0, .int x, .int z] σ (fun r τ => sp_meet σ x z = (r, τ)) := by
  refine rx_Met_of (own := RX8) rfl hO.2.1 vsX8_meet.2.2.2.2.2 (Nat.le_of_ble_eq_true rfl) rfl (fun p e s m args below meth c X => ?_)
  have go : ∀ (a b lo hi : Nat) (c3 : Int32), a < 6 → b < 6 → lo < 6 → hi < 6 → w_V 999 (σ.1 4) → sp_meet σ (nI a) (nI b) = (w_meet (σ.1 0 6) lo hi 200 0 (σ.1 4), sp_aside σ) → rx_J O 8 p l e (rx_lv 6) s m args below meth c (rx_QI O below args s (fun r τ => sp_meet σ (nI a) (nI b) = (r, τ))) 80 [(0, .ref 0), (1, .int (nI a)), (2, .int (nI b)), (3, .int c3), (4, .int (nI lo)), (5, .int (nI hi)), (6, .int 0)] [] (as_st σ (σ.1 4)) := by
    intro a b lo hi c3 ha hb hlo hhi hv hs
    have loop : ∀ (k : Nat) (i K : Nat) (x : Int32) (u : Nat → Int32), (i + k = 200) → (x = nI i) → (K + k < 1000000) → (w_V K u) → (∀ j, 40 ≤ j → u j = σ.1 4 j) → (w_meet (σ.1 0 6) lo hi 200 0 (σ.1 4) = w_meet (σ.1 0 6) lo hi k i u) → rx_J O 8 p l e (rx_lv 6) s m args below meth c (rx_QI O below args s (fun r τ => sp_meet σ (nI a) (nI b) = (r, τ))) 80 [(0, .ref 0), (1, .int (nI a)), (2, .int (nI b)), (3, .int c3), (4, .int (nI lo)), (5, .int (nI hi)), (6, .int x)] [] (as_st σ u) := by
      intro k
      induction k with
      | zero =>
        intro i K x u hi9 hx hK hv hi40 hu
        subst hx
        obtain rfl : i = 200 := by omega
        refine rx_aload_n (i := 0) X dX8_meet_80 rfl rfl ?_
        refine rx_getR (ci := 8) (i := 5) X (km_0 hO) rfl rfl (by decide) inX8 flX8_19 dX8_meet_81 ?_
        refine rx_bipush (v := 34) X dX8_meet_84 (by decide) ?_
        refine rx_iload (i := 4) X dX8_meet_86 rfl ?_
        refine rx_iadd X dX8_meet_88 ?_
        refine rx_ialdN (j := 34 + lo) X (km_4 hO) hO.2.2.1 (nI_add 34 lo) (by omega) (by decide) dX8_meet_89 ?_
        refine rx_top (as_rd _ _ _) ?_
        refine rx_aload_n (i := 0) X dX8_meet_90 rfl rfl ?_
        refine rx_getR (ci := 8) (i := 5) X (km_0 hO) rfl rfl (by decide) inX8 flX8_19 dX8_meet_91 ?_
        refine rx_bipush (v := 34) X dX8_meet_94 (by decide) ?_
        refine rx_iload (i := 5) X dX8_meet_96 rfl ?_
        refine rx_iadd X dX8_meet_98 ?_
        refine rx_ialdN (j := 34 + hi) X (km_4 hO) hO.2.2.1 (nI_add 34 hi) (by omega) (by decide) dX8_meet_99 ?_
        refine rx_top (as_rd _ _ _) ?_
        refine rx_icmp_ge X dX8_meet_100 (fun h100 => ?_) (fun h100 => ?_)
        · refine rx_aload_n (i := 0) X dX8_meet_121 rfl rfl ?_
          refine rx_getR (ci := 8) (i := 5) X (km_0 hO) rfl rfl (by decide) inX8 flX8_19 dX8_meet_122 ?_
          refine rx_bipush (v := 34) X dX8_meet_125 (by decide) ?_
          refine rx_iload (i := 4) X dX8_meet_127 rfl ?_
          refine rx_iadd X dX8_meet_129 ?_
          refine rx_ialdN (j := 34 + lo) X (km_4 hO) hO.2.2.1 (nI_add 34 lo) (by omega) (by decide) dX8_meet_130 ?_
          refine rx_top (as_rd _ _ _) ?_
          refine rx_aload_n (i := 0) X dX8_meet_131 rfl rfl ?_
          refine rx_getR (ci := 8) (i := 5) X (km_0 hO) rfl rfl (by decide) inX8 flX8_19 dX8_meet_132 ?_
          refine rx_bipush (v := 34) X dX8_meet_135 (by decide) ?_
          refine rx_iload (i := 5) X dX8_meet_137 rfl ?_
          refine rx_iadd X dX8_meet_139 ?_
          refine rx_ialdN (j := 34 + hi) X (km_4 hO) hO.2.2.1 (nI_add 34 hi) (by omega) (by decide) dX8_meet_140 ?_
          refine rx_top (as_rd _ _ _) ?_
          refine rx_icmp_lt X dX8_meet_141 (fun h141 => ?_) (fun h141 => ?_)
          · refine rx_iconst (v := 0) X dX8_meet_148 (by decide) ?_
            refine rx_istore (i := 7) (lo2 := [(0, .ref _), (1, .int _), (2, .int _), (3, .int _), (4, .int _), (5, .int _), (6, .int _), (7, .int _)]) X dX8_meet_149 (by decide) rfl ?_
            refine rx_aload_n (i := 0) X dX8_meet_151 rfl rfl ?_
            refine rx_callVv (ci := 8) X vsX8_takeBack mlX8_196 (kA_take hO hi40) (km_0 hO) rfl rfl (by decide) (by decide) dX8_meet_152 rfl (Nat.le_of_ble_eq_true rfl) (fun t152 h152 => ?_)
            subst h152
            refine rx_iload (i := 7) X dX8_meet_155 rfl ?_
            refine rx_if_eq_t X dX8_meet_157 (by decide) ?_
            refine rx_ldc X dX8_meet_165 kcX8_189 ?_
            refine rx_iret X dX8_meet_167 ?_
            rw [hs, hu]
            first | rw [w_meet, if_pos (by assumption)] | rw [w_meet, if_neg (by assumption)] | exact absurd (by assumption) h141 | exact absurd h141 (Int32.not_lt.mpr h100) | exact absurd (Int32.not_le.mp h100) h141 | rw [w_meet, if_neg (Int32.not_lt.mpr h100)] | fail "leaf"
          · refine rx_iconst (v := 1) X dX8_meet_144 (by decide) ?_
            refine rx_goto X dX8_meet_145 ?_
            refine rx_istore (i := 7) (lo2 := [(0, .ref _), (1, .int _), (2, .int _), (3, .int _), (4, .int _), (5, .int _), (6, .int _), (7, .int _)]) X dX8_meet_149 (by decide) rfl ?_
            refine rx_aload_n (i := 0) X dX8_meet_151 rfl rfl ?_
            refine rx_callVv (ci := 8) X vsX8_takeBack mlX8_196 (kA_take hO hi40) (km_0 hO) rfl rfl (by decide) (by decide) dX8_meet_152 rfl (Nat.le_of_ble_eq_true rfl) (fun t152 h152 => ?_)
            subst h152
            refine rx_iload (i := 7) X dX8_meet_155 rfl ?_
            refine rx_if_eq_f X dX8_meet_157 (by decide) ?_
            refine rx_iload (i := 6) X dX8_meet_160 rfl ?_
            refine rx_goto X dX8_meet_162 ?_
            refine rx_iret X dX8_meet_167 ?_
            rw [hs, hu]
            first | rw [w_meet, if_pos (by assumption)] | rw [w_meet, if_neg (by assumption)] | exact absurd (by assumption) h141 | exact absurd h141 (Int32.not_lt.mpr h100) | exact absurd (Int32.not_le.mp h100) h141 | rw [w_meet, if_neg (Int32.not_lt.mpr h100)] | fail "leaf"
        · refine rx_iload (i := 6) X dX8_meet_103 rfl ?_
          refine rx_sipush (v := 200) X dX8_meet_105 (by decide) ?_
          refine rx_icmp_ge_t X dX8_meet_108 (Int32.le_refl _) ?_
          refine rx_aload_n (i := 0) X dX8_meet_121 rfl rfl ?_
          refine rx_getR (ci := 8) (i := 5) X (km_0 hO) rfl rfl (by decide) inX8 flX8_19 dX8_meet_122 ?_
          refine rx_bipush (v := 34) X dX8_meet_125 (by decide) ?_
          refine rx_iload (i := 4) X dX8_meet_127 rfl ?_
          refine rx_iadd X dX8_meet_129 ?_
          refine rx_ialdN (j := 34 + lo) X (km_4 hO) hO.2.2.1 (nI_add 34 lo) (by omega) (by decide) dX8_meet_130 ?_
          refine rx_top (as_rd _ _ _) ?_
          refine rx_aload_n (i := 0) X dX8_meet_131 rfl rfl ?_
          refine rx_getR (ci := 8) (i := 5) X (km_0 hO) rfl rfl (by decide) inX8 flX8_19 dX8_meet_132 ?_
          refine rx_bipush (v := 34) X dX8_meet_135 (by decide) ?_
          refine rx_iload (i := 5) X dX8_meet_137 rfl ?_
          refine rx_iadd X dX8_meet_139 ?_
          refine rx_ialdN (j := 34 + hi) X (km_4 hO) hO.2.2.1 (nI_add 34 hi) (by omega) (by decide) dX8_meet_140 ?_
          refine rx_top (as_rd _ _ _) ?_
          refine rx_icmp_lt X dX8_meet_141 (fun h141 => ?_) (fun h141 => ?_)
          · refine rx_iconst (v := 0) X dX8_meet_148 (by decide) ?_
            refine rx_istore (i := 7) (lo2 := [(0, .ref _), (1, .int _), (2, .int _), (3, .int _), (4, .int _), (5, .int _), (6, .int _), (7, .int _)]) X dX8_meet_149 (by decide) rfl ?_
            refine rx_aload_n (i := 0) X dX8_meet_151 rfl rfl ?_
            refine rx_callVv (ci := 8) X vsX8_takeBack mlX8_196 (kA_take hO hi40) (km_0 hO) rfl rfl (by decide) (by decide) dX8_meet_152 rfl (Nat.le_of_ble_eq_true rfl) (fun t152 h152 => ?_)
            subst h152
            refine rx_iload (i := 7) X dX8_meet_155 rfl ?_
            refine rx_if_eq_t X dX8_meet_157 (by decide) ?_
            refine rx_ldc X dX8_meet_165 kcX8_189 ?_
            refine rx_iret X dX8_meet_167 ?_
            rw [hs, hu]
            first | rw [w_meet, if_pos (by assumption)] | rw [w_meet, if_neg (by assumption)] | exact absurd (by assumption) h141 | exact absurd h141 (Int32.not_lt.mpr h100) | exact absurd (Int32.not_le.mp h100) h141 | rw [w_meet, if_neg (Int32.not_lt.mpr h100)] | fail "leaf"
          · refine rx_iconst (v := 1) X dX8_meet_144 (by decide) ?_
            refine rx_goto X dX8_meet_145 ?_
            refine rx_istore (i := 7) (lo2 := [(0, .ref _), (1, .int _), (2, .int _), (3, .int _), (4, .int _), (5, .int _), (6, .int _), (7, .int _)]) X dX8_meet_149 (by decide) rfl ?_
            refine rx_aload_n (i := 0) X dX8_meet_151 rfl rfl ?_
            refine rx_callVv (ci := 8) X vsX8_takeBack mlX8_196 (kA_take hO hi40) (km_0 hO) rfl rfl (by decide) (by decide) dX8_meet_152 rfl (Nat.le_of_ble_eq_true rfl) (fun t152 h152 => ?_)
            subst h152
            refine rx_iload (i := 7) X dX8_meet_155 rfl ?_
            refine rx_if_eq_f X dX8_meet_157 (by decide) ?_
            refine rx_iload (i := 6) X dX8_meet_160 rfl ?_
            refine rx_goto X dX8_meet_162 ?_
            refine rx_iret X dX8_meet_167 ?_
            rw [hs, hu]
            first | rw [w_meet, if_pos (by assumption)] | rw [w_meet, if_neg (by assumption)] | exact absurd (by assumption) h141 | exact absurd h141 (Int32.not_lt.mpr h100) | exact absurd (Int32.not_le.mp h100) h141 | rw [w_meet, if_neg (Int32.not_lt.mpr h100)] | fail "leaf"
      | succ k ih =>
        intro i K x u hi9 hx hK hv hi40 hu
        subst hx
        refine rx_aload_n (i := 0) X dX8_meet_80 rfl rfl ?_
        refine rx_getR (ci := 8) (i := 5) X (km_0 hO) rfl rfl (by decide) inX8 flX8_19 dX8_meet_81 ?_
        refine rx_bipush (v := 34) X dX8_meet_84 (by decide) ?_
        refine rx_iload (i := 4) X dX8_meet_86 rfl ?_
        refine rx_iadd X dX8_meet_88 ?_
        refine rx_ialdN (j := 34 + lo) X (km_4 hO) hO.2.2.1 (nI_add 34 lo) (by omega) (by decide) dX8_meet_89 ?_
        refine rx_top (as_rd _ _ _) ?_
        refine rx_aload_n (i := 0) X dX8_meet_90 rfl rfl ?_
        refine rx_getR (ci := 8) (i := 5) X (km_0 hO) rfl rfl (by decide) inX8 flX8_19 dX8_meet_91 ?_
        refine rx_bipush (v := 34) X dX8_meet_94 (by decide) ?_
        refine rx_iload (i := 5) X dX8_meet_96 rfl ?_
        refine rx_iadd X dX8_meet_98 ?_
        refine rx_ialdN (j := 34 + hi) X (km_4 hO) hO.2.2.1 (nI_add 34 hi) (by omega) (by decide) dX8_meet_99 ?_
        refine rx_top (as_rd _ _ _) ?_
        refine rx_icmp_ge X dX8_meet_100 (fun h100 => ?_) (fun h100 => ?_)
        · refine rx_aload_n (i := 0) X dX8_meet_121 rfl rfl ?_
          refine rx_getR (ci := 8) (i := 5) X (km_0 hO) rfl rfl (by decide) inX8 flX8_19 dX8_meet_122 ?_
          refine rx_bipush (v := 34) X dX8_meet_125 (by decide) ?_
          refine rx_iload (i := 4) X dX8_meet_127 rfl ?_
          refine rx_iadd X dX8_meet_129 ?_
          refine rx_ialdN (j := 34 + lo) X (km_4 hO) hO.2.2.1 (nI_add 34 lo) (by omega) (by decide) dX8_meet_130 ?_
          refine rx_top (as_rd _ _ _) ?_
          refine rx_aload_n (i := 0) X dX8_meet_131 rfl rfl ?_
          refine rx_getR (ci := 8) (i := 5) X (km_0 hO) rfl rfl (by decide) inX8 flX8_19 dX8_meet_132 ?_
          refine rx_bipush (v := 34) X dX8_meet_135 (by decide) ?_
          refine rx_iload (i := 5) X dX8_meet_137 rfl ?_
          refine rx_iadd X dX8_meet_139 ?_
          refine rx_ialdN (j := 34 + hi) X (km_4 hO) hO.2.2.1 (nI_add 34 hi) (by omega) (by decide) dX8_meet_140 ?_
          refine rx_top (as_rd _ _ _) ?_
          refine rx_icmp_lt X dX8_meet_141 (fun h141 => ?_) (fun h141 => ?_)
          · refine rx_iconst (v := 0) X dX8_meet_148 (by decide) ?_
            refine rx_istore (i := 7) (lo2 := [(0, .ref _), (1, .int _), (2, .int _), (3, .int _), (4, .int _), (5, .int _), (6, .int _), (7, .int _)]) X dX8_meet_149 (by decide) rfl ?_
            refine rx_aload_n (i := 0) X dX8_meet_151 rfl rfl ?_
            refine rx_callVv (ci := 8) X vsX8_takeBack mlX8_196 (kA_take hO hi40) (km_0 hO) rfl rfl (by decide) (by decide) dX8_meet_152 rfl (Nat.le_of_ble_eq_true rfl) (fun t152 h152 => ?_)
            subst h152
            refine rx_iload (i := 7) X dX8_meet_155 rfl ?_
            refine rx_if_eq_t X dX8_meet_157 (by decide) ?_
            refine rx_ldc X dX8_meet_165 kcX8_189 ?_
            refine rx_iret X dX8_meet_167 ?_
            first | exact absurd h141 (Int32.not_lt.mpr h100) | (rw [hs, hu, w_meet, if_neg (Int32.not_lt.mpr h100)]) | fail "leaf"
          · refine rx_iconst (v := 1) X dX8_meet_144 (by decide) ?_
            refine rx_goto X dX8_meet_145 ?_
            refine rx_istore (i := 7) (lo2 := [(0, .ref _), (1, .int _), (2, .int _), (3, .int _), (4, .int _), (5, .int _), (6, .int _), (7, .int _)]) X dX8_meet_149 (by decide) rfl ?_
            refine rx_aload_n (i := 0) X dX8_meet_151 rfl rfl ?_
            refine rx_callVv (ci := 8) X vsX8_takeBack mlX8_196 (kA_take hO hi40) (km_0 hO) rfl rfl (by decide) (by decide) dX8_meet_152 rfl (Nat.le_of_ble_eq_true rfl) (fun t152 h152 => ?_)
            subst h152
            refine rx_iload (i := 7) X dX8_meet_155 rfl ?_
            refine rx_if_eq_f X dX8_meet_157 (by decide) ?_
            refine rx_iload (i := 6) X dX8_meet_160 rfl ?_
            refine rx_goto X dX8_meet_162 ?_
            refine rx_iret X dX8_meet_167 ?_
            first | exact absurd h141 (Int32.not_lt.mpr h100) | (rw [hs, hu, w_meet, if_neg (Int32.not_lt.mpr h100)]) | fail "leaf"
        · refine rx_iload (i := 6) X dX8_meet_103 rfl ?_
          refine rx_sipush (v := 200) X dX8_meet_105 (by decide) ?_
          refine rx_icmp_ge_f X dX8_meet_108 (nI_ge (b := 200) (by omega) (by decide)) ?_
          refine rx_aload_n (i := 0) X dX8_meet_111 rfl rfl ?_
          refine rx_callVv (ci := 8) X vsX8_oneMinute mlX8_170 (kA_one hO hv) (km_0 hO) rfl rfl (by decide) (by decide) dX8_meet_112 rfl (Nat.le_of_ble_eq_true rfl) (fun t112 h112 => ?_)
          subst h112
          refine rx_iinc (i := 6) (lo2 := [(0, .ref _), (1, .int _), (2, .int _), (3, .int _), (4, .int _), (5, .int _), (6, .int _)]) X dX8_meet_115 rfl (rx_inc1 _) (by decide) rfl ?_
          refine rx_goto X dX8_meet_118 ?_
          refine ih (i + 1) (K + 1) _ _ (by omega) (nI_1 i) (by omega) (w_V_one (by omega) hv) (fun j hj => (w_hi_one hv hj).trans (hi40 j hj)) ?_
          rw [hu]
          conv => lhs; rw [w_meet, if_pos (Int32.not_le.mp h100)]
    exact loop 200 0 999 _ _ rfl rfl (by omega) hv (fun _ _ => rfl) rfl
  refine rx_aload_n (i := 0) X dX8_meet_0 rfl rfl ?_
  refine rx_iload_n (i := 1) X dX8_meet_1 rfl rfl ?_
  refine rx_callVi (ci := 8) X vsX8_isAnt mlX8_184 (kX8_isAnt hO hw.n3.1) (km_0 hO) rfl rfl (by decide) (by decide) dX8_meet_2 rfl (Nat.le_of_ble_eq_true rfl) (fun r2 t2 h2 => ?_)
  obtain ⟨rfl, ⟨rfl, h2⟩ | ⟨rfl, h2⟩⟩ := h2
  · obtain ⟨a, ha, rfl⟩ := rx_sub h2.1 (n := 6) (by have := hw.n3; omega)
    refine rx_if_eq_f X dX8_meet_5 (by decide) ?_
    refine rx_aload_n (i := 0) X dX8_meet_8 rfl rfl ?_
    refine rx_iload_n (i := 2) X dX8_meet_9 rfl rfl ?_
    refine rx_callVi (ci := 8) X vsX8_isAnt mlX8_184 (kX8_isAnt hO hw.n3.1) (km_0 hO) rfl rfl (by decide) (by decide) dX8_meet_10 rfl (Nat.le_of_ble_eq_true rfl) (fun r10 t10 h10 => ?_)
    obtain ⟨rfl, ⟨rfl, h10⟩ | ⟨rfl, h10⟩⟩ := h10
    · obtain ⟨b, hb, rfl⟩ := rx_sub (x := z) h10.1 (n := 6) (by have := hw.n3; omega)
      have hv := hw.V (by omega)
      refine rx_if_eq_f X dX8_meet_13 (by decide) ?_
      refine rx_iload_n (i := 1) X dX8_meet_16 rfl rfl ?_
      refine rx_iload_n (i := 2) X dX8_meet_17 rfl rfl ?_
      refine rx_icmp_ne X dX8_meet_18 (fun h18 => ?_) (fun h18 => ?_)
      · refine rx_aload_n (i := 0) X dX8_meet_24 rfl rfl ?_
        refine rx_callVv (ci := 8) X vsX8_putAside mlX8_190 (kX8_putAside hO) (km_0 hO) rfl rfl (by decide) (by decide) dX8_meet_25 rfl (Nat.le_of_ble_eq_true rfl) (fun t25 h25 => ?_)
        subst h25
        refine rx_aload_n (i := 0) X dX8_meet_28 rfl rfl ?_
        refine rx_getR (ci := 8) (i := 5) X (km_0 hO) rfl rfl (by decide) inX8 flX8_19 dX8_meet_29 ?_
        refine rx_bipush (v := 34) X dX8_meet_32 (by decide) ?_
        refine rx_iload_n (i := 1) X dX8_meet_34 rfl rfl ?_
        refine rx_iadd X dX8_meet_35 ?_
        refine rx_ialdN (j := 34 + a) X (km_4 hO) hO.2.2.1 (nI_add 34 a) (by omega) (by decide) dX8_meet_36 ?_
        refine rx_top (as_rd _ _ _) ?_
        refine rx_aload_n (i := 0) X dX8_meet_37 rfl rfl ?_
        refine rx_getR (ci := 8) (i := 5) X (km_0 hO) rfl rfl (by decide) inX8 flX8_19 dX8_meet_38 ?_
        refine rx_bipush (v := 34) X dX8_meet_41 (by decide) ?_
        refine rx_iload_n (i := 2) X dX8_meet_43 rfl rfl ?_
        refine rx_iadd X dX8_meet_44 ?_
        refine rx_ialdN (j := 34 + b) X (km_4 hO) hO.2.2.1 (nI_add 34 b) (by omega) (by decide) dX8_meet_45 ?_
        refine rx_top (as_rd _ _ _) ?_
        refine rx_icmp_ge X dX8_meet_46 (fun h46 => ?_) (fun h46 => ?_)
        · refine rx_iconst (v := 0) X dX8_meet_53 (by decide) ?_
          refine rx_istore_n (i := 3) (lo2 := [(0, .ref _), (1, .int _), (2, .int _), (3, .int _)]) X dX8_meet_54 rfl (by decide) rfl ?_
          refine rx_iload_n (i := 3) X dX8_meet_55 rfl rfl ?_
          refine rx_if_eq_t X dX8_meet_56 (by decide) ?_
          refine rx_iload_n (i := 2) X dX8_meet_63 rfl rfl ?_
          refine rx_istore (i := 4) (lo2 := [(0, .ref _), (1, .int _), (2, .int _), (3, .int _), (4, .int _)]) X dX8_meet_64 (by decide) rfl ?_
          refine rx_iload_n (i := 3) X dX8_meet_66 rfl rfl ?_
          refine rx_if_eq_t X dX8_meet_67 (by decide) ?_
          refine rx_iload_n (i := 1) X dX8_meet_74 rfl rfl ?_
          refine rx_istore (i := 5) (lo2 := [(0, .ref _), (1, .int _), (2, .int _), (3, .int _), (4, .int _), (5, .int _)]) X dX8_meet_75 (by decide) rfl ?_
          refine rx_iconst (v := 0) X dX8_meet_77 (by decide) ?_
          refine rx_istore (i := 6) (lo2 := [(0, .ref _), (1, .int _), (2, .int _), (3, .int _), (4, .int _), (5, .int _), (6, .int _)]) X dX8_meet_78 (by decide) rfl ?_
          refine go _ _ _ _ _ ha hb (by omega) (by omega) hv ?_
          rw [sp_meet, if_neg (by simp only [not_or, Decidable.not_not]; exact ⟨h2, h10, h18⟩), rx_Nn (j := a) (by omega), rx_Nn (j := b) (by omega)]
          first | rw [if_neg (Int32.not_lt.mpr h46)] | rw [if_pos (Int32.not_le.mp h46)] | fail "leaf"
        · refine rx_iconst (v := 1) X dX8_meet_49 (by decide) ?_
          refine rx_goto X dX8_meet_50 ?_
          refine rx_istore_n (i := 3) (lo2 := [(0, .ref _), (1, .int _), (2, .int _), (3, .int _)]) X dX8_meet_54 rfl (by decide) rfl ?_
          refine rx_iload_n (i := 3) X dX8_meet_55 rfl rfl ?_
          refine rx_if_eq_f X dX8_meet_56 (by decide) ?_
          refine rx_iload_n (i := 1) X dX8_meet_59 rfl rfl ?_
          refine rx_goto X dX8_meet_60 ?_
          refine rx_istore (i := 4) (lo2 := [(0, .ref _), (1, .int _), (2, .int _), (3, .int _), (4, .int _)]) X dX8_meet_64 (by decide) rfl ?_
          refine rx_iload_n (i := 3) X dX8_meet_66 rfl rfl ?_
          refine rx_if_eq_f X dX8_meet_67 (by decide) ?_
          refine rx_iload_n (i := 2) X dX8_meet_70 rfl rfl ?_
          refine rx_goto X dX8_meet_71 ?_
          refine rx_istore (i := 5) (lo2 := [(0, .ref _), (1, .int _), (2, .int _), (3, .int _), (4, .int _), (5, .int _)]) X dX8_meet_75 (by decide) rfl ?_
          refine rx_iconst (v := 0) X dX8_meet_77 (by decide) ?_
          refine rx_istore (i := 6) (lo2 := [(0, .ref _), (1, .int _), (2, .int _), (3, .int _), (4, .int _), (5, .int _), (6, .int _)]) X dX8_meet_78 (by decide) rfl ?_
          refine go _ _ _ _ _ ha hb (by omega) (by omega) hv ?_
          rw [sp_meet, if_neg (by simp only [not_or, Decidable.not_not]; exact ⟨h2, h10, h18⟩), rx_Nn (j := a) (by omega), rx_Nn (j := b) (by omega)]
          first | rw [if_neg (Int32.not_lt.mpr h46)] | rw [if_pos (Int32.not_le.mp h46)] | fail "leaf"
      · refine rx_ldc X dX8_meet_21 kcX8_73 ?_
        refine rx_iret X dX8_meet_23 ?_
        rw [sp_meet]
        first | rw [if_pos (Or.inl h2)] | rw [if_pos (Or.inr (Or.inl h10))] | rw [if_pos (Or.inr (Or.inr h18))] | fail "leaf"
    · refine rx_if_eq_t X dX8_meet_13 (by decide) ?_
      refine rx_ldc X dX8_meet_21 kcX8_73 ?_
      refine rx_iret X dX8_meet_23 ?_
      rw [sp_meet]
      first | rw [if_pos (Or.inl h2)] | rw [if_pos (Or.inr (Or.inl h10))] | rw [if_pos (Or.inr (Or.inr h18))] | fail "leaf"
  · refine rx_if_eq_t X dX8_meet_5 (by decide) ?_
    refine rx_ldc X dX8_meet_21 kcX8_73 ?_
    refine rx_iret X dX8_meet_23 ?_
    rw [sp_meet]
    first | rw [if_pos (Or.inl h2)] | rw [if_pos (Or.inr (Or.inl h10))] | rw [if_pos (Or.inr (Or.inr h18))] | fail "leaf"
def w_fast (sp : Int32) (a n : Nat) (w : Nat → Int32) : Nat → Nat → Int32
  | 0, _ => -1000000
  | f + 1, v => if w_has (w_on sp n (upd w (16 + a) (nI v)) 4) a then nI v else w_fast sp a n w f (v + 1)
def sp_lk (σ : rx_S) (x n : Int32) (v : Int32) : Int32 × rx_S := if ¬ mo_ant σ x ∨ ¬ mo_n n then (-1000001, σ) else if w_has (σ.1 4 4) (rx_N x) then (-1000002, σ) else (v, sp_aside σ)
def sp_fast (σ : rx_S) (x n : Int32) : Int32 × rx_S := sp_lk σ x n (w_fast (σ.1 0 6) (rx_N x) (rx_N n) (σ.1 4) 20 1)
def w_pf (sp : Int32) (a n : Nat) (w : Nat → Int32) : Nat → Int32
  | 0 => -1000000
  | v + 1 => if w_has (w_on sp n (w_pl (rx_N (w 2)) (nI v) w) 4) a then nI v else w_pf sp a n w v
def sp_pullFor (σ : rx_S) (x n : Int32) : Int32 × rx_S := sp_lk σ x n (w_pf (σ.1 0 6) (rx_N x) (rx_N n) (σ.1 4) 100)
theorem sp_lk_0 {σ : rx_S} {a q : Nat} {v : Int32} (ha : a < 6) (h2 : mo_ant σ (nI a)) (h14 : mo_n (nI q)) (hno : ¬ w_has (σ.1 4 4) a) : sp_lk σ (nI a) (nI q) v = (v, sp_aside σ) := by
  rw [sp_lk, if_neg (by omega), rx_Nn (j := a) (by omega), if_neg hno]
theorem sp_lk_1 {σ : rx_S} {x n v : Int32} (h : ¬ mo_ant σ x ∨ ¬ mo_n n) : sp_lk σ x n v = (-1000001, σ) := by rw [sp_lk, if_pos h]
theorem sp_lk_2 {σ : rx_S} {x n v : Int32} (h : mo_ant σ x ∧ mo_n n ∧ w_has (σ.1 4 4) (rx_N x)) : sp_lk σ x n v = (-1000002, σ) := by rw [sp_lk, if_neg (by omega), if_pos h.2.2]
