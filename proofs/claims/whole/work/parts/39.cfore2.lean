theorem nI_ngt {i b : Nat} (h : i ≤ b) (hb : b < 2 ^ 31) : ¬ nI b < nI i := Int32.not_lt.mpr (nI_le h hb)
theorem w_one_4 {sp : Int32} {w : Nat → Int32} : w_one sp w 4 = w_all sp (rx_N (w 3)) w 4 := w_st_hi (by omega)
theorem w_all_has {sp : Int32} {w : Nat → Int32} {a : Nat} (hB : w_B w) (ha : a < 6) (h : w_has (w 4) a) : ∀ n, n ≤ 6 → w_has (w_all sp n w 4) a
  | 0, _ => h
  | n + 1, hn => by
    have ih := w_all_has (sp := sp) hB ha h n (by omega)
    obtain ⟨q, hq, e⟩ := (w_B_all (sp := sp) hB n (by omega)).at
    unfold w_all
    split
    · unfold w_go
      split
      · rw [upd_n (by omega), upd_s, e]
        by_cases z : a = n
        · subst z; exact bit_own q hq a ha
        · rw [e] at ih; exact (bit_oth q hq n (by omega) a ha z).mpr ih
      · rw [upd_n (by omega)]; exact ih
    · exact ih
theorem w_on_has {sp : Int32} {a : Nat} (ha : a < 6) : ∀ {n K : Nat} {w : Nat → Int32}, K + n < 1000000 → w_V K w → w_B w → w_has (w 4) a → w_has (w_on sp n w 4) a
  | 0, _, _, _, _, _, h => h
  | n + 1, K, w, hK, hv, hb, h => by
    show w_has (w_on sp n (w_one sp w) 4) a
    refine w_on_has ha (K := K + 1) (by omega) (w_V_one (by omega) hv) (w_B_one hb hv) ?_
    rw [w_one_4]
    exact w_all_has hb ha h _ hv.n3.2
theorem nI_none {m : Nat} (h : m < 100000) : ¬ nI m = -1000000 := by
  intro q
  have := congrArg Int32.toInt q
  rw [nI_toInt (by omega)] at this
  have e : (-1000000 : Int32).toInt = -1000000 := rfl
  omega
theorem w_arr_iff {sp : Int32} {a : Nat} (ha : a < 6) : ∀ {f m K : Nat} {w : Nat → Int32}, f + m < 1000 → K + f < 1000000 → w_V K w → w_B w → (w_arr sp a f m w = -1000000 ↔ ¬ w_has (w_on sp f w 4) a)
  | 0, m, K, w, hm, hK, hv, hb => by
    show (if w_has (w 4) a then nI m else -1000000) = -1000000 ↔ ¬ w_has (w 4) a
    by_cases h : w_has (w 4) a
    · rw [if_pos h]; exact ⟨fun q => absurd q (nI_none (by omega)), fun q => absurd h q⟩
    · rw [if_neg h]; exact ⟨fun _ => h, fun _ => rfl⟩
  | f + 1, m, K, w, hm, hK, hv, hb => by
    show (if w_has (w 4) a then nI m else w_arr sp a f (m + 1) (w_one sp w)) = -1000000 ↔ ¬ w_has (w_on sp f (w_one sp w) 4) a
    by_cases h : w_has (w 4) a
    · rw [if_pos h]
      refine ⟨fun q => absurd q (nI_none (by omega)), fun q => absurd ?_ q⟩
      exact w_on_has (n := f + 1) ha hK hv hb h
    · rw [if_neg h]
      exact w_arr_iff ha (by omega) (K := K + 1) (by omega) (w_V_one (by omega) hv) (w_B_one hb hv)
theorem i32_irr (x : Int32) : ¬ x < x := by
  rw [Int32.lt_iff_toInt_lt]
  omega
theorem c_cmp_lt {x y : Int32} : c_cmp x y = -1 ↔ x < y := by
  unfold c_cmp
  by_cases h : x < y
  · rw [if_pos h]; exact ⟨fun _ => h, fun _ => rfl⟩
  · rw [if_neg h]
    refine ⟨fun q => ?_, fun q => absurd q h⟩
    split at q
    · exact absurd q (by decide)
    · exact absurd q (by decide)
theorem c_cmp_eq {x y : Int32} : c_cmp x y = 0 ↔ x = y := by
  unfold c_cmp
  by_cases h : x < y
  · rw [if_pos h]
    exact ⟨fun q => absurd q (by decide), fun q => absurd (q ▸ h) (i32_irr _)⟩
  · rw [if_neg h]
    by_cases e : x = y
    · rw [if_pos e]; exact ⟨fun _ => e, fun _ => rfl⟩
    · rw [if_neg e]; exact ⟨fun q => absurd q (by decide), fun q => absurd q e⟩
theorem i32_tri {x y : Int32} (h : ¬ x < y) (h2 : ¬ x = y) : y < x := by
  rw [Int32.lt_iff_toInt_lt] at *
  rw [← Int32.toInt_inj] at h2
  omega
theorem c_cmp_gt {x y : Int32} : c_cmp x y = 1 ↔ y < x := by
  unfold c_cmp
  by_cases h : x < y
  · rw [if_pos h]
    exact ⟨fun q => absurd q (by decide), fun q => absurd (Int32.lt_trans h q) (i32_irr _)⟩
  · rw [if_neg h]
    by_cases e : x = y
    · rw [if_pos e]; exact ⟨fun q => absurd q (by decide), fun q => absurd (e ▸ q) (i32_irr _)⟩
    · rw [if_neg e]; exact ⟨fun _ => i32_tri h e, fun _ => rfl⟩
/-- meeting as the class has it -/
def cm (lo hi : Nat) : Nat → Nat → (Nat → Int32) → Int32
  | 0, _, _ => -1000000
  | k + 1, n, w => if w (34 + lo) < w (34 + hi) then cm lo hi k (n + 1) (w_one (-1) w) else nI n
theorem cm_meet {lo hi : Nat} : ∀ {f n : Nat} {w : Nat → Int32}, cm lo hi (f + 1) n w = w_meet (-1) lo hi f n w
  | 0, n, w => rfl
  | f + 1, n, w => by
    show (if w (34 + lo) < w (34 + hi) then cm lo hi (f + 1) (n + 1) (w_one (-1) w) else nI n) = (if w (34 + lo) < w (34 + hi) then w_meet (-1) lo hi f (n + 1) (w_one (-1) w) else nI n)
    rw [cm_meet]
def ch (a : Nat) (b : Bool) : Nat → Nat → (Nat → Int32) → Int32
  | 0, _, _ => -1000000
  | k + 1, n, w => if w_hf a b w then nI n else ch a b k (n + 1) (w_one (-1) w)
theorem ch_half {a : Nat} {b : Bool} : ∀ {f n : Nat} {w : Nat → Int32}, ch a b (f + 1) n w = w_half (-1) a b f n w
  | 0, n, w => rfl
  | f + 1, n, w => by
    show (if w_hf a b w then nI n else ch a b (f + 1) (n + 1) (w_one (-1) w)) = (if w_hf a b w then nI n else w_half (-1) a b f (n + 1) (w_one (-1) w))
    rw [ch_half]
/-- the sides' test of the class is the reference's -/
theorem ch_iff {x x0 c : Int32} (h0 : c_cmp x0 c = 0 → c_cmp x c = 0) : (c_cmp x c = 0 ∨ ¬ c_cmp x c = c_cmp x0 c) ↔ (x = c ∨ decide (x < c) ≠ decide (x0 < c)) := by
  by_cases e : x = c
  · exact ⟨fun _ => Or.inl e, fun _ => Or.inl (c_cmp_eq.mpr e)⟩
  · have hx0 : ¬ x0 = c := fun q => e (c_cmp_eq.mp (h0 (c_cmp_eq.mpr q)))
    have hxe : ¬ c_cmp x c = 0 := fun q => e (c_cmp_eq.mp q)
    by_cases l : x < c
    · by_cases l0 : x0 < c
      · rw [c_cmp_lt.mpr l, c_cmp_lt.mpr l0]; simp [e, l, l0]
      · rw [c_cmp_lt.mpr l, c_cmp_gt.mpr (i32_tri l0 hx0)]; simp [e, l, l0]
    · by_cases l0 : x0 < c
      · rw [c_cmp_gt.mpr (i32_tri l e), c_cmp_lt.mpr l0]; simp [e, l, l0]
      · rw [c_cmp_gt.mpr (i32_tri l e), c_cmp_gt.mpr (i32_tri l0 hx0)]; simp [e, l, l0]
theorem cb_R.kind {σ : rx_S} {B a : Nat} {w : Nat → Int32} {v : Int32} (ha : a < 6) (h : cb_R cb_T σ B w) : cb_R (fun b => b = a) (rx_u σ (B + 3 + a) 0 v) B (upd w (10 + a) v) := by
  rw [rx_u_eq]
  refine (h.less (fun _ _ => trivial)).ant ha (h.1 a ha) (fun j h1 h2 => (upd_n (by omega)).symm) (fun b hb hne => ⟨(upd_n (by omega)).symm, (upd_n (by omega)).symm, (upd_n (by omega)).symm, (upd_n (by omega)).symm, (upd_n (by omega)).symm, by rw [upd_n (by omega)]⟩) (fun hn _ => ?_)
  rw [upd_n (by omega)] at hn
  have z := h.2.2 a ha hn trivial
  exact ⟨upd_s.symm, z.2.1.trans (upd_n (by omega)).symm, z.2.2.1.trans (upd_n (by omega)).symm, z.2.2.2.1.trans (upd_n (by omega)).symm, z.2.2.2.2.1.trans (upd_n (by omega)).symm, by rw [upd_n (f := w) (by omega)]; exact z.2.2.2.2.2⟩
theorem cb_R.step {σ : rx_S} {B a : Nat} {w : Nat → Int32} {v : Int32} (ha : a < 6) (h : cb_R cb_T σ B w) : cb_R cb_T (rx_u σ (B + 3 + a) 1 v) B (upd w (16 + a) v) := by
  rw [rx_u_eq]
  refine h.ant ha (h.1 a ha) (fun j h1 h2 => (upd_n (by omega)).symm) (fun b hb hne => ⟨(upd_n (by omega)).symm, (upd_n (by omega)).symm, (upd_n (by omega)).symm, (upd_n (by omega)).symm, (upd_n (by omega)).symm, by rw [upd_n (by omega)]⟩) (fun hn _ => ?_)
  rw [upd_n (by omega)] at hn
  have z := h.2.2 a ha hn trivial
  exact ⟨z.1.trans (upd_n (by omega)).symm, upd_s.symm, z.2.2.1.trans (upd_n (by omega)).symm, z.2.2.2.1.trans (upd_n (by omega)).symm, z.2.2.2.2.1.trans (upd_n (by omega)).symm, by rw [upd_n (f := w) (by omega)]; exact z.2.2.2.2.2⟩
theorem cb_R.rest {σ : rx_S} {B a : Nat} {w : Nat → Int32} {v : Int32} (ha : a < 6) (h : cb_R cb_T σ B w) : cb_R cb_T (rx_u σ (B + 3 + a) 3 v) B (upd w (28 + a) v) := by
  rw [rx_u_eq]
  refine h.ant ha (h.1 a ha) (fun j h1 h2 => (upd_n (by omega)).symm) (fun b hb hne => ⟨(upd_n (by omega)).symm, (upd_n (by omega)).symm, (upd_n (by omega)).symm, (upd_n (by omega)).symm, (upd_n (by omega)).symm, by rw [upd_n (by omega)]⟩) (fun hn _ => ?_)
  rw [upd_n (by omega)] at hn
  have z := h.2.2 a ha hn trivial
  exact ⟨z.1.trans (upd_n (by omega)).symm, z.2.1.trans (upd_n (by omega)).symm, z.2.2.1.trans (upd_n (by omega)).symm, upd_s.symm, z.2.2.2.2.1.trans (upd_n (by omega)).symm, by rw [upd_n (f := w) (by omega)]; exact z.2.2.2.2.2⟩
theorem cb_R.part {σ : rx_S} {B a : Nat} {w : Nat → Int32} {v : Int32} (ha : a < 6) (h : cb_R cb_T σ B w) : cb_R cb_T (rx_u σ (B + 3 + a) 4 v) B (upd w (34 + a) v) := by
  rw [rx_u_eq]
  refine h.ant ha (h.1 a ha) (fun j h1 h2 => (upd_n (by omega)).symm) (fun b hb hne => ⟨(upd_n (by omega)).symm, (upd_n (by omega)).symm, (upd_n (by omega)).symm, (upd_n (by omega)).symm, (upd_n (by omega)).symm, by rw [upd_n (by omega)]⟩) (fun hn _ => ?_)
  rw [upd_n (by omega)] at hn
  have z := h.2.2 a ha hn trivial
  exact ⟨z.1.trans (upd_n (by omega)).symm, z.2.1.trans (upd_n (by omega)).symm, z.2.2.1.trans (upd_n (by omega)).symm, z.2.2.2.1.trans (upd_n (by omega)).symm, upd_s.symm, by rw [upd_n (f := w) (by omega)]; exact z.2.2.2.2.2⟩
theorem w_B_upd {w : Nat → Int32} {j : Nat} {v : Int32} (h : w_B w) (hj : j ≠ 4) : w_B (upd w j v) := by
  unfold w_B
  rw [upd_n (fun q => hj q.symm)]
  exact h
theorem mt_V {K b : Nat} {w : Nat → Int32} (hv : w_V K w) (hb : b < 6) (hA : w_A w b) : w_V K (w_g1 w b) := by
  have g : ∀ j, j ≠ 4 → j < 34 → w_g1 w b j = w j := fun j h1 h2 => w_g1_n h1 (by omega)
  have n2 := hv.n2
  have n3 := hv.n3
  refine ⟨by rw [g 0 (by omega) (by omega)]; exact hv.1, by rw [g 1 (by omega) (by omega)]; exact hv.2.1, by rw [g 2 (by omega) (by omega)]; exact hv.2.2.1, by rw [g 3 (by omega) (by omega)]; exact hv.2.2.2.1, fun i hi => ?_, fun a ha => ?_⟩
  · rw [g 2 (by omega) (by omega)] at hi
    rw [g _ (by omega) (by omega)]; exact hv.2.2.2.2.1 i hi
  · rw [g 3 (by omega) (by omega)] at ha
    exact w_g1_A hb (by omega) hA hv.1.1 (hv.2.2.2.2.2 a ha)
/-- how the class's meeting goes on -/
theorem cm_iff {xa xb ya yb : Int32} (h0 : c_cmp xa xb = 0 → c_cmp ya yb = 0) : (c_cmp ya yb = 0 ∨ ¬ c_cmp ya yb = c_cmp xa xb) ↔ (if xa < xb then ¬ ya < yb else ¬ yb < ya) := by
  by_cases e : xa < xb
  · rw [if_pos e, c_cmp_lt.mpr e, ← c_cmp_lt]
    refine ⟨fun q => q.elim (fun z => by rw [z]; decide) id, fun q => Or.inr q⟩
  · rw [if_neg e, ← c_cmp_gt]
    by_cases z : xa = xb
    · have := h0 (c_cmp_eq.mpr z)
      rw [this]
      exact ⟨fun _ => by decide, fun _ => Or.inl rfl⟩
    · rw [c_cmp_gt.mpr (i32_tri e z)]
      refine ⟨fun q => q.elim (fun z => by rw [z]; decide) id, fun q => Or.inr q⟩
def cm2 (a b : Nat) (p : Prop) [Decidable p] (k n : Nat) (w : Nat → Int32) : Int32 := if p then cm a b k n w else cm b a k n w
theorem cm2_s {a b : Nat} {p : Prop} [Decidable p] {k n : Nat} {w : Nat → Int32} (h : ¬ (if p then ¬ w (34 + a) < w (34 + b) else ¬ w (34 + b) < w (34 + a))) : cm2 a b p (k + 1) n w = cm2 a b p k (n + 1) (w_one (-1) w) := by
  unfold cm2
  by_cases e : p
  · rw [if_pos e] at h ⊢
    rw [if_pos e]
    exact if_pos (Decidable.of_not_not h)
  · rw [if_neg e] at h ⊢
    rw [if_neg e]
    exact if_pos (Decidable.of_not_not h)
theorem cm2_e {a b : Nat} {p : Prop} [Decidable p] {k n : Nat} {w : Nat → Int32} (h : (if p then ¬ w (34 + a) < w (34 + b) else ¬ w (34 + b) < w (34 + a))) : cm2 a b p (k + 1) n w = nI n := by
  unfold cm2
  by_cases e : p
  · rw [if_pos e] at h ⊢
    exact if_neg h
  · rw [if_neg e] at h ⊢
    exact if_neg h
theorem cm2_0 {a b : Nat} {p : Prop} [Decidable p] {n : Nat} {w : Nat → Int32} : cm2 a b p 0 n w = -1000000 := by
  unfold cm2
  split <;> rfl
set_option maxHeartbeats 1000000 in
set_option maxRecDepth 100000 in
theorem kX4_meeting {l : Launch} {O : rx_O} (hO : cb_O O) {σ : rx_S} {a b : Nat} {w : Nat → Int32} (hw : cb_R cb_T σ 1 w) (hv : w_V 999 w) (hb : w_B w) (ha : a < 6) (ha3 : a < rx_N (w 3)) (hb6 : b < 6) (hb3 : b < rx_N (w 3)) (hab : ¬ a = b) : rx_MI l O yX4_meeting cX4_meeting 7 (some .int) 4 [.ref 242, .ref 1, .int (nI a), .int (nI b)] σ (fun r τ => (if w (34 + a) < w (34 + b) then w_meet (-1) a b 200 0 w else w_meet (-1) b a 200 0 w) = r ∧ cb_fr 243 σ τ ∧ cb_bo τ 243) := by
  refine rx_Met_of (own := RX4) rfl hO.2.1 vsX4_meeting.2.2.2.2.2 (Nat.le_of_ble_eq_true rfl) rfl (fun p e s m args below meth c X => ?_)
  have loop : ∀ (k : Nat) (i : Nat) (x : Int32) (τ : rx_S) (u : Nat → Int32), (i + k = 201) → (x = nI i) → (cb_fr 243 σ τ) → (cb_R (fun c => c = a ∨ c = b) τ 243 u) → (w_V (999 + i) u) → (w_B u) → (a < rx_N (u 3)) → (b < rx_N (u 3)) → (c_cmp (w (34 + a)) (w (34 + b)) = 0 → c_cmp (u (34 + a)) (u (34 + b)) = 0) → ((if w (34 + a) < w (34 + b) then w_meet (-1) a b 200 0 w else w_meet (-1) b a 200 0 w) = cm2 a b (w (34 + a) < w (34 + b)) k i u) → rx_J O 7 p l e (rx_lv 4) s m args below meth c (rx_QI O below args s (fun r τ => (if w (34 + a) < w (34 + b) then w_meet (-1) a b 200 0 w else w_meet (-1) b a 200 0 w) = r ∧ cb_fr 243 σ τ ∧ cb_bo τ 243)) 40 [(0, .ref 242), (1, .ref 1), (2, .int (nI a)), (3, .int (nI b)), (4, .int (c_cmp (w (34 + a)) (w (34 + b)))), (5, .int x)] [] τ := by
    intro k
    induction k with
    | zero =>
      intro i x τ u hi hx hf hτ hv2 hb2 ha3 hb3 h00 he
      obtain rfl : i = 201 := by omega
      subst hx
      refine rx_iload (i := 5) X dX4_meeting_40 rfl ?_
      refine rx_sipush (v := 200) X dX4_meeting_42 (by decide) ?_
      refine rx_icmp_gt_t X dX4_meeting_45 (by decide) ?_
      refine rx_ldc X dX4_meeting_132 kcX4_60 ?_
      refine rx_iret X dX4_meeting_134 ?_
      exact ⟨by rw [he, cm2_0], hf, hτ.1⟩
    | succ k ih =>
      intro i x τ u hi hx hf hτ hv2 hb2 ha3 hb3 h00 he
      subst hx
      refine rx_iload (i := 5) X dX4_meeting_40 rfl ?_
      refine rx_sipush (v := 200) X dX4_meeting_42 (by decide) ?_
      refine rx_icmp_gt_f X dX4_meeting_45 (nI_ngt (b := 200) (by omega) (by decide)) ?_
      refine rx_aload_n (i := 0) X dX4_meeting_48 rfl rfl ?_
      refine rx_getR (ci := 4) (i := 0) X (kc_242 hO) rfl rfl (by decide) inX4 flX4_12 dX4_meeting_49 ?_
      refine rx_getR (ci := 3) (i := 5) X (kb_0 hO cb_B243) rfl rfl (by decide) inX3 flX4_43 dX4_meeting_52 ?_
      refine rx_iload_n (i := 2) X dX4_meeting_55 rfl rfl ?_
      refine rx_aaldN (j := a) X (kb_2 hO cb_B243) hO.2.2.2.2.2.1 rfl ha (by decide) (kb_el ha) dX4_meeting_56 ?_
      refine rx_getI (ci := 1) (i := 4) X (kb_a hO cb_B243 ha) rfl rfl (by decide) inX1 flX4_47 dX4_meeting_57 ?_
      refine rx_top (hτ.2.2 a ha ha3 (Or.inl rfl)).2.2.2.2.1 ?_
      refine rx_aload_n (i := 0) X dX4_meeting_60 rfl rfl ?_
      refine rx_getR (ci := 4) (i := 0) X (kc_242 hO) rfl rfl (by decide) inX4 flX4_12 dX4_meeting_61 ?_
      refine rx_getR (ci := 3) (i := 5) X (kb_0 hO cb_B243) rfl rfl (by decide) inX3 flX4_43 dX4_meeting_64 ?_
      refine rx_iload_n (i := 3) X dX4_meeting_67 rfl rfl ?_
      refine rx_aaldN (j := b) X (kb_2 hO cb_B243) hO.2.2.2.2.2.1 rfl hb6 (by decide) (kb_el hb6) dX4_meeting_68 ?_
      refine rx_getI (ci := 1) (i := 4) X (kb_a hO cb_B243 hb6) rfl rfl (by decide) inX1 flX4_47 dX4_meeting_69 ?_
      refine rx_top (hτ.2.2 b hb6 hb3 (Or.inr rfl)).2.2.2.2.1 ?_
      refine rx_callTi X vsJ6_compare_7cf53 mlX4_61 (kJ6_compare_7cf53 hO) rfl (by decide) (by decide) dX4_meeting_72 rfl (Nat.le_of_ble_eq_true rfl) (fun r72 t72 h72 => ?_)
      obtain ⟨rfl, rfl⟩ := h72
      refine rx_istore (i := 6) (lo2 := [(0, .ref _), (1, .ref _), (2, .int _), (3, .int _), (4, .int _), (5, .int _), (6, .int _)]) X dX4_meeting_75 (by decide) rfl ?_
      refine rx_iload (i := 6) X dX4_meeting_77 rfl ?_
      refine rx_if_eq X dX4_meeting_79 (fun h79 => ?_) (fun h79 => ?_)
      · refine rx_iload (i := 5) X dX4_meeting_89 rfl ?_
        refine rx_iret X dX4_meeting_91 ?_
        refine ⟨?_, hf, hτ.1⟩
        rw [he]
        exact cm2_e ((cm_iff h00).mp (Or.inl h79))
      · refine rx_iload (i := 6) X dX4_meeting_82 rfl ?_
        refine rx_iload (i := 4) X dX4_meeting_84 rfl ?_
        refine rx_icmp_eq X dX4_meeting_86 (fun h86 => ?_) (fun h86 => ?_)
        · refine rx_aload_n (i := 0) X dX4_meeting_92 rfl rfl ?_
          refine rx_getR (ci := 4) (i := 0) X (kc_242 hO) rfl rfl (by decide) inX4 flX4_12 dX4_meeting_93 ?_
          refine rx_getR (ci := 3) (i := 5) X (kb_0 hO cb_B243) rfl rfl (by decide) inX3 flX4_43 dX4_meeting_96 ?_
          refine rx_iload_n (i := 3) X dX4_meeting_99 rfl rfl ?_
          refine rx_aaldN (j := b) X (kb_2 hO cb_B243) hO.2.2.2.2.2.1 rfl hb6 (by decide) (kb_el hb6) dX4_meeting_100 ?_
          refine rx_aload_n (i := 0) X dX4_meeting_101 rfl rfl ?_
          refine rx_getR (ci := 4) (i := 0) X (kc_242 hO) rfl rfl (by decide) inX4 flX4_12 dX4_meeting_102 ?_
          refine rx_getI (ci := 3) (i := 1) X (kb_0 hO cb_B243) rfl rfl (by decide) inX3 flX4_66 dX4_meeting_105 ?_
          refine rx_top hτ.2.1.1.2.1 ?_
          refine rx_aload_n (i := 0) X dX4_meeting_108 rfl rfl ?_
          refine rx_getR (ci := 4) (i := 0) X (kc_242 hO) rfl rfl (by decide) inX4 flX4_12 dX4_meeting_109 ?_
          refine rx_getI (ci := 3) (i := 0) X (kb_0 hO cb_B243) rfl rfl (by decide) inX3 flX4_69 dX4_meeting_112 ?_
          refine rx_top hτ.2.1.1.1 ?_
          refine rx_callVv (ci := 1) X vsX1_go mlX4_72 (kX1_go hO (kb_a hO cb_B243 hb6)) (kb_a hO cb_B243 hb6) rfl rfl (by decide) (by decide) dX4_meeting_115 rfl (Nat.le_of_ble_eq_true rfl) (fun t115 h115 => ?_)
          subst h115
          have hg := hτ.go hb6 (Or.inr rfl) hb3 (hv2.2.2.2.2.2 b hb3) hv2.1.1 hb2
          refine rx_aload_n (i := 0) X dX4_meeting_118 rfl rfl ?_
          refine rx_getR (ci := 4) (i := 0) X (kc_242 hO) rfl rfl (by decide) inX4 flX4_12 dX4_meeting_119 ?_
          refine rx_iload_n (i := 2) X dX4_meeting_122 rfl rfl ?_
          refine rx_callVv (ci := 3) X vsX3_passMinuteOf mlX4_40 (kX3_passMinuteOf (P := fun c => c = a ∨ c = b) hO cb_B243 hg (mt_V hv2 hb6 (hv2.2.2.2.2.2 b hb3)) (w_B_g1 hb2 hb6) ha (by rw [w_g1_n (by omega) (by omega)]; exact ha3) (Or.inl rfl)) (kb_0 hO cb_B243) rfl rfl (by decide) (by decide) dX4_meeting_123 rfl (Nat.le_of_ble_eq_true rfl) (fun t123 h123 => ?_)
          obtain ⟨h123f, h123⟩ := h123
          rw [w_in_g1 hv2.2.2.1] at h123
          have hm : cb_R (fun c => c = a ∨ c = b) t123 243 (w_one (-1) u) := h123.both (sp := -1) ha hb6 hab ha3 hb3 hv2.n3.2 hb2 (w_B_g1 hb2 hb6) (nI_m1 a ha) (nI_m1 b hb6)
          refine rx_iinc (i := 5) (lo2 := [(0, .ref _), (1, .ref _), (2, .int _), (3, .int _), (4, .int _), (5, .int _), (6, .int _)]) X dX4_meeting_126 rfl (rx_inc1 _) (by decide) rfl ?_
          refine rx_goto X dX4_meeting_129 ?_
          refine (rx_less [0, 1, 2, 3, 4, 5] rfl) ?_
          refine ih (i + 1) _ _ _ (by omega) (nI_1 i) ((hf.ua (by omega) (by omega)).trans h123f) hm (w_V_one (K := 999 + i) (by omega) hv2) (w_B_one hb2 hv2) (by rw [w_one_n3]; exact ha3) (by rw [w_one_n3]; exact hb3) (fun q => absurd (h86.trans q) h79) ?_
          rw [he]
          exact cm2_s (fun q => ((cm_iff h00).mpr q).elim h79 (fun z => z h86))
        · refine rx_iload (i := 5) X dX4_meeting_89 rfl ?_
          refine rx_iret X dX4_meeting_91 ?_
          refine ⟨?_, hf, hτ.1⟩
          rw [he]
          exact cm2_e ((cm_iff h00).mp (Or.inr h86))
  refine rx_aload_n (i := 0) X dX4_meeting_0 rfl rfl ?_
  refine rx_getR (ci := 4) (i := 0) X (kc_242 hO) rfl rfl (by decide) inX4 flX4_12 dX4_meeting_1 ?_
  refine rx_aload_n (i := 1) X dX4_meeting_4 rfl rfl ?_
  refine rx_callVv (ci := 3) X vsX3_takeFrom mlX4_28 (kX3_tf hO hw (cb_fr.rfl' 243 σ)) (kb_0 hO cb_B243) rfl rfl (by decide) (by decide) dX4_meeting_5 rfl (Nat.le_of_ble_eq_true rfl) (fun t5 h5 => ?_)
  obtain ⟨h5f, h5⟩ := h5
  refine rx_aload_n (i := 0) X dX4_meeting_8 rfl rfl ?_
  refine rx_getR (ci := 4) (i := 0) X (kc_242 hO) rfl rfl (by decide) inX4 flX4_12 dX4_meeting_9 ?_
  refine rx_getR (ci := 3) (i := 5) X (kb_0 hO cb_B243) rfl rfl (by decide) inX3 flX4_43 dX4_meeting_12 ?_
  refine rx_iload_n (i := 2) X dX4_meeting_15 rfl rfl ?_
  refine rx_aaldN (j := a) X (kb_2 hO cb_B243) hO.2.2.2.2.2.1 rfl ha (by decide) (kb_el ha) dX4_meeting_16 ?_
  refine rx_getI (ci := 1) (i := 4) X (kb_a hO cb_B243 ha) rfl rfl (by decide) inX1 flX4_47 dX4_meeting_17 ?_
  refine rx_top (h5.2.2 a ha ha3 trivial).2.2.2.2.1 ?_
  refine rx_aload_n (i := 0) X dX4_meeting_20 rfl rfl ?_
  refine rx_getR (ci := 4) (i := 0) X (kc_242 hO) rfl rfl (by decide) inX4 flX4_12 dX4_meeting_21 ?_
  refine rx_getR (ci := 3) (i := 5) X (kb_0 hO cb_B243) rfl rfl (by decide) inX3 flX4_43 dX4_meeting_24 ?_
  refine rx_iload_n (i := 3) X dX4_meeting_27 rfl rfl ?_
  refine rx_aaldN (j := b) X (kb_2 hO cb_B243) hO.2.2.2.2.2.1 rfl hb6 (by decide) (kb_el hb6) dX4_meeting_28 ?_
  refine rx_getI (ci := 1) (i := 4) X (kb_a hO cb_B243 hb6) rfl rfl (by decide) inX1 flX4_47 dX4_meeting_29 ?_
  refine rx_top (h5.2.2 b hb6 hb3 trivial).2.2.2.2.1 ?_
  refine rx_callTi X vsJ6_compare_7cf53 mlX4_61 (kJ6_compare_7cf53 hO) rfl (by decide) (by decide) dX4_meeting_32 rfl (Nat.le_of_ble_eq_true rfl) (fun r32 t32 h32 => ?_)
  obtain ⟨rfl, rfl⟩ := h32
  refine rx_istore (i := 4) (lo2 := [(0, .ref _), (1, .ref _), (2, .int _), (3, .int _), (4, .int _)]) X dX4_meeting_35 (by decide) rfl ?_
  refine rx_iconst (v := 0) X dX4_meeting_37 (by decide) ?_
  refine rx_istore (i := 5) (lo2 := [(0, .ref _), (1, .ref _), (2, .int _), (3, .int _), (4, .int _), (5, .int _)]) X dX4_meeting_38 (by decide) rfl ?_
  refine loop 201 0 _ _ _ (by omega) rfl h5f (h5.less (fun _ _ => trivial)) hv hb ha3 hb3 id ?_
  unfold cm2
  rw [cm_meet, cm_meet]
set_option maxHeartbeats 1000000 in
set_option maxRecDepth 100000 in
theorem kX4_halfCrossed {l : Launch} {O : rx_O} (hO : cb_O O) {σ : rx_S} {a : Nat} {w : Nat → Int32} (hw : cb_R cb_T σ 1 w) (hv : w_V 999 w) (hb : w_B w) (ha : a < 6) (ha3 : a < rx_N (w 3)) : rx_MI l O yX4_halfCrossed cX4_halfCrossed 6 (some .int) 4 [.ref 242, .ref 1, .int (nI a)] σ (fun r τ => w_half (-1) a (decide (w (34 + a) < 500000)) 200 0 w = r ∧ cb_fr 243 σ τ ∧ cb_bo τ 243) := by
  refine rx_Met_of (own := RX4) rfl hO.2.1 vsX4_halfCrossed.2.2.2.2.2 (Nat.le_of_ble_eq_true rfl) rfl (fun p e s m args below meth c X => ?_)
  have loop : ∀ (k : Nat) (i : Nat) (x : Int32) (τ : rx_S) (u : Nat → Int32), (i + k = 201) → (x = nI i) → (cb_fr 243 σ τ) → (cb_R (fun c => c = a) τ 243 u) → (w_V (999 + i) u) → (w_B u) → (a < rx_N (u 3)) → (c_cmp (w (34 + a)) 500000 = 0 → c_cmp (u (34 + a)) 500000 = 0) → (w_half (-1) a (decide (w (34 + a) < 500000)) 200 0 w = ch a (decide (w (34 + a) < 500000)) k i u) → rx_J O 6 p l e (rx_lv 4) s m args below meth c (rx_QI O below args s (fun r τ => w_half (-1) a (decide (w (34 + a) < 500000)) 200 0 w = r ∧ cb_fr 243 σ τ ∧ cb_bo τ 243)) 29 [(0, .ref 242), (1, .ref 1), (2, .int (nI a)), (3, .int (c_cmp (w (34 + a)) 500000)), (4, .int x)] [] τ := by
    intro k
    induction k with
    | zero =>
      intro i x τ u hi hx hf hτ hv2 hb2 ha3 h00 he
      obtain rfl : i = 201 := by omega
      subst hx
      refine rx_iload (i := 4) X dX4_halfCrossed_29 rfl ?_
      refine rx_sipush (v := 200) X dX4_halfCrossed_31 (by decide) ?_
      refine rx_icmp_gt_t X dX4_halfCrossed_34 (by decide) ?_
      refine rx_ldc X dX4_halfCrossed_84 kcX4_60 ?_
      refine rx_iret X dX4_halfCrossed_86 ?_
      exact ⟨by rw [he]; rfl, hf, hτ.1⟩
    | succ k ih =>
      intro i x τ u hi hx hf hτ hv2 hb2 ha3 h00 he
      subst hx
      refine rx_iload (i := 4) X dX4_halfCrossed_29 rfl ?_
      refine rx_sipush (v := 200) X dX4_halfCrossed_31 (by decide) ?_
      refine rx_icmp_gt_f X dX4_halfCrossed_34 (nI_ngt (b := 200) (by omega) (by decide)) ?_
      refine rx_aload_n (i := 0) X dX4_halfCrossed_37 rfl rfl ?_
      refine rx_getR (ci := 4) (i := 0) X (kc_242 hO) rfl rfl (by decide) inX4 flX4_12 dX4_halfCrossed_38 ?_
      refine rx_getR (ci := 3) (i := 5) X (kb_0 hO cb_B243) rfl rfl (by decide) inX3 flX4_43 dX4_halfCrossed_41 ?_
      refine rx_iload_n (i := 2) X dX4_halfCrossed_44 rfl rfl ?_
      refine rx_aaldN (j := a) X (kb_2 hO cb_B243) hO.2.2.2.2.2.1 rfl ha (by decide) (kb_el ha) dX4_halfCrossed_45 ?_
      refine rx_getI (ci := 1) (i := 4) X (kb_a hO cb_B243 ha) rfl rfl (by decide) inX1 flX4_47 dX4_halfCrossed_46 ?_
      refine rx_top (hτ.2.2 a ha ha3 rfl).2.2.2.2.1 ?_
      refine rx_ldc X dX4_halfCrossed_49 kcX4_76 ?_
      refine rx_callTi X vsJ6_compare_7cf53 mlX4_61 (kJ6_compare_7cf53 hO) rfl (by decide) (by decide) dX4_halfCrossed_51 rfl (Nat.le_of_ble_eq_true rfl) (fun r51 t51 h51 => ?_)
      obtain ⟨rfl, rfl⟩ := h51
      refine rx_istore (i := 5) (lo2 := [(0, .ref _), (1, .ref _), (2, .int _), (3, .int _), (4, .int _), (5, .int _)]) X dX4_halfCrossed_54 (by decide) rfl ?_
      refine rx_iload (i := 5) X dX4_halfCrossed_56 rfl ?_
      refine rx_if_eq X dX4_halfCrossed_58 (fun h58 => ?_) (fun h58 => ?_)
      · refine rx_iload (i := 4) X dX4_halfCrossed_67 rfl ?_
        refine rx_iret X dX4_halfCrossed_69 ?_
        refine ⟨?_, hf, hτ.1⟩
        rw [he]
        exact if_pos ((ch_iff h00).mp (Or.inl h58))
      · refine rx_iload (i := 5) X dX4_halfCrossed_61 rfl ?_
        refine rx_iload_n (i := 3) X dX4_halfCrossed_63 rfl rfl ?_
        refine rx_icmp_eq X dX4_halfCrossed_64 (fun h64 => ?_) (fun h64 => ?_)
        · refine rx_aload_n (i := 0) X dX4_halfCrossed_70 rfl rfl ?_
          refine rx_getR (ci := 4) (i := 0) X (kc_242 hO) rfl rfl (by decide) inX4 flX4_12 dX4_halfCrossed_71 ?_
          refine rx_iload_n (i := 2) X dX4_halfCrossed_74 rfl rfl ?_
          refine rx_callVv (ci := 3) X vsX3_passMinuteOf mlX4_40 (kX3_pmo hO cb_B243 hτ hv2 hb2 ha ha3) (kb_0 hO cb_B243) rfl rfl (by decide) (by decide) dX4_halfCrossed_75 rfl (Nat.le_of_ble_eq_true rfl) (fun t75 h75 => ?_)
          obtain ⟨h75f, h75⟩ := h75
          refine rx_iinc (i := 4) (lo2 := [(0, .ref _), (1, .ref _), (2, .int _), (3, .int _), (4, .int _), (5, .int _)]) X dX4_halfCrossed_78 rfl (rx_inc1 _) (by decide) rfl ?_
          refine rx_goto X dX4_halfCrossed_81 ?_
          refine (rx_less [0, 1, 2, 3, 4] rfl) ?_
          refine ih (i + 1) _ _ _ (by omega) (nI_1 i) (hf.trans h75f) h75 (w_V_one (K := 999 + i) (by omega) hv2) (w_B_one hb2 hv2) (by rw [w_one_n3]; exact ha3) (fun q => absurd (h64.trans q) h58) ?_
          rw [he]
          exact if_neg (fun q => ((ch_iff h00).mpr q).elim h58 (fun z => z h64))
        · refine rx_iload (i := 4) X dX4_halfCrossed_67 rfl ?_
          refine rx_iret X dX4_halfCrossed_69 ?_
          refine ⟨?_, hf, hτ.1⟩
          rw [he]
          exact if_pos ((ch_iff h00).mp (Or.inr h64))
  refine rx_aload_n (i := 0) X dX4_halfCrossed_0 rfl rfl ?_
  refine rx_getR (ci := 4) (i := 0) X (kc_242 hO) rfl rfl (by decide) inX4 flX4_12 dX4_halfCrossed_1 ?_
  refine rx_aload_n (i := 1) X dX4_halfCrossed_4 rfl rfl ?_
  refine rx_callVv (ci := 3) X vsX3_takeFrom mlX4_28 (kX3_tf hO hw (cb_fr.rfl' 243 σ)) (kb_0 hO cb_B243) rfl rfl (by decide) (by decide) dX4_halfCrossed_5 rfl (Nat.le_of_ble_eq_true rfl) (fun t5 h5 => ?_)
  obtain ⟨h5f, h5⟩ := h5
  refine rx_aload_n (i := 0) X dX4_halfCrossed_8 rfl rfl ?_
  refine rx_getR (ci := 4) (i := 0) X (kc_242 hO) rfl rfl (by decide) inX4 flX4_12 dX4_halfCrossed_9 ?_
  refine rx_getR (ci := 3) (i := 5) X (kb_0 hO cb_B243) rfl rfl (by decide) inX3 flX4_43 dX4_halfCrossed_12 ?_
  refine rx_iload_n (i := 2) X dX4_halfCrossed_15 rfl rfl ?_
  refine rx_aaldN (j := a) X (kb_2 hO cb_B243) hO.2.2.2.2.2.1 rfl ha (by decide) (kb_el ha) dX4_halfCrossed_16 ?_
  refine rx_getI (ci := 1) (i := 4) X (kb_a hO cb_B243 ha) rfl rfl (by decide) inX1 flX4_47 dX4_halfCrossed_17 ?_
  refine rx_top (h5.2.2 a ha ha3 trivial).2.2.2.2.1 ?_
  refine rx_ldc X dX4_halfCrossed_20 kcX4_76 ?_
  refine rx_callTi X vsJ6_compare_7cf53 mlX4_61 (kJ6_compare_7cf53 hO) rfl (by decide) (by decide) dX4_halfCrossed_22 rfl (Nat.le_of_ble_eq_true rfl) (fun r22 t22 h22 => ?_)
  obtain ⟨rfl, rfl⟩ := h22
  refine rx_istore_n (i := 3) (lo2 := [(0, .ref _), (1, .ref _), (2, .int _), (3, .int _)]) X dX4_halfCrossed_25 rfl (by decide) rfl ?_
  refine rx_iconst (v := 0) X dX4_halfCrossed_26 (by decide) ?_
  refine rx_istore (i := 4) (lo2 := [(0, .ref _), (1, .ref _), (2, .int _), (3, .int _), (4, .int _)]) X dX4_halfCrossed_27 (by decide) rfl ?_
  exact loop 201 0 _ _ _ (by omega) rfl h5f (h5.less (fun _ _ => trivial)) hv hb ha3 id ch_half.symm
set_option maxHeartbeats 1000000 in
set_option maxRecDepth 100000 in
theorem kX4_leastStep {l : Launch} {O : rx_O} (hO : cb_O O) {σ : rx_S} {n a : Nat} {w : Nat → Int32} (hw : cb_R cb_T σ 1 w) (hv : w_V 999 w) (hb : w_B w) (hn : n < 500) (ha : a < 6) (ha3 : a < rx_N (w 3)) (hbo : cb_bo σ 243) : rx_MI l O yX4_leastStep cX4_leastStep 5 (some .int) 5 [.ref 242, .ref 1, .int (nI a), .int (nI n)] σ (fun r τ => w_fast (-1) a n w 20 1 = r ∧ cb_fr 243 σ τ ∧ cb_bo τ 243) := by
  refine rx_Met_of (own := RX4) rfl hO.2.1 vsX4_leastStep.2.2.2.2.2 (Nat.le_of_ble_eq_true rfl) rfl (fun p e s m args below meth c X => ?_)
  have loop : ∀ (k : Nat) (i : Nat) (x : Int32) (τ : rx_S), (i + k = 21) → (1 ≤ i) → (x = nI i) → (cb_fr 243 σ τ) → (cb_bo τ 243) → (w_fast (-1) a n w 20 1 = w_fast (-1) a n w k i) → rx_J O 5 p l e (rx_lv 5) s m args below meth c (rx_QI O below args s (fun r τ => w_fast (-1) a n w 20 1 = r ∧ cb_fr 243 σ τ ∧ cb_bo τ 243)) 3 [(0, .ref 242), (1, .ref 1), (2, .int (nI a)), (3, .int (nI n)), (4, .int x)] [] τ := by
    intro k
    induction k with
    | zero =>
      intro i x τ hi h1 hx hf hbo he
      obtain rfl : i = 21 := by omega
      subst hx
      refine rx_iload (i := 4) X dX4_leastStep_3 rfl ?_
      refine rx_bipush (v := 20) X dX4_leastStep_5 (by decide) ?_
      refine rx_icmp_gt_t X dX4_leastStep_7 (by decide) ?_
      refine rx_ldc X dX4_leastStep_52 kcX4_60 ?_
      refine rx_iret X dX4_leastStep_54 ?_
      exact ⟨by rw [he]; rfl, hf, hbo⟩
    | succ k ih =>
      intro i x τ hi h1 hx hf hbo he
      subst hx
      refine rx_iload (i := 4) X dX4_leastStep_3 rfl ?_
      refine rx_bipush (v := 20) X dX4_leastStep_5 (by decide) ?_
      refine rx_icmp_gt_f X dX4_leastStep_7 (nI_ngt (b := 20) (by omega) (by decide)) ?_
      refine rx_aload_n (i := 0) X dX4_leastStep_10 rfl rfl ?_
      refine rx_getR (ci := 4) (i := 0) X (kc_242 hO) rfl rfl (by decide) inX4 flX4_12 dX4_leastStep_11 ?_
      refine rx_aload_n (i := 1) X dX4_leastStep_14 rfl rfl ?_
      refine rx_callVv (ci := 3) X vsX3_takeFrom mlX4_28 (kX3_tf hO hw hf) (kb_0 hO cb_B243) rfl rfl (by decide) (by decide) dX4_leastStep_15 rfl (Nat.le_of_ble_eq_true rfl) (fun t15 h15 => ?_)
      obtain ⟨h15f, h15⟩ := h15
      refine rx_aload_n (i := 0) X dX4_leastStep_18 rfl rfl ?_
      refine rx_getR (ci := 4) (i := 0) X (kc_242 hO) rfl rfl (by decide) inX4 flX4_12 dX4_leastStep_19 ?_
      refine rx_getR (ci := 3) (i := 5) X (kb_0 hO cb_B243) rfl rfl (by decide) inX3 flX4_43 dX4_leastStep_22 ?_
      refine rx_iload_n (i := 2) X dX4_leastStep_25 rfl rfl ?_
      refine rx_aaldN (j := a) X (kb_2 hO cb_B243) hO.2.2.2.2.2.1 rfl ha (by decide) (kb_el ha) dX4_leastStep_26 ?_
      refine rx_iload (i := 4) X dX4_leastStep_27 rfl ?_
      refine rx_putI (ci := 1) (i := 1) X (kb_a hO cb_B243 ha) rfl rfl (by decide) inX1 tyX1 tyX1_ok nmX1 flX4_77 rfl rfl dX4_leastStep_29 ?_
      refine rx_aload_n (i := 0) X dX4_leastStep_32 rfl rfl ?_
      refine rx_iload_n (i := 2) X dX4_leastStep_33 rfl rfl ?_
      refine rx_iload_n (i := 3) X dX4_leastStep_34 rfl rfl ?_
      have hset := (h15.step (v := nI i) ha).less (Q := fun b => b = a) (fun _ _ => trivial)
      have hV := w_V_upd16 (v := nI i) hv ha (by rw [nI_toInt (by omega)]; omega)
      have hBs := w_B_upd (v := nI i) hb (show 16 + a ≠ 4 by omega)
      refine rx_callVi (ci := 4) X vsX4_arrivalOnward mlX4_53 (kX4_arrivalOnward hO hset hV hBs (by omega) (by omega) ha (by rw [upd_n (by omega)]; exact ha3)) (kc_242 hO) rfl rfl (by decide) (by decide) dX4_leastStep_35 rfl (Nat.le_of_ble_eq_true rfl) (fun r35 t35 h35 => ?_)
      obtain ⟨rfl, h35f, h35b⟩ := h35
      refine rx_ldc X dX4_leastStep_38 kcX4_60 ?_
      refine rx_icmp_eq X dX4_leastStep_40 (fun h40 => ?_) (fun h40 => ?_)
      · refine rx_iinc (i := 4) (lo2 := [(0, .ref _), (1, .ref _), (2, .int _), (3, .int _), (4, .int _)]) X dX4_leastStep_46 rfl (rx_inc1 _) (by decide) rfl ?_
        refine rx_goto X dX4_leastStep_49 ?_
        refine ih (i + 1) _ _ (by omega) (by omega) (nI_1 i) ((h15f.u1 (by omega) (by omega)).trans h35f) h35b ?_
        rw [he, w_fast, if_neg ((w_arr_iff ha (by omega) (by omega) hV hBs).mp h40)]
      · refine rx_iload (i := 4) X dX4_leastStep_43 rfl ?_
        refine rx_iret X dX4_leastStep_45 ?_
        refine ⟨?_, (h15f.u1 (by omega) (by omega)).trans h35f, h35b⟩
        rw [he, w_fast, if_pos (Decidable.of_not_not (fun q => h40 ((w_arr_iff ha (by omega) (by omega) hV hBs).mpr q)))]
  refine rx_iconst (v := 1) X dX4_leastStep_0 (by decide) ?_
  refine rx_istore (i := 4) (lo2 := [(0, .ref _), (1, .ref _), (2, .int _), (3, .int _), (4, .int _)]) X dX4_leastStep_1 (by decide) rfl ?_
  exact loop 20 1 _ σ rfl (by omega) rfl (cb_fr.rfl' 243 σ) hbo rfl
set_option maxHeartbeats 1000000 in
set_option maxRecDepth 100000 in
theorem kX4_bestRest {l : Launch} {O : rx_O} (hO : cb_O O) {σ : rx_S} {n a : Nat} {w : Nat → Int32} (hw : cb_R cb_T σ 1 w) (hv : w_V 999 w) (hb : w_B w) (hn : n < 1000) (ha : a < 6) (ha3 : a < rx_N (w 3)) (hbo : cb_bo σ 243) : rx_MI l O yX4_bestRest cX4_bestRest 8 (some .int) 5 [.ref 242, .ref 1, .int (nI a), .int (nI n)] σ (fun r τ => (w_restL (-1) a n w 9).1 = r ∧ cb_fr 243 σ τ ∧ cb_bo τ 243) := by
  refine rx_Met_of (own := RX4) rfl hO.2.1 vsX4_bestRest.2.2.2.2.2 (Nat.le_of_ble_eq_true rfl) rfl (fun p e s m args below meth c X => ?_)
  have loop : ∀ (k : Nat) (i : Nat) (x be gr : Int32) (τ : rx_S), (i + k = 9) → (x = nI (i + 1)) → (cb_fr 243 σ τ) → (cb_bo τ 243) → (¬ i = 0 → be = (w_restL (-1) a n w i).1) → (gr = (w_restL (-1) a n w i).2) → rx_J O 8 p l e (rx_lv 5) s m args below meth c (rx_QI O below args s (fun r τ => (w_restL (-1) a n w 9).1 = r ∧ cb_fr 243 σ τ ∧ cb_bo τ 243)) 9 [(0, .ref 242), (1, .ref 1), (2, .int (nI a)), (3, .int (nI n)), (4, .int be), (5, .int gr), (6, .int x)] [] τ := by
    intro k
    induction k with
    | zero =>
      intro i x be gr τ hi hx hf hbo hB1 hG
      obtain rfl : i = 9 := by omega
      subst hx
      refine rx_iload (i := 6) X dX4_bestRest_9 rfl ?_
      refine rx_bipush (v := 9) X dX4_bestRest_11 (by decide) ?_
      refine rx_icmp_gt_t X dX4_bestRest_13 (by decide) ?_
      refine rx_iload (i := 4) X dX4_bestRest_67 rfl ?_
      refine rx_iret X dX4_bestRest_69 ?_
      exact ⟨(hB1 (by omega)).symm, hf, hbo⟩
    | succ k ih =>
      intro i x be gr τ hi hx hf hbo hB1 hG
      subst hx
      refine rx_iload (i := 6) X dX4_bestRest_9 rfl ?_
      refine rx_bipush (v := 9) X dX4_bestRest_11 (by decide) ?_
      refine rx_icmp_gt_f X dX4_bestRest_13 (nI_ngt (b := 9) (by omega) (by decide)) ?_
      refine rx_aload_n (i := 0) X dX4_bestRest_16 rfl rfl ?_
      refine rx_getR (ci := 4) (i := 0) X (kc_242 hO) rfl rfl (by decide) inX4 flX4_12 dX4_bestRest_17 ?_
      refine rx_aload_n (i := 1) X dX4_bestRest_20 rfl rfl ?_
      refine rx_callVv (ci := 3) X vsX3_takeFrom mlX4_28 (kX3_tf hO hw hf) (kb_0 hO cb_B243) rfl rfl (by decide) (by decide) dX4_bestRest_21 rfl (Nat.le_of_ble_eq_true rfl) (fun t21 h21 => ?_)
      obtain ⟨h21f, h21⟩ := h21
      refine rx_aload_n (i := 0) X dX4_bestRest_24 rfl rfl ?_
      refine rx_getR (ci := 4) (i := 0) X (kc_242 hO) rfl rfl (by decide) inX4 flX4_12 dX4_bestRest_25 ?_
      refine rx_getR (ci := 3) (i := 5) X (kb_0 hO cb_B243) rfl rfl (by decide) inX3 flX4_43 dX4_bestRest_28 ?_
      refine rx_iload_n (i := 2) X dX4_bestRest_31 rfl rfl ?_
      refine rx_aaldN (j := a) X (kb_2 hO cb_B243) hO.2.2.2.2.2.1 rfl ha (by decide) (kb_el ha) dX4_bestRest_32 ?_
      refine rx_iload (i := 6) X dX4_bestRest_33 rfl ?_
      refine rx_putI (ci := 1) (i := 3) X (kb_a hO cb_B243 ha) rfl rfl (by decide) inX1 tyX1 tyX1_ok nmX1 flX4_86 rfl rfl dX4_bestRest_35 ?_
      refine rx_aload_n (i := 0) X dX4_bestRest_38 rfl rfl ?_
      refine rx_iload_n (i := 2) X dX4_bestRest_39 rfl rfl ?_
      refine rx_iload_n (i := 3) X dX4_bestRest_40 rfl rfl ?_
      have hset := (h21.rest (v := nI (i + 1)) ha).less (Q := fun b => b = a) (fun _ _ => trivial)
      have hV := w_V_upd28 (v := nI (i + 1)) hv ha (by rw [nI_toInt (by omega)]; omega)
      have hBs := w_B_upd (v := nI (i + 1)) hb (show 28 + a ≠ 4 by omega)
      have hon := (w_V_on (sp := -1) (n := n) (by omega) hV).2.2.2.2.2 a (by rw [w_on_3 (by omega) hV, upd_n (by omega)]; exact ha3)
      refine rx_callVi (ci := 4) X vsX4_partOnward mlX4_36 (kX4_partOnward hO hset hV hBs hn (by omega) ha (by rw [upd_n (by omega)]; exact ha3)) (kc_242 hO) rfl rfl (by decide) (by decide) dX4_bestRest_41 rfl (Nat.le_of_ble_eq_true rfl) (fun r41 t41 h41 => ?_)
      obtain ⟨rfl, h41f, h41b⟩ := h41
      refine rx_istore (i := 7) (lo2 := [(0, .ref _), (1, .ref _), (2, .int _), (3, .int _), (4, .int _), (5, .int _), (6, .int _), (7, .int _)]) X dX4_bestRest_44 (by decide) rfl ?_
      refine rx_iload (i := 7) X dX4_bestRest_46 rfl ?_
      refine rx_iload (i := 5) X dX4_bestRest_48 rfl ?_
      refine rx_icmp_le X dX4_bestRest_50 (fun h50 => ?_) (fun h50 => ?_)
      · refine rx_iinc (i := 6) (lo2 := [(0, .ref _), (1, .ref _), (2, .int _), (3, .int _), (4, .int _), (5, .int _), (6, .int _), (7, .int _)]) X dX4_bestRest_61 rfl (rx_inc1 _) (by decide) rfl ?_
        refine rx_goto X dX4_bestRest_64 ?_
        refine (rx_less [0, 1, 2, 3, 4, 5, 6] rfl) ?_
        refine ih (i + 1) _ _ _ _ (by omega) (nI_1 (i + 1)) ((h21f.u1 (by omega) (by omega)).trans h41f) h41b (fun _ => ?_) ?_
        · have h0 : ¬ i = 0 := by
            intro q
            subst q
            rw [hG] at h50
            have z := Int32.le_iff_toInt_le.mp h50
            have z2 : (w_restL (-1) a n w 0).2.toInt = -1 := rfl
            have z3 := hon.2.2.2.2.1
            omega
          rw [w_restL, if_neg (by rw [← hG]; exact Int32.not_lt.mpr h50)]
          exact hB1 h0
        · rw [w_restL, if_neg (by rw [← hG]; exact Int32.not_lt.mpr h50)]
          exact hG
      · refine rx_iload (i := 7) X dX4_bestRest_53 rfl ?_
        refine rx_istore (i := 5) (lo2 := [(0, .ref _), (1, .ref _), (2, .int _), (3, .int _), (4, .int _), (5, .int _), (6, .int _), (7, .int _)]) X dX4_bestRest_55 (by decide) rfl ?_
        refine rx_iload (i := 6) X dX4_bestRest_57 rfl ?_
        refine rx_istore (i := 4) (lo2 := [(0, .ref _), (1, .ref _), (2, .int _), (3, .int _), (4, .int _), (5, .int _), (6, .int _), (7, .int _)]) X dX4_bestRest_59 (by decide) rfl ?_
        refine rx_iinc (i := 6) (lo2 := [(0, .ref _), (1, .ref _), (2, .int _), (3, .int _), (4, .int _), (5, .int _), (6, .int _), (7, .int _)]) X dX4_bestRest_61 rfl (rx_inc1 _) (by decide) rfl ?_
        refine rx_goto X dX4_bestRest_64 ?_
        refine (rx_less [0, 1, 2, 3, 4, 5, 6] rfl) ?_
        refine ih (i + 1) _ _ _ _ (by omega) (nI_1 (i + 1)) ((h21f.u1 (by omega) (by omega)).trans h41f) h41b (fun _ => ?_) ?_
        · rw [w_restL, if_pos (by rw [← hG]; exact Int32.not_le.mp h50)]
        · rw [w_restL, if_pos (by rw [← hG]; exact Int32.not_le.mp h50)]
  refine rx_iconst (v := 1) X dX4_bestRest_0 (by decide) ?_
  refine rx_istore (i := 4) (lo2 := [(0, .ref _), (1, .ref _), (2, .int _), (3, .int _), (4, .int _)]) X dX4_bestRest_1 (by decide) rfl ?_
  refine rx_iconst (v := -1) X dX4_bestRest_3 (by decide) ?_
  refine rx_istore (i := 5) (lo2 := [(0, .ref _), (1, .ref _), (2, .int _), (3, .int _), (4, .int _), (5, .int _)]) X dX4_bestRest_4 (by decide) rfl ?_
  refine rx_iconst (v := 1) X dX4_bestRest_6 (by decide) ?_
  refine rx_istore (i := 6) (lo2 := [(0, .ref _), (1, .ref _), (2, .int _), (3, .int _), (4, .int _), (5, .int _), (6, .int _)]) X dX4_bestRest_7 (by decide) rfl ?_
  exact loop 9 0 _ _ _ σ rfl rfl (cb_fr.rfl' 243 σ) hbo (fun q => absurd rfl q) rfl
