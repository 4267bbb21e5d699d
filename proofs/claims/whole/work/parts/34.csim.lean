/-! ===== ants as the class has them, beside the reference's row ===== -/
def w_g1 (w : Nat → Int32) (a : Nat) : Nat → Int32 := if w_has (w 4) a then w else w_go w a
def w_st (inches : Int32) (u : Nat → Int32) : Nat → Int32 := upd (upd u 0 (w_len u inches)) 1 (u 1 + 1)
def w_in (u : Nat → Int32) : Int32 := u (5 + rx_N (u 1) % rx_N (u 2))
theorem w_one_st (sp : Int32) (w : Nat → Int32) : w_one sp w = w_st (w_in w) (w_all sp (rx_N (w 3)) w) := rfl
theorem w_min_st (sp inches : Int32) (w : Nat → Int32) : w_min sp inches w = w_st inches (w_all sp (rx_N (w 3)) w) := rfl
def an_sim (w u : Nat → Int32) (a : Nat) : Prop := w (10 + a) = u (10 + a) ∧ w (16 + a) = u (16 + a) ∧ w (22 + a) = u (22 + a) ∧ w (28 + a) = u (28 + a) ∧ w (34 + a) = u (34 + a) ∧ (w_has (w 4) a ↔ w_has (u 4) a)
theorem an_rfl (w : Nat → Int32) (a : Nat) : an_sim w w a := ⟨rfl, rfl, rfl, rfl, rfl, Iff.rfl⟩
theorem an_symm {w u : Nat → Int32} {a : Nat} (h : an_sim w u a) : an_sim u w a := ⟨h.1.symm, h.2.1.symm, h.2.2.1.symm, h.2.2.2.1.symm, h.2.2.2.2.1.symm, h.2.2.2.2.2.symm⟩
theorem an_trans {w u v : Nat → Int32} {a : Nat} (h : an_sim w u a) (h2 : an_sim u v a) : an_sim w v a := ⟨h.1.trans h2.1, h.2.1.trans h2.2.1, h.2.2.1.trans h2.2.2.1, h.2.2.2.1.trans h2.2.2.2.1, h.2.2.2.2.1.trans h2.2.2.2.2.1, h.2.2.2.2.2.trans h2.2.2.2.2.2⟩
theorem an_eq {w u : Nat → Int32} {a : Nat} (ha : a < 6) (h : ∀ j, 4 ≤ j → w j = u j) : an_sim w u a := ⟨h _ (by omega), h _ (by omega), h _ (by omega), h _ (by omega), h _ (by omega), by rw [h 4 (by omega)]⟩
theorem bit_oth : ∀ q, q < 64 → ∀ a, a < 6 → ∀ b, b < 6 → ¬ b = a → (w_has (nI q ||| 1 <<< (nI a &&& 31)) b ↔ w_has (nI q) b) := by decide +kernel
theorem bit_own : ∀ q, q < 64 → ∀ a, a < 6 → w_has (nI q ||| 1 <<< (nI a &&& 31)) a := by decide +kernel
theorem w_B.at {w : Nat → Int32} (h : w_B w) : ∃ q, q < 64 ∧ w 4 = nI q := ⟨rx_N (w 4), rx_Nlt h.1 h.2, rx_nN h.1⟩
theorem w_go_oth {w : Nat → Int32} {a b : Nat} (hB : w_B w) (ha : a < 6) (hb : b < 6) (hne : ¬ b = a) : an_sim (w_go w a) w b := by
  have hn : ∀ j, j ≠ 4 → j ≠ 34 + a → w_go w a j = w j := fun j h1 h2 => w_go_n h1 h2
  refine ⟨hn _ (by omega) (by omega), hn _ (by omega) (by omega), hn _ (by omega) (by omega), hn _ (by omega) (by omega), hn _ (by omega) (by omega), ?_⟩
  obtain ⟨q, hq, e⟩ := hB.at
  unfold w_go
  split
  · rw [upd_n (by omega), upd_s, e]
    exact bit_oth q hq a ha b hb hne
  · rw [upd_n (by omega)]
theorem w_g1_oth {w : Nat → Int32} {a b : Nat} (hB : w_B w) (ha : a < 6) (hb : b < 6) (hne : ¬ b = a) : an_sim (w_g1 w a) w b := by
  unfold w_g1
  split
  · exact an_rfl w b
  · exact w_go_oth hB ha hb hne
theorem an_nail {w u : Nat → Int32} {a : Nat} (h1 : w 1 = u 1) (h : an_sim w u a) : w_nail w a ↔ w_nail u a := by
  unfold w_nail
  rw [h1, h.1, h.2.2.2.1]
theorem an_gait {w u : Nat → Int32} {a : Nat} (h1 : w 1 = u 1) (h : an_sim w u a) : w_gait w a = w_gait u a := by
  have := an_nail h1 h
  unfold w_gait
  simp only [this, h1, h.1, h.2.1, h.2.2.2.1, h.2.2.2.2.1]
theorem an_part {w u : Nat → Int32} {a : Nat} (h0 : w 0 = u 0) (h1 : w 1 = u 1) (h : an_sim w u a) : w_part w a = w_part u a := by
  unfold w_part
  rw [an_gait h1 h, h0, h.2.2.2.2.1]
theorem w_g1_loc {w u : Nat → Int32} {a : Nat} (ha : a < 6) (hB : w_B w) (hB2 : w_B u) (h0 : w 0 = u 0) (h1 : w 1 = u 1) (h : an_sim w u a) : an_sim (w_g1 w a) (w_g1 u a) a := by
  have hn : ∀ (v : Nat → Int32) j, j ≠ 4 → j ≠ 34 + a → w_go v a j = v j := fun v j h1 h2 => w_go_n h1 h2
  unfold w_g1
  by_cases hh : w_has (w 4) a
  · rw [if_pos hh, if_pos (h.2.2.2.2.2.mp hh)]
    exact h
  · have hh2 : ¬ w_has (u 4) a := fun q => hh (h.2.2.2.2.2.mpr q)
    rw [if_neg hh, if_neg hh2]
    refine ⟨by rw [hn _ _ (by omega) (by omega), hn _ _ (by omega) (by omega)]; exact h.1, by rw [hn _ _ (by omega) (by omega), hn _ _ (by omega) (by omega)]; exact h.2.1, by rw [hn _ _ (by omega) (by omega), hn _ _ (by omega) (by omega)]; exact h.2.2.1, by rw [hn _ _ (by omega) (by omega), hn _ _ (by omega) (by omega)]; exact h.2.2.2.1, ?_, ?_⟩
    · have e1 := an_nail h1 h
      have e2 := an_part h0 h1 h
      unfold w_go w_there
      simp only [e1, e2]
      split
      · rw [upd_s, upd_s]
      · rw [upd_s, upd_s]
    · have e1 := an_nail h1 h
      have e2 := an_part h0 h1 h
      obtain ⟨q, hq, e⟩ := hB.at
      obtain ⟨q2, hq2, f⟩ := hB2.at
      unfold w_go w_there
      simp only [e1, e2]
      split
      · rw [upd_n (by omega), upd_s, upd_n (by omega), upd_s, e, f]
        exact ⟨fun _ => bit_own q2 hq2 a ha, fun _ => bit_own q hq a ha⟩
      · rw [upd_n (by omega), upd_n (by omega)]
        exact h.2.2.2.2.2
theorem w_all_ge {sp : Int32} {w : Nat → Int32} {a : Nat} (hB : w_B w) (ha : a < 6) : ∀ n, n ≤ a → an_sim (w_all sp n w) w a
  | 0, _ => an_rfl w a
  | n + 1, hn => by
    have ih := w_all_ge (sp := sp) hB ha n (by omega)
    unfold w_all
    split
    · exact an_trans (w_go_oth (w_B_all hB n (by omega)) (by omega) ha (by omega)) ih
    · exact ih
theorem w_all_lt {sp : Int32} {w : Nat → Int32} {a : Nat} (hB : w_B w) (ha : a < 6) (hs : ¬ nI a = sp) : ∀ n, a < n → n ≤ 6 → an_sim (w_all sp n w) (w_g1 w a) a
  | 0, h, _ => absurd h (by omega)
  | n + 1, hn, h6 => by
    by_cases e : a = n
    · subst e
      have g := w_all_ge (sp := sp) (w := w) hB ha a (Nat.le_refl a)
      have e0 : w_all sp a w 0 = w 0 := w_all_n (by omega) (fun b _ => by omega)
      have e1 : w_all sp a w 1 = w 1 := w_all_n (by omega) (fun b _ => by omega)
      have key := w_g1_loc ha (w_B_all (sp := sp) hB a (by omega)) hB e0 e1 g
      refine an_trans ?_ key
      unfold w_g1
      by_cases hh : w_has (w_all sp a w 4) a
      · rw [if_pos hh, w_all_h hh]
        exact an_rfl _ a
      · rw [if_neg hh, w_all_g hh hs]
        exact an_rfl _ a
    · have ih := w_all_lt hB ha hs n (by omega) (by omega)
      unfold w_all
      split
      · exact an_trans (w_go_oth (w_B_all hB n (by omega)) (by omega) ha e) ih
      · exact ih
theorem w_all_sp {sp : Int32} {w : Nat → Int32} {a : Nat} (hB : w_B w) (ha : a < 6) (hs : nI a = sp) : ∀ n, n ≤ 6 → an_sim (w_all sp n w) w a
  | 0, _ => an_rfl w a
  | n + 1, hn => by
    have ih := w_all_sp hB ha hs n (by omega)
    by_cases e : a = n
    · subst e
      rw [w_all_t hs]
      exact ih
    · unfold w_all
      split
      · exact an_trans (w_go_oth (w_B_all hB n (by omega)) (by omega) ha e) ih
      · exact ih
/-- an ant of the class is the row's ant a -/
def cb_an (α : Nat → Int32) (w : Nat → Int32) (a : Nat) : Prop := α 0 = w (10 + a) ∧ α 1 = w (16 + a) ∧ α 2 = w (22 + a) ∧ α 3 = w (28 + a) ∧ α 4 = w (34 + a) ∧ rx_b (w_has (w 4) a) (α 5)
theorem cb_an.sim {α w u : Nat → Int32} {a : Nat} (h : cb_an α w a) (s : an_sim w u a) : cb_an α u a :=
  ⟨h.1.trans s.1, h.2.1.trans s.2.1, h.2.2.1.trans s.2.2.1, h.2.2.2.1.trans s.2.2.2.1, h.2.2.2.2.1.trans s.2.2.2.2.1, h.2.2.2.2.2.elim (fun q => Or.inl ⟨q.1, s.2.2.2.2.2.mp q.2⟩) (fun q => Or.inr ⟨q.1, fun z => q.2 (s.2.2.2.2.2.mpr z)⟩)⟩
theorem cb_an.b5 {α w : Nat → Int32} {a : Nat} (h : cb_an α w a) : α 5 = 0 ∨ α 5 = 1 := h.2.2.2.2.2.elim (fun q => Or.inr q.1) (fun q => Or.inl q.1)
theorem cb_an.has {α w : Nat → Int32} {a : Nat} (h : cb_an α w a) : ¬ α 5 = 0 ↔ w_has (w 4) a := by
  rcases h.2.2.2.2.2 with ⟨e, q⟩ | ⟨e, q⟩
  · rw [e]; exact ⟨fun _ => q, fun _ => by decide⟩
  · rw [e]; exact ⟨fun z => absurd rfl z, fun z => absurd z q⟩
theorem cb_an.nail {α w : Nat → Int32} {a : Nat} (h : cb_an α w a) : a_nail α (w 1) ↔ w_nail w a := by
  unfold a_nail w_nail
  rw [h.1, h.2.2.2.1]
theorem cb_an.gait {α w : Nat → Int32} {a : Nat} (h : cb_an α w a) (hA : w_A w a) : a_gait α (w 1) = w_gait w a := by
  have e := h.nail
  have h3 : 0 < w (28 + a) := by
    rw [Int32.lt_iff_toInt_lt]
    have := hA.2.2.2.1.1
    show (0 : Int) < _
    omega
  unfold a_gait w_gait
  simp only [e]
  rw [h.1, h.2.1, h.2.2.2.1, h.2.2.2.2.1]
  by_cases n : w_nail w a
  · have k2 : ¬ w (10 + a) = 2 := by
      rintro q
      rcases n with q2 | q2
      · rw [q] at q2; exact absurd q2 (by decide)
      · rw [q] at q2; exact absurd q2.1 (by decide)
    have k3 : ¬ w (10 + a) = 3 := by
      rintro q
      rcases n with q2 | q2
      · rw [q] at q2; exact absurd q2 (by decide)
      · rw [q] at q2; exact absurd q2.1 (by decide)
    rw [if_pos n, if_neg k2, if_neg k3, if_pos n]
  · rw [if_neg n]
    by_cases k2 : w (10 + a) = 2
    · rw [if_pos k2]
      have k3 : ¬ w (10 + a) = 3 := by rw [k2]; decide
      by_cases z : w 1 - w 1 / w (28 + a) * w (28 + a) = 0
      · rw [if_pos ⟨k2, h3, z⟩, if_pos z]
      · rw [if_neg (fun q => z q.2.2), if_neg k3, if_neg z]
    · rw [if_neg (fun q => k2 q.1), if_neg k2]
      by_cases k3 : w (10 + a) = 3
      · rw [if_pos k3, if_pos k3]
      · rw [if_neg k3, if_neg k3, if_neg n]
theorem cb_an.go {α w : Nat → Int32} {a : Nat} (ha : a < 6) (h : cb_an α w a) (hA : w_A w a) (h0 : 1 ≤ (w 0).toInt) (hB : w_B w) : cb_an (a_go α (w 1) (w 0)) (w_g1 w a) a := by
  have hL : ¬ w 0 < 1 := by
    rw [Int32.not_lt, Int32.le_iff_toInt_le]
    exact h0
  unfold a_go w_g1
  by_cases hh : w_has (w 4) a
  · rw [if_pos hh, if_pos (Or.inl (h.has.mpr hh))]
    exact h
  · rw [if_neg hh, if_neg (fun q => q.elim (fun z => hh (h.has.mp z)) hL)]
    have e1 : a_part α (w 1) (w 0) = w_part w a := by
      unfold a_part w_part
      rw [h.gait hA, h.2.2.2.2.1]
    have e2 := h.nail
    have h5 : α 5 = 0 := Decidable.of_not_not (fun z => hh (h.has.mp z))
    rw [e1]
    simp only [e2]
    obtain ⟨q, hq, e⟩ := hB.at
    have oth : ∀ (x : Int32) (v : Nat → Int32), (∀ j, j ≠ 4 → j ≠ 34 + a → v j = w j) → v (34 + a) = x → w_has (v 4) a → cb_an (upd (upd α 4 x) 5 1) v a := by
      intro x v hv hx hb
      refine ⟨?_, ?_, ?_, ?_, ?_, Or.inl ⟨rfl, hb⟩⟩
      · rw [hv _ (by omega) (by omega)]; exact h.1
      · rw [hv _ (by omega) (by omega)]; exact h.2.1
      · rw [hv _ (by omega) (by omega)]; exact h.2.2.1
      · rw [hv _ (by omega) (by omega)]; exact h.2.2.2.1
      · rw [hx]; rfl
    have stay : ∀ v, v = upd w (34 + a) (w_part w a) → cb_an (upd α 4 (w_part w a)) v a := by
      rintro v rfl
      refine ⟨?_, ?_, ?_, ?_, ?_, Or.inr ⟨?_, ?_⟩⟩
      · exact h.1.trans (upd_n (by omega)).symm
      · exact h.2.1.trans (upd_n (by omega)).symm
      · exact h.2.2.1.trans (upd_n (by omega)).symm
      · exact h.2.2.2.1.trans (upd_n (by omega)).symm
      · exact (show upd α 4 (w_part w a) 4 = w_part w a from rfl).trans upd_s.symm
      · exact h5
      · rw [upd_n (by omega)]; exact hh
    have wn : ∀ j, j ≠ 4 → j ≠ 34 + a → w_go w a j = w j := fun j h1 h2 => w_go_n h1 h2
    by_cases n : w_nail w a
    · by_cases z : 0 < w_part w a
      · rw [if_neg (fun q => absurd q.1 (Int32.not_le.mpr z)), if_neg (fun q => q.2 n)]
        exact stay _ (w_go_A n z)
      · rw [if_pos ⟨Int32.not_lt.mp z, n⟩]
        refine oth 0 _ wn ?_ ?_
        · rw [w_go_B n z, upd_s]
        · rw [w_go_B n z, upd_n (by omega), upd_s, e]
          exact bit_own q hq a ha
    · rw [if_neg (fun q => n q.2)]
      by_cases z : w_part w a < 1000000
      · rw [if_neg (fun q => absurd q.1 (Int32.not_le.mpr z))]
        exact stay _ (w_go_C n z)
      · rw [if_pos ⟨Int32.not_lt.mp z, n⟩]
        refine oth 1000000 _ wn ?_ ?_
        · rw [w_go_D n z, upd_s]
        · rw [w_go_D n z, upd_n (by omega), upd_s, e]
          exact bit_own q hq a ha
