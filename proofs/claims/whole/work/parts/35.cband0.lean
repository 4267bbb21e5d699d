/-! ===== a band of the class beside a row w ===== -/
def cb_bo (σ : rx_S) (B : Nat) : Prop := ∀ a, a < 6 → σ.1 (B + 3 + a) 5 = 0 ∨ σ.1 (B + 3 + a) 5 = 1
def cb_hd (σ : rx_S) (B : Nat) (w : Nat → Int32) : Prop := (σ.1 B 0 = w 0 ∧ σ.1 B 1 = w 1 ∧ σ.1 B 2 = w 2 ∧ σ.1 B 3 = w 3) ∧ ∀ i, i < 5 → i < rx_N (w 2) → σ.1 (B + 1) i = w (5 + i)
def cb_R (P : Nat → Prop) (σ : rx_S) (B : Nat) (w : Nat → Int32) : Prop := cb_bo σ B ∧ cb_hd σ B w ∧ ∀ a, a < 6 → a < rx_N (w 3) → P a → cb_an (σ.1 (B + 3 + a)) w a
abbrev cb_T : Nat → Prop := fun _ => True
def cb_fr (B : Nat) (σ τ : rx_S) : Prop := τ.2 = σ.2 ∧ ∀ k, (k < B ∨ B + 8 < k) → τ.1 k = σ.1 k
section
variable {P : Nat → Prop} {σ τ ρ : rx_S} {B k : Nat} {w u : Nat → Int32}
theorem cb_fr.rfl' (B : Nat) (σ : rx_S) : cb_fr B σ σ := ⟨rfl, fun _ _ => rfl⟩
theorem cb_fr.trans (h : cb_fr B σ τ) (h2 : cb_fr B τ ρ) : cb_fr B σ ρ := ⟨h2.1.trans h.1, fun k hk => (h2.2 k hk).trans (h.2 k hk)⟩
theorem cb_fr.ua {f : Nat → Int32} (h : cb_fr B σ τ) (h1 : B ≤ k) (h2 : k ≤ B + 8) : cb_fr B σ (rx_ua τ k f) := ⟨h.1, fun j hj => (rx_ua_ne (by omega)).trans (h.2 j hj)⟩
theorem cb_fr.u1 {i : Nat} {v : Int32} (h : cb_fr B σ τ) (h1 : B ≤ k) (h2 : k ≤ B + 8) : cb_fr B σ (rx_u τ k i v) := ⟨h.1, fun j hj => (rx_u_ne (by omega)).trans (h.2 j hj)⟩
theorem cb_R.out (h : cb_R P σ B w) (e : ∀ k, B ≤ k → k ≤ B + 8 → τ.1 k = σ.1 k) : cb_R P τ B w := by
  refine ⟨fun a ha => ?_, ⟨?_, fun i i5 hi => ?_⟩, fun a h6 ha hp => ?_⟩
  · rw [e _ (by omega) (by omega)]; exact h.1 a ha
  · rw [e B (by omega) (by omega)]; exact h.2.1.1
  · rw [e _ (by omega) (by omega)]; exact h.2.1.2 i i5 hi
  · rw [e _ (by omega) (by omega)]; exact h.2.2 a h6 ha hp
theorem cb_R.fr {C : Nat} (h : cb_R P σ B w) (e : cb_fr C σ τ) (hd : B + 8 < C ∨ C + 8 < B) : cb_R P τ B w := h.out (fun k h1 h2 => e.2 k (by omega))
theorem cb_R.less {Q : Nat → Prop} (h : cb_R P σ B w) (hq : ∀ a, Q a → P a) : cb_R Q σ B w := ⟨h.1, h.2.1, fun a h6 ha hp => h.2.2 a h6 ha (hq a hp)⟩
/-- the same band beside another row -/
theorem cb_R.as (h : cb_R P σ B w) (e0 : w 0 = u 0) (e1 : w 1 = u 1) (e2 : w 2 = u 2) (e3 : w 3 = u 3) (e5 : ∀ i, i < 5 → i < rx_N (u 2) → w (5 + i) = u (5 + i)) (ea : ∀ a, a < 6 → a < rx_N (u 3) → P a → an_sim w u a) : cb_R P σ B u := by
  refine ⟨h.1, ⟨⟨h.2.1.1.1.trans e0, h.2.1.1.2.1.trans e1, h.2.1.1.2.2.1.trans e2, h.2.1.1.2.2.2.trans e3⟩, fun i i5 hi => ?_⟩, fun a h6 ha hp => (h.2.2 a h6 (by rw [e3]; exact ha) hp).sim (ea a h6 ha hp)⟩
  exact (h.2.1.2 i i5 (by rw [e2]; exact hi)).trans (e5 i i5 hi)
/-- the band's own cell is written -/
theorem cb_R.obj {β : Nat → Int32} (h : cb_R P σ B w) (e0 : β 0 = u 0) (e1 : β 1 = u 1) (e2 : β 2 = u 2) (e3 : β 3 = u 3) (hw : ∀ j, 2 ≤ j → w j = u j) : cb_R P (rx_ua σ B β) B u := by
  have n : ∀ j, j ≠ B → (rx_ua σ B β).1 j = σ.1 j := fun j hj => rx_ua_ne hj
  refine ⟨fun a ha => ?_, ⟨?_, fun i i5 hi => ?_⟩, fun a h6 ha hp => ?_⟩
  · rw [n _ (by omega)]; exact h.1 a ha
  · rw [rx_ua_s]; exact ⟨e0, e1, e2, e3⟩
  · rw [n _ (by omega), ← hw _ (by omega)]; exact h.2.1.2 i i5 (by rw [hw 2 (by omega)]; exact hi)
  · rw [n _ (by omega)]
    exact (h.2.2 a h6 (by rw [hw 3 (by omega)]; exact ha) hp).sim (an_eq h6 (fun j hj => hw j (by omega)))
/-- an ant's cell is written -/
theorem cb_R.ant {a : Nat} {α : Nat → Int32} (ha : a < 6) (h : cb_R P σ B w) (h5 : α 5 = 0 ∨ α 5 = 1) (hw : ∀ j, j < 10 → j ≠ 4 → w j = u j) (hs : ∀ b, b < 6 → ¬ b = a → an_sim w u b) (hα : a < rx_N (u 3) → P a → cb_an α u a) : cb_R P (rx_ua σ (B + 3 + a) α) B u := by
  have n : ∀ j, j ≠ B + 3 + a → (rx_ua σ (B + 3 + a) α).1 j = σ.1 j := fun j hj => rx_ua_ne hj
  refine ⟨fun b hb => ?_, ⟨?_, fun i i5 hi => ?_⟩, fun b h6 hb hp => ?_⟩
  · by_cases e : b = a
    · subst e; rw [rx_ua_s]; exact h5
    · rw [n _ (by omega)]; exact h.1 b hb
  · rw [n _ (by omega), ← hw 0 (by omega) (by omega), ← hw 1 (by omega) (by omega), ← hw 2 (by omega) (by omega), ← hw 3 (by omega) (by omega)]; exact h.2.1.1
  · rw [n _ (by omega)]
    have e2 := hw 2 (by omega) (by omega)
    have z := h.2.1.2 i i5 (by rw [e2]; exact hi)
    rw [← hw (5 + i) (by omega) (by omega)]; exact z
  · by_cases e : b = a
    · subst e; rw [rx_ua_s]; exact hα hb hp
    · rw [n _ (by omega)]
      exact (h.2.2 b h6 (by rw [hw 3 (by omega) (by omega)]; exact hb) hp).sim (hs b h6 e)
/-- a pull's cell is written -/
theorem cb_R.inch {i : Nat} {v : Int32} (i5 : i < 5) (h : cb_R P σ B w) : cb_R P (rx_u σ (B + 1) i v) B (upd w (5 + i) v) := by
  have n : ∀ j, j ≠ B + 1 → (rx_u σ (B + 1) i v).1 j = σ.1 j := fun j hj => rx_u_ne hj
  refine ⟨fun b hb => ?_, ⟨?_, fun j j5 hj => ?_⟩, fun b h6 hb hp => ?_⟩
  · rw [n _ (by omega)]; exact h.1 b hb
  · rw [n _ (by omega), upd_n (by omega), upd_n (by omega), upd_n (by omega), upd_n (by omega)]; exact h.2.1.1
  · rw [rx_u_s]
    by_cases e : j = i
    · subst e; rw [upd_s, upd_s]
    · rw [upd_n e, upd_n (by omega)]
      rw [upd_n (by omega)] at hj
      exact h.2.1.2 j j5 hj
  · rw [n _ (by omega)]
    rw [upd_n (by omega)] at hb
    exact (h.2.2 b h6 hb hp).sim ⟨(upd_n (by omega)).symm, (upd_n (by omega)).symm, (upd_n (by omega)).symm, (upd_n (by omega)).symm, (upd_n (by omega)).symm, by rw [upd_n (by omega)]⟩
theorem a_go_5 {α : Nat → Int32} {m L : Int32} (h : α 5 = 0 ∨ α 5 = 1) : a_go α m L 5 = 0 ∨ a_go α m L 5 = 1 := by
  unfold a_go
  split
  · exact h
  · split
    · exact Or.inr rfl
    · split
      · exact Or.inr rfl
      · exact h
theorem w_g1_n {a j : Nat} (h1 : j ≠ 4) (h2 : j ≠ 34 + a) : w_g1 w a j = w j := by
  unfold w_g1
  split
  · rfl
  · exact w_go_n h1 h2
/-- an ant goes -/
theorem cb_R.go {a : Nat} (ha : a < 6) (h : cb_R P σ B w) (hp : P a) (hn : a < rx_N (w 3)) (hA : w_A w a) (h0 : 1 ≤ (w 0).toInt) (hB : w_B w) : cb_R P (rx_ua σ (B + 3 + a) (a_go (σ.1 (B + 3 + a)) (w 1) (w 0))) B (w_g1 w a) :=
  h.ant ha (a_go_5 (h.1 a ha)) (fun j h1 h2 => (w_g1_n h2 (by omega)).symm) (fun b hb hne => an_symm (w_g1_oth hB ha hb hne)) (fun _ _ => (h.2.2 a ha hn hp).go ha hA h0 hB)
theorem w_len_min (x : Int32) : (if x < 9999 then x else 9999) = (if 9999 < x then 9999 else x) := by
  by_cases h : x < 9999
  · rw [if_pos h, if_neg (Int32.not_lt.mpr (Int32.le_of_lt h))]
  · rw [if_neg h]
    by_cases h2 : 9999 < x
    · rw [if_pos h2]
    · rw [if_neg h2]
      exact Int32.le_antisymm (Int32.not_lt.mp h) (Int32.not_lt.mp h2)
theorem w_st_hi {inches : Int32} {j : Nat} (h : 2 ≤ j) : w_st inches w j = w j := by
  unfold w_st
  rw [upd_n (by omega), upd_n (by omega)]
theorem w_in_g1 {a : Nat} (h2 : 1 ≤ (w 2).toInt ∧ (w 2).toInt ≤ 5) : w_in (w_g1 w a) = w_in w := by
  unfold w_in
  have e1 : w_g1 w a 1 = w 1 := w_g1_n (by omega) (by omega)
  have e2 : w_g1 w a 2 = w 2 := w_g1_n (by omega) (by omega)
  have := w_ix_lt (w := w) h2
  rw [e1, e2]
  exact w_g1_n (by omega) (by omega)
theorem w_in_all {sp : Int32} {n : Nat} (h2 : 1 ≤ (w 2).toInt ∧ (w 2).toInt ≤ 5) : w_in (w_all sp n w) = w_in w := by
  unfold w_in
  have e1 : w_all sp n w 1 = w 1 := w_all_n (by omega) (fun a _ => by omega)
  have e2 : w_all sp n w 2 = w 2 := w_all_n (by omega) (fun a _ => by omega)
  have := w_ix_lt (w := w) h2
  rw [e1, e2]
  exact w_all_n (by omega) (fun a _ => by omega)
/-- one ant followed alone: as if all had gone -/
theorem cb_R.alone {a : Nat} {sp inches : Int32} (ha : a < 6) (hn : a < rx_N (w 3)) (h6 : rx_N (w 3) ≤ 6) (hB : w_B w) (hs : ¬ nI a = sp) (h : cb_R (fun b => b = a) σ B (w_st inches (w_g1 w a))) : cb_R (fun b => b = a) σ B (w_min sp inches w) := by
  rw [w_min_st]
  refine h.as ?_ ?_ ?_ ?_ (fun i i5 _ => ?_) (fun b h6 _ hb => ?_)
  · show w_len _ _ = w_len _ _
    unfold w_len
    rw [w_g1_n (by omega) (by omega), w_all_n (by omega) (fun a _ => by omega)]
  · show w_g1 w a 1 + 1 = w_all _ _ w 1 + 1
    rw [w_g1_n (by omega) (by omega), w_all_n (by omega) (fun a _ => by omega)]
  · rw [w_st_hi (by omega), w_st_hi (by omega), w_g1_n (by omega) (by omega), w_all_n (by omega) (fun a _ => by omega)]
  · rw [w_st_hi (by omega), w_st_hi (by omega), w_g1_n (by omega) (by omega), w_all_n (by omega) (fun a _ => by omega)]
  · rw [w_st_hi (by omega), w_st_hi (by omega), w_g1_n (by omega) (by omega), w_all_n (by omega) (fun a _ => by omega)]
  · subst hb
    refine an_trans (an_eq h6 (fun j hj => w_st_hi (by omega))) (an_trans (an_symm (w_all_lt hB ha hs _ hn (by assumption))) (an_symm (an_eq h6 (fun j hj => w_st_hi (by omega)))))
/-- an ant stopped by itself: only the band goes on -/
theorem cb_R.still {a : Nat} {sp inches : Int32} (ha : a < 6) (h6 : rx_N (w 3) ≤ 6) (hB : w_B w) (hs : nI a = sp) (h : cb_R (fun b => b = a) σ B (w_st inches w)) : cb_R (fun b => b = a) σ B (w_min sp inches w) := by
  rw [w_min_st]
  refine h.as ?_ ?_ ?_ ?_ (fun i i5 _ => ?_) (fun b h6 _ hb => ?_)
  · show w_len _ _ = w_len _ _
    unfold w_len
    rw [w_all_n (by omega) (fun a _ => by omega)]
  · show w 1 + 1 = w_all _ _ w 1 + 1
    rw [w_all_n (by omega) (fun a _ => by omega)]
  · rw [w_st_hi (by omega), w_st_hi (by omega), w_all_n (by omega) (fun a _ => by omega)]
  · rw [w_st_hi (by omega), w_st_hi (by omega), w_all_n (by omega) (fun a _ => by omega)]
  · rw [w_st_hi (by omega), w_st_hi (by omega), w_all_n (by omega) (fun a _ => by omega)]
  · subst hb
    refine an_trans (an_eq h6 (fun j hj => w_st_hi (by omega))) (an_trans (an_symm (w_all_sp hB ha hs _ (by assumption))) (an_symm (an_eq h6 (fun j hj => w_st_hi (by omega)))))
/-- two followed -/
theorem cb_R.both {a b : Nat} {sp inches : Int32} (ha : a < 6) (hb : b < 6) (hab : ¬ a = b) (hna : a < rx_N (w 3)) (hnb : b < rx_N (w 3)) (h6 : rx_N (w 3) ≤ 6) (hB : w_B w) (hB1 : w_B (w_g1 w b)) (hsa : ¬ nI a = sp) (hsb : ¬ nI b = sp) (h : cb_R (fun c => c = a ∨ c = b) σ B (w_st inches (w_g1 (w_g1 w b) a))) : cb_R (fun c => c = a ∨ c = b) σ B (w_min sp inches w) := by
  rw [w_min_st]
  have g : ∀ j, j ≠ 4 → j < 10 → w_g1 (w_g1 w b) a j = w j := fun j h1 h2 => by rw [w_g1_n h1 (by omega), w_g1_n h1 (by omega)]
  refine h.as ?_ ?_ ?_ ?_ (fun i i5 _ => ?_) (fun c h6c _ hc => ?_)
  · show w_len _ _ = w_len _ _
    unfold w_len
    rw [g _ (by omega) (by omega), w_all_n (by omega) (fun a _ => by omega)]
  · show w_g1 _ a 1 + 1 = w_all _ _ w 1 + 1
    rw [g _ (by omega) (by omega), w_all_n (by omega) (fun a _ => by omega)]
  · rw [w_st_hi (by omega), w_st_hi (by omega), g _ (by omega) (by omega), w_all_n (by omega) (fun a _ => by omega)]
  · rw [w_st_hi (by omega), w_st_hi (by omega), g _ (by omega) (by omega), w_all_n (by omega) (fun a _ => by omega)]
  · rw [w_st_hi (by omega), w_st_hi (by omega), g _ (by omega) (by omega), w_all_n (by omega) (fun a _ => by omega)]
  · refine an_trans (an_eq h6c (fun j hj => w_st_hi (by omega))) (an_trans ?_ (an_symm (an_eq h6c (fun j hj => w_st_hi (by omega)))))
    rcases hc with rfl | rfl
    · refine an_trans ?_ (an_symm (w_all_lt hB ha hsa _ hna h6))
      exact w_g1_loc ha hB1 hB (w_g1_n (by omega) (by omega)) (w_g1_n (by omega) (by omega)) (w_g1_oth hB hb ha hab)
    · refine an_trans (w_g1_oth hB1 ha hb (fun q => hab q.symm)) (an_symm (w_all_lt hB hb hsb _ hnb h6))
end
theorem w_B_g1 {w : Nat → Int32} {a : Nat} (h : w_B w) (ha : a < 6) : w_B (w_g1 w a) := by
  unfold w_g1
  split
  · exact h
  · exact w_B_go h ha
theorem w_V.n3 {K : Nat} {w : Nat → Int32} (h : w_V K w) : 1 ≤ rx_N (w 3) ∧ rx_N (w 3) ≤ 6 := by
  have := h.2.2.2.1
  have := rx_Ni (x := w 3) (by omega)
  omega
theorem w_V.n2 {K : Nat} {w : Nat → Int32} (h : w_V K w) : 1 ≤ rx_N (w 2) ∧ rx_N (w 2) ≤ 5 := by
  have := h.2.2.1
  have := rx_Ni (x := w 2) (by omega)
  omega
theorem w_g1_A {w : Nat → Int32} {a b : Nat} (ha : a < 6) (hb : b < 6) (h : w_A w a) (h0 : 1 ≤ (w 0).toInt) (hB : w_A w b) : w_A (w_g1 w a) b := by
  unfold w_g1
  split
  · exact hB
  · exact w_go_A' ha hb h h0 hB
