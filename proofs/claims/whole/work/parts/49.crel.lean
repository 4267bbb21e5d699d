/-! ===== the class's store beside the reference's ===== -/
section
variable {P : Nat → Prop} {σ τ : rx_S} {B : Nat} {w u : Nat → Int32} {K : Nat}
theorem w_V.ext (h : w_V K w) (e : ∀ i, i < 40 → w i = u i) : w_V K u := by
  have n2 := h.n2
  have n3 := h.n3
  refine ⟨by rw [← e 0 (by omega)]; exact h.1, by rw [← e 1 (by omega)]; exact h.2.1, by rw [← e 2 (by omega)]; exact h.2.2.1, by rw [← e 3 (by omega)]; exact h.2.2.2.1, fun i hi => ?_, fun a ha => ?_⟩
  · rw [← e 2 (by omega)] at hi
    rw [← e _ (by omega)]
    exact h.2.2.2.2.1 i hi
  · rw [← e 3 (by omega)] at ha
    have z := h.2.2.2.2.2 a ha
    unfold w_A at z ⊢
    rw [← e (10 + a) (by omega), ← e (16 + a) (by omega), ← e (22 + a) (by omega), ← e (28 + a) (by omega), ← e (34 + a) (by omega)]
    exact z
theorem w_C.ext (h : w_C w) (e : ∀ i, i < 40 → w i = u i) : w_C u := by
  unfold w_C w_B at h ⊢
  rw [← e 4 (by omega), ← e 3 (by omega)]
  exact h
theorem cb_R.ext (h : cb_R P σ B w) (e : ∀ i, i < 40 → w i = u i) : cb_R P σ B u :=
  h.as (e 0 (by omega)) (e 1 (by omega)) (e 2 (by omega)) (e 3 (by omega)) (fun i _ _ => e _ (by omega)) (fun a ha _ _ => ⟨e _ (by omega), e _ (by omega), e _ (by omega), e _ (by omega), e _ (by omega), by rw [e 4 (by omega)]⟩)
/-- a picture of a wall -/
def pw (σ : rx_S) (B : Nat) (w : Nat → Int32) : Prop := cb_R cb_T σ B w ∧ w_V 999 w ∧ w_C w
theorem pw.ext (h : pw σ B w) (e : ∀ i, i < 40 → w i = u i) : pw σ B u := ⟨h.1.ext e, h.2.1.ext e, h.2.2.ext e⟩
theorem pw.out (h : pw σ B w) (e : ∀ k, B ≤ k → k ≤ B + 8 → τ.1 k = σ.1 k) : pw τ B w := ⟨h.1.out e, h.2⟩
theorem pw.cp {C : Nat} (h : pw σ C w) (e : cb_cp σ τ B C) : pw τ B w := ⟨e.R h.1, h.2⟩
theorem w_C_one {sp : Int32} (h : w_C w) (hv : w_V K w) : w_C (w_one sp w) := by
  refine ⟨w_B_one h.1 hv, fun a ha h6 => ?_⟩
  rw [w_one_3] at ha
  rw [w_one_4]
  exact fun q => h.2 a ha h6 ((w_all_ge (sp := sp) h.1 h6 _ ha).2.2.2.2.2.mp q)
theorem w_C_upd {j : Nat} {v : Int32} (h : w_C w) (h4 : j ≠ 4) (h3 : j ≠ 3) : w_C (upd w j v) := by
  refine ⟨w_B_upd h.1 h4, fun a ha h6 => ?_⟩
  rw [upd_n (Ne.symm h3)] at ha
  rw [upd_n (Ne.symm h4)]
  exact h.2 a ha h6
theorem w_C_slack (h : w_C w) : w_C (w_slack w) := w_C_upd h (by decide) (by decide)
theorem w_V_999 (h : w_V 999 w) (h1 : (w 1).toInt + 1 ≤ 999) {sp : Int32} : w_V 999 (w_one sp w) := by
  have h2 := h.2.1
  have n1 := rx_Ni h2.1
  have hv : w_V (rx_N (w 1)) w := ⟨h.1, ⟨h2.1, by omega⟩, h.2.2⟩
  exact w_V_mono (by omega) (w_V_one (K := rx_N (w 1)) (by omega) hv)
theorem w_V_upd34 {a : Nat} {v : Int32} (hw : w_V K w) (ha : a < 6) (hv : 0 ≤ v.toInt ∧ v.toInt ≤ 1000000) : w_V K (upd w (34 + a) v) := by
  have n2 := hw.n2
  have e : ∀ j, j ≠ 34 + a → upd w (34 + a) v j = w j := fun j h => upd_n h
  refine ⟨by rw [e 0 (by omega)]; exact hw.1, by rw [e 1 (by omega)]; exact hw.2.1, by rw [e 2 (by omega)]; exact hw.2.2.1, by rw [e 3 (by omega)]; exact hw.2.2.2.1, fun i hi => ?_, fun b hb => ?_⟩
  · rw [e 2 (by omega)] at hi
    rw [e _ (by omega)]
    exact hw.2.2.2.2.1 i hi
  · rw [e 3 (by omega)] at hb
    have n3 := hw.n3
    have z := hw.2.2.2.2.2 b hb
    unfold w_A at z ⊢
    rw [e (10 + b) (by omega), e (16 + b) (by omega), e (22 + b) (by omega), e (28 + b) (by omega)]
    refine ⟨z.1, z.2.1, z.2.2.1, z.2.2.2.1, ?_⟩
    by_cases q : b = a
    · subst q; rw [upd_s]; exact hv
    · rw [e _ (by omega)]; exact z.2.2.2.2
theorem w_V_upd5 {i : Nat} {v : Int32} (hw : w_V K w) (hi : i < 5) (hv : 0 ≤ v.toInt ∧ v.toInt ≤ 99) : w_V K (upd w (5 + i) v) := by
  have e : ∀ j, j ≠ 5 + i → upd w (5 + i) v j = w j := fun j h => upd_n h
  refine ⟨by rw [e 0 (by omega)]; exact hw.1, by rw [e 1 (by omega)]; exact hw.2.1, by rw [e 2 (by omega)]; exact hw.2.2.1, by rw [e 3 (by omega)]; exact hw.2.2.2.1, fun j hj => ?_, fun b hb => ?_⟩
  · rw [e 2 (by omega)] at hj
    by_cases q : j = i
    · subst q; rw [upd_s]; exact hv
    · rw [e _ (by omega)]; exact hw.2.2.2.2.1 j hj
  · rw [e 3 (by omega)] at hb
    have z := hw.2.2.2.2.2 b hb
    unfold w_A at z ⊢
    rw [e (10 + b) (by omega), e (16 + b) (by omega), e (22 + b) (by omega), e (28 + b) (by omega), e (34 + b) (by omega)]
    exact z
theorem w_C_on {sp : Int32} : ∀ {n K : Nat} {w : Nat → Int32}, K + n < 1000000 → w_V K w → w_C w → w_C (w_on sp n w)
  | 0, _, _, _, _, h => h
  | n + 1, K, w, hK, hv, h => w_C_on (n := n) (K := K + 1) (by omega) (w_V_one (by omega) hv) (w_C_one h hv)
theorem w_C_dr : ∀ {n K : Nat} {x : Int64} {w : Nat → Int32}, K + n < 1000000 → w_V K w → w_C w → w_C (dr_loop n x w) ∧ w_V (K + n) (dr_loop n x w) ∧ dr_loop n x w 3 = w 3
  | 0, _, _, _, _, hv, h => ⟨h, hv, rfl⟩
  | n + 1, K, x, w, hK, hv, h => by
    have hu : w_C (dr_u (dr_x x) w) := by
      unfold dr_u
      split
      · exact w_C_slack h
      · exact h
    have z := w_C_dr (n := n) (K := K + 1) (x := dr_x x) (w := w_one (dr_s (dr_x x) (dr_u (dr_x x) w)) (dr_u (dr_x x) w)) (by omega) (w_V_one (by omega) (dr_u_V hv)) (w_C_one hu (dr_u_V hv))
    refine ⟨z.1, w_V_mono (by omega) z.2.1, z.2.2.trans ?_⟩
    rw [w_one_3, dr_u_3]
end
def wR (σ ρ : rx_S) : Prop := σ.1 0 8 = ρ.1 0 4 ∧ w_C (ρ.1 4) ∧ cb_R cb_T σ 1 (ρ.1 4) ∧ mo_W ρ
def sR (σ ρ : rx_S) : Prop := σ.1 0 9 = ρ.1 0 3 ∧ ρ.1 0 6 = -1 ∧ cb_bo σ 243
def rR (σ ρ : rx_S) : Prop := mo_sz ρ ∧ (∀ r, r < 8 → σ.1 20 r = ρ.1 1 r ∧ σ.1 21 r = ρ.1 2 r) ∧ ∀ r, r < 8 → ∀ i : Nat, i < 40 → (i : Int) < (ρ.1 2 r).toInt → σ.1 (12 + r) i = ρ.1 3 (40 * r + i)
def tR (σ ρ : rx_S) : Prop := ∃ N, N ≤ 120 ∧ σ.1 22 1 = nI N ∧ ρ.1 0 9 = nI N ∧ σ.1 23 = ρ.1 6 ∧ σ.1 22 3 = ρ.1 0 10
def aR (σ ρ : rx_S) : Prop := ∃ od kn, od < 24 ∧ kn ≤ 24 ∧ σ.1 24 1 = nI od ∧ σ.1 24 2 = nI kn ∧ ρ.1 0 18 = nI kn ∧ (0 < kn → ρ.1 0 4 = 1) ∧ ∀ j, j < kn → pw σ (26 + 9 * ((od + j) % 24)) (fun i => ρ.1 8 (40 * j + i))
def iR (σ ρ : rx_S) : Prop := ∀ k, k < 2 → σ.1 276 k = ρ.1 12 k ∧ (ρ.1 12 k = 0 ∨ (ρ.1 12 k = 1 ∧ ρ.1 0 4 = 1 ∧ pw σ (258 + 9 * k) (fun i => ρ.1 13 (40 * k + i))))
def kR (σ ρ : rx_S) : Prop := ∃ n, n ≤ 16 ∧ σ.1 255 1 = nI n ∧ ρ.1 0 25 = nI n ∧ σ.1 256 = ρ.1 14
def cR (σ ρ : rx_S) : Prop := wR σ ρ ∧ sR σ ρ ∧ rR σ ρ ∧ tR σ ρ ∧ aR σ ρ ∧ iR σ ρ ∧ kR σ ρ
section
variable {σ τ ρ ρ2 : rx_S}
theorem mo_W.mv (h : mo_W ρ) (m : ρ2.1 4 = ρ.1 4) (m0 : ρ2.1 0 4 = ρ.1 0 4) : mo_W ρ2 := by
  unfold mo_W at h ⊢
  rw [m, m0]
  exact h
theorem wR.mv (h : wR σ ρ) (c : ∀ k, 1 ≤ k → k ≤ 9 → τ.1 k = σ.1 k) (c0 : τ.1 0 8 = σ.1 0 8) (m : ρ2.1 4 = ρ.1 4) (m0 : ρ2.1 0 4 = ρ.1 0 4) : wR τ ρ2 :=
  ⟨by rw [c0, m0]; exact h.1, by rw [m]; exact h.2.1, by rw [m]; exact h.2.2.1.out (fun k h1 h2 => c k h1 h2), h.2.2.2.mv m m0⟩
theorem sR.mv (h : sR σ ρ) (c0 : τ.1 0 9 = σ.1 0 9) (hbo : cb_bo τ 243) (m3 : ρ2.1 0 3 = ρ.1 0 3) (m6 : ρ2.1 0 6 = ρ.1 0 6) : sR τ ρ2 := ⟨by rw [c0, m3]; exact h.1, m6.trans h.2.1, hbo⟩
theorem rR.mv (h : rR σ ρ) (c : ∀ k, 12 ≤ k → k ≤ 21 → τ.1 k = σ.1 k) (m1 : ρ2.1 1 = ρ.1 1) (m2 : ρ2.1 2 = ρ.1 2) (m3 : ρ2.1 3 = ρ.1 3) : rR τ ρ2 := by
  refine ⟨?_, fun r hr => ?_, fun r hr i hi hs => ?_⟩
  · unfold mo_sz; rw [m2]; exact h.1
  · rw [c 20 (by omega) (by omega), c 21 (by omega) (by omega), m1, m2]; exact h.2.1 r hr
  · rw [m2] at hs
    rw [c _ (by omega) (by omega), m3]
    exact h.2.2 r hr i hi hs
theorem tR.mv (h : tR σ ρ) (c1 : τ.1 22 1 = σ.1 22 1) (c3 : τ.1 22 3 = σ.1 22 3) (c23 : τ.1 23 = σ.1 23) (m6 : ρ2.1 6 = ρ.1 6) (m9 : ρ2.1 0 9 = ρ.1 0 9) (m10 : ρ2.1 0 10 = ρ.1 0 10) : tR τ ρ2 := by
  obtain ⟨N, h1, h2, h3, h4, h5⟩ := h
  exact ⟨N, h1, c1.trans h2, m9.trans h3, c23.trans (h4.trans m6.symm), c3.trans (h5.trans m10.symm)⟩
theorem aR.mv (h : aR σ ρ) (c : ∀ k, 24 ≤ k → k ≤ 241 → τ.1 k = σ.1 k) (m8 : ρ2.1 8 = ρ.1 8) (m18 : ρ2.1 0 18 = ρ.1 0 18) (m4 : ρ2.1 0 4 = ρ.1 0 4) : aR τ ρ2 := by
  obtain ⟨od, kn, h1, h2, h3, h4, h5, h6, h7⟩ := h
  refine ⟨od, kn, h1, h2, by rw [c 24 (by omega) (by omega)]; exact h3, by rw [c 24 (by omega) (by omega)]; exact h4, m18.trans h5, fun z => m4.trans (h6 z), fun j hj => ?_⟩
  have hm := Nat.mod_lt (od + j) (show 0 < 24 by decide)
  rw [m8]
  exact (h7 j hj).out (fun k a b => c k (by omega) (by omega))
theorem iR.mv (h : iR σ ρ) (c : ∀ k, 258 ≤ k → k ≤ 276 → τ.1 k = σ.1 k) (m12 : ρ2.1 12 = ρ.1 12) (m13 : ρ2.1 13 = ρ.1 13) (m4 : ρ.1 0 4 = 1 → ρ2.1 0 4 = 1) : iR τ ρ2 := by
  intro k hk
  obtain ⟨h1, h2⟩ := h k hk
  rw [c 276 (by omega) (by omega), m12, m13]
  refine ⟨h1, h2.elim Or.inl (fun q => Or.inr ⟨q.1, m4 q.2.1, q.2.2.out (fun j a b => c j (by omega) (by omega))⟩)⟩
theorem kR.mv (h : kR σ ρ) (c1 : τ.1 255 1 = σ.1 255 1) (c2 : τ.1 256 = σ.1 256) (m25 : ρ2.1 0 25 = ρ.1 0 25) (m14 : ρ2.1 14 = ρ.1 14) : kR τ ρ2 := by
  obtain ⟨n, h1, h2, h3, h4⟩ := h
  exact ⟨n, h1, c1.trans h2, m25.trans h3, c2.trans (h4.trans m14.symm)⟩
/-- only what is foretold has changed -/
theorem cR.fore (h : cR σ ρ) (c : ∀ k, (k < 242 ∨ 254 < k) → τ.1 k = σ.1 k) (hbo : cb_bo τ 243) : cR τ ρ :=
  ⟨h.1.mv (fun k _ _ => c k (by omega)) (by rw [c 0 (by omega)]) rfl rfl, h.2.1.mv (by rw [c 0 (by omega)]) hbo rfl rfl, h.2.2.1.mv (fun k _ _ => c k (by omega)) rfl rfl rfl, h.2.2.2.1.mv (by rw [c 22 (by omega)]) (by rw [c 22 (by omega)]) (c 23 (by omega)) rfl rfl rfl, h.2.2.2.2.1.mv (fun k _ _ => c k (by omega)) rfl rfl rfl, h.2.2.2.2.2.1.mv (fun k _ _ => c k (by omega)) rfl rfl id, h.2.2.2.2.2.2.mv (by rw [c 255 (by omega)]) (c 256 (by omega)) rfl rfl⟩
/-- what nobody looks at has changed in the reference -/
theorem cR.ref (h : cR σ ρ) (m : ∀ k, k ≠ 0 → k ≠ 5 → k ≠ 7 → k ≠ 9 → k ≠ 10 → k ≠ 11 → ρ2.1 k = ρ.1 k) (m0 : ∀ j, j ≠ 11 → j ≠ 12 → j ≠ 13 → j ≠ 14 → j ≠ 15 → ρ2.1 0 j = ρ.1 0 j) : cR σ ρ2 := by
  have e : ∀ k, (k = 1 ∨ k = 2 ∨ k = 3 ∨ k = 4 ∨ k = 6 ∨ k = 8 ∨ k = 12 ∨ k = 13 ∨ k = 14) → ρ2.1 k = ρ.1 k := fun k hk => m k (by omega) (by omega) (by omega) (by omega) (by omega) (by omega)
  have f : ∀ j, (j < 11 ∨ 15 < j) → ρ2.1 0 j = ρ.1 0 j := fun j hj => m0 j (by omega) (by omega) (by omega) (by omega) (by omega)
  exact ⟨h.1.mv (fun _ _ _ => rfl) rfl (e 4 (by omega)) (f 4 (by omega)), h.2.1.mv rfl h.2.1.2.2 (f 3 (by omega)) (f 6 (by omega)), h.2.2.1.mv (fun _ _ _ => rfl) (e 1 (by omega)) (e 2 (by omega)) (e 3 (by omega)), h.2.2.2.1.mv rfl rfl rfl (e 6 (by omega)) (f 9 (by omega)) (f 10 (by omega)), h.2.2.2.2.1.mv (fun _ _ _ => rfl) (e 8 (by omega)) (f 18 (by omega)) (f 4 (by omega)), h.2.2.2.2.2.1.mv (fun _ _ _ => rfl) (e 12 (by omega)) (e 13 (by omega)) (fun q => (f 4 (by omega)).trans q), h.2.2.2.2.2.2.mv rfl rfl (f 25 (by omega)) (e 14 (by omega))⟩
theorem cR.sam (h : cR σ ρ) (m : mo_sam ρ ρ2) : cR σ ρ2 := h.ref (fun k _ _ _ a b c => m.1 k a b c) (fun j _ _ _ _ _ => by rw [m.1 0 (by omega) (by omega) (by omega)])
theorem cR.aside (h : cR σ ρ) : cR σ (sp_aside ρ) := h.ref (fun k _ _ _ a _ _ => rx_ua_ne a) (fun j _ _ _ _ _ => by rw [sp_aside, rx_ua_ne (by decide)])
/-- the status -/
theorem cR.st {v : Int32} (h : cR σ ρ) : cR (rx_u σ 0 9 v) (rx_u ρ 0 3 v) := by
  have c : ∀ k, k ≠ 0 → (rx_u σ 0 9 v).1 k = σ.1 k := fun k hk => rx_u_ne hk
  have m : ∀ k, k ≠ 0 → (rx_u ρ 0 3 v).1 k = ρ.1 k := fun k hk => rx_u_ne hk
  have c0 : ∀ j, j ≠ 9 → (rx_u σ 0 9 v).1 0 j = σ.1 0 j := fun j hj => by rw [rx_u_s, upd_n hj]
  have m0 : ∀ j, j ≠ 3 → (rx_u ρ 0 3 v).1 0 j = ρ.1 0 j := fun j hj => by rw [rx_u_s, upd_n hj]
  exact ⟨h.1.mv (fun k _ _ => c k (by omega)) (c0 8 (by omega)) (m 4 (by omega)) (m0 4 (by omega)), ⟨by rw [rx_u_s, upd_s, rx_u_s, upd_s], (m0 6 (by omega)).trans h.2.1.2.1, fun a ha => by rw [c _ (by omega)]; exact h.2.1.2.2 a ha⟩, h.2.2.1.mv (fun k _ _ => c k (by omega)) (m 1 (by omega)) (m 2 (by omega)) (m 3 (by omega)), h.2.2.2.1.mv (by rw [c 22 (by omega)]) (by rw [c 22 (by omega)]) (c 23 (by omega)) (m 6 (by omega)) (m0 9 (by omega)) (m0 10 (by omega)), h.2.2.2.2.1.mv (fun k _ _ => c k (by omega)) (m 8 (by omega)) (m0 18 (by omega)) (m0 4 (by omega)), h.2.2.2.2.2.1.mv (fun k _ _ => c k (by omega)) (m 12 (by omega)) (m 13 (by omega)) (fun q => (m0 4 (by omega)).trans q), h.2.2.2.2.2.2.mv (by rw [c 255 (by omega)]) (c 256 (by omega)) (m0 25 (by omega)) (m 14 (by omega))⟩
/-- the rows -/
theorem cR.rows (h : cR σ ρ) (c : ∀ k, (k < 12 ∨ 21 < k) → τ.1 k = σ.1 k) (m : ∀ k, k ≠ 1 → k ≠ 2 → k ≠ 3 → ρ2.1 k = ρ.1 k) (hr : rR τ ρ2) : cR τ ρ2 :=
  ⟨h.1.mv (fun k _ _ => c k (by omega)) (by rw [c 0 (by omega)]) (m 4 (by omega) (by omega) (by omega)) (by rw [m 0 (by omega) (by omega) (by omega)]), h.2.1.mv (by rw [c 0 (by omega)]) (fun a ha => by rw [c _ (by omega)]; exact h.2.1.2.2 a ha) (by rw [m 0 (by omega) (by omega) (by omega)]) (by rw [m 0 (by omega) (by omega) (by omega)]), hr, h.2.2.2.1.mv (by rw [c 22 (by omega)]) (by rw [c 22 (by omega)]) (c 23 (by omega)) (m 6 (by omega) (by omega) (by omega)) (by rw [m 0 (by omega) (by omega) (by omega)]) (by rw [m 0 (by omega) (by omega) (by omega)]), h.2.2.2.2.1.mv (fun k _ _ => c k (by omega)) (m 8 (by omega) (by omega) (by omega)) (by rw [m 0 (by omega) (by omega) (by omega)]) (by rw [m 0 (by omega) (by omega) (by omega)]), h.2.2.2.2.2.1.mv (fun k _ _ => c k (by omega)) (m 12 (by omega) (by omega) (by omega)) (m 13 (by omega) (by omega) (by omega)) (fun q => by rw [m 0 (by omega) (by omega) (by omega)]; exact q), h.2.2.2.2.2.2.mv (by rw [c 255 (by omega)]) (c 256 (by omega)) (by rw [m 0 (by omega) (by omega) (by omega)]) (m 14 (by omega) (by omega) (by omega))⟩
/-- the wall goes on -/
theorem cR.now {w : Nat → Int32} (h : cR σ ρ) (c : ∀ k, (k = 0 ∨ 9 < k) → τ.1 k = σ.1 k) (hth : ρ.1 0 4 = 1) (hw : pw τ 1 w) : cR τ (rx_ua ρ 4 w) := by
  have m : ∀ k, k ≠ 4 → (rx_ua ρ 4 w).1 k = ρ.1 k := fun k hk => rx_ua_ne hk
  have m0 : (rx_ua ρ 4 w).1 0 = ρ.1 0 := m 0 (by omega)
  refine ⟨⟨?_, ?_, ?_, Or.inl ⟨by rw [m0]; exact hth, ?_⟩⟩, h.2.1.mv (by rw [c 0 (by omega)]) (fun a ha => by rw [c _ (by omega)]; exact h.2.1.2.2 a ha) (by rw [m0]) (by rw [m0]), h.2.2.1.mv (fun k _ _ => c k (by omega)) (m 1 (by omega)) (m 2 (by omega)) (m 3 (by omega)), h.2.2.2.1.mv (by rw [c 22 (by omega)]) (by rw [c 22 (by omega)]) (c 23 (by omega)) (m 6 (by omega)) (by rw [m0]) (by rw [m0]), h.2.2.2.2.1.mv (fun k _ _ => c k (by omega)) (m 8 (by omega)) (by rw [m0]) (by rw [m0]), h.2.2.2.2.2.1.mv (fun k _ _ => c k (by omega)) (m 12 (by omega)) (m 13 (by omega)) (fun q => by rw [m0]; exact q), h.2.2.2.2.2.2.mv (by rw [c 255 (by omega)]) (c 256 (by omega)) (by rw [m0]) (m 14 (by omega))⟩
  · rw [c 0 (by omega), m0]; exact h.1.1
  · rw [rx_ua_s]; exact hw.2.2
  · rw [rx_ua_s]; exact hw.1
  · rw [rx_ua_s]; exact hw.2.1
theorem cR.there (h : cR σ ρ) (h4 : ¬ ρ.1 0 4 = 0) : ρ.1 0 4 = 1 ∧ w_V 999 (ρ.1 4) := h.1.2.2.2.elim id (fun q => absurd q.1 h4)
theorem cR.wall (h : cR σ ρ) (h4 : ρ.1 0 4 = 1) : pw σ 1 (ρ.1 4) := ⟨h.1.2.2.1, (h.there (by rw [h4]; decide)).2, h.1.2.1⟩
theorem cR.ant {x : Int32} (h : cR σ ρ) (hx : mo_ant ρ x) : ∃ a, x = nI a ∧ a < 6 ∧ a < rx_N (ρ.1 4 3) ∧ rx_N (nI a) = a ∧ ρ.1 0 4 = 1 ∧ w_V 999 (ρ.1 4) := by
  have hv : ρ.1 0 4 = 1 ∧ w_V 999 (ρ.1 4) := by
    rcases h.1.2.2.2 with q | q
    · exact q
    · have := hx.2
      rw [q.2 3 (by omega)] at this
      have e : (0 : Int32).toInt = 0 := rfl
      have := hx.1
      omega
  have n3 := hv.2.n3
  have i3 := rx_Ni (x := ρ.1 4 3) (by have := hv.2.2.2.2.1; omega)
  have ix := rx_Ni hx.1
  have := hx.2
  exact ⟨rx_N x, rx_nN hx.1, by omega, by omega, rx_Nn (by omega), hv.1, hv.2⟩
theorem i_nat {x : Int32} (h : 0 ≤ x.toInt) : ∃ m, x = nI m ∧ m < 2 ^ 31 ∧ (nI m).toInt = (m : Int) ∧ rx_N (nI m) = m := by
  obtain ⟨j, hj, rfl⟩ := nI_of (x := x) (by rw [Int32.lt_iff_toInt_lt, Int32.toInt_zero]; omega)
  exact ⟨j, rfl, hj, nI_toInt hj, rx_Nn hj⟩
/-- an act is kept -/
theorem cR.note {od kn : Nat} (h : cR σ ρ) (hth : ρ.1 0 4 = 1) (h1 : od < 24) (h2 : kn ≤ 24) (h5 : ρ.1 0 18 = nI kn) (h7 : ∀ j, j < kn → pw σ (26 + 9 * ((od + j) % 24)) (fun i => ρ.1 8 (40 * j + i)))
    (k1 : τ.1 24 1 = nI (ac_o od kn)) (k2 : τ.1 24 2 = nI (ac_n' kn + 1)) (k3 : ∀ k, k ≠ 24 → (k < 26 + 9 * ((ac_o od kn + ac_n' kn) % 24) ∨ 26 + 9 * ((ac_o od kn + ac_n' kn) % 24) + 8 < k) → τ.1 k = σ.1 k) (k5 : cb_cp σ τ (26 + 9 * ((ac_o od kn + ac_n' kn) % 24)) 1) : cR τ (sp_note ρ) ∧ (sp_note ρ).1 4 = ρ.1 4 ∧ (sp_note ρ).1 0 4 = 1 ∧ (sp_note ρ).1 0 6 = -1 := by
  have hm := Nat.mod_lt (ac_o od kn + ac_n' kn) (show 0 < 24 by decide)
  have c : ∀ k, (k < 24 ∨ 241 < k) → τ.1 k = σ.1 k := fun k hk => k3 k (by omega) (by omega)
  have m : ∀ k, k ≠ 8 → k ≠ 0 → (sp_note ρ).1 k = ρ.1 k := fun k a b => by rw [sp_note, rx_u_ne b, rx_ua_ne a]
  have m0 : ∀ j, j ≠ 18 → (sp_note ρ).1 0 j = ρ.1 0 j := fun j hj => by rw [sp_note, rx_u_s, upd_n hj, rx_ua_ne (by decide)]
  have hpw := h.wall hth
  have ek : mo_k ρ = ac_n' kn := by
    unfold mo_k ac_n'
    by_cases q : kn = 24
    · rw [if_pos q, h5, q, if_pos (show nI 24 = 24 from rfl)]
    · rw [if_neg q, h5, if_neg (show ¬ nI kn = 24 from fun z => q (nI_inj (b := 24) (by omega) (by decide) z)), rx_Nn (by omega)]
  have hn : ac_n' kn ≤ 23 := by
    unfold ac_n'
    split <;> omega
  refine ⟨⟨h.1.mv (fun k _ _ => c k (by omega)) (by rw [c 0 (by omega)]) (m 4 (by omega) (by omega)) (m0 4 (by omega)), h.2.1.mv (by rw [c 0 (by omega)]) (fun a ha => by rw [c _ (by omega)]; exact h.2.1.2.2 a ha) (m0 3 (by omega)) (m0 6 (by omega)), h.2.2.1.mv (fun k _ _ => c k (by omega)) (m 1 (by omega) (by omega)) (m 2 (by omega) (by omega)) (m 3 (by omega) (by omega)), h.2.2.2.1.mv (by rw [c 22 (by omega)]) (by rw [c 22 (by omega)]) (c 23 (by omega)) (m 6 (by omega) (by omega)) (m0 9 (by omega)) (m0 10 (by omega)), ?_, h.2.2.2.2.2.1.mv (fun k _ _ => c k (by omega)) (m 12 (by omega) (by omega)) (m 13 (by omega) (by omega)) (fun q => (m0 4 (by omega)).trans q), h.2.2.2.2.2.2.mv (by rw [c 255 (by omega)]) (c 256 (by omega)) (m0 25 (by omega)) (m 14 (by omega) (by omega))⟩, m 4 (by omega) (by omega), (m0 4 (by omega)).trans hth, (m0 6 (by omega)).trans h.2.1.2.1⟩
  refine ⟨ac_o od kn, ac_n' kn + 1, ac_o_lt h1, by omega, k1, k2, ?_, fun _ => (m0 4 (by omega)).trans hth, fun j hj => ?_⟩
  · rw [sp_note, rx_u_s, upd_s, ek]
  · have e8 : (sp_note ρ).1 8 = ac_put (ac_n' kn) 40 (ρ.1 4) (if ρ.1 0 18 = 24 then ac_shift 920 (ρ.1 8) else ρ.1 8) := by rw [sp_note, rx_u_ne (by decide), rx_ua_s, ek]
    rw [e8]
    by_cases q : j = ac_n' kn
    · subst q
      refine (hpw.cp k5).ext (fun i hi => ?_)
      show _ = (if 40 * ac_n' kn ≤ 40 * ac_n' kn + i ∧ 40 * ac_n' kn + i < 40 * ac_n' kn + 40 then ρ.1 4 (40 * ac_n' kn + i - 40 * ac_n' kn) else _)
      rw [if_pos (by omega), Nat.add_sub_cancel_left]
    · by_cases z : kn = 24
      · subst z
        have eo : ac_o od 24 = (od + 1) % 24 := rfl
        have en : ac_n' 24 = 23 := rfl
        rw [en] at q hj hn
        have old := h7 (j + 1) (by omega)
        have ej : ((od + 1) % 24 + j) % 24 = (od + (j + 1)) % 24 := by rw [Nat.mod_add_mod]; congr 1; omega
        rw [eo, ej]
        refine (old.out (fun k a b => ?_)).ext (fun i hi => ?_)
        · rw [eo, en] at k3
          have d1 := Nat.mod_lt (od + (j + 1)) (show 0 < 24 by decide)
          refine k3 k (by omega) ?_
          have : ¬ (od + (j + 1)) % 24 = ((od + 1) % 24 + 23) % 24 := by omega
          omega
        · show _ = (if 40 * ac_n' 24 ≤ 40 * j + i ∧ 40 * j + i < 40 * ac_n' 24 + 40 then _ else (if ρ.1 0 18 = 24 then ac_shift 920 (ρ.1 8) else ρ.1 8) (40 * j + i))
          rw [en, if_neg (by omega), if_pos (by rw [h5]; rfl)]
          show _ = (if 40 * j + i < 920 then ρ.1 8 (40 * j + i + 40) else _)
          rw [if_pos (by omega)]
          exact congrArg (ρ.1 8) (by omega)
      · have eo : ac_o od kn = od := if_neg z
        have en : ac_n' kn = kn := if_neg z
        rw [en] at q hj
        rw [eo]
        refine ((h7 j (by omega)).out (fun k a b => ?_)).ext (fun i hi => ?_)
        · rw [eo, en] at k3
          have d1 := Nat.mod_lt (od + j) (show 0 < 24 by decide)
          refine k3 k (by omega) ?_
          have : ¬ (od + j) % 24 = (od + kn) % 24 := by omega
          omega
        · show _ = (if 40 * ac_n' kn ≤ 40 * j + i ∧ 40 * j + i < 40 * ac_n' kn + 40 then _ else (if ρ.1 0 18 = 24 then ac_shift 920 (ρ.1 8) else ρ.1 8) (40 * j + i))
          rw [en, if_neg (by omega), if_neg (by rw [h5]; exact fun q2 => z (nI_inj (by omega) (by decide) q2))]
end
