theorem pz_post_eq {N : Nat} {res res2 : pz_R} {r : Int32} {σ τ : rx_S} (e : res = res2) (h : pz_post N res2 σ r τ) : pz_post N res σ r τ := by subst e; exact h
theorem pz_loop_x {T : Nat → Int32} {N f p : Nat} {rd : Nat → Int32} (h : pz_tok T N p = 3 ∧ ¬ rd 3 = 0) : pz_loop T N (f + 1) p rd = (0, p, rd) := by rw [pz_loop, if_pos h]
theorem pz_loop_f {T : Nat → Int32} {N f p : Nat} {rd : Nat → Int32} {it : pz_R} (h : ¬ (pz_tok T N p = 3 ∧ ¬ rd 3 = 0)) (e : pz_item T N p rd = it) (hz : ¬ it.1 = 0) : pz_loop T N (f + 1) p rd = it := by subst e; rw [pz_loop, if_neg h, if_neg hz]
theorem pz_loop_s {T : Nat → Int32} {N f p : Nat} {rd : Nat → Int32} {it : pz_R} (h : ¬ (pz_tok T N p = 3 ∧ ¬ rd 3 = 0)) (e : pz_item T N p rd = it) (hz : it.1 = 0) : pz_loop T N (f + 1) p rd = pz_loop T N f it.2.1 it.2.2 := by subst e; rw [pz_loop, if_neg h, if_pos hz]
/-- what has been read so far is as told -/
def pz_I (rd : Nat → Int32) : Prop := (1 ≤ (rd 0).toInt ∧ (rd 0).toInt ≤ 99) ∧ rd 1 = 0 ∧ (0 ≤ (rd 2).toInt ∧ (rd 2).toInt ≤ 5) ∧ (0 ≤ (rd 3).toInt ∧ (rd 3).toInt ≤ 6) ∧ rd 4 = 0 ∧ (∀ i, i < rx_N (rd 2) → 0 ≤ (rd (5 + i)).toInt ∧ (rd (5 + i)).toInt ≤ 99) ∧ (∀ a, a < rx_N (rd 3) → w_A rd a) ∧ (¬ rd 3 = 0 → ¬ rd 2 = 0)
theorem pz_toI {x : Int32} {n : Int} (h : ¬ x.toInt = n) : ∀ c : Int32, c.toInt = n → ¬ x = c := fun c hc q => h (q ▸ hc)
theorem pz_I_V {rd : Nat → Int32} (h : pz_I rd) (h3 : ¬ rd 3 = 0) : w_V 0 rd := by
  obtain ⟨a0, a1, a2, a3, a4, a5, a6, a7⟩ := h
  have b2 : ¬ (rd 2).toInt = 0 := fun q => a7 h3 (Int32.toInt_inj.mp q)
  have b3 : ¬ (rd 3).toInt = 0 := fun q => h3 (Int32.toInt_inj.mp q)
  exact ⟨⟨by omega, by omega⟩, by rw [a1]; decide, ⟨by omega, by omega⟩, ⟨by omega, by omega⟩, a5, a6⟩
theorem pz_inc {x : Int32} (h : 0 ≤ x.toInt ∧ x.toInt ≤ 100) : (x + 1).toInt = x.toInt + 1 ∧ rx_N (x + 1) = rx_N x + 1 := by
  have e : (x + 1).toInt = x.toInt + 1 := w_add_toInt (by omega) (by omega) (by decide) (by decide)
  have e1 := rx_Ni h.1
  have e2 := rx_Ni (x := x + 1) (by omega)
  exact ⟨e, by omega⟩
theorem pz_I_pull {T : Nat → Int32} {N p : Nat} {rd : Nat → Int32} (hp : p + 1 ≤ N) (h : pz_I rd) (hz : (pz_pull T N p rd).1 = 0) : pz_I (pz_pull T N p rd).2.2 ∧ p < (pz_pull T N p rd).2.1 ∧ (pz_pull T N p rd).2.1 ≤ N := by
  unfold pz_pull at hz ⊢
  split at hz
  · rename_i q
    have hz : (if 0 < rd 3 then (1 : Int32) else 3) = 0 := hz
    split at hz
    · exact absurd hz n10
    · exact absurd hz n30
  · rename_i q
    split at hz
    · rename_i q2
      rw [if_neg q, if_pos q2]
      obtain ⟨c1, c2, c3, c4⟩ := pz_num_0 hp q2
      generalize pz_num T N (p + 1) 0 99 59 = res at *
      refine ⟨?_, by show p < res.2.1; omega, by show res.2.1 ≤ N; exact c2⟩
      show pz_I (upd (upd rd 2 (rd 2 + 1)) (5 + rx_N (rd 2)) res.2.2)
      have c3 : 0 ≤ res.2.2.toInt := c3
      have c4 : res.2.2.toInt ≤ 99 := c4
      obtain ⟨a0, a1, a2, a3, a4, a5, a6, a7⟩ := h
      have q5 : ¬ (rd 2).toInt = 5 := fun z => q (Or.inl (Int32.toInt_inj.mp z))
      obtain ⟨i1, i2⟩ := pz_inc (x := rd 2) (by omega)
      have n2 := rx_Ni a2.1
      have e : ∀ j, j ≠ 2 → j ≠ 5 + rx_N (rd 2) → upd (upd rd 2 (rd 2 + 1)) (5 + rx_N (rd 2)) res.2.2 j = rd j := fun j z1 z2 => by rw [upd_n z2, upd_n z1]
      have e2 : upd (upd rd 2 (rd 2 + 1)) (5 + rx_N (rd 2)) res.2.2 2 = rd 2 + 1 := by rw [upd_n (by omega), upd_s]
      have e3 := e 3 (by omega) (by omega)
      have n3 := rx_Ni a3.1
      refine ⟨by rw [e 0 (by omega) (by omega)]; exact a0, by rw [e 1 (by omega) (by omega)]; exact a1, by rw [e2]; omega, by rw [e3]; exact a3, by rw [e 4 (by omega) (by omega)]; exact a4, ?_, ?_, ?_⟩
      · intro i hi
        rw [e2, i2] at hi
        by_cases z : i = rx_N (rd 2)
        · subst z
          rw [upd_s]
          exact ⟨c3, c4⟩
        · rw [e (5 + i) (by omega) (by omega)]
          exact a5 i (by omega)
      · intro a ha
        rw [e3] at ha
        obtain ⟨b1, b2, b3, b4, b5⟩ := a6 a ha
        exact ⟨by rw [e _ (by omega) (by omega)]; exact b1, by rw [e _ (by omega) (by omega)]; exact b2, by rw [e _ (by omega) (by omega)]; exact b3, by rw [e _ (by omega) (by omega)]; exact b4, by rw [e _ (by omega) (by omega)]; exact b5⟩
      · intro _ z
        rw [e2] at z
        have : (rd 2 + 1).toInt = 0 := by rw [z]; rfl
        omega
    · rename_i q2
      exact absurd hz q2
theorem pz_rd_at {rd : Nat → Int32} {a : Nat} {k v1 v2 v3 : Int32} (ha : a < 6) : (∀ j, j ≠ 3 → j ≠ 10 + a → j ≠ 16 + a → j ≠ 22 + a → j ≠ 28 + a → j ≠ 34 + a → pz_rd rd a k v1 v2 v3 j = rd j) ∧ pz_rd rd a k v1 v2 v3 3 = rd 3 + 1 ∧ pz_rd rd a k v1 v2 v3 (10 + a) = k ∧ pz_rd rd a k v1 v2 v3 (16 + a) = v1 ∧ pz_rd rd a k v1 v2 v3 (22 + a) = v2 ∧ pz_rd rd a k v1 v2 v3 (28 + a) = v3 ∧ pz_rd rd a k v1 v2 v3 (34 + a) = 10000 * v2 := by
  unfold pz_rd
  refine ⟨fun j h1 h2 h3 h4 h5 h6 => ?_, ?_, ?_, ?_, ?_, ?_, ?_⟩
  · rw [upd_n h5, upd_n h6, upd_n h4, upd_n h3, upd_n h1, upd_n h2]
  · rw [upd_n (by omega), upd_n (by omega), upd_n (by omega), upd_n (by omega), upd_s]
  · rw [upd_n (by omega), upd_n (by omega), upd_n (by omega), upd_n (by omega), upd_n (by omega), upd_s]
  · rw [upd_n (by omega), upd_n (by omega), upd_n (by omega), upd_s]
  · rw [upd_n (by omega), upd_n (by omega), upd_s]
  · rw [upd_s]
  · rw [upd_n (by omega), upd_s]
theorem pz_I_rd {rd : Nat → Int32} {k v1 v2 v3 : Int32} (h : pz_I rd) (h6 : ¬ rd 3 = 6) (h2 : ¬ rd 2 = 0) (hk : 1 ≤ k.toInt ∧ k.toInt ≤ 5) (g1 : 1 ≤ v1.toInt ∧ v1.toInt ≤ 20) (g2 : 0 ≤ v2.toInt ∧ v2.toInt ≤ 99) (g3 : 1 ≤ v3.toInt ∧ v3.toInt ≤ 9) : pz_I (pz_rd rd (rx_N (rd 3)) k v1 v2 v3) := by
  obtain ⟨a0, a1, a2, a3, a4, a5, a6, a7⟩ := h
  have q6 : ¬ (rd 3).toInt = 6 := fun z => h6 (Int32.toInt_inj.mp z)
  have n3 := rx_Ni a3.1
  have n2 := rx_Ni a2.1
  obtain ⟨i1, i2⟩ := pz_inc (x := rd 3) (by omega)
  obtain ⟨r0, r3, r10, r16, r22, r28, r34⟩ := pz_rd_at (rd := rd) (a := rx_N (rd 3)) (k := k) (v1 := v1) (v2 := v2) (v3 := v3) (by omega)
  have e2 := r0 2 (by omega) (by omega) (by omega) (by omega) (by omega) (by omega)
  refine ⟨by rw [r0 0 (by omega) (by omega) (by omega) (by omega) (by omega) (by omega)]; exact a0, by rw [r0 1 (by omega) (by omega) (by omega) (by omega) (by omega) (by omega)]; exact a1, by rw [e2]; exact a2, by rw [r3]; omega, by rw [r0 4 (by omega) (by omega) (by omega) (by omega) (by omega) (by omega)]; exact a4, ?_, ?_, by rw [e2]; exact fun _ => h2⟩
  · intro i hi
    rw [e2] at hi
    rw [r0 (5 + i) (by omega) (by omega) (by omega) (by omega) (by omega) (by omega)]
    exact a5 i hi
  · intro a ha
    rw [r3, i2] at ha
    by_cases z : a = rx_N (rd 3)
    · subst z
      refine ⟨by rw [r10]; exact hk, by rw [r16]; exact g1, by rw [r22]; exact g2, by rw [r28]; exact g3, ?_⟩
      rw [r34]
      have e : (10000 * v2).toInt = 10000 * v2.toInt := by
        rw [Int32.toInt_mul, show (10000 : Int32).toInt = 10000 from rfl, Int.bmod_eq_of_le] <;> omega
      rw [e]
      omega
    · obtain ⟨b1, b2, b3, b4, b5⟩ := a6 a (by omega)
      have ee : ∀ c, c = 10 ∨ c = 16 ∨ c = 22 ∨ c = 28 ∨ c = 34 → pz_rd rd (rx_N (rd 3)) k v1 v2 v3 (c + a) = rd (c + a) := fun c hc => r0 (c + a) (by omega) (by omega) (by omega) (by omega) (by omega) (by omega)
      exact ⟨by rw [ee 10 (by omega)]; exact b1, by rw [ee 16 (by omega)]; exact b2, by rw [ee 22 (by omega)]; exact b3, by rw [ee 28 (by omega)]; exact b4, by rw [ee 34 (by omega)]; exact b5⟩
theorem pz_I_ant {T : Nat → Int32} {N p : Nat} {k : Int32} {rd : Nat → Int32} (hp : p + 1 ≤ N) (hk : 1 ≤ k.toInt ∧ k.toInt ≤ 5) (h : pz_I rd) (hz : (pz_ant T N p k rd).1 = 0) : pz_I (pz_ant T N p k rd).2.2 ∧ p < (pz_ant T N p k rd).2.1 ∧ (pz_ant T N p k rd).2.1 ≤ N := by
  unfold pz_ant at hz ⊢
  split at hz
  · have hz : (if rd 2 = 0 then (1 : Int32) else 3) = 0 := hz
    split at hz
    · exact absurd hz n10
    · exact absurd hz n30
  · rename_i q
    rw [if_neg q]
    unfold pz_ant1 at hz ⊢
    split at hz
    · rename_i q1
      rw [if_pos q1]
      obtain ⟨c1, c2, c3, c4⟩ := pz_num_0 hp q1
      generalize pz_num T N (p + 1) 1 20 44 = n1 at *
      unfold pz_ant2 at hz ⊢
      split at hz
      · rename_i q2
        rw [if_pos q2]
        obtain ⟨d1, d2, d3, d4⟩ := pz_num_0 c2 q2
        generalize pz_num T N n1.2.1 0 99 44 = n2 at *
        unfold pz_ant3 at hz ⊢
        split at hz
        · rename_i q3
          rw [if_pos q3]
          obtain ⟨f1, f2, f3, f4⟩ := pz_num_0 d2 q3
          generalize pz_num T N n2.2.1 1 9 59 = m3 at *
          exact ⟨pz_I_rd h (fun z => q (Or.inl z)) (fun z => q (Or.inr z)) hk ⟨c3, c4⟩ ⟨d3, d4⟩ ⟨f3, f4⟩, by show p < m3.2.1; omega, f2⟩
        · rename_i q3
          exact absurd hz q3
      · rename_i q2
        exact absurd hz q2
    · rename_i q1
      exact absurd hz q1
set_option maxHeartbeats 4000000 in
set_option maxRecDepth 100000 in
theorem kX8_readWall {l : Launch} {O : rx_O} (hO : mo_O O) {σ : rx_S} {N : Nat} (h9 : σ.1 0 9 = nI N) (hN : N ≤ 120) : rx_MI l O yX8_readWall cX8_readWall 3 (some .boolean) 5 [.ref 0] σ (fun r τ => pz_post N (pz_wall (σ.1 6) N (σ.1 7)) σ r τ) := by
  refine rx_Met_of (own := RX8) rfl hO.2.1 vsX8_readWall.2.2.2.2.2 (Nat.le_of_ble_eq_true rfl) rfl (fun p e s m args below meth cd X => ?_)
  have loop : ∀ (k : Nat) (p0 : Nat) (τ : rx_S), (N - p0 < k) → (pz_ok σ τ) → (pz_st N p0 τ) → (p0 ≤ N) → (pz_I (τ.1 7)) → ((pz_wall (σ.1 6) N (σ.1 7)) = pz_loop (σ.1 6) N k p0 (τ.1 7)) → rx_J O 3 p l e (rx_lv 5) s m args below meth cd (rx_QI O below args s (fun r τ => pz_post N (pz_wall (σ.1 6) N (σ.1 7)) σ r τ)) 56 [(0, .ref 0), (1, .int 1)] [] τ := by
    intro k
    induction k with
    | zero =>
      intro p0 τ hf hok hs hp0 hI hu
      exact absurd hf (by omega)
    | succ k ih =>
      intro p0 τ hf hok hs hp0 hI hu
      have hT : τ.1 6 = σ.1 6 := hok.t
      refine rx_iload_n (i := 1) X dX8_readWall_56 rfl rfl ?_
      refine rx_if_eq_f X dX8_readWall_57 (by decide) ?_
      refine rx_aload_n (i := 0) X dX8_readWall_60 rfl rfl ?_
      refine rx_getI (ci := 8) (i := 12) X (km_0 hO) rfl rfl (by decide) inX8 flX8_97 dX8_readWall_61 ?_
      refine rx_iconst (v := 3) X dX8_readWall_64 (by decide) ?_
      refine rx_icmp_ne X dX8_readWall_65 (fun h65 => ?_) (fun h65 => ?_)
      · refine rx_aload_n (i := 0) X dX8_readWall_77 rfl rfl ?_
        refine rx_bipush (v := 112) X dX8_readWall_78 (by decide) ?_
        refine rx_callVi (ci := 8) X vsX8_isLetter mlX8_114 (kX8_isLetter hO hs hp0 (by decide)) (km_0 hO) rfl rfl (by decide) (by decide) dX8_readWall_80 rfl (Nat.le_of_ble_eq_true rfl) (fun r80 t80 h80 => ?_)
        obtain ⟨rfl, ⟨rfl, h80⟩ | ⟨rfl, h80⟩⟩ := h80
        all_goals rw [hT] at h80
        · refine rx_if_eq_f X dX8_readWall_83 (by decide) ?_
          refine rx_iconst (v := 1) X dX8_readWall_86 (by decide) ?_
          refine rx_goto X dX8_readWall_87 ?_
          refine rx_istore_n (i := 2) (lo2 := [(0, .ref _), (1, .int _), (2, .int _)]) X dX8_readWall_143 rfl (by decide) rfl ?_
          refine rx_iload_n (i := 2) X dX8_readWall_144 rfl rfl ?_
          refine rx_if_le_f X dX8_readWall_145 (by decide) ?_
          refine rx_aload_n (i := 0) X dX8_readWall_148 rfl rfl ?_
          refine rx_iload_n (i := 2) X dX8_readWall_149 rfl rfl ?_
          refine rx_callVi (ci := 8) X vsX8_readAnt mlX8_130 (kX8_readAnt hO hs (by rw [hT]; exact pz_c_nx (by decide) h80) (by have := h80.1; omega) hN ⟨hI.2.2.2.1.1, hI.2.2.2.1.2⟩) (km_0 hO) rfl rfl (by decide) (by decide) dX8_readWall_150 rfl (Nat.le_of_ble_eq_true rfl) (fun r150 t150 h150 => ?_)
          obtain ⟨ok150, ⟨rfl, z150, st150, rd150⟩ | ⟨rfl, z150, w150, b150⟩⟩ := h150
          · refine rx_goto X dX8_readWall_153 ?_
            refine rx_istore_n (i := 1) (lo2 := [(0, .ref _), (1, .int _), (2, .int _)]) X dX8_readWall_177 rfl (by decide) rfl ?_
            refine rx_goto X dX8_readWall_178 ?_
            have hk : pz_kind ((σ.1 6) p0) = 1 := by rw [h80.2]; rfl
            have ei : (pz_item (σ.1 6) N p0 (τ.1 7)) = pz_ant (σ.1 6) N p0 1 (τ.1 7) := by rw [pz_item, if_pos ⟨h80.1, by rw [hk]; decide⟩, hk]
            have hloop : ¬ (pz_tok (σ.1 6) N p0 = 3 ∧ ¬ τ.1 7 3 = 0) := fun z => h65 (by rw [← hT] at z; exact hs.2.2.1.trans z.1)
            rw [hT] at z150 st150 rd150
            obtain ⟨g1, g2, g3⟩ := pz_I_ant (by have := h80.1; omega) (by decide) hI z150
            refine rx_less [0, 1] rfl ?_
            refine ih _ _ (by omega) (hok.tr ok150) st150 g3 (by rw [rd150]; exact g1) ?_
            rw [hu, pz_loop_s hloop ei z150, rd150]
          · refine rx_goto X dX8_readWall_153 ?_
            refine rx_istore_n (i := 1) (lo2 := [(0, .ref _), (1, .int _), (2, .int _)]) X dX8_readWall_177 rfl (by decide) rfl ?_
            refine rx_goto X dX8_readWall_178 ?_
            refine rx_iload_n (i := 1) X dX8_readWall_56 rfl rfl ?_
            refine rx_if_eq_t X dX8_readWall_57 (by decide) ?_
            refine rx_iload_n (i := 1) X dX8_readWall_181 rfl rfl ?_
            refine rx_zret X dX8_readWall_182 rfl ?_
            have hk : pz_kind ((σ.1 6) p0) = 1 := by rw [h80.2]; rfl
            have ei : (pz_item (σ.1 6) N p0 (τ.1 7)) = pz_ant (σ.1 6) N p0 1 (τ.1 7) := by rw [pz_item, if_pos ⟨h80.1, by rw [hk]; decide⟩, hk]
            have hloop : ¬ (pz_tok (σ.1 6) N p0 = 3 ∧ ¬ τ.1 7 3 = 0) := fun z => h65 (by rw [← hT] at z; exact hs.2.2.1.trans z.1)
            rw [hT] at z150 w150 b150
            exact pz_post_eq (hu.trans (pz_loop_f hloop ei z150)) ⟨hok.tr ok150, Or.inr ⟨rfl, z150, w150, b150⟩⟩
        · refine rx_if_eq_t X dX8_readWall_83 (by decide) ?_
          refine rx_aload_n (i := 0) X dX8_readWall_90 rfl rfl ?_
          refine rx_bipush (v := 116) X dX8_readWall_91 (by decide) ?_
          refine rx_callVi (ci := 8) X vsX8_isLetter mlX8_114 (kX8_isLetter hO hs hp0 (by decide)) (km_0 hO) rfl rfl (by decide) (by decide) dX8_readWall_93 rfl (Nat.le_of_ble_eq_true rfl) (fun r93 t93 h93 => ?_)
          obtain ⟨rfl, ⟨rfl, h93⟩ | ⟨rfl, h93⟩⟩ := h93
          all_goals rw [hT] at h93
          · refine rx_if_eq_f X dX8_readWall_96 (by decide) ?_
            refine rx_iconst (v := 2) X dX8_readWall_99 (by decide) ?_
            refine rx_goto X dX8_readWall_100 ?_
            refine rx_istore_n (i := 2) (lo2 := [(0, .ref _), (1, .int _), (2, .int _)]) X dX8_readWall_143 rfl (by decide) rfl ?_
            refine rx_iload_n (i := 2) X dX8_readWall_144 rfl rfl ?_
            refine rx_if_le_f X dX8_readWall_145 (by decide) ?_
            refine rx_aload_n (i := 0) X dX8_readWall_148 rfl rfl ?_
            refine rx_iload_n (i := 2) X dX8_readWall_149 rfl rfl ?_
            refine rx_callVi (ci := 8) X vsX8_readAnt mlX8_130 (kX8_readAnt hO hs (by rw [hT]; exact pz_c_nx (by decide) h93) (by have := h93.1; omega) hN ⟨hI.2.2.2.1.1, hI.2.2.2.1.2⟩) (km_0 hO) rfl rfl (by decide) (by decide) dX8_readWall_150 rfl (Nat.le_of_ble_eq_true rfl) (fun r150 t150 h150 => ?_)
            obtain ⟨ok150, ⟨rfl, z150, st150, rd150⟩ | ⟨rfl, z150, w150, b150⟩⟩ := h150
            · refine rx_goto X dX8_readWall_153 ?_
              refine rx_istore_n (i := 1) (lo2 := [(0, .ref _), (1, .int _), (2, .int _)]) X dX8_readWall_177 rfl (by decide) rfl ?_
              refine rx_goto X dX8_readWall_178 ?_
              have hk : pz_kind ((σ.1 6) p0) = 2 := by rw [h93.2]; rfl
              have ei : (pz_item (σ.1 6) N p0 (τ.1 7)) = pz_ant (σ.1 6) N p0 2 (τ.1 7) := by rw [pz_item, if_pos ⟨h93.1, by rw [hk]; decide⟩, hk]
              have hloop : ¬ (pz_tok (σ.1 6) N p0 = 3 ∧ ¬ τ.1 7 3 = 0) := fun z => h65 (by rw [← hT] at z; exact hs.2.2.1.trans z.1)
              rw [hT] at z150 st150 rd150
              obtain ⟨g1, g2, g3⟩ := pz_I_ant (by have := h93.1; omega) (by decide) hI z150
              refine rx_less [0, 1] rfl ?_
              refine ih _ _ (by omega) (hok.tr ok150) st150 g3 (by rw [rd150]; exact g1) ?_
              rw [hu, pz_loop_s hloop ei z150, rd150]
            · refine rx_goto X dX8_readWall_153 ?_
              refine rx_istore_n (i := 1) (lo2 := [(0, .ref _), (1, .int _), (2, .int _)]) X dX8_readWall_177 rfl (by decide) rfl ?_
              refine rx_goto X dX8_readWall_178 ?_
              refine rx_iload_n (i := 1) X dX8_readWall_56 rfl rfl ?_
              refine rx_if_eq_t X dX8_readWall_57 (by decide) ?_
              refine rx_iload_n (i := 1) X dX8_readWall_181 rfl rfl ?_
              refine rx_zret X dX8_readWall_182 rfl ?_
              have hk : pz_kind ((σ.1 6) p0) = 2 := by rw [h93.2]; rfl
              have ei : (pz_item (σ.1 6) N p0 (τ.1 7)) = pz_ant (σ.1 6) N p0 2 (τ.1 7) := by rw [pz_item, if_pos ⟨h93.1, by rw [hk]; decide⟩, hk]
              have hloop : ¬ (pz_tok (σ.1 6) N p0 = 3 ∧ ¬ τ.1 7 3 = 0) := fun z => h65 (by rw [← hT] at z; exact hs.2.2.1.trans z.1)
              rw [hT] at z150 w150 b150
              exact pz_post_eq (hu.trans (pz_loop_f hloop ei z150)) ⟨hok.tr ok150, Or.inr ⟨rfl, z150, w150, b150⟩⟩
          · refine rx_if_eq_t X dX8_readWall_96 (by decide) ?_
            refine rx_aload_n (i := 0) X dX8_readWall_103 rfl rfl ?_
            refine rx_bipush (v := 113) X dX8_readWall_104 (by decide) ?_
            refine rx_callVi (ci := 8) X vsX8_isLetter mlX8_114 (kX8_isLetter hO hs hp0 (by decide)) (km_0 hO) rfl rfl (by decide) (by decide) dX8_readWall_106 rfl (Nat.le_of_ble_eq_true rfl) (fun r106 t106 h106 => ?_)
            obtain ⟨rfl, ⟨rfl, h106⟩ | ⟨rfl, h106⟩⟩ := h106
            all_goals rw [hT] at h106
            · refine rx_if_eq_f X dX8_readWall_109 (by decide) ?_
              refine rx_iconst (v := 3) X dX8_readWall_112 (by decide) ?_
              refine rx_goto X dX8_readWall_113 ?_
              refine rx_istore_n (i := 2) (lo2 := [(0, .ref _), (1, .int _), (2, .int _)]) X dX8_readWall_143 rfl (by decide) rfl ?_
              refine rx_iload_n (i := 2) X dX8_readWall_144 rfl rfl ?_
              refine rx_if_le_f X dX8_readWall_145 (by decide) ?_
              refine rx_aload_n (i := 0) X dX8_readWall_148 rfl rfl ?_
              refine rx_iload_n (i := 2) X dX8_readWall_149 rfl rfl ?_
              refine rx_callVi (ci := 8) X vsX8_readAnt mlX8_130 (kX8_readAnt hO hs (by rw [hT]; exact pz_c_nx (by decide) h106) (by have := h106.1; omega) hN ⟨hI.2.2.2.1.1, hI.2.2.2.1.2⟩) (km_0 hO) rfl rfl (by decide) (by decide) dX8_readWall_150 rfl (Nat.le_of_ble_eq_true rfl) (fun r150 t150 h150 => ?_)
              obtain ⟨ok150, ⟨rfl, z150, st150, rd150⟩ | ⟨rfl, z150, w150, b150⟩⟩ := h150
              · refine rx_goto X dX8_readWall_153 ?_
                refine rx_istore_n (i := 1) (lo2 := [(0, .ref _), (1, .int _), (2, .int _)]) X dX8_readWall_177 rfl (by decide) rfl ?_
                refine rx_goto X dX8_readWall_178 ?_
                have hk : pz_kind ((σ.1 6) p0) = 3 := by rw [h106.2]; rfl
                have ei : (pz_item (σ.1 6) N p0 (τ.1 7)) = pz_ant (σ.1 6) N p0 3 (τ.1 7) := by rw [pz_item, if_pos ⟨h106.1, by rw [hk]; decide⟩, hk]
                have hloop : ¬ (pz_tok (σ.1 6) N p0 = 3 ∧ ¬ τ.1 7 3 = 0) := fun z => h65 (by rw [← hT] at z; exact hs.2.2.1.trans z.1)
                rw [hT] at z150 st150 rd150
                obtain ⟨g1, g2, g3⟩ := pz_I_ant (by have := h106.1; omega) (by decide) hI z150
                refine rx_less [0, 1] rfl ?_
                refine ih _ _ (by omega) (hok.tr ok150) st150 g3 (by rw [rd150]; exact g1) ?_
                rw [hu, pz_loop_s hloop ei z150, rd150]
              · refine rx_goto X dX8_readWall_153 ?_
                refine rx_istore_n (i := 1) (lo2 := [(0, .ref _), (1, .int _), (2, .int _)]) X dX8_readWall_177 rfl (by decide) rfl ?_
                refine rx_goto X dX8_readWall_178 ?_
                refine rx_iload_n (i := 1) X dX8_readWall_56 rfl rfl ?_
                refine rx_if_eq_t X dX8_readWall_57 (by decide) ?_
                refine rx_iload_n (i := 1) X dX8_readWall_181 rfl rfl ?_
                refine rx_zret X dX8_readWall_182 rfl ?_
                have hk : pz_kind ((σ.1 6) p0) = 3 := by rw [h106.2]; rfl
                have ei : (pz_item (σ.1 6) N p0 (τ.1 7)) = pz_ant (σ.1 6) N p0 3 (τ.1 7) := by rw [pz_item, if_pos ⟨h106.1, by rw [hk]; decide⟩, hk]
                have hloop : ¬ (pz_tok (σ.1 6) N p0 = 3 ∧ ¬ τ.1 7 3 = 0) := fun z => h65 (by rw [← hT] at z; exact hs.2.2.1.trans z.1)
                rw [hT] at z150 w150 b150
                exact pz_post_eq (hu.trans (pz_loop_f hloop ei z150)) ⟨hok.tr ok150, Or.inr ⟨rfl, z150, w150, b150⟩⟩
            · refine rx_if_eq_t X dX8_readWall_109 (by decide) ?_
              refine rx_aload_n (i := 0) X dX8_readWall_116 rfl rfl ?_
              refine rx_bipush (v := 98) X dX8_readWall_117 (by decide) ?_
              refine rx_callVi (ci := 8) X vsX8_isLetter mlX8_114 (kX8_isLetter hO hs hp0 (by decide)) (km_0 hO) rfl rfl (by decide) (by decide) dX8_readWall_119 rfl (Nat.le_of_ble_eq_true rfl) (fun r119 t119 h119 => ?_)
              obtain ⟨rfl, ⟨rfl, h119⟩ | ⟨rfl, h119⟩⟩ := h119
              all_goals rw [hT] at h119
              · refine rx_if_eq_f X dX8_readWall_122 (by decide) ?_
                refine rx_iconst (v := 4) X dX8_readWall_125 (by decide) ?_
                refine rx_goto X dX8_readWall_126 ?_
                refine rx_istore_n (i := 2) (lo2 := [(0, .ref _), (1, .int _), (2, .int _)]) X dX8_readWall_143 rfl (by decide) rfl ?_
                refine rx_iload_n (i := 2) X dX8_readWall_144 rfl rfl ?_
                refine rx_if_le_f X dX8_readWall_145 (by decide) ?_
                refine rx_aload_n (i := 0) X dX8_readWall_148 rfl rfl ?_
                refine rx_iload_n (i := 2) X dX8_readWall_149 rfl rfl ?_
                refine rx_callVi (ci := 8) X vsX8_readAnt mlX8_130 (kX8_readAnt hO hs (by rw [hT]; exact pz_c_nx (by decide) h119) (by have := h119.1; omega) hN ⟨hI.2.2.2.1.1, hI.2.2.2.1.2⟩) (km_0 hO) rfl rfl (by decide) (by decide) dX8_readWall_150 rfl (Nat.le_of_ble_eq_true rfl) (fun r150 t150 h150 => ?_)
                obtain ⟨ok150, ⟨rfl, z150, st150, rd150⟩ | ⟨rfl, z150, w150, b150⟩⟩ := h150
                · refine rx_goto X dX8_readWall_153 ?_
                  refine rx_istore_n (i := 1) (lo2 := [(0, .ref _), (1, .int _), (2, .int _)]) X dX8_readWall_177 rfl (by decide) rfl ?_
                  refine rx_goto X dX8_readWall_178 ?_
                  have hk : pz_kind ((σ.1 6) p0) = 4 := by rw [h119.2]; rfl
                  have ei : (pz_item (σ.1 6) N p0 (τ.1 7)) = pz_ant (σ.1 6) N p0 4 (τ.1 7) := by rw [pz_item, if_pos ⟨h119.1, by rw [hk]; decide⟩, hk]
                  have hloop : ¬ (pz_tok (σ.1 6) N p0 = 3 ∧ ¬ τ.1 7 3 = 0) := fun z => h65 (by rw [← hT] at z; exact hs.2.2.1.trans z.1)
                  rw [hT] at z150 st150 rd150
                  obtain ⟨g1, g2, g3⟩ := pz_I_ant (by have := h119.1; omega) (by decide) hI z150
                  refine rx_less [0, 1] rfl ?_
                  refine ih _ _ (by omega) (hok.tr ok150) st150 g3 (by rw [rd150]; exact g1) ?_
                  rw [hu, pz_loop_s hloop ei z150, rd150]
                · refine rx_goto X dX8_readWall_153 ?_
                  refine rx_istore_n (i := 1) (lo2 := [(0, .ref _), (1, .int _), (2, .int _)]) X dX8_readWall_177 rfl (by decide) rfl ?_
                  refine rx_goto X dX8_readWall_178 ?_
                  refine rx_iload_n (i := 1) X dX8_readWall_56 rfl rfl ?_
                  refine rx_if_eq_t X dX8_readWall_57 (by decide) ?_
                  refine rx_iload_n (i := 1) X dX8_readWall_181 rfl rfl ?_
                  refine rx_zret X dX8_readWall_182 rfl ?_
                  have hk : pz_kind ((σ.1 6) p0) = 4 := by rw [h119.2]; rfl
                  have ei : (pz_item (σ.1 6) N p0 (τ.1 7)) = pz_ant (σ.1 6) N p0 4 (τ.1 7) := by rw [pz_item, if_pos ⟨h119.1, by rw [hk]; decide⟩, hk]
                  have hloop : ¬ (pz_tok (σ.1 6) N p0 = 3 ∧ ¬ τ.1 7 3 = 0) := fun z => h65 (by rw [← hT] at z; exact hs.2.2.1.trans z.1)
                  rw [hT] at z150 w150 b150
                  exact pz_post_eq (hu.trans (pz_loop_f hloop ei z150)) ⟨hok.tr ok150, Or.inr ⟨rfl, z150, w150, b150⟩⟩
              · refine rx_if_eq_t X dX8_readWall_122 (by decide) ?_
                refine rx_aload_n (i := 0) X dX8_readWall_129 rfl rfl ?_
                refine rx_bipush (v := 117) X dX8_readWall_130 (by decide) ?_
                refine rx_callVi (ci := 8) X vsX8_isLetter mlX8_114 (kX8_isLetter hO hs hp0 (by decide)) (km_0 hO) rfl rfl (by decide) (by decide) dX8_readWall_132 rfl (Nat.le_of_ble_eq_true rfl) (fun r132 t132 h132 => ?_)
                obtain ⟨rfl, ⟨rfl, h132⟩ | ⟨rfl, h132⟩⟩ := h132
                all_goals rw [hT] at h132
                · refine rx_if_eq_f X dX8_readWall_135 (by decide) ?_
                  refine rx_iconst (v := 5) X dX8_readWall_138 (by decide) ?_
                  refine rx_goto X dX8_readWall_139 ?_
                  refine rx_istore_n (i := 2) (lo2 := [(0, .ref _), (1, .int _), (2, .int _)]) X dX8_readWall_143 rfl (by decide) rfl ?_
                  refine rx_iload_n (i := 2) X dX8_readWall_144 rfl rfl ?_
                  refine rx_if_le_f X dX8_readWall_145 (by decide) ?_
                  refine rx_aload_n (i := 0) X dX8_readWall_148 rfl rfl ?_
                  refine rx_iload_n (i := 2) X dX8_readWall_149 rfl rfl ?_
                  refine rx_callVi (ci := 8) X vsX8_readAnt mlX8_130 (kX8_readAnt hO hs (by rw [hT]; exact pz_c_nx (by decide) h132) (by have := h132.1; omega) hN ⟨hI.2.2.2.1.1, hI.2.2.2.1.2⟩) (km_0 hO) rfl rfl (by decide) (by decide) dX8_readWall_150 rfl (Nat.le_of_ble_eq_true rfl) (fun r150 t150 h150 => ?_)
                  obtain ⟨ok150, ⟨rfl, z150, st150, rd150⟩ | ⟨rfl, z150, w150, b150⟩⟩ := h150
                  · refine rx_goto X dX8_readWall_153 ?_
                    refine rx_istore_n (i := 1) (lo2 := [(0, .ref _), (1, .int _), (2, .int _)]) X dX8_readWall_177 rfl (by decide) rfl ?_
                    refine rx_goto X dX8_readWall_178 ?_
                    have hk : pz_kind ((σ.1 6) p0) = 5 := by rw [h132.2]; rfl
                    have ei : (pz_item (σ.1 6) N p0 (τ.1 7)) = pz_ant (σ.1 6) N p0 5 (τ.1 7) := by rw [pz_item, if_pos ⟨h132.1, by rw [hk]; decide⟩, hk]
                    have hloop : ¬ (pz_tok (σ.1 6) N p0 = 3 ∧ ¬ τ.1 7 3 = 0) := fun z => h65 (by rw [← hT] at z; exact hs.2.2.1.trans z.1)
                    rw [hT] at z150 st150 rd150
                    obtain ⟨g1, g2, g3⟩ := pz_I_ant (by have := h132.1; omega) (by decide) hI z150
                    refine rx_less [0, 1] rfl ?_
                    refine ih _ _ (by omega) (hok.tr ok150) st150 g3 (by rw [rd150]; exact g1) ?_
                    rw [hu, pz_loop_s hloop ei z150, rd150]
                  · refine rx_goto X dX8_readWall_153 ?_
                    refine rx_istore_n (i := 1) (lo2 := [(0, .ref _), (1, .int _), (2, .int _)]) X dX8_readWall_177 rfl (by decide) rfl ?_
                    refine rx_goto X dX8_readWall_178 ?_
                    refine rx_iload_n (i := 1) X dX8_readWall_56 rfl rfl ?_
                    refine rx_if_eq_t X dX8_readWall_57 (by decide) ?_
                    refine rx_iload_n (i := 1) X dX8_readWall_181 rfl rfl ?_
                    refine rx_zret X dX8_readWall_182 rfl ?_
                    have hk : pz_kind ((σ.1 6) p0) = 5 := by rw [h132.2]; rfl
                    have ei : (pz_item (σ.1 6) N p0 (τ.1 7)) = pz_ant (σ.1 6) N p0 5 (τ.1 7) := by rw [pz_item, if_pos ⟨h132.1, by rw [hk]; decide⟩, hk]
                    have hloop : ¬ (pz_tok (σ.1 6) N p0 = 3 ∧ ¬ τ.1 7 3 = 0) := fun z => h65 (by rw [← hT] at z; exact hs.2.2.1.trans z.1)
                    rw [hT] at z150 w150 b150
                    exact pz_post_eq (hu.trans (pz_loop_f hloop ei z150)) ⟨hok.tr ok150, Or.inr ⟨rfl, z150, w150, b150⟩⟩
                · refine rx_if_eq_t X dX8_readWall_135 (by decide) ?_
                  refine rx_iconst (v := 0) X dX8_readWall_142 (by decide) ?_
                  refine rx_istore_n (i := 2) (lo2 := [(0, .ref _), (1, .int _), (2, .int _)]) X dX8_readWall_143 rfl (by decide) rfl ?_
                  refine rx_iload_n (i := 2) X dX8_readWall_144 rfl rfl ?_
                  refine rx_if_le_t X dX8_readWall_145 (by decide) ?_
                  refine rx_aload_n (i := 0) X dX8_readWall_156 rfl rfl ?_
                  refine rx_bipush (v := 103) X dX8_readWall_157 (by decide) ?_
                  refine rx_callVi (ci := 8) X vsX8_isLetter mlX8_114 (kX8_isLetter hO hs hp0 (by decide)) (km_0 hO) rfl rfl (by decide) (by decide) dX8_readWall_159 rfl (Nat.le_of_ble_eq_true rfl) (fun r159 t159 h159 => ?_)
                  obtain ⟨rfl, ⟨rfl, h159⟩ | ⟨rfl, h159⟩⟩ := h159
                  all_goals rw [hT] at h159
                  · refine rx_if_eq_f X dX8_readWall_162 (by decide) ?_
                    refine rx_aload_n (i := 0) X dX8_readWall_165 rfl rfl ?_
                    refine rx_callVi (ci := 8) X vsX8_readPull mlX8_133 (kX8_readPull hO hs (by rw [hT]; exact h159) hN hI.2.2.1) (km_0 hO) rfl rfl (by decide) (by decide) dX8_readWall_166 rfl (Nat.le_of_ble_eq_true rfl) (fun r166 t166 h166 => ?_)
                    obtain ⟨ok166, ⟨rfl, z166, st166, rd166⟩ | ⟨rfl, z166, w166, b166⟩⟩ := h166
                    · refine rx_goto X dX8_readWall_169 ?_
                      refine rx_istore_n (i := 1) (lo2 := [(0, .ref _), (1, .int _), (2, .int _)]) X dX8_readWall_177 rfl (by decide) rfl ?_
                      refine rx_goto X dX8_readWall_178 ?_
                      have hk : ¬ (p0 < N ∧ ¬ pz_kind ((σ.1 6) p0) = 0) := fun z => z.2 (by rw [pz_kind, if_neg (fun q => h80 ⟨z.1, q⟩), if_neg (fun q => h93 ⟨z.1, q⟩), if_neg (fun q => h106 ⟨z.1, q⟩), if_neg (fun q => h119 ⟨z.1, q⟩), if_neg (fun q => h132 ⟨z.1, q⟩)])
                      have ei : (pz_item (σ.1 6) N p0 (τ.1 7)) = pz_pull (σ.1 6) N p0 (τ.1 7) := by rw [pz_item, if_neg hk, if_pos h159]
                      have hloop : ¬ (pz_tok (σ.1 6) N p0 = 3 ∧ ¬ τ.1 7 3 = 0) := fun z => h65 (by rw [← hT] at z; exact hs.2.2.1.trans z.1)
                      rw [hT] at z166 st166 rd166
                      obtain ⟨g1, g2, g3⟩ := pz_I_pull (by have := h159.1; omega) hI z166
                      refine rx_less [0, 1] rfl ?_
                      refine ih _ _ (by omega) (hok.tr ok166) st166 g3 (by rw [rd166]; exact g1) ?_
                      rw [hu, pz_loop_s hloop ei z166, rd166]
                    · refine rx_goto X dX8_readWall_169 ?_
                      refine rx_istore_n (i := 1) (lo2 := [(0, .ref _), (1, .int _), (2, .int _)]) X dX8_readWall_177 rfl (by decide) rfl ?_
                      refine rx_goto X dX8_readWall_178 ?_
                      refine rx_iload_n (i := 1) X dX8_readWall_56 rfl rfl ?_
                      refine rx_if_eq_t X dX8_readWall_57 (by decide) ?_
                      refine rx_iload_n (i := 1) X dX8_readWall_181 rfl rfl ?_
                      refine rx_zret X dX8_readWall_182 rfl ?_
                      have hk : ¬ (p0 < N ∧ ¬ pz_kind ((σ.1 6) p0) = 0) := fun z => z.2 (by rw [pz_kind, if_neg (fun q => h80 ⟨z.1, q⟩), if_neg (fun q => h93 ⟨z.1, q⟩), if_neg (fun q => h106 ⟨z.1, q⟩), if_neg (fun q => h119 ⟨z.1, q⟩), if_neg (fun q => h132 ⟨z.1, q⟩)])
                      have ei : (pz_item (σ.1 6) N p0 (τ.1 7)) = pz_pull (σ.1 6) N p0 (τ.1 7) := by rw [pz_item, if_neg hk, if_pos h159]
                      have hloop : ¬ (pz_tok (σ.1 6) N p0 = 3 ∧ ¬ τ.1 7 3 = 0) := fun z => h65 (by rw [← hT] at z; exact hs.2.2.1.trans z.1)
                      rw [hT] at z166 w166 b166
                      exact pz_post_eq (hu.trans (pz_loop_f hloop ei z166)) ⟨hok.tr ok166, Or.inr ⟨rfl, z166, w166, b166⟩⟩
                  · refine rx_if_eq_t X dX8_readWall_162 (by decide) ?_
                    refine rx_aload_n (i := 0) X dX8_readWall_172 rfl rfl ?_
                    refine rx_iconst (v := 1) X dX8_readWall_173 (by decide) ?_
                    refine rx_callVi (ci := 8) X vsX8_faults mlX8_117 (kX8_faults hO) (km_0 hO) rfl rfl (by decide) (by decide) dX8_readWall_174 rfl (Nat.le_of_ble_eq_true rfl) (fun r174 t174 h174 => ?_)
                    obtain ⟨rfl, rfl⟩ := h174
                    refine rx_istore_n (i := 1) (lo2 := [(0, .ref _), (1, .int _), (2, .int _)]) X dX8_readWall_177 rfl (by decide) rfl ?_
                    refine rx_goto X dX8_readWall_178 ?_
                    refine rx_iload_n (i := 1) X dX8_readWall_56 rfl rfl ?_
                    refine rx_if_eq_t X dX8_readWall_57 (by decide) ?_
                    refine rx_iload_n (i := 1) X dX8_readWall_181 rfl rfl ?_
                    refine rx_zret X dX8_readWall_182 rfl ?_
                    have hk : ¬ (p0 < N ∧ ¬ pz_kind ((σ.1 6) p0) = 0) := fun z => z.2 (by rw [pz_kind, if_neg (fun q => h80 ⟨z.1, q⟩), if_neg (fun q => h93 ⟨z.1, q⟩), if_neg (fun q => h106 ⟨z.1, q⟩), if_neg (fun q => h119 ⟨z.1, q⟩), if_neg (fun q => h132 ⟨z.1, q⟩)])
                    have ei : (pz_item (σ.1 6) N p0 (τ.1 7)) = (1, p0, τ.1 7) := by rw [pz_item, if_neg hk, if_neg h159]
                    have hloop : ¬ (pz_tok (σ.1 6) N p0 = 3 ∧ ¬ τ.1 7 3 = 0) := fun z => h65 (by rw [← hT] at z; exact hs.2.2.1.trans z.1)
                    exact pz_post_of (hu.trans (pz_loop_f hloop ei n10)) ⟨hok.u0 (by decide), Or.inr ⟨rfl, n10, u0s, by rw [u0n (by decide)]; exact hs.2.1⟩⟩
      · refine rx_aload_n (i := 0) X dX8_readWall_68 rfl rfl ?_
        refine rx_getR (ci := 8) (i := 16) X (km_0 hO) rfl rfl (by decide) inX8 flX8_32 dX8_readWall_69 ?_
        refine rx_iconst (v := 3) X dX8_readWall_72 (by decide) ?_
        refine rx_ialdN (j := 3) X (km_7 hO) hO.2.2.1 rfl (by decide) (by decide) dX8_readWall_73 ?_
        refine rx_if_ne X dX8_readWall_74 (fun h74 => ?_) (fun h74 => ?_)
        · refine rx_iload_n (i := 1) X dX8_readWall_181 rfl rfl ?_
          refine rx_zret X dX8_readWall_182 rfl ?_
          refine pz_post_of (hu.trans (pz_loop_x ⟨?_, h74⟩)) ⟨hok, Or.inl ⟨rfl, rfl, hs, rfl⟩⟩
          rw [← hT]
          exact hs.2.2.1.symm.trans h65
        · refine rx_aload_n (i := 0) X dX8_readWall_77 rfl rfl ?_
          refine rx_bipush (v := 112) X dX8_readWall_78 (by decide) ?_
          refine rx_callVi (ci := 8) X vsX8_isLetter mlX8_114 (kX8_isLetter hO hs hp0 (by decide)) (km_0 hO) rfl rfl (by decide) (by decide) dX8_readWall_80 rfl (Nat.le_of_ble_eq_true rfl) (fun r80 t80 h80 => ?_)
          obtain ⟨rfl, ⟨rfl, h80⟩ | ⟨rfl, h80⟩⟩ := h80
          all_goals rw [hT] at h80
          · refine rx_if_eq_f X dX8_readWall_83 (by decide) ?_
            refine rx_iconst (v := 1) X dX8_readWall_86 (by decide) ?_
            refine rx_goto X dX8_readWall_87 ?_
            refine rx_istore_n (i := 2) (lo2 := [(0, .ref _), (1, .int _), (2, .int _)]) X dX8_readWall_143 rfl (by decide) rfl ?_
            refine rx_iload_n (i := 2) X dX8_readWall_144 rfl rfl ?_
            refine rx_if_le_f X dX8_readWall_145 (by decide) ?_
            refine rx_aload_n (i := 0) X dX8_readWall_148 rfl rfl ?_
            refine rx_iload_n (i := 2) X dX8_readWall_149 rfl rfl ?_
            refine rx_callVi (ci := 8) X vsX8_readAnt mlX8_130 (kX8_readAnt hO hs (by rw [hT]; exact pz_c_nx (by decide) h80) (by have := h80.1; omega) hN ⟨hI.2.2.2.1.1, hI.2.2.2.1.2⟩) (km_0 hO) rfl rfl (by decide) (by decide) dX8_readWall_150 rfl (Nat.le_of_ble_eq_true rfl) (fun r150 t150 h150 => ?_)
            obtain ⟨ok150, ⟨rfl, z150, st150, rd150⟩ | ⟨rfl, z150, w150, b150⟩⟩ := h150
            · refine rx_goto X dX8_readWall_153 ?_
              refine rx_istore_n (i := 1) (lo2 := [(0, .ref _), (1, .int _), (2, .int _)]) X dX8_readWall_177 rfl (by decide) rfl ?_
              refine rx_goto X dX8_readWall_178 ?_
              have hk : pz_kind ((σ.1 6) p0) = 1 := by rw [h80.2]; rfl
              have ei : (pz_item (σ.1 6) N p0 (τ.1 7)) = pz_ant (σ.1 6) N p0 1 (τ.1 7) := by rw [pz_item, if_pos ⟨h80.1, by rw [hk]; decide⟩, hk]
              have hloop : ¬ (pz_tok (σ.1 6) N p0 = 3 ∧ ¬ τ.1 7 3 = 0) := fun z => z.2 h74
              rw [hT] at z150 st150 rd150
              obtain ⟨g1, g2, g3⟩ := pz_I_ant (by have := h80.1; omega) (by decide) hI z150
              refine rx_less [0, 1] rfl ?_
              refine ih _ _ (by omega) (hok.tr ok150) st150 g3 (by rw [rd150]; exact g1) ?_
              rw [hu, pz_loop_s hloop ei z150, rd150]
            · refine rx_goto X dX8_readWall_153 ?_
              refine rx_istore_n (i := 1) (lo2 := [(0, .ref _), (1, .int _), (2, .int _)]) X dX8_readWall_177 rfl (by decide) rfl ?_
              refine rx_goto X dX8_readWall_178 ?_
              refine rx_iload_n (i := 1) X dX8_readWall_56 rfl rfl ?_
              refine rx_if_eq_t X dX8_readWall_57 (by decide) ?_
              refine rx_iload_n (i := 1) X dX8_readWall_181 rfl rfl ?_
              refine rx_zret X dX8_readWall_182 rfl ?_
              have hk : pz_kind ((σ.1 6) p0) = 1 := by rw [h80.2]; rfl
              have ei : (pz_item (σ.1 6) N p0 (τ.1 7)) = pz_ant (σ.1 6) N p0 1 (τ.1 7) := by rw [pz_item, if_pos ⟨h80.1, by rw [hk]; decide⟩, hk]
              have hloop : ¬ (pz_tok (σ.1 6) N p0 = 3 ∧ ¬ τ.1 7 3 = 0) := fun z => z.2 h74
              rw [hT] at z150 w150 b150
              exact pz_post_eq (hu.trans (pz_loop_f hloop ei z150)) ⟨hok.tr ok150, Or.inr ⟨rfl, z150, w150, b150⟩⟩
          · refine rx_if_eq_t X dX8_readWall_83 (by decide) ?_
            refine rx_aload_n (i := 0) X dX8_readWall_90 rfl rfl ?_
            refine rx_bipush (v := 116) X dX8_readWall_91 (by decide) ?_
            refine rx_callVi (ci := 8) X vsX8_isLetter mlX8_114 (kX8_isLetter hO hs hp0 (by decide)) (km_0 hO) rfl rfl (by decide) (by decide) dX8_readWall_93 rfl (Nat.le_of_ble_eq_true rfl) (fun r93 t93 h93 => ?_)
            obtain ⟨rfl, ⟨rfl, h93⟩ | ⟨rfl, h93⟩⟩ := h93
            all_goals rw [hT] at h93
            · refine rx_if_eq_f X dX8_readWall_96 (by decide) ?_
              refine rx_iconst (v := 2) X dX8_readWall_99 (by decide) ?_
              refine rx_goto X dX8_readWall_100 ?_
              refine rx_istore_n (i := 2) (lo2 := [(0, .ref _), (1, .int _), (2, .int _)]) X dX8_readWall_143 rfl (by decide) rfl ?_
              refine rx_iload_n (i := 2) X dX8_readWall_144 rfl rfl ?_
              refine rx_if_le_f X dX8_readWall_145 (by decide) ?_
              refine rx_aload_n (i := 0) X dX8_readWall_148 rfl rfl ?_
              refine rx_iload_n (i := 2) X dX8_readWall_149 rfl rfl ?_
              refine rx_callVi (ci := 8) X vsX8_readAnt mlX8_130 (kX8_readAnt hO hs (by rw [hT]; exact pz_c_nx (by decide) h93) (by have := h93.1; omega) hN ⟨hI.2.2.2.1.1, hI.2.2.2.1.2⟩) (km_0 hO) rfl rfl (by decide) (by decide) dX8_readWall_150 rfl (Nat.le_of_ble_eq_true rfl) (fun r150 t150 h150 => ?_)
              obtain ⟨ok150, ⟨rfl, z150, st150, rd150⟩ | ⟨rfl, z150, w150, b150⟩⟩ := h150
              · refine rx_goto X dX8_readWall_153 ?_
                refine rx_istore_n (i := 1) (lo2 := [(0, .ref _), (1, .int _), (2, .int _)]) X dX8_readWall_177 rfl (by decide) rfl ?_
                refine rx_goto X dX8_readWall_178 ?_
                have hk : pz_kind ((σ.1 6) p0) = 2 := by rw [h93.2]; rfl
                have ei : (pz_item (σ.1 6) N p0 (τ.1 7)) = pz_ant (σ.1 6) N p0 2 (τ.1 7) := by rw [pz_item, if_pos ⟨h93.1, by rw [hk]; decide⟩, hk]
                have hloop : ¬ (pz_tok (σ.1 6) N p0 = 3 ∧ ¬ τ.1 7 3 = 0) := fun z => z.2 h74
                rw [hT] at z150 st150 rd150
                obtain ⟨g1, g2, g3⟩ := pz_I_ant (by have := h93.1; omega) (by decide) hI z150
                refine rx_less [0, 1] rfl ?_
                refine ih _ _ (by omega) (hok.tr ok150) st150 g3 (by rw [rd150]; exact g1) ?_
                rw [hu, pz_loop_s hloop ei z150, rd150]
              · refine rx_goto X dX8_readWall_153 ?_
                refine rx_istore_n (i := 1) (lo2 := [(0, .ref _), (1, .int _), (2, .int _)]) X dX8_readWall_177 rfl (by decide) rfl ?_
                refine rx_goto X dX8_readWall_178 ?_
                refine rx_iload_n (i := 1) X dX8_readWall_56 rfl rfl ?_
                refine rx_if_eq_t X dX8_readWall_57 (by decide) ?_
                refine rx_iload_n (i := 1) X dX8_readWall_181 rfl rfl ?_
                refine rx_zret X dX8_readWall_182 rfl ?_
                have hk : pz_kind ((σ.1 6) p0) = 2 := by rw [h93.2]; rfl
                have ei : (pz_item (σ.1 6) N p0 (τ.1 7)) = pz_ant (σ.1 6) N p0 2 (τ.1 7) := by rw [pz_item, if_pos ⟨h93.1, by rw [hk]; decide⟩, hk]
                have hloop : ¬ (pz_tok (σ.1 6) N p0 = 3 ∧ ¬ τ.1 7 3 = 0) := fun z => z.2 h74
                rw [hT] at z150 w150 b150
                exact pz_post_eq (hu.trans (pz_loop_f hloop ei z150)) ⟨hok.tr ok150, Or.inr ⟨rfl, z150, w150, b150⟩⟩
            · refine rx_if_eq_t X dX8_readWall_96 (by decide) ?_
              refine rx_aload_n (i := 0) X dX8_readWall_103 rfl rfl ?_
              refine rx_bipush (v := 113) X dX8_readWall_104 (by decide) ?_
              refine rx_callVi (ci := 8) X vsX8_isLetter mlX8_114 (kX8_isLetter hO hs hp0 (by decide)) (km_0 hO) rfl rfl (by decide) (by decide) dX8_readWall_106 rfl (Nat.le_of_ble_eq_true rfl) (fun r106 t106 h106 => ?_)
              obtain ⟨rfl, ⟨rfl, h106⟩ | ⟨rfl, h106⟩⟩ := h106
              all_goals rw [hT] at h106
              · refine rx_if_eq_f X dX8_readWall_109 (by decide) ?_
                refine rx_iconst (v := 3) X dX8_readWall_112 (by decide) ?_
                refine rx_goto X dX8_readWall_113 ?_
                refine rx_istore_n (i := 2) (lo2 := [(0, .ref _), (1, .int _), (2, .int _)]) X dX8_readWall_143 rfl (by decide) rfl ?_
                refine rx_iload_n (i := 2) X dX8_readWall_144 rfl rfl ?_
                refine rx_if_le_f X dX8_readWall_145 (by decide) ?_
                refine rx_aload_n (i := 0) X dX8_readWall_148 rfl rfl ?_
                refine rx_iload_n (i := 2) X dX8_readWall_149 rfl rfl ?_
                refine rx_callVi (ci := 8) X vsX8_readAnt mlX8_130 (kX8_readAnt hO hs (by rw [hT]; exact pz_c_nx (by decide) h106) (by have := h106.1; omega) hN ⟨hI.2.2.2.1.1, hI.2.2.2.1.2⟩) (km_0 hO) rfl rfl (by decide) (by decide) dX8_readWall_150 rfl (Nat.le_of_ble_eq_true rfl) (fun r150 t150 h150 => ?_)
                obtain ⟨ok150, ⟨rfl, z150, st150, rd150⟩ | ⟨rfl, z150, w150, b150⟩⟩ := h150
                · refine rx_goto X dX8_readWall_153 ?_
                  refine rx_istore_n (i := 1) (lo2 := [(0, .ref _), (1, .int _), (2, .int _)]) X dX8_readWall_177 rfl (by decide) rfl ?_
                  refine rx_goto X dX8_readWall_178 ?_
                  have hk : pz_kind ((σ.1 6) p0) = 3 := by rw [h106.2]; rfl
                  have ei : (pz_item (σ.1 6) N p0 (τ.1 7)) = pz_ant (σ.1 6) N p0 3 (τ.1 7) := by rw [pz_item, if_pos ⟨h106.1, by rw [hk]; decide⟩, hk]
                  have hloop : ¬ (pz_tok (σ.1 6) N p0 = 3 ∧ ¬ τ.1 7 3 = 0) := fun z => z.2 h74
                  rw [hT] at z150 st150 rd150
                  obtain ⟨g1, g2, g3⟩ := pz_I_ant (by have := h106.1; omega) (by decide) hI z150
                  refine rx_less [0, 1] rfl ?_
                  refine ih _ _ (by omega) (hok.tr ok150) st150 g3 (by rw [rd150]; exact g1) ?_
                  rw [hu, pz_loop_s hloop ei z150, rd150]
                · refine rx_goto X dX8_readWall_153 ?_
                  refine rx_istore_n (i := 1) (lo2 := [(0, .ref _), (1, .int _), (2, .int _)]) X dX8_readWall_177 rfl (by decide) rfl ?_
                  refine rx_goto X dX8_readWall_178 ?_
                  refine rx_iload_n (i := 1) X dX8_readWall_56 rfl rfl ?_
                  refine rx_if_eq_t X dX8_readWall_57 (by decide) ?_
                  refine rx_iload_n (i := 1) X dX8_readWall_181 rfl rfl ?_
                  refine rx_zret X dX8_readWall_182 rfl ?_
                  have hk : pz_kind ((σ.1 6) p0) = 3 := by rw [h106.2]; rfl
                  have ei : (pz_item (σ.1 6) N p0 (τ.1 7)) = pz_ant (σ.1 6) N p0 3 (τ.1 7) := by rw [pz_item, if_pos ⟨h106.1, by rw [hk]; decide⟩, hk]
                  have hloop : ¬ (pz_tok (σ.1 6) N p0 = 3 ∧ ¬ τ.1 7 3 = 0) := fun z => z.2 h74
                  rw [hT] at z150 w150 b150
                  exact pz_post_eq (hu.trans (pz_loop_f hloop ei z150)) ⟨hok.tr ok150, Or.inr ⟨rfl, z150, w150, b150⟩⟩
              · refine rx_if_eq_t X dX8_readWall_109 (by decide) ?_
                refine rx_aload_n (i := 0) X dX8_readWall_116 rfl rfl ?_
                refine rx_bipush (v := 98) X dX8_readWall_117 (by decide) ?_
                refine rx_callVi (ci := 8) X vsX8_isLetter mlX8_114 (kX8_isLetter hO hs hp0 (by decide)) (km_0 hO) rfl rfl (by decide) (by decide) dX8_readWall_119 rfl (Nat.le_of_ble_eq_true rfl) (fun r119 t119 h119 => ?_)
                obtain ⟨rfl, ⟨rfl, h119⟩ | ⟨rfl, h119⟩⟩ := h119
                all_goals rw [hT] at h119
                · refine rx_if_eq_f X dX8_readWall_122 (by decide) ?_
                  refine rx_iconst (v := 4) X dX8_readWall_125 (by decide) ?_
                  refine rx_goto X dX8_readWall_126 ?_
                  refine rx_istore_n (i := 2) (lo2 := [(0, .ref _), (1, .int _), (2, .int _)]) X dX8_readWall_143 rfl (by decide) rfl ?_
                  refine rx_iload_n (i := 2) X dX8_readWall_144 rfl rfl ?_
                  refine rx_if_le_f X dX8_readWall_145 (by decide) ?_
                  refine rx_aload_n (i := 0) X dX8_readWall_148 rfl rfl ?_
                  refine rx_iload_n (i := 2) X dX8_readWall_149 rfl rfl ?_
                  refine rx_callVi (ci := 8) X vsX8_readAnt mlX8_130 (kX8_readAnt hO hs (by rw [hT]; exact pz_c_nx (by decide) h119) (by have := h119.1; omega) hN ⟨hI.2.2.2.1.1, hI.2.2.2.1.2⟩) (km_0 hO) rfl rfl (by decide) (by decide) dX8_readWall_150 rfl (Nat.le_of_ble_eq_true rfl) (fun r150 t150 h150 => ?_)
                  obtain ⟨ok150, ⟨rfl, z150, st150, rd150⟩ | ⟨rfl, z150, w150, b150⟩⟩ := h150
                  · refine rx_goto X dX8_readWall_153 ?_
                    refine rx_istore_n (i := 1) (lo2 := [(0, .ref _), (1, .int _), (2, .int _)]) X dX8_readWall_177 rfl (by decide) rfl ?_
                    refine rx_goto X dX8_readWall_178 ?_
                    have hk : pz_kind ((σ.1 6) p0) = 4 := by rw [h119.2]; rfl
                    have ei : (pz_item (σ.1 6) N p0 (τ.1 7)) = pz_ant (σ.1 6) N p0 4 (τ.1 7) := by rw [pz_item, if_pos ⟨h119.1, by rw [hk]; decide⟩, hk]
                    have hloop : ¬ (pz_tok (σ.1 6) N p0 = 3 ∧ ¬ τ.1 7 3 = 0) := fun z => z.2 h74
                    rw [hT] at z150 st150 rd150
                    obtain ⟨g1, g2, g3⟩ := pz_I_ant (by have := h119.1; omega) (by decide) hI z150
                    refine rx_less [0, 1] rfl ?_
                    refine ih _ _ (by omega) (hok.tr ok150) st150 g3 (by rw [rd150]; exact g1) ?_
                    rw [hu, pz_loop_s hloop ei z150, rd150]
                  · refine rx_goto X dX8_readWall_153 ?_
                    refine rx_istore_n (i := 1) (lo2 := [(0, .ref _), (1, .int _), (2, .int _)]) X dX8_readWall_177 rfl (by decide) rfl ?_
                    refine rx_goto X dX8_readWall_178 ?_
                    refine rx_iload_n (i := 1) X dX8_readWall_56 rfl rfl ?_
                    refine rx_if_eq_t X dX8_readWall_57 (by decide) ?_
                    refine rx_iload_n (i := 1) X dX8_readWall_181 rfl rfl ?_
                    refine rx_zret X dX8_readWall_182 rfl ?_
                    have hk : pz_kind ((σ.1 6) p0) = 4 := by rw [h119.2]; rfl
                    have ei : (pz_item (σ.1 6) N p0 (τ.1 7)) = pz_ant (σ.1 6) N p0 4 (τ.1 7) := by rw [pz_item, if_pos ⟨h119.1, by rw [hk]; decide⟩, hk]
                    have hloop : ¬ (pz_tok (σ.1 6) N p0 = 3 ∧ ¬ τ.1 7 3 = 0) := fun z => z.2 h74
                    rw [hT] at z150 w150 b150
                    exact pz_post_eq (hu.trans (pz_loop_f hloop ei z150)) ⟨hok.tr ok150, Or.inr ⟨rfl, z150, w150, b150⟩⟩
                · refine rx_if_eq_t X dX8_readWall_122 (by decide) ?_
                  refine rx_aload_n (i := 0) X dX8_readWall_129 rfl rfl ?_
                  refine rx_bipush (v := 117) X dX8_readWall_130 (by decide) ?_
                  refine rx_callVi (ci := 8) X vsX8_isLetter mlX8_114 (kX8_isLetter hO hs hp0 (by decide)) (km_0 hO) rfl rfl (by decide) (by decide) dX8_readWall_132 rfl (Nat.le_of_ble_eq_true rfl) (fun r132 t132 h132 => ?_)
                  obtain ⟨rfl, ⟨rfl, h132⟩ | ⟨rfl, h132⟩⟩ := h132
                  all_goals rw [hT] at h132
                  · refine rx_if_eq_f X dX8_readWall_135 (by decide) ?_
                    refine rx_iconst (v := 5) X dX8_readWall_138 (by decide) ?_
                    refine rx_goto X dX8_readWall_139 ?_
                    refine rx_istore_n (i := 2) (lo2 := [(0, .ref _), (1, .int _), (2, .int _)]) X dX8_readWall_143 rfl (by decide) rfl ?_
                    refine rx_iload_n (i := 2) X dX8_readWall_144 rfl rfl ?_
                    refine rx_if_le_f X dX8_readWall_145 (by decide) ?_
                    refine rx_aload_n (i := 0) X dX8_readWall_148 rfl rfl ?_
                    refine rx_iload_n (i := 2) X dX8_readWall_149 rfl rfl ?_
                    refine rx_callVi (ci := 8) X vsX8_readAnt mlX8_130 (kX8_readAnt hO hs (by rw [hT]; exact pz_c_nx (by decide) h132) (by have := h132.1; omega) hN ⟨hI.2.2.2.1.1, hI.2.2.2.1.2⟩) (km_0 hO) rfl rfl (by decide) (by decide) dX8_readWall_150 rfl (Nat.le_of_ble_eq_true rfl) (fun r150 t150 h150 => ?_)
                    obtain ⟨ok150, ⟨rfl, z150, st150, rd150⟩ | ⟨rfl, z150, w150, b150⟩⟩ := h150
                    · refine rx_goto X dX8_readWall_153 ?_
                      refine rx_istore_n (i := 1) (lo2 := [(0, .ref _), (1, .int _), (2, .int _)]) X dX8_readWall_177 rfl (by decide) rfl ?_
                      refine rx_goto X dX8_readWall_178 ?_
                      have hk : pz_kind ((σ.1 6) p0) = 5 := by rw [h132.2]; rfl
                      have ei : (pz_item (σ.1 6) N p0 (τ.1 7)) = pz_ant (σ.1 6) N p0 5 (τ.1 7) := by rw [pz_item, if_pos ⟨h132.1, by rw [hk]; decide⟩, hk]
                      have hloop : ¬ (pz_tok (σ.1 6) N p0 = 3 ∧ ¬ τ.1 7 3 = 0) := fun z => z.2 h74
                      rw [hT] at z150 st150 rd150
                      obtain ⟨g1, g2, g3⟩ := pz_I_ant (by have := h132.1; omega) (by decide) hI z150
                      refine rx_less [0, 1] rfl ?_
                      refine ih _ _ (by omega) (hok.tr ok150) st150 g3 (by rw [rd150]; exact g1) ?_
                      rw [hu, pz_loop_s hloop ei z150, rd150]
                    · refine rx_goto X dX8_readWall_153 ?_
                      refine rx_istore_n (i := 1) (lo2 := [(0, .ref _), (1, .int _), (2, .int _)]) X dX8_readWall_177 rfl (by decide) rfl ?_
                      refine rx_goto X dX8_readWall_178 ?_
                      refine rx_iload_n (i := 1) X dX8_readWall_56 rfl rfl ?_
                      refine rx_if_eq_t X dX8_readWall_57 (by decide) ?_
                      refine rx_iload_n (i := 1) X dX8_readWall_181 rfl rfl ?_
                      refine rx_zret X dX8_readWall_182 rfl ?_
                      have hk : pz_kind ((σ.1 6) p0) = 5 := by rw [h132.2]; rfl
                      have ei : (pz_item (σ.1 6) N p0 (τ.1 7)) = pz_ant (σ.1 6) N p0 5 (τ.1 7) := by rw [pz_item, if_pos ⟨h132.1, by rw [hk]; decide⟩, hk]
                      have hloop : ¬ (pz_tok (σ.1 6) N p0 = 3 ∧ ¬ τ.1 7 3 = 0) := fun z => z.2 h74
                      rw [hT] at z150 w150 b150
                      exact pz_post_eq (hu.trans (pz_loop_f hloop ei z150)) ⟨hok.tr ok150, Or.inr ⟨rfl, z150, w150, b150⟩⟩
                  · refine rx_if_eq_t X dX8_readWall_135 (by decide) ?_
                    refine rx_iconst (v := 0) X dX8_readWall_142 (by decide) ?_
                    refine rx_istore_n (i := 2) (lo2 := [(0, .ref _), (1, .int _), (2, .int _)]) X dX8_readWall_143 rfl (by decide) rfl ?_
                    refine rx_iload_n (i := 2) X dX8_readWall_144 rfl rfl ?_
                    refine rx_if_le_t X dX8_readWall_145 (by decide) ?_
                    refine rx_aload_n (i := 0) X dX8_readWall_156 rfl rfl ?_
                    refine rx_bipush (v := 103) X dX8_readWall_157 (by decide) ?_
                    refine rx_callVi (ci := 8) X vsX8_isLetter mlX8_114 (kX8_isLetter hO hs hp0 (by decide)) (km_0 hO) rfl rfl (by decide) (by decide) dX8_readWall_159 rfl (Nat.le_of_ble_eq_true rfl) (fun r159 t159 h159 => ?_)
                    obtain ⟨rfl, ⟨rfl, h159⟩ | ⟨rfl, h159⟩⟩ := h159
                    all_goals rw [hT] at h159
                    · refine rx_if_eq_f X dX8_readWall_162 (by decide) ?_
                      refine rx_aload_n (i := 0) X dX8_readWall_165 rfl rfl ?_
                      refine rx_callVi (ci := 8) X vsX8_readPull mlX8_133 (kX8_readPull hO hs (by rw [hT]; exact h159) hN hI.2.2.1) (km_0 hO) rfl rfl (by decide) (by decide) dX8_readWall_166 rfl (Nat.le_of_ble_eq_true rfl) (fun r166 t166 h166 => ?_)
                      obtain ⟨ok166, ⟨rfl, z166, st166, rd166⟩ | ⟨rfl, z166, w166, b166⟩⟩ := h166
                      · refine rx_goto X dX8_readWall_169 ?_
                        refine rx_istore_n (i := 1) (lo2 := [(0, .ref _), (1, .int _), (2, .int _)]) X dX8_readWall_177 rfl (by decide) rfl ?_
                        refine rx_goto X dX8_readWall_178 ?_
                        have hk : ¬ (p0 < N ∧ ¬ pz_kind ((σ.1 6) p0) = 0) := fun z => z.2 (by rw [pz_kind, if_neg (fun q => h80 ⟨z.1, q⟩), if_neg (fun q => h93 ⟨z.1, q⟩), if_neg (fun q => h106 ⟨z.1, q⟩), if_neg (fun q => h119 ⟨z.1, q⟩), if_neg (fun q => h132 ⟨z.1, q⟩)])
                        have ei : (pz_item (σ.1 6) N p0 (τ.1 7)) = pz_pull (σ.1 6) N p0 (τ.1 7) := by rw [pz_item, if_neg hk, if_pos h159]
                        have hloop : ¬ (pz_tok (σ.1 6) N p0 = 3 ∧ ¬ τ.1 7 3 = 0) := fun z => z.2 h74
                        rw [hT] at z166 st166 rd166
                        obtain ⟨g1, g2, g3⟩ := pz_I_pull (by have := h159.1; omega) hI z166
                        refine rx_less [0, 1] rfl ?_
                        refine ih _ _ (by omega) (hok.tr ok166) st166 g3 (by rw [rd166]; exact g1) ?_
                        rw [hu, pz_loop_s hloop ei z166, rd166]
                      · refine rx_goto X dX8_readWall_169 ?_
                        refine rx_istore_n (i := 1) (lo2 := [(0, .ref _), (1, .int _), (2, .int _)]) X dX8_readWall_177 rfl (by decide) rfl ?_
                        refine rx_goto X dX8_readWall_178 ?_
                        refine rx_iload_n (i := 1) X dX8_readWall_56 rfl rfl ?_
                        refine rx_if_eq_t X dX8_readWall_57 (by decide) ?_
                        refine rx_iload_n (i := 1) X dX8_readWall_181 rfl rfl ?_
                        refine rx_zret X dX8_readWall_182 rfl ?_
                        have hk : ¬ (p0 < N ∧ ¬ pz_kind ((σ.1 6) p0) = 0) := fun z => z.2 (by rw [pz_kind, if_neg (fun q => h80 ⟨z.1, q⟩), if_neg (fun q => h93 ⟨z.1, q⟩), if_neg (fun q => h106 ⟨z.1, q⟩), if_neg (fun q => h119 ⟨z.1, q⟩), if_neg (fun q => h132 ⟨z.1, q⟩)])
                        have ei : (pz_item (σ.1 6) N p0 (τ.1 7)) = pz_pull (σ.1 6) N p0 (τ.1 7) := by rw [pz_item, if_neg hk, if_pos h159]
                        have hloop : ¬ (pz_tok (σ.1 6) N p0 = 3 ∧ ¬ τ.1 7 3 = 0) := fun z => z.2 h74
                        rw [hT] at z166 w166 b166
                        exact pz_post_eq (hu.trans (pz_loop_f hloop ei z166)) ⟨hok.tr ok166, Or.inr ⟨rfl, z166, w166, b166⟩⟩
                    · refine rx_if_eq_t X dX8_readWall_162 (by decide) ?_
                      refine rx_aload_n (i := 0) X dX8_readWall_172 rfl rfl ?_
                      refine rx_iconst (v := 1) X dX8_readWall_173 (by decide) ?_
                      refine rx_callVi (ci := 8) X vsX8_faults mlX8_117 (kX8_faults hO) (km_0 hO) rfl rfl (by decide) (by decide) dX8_readWall_174 rfl (Nat.le_of_ble_eq_true rfl) (fun r174 t174 h174 => ?_)
                      obtain ⟨rfl, rfl⟩ := h174
                      refine rx_istore_n (i := 1) (lo2 := [(0, .ref _), (1, .int _), (2, .int _)]) X dX8_readWall_177 rfl (by decide) rfl ?_
                      refine rx_goto X dX8_readWall_178 ?_
                      refine rx_iload_n (i := 1) X dX8_readWall_56 rfl rfl ?_
                      refine rx_if_eq_t X dX8_readWall_57 (by decide) ?_
                      refine rx_iload_n (i := 1) X dX8_readWall_181 rfl rfl ?_
                      refine rx_zret X dX8_readWall_182 rfl ?_
                      have hk : ¬ (p0 < N ∧ ¬ pz_kind ((σ.1 6) p0) = 0) := fun z => z.2 (by rw [pz_kind, if_neg (fun q => h80 ⟨z.1, q⟩), if_neg (fun q => h93 ⟨z.1, q⟩), if_neg (fun q => h106 ⟨z.1, q⟩), if_neg (fun q => h119 ⟨z.1, q⟩), if_neg (fun q => h132 ⟨z.1, q⟩)])
                      have ei : (pz_item (σ.1 6) N p0 (τ.1 7)) = (1, p0, τ.1 7) := by rw [pz_item, if_neg hk, if_neg h159]
                      have hloop : ¬ (pz_tok (σ.1 6) N p0 = 3 ∧ ¬ τ.1 7 3 = 0) := fun z => z.2 h74
                      exact pz_post_of (hu.trans (pz_loop_f hloop ei n10)) ⟨hok.u0 (by decide), Or.inr ⟨rfl, n10, u0s, by rw [u0n (by decide)]; exact hs.2.1⟩⟩
  have lz : ∀ (k : Nat) (i : Nat) (x : Int32) (τ : rx_S), (i + k = 40) → (x = nI i) → (τ = rx_ua (rx_u σ 0 11 0) 7 (cpn i (fun _ => 0) (σ.1 7))) → rx_J O 3 p l e (rx_lv 5) s m args below meth cd (rx_QI O below args s (fun r τ => pz_post N (pz_wall (σ.1 6) N (σ.1 7)) σ r τ)) 7 [(0, .ref 0), (1, .int x)] [] τ := by
    intro k
    induction k with
    | zero =>
      intro i x τ hi hx hτ
      subst hx
      subst hτ
      obtain rfl : i = 40 := by omega
      have ok0 : pz_ok σ (rx_ua (rx_u σ 0 11 0) 7 (cpn 40 (fun _ => 0) (σ.1 7))) := ⟨fun k a b => by rw [rx_ua_ne b, rx_u_ne a], fun j a b c d e => by rw [rx_ua_ne (by decide), u0n a], rfl⟩
      refine rx_iload_n (i := 1) X dX8_readWall_7 rfl rfl ?_
      refine rx_bipush (v := 40) X dX8_readWall_8 (by decide) ?_
      refine rx_icmp_ge_t X dX8_readWall_10 (by decide) ?_
      refine rx_aload_n (i := 0) X dX8_readWall_26 rfl rfl ?_
      refine rx_callVv (ci := 8) X vsX8_nextToken mlX8_120 (kX8_next hO (p := 0) (ok0.n h9) (by rw [rx_ua_ne (by decide), u0s]; rfl) (Nat.zero_le _) hN) (km_0 hO) rfl rfl (by decide) (by decide) dX8_readWall_27 rfl (Nat.le_of_ble_eq_true rfl) (fun t27 h27 => ?_)
      obtain ⟨k1, k2, k3⟩ := h27
      have okz := ok0.tr k1
      have rdz : t27.1 7 = pz_z (σ.1 7) := by rw [k3, rx_ua_s]; rfl
      refine rx_aload_n (i := 0) X dX8_readWall_30 rfl rfl ?_
      refine rx_bipush (v := 119) X dX8_readWall_31 (by decide) ?_
      refine rx_callVi (ci := 8) X vsX8_takes mlX8_123 (kX8_takes hO k2 (Nat.zero_le _) hN (by decide)) (km_0 hO) rfl rfl (by decide) (by decide) dX8_readWall_33 rfl (Nat.le_of_ble_eq_true rfl) (fun r33 t33 h33 => ?_)
      obtain ⟨rfl, q33, ok33, st33, rd33⟩ | ⟨rfl, q33, ok33, w33, b33, rd33⟩ := h33
      all_goals rw [okz.t] at q33
      · refine rx_if_eq_f X dX8_readWall_36 (by decide) ?_
        refine rx_aload_n (i := 0) X dX8_readWall_39 rfl rfl ?_
        refine rx_iconst (v := 1) X dX8_readWall_40 (by decide) ?_
        refine rx_bipush (v := 99) X dX8_readWall_41 (by decide) ?_
        refine rx_iconst (v := 0) X dX8_readWall_43 (by decide) ?_
        refine rx_bipush (v := 59) X dX8_readWall_44 (by decide) ?_
        have tz : t33.1 6 = σ.1 6 := by rw [ok33.t, okz.t]
        refine rx_callVi (ci := 8) X vsX8_takesNumber mlX8_126 (kX8_num hO (at0 := 0) st33 (by have := q33.1; omega) hN (by decide) (by decide)) (km_0 hO) rfl rfl (by decide) (by decide) dX8_readWall_46 rfl (Nat.le_of_ble_eq_true rfl) (fun r46 t46 h46 => ?_)
        obtain ⟨ok46, ⟨rfl, z46, st46, rd46⟩ | ⟨rfl, z46, w46, b46⟩⟩ := h46
        · refine rx_if_ne_t X dX8_readWall_49 (by decide) ?_
          refine rx_iconst (v := 1) X dX8_readWall_54 (by decide) ?_
          refine rx_istore_n (i := 1) (lo2 := [(0, .ref _), (1, .int _)]) X dX8_readWall_55 rfl (by decide) rfl ?_
          rw [tz] at z46 st46 rd46
          rw [rd33, rdz] at rd46
          obtain ⟨c1, c2, c3, c4⟩ := pz_num_0 (by have := q33.1; omega) z46
          refine loop (N + 2) _ t46 (by omega) ((okz.tr ok33).tr ok46) st46 c2 ?_ ?_
          · rw [rd46]
            have e : ∀ j, j ≠ 0 → j < 40 → upd (pz_z (σ.1 7)) 0 (pz_num (σ.1 6) N 1 1 99 59).2.2 j = 0 := fun j h1 h2 => by rw [upd_n h1, pz_z, cpn_lt h2]
            generalize pz_num (σ.1 6) N 1 1 99 59 = n1 at *
            refine ⟨by rw [upd_s]; exact ⟨c3, c4⟩, e 1 (by decide) (by decide), by rw [e 2 (by decide) (by decide)]; decide, by rw [e 3 (by decide) (by decide)]; decide, e 4 (by decide) (by decide), fun i hi => ?_, fun a ha => ?_, fun z => absurd (e 3 (by decide) (by decide)) z⟩
            · rw [e 2 (by decide) (by decide)] at hi
              exact absurd hi (by rw [show rx_N 0 = 0 from rfl]; omega)
            · rw [e 3 (by decide) (by decide)] at ha
              exact absurd ha (by rw [show rx_N 0 = 0 from rfl]; omega)
          · rw [rd46, pz_wall, if_neg (fun z => z q33), if_pos z46]
        · refine rx_if_ne_f X dX8_readWall_49 (by decide) ?_
          refine rx_iconst (v := 0) X dX8_readWall_52 (by decide) ?_
          refine rx_zret X dX8_readWall_53 rfl ?_
          rw [tz] at z46 w46 b46
          have e : (pz_wall (σ.1 6) N (σ.1 7)) = ((pz_num (σ.1 6) N 1 1 99 59).1, (pz_num (σ.1 6) N 1 1 99 59).2.1, σ.1 7) := by rw [pz_wall, if_neg (fun z => z q33), if_neg z46]
          exact pz_post_of e ⟨(okz.tr ok33).tr ok46, Or.inr ⟨rfl, z46, w46, b46⟩⟩
      · refine rx_if_eq_t X dX8_readWall_36 (by decide) ?_
        refine rx_iconst (v := 0) X dX8_readWall_52 (by decide) ?_
        refine rx_zret X dX8_readWall_53 rfl ?_
        have e : (pz_wall (σ.1 6) N (σ.1 7)) = (1, 0, σ.1 7) := by rw [pz_wall, if_pos q33]
        exact pz_post_of e ⟨okz.tr ok33, Or.inr ⟨rfl, n10, w33, b33⟩⟩
    | succ k ih =>
      intro i x τ hi hx hτ
      subst hx
      have e7 : τ.1 7 = cpn i (fun _ => 0) (σ.1 7) := by rw [hτ, rx_ua_s]
      refine rx_iload_n (i := 1) X dX8_readWall_7 rfl rfl ?_
      refine rx_bipush (v := 40) X dX8_readWall_8 (by decide) ?_
      refine rx_icmp_ge_f X dX8_readWall_10 (nI_ge (b := 40) (by omega) (by decide)) ?_
      refine rx_aload_n (i := 0) X dX8_readWall_13 rfl rfl ?_
      refine rx_getR (ci := 8) (i := 16) X (km_0 hO) rfl rfl (by decide) inX8 flX8_32 dX8_readWall_14 ?_
      refine rx_iload_n (i := 1) X dX8_readWall_17 rfl rfl ?_
      refine rx_iconst (v := 0) X dX8_readWall_18 (by decide) ?_
      refine rx_iastN (j := i) X (km_7 hO) hO.2.2.1 rfl (by omega) (by decide) dX8_readWall_19 ?_
      refine rx_iinc (i := 1) (lo2 := [(0, .ref _), (1, .int _)]) X dX8_readWall_20 rfl (rx_inc1 _) (by decide) rfl ?_
      refine rx_goto X dX8_readWall_23 ?_
      refine ih (i + 1) _ _ (by omega) (nI_1 i) ?_
      rw [rx_u_eq, e7, hτ, rx_ua_ua]
      congr 1
      exact cpn_s i (fun _ => 0) (σ.1 7)
  refine rx_aload_n (i := 0) X dX8_readWall_0 rfl rfl ?_
  refine rx_iconst (v := 0) X dX8_readWall_1 (by decide) ?_
  refine rx_putI (ci := 8) (i := 11) X (km_0 hO) rfl rfl (by decide) inX8 tyX8 tyX8_ok nmX8 flX8_91 rfl rfl dX8_readWall_2 ?_
  refine rx_iconst (v := 0) X dX8_readWall_5 (by decide) ?_
  refine rx_istore_n (i := 1) (lo2 := [(0, .ref _), (1, .int _)]) X dX8_readWall_6 rfl (by decide) rfl ?_
  exact lz 40 0 _ _ rfl rfl (by rw [cpn_0]; exact (rx_ua_self _ 7).symm)
