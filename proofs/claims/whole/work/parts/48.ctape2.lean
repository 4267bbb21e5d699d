section
variable {T : Nat → Int32} {N p q : Nat} {rd : Nat → Int32}
theorem tz_N (h : p = N) : pz_tok T N p = 3 := by
  subst h
  rw [pz_tok, pz_e_n (by omega), if_neg (by omega), if_pos rfl]
theorem tz_lt (h : p < N) : ¬ pz_tok T N p = 3 := by
  rw [pz_tok]
  split
  · split <;> decide
  · rw [if_neg (by omega)]
    split <;> decide
theorem tz_kg {x : Int32} (h : x = 103) : pz_kind x = 0 := by
  rw [h]
  rfl
theorem tz_r3 (h : pz_I rd) : (rd 3 = 0 ↔ ¬ 0 < rd 3) := by
  have := h.2.2.2.1
  rw [Int32.lt_iff_toInt_lt, ← Int32.toInt_inj]
  have e : (0 : Int32).toInt = 0 := rfl
  omega
/-- a pull, where none but pulls stand yet -/
theorem tz_item {n1 : Int32 × Nat × Int32} (hI : pz_I rd) (h3 : rd 3 = 0) (h2 : ¬ rd 2 = 5) (hg : pz_c T N p 103 ∨ rd 2 = 0) (hn : pz_num T N (p + 1) 0 99 59 = n1) : pz_item T N p rd = tz_pull T N p rd n1 := by
  subst hn
  have h30 : ¬ 0 < rd 3 := (tz_r3 hI).mp h3
  by_cases hc : pz_c T N p 103
  · rw [pz_item, if_neg (fun z => z.2 (tz_kg hc.2)), if_pos hc, pz_pull, if_neg (fun z => z.elim h2 h30), tz_pull, if_neg (c := ¬ pz_c T N p 103) (fun z => z hc)]
  · have h20 := hg.resolve_left hc
    rw [tz_pull, if_pos hc, pz_item]
    by_cases hk : p < N ∧ ¬ pz_kind (T p) = 0
    · rw [if_pos hk, pz_ant, if_pos (Or.inr h20), if_pos h20]
    · rw [if_neg hk, if_neg hc]
theorem tz_pull_I {n1 : Int32 × Nat × Int32} {f : Int32} {rd2 : Nat → Int32} (hI : pz_I rd) (h3 : rd 3 = 0) (h2 : ¬ rd 2 = 5) (hn : pz_num T N (p + 1) 0 99 59 = n1) (e : tz_pull T N p rd n1 = (f, q, rd2)) (hf : f = 0) : pz_c T N p 103 ∧ pz_I rd2 ∧ p < q ∧ q ≤ N ∧ rd2 3 = 0 ∧ rd2 2 = rd 2 + 1 := by
  by_cases hc : pz_c T N p 103
  · have h30 : ¬ 0 < rd 3 := (tz_r3 hI).mp h3
    have e2 : pz_pull T N p rd = (f, q, rd2) := by
      rw [← e, ← hn, pz_pull, if_neg (fun z => z.elim h2 h30), tz_pull, if_neg (c := ¬ pz_c T N p 103) (fun z => z hc)]
    have hz : (pz_pull T N p rd).1 = 0 := by rw [e2]; exact hf
    have k := pz_I_pull (T := T) (N := N) (p := p) hc.1 hI hz
    rw [e2] at k
    refine ⟨hc, k.1, k.2.1, k.2.2, ?_⟩
    rw [tz_pull, if_neg (c := ¬ pz_c T N p 103) (fun z => z hc)] at e
    have h2' := hI.2.2.1
    have n2 := rx_Ni h2'.1
    split at e
    · have e3 := congrArg (fun z => z.2.2) e
      have e3 : upd (upd rd 2 (rd 2 + 1)) (5 + rx_N (rd 2)) n1.2.2 = rd2 := e3
      rw [← e3]
      exact ⟨by rw [upd_n (by omega), upd_n (by omega)]; exact h3, by rw [upd_n (by omega), upd_s]⟩
    · rename_i hne
      have e4 := congrArg (fun z => z.1) e
      have e4 : n1.1 = f := e4
      exact absurd (e4.trans hf) hne
  · rw [tz_pull, if_pos hc] at e
    have e4 := congrArg (fun z => z.1) e
    have e4 : (1 : Int32) = f := e4
    rw [hf] at e4
    exact absurd e4 (by decide)
theorem tz_fl {F : Nat} {f : Int32} {rd2 : Nat → Int32} (h : ¬ (pz_tok T N p = 3 ∧ ¬ rd 3 = 0)) (e : pz_item T N p rd = (f, q, rd2)) (hf : ¬ f = 0) : pz_loop T N (F + 1) p rd = (f, q, rd2) := pz_loop_f h e hf
theorem tz_sl {F : Nat} {f : Int32} {rd2 : Nat → Int32} (h : ¬ (pz_tok T N p = 3 ∧ ¬ rd 3 = 0)) (e : pz_item T N p rd = (f, q, rd2)) (hf : f = 0) : pz_loop T N (F + 1) p rd = pz_loop T N F q rd2 := pz_loop_s h e hf
end
set_option maxHeartbeats 1000000 in
set_option maxRecDepth 100000 in
theorem kX6_readPulls {l : Launch} {O : rx_O} (hO : cb_O O) {σ : rx_S} {T : Nat → Int32} {N F0 p0 : Nat} {rd0 : Nat → Int32} (h : tt T N p0 σ) (hN : N ≤ 120) (hR : cb_R cb_T σ 243 rd0) (hF : N + 2 ≤ F0 + p0) (hp : p0 ≤ N) (hI : pz_I rd0) (h3 : rd0 3 = 0) (h2 : rd0 2 = 0) : rx_MI l O yX6_readPulls cX6_readPulls 3 (some .boolean) 3 [.ref 22, .ref 243] σ (fun r τ => tz σ τ ∧ ((r = 1 ∧ ∃ F q rd2, pz_loop T N F0 p0 rd0 = pz_loop T N F q rd2 ∧ N + 2 ≤ F + q ∧ q ≤ N ∧ pz_I rd2 ∧ rd2 3 = 0 ∧ ¬ rd2 2 = 0 ∧ ¬ pz_c T N q 103 ∧ τ.1 22 2 = nI q ∧ τ.1 22 3 = σ.1 22 3 ∧ cb_R cb_T τ 243 rd2) ∨ (r = 0 ∧ ∃ f q rd2, pz_loop T N F0 p0 rd0 = (f, q, rd2) ∧ ¬ f = 0 ∧ τ.1 22 3 = f ∧ τ.1 22 2 = nI q ∧ cb_bo τ 243))) := by
  refine rx_Met_of (own := RX6) rfl hO.2.1 vsX6_readPulls.2.2.2.2.2 (Nat.le_of_ble_eq_true rfl) rfl (fun pg e s m args below meth cd X => ?_)
  have loop : ∀ (k : Nat) (t F p : Nat) (x : Int32) (τ : rx_S) (rd : Nat → Int32), (t + k = 5) → (x = nI t) → (N + 2 ≤ F + p) → (p ≤ N) → (pz_I rd) → (rd 3 = 0) → (rd 2 = nI t) → (tz σ τ) → (tt T N p τ) → (τ.1 22 3 = σ.1 22 3) → (cb_R cb_T τ 243 rd) → (pz_loop T N F0 p0 rd0 = pz_loop T N F p rd) → rx_J O 3 pg l e (rx_lv 3) s m args below meth cd (rx_QI O below args s (fun r τ => tz σ τ ∧ ((r = 1 ∧ ∃ F q rd2, pz_loop T N F0 p0 rd0 = pz_loop T N F q rd2 ∧ N + 2 ≤ F + q ∧ q ≤ N ∧ pz_I rd2 ∧ rd2 3 = 0 ∧ ¬ rd2 2 = 0 ∧ ¬ pz_c T N q 103 ∧ τ.1 22 2 = nI q ∧ τ.1 22 3 = σ.1 22 3 ∧ cb_R cb_T τ 243 rd2) ∨ (r = 0 ∧ ∃ f q rd2, pz_loop T N F0 p0 rd0 = (f, q, rd2) ∧ ¬ f = 0 ∧ τ.1 22 3 = f ∧ τ.1 22 2 = nI q ∧ cb_bo τ 243)))) 2 [(0, .ref 22), (1, .ref 243), (2, .int x)] [] τ := by
    intro k
    induction k with
    | zero =>
      intro t F p x τ rd ht hx hF hp hI h3 ht2 hz h hl hR he
      obtain rfl : t = 5 := by omega
      subst hx
      obtain ⟨F, rfl⟩ : ∃ G, F = G + 1 := ⟨F - 1, by omega⟩
      refine rx_iload_n (i := 2) X dX6_readPulls_2 rfl rfl ?_
      refine rx_iconst (v := 5) X dX6_readPulls_3 (by decide) ?_
      refine rx_icmp_gt_f X dX6_readPulls_4 (by decide) ?_
      refine rx_iload_n (i := 2) X dX6_readPulls_7 rfl rfl ?_
      refine rx_if_le_f X dX6_readPulls_8 (by decide) ?_
      refine rx_aload_n (i := 0) X dX6_readPulls_11 rfl rfl ?_
      refine rx_callVi (ci := 6) X vsX6_nextByte mlX6_46 (kX6_nextByte hO h hp hN) (kc_22 hO) rfl rfl (by decide) (by decide) dX6_readPulls_12 rfl (Nat.le_of_ble_eq_true rfl) (fun r12 t12 h12 => ?_)
      obtain ⟨rfl, rfl⟩ := h12
      refine rx_bipush (v := 103) X dX6_readPulls_15 (by decide) ?_
      refine rx_icmp_eq X dX6_readPulls_17 (fun h17 => ?_) (fun h17 => ?_)
      · refine rx_iload_n (i := 2) X dX6_readPulls_22 rfl rfl ?_
        refine rx_iconst (v := 5) X dX6_readPulls_23 (by decide) ?_
        refine rx_icmp_ne_f X dX6_readPulls_24 rfl ?_
        refine rx_aload_n (i := 0) X dX6_readPulls_27 rfl rfl ?_
        refine rx_iconst (v := 3) X dX6_readPulls_28 (by decide) ?_
        refine rx_callVi (ci := 6) X vsX6_fail mlX6_50 (kX6_fail hO) (kc_22 hO) rfl rfl (by decide) (by decide) dX6_readPulls_29 rfl (Nat.le_of_ble_eq_true rfl) (fun r29 t29 h29 => ?_)
        obtain ⟨rfl, rfl⟩ := h29
        refine rx_zret X dX6_readPulls_32 rfl ?_
        have hc := (show pz_c T N p 103 by
          by_cases z : p < N
          · rw [if_pos z] at h17; exact ⟨z, h17⟩
          · rw [if_neg z] at h17; exact absurd h17 (by decide))
        have h5 : rd 2 = 5 := ht2
        have h30 : ¬ 0 < rd 3 := (tz_r3 hI).mp h3
        refine ⟨hz.u3, Or.inr ⟨rfl, 3, p, rd, ?_, by decide, u22_33, u22_2.trans h.2.2, hR.u22.1⟩⟩
        rw [he]
        refine tz_fl (fun z => z.2 h3) ?_ (by decide)
        rw [pz_item, if_neg (fun z => z.2 (tz_kg hc.2)), if_pos hc, pz_pull, if_pos (Or.inl h5), if_neg h30]
      · refine rx_iconst (v := 1) X dX6_readPulls_20 (by decide) ?_
        refine rx_zret X dX6_readPulls_21 rfl ?_
        exact ⟨hz, Or.inl ⟨rfl, F + 1, p, rd, he, hF, hp, hI, h3, (by rw [ht2]; decide), (fun z => h17 (by rw [if_pos z.1]; exact z.2)), h.2.2, hl, hR⟩⟩
    | succ k ih =>
      intro t F p x τ rd ht hx hF hp hI h3 ht2 hz h hl hR he
      subst hx
      obtain ⟨F, rfl⟩ : ∃ G, F = G + 1 := ⟨F - 1, by omega⟩
      refine rx_iload_n (i := 2) X dX6_readPulls_2 rfl rfl ?_
      refine rx_iconst (v := 5) X dX6_readPulls_3 (by decide) ?_
      refine rx_icmp_gt_f X dX6_readPulls_4 (nI_ngt (b := 5) (by omega) (by decide)) ?_
      refine rx_iload_n (i := 2) X dX6_readPulls_7 rfl rfl ?_
      refine rx_if_le X dX6_readPulls_8 (fun h8 => ?_) (fun h8 => ?_)
      · have ht0 : t = 0 := by
          rw [Int32.le_iff_toInt_le, nI_toInt (by omega)] at h8
          have e0 : (0 : Int32).toInt = 0 := rfl
          omega
        have hgg : pz_c T N p 103 ∨ rd 2 = 0 := Or.inr (by rw [ht2, ht0]; rfl)
        refine rx_iload_n (i := 2) X dX6_readPulls_22 rfl rfl ?_
        refine rx_iconst (v := 5) X dX6_readPulls_23 (by decide) ?_
        refine rx_icmp_ne_t X dX6_readPulls_24 (fun z => absurd (nI_inj (a := t) (b := 5) (by omega) (by decide) z) (by omega)) ?_
        refine rx_aload_n (i := 0) X dX6_readPulls_33 rfl rfl ?_
        refine rx_aload_n (i := 1) X dX6_readPulls_34 rfl rfl ?_
        have h25 : ¬ rd 2 = 5 := fun z => absurd (nI_inj (a := t) (b := 5) (by omega) (by decide) (ht2.symm.trans z)) (by omega)
        obtain ⟨n1, hn1⟩ : ∃ n1, pz_num T N (p + 1) 0 99 59 = n1 := ⟨_, rfl⟩
        refine rx_callVi (ci := 6) X vsX6_readPull mlX6_53 (kX6_readPull hO h hp hN hR (by rw [ht2, nI_toInt (by omega)]; omega)) (kc_22 hO) rfl rfl (by decide) (by decide) dX6_readPulls_35 rfl (Nat.le_of_ble_eq_true rfl) (fun r35 t35 h35 => ?_)
        rw [hn1] at h35
        obtain ⟨f, q, rd2, e2, hz2, ⟨rfl, hf, h2q, h2l, h2R⟩ | ⟨rfl, hf, h2f, h2q, h2b⟩⟩ := h35
        · refine rx_if_ne_t X dX6_readPulls_38 (by decide) ?_
          refine rx_iinc (i := 2) (lo2 := [(0, .ref _), (1, .ref _), (2, .int _)]) X dX6_readPulls_43 rfl (rx_inc1 _) (by decide) rfl ?_
          refine rx_goto X dX6_readPulls_46 ?_
          have hit := (tz_item hI h3 h25 hgg hn1).trans e2
          obtain ⟨-, k1, k2, k3, k4, k5⟩ := tz_pull_I hI h3 h25 hn1 e2 hf
          exact ih (t + 1) F q _ _ rd2 (by omega) (nI_1 t) (by omega) k3 k1 k4 (by rw [k5, ht2]; exact nI_1 t) (hz.tr hz2) (h.mv hz2 h2q) (h2l.trans hl) h2R (by rw [he]; exact tz_sl (fun z => z.2 h3) hit hf)
        · refine rx_if_ne_f X dX6_readPulls_38 (by decide) ?_
          refine rx_iconst (v := 0) X dX6_readPulls_41 (by decide) ?_
          refine rx_zret X dX6_readPulls_42 rfl ?_
          have hit := (tz_item hI h3 h25 hgg hn1).trans e2
          exact ⟨hz.tr hz2, Or.inr ⟨rfl, f, q, rd2, by rw [he]; exact tz_fl (fun z => z.2 h3) hit hf, hf, h2f, h2q, h2b⟩⟩
      · have ht0 : ¬ t = 0 := by
          rintro rfl
          exact h8 (by decide)
        refine rx_aload_n (i := 0) X dX6_readPulls_11 rfl rfl ?_
        refine rx_callVi (ci := 6) X vsX6_nextByte mlX6_46 (kX6_nextByte hO h hp hN) (kc_22 hO) rfl rfl (by decide) (by decide) dX6_readPulls_12 rfl (Nat.le_of_ble_eq_true rfl) (fun r12 t12 h12 => ?_)
        obtain ⟨rfl, rfl⟩ := h12
        refine rx_bipush (v := 103) X dX6_readPulls_15 (by decide) ?_
        refine rx_icmp_eq X dX6_readPulls_17 (fun h17 => ?_) (fun h17 => ?_)
        · have hgg : pz_c T N p 103 ∨ rd 2 = 0 := Or.inl (show pz_c T N p 103 by
            by_cases z : p < N
            · rw [if_pos z] at h17; exact ⟨z, h17⟩
            · rw [if_neg z] at h17; exact absurd h17 (by decide))
          refine rx_iload_n (i := 2) X dX6_readPulls_22 rfl rfl ?_
          refine rx_iconst (v := 5) X dX6_readPulls_23 (by decide) ?_
          refine rx_icmp_ne_t X dX6_readPulls_24 (fun z => absurd (nI_inj (a := t) (b := 5) (by omega) (by decide) z) (by omega)) ?_
          refine rx_aload_n (i := 0) X dX6_readPulls_33 rfl rfl ?_
          refine rx_aload_n (i := 1) X dX6_readPulls_34 rfl rfl ?_
          have h25 : ¬ rd 2 = 5 := fun z => absurd (nI_inj (a := t) (b := 5) (by omega) (by decide) (ht2.symm.trans z)) (by omega)
          obtain ⟨n1, hn1⟩ : ∃ n1, pz_num T N (p + 1) 0 99 59 = n1 := ⟨_, rfl⟩
          refine rx_callVi (ci := 6) X vsX6_readPull mlX6_53 (kX6_readPull hO h hp hN hR (by rw [ht2, nI_toInt (by omega)]; omega)) (kc_22 hO) rfl rfl (by decide) (by decide) dX6_readPulls_35 rfl (Nat.le_of_ble_eq_true rfl) (fun r35 t35 h35 => ?_)
          rw [hn1] at h35
          obtain ⟨f, q, rd2, e2, hz2, ⟨rfl, hf, h2q, h2l, h2R⟩ | ⟨rfl, hf, h2f, h2q, h2b⟩⟩ := h35
          · refine rx_if_ne_t X dX6_readPulls_38 (by decide) ?_
            refine rx_iinc (i := 2) (lo2 := [(0, .ref _), (1, .ref _), (2, .int _)]) X dX6_readPulls_43 rfl (rx_inc1 _) (by decide) rfl ?_
            refine rx_goto X dX6_readPulls_46 ?_
            have hit := (tz_item hI h3 h25 hgg hn1).trans e2
            obtain ⟨-, k1, k2, k3, k4, k5⟩ := tz_pull_I hI h3 h25 hn1 e2 hf
            exact ih (t + 1) F q _ _ rd2 (by omega) (nI_1 t) (by omega) k3 k1 k4 (by rw [k5, ht2]; exact nI_1 t) (hz.tr hz2) (h.mv hz2 h2q) (h2l.trans hl) h2R (by rw [he]; exact tz_sl (fun z => z.2 h3) hit hf)
          · refine rx_if_ne_f X dX6_readPulls_38 (by decide) ?_
            refine rx_iconst (v := 0) X dX6_readPulls_41 (by decide) ?_
            refine rx_zret X dX6_readPulls_42 rfl ?_
            have hit := (tz_item hI h3 h25 hgg hn1).trans e2
            exact ⟨hz.tr hz2, Or.inr ⟨rfl, f, q, rd2, by rw [he]; exact tz_fl (fun z => z.2 h3) hit hf, hf, h2f, h2q, h2b⟩⟩
        · refine rx_iconst (v := 1) X dX6_readPulls_20 (by decide) ?_
          refine rx_zret X dX6_readPulls_21 rfl ?_
          exact ⟨hz, Or.inl ⟨rfl, F + 1, p, rd, he, hF, hp, hI, h3, (by rw [ht2]; exact fun z => absurd (nI_inj (a := t) (b := 0) (by omega) (by decide) z) ht0), (fun z => h17 (by rw [if_pos z.1]; exact z.2)), h.2.2, hl, hR⟩⟩
  refine rx_iconst (v := 0) X dX6_readPulls_0 (by decide) ?_
  refine rx_istore_n (i := 2) (lo2 := [(0, .ref _), (1, .ref _), (2, .int _)]) X dX6_readPulls_1 rfl (by decide) rfl ?_
  exact loop 5 0 F0 p0 _ σ rd0 rfl rfl hF hp hI h3 h2 (tz.rf σ) h rfl hR rfl
section
variable {T : Nat → Int32} {N p q : Nat} {rd : Nat → Int32}
theorem tz_kN {x : Int32} (h : tz_k x = -1) : pz_kind x = 0 := by
  unfold tz_k at h
  split at h
  · assumption
  · rename_i z
    have := (pz_kind_r z).1
    rw [h] at this
    exact absurd this (by decide)
theorem tz_kY {x : Int32} (h : ¬ tz_k x = -1) : ¬ pz_kind x = 0 ∧ tz_k x = pz_kind x := by
  unfold tz_k at h ⊢
  split at h
  · exact absurd rfl h
  · rename_i z
    exact ⟨z, if_neg z⟩
theorem tz_k1 : tz_k (-1) = -1 := by decide
/-- neither an ant nor a pull that may stand there -/
theorem tz_it1 (hI : pz_I rd) (hk : p < N → pz_kind (T p) = 0) (hg : rd 3 = 0 → ¬ pz_c T N p 103) : pz_item T N p rd = (1, p, rd) := by
  rw [pz_item, if_neg (fun z => z.2 (hk z.1))]
  by_cases hc : pz_c T N p 103
  · have h30 : 0 < rd 3 := Decidable.of_not_not (fun z => hg ((tz_r3 hI).mpr z) hc)
    rw [if_pos hc, pz_pull, if_pos (Or.inr h30), if_pos h30]
  · rw [if_neg hc]
theorem tz_it6 (hp : p < N) (hk : ¬ pz_kind (T p) = 0) (h3 : rd 3 = 6) (h2 : ¬ rd 2 = 0) : pz_item T N p rd = (3, p, rd) := by
  rw [pz_item, if_pos ⟨hp, hk⟩, pz_ant, if_pos (Or.inl h3), if_neg h2]
theorem tz_itA {n1 : Int32 × Nat × Int32} (hp : p < N) (hk : ¬ pz_kind (T p) = 0) (h3 : ¬ rd 3 = 6) (h2 : ¬ rd 2 = 0) (hn : pz_num T N (p + 1) 1 20 44 = n1) : pz_item T N p rd = pz_ant1 T N (pz_kind (T p)) rd n1 := by
  rw [pz_item, if_pos ⟨hp, hk⟩, pz_ant, if_neg (fun z => z.elim h3 h2), hn]
theorem tz_a1_3 {k : Int32} {n1 : Int32 × Nat × Int32} {f : Int32} {rd2 : Nat → Int32} (h : 0 ≤ (rd 3).toInt ∧ (rd 3).toInt < 6) (e : pz_ant1 T N k rd n1 = (f, q, rd2)) (hf : f = 0) : rd2 3 = rd 3 + 1 ∧ rd2 2 = rd 2 := by
  have n3 := rx_Ni h.1
  obtain ⟨f1, q1, v1⟩ := n1
  by_cases h1 : f1 = 0
  · subst h1
    rw [tz_a1s] at e
    obtain ⟨⟨f2, q2, v2⟩, hn2⟩ : ∃ z, pz_num T N q1 0 99 44 = z := ⟨_, rfl⟩
    rw [hn2] at e
    by_cases h2 : f2 = 0
    · subst h2
      rw [tz_a2s] at e
      obtain ⟨⟨f3, q3, v3⟩, hn3⟩ : ∃ z, pz_num T N q2 1 9 59 = z := ⟨_, rfl⟩
      rw [hn3] at e
      by_cases h3 : f3 = 0
      · subst h3
        rw [tz_a3s] at e
        have e3 := congrArg (fun z => z.2.2) e
        have e3 : pz_rd rd (rx_N (rd 3)) k v1 v2 v3 = rd2 := e3
        obtain ⟨g, g3, -⟩ := pz_rd_at (rd := rd) (a := rx_N (rd 3)) (k := k) (v1 := v1) (v2 := v2) (v3 := v3) (by omega)
        rw [← e3]
        exact ⟨g3, g 2 (by omega) (by omega) (by omega) (by omega) (by omega) (by omega)⟩
      · rw [tz_a3 h3] at e
        exact absurd ((congrArg (fun z => z.1) e).trans hf) h3
    · rw [tz_a2 h2] at e
      exact absurd ((congrArg (fun z => z.1) e).trans hf) h2
  · rw [tz_a1 h1] at e
    exact absurd ((congrArg (fun z => z.1) e).trans hf) h1
end
set_option maxHeartbeats 1000000 in
set_option maxRecDepth 100000 in
theorem kX6_readAnts {l : Launch} {O : rx_O} (hO : cb_O O) {σ : rx_S} {T : Nat → Int32} {N F0 p0 : Nat} {rd0 : Nat → Int32} (h : tt T N p0 σ) (hN : N ≤ 120) (hR : cb_R cb_T σ 243 rd0) (hF : N + 2 ≤ F0 + p0) (hp : p0 ≤ N) (hI : pz_I rd0) (h3 : rd0 3 = 0) (h2 : ¬ rd0 2 = 0) (hg : ¬ pz_c T N p0 103) : rx_MI l O yX6_readAnts cX6_readAnts 4 (some .boolean) 3 [.ref 22, .ref 243] σ (fun r τ => tz σ τ ∧ ((r = 1 ∧ ∃ q rd2, pz_loop T N F0 p0 rd0 = (0, q, rd2) ∧ pz_I rd2 ∧ ¬ rd2 3 = 0 ∧ τ.1 22 3 = σ.1 22 3 ∧ cb_R cb_T τ 243 rd2) ∨ (r = 0 ∧ ∃ f q rd2, pz_loop T N F0 p0 rd0 = (f, q, rd2) ∧ ¬ f = 0 ∧ τ.1 22 3 = f ∧ τ.1 22 2 = nI q ∧ cb_bo τ 243))) := by
  refine rx_Met_of (own := RX6) rfl hO.2.1 vsX6_readAnts.2.2.2.2.2 (Nat.le_of_ble_eq_true rfl) rfl (fun pg e s m args below meth cd X => ?_)
  have loop : ∀ (k : Nat) (t F p : Nat) (x : Int32) (τ : rx_S) (rd : Nat → Int32), (t + k = 6) → (x = nI t) → (N + 2 ≤ F + p) → (p ≤ N) → (pz_I rd) → (rd 3 = nI t) → (¬ rd 2 = 0) → (rd 3 = 0 → ¬ pz_c T N p 103) → (tz σ τ) → (tt T N p τ) → (τ.1 22 3 = σ.1 22 3) → (cb_R cb_T τ 243 rd) → (pz_loop T N F0 p0 rd0 = pz_loop T N F p rd) → rx_J O 4 pg l e (rx_lv 3) s m args below meth cd (rx_QI O below args s (fun r τ => tz σ τ ∧ ((r = 1 ∧ ∃ q rd2, pz_loop T N F0 p0 rd0 = (0, q, rd2) ∧ pz_I rd2 ∧ ¬ rd2 3 = 0 ∧ τ.1 22 3 = σ.1 22 3 ∧ cb_R cb_T τ 243 rd2) ∨ (r = 0 ∧ ∃ f q rd2, pz_loop T N F0 p0 rd0 = (f, q, rd2) ∧ ¬ f = 0 ∧ τ.1 22 3 = f ∧ τ.1 22 2 = nI q ∧ cb_bo τ 243)))) 2 [(0, .ref 22), (1, .ref 243), (2, .int x)] [] τ := by
    intro k
    induction k with
    | zero =>
      intro t F p x τ rd ht hx hF hp hI ht3 h2 hg hz h hl hR he
      obtain rfl : t = 6 := by omega
      subst hx
      obtain ⟨F, rfl⟩ : ∃ G, F = G + 1 := ⟨F - 1, by omega⟩
      refine rx_iload_n (i := 2) X dX6_readAnts_2 rfl rfl ?_
      refine rx_bipush (v := 6) X dX6_readAnts_3 (by decide) ?_
      refine rx_icmp_gt_f X dX6_readAnts_5 (by decide) ?_
      refine rx_iload_n (i := 2) X dX6_readAnts_8 rfl rfl ?_
      have hr3 : ¬ rd 3 = 0 := by
        rw [ht3]
        decide
      refine rx_if_le_f X dX6_readAnts_9 (by decide) ?_
      refine rx_aload_n (i := 0) X dX6_readAnts_12 rfl rfl ?_
      refine rx_getI (ci := 6) (i := 2) X (kc_22 hO) rfl rfl (by decide) inX6 flX6_19 dX6_readAnts_13 ?_
      refine rx_top h.2.2 ?_
      refine rx_aload_n (i := 0) X dX6_readAnts_16 rfl rfl ?_
      refine rx_getI (ci := 6) (i := 1) X (kc_22 hO) rfl rfl (by decide) inX6 flX6_15 dX6_readAnts_17 ?_
      refine rx_top h.2.1 ?_
      refine rx_icmp_lt X dX6_readAnts_20 (fun h20 => ?_) (fun h20 => ?_)
      · rw [Int32.lt_iff_toInt_lt, nI_toInt (by omega), nI_toInt (by omega)] at h20
        have hn3 : ¬ (pz_tok T N p = 3 ∧ ¬ rd 3 = 0) := fun z => tz_lt (by omega) z.1
        refine rx_aload_n (i := 0) X dX6_readAnts_25 rfl rfl ?_
        refine rx_aload_n (i := 0) X dX6_readAnts_26 rfl rfl ?_
        refine rx_callVi (ci := 6) X vsX6_nextByte mlX6_46 (kX6_nextByte hO h hp hN) (kc_22 hO) rfl rfl (by decide) (by decide) dX6_readAnts_27 rfl (Nat.le_of_ble_eq_true rfl) (fun r27 t27 h27 => ?_)
        obtain ⟨rfl, rfl⟩ := h27
        refine rx_callVi (ci := 6) X vsX6_kindOf mlX6_60 (kX6_kindOf hO) (kc_22 hO) rfl rfl (by decide) (by decide) dX6_readAnts_30 rfl (Nat.le_of_ble_eq_true rfl) (fun r30 t30 h30 => ?_)
        obtain ⟨rfl, rfl⟩ := h30
        refine rx_istore_n (i := 3) (lo2 := [(0, .ref _), (1, .ref _), (2, .int _), (3, .int _)]) X dX6_readAnts_33 rfl (by decide) rfl ?_
        refine rx_iload_n (i := 3) X dX6_readAnts_34 rfl rfl ?_
        refine rx_iconst (v := -1) X dX6_readAnts_35 (by decide) ?_
        refine rx_icmp_ne X dX6_readAnts_36 (fun h36 => ?_) (fun h36 => ?_)
        · have hpN : p < N := Decidable.of_not_not (fun z => h36 (by rw [if_neg z]; exact tz_k1))
          rw [if_pos hpN] at h36
          obtain ⟨hk0, hk1⟩ := tz_kY h36
          have hk2 : tz_k (if p < N then T p else -1) = pz_kind (T p) := by rw [if_pos hpN]; exact hk1
          refine rx_iload_n (i := 2) X dX6_readAnts_45 rfl rfl ?_
          refine rx_bipush (v := 6) X dX6_readAnts_46 (by decide) ?_
          refine rx_icmp_ne_f X dX6_readAnts_48 rfl ?_
          refine rx_aload_n (i := 0) X dX6_readAnts_51 rfl rfl ?_
          refine rx_iconst (v := 3) X dX6_readAnts_52 (by decide) ?_
          refine rx_callVi (ci := 6) X vsX6_fail mlX6_50 (kX6_fail hO) (kc_22 hO) rfl rfl (by decide) (by decide) dX6_readAnts_53 rfl (Nat.le_of_ble_eq_true rfl) (fun r53 t53 h53 => ?_)
          obtain ⟨rfl, rfl⟩ := h53
          refine rx_zret X dX6_readAnts_56 rfl ?_
          refine ⟨hz.u3, Or.inr ⟨rfl, 3, p, rd, ?_, by decide, u22_33, u22_2.trans h.2.2, hR.u22.1⟩⟩
          rw [he]
          refine tz_fl hn3 ?_ (by decide)
          exact tz_it6 hpN hk0 ht3 h2
        · 
          refine rx_aload_n (i := 0) X dX6_readAnts_39 rfl rfl ?_
          refine rx_iconst (v := 1) X dX6_readAnts_40 (by decide) ?_
          refine rx_callVi (ci := 6) X vsX6_fail mlX6_50 (kX6_fail hO) (kc_22 hO) rfl rfl (by decide) (by decide) dX6_readAnts_41 rfl (Nat.le_of_ble_eq_true rfl) (fun r41 t41 h41 => ?_)
          obtain ⟨rfl, rfl⟩ := h41
          refine rx_zret X dX6_readAnts_44 rfl ?_
          refine ⟨hz.u3, Or.inr ⟨rfl, 1, p, rd, ?_, by decide, u22_33, u22_2.trans h.2.2, hR.u22.1⟩⟩
          rw [he]
          refine tz_fl hn3 ?_ (by decide)
          exact tz_it1 hI (fun z => by rw [if_pos z] at h36; exact tz_kN h36) hg
      · rw [Int32.lt_iff_toInt_lt, nI_toInt (by omega), nI_toInt (by omega)] at h20
        refine rx_iconst (v := 1) X dX6_readAnts_23 (by decide) ?_
        refine rx_zret X dX6_readAnts_24 rfl ?_
        have hpN : p = N := by omega
        exact ⟨hz, Or.inl ⟨rfl, p, rd, by rw [he]; exact pz_loop_x ⟨tz_N hpN, hr3⟩, hI, hr3, hl, hR⟩⟩
    | succ k ih =>
      intro t F p x τ rd ht hx hF hp hI ht3 h2 hg hz h hl hR he
      subst hx
      obtain ⟨F, rfl⟩ : ∃ G, F = G + 1 := ⟨F - 1, by omega⟩
      refine rx_iload_n (i := 2) X dX6_readAnts_2 rfl rfl ?_
      refine rx_bipush (v := 6) X dX6_readAnts_3 (by decide) ?_
      refine rx_icmp_gt_f X dX6_readAnts_5 (nI_ngt (b := 6) (by omega) (by decide)) ?_
      refine rx_iload_n (i := 2) X dX6_readAnts_8 rfl rfl ?_
      refine rx_if_le X dX6_readAnts_9 (fun h9 => ?_) (fun h9 => ?_)
      · have ht0 : t = 0 := by
          rw [Int32.le_iff_toInt_le, nI_toInt (by omega)] at h9
          have e0 : (0 : Int32).toInt = 0 := rfl
          omega
        have hn3 : ¬ (pz_tok T N p = 3 ∧ ¬ rd 3 = 0) := fun z => z.2 (by rw [ht3, ht0]; rfl)
        refine rx_aload_n (i := 0) X dX6_readAnts_25 rfl rfl ?_
        refine rx_aload_n (i := 0) X dX6_readAnts_26 rfl rfl ?_
        refine rx_callVi (ci := 6) X vsX6_nextByte mlX6_46 (kX6_nextByte hO h hp hN) (kc_22 hO) rfl rfl (by decide) (by decide) dX6_readAnts_27 rfl (Nat.le_of_ble_eq_true rfl) (fun r27 t27 h27 => ?_)
        obtain ⟨rfl, rfl⟩ := h27
        refine rx_callVi (ci := 6) X vsX6_kindOf mlX6_60 (kX6_kindOf hO) (kc_22 hO) rfl rfl (by decide) (by decide) dX6_readAnts_30 rfl (Nat.le_of_ble_eq_true rfl) (fun r30 t30 h30 => ?_)
        obtain ⟨rfl, rfl⟩ := h30
        refine rx_istore_n (i := 3) (lo2 := [(0, .ref _), (1, .ref _), (2, .int _), (3, .int _)]) X dX6_readAnts_33 rfl (by decide) rfl ?_
        refine rx_iload_n (i := 3) X dX6_readAnts_34 rfl rfl ?_
        refine rx_iconst (v := -1) X dX6_readAnts_35 (by decide) ?_
        refine rx_icmp_ne X dX6_readAnts_36 (fun h36 => ?_) (fun h36 => ?_)
        · have hpN : p < N := Decidable.of_not_not (fun z => h36 (by rw [if_neg z]; exact tz_k1))
          rw [if_pos hpN] at h36
          obtain ⟨hk0, hk1⟩ := tz_kY h36
          have hk2 : tz_k (if p < N then T p else -1) = pz_kind (T p) := by rw [if_pos hpN]; exact hk1
          refine rx_iload_n (i := 2) X dX6_readAnts_45 rfl rfl ?_
          refine rx_bipush (v := 6) X dX6_readAnts_46 (by decide) ?_
          refine rx_icmp_ne_t X dX6_readAnts_48 (fun z => absurd (nI_inj (a := t) (b := 6) (by omega) (by decide) z) (by omega)) ?_
          refine rx_aload_n (i := 0) X dX6_readAnts_57 rfl rfl ?_
          refine rx_dup X dX6_readAnts_58 rfl ?_
          refine rx_getI (ci := 6) (i := 2) X (kc_22 hO) rfl rfl (by decide) inX6 flX6_19 dX6_readAnts_59 ?_
          refine rx_top h.2.2 ?_
          refine rx_iconst (v := 1) X dX6_readAnts_62 (by decide) ?_
          refine rx_iadd X dX6_readAnts_63 ?_
          refine rx_top (nI_1 p) ?_
          refine rx_putI (ci := 6) (i := 2) X (kc_22 hO) rfl rfl (by decide) inX6 tyX6 tyX6_ok nmX6 flX6_19 rfl rfl dX6_readAnts_64 ?_
          refine rx_aload_n (i := 0) X dX6_readAnts_67 rfl rfl ?_
          refine rx_aload_n (i := 1) X dX6_readAnts_68 rfl rfl ?_
          refine rx_iload_n (i := 3) X dX6_readAnts_69 rfl rfl ?_
          rw [hk2]
          have h36x : ¬ rd 3 = 6 := fun z => absurd (nI_inj (a := t) (b := 6) (by omega) (by decide) (ht3.symm.trans z)) (by omega)
          have hr : 0 ≤ (rd 3).toInt ∧ (rd 3).toInt < 6 := by rw [ht3, nI_toInt (by omega)]; omega
          obtain ⟨n1, hn1⟩ : ∃ n1, pz_num T N (p + 1) 1 20 44 = n1 := ⟨_, rfl⟩
          refine rx_callVi (ci := 6) X vsX6_readAnt mlX6_64 (kX6_readAnt hO h.at2 hpN hN hR.u22 hr hI.2.2.2.2.1) (kc_22 hO) rfl rfl (by decide) (by decide) dX6_readAnts_70 rfl (Nat.le_of_ble_eq_true rfl) (fun r70 t70 h70 => ?_)
          rw [hn1] at h70
          obtain ⟨f, q, rd2, e2, hz2, ⟨rfl, hf, h2q, h2l, h2R⟩ | ⟨rfl, hf, h2f, h2q, h2b⟩⟩ := h70
          · refine rx_if_ne_t X dX6_readAnts_73 (by decide) ?_
            refine rx_iinc (i := 2) (lo2 := [(0, .ref _), (1, .ref _), (2, .int _), (3, .int _)]) X dX6_readAnts_78 rfl (rx_inc1 _) (by decide) rfl ?_
            refine rx_goto X dX6_readAnts_81 ?_
            have hit := (tz_itA hpN hk0 h36x h2 hn1).trans e2
            have hia : pz_ant T N p (pz_kind (T p)) rd = (f, q, rd2) := by rw [pz_ant, if_neg (fun z => z.elim h36x h2), hn1]; exact e2
            have k := pz_I_ant (T := T) (N := N) (p := p) hpN (pz_kind_r hk0) hI (by rw [hia]; exact hf)
            rw [hia] at k
            have k3 := tz_a1_3 hr e2 hf
            have hpq : p < q := k.2.1
            refine rx_less [0, 1, 2] rfl ?_
            have hs : rd2 3 = nI (t + 1) := by rw [k3.1, ht3]; exact nI_1 t
            exact ih (t + 1) F q _ _ rd2 (by omega) (nI_1 t) (by omega) k.2.2 k.1 hs (by rw [k3.2]; exact h2) (fun z => absurd (nI_inj (a := t + 1) (b := 0) (by omega) (by decide) (hs.symm.trans z)) (by omega)) (hz.u2.tr hz2) (h.at2.mv hz2 h2q) (h2l.trans (u22_3.trans hl)) h2R (by rw [he]; exact tz_sl hn3 hit hf)
          · refine rx_if_ne_f X dX6_readAnts_73 (by decide) ?_
            refine rx_iconst (v := 0) X dX6_readAnts_76 (by decide) ?_
            refine rx_zret X dX6_readAnts_77 rfl ?_
            have hit := (tz_itA hpN hk0 h36x h2 hn1).trans e2
            exact ⟨hz.u2.tr hz2, Or.inr ⟨rfl, f, q, rd2, by rw [he]; exact tz_fl hn3 hit hf, hf, h2f, h2q, h2b⟩⟩
        · 
          refine rx_aload_n (i := 0) X dX6_readAnts_39 rfl rfl ?_
          refine rx_iconst (v := 1) X dX6_readAnts_40 (by decide) ?_
          refine rx_callVi (ci := 6) X vsX6_fail mlX6_50 (kX6_fail hO) (kc_22 hO) rfl rfl (by decide) (by decide) dX6_readAnts_41 rfl (Nat.le_of_ble_eq_true rfl) (fun r41 t41 h41 => ?_)
          obtain ⟨rfl, rfl⟩ := h41
          refine rx_zret X dX6_readAnts_44 rfl ?_
          refine ⟨hz.u3, Or.inr ⟨rfl, 1, p, rd, ?_, by decide, u22_33, u22_2.trans h.2.2, hR.u22.1⟩⟩
          rw [he]
          refine tz_fl hn3 ?_ (by decide)
          exact tz_it1 hI (fun z => by rw [if_pos z] at h36; exact tz_kN h36) hg
      · have ht0 : ¬ t = 0 := by
          rintro rfl
          exact h9 (by decide)
        have hr3 : ¬ rd 3 = 0 := by
          rw [ht3]
          exact fun z => absurd (nI_inj (a := t) (b := 0) (by omega) (by decide) z) ht0
        refine rx_aload_n (i := 0) X dX6_readAnts_12 rfl rfl ?_
        refine rx_getI (ci := 6) (i := 2) X (kc_22 hO) rfl rfl (by decide) inX6 flX6_19 dX6_readAnts_13 ?_
        refine rx_top h.2.2 ?_
        refine rx_aload_n (i := 0) X dX6_readAnts_16 rfl rfl ?_
        refine rx_getI (ci := 6) (i := 1) X (kc_22 hO) rfl rfl (by decide) inX6 flX6_15 dX6_readAnts_17 ?_
        refine rx_top h.2.1 ?_
        refine rx_icmp_lt X dX6_readAnts_20 (fun h20 => ?_) (fun h20 => ?_)
        · rw [Int32.lt_iff_toInt_lt, nI_toInt (by omega), nI_toInt (by omega)] at h20
          have hn3 : ¬ (pz_tok T N p = 3 ∧ ¬ rd 3 = 0) := fun z => tz_lt (by omega) z.1
          refine rx_aload_n (i := 0) X dX6_readAnts_25 rfl rfl ?_
          refine rx_aload_n (i := 0) X dX6_readAnts_26 rfl rfl ?_
          refine rx_callVi (ci := 6) X vsX6_nextByte mlX6_46 (kX6_nextByte hO h hp hN) (kc_22 hO) rfl rfl (by decide) (by decide) dX6_readAnts_27 rfl (Nat.le_of_ble_eq_true rfl) (fun r27 t27 h27 => ?_)
          obtain ⟨rfl, rfl⟩ := h27
          refine rx_callVi (ci := 6) X vsX6_kindOf mlX6_60 (kX6_kindOf hO) (kc_22 hO) rfl rfl (by decide) (by decide) dX6_readAnts_30 rfl (Nat.le_of_ble_eq_true rfl) (fun r30 t30 h30 => ?_)
          obtain ⟨rfl, rfl⟩ := h30
          refine rx_istore_n (i := 3) (lo2 := [(0, .ref _), (1, .ref _), (2, .int _), (3, .int _)]) X dX6_readAnts_33 rfl (by decide) rfl ?_
          refine rx_iload_n (i := 3) X dX6_readAnts_34 rfl rfl ?_
          refine rx_iconst (v := -1) X dX6_readAnts_35 (by decide) ?_
          refine rx_icmp_ne X dX6_readAnts_36 (fun h36 => ?_) (fun h36 => ?_)
          · have hpN : p < N := Decidable.of_not_not (fun z => h36 (by rw [if_neg z]; exact tz_k1))
            rw [if_pos hpN] at h36
            obtain ⟨hk0, hk1⟩ := tz_kY h36
            have hk2 : tz_k (if p < N then T p else -1) = pz_kind (T p) := by rw [if_pos hpN]; exact hk1
            refine rx_iload_n (i := 2) X dX6_readAnts_45 rfl rfl ?_
            refine rx_bipush (v := 6) X dX6_readAnts_46 (by decide) ?_
            refine rx_icmp_ne_t X dX6_readAnts_48 (fun z => absurd (nI_inj (a := t) (b := 6) (by omega) (by decide) z) (by omega)) ?_
            refine rx_aload_n (i := 0) X dX6_readAnts_57 rfl rfl ?_
            refine rx_dup X dX6_readAnts_58 rfl ?_
            refine rx_getI (ci := 6) (i := 2) X (kc_22 hO) rfl rfl (by decide) inX6 flX6_19 dX6_readAnts_59 ?_
            refine rx_top h.2.2 ?_
            refine rx_iconst (v := 1) X dX6_readAnts_62 (by decide) ?_
            refine rx_iadd X dX6_readAnts_63 ?_
            refine rx_top (nI_1 p) ?_
            refine rx_putI (ci := 6) (i := 2) X (kc_22 hO) rfl rfl (by decide) inX6 tyX6 tyX6_ok nmX6 flX6_19 rfl rfl dX6_readAnts_64 ?_
            refine rx_aload_n (i := 0) X dX6_readAnts_67 rfl rfl ?_
            refine rx_aload_n (i := 1) X dX6_readAnts_68 rfl rfl ?_
            refine rx_iload_n (i := 3) X dX6_readAnts_69 rfl rfl ?_
            rw [hk2]
            have h36x : ¬ rd 3 = 6 := fun z => absurd (nI_inj (a := t) (b := 6) (by omega) (by decide) (ht3.symm.trans z)) (by omega)
            have hr : 0 ≤ (rd 3).toInt ∧ (rd 3).toInt < 6 := by rw [ht3, nI_toInt (by omega)]; omega
            obtain ⟨n1, hn1⟩ : ∃ n1, pz_num T N (p + 1) 1 20 44 = n1 := ⟨_, rfl⟩
            refine rx_callVi (ci := 6) X vsX6_readAnt mlX6_64 (kX6_readAnt hO h.at2 hpN hN hR.u22 hr hI.2.2.2.2.1) (kc_22 hO) rfl rfl (by decide) (by decide) dX6_readAnts_70 rfl (Nat.le_of_ble_eq_true rfl) (fun r70 t70 h70 => ?_)
            rw [hn1] at h70
            obtain ⟨f, q, rd2, e2, hz2, ⟨rfl, hf, h2q, h2l, h2R⟩ | ⟨rfl, hf, h2f, h2q, h2b⟩⟩ := h70
            · refine rx_if_ne_t X dX6_readAnts_73 (by decide) ?_
              refine rx_iinc (i := 2) (lo2 := [(0, .ref _), (1, .ref _), (2, .int _), (3, .int _)]) X dX6_readAnts_78 rfl (rx_inc1 _) (by decide) rfl ?_
              refine rx_goto X dX6_readAnts_81 ?_
              have hit := (tz_itA hpN hk0 h36x h2 hn1).trans e2
              have hia : pz_ant T N p (pz_kind (T p)) rd = (f, q, rd2) := by rw [pz_ant, if_neg (fun z => z.elim h36x h2), hn1]; exact e2
              have k := pz_I_ant (T := T) (N := N) (p := p) hpN (pz_kind_r hk0) hI (by rw [hia]; exact hf)
              rw [hia] at k
              have k3 := tz_a1_3 hr e2 hf
              have hpq : p < q := k.2.1
              refine rx_less [0, 1, 2] rfl ?_
              have hs : rd2 3 = nI (t + 1) := by rw [k3.1, ht3]; exact nI_1 t
              exact ih (t + 1) F q _ _ rd2 (by omega) (nI_1 t) (by omega) k.2.2 k.1 hs (by rw [k3.2]; exact h2) (fun z => absurd (nI_inj (a := t + 1) (b := 0) (by omega) (by decide) (hs.symm.trans z)) (by omega)) (hz.u2.tr hz2) (h.at2.mv hz2 h2q) (h2l.trans (u22_3.trans hl)) h2R (by rw [he]; exact tz_sl hn3 hit hf)
            · refine rx_if_ne_f X dX6_readAnts_73 (by decide) ?_
              refine rx_iconst (v := 0) X dX6_readAnts_76 (by decide) ?_
              refine rx_zret X dX6_readAnts_77 rfl ?_
              have hit := (tz_itA hpN hk0 h36x h2 hn1).trans e2
              exact ⟨hz.u2.tr hz2, Or.inr ⟨rfl, f, q, rd2, by rw [he]; exact tz_fl hn3 hit hf, hf, h2f, h2q, h2b⟩⟩
          · 
            refine rx_aload_n (i := 0) X dX6_readAnts_39 rfl rfl ?_
            refine rx_iconst (v := 1) X dX6_readAnts_40 (by decide) ?_
            refine rx_callVi (ci := 6) X vsX6_fail mlX6_50 (kX6_fail hO) (kc_22 hO) rfl rfl (by decide) (by decide) dX6_readAnts_41 rfl (Nat.le_of_ble_eq_true rfl) (fun r41 t41 h41 => ?_)
            obtain ⟨rfl, rfl⟩ := h41
            refine rx_zret X dX6_readAnts_44 rfl ?_
            refine ⟨hz.u3, Or.inr ⟨rfl, 1, p, rd, ?_, by decide, u22_33, u22_2.trans h.2.2, hR.u22.1⟩⟩
            rw [he]
            refine tz_fl hn3 ?_ (by decide)
            exact tz_it1 hI (fun z => by rw [if_pos z] at h36; exact tz_kN h36) hg
        · rw [Int32.lt_iff_toInt_lt, nI_toInt (by omega), nI_toInt (by omega)] at h20
          refine rx_iconst (v := 1) X dX6_readAnts_23 (by decide) ?_
          refine rx_zret X dX6_readAnts_24 rfl ?_
          have hpN : p = N := by omega
          exact ⟨hz, Or.inl ⟨rfl, p, rd, by rw [he]; exact pz_loop_x ⟨tz_N hpN, hr3⟩, hI, hr3, hl, hR⟩⟩
  refine rx_iconst (v := 0) X dX6_readAnts_0 (by decide) ?_
  refine rx_istore_n (i := 2) (lo2 := [(0, .ref _), (1, .ref _), (2, .int _)]) X dX6_readAnts_1 rfl (by decide) rfl ?_
  exact loop 6 0 F0 p0 _ σ rd0 rfl rfl hF hp hI h3 h2 (fun _ => hg) (tz.rf σ) h rfl hR rfl
theorem tz_zero {rd : Nat → Int32} {i : Nat} (h : i < 40) : pz_z rd i = 0 := if_pos h
theorem tz_I0 {rd : Nat → Int32} {v : Int32} (h : 1 ≤ v.toInt ∧ v.toInt ≤ 99) : pz_I (upd (pz_z rd) 0 v) := by
  have e : ∀ i, i ≠ 0 → i < 40 → upd (pz_z rd) 0 v i = 0 := fun i h1 h2 => by rw [upd_n h1]; exact tz_zero h2
  refine ⟨by rw [upd_s]; exact h, e 1 (by decide) (by decide), ?_, ?_, e 4 (by decide) (by decide), fun i hi => ?_, fun a ha => ?_, fun h3 => absurd (e 3 (by decide) (by decide)) h3⟩
  · rw [e 2 (by decide) (by decide)]; decide
  · rw [e 3 (by decide) (by decide)]; decide
  · rw [e 2 (by decide) (by decide)] at hi; exact absurd hi (Nat.not_lt_zero i)
  · rw [e 3 (by decide) (by decide)] at ha; exact absurd ha (Nat.not_lt_zero a)
theorem tz_wall_0 {T : Nat → Int32} {N q : Nat} {rd rd2 : Nat → Int32} {f : Int32} (e : tz_law T N (pz_z rd) (pz_num T N 1 1 99 59) = (f, q, rd2)) (hf : ¬ f = 0) : ∃ rd3, pz_wall T N rd = (f, q, rd3) := by
  obtain ⟨⟨f1, q1, v1⟩, hn⟩ : ∃ z, pz_num T N 1 1 99 59 = z := ⟨_, rfl⟩
  rw [hn] at e
  rw [tz_law] at e
  by_cases hc : pz_c T N 0 119
  · rw [if_neg (fun z => z hc)] at e
    by_cases h1 : f1 = 0
    · rw [if_pos h1] at e
      exact absurd ((congrArg (fun z => z.1) e).symm) hf
    · rw [if_neg h1] at e
      refine ⟨rd, ?_⟩
      rw [pz_wall, if_neg (fun z => z hc), hn, if_neg h1]
      exact Prod.ext (congrArg (fun z => z.1) e) (Prod.ext (congrArg (fun z => z.2.1) e) rfl)
  · rw [if_pos hc] at e
    refine ⟨rd, ?_⟩
    rw [pz_wall, if_pos hc]
    exact Prod.ext (congrArg (fun z => z.1) e) (Prod.ext (congrArg (fun z => z.2.1) e) rfl)
theorem tz_wall_1 {T : Nat → Int32} {N q : Nat} {rd rd2 : Nat → Int32} {f : Int32} (e : tz_law T N (pz_z rd) (pz_num T N 1 1 99 59) = (f, q, rd2)) (hf : f = 0) : pz_wall T N rd = pz_loop T N (N + 2) q rd2 ∧ q ≤ N ∧ pz_I rd2 ∧ rd2 3 = 0 ∧ rd2 2 = 0 := by
  obtain ⟨⟨f1, q1, v1⟩, hn⟩ : ∃ z, pz_num T N 1 1 99 59 = z := ⟨_, rfl⟩
  rw [hn] at e
  rw [tz_law] at e
  by_cases hc : pz_c T N 0 119
  · rw [if_neg (fun z => z hc)] at e
    by_cases h1 : f1 = 0
    · rw [if_pos h1] at e
      have eq : q1 = q := congrArg (fun z => z.2.1) e
      have er : upd (pz_z rd) 0 v1 = rd2 := congrArg (fun z => z.2.2) e
      have k := pz_num_0 (T := T) (N := N) (p := 1) (lo := 1) (hi := 99) (sg := 59) hc.1 (by rw [hn]; exact h1)
      rw [hn] at k
      subst eq
      subst er
      refine ⟨?_, k.2.1, tz_I0 k.2.2, ?_, ?_⟩
      · rw [pz_wall, if_neg (fun z => z hc), hn, if_pos h1]
      · rw [upd_n (by decide)]; exact tz_zero (by decide)
      · rw [upd_n (by decide)]; exact tz_zero (by decide)
    · rw [if_neg h1] at e
      exact absurd ((congrArg (fun z => z.1) e).trans hf) h1
  · rw [if_pos hc] at e
    exact absurd (show (1 : Int32) = 0 from (congrArg (fun z => z.1) e).trans hf) (by decide)
set_option maxHeartbeats 1000000 in
set_option maxRecDepth 100000 in
theorem kX6_readWall {l : Launch} {O : rx_O} (hO : cb_O O) {σ : rx_S} {T : Nat → Int32} {N : Nat} {rd : Nat → Int32} (hT : σ.1 23 = T) (h1 : σ.1 22 1 = nI N) (hN : N ≤ 120) (hbo : cb_bo σ 243) : rx_MI l O yX6_readWall cX6_readWall 2 (some .boolean) 4 [.ref 22, .ref 243] σ (fun r τ => tz σ τ ∧ ((r = 1 ∧ ∃ q rd2, pz_wall T N rd = (0, q, rd2) ∧ pz_I rd2 ∧ ¬ rd2 3 = 0 ∧ τ.1 22 3 = σ.1 22 3 ∧ cb_R cb_T τ 243 rd2) ∨ (r = 0 ∧ ∃ f q rd2, pz_wall T N rd = (f, q, rd2) ∧ ¬ f = 0 ∧ τ.1 22 3 = f ∧ τ.1 22 2 = nI q ∧ cb_bo τ 243))) := by
  refine rx_Met_of (own := RX6) rfl hO.2.1 vsX6_readWall.2.2.2.2.2 (Nat.le_of_ble_eq_true rfl) rfl (fun pg e s m args below meth cd X => ?_)
  refine rx_aload_n (i := 0) X dX6_readWall_0 rfl rfl ?_
  refine rx_iconst (v := 0) X dX6_readWall_1 (by decide) ?_
  refine rx_putI (ci := 6) (i := 2) X (kc_22 hO) rfl rfl (by decide) inX6 tyX6 tyX6_ok nmX6 flX6_19 rfl rfl dX6_readWall_2 ?_
  refine rx_aload_n (i := 1) X dX6_readWall_5 rfl rfl ?_
  refine rx_callVv (ci := 3) X vsX3_clear mlX6_22 (kX3_clear hO cb_B243 (w := pz_z rd) (fun a ha => by rw [rx_u_ne (by omega)]; exact hbo a ha) ⟨tz_zero (by decide), tz_zero (by decide), tz_zero (by decide), tz_zero (by decide)⟩) (kb_0 hO cb_B243) rfl rfl (by decide) (by decide) dX6_readWall_6 rfl (Nat.le_of_ble_eq_true rfl) (fun t6 h6 => ?_)
  obtain ⟨h6f, h6⟩ := h6
  have hz6 := ((tz.rf σ).u2 (v := 0)).fr h6f
  have ht6 : tt T N 0 t6 := ⟨(hz6.1 23 (by omega) (by omega)).trans hT, (hz6.2.2 1 (by omega) (by omega)).trans h1, by rw [h6f.2 22 (by omega), u22_22]; rfl⟩
  have hl6 : t6.1 22 3 = σ.1 22 3 := by rw [h6f.2 22 (by omega), u22_3]
  refine rx_aload_n (i := 0) X dX6_readWall_9 rfl rfl ?_
  refine rx_aload_n (i := 1) X dX6_readWall_10 rfl rfl ?_
  refine rx_callVi (ci := 6) X vsX6_readLaw mlX6_27 (kX6_readLaw hO ht6 hN h6) (kc_22 hO) rfl rfl (by decide) (by decide) dX6_readWall_11 rfl (Nat.le_of_ble_eq_true rfl) (fun r11 t11 h11 => ?_)
  obtain ⟨f1, q1, rd1, e1, hz1, ⟨rfl, hf1, h1q, h1l, h1R⟩ | ⟨rfl, hf1, h1f, h1q, h1b⟩⟩ := h11
  · obtain ⟨ew, hq1, hI1, h31, h21⟩ := tz_wall_1 e1 hf1
    refine rx_if_eq_f X dX6_readWall_14 (by decide) ?_
    refine rx_aload_n (i := 0) X dX6_readWall_17 rfl rfl ?_
    refine rx_aload_n (i := 1) X dX6_readWall_18 rfl rfl ?_
    refine rx_callVi (ci := 6) X vsX6_readPulls mlX6_31 (kX6_readPulls hO (F0 := N + 2) (ht6.mv hz1 h1q) hN h1R (by omega) hq1 hI1 h31 h21) (kc_22 hO) rfl rfl (by decide) (by decide) dX6_readWall_19 rfl (Nat.le_of_ble_eq_true rfl) (fun r19 t19 h19 => ?_)
    obtain ⟨hz2, ⟨rfl, F, q2, rd2, e2, hF2, hq2, hI2, h32, h22, hg2, h2q, h2l, h2R⟩ | ⟨rfl, f, q, rd2, e2, hf, h2f, h2q, h2b⟩⟩ := h19
    · refine rx_if_eq_f X dX6_readWall_22 (by decide) ?_
      refine rx_aload_n (i := 0) X dX6_readWall_25 rfl rfl ?_
      refine rx_aload_n (i := 1) X dX6_readWall_26 rfl rfl ?_
      refine rx_callVi (ci := 6) X vsX6_readAnts mlX6_34 (kX6_readAnts hO ((ht6.mv hz1 h1q).mv hz2 h2q) hN h2R hF2 hq2 hI2 h32 h22 hg2) (kc_22 hO) rfl rfl (by decide) (by decide) dX6_readWall_27 rfl (Nat.le_of_ble_eq_true rfl) (fun r27 t27 h27 => ?_)
      obtain ⟨hz3, ⟨rfl, q3, rd3, e3, hI3, h33, h3l, h3R⟩ | ⟨rfl, f, q3, rd3, e3, hf, h3f, h3q, h3b⟩⟩ := h27
      · refine rx_if_eq_f X dX6_readWall_30 (by decide) ?_
        refine rx_iconst (v := 1) X dX6_readWall_33 (by decide) ?_
        refine rx_goto X dX6_readWall_34 ?_
        refine rx_zret X dX6_readWall_38 rfl ?_
        exact ⟨((hz6.tr hz1).tr hz2).tr hz3, Or.inl ⟨rfl, q3, rd3, (ew.trans e2).trans e3, hI3, h33, h3l.trans (h2l.trans (h1l.trans hl6)), h3R⟩⟩
      · refine rx_if_eq_t X dX6_readWall_30 (by decide) ?_
        refine rx_iconst (v := 0) X dX6_readWall_37 (by decide) ?_
        refine rx_zret X dX6_readWall_38 rfl ?_
        exact ⟨((hz6.tr hz1).tr hz2).tr hz3, Or.inr ⟨rfl, f, q3, rd3, (ew.trans e2).trans e3, hf, h3f, h3q, h3b⟩⟩
    · refine rx_if_eq_t X dX6_readWall_22 (by decide) ?_
      refine rx_iconst (v := 0) X dX6_readWall_37 (by decide) ?_
      refine rx_zret X dX6_readWall_38 rfl ?_
      exact ⟨(hz6.tr hz1).tr hz2, Or.inr ⟨rfl, f, q, rd2, ew.trans e2, hf, h2f, h2q, h2b⟩⟩
  · refine rx_if_eq_t X dX6_readWall_14 (by decide) ?_
    refine rx_iconst (v := 0) X dX6_readWall_37 (by decide) ?_
    refine rx_zret X dX6_readWall_38 rfl ?_
    obtain ⟨rd3, ew⟩ := tz_wall_0 e1 hf1
    exact ⟨hz6.tr hz1, Or.inr ⟨rfl, f1, q1, rd3, ew, hf1, h1f, h1q, h1b⟩⟩
set_option maxHeartbeats 1000000 in
set_option maxRecDepth 100000 in
theorem kX6_add {l : Launch} {O : rx_O} (hO : cb_O O) {σ : rx_S} {N : Nat} {x : Int32} (h1 : σ.1 22 1 = nI N) (hN : N < 120) : rx_MI l O yX6_add cX6_add 2 (some .int) 0 [.ref 22, .int x] σ (fun r τ => nI (N + 1) = r ∧ rx_u (rx_u σ 23 N x) 22 1 (nI (N + 1)) = τ) := by
  refine rx_Met_of (own := RX6) rfl hO.2.1 vsX6_add.2.2.2.2.2 (Nat.le_of_ble_eq_true rfl) rfl (fun pg e s m args below meth cd X => ?_)
  refine rx_aload_n (i := 0) X dX6_add_0 rfl rfl ?_
  refine rx_getI (ci := 6) (i := 1) X (kc_22 hO) rfl rfl (by decide) inX6 flX6_15 dX6_add_1 ?_
  refine rx_top h1 ?_
  refine rx_bipush (v := 120) X dX6_add_4 (by decide) ?_
  refine rx_icmp_ge_f X dX6_add_6 (nI_ge (b := 120) hN (by decide)) ?_
  refine rx_aload_n (i := 0) X dX6_add_9 rfl rfl ?_
  refine rx_getR (ci := 6) (i := 0) X (kc_22 hO) rfl rfl (by decide) inX6 flX6_11 dX6_add_10 ?_
  refine rx_aload_n (i := 0) X dX6_add_13 rfl rfl ?_
  refine rx_getI (ci := 6) (i := 1) X (kc_22 hO) rfl rfl (by decide) inX6 flX6_15 dX6_add_14 ?_
  refine rx_top h1 ?_
  refine rx_iload_n (i := 1) X dX6_add_17 rfl rfl ?_
  refine rx_iastN (j := N) X (kc_23 hO) hO.2.2.1 rfl hN (by decide) dX6_add_18 ?_
  refine rx_aload_n (i := 0) X dX6_add_19 rfl rfl ?_
  refine rx_dup X dX6_add_20 rfl ?_
  refine rx_getI (ci := 6) (i := 1) X (kc_22 hO) rfl rfl (by decide) inX6 flX6_15 dX6_add_21 ?_
  refine rx_top (show _ = nI N by rw [rx_u_ne (by decide)]; exact h1) ?_
  refine rx_iconst (v := 1) X dX6_add_24 (by decide) ?_
  refine rx_iadd X dX6_add_25 ?_
  refine rx_putI (ci := 6) (i := 1) X (kc_22 hO) rfl rfl (by decide) inX6 tyX6 tyX6_ok nmX6 flX6_15 rfl rfl dX6_add_26 ?_
  refine rx_aload_n (i := 0) X dX6_add_29 rfl rfl ?_
  refine rx_getI (ci := 6) (i := 1) X (kc_22 hO) rfl rfl (by decide) inX6 flX6_15 dX6_add_30 ?_
  refine rx_top (show _ = nI (N + 1) by rw [rx_u_s, upd_s]; exact nI_1 N) ?_
  refine rx_iret X dX6_add_33 ?_
  exact ⟨rfl, by rw [nI_1]⟩
