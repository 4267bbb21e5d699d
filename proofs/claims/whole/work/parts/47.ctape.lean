/-! ===== the class reads: T the bytes, N of them, at p ===== -/
def tt (T : Nat → Int32) (N p : Nat) (σ : rx_S) : Prop := σ.1 23 = T ∧ σ.1 22 1 = nI N ∧ σ.1 22 2 = nI p
def tz (σ τ : rx_S) : Prop := (∀ k, k ≠ 22 → (k < 243 ∨ 251 < k) → τ.1 k = σ.1 k) ∧ τ.2 = σ.2 ∧ (∀ j, j ≠ 2 → j ≠ 3 → τ.1 22 j = σ.1 22 j)
section
variable {T : Nat → Int32} {N p q : Nat} {σ τ ρ : rx_S} {rd : Nat → Int32}
theorem tz.rf (σ : rx_S) : tz σ σ := ⟨fun _ _ _ => rfl, rfl, fun _ _ _ => rfl⟩
theorem tz.tr (h : tz σ τ) (h2 : tz τ ρ) : tz σ ρ := ⟨fun k a b => (h2.1 k a b).trans (h.1 k a b), h2.2.1.trans h.2.1, fun j a b => (h2.2.2 j a b).trans (h.2.2 j a b)⟩
theorem tz.u2 {v : Int32} (h : tz σ τ) : tz σ (rx_u τ 22 2 v) := ⟨fun k a b => by rw [rx_u_ne a]; exact h.1 k a b, h.2.1, fun j a b => by rw [rx_u_s, upd_n a]; exact h.2.2 j a b⟩
theorem tz.u3 {v : Int32} (h : tz σ τ) : tz σ (rx_u τ 22 3 v) := ⟨fun k a b => by rw [rx_u_ne a]; exact h.1 k a b, h.2.1, fun j a b => by rw [rx_u_s, upd_n b]; exact h.2.2 j a b⟩
theorem tz.ub {k i : Nat} {v : Int32} (h : tz σ τ) (h1 : 243 ≤ k) (h2 : k ≤ 251) : tz σ (rx_u τ k i v) := ⟨fun j a b => by rw [rx_u_ne (by omega)]; exact h.1 j a b, h.2.1, fun j a b => by rw [rx_u_ne (by omega)]; exact h.2.2 j a b⟩
theorem tz.fr (h : tz σ τ) (h2 : cb_fr 243 τ ρ) : tz σ ρ := ⟨fun k a b => (h2.2 k b).trans (h.1 k a b), h2.1.trans h.2.1, fun j a b => by rw [h2.2 22 (by omega)]; exact h.2.2 j a b⟩
theorem tt.mv (h : tt T N p σ) (hz : tz σ τ) (h2 : τ.1 22 2 = nI q) : tt T N q τ := ⟨(hz.1 23 (by omega) (by omega)).trans h.1, (hz.2.2 1 (by omega) (by omega)).trans h.2.1, h2⟩
theorem tt.at2 (h : tt T N p σ) : tt T N q (rx_u σ 22 2 (nI q)) := h.mv (tz.rf σ).u2 (by rw [rx_u_s, upd_s])
theorem tt.at3 {v : Int32} (h : tt T N p σ) : tt T N p (rx_u σ 22 3 v) := h.mv (tz.rf σ).u3 (by rw [rx_u_s, upd_n (by decide)]; exact h.2.2)
theorem cb_R.u22 {P : Nat → Prop} {j : Nat} {v : Int32} (h : cb_R P σ 243 rd) : cb_R P (rx_u σ 22 j v) 243 rd := h.out (fun k _ _ => rx_u_ne (by omega))
theorem u22_3 {v : Int32} : (rx_u σ 22 2 v).1 22 3 = σ.1 22 3 := by rw [rx_u_s, upd_n (by decide)]
theorem u22_2 {v : Int32} : (rx_u σ 22 3 v).1 22 2 = σ.1 22 2 := by rw [rx_u_s, upd_n (by decide)]
theorem u22_22 {v : Int32} : (rx_u σ 22 2 v).1 22 2 = v := by rw [rx_u_s, upd_s]
theorem u22_33 {v : Int32} : (rx_u σ 22 3 v).1 22 3 = v := by rw [rx_u_s, upd_s]
def tz_pn (f : Int32) (q : Nat) (rd : Nat → Int32) (σ : rx_S) (r : Int32) (τ : rx_S) : Prop := tz σ τ ∧ ((r = 1 ∧ f = 0 ∧ τ.1 22 2 = nI q ∧ τ.1 22 3 = σ.1 22 3 ∧ cb_R cb_T τ 243 rd) ∨ (r = 0 ∧ ¬ f = 0 ∧ τ.1 22 3 = f ∧ τ.1 22 2 = nI q ∧ cb_bo τ 243))
variable {lo hi sg : Int32}
theorem pz_num_A (h : pz_tok T N p = 2) (h2 : lo.toInt ≤ (pz_val T N p).toInt ∧ (pz_val T N p).toInt ≤ hi.toInt) (h3 : pz_c T N (pz_nx T N p) sg) : pz_num T N p lo hi sg = (0, pz_nx T N p + 1, pz_val T N p) := by
  rw [pz_num, if_neg (fun q => q h), if_neg (fun q => q h2), if_pos h3]
theorem pz_num_B (h : pz_tok T N p = 2) (h2 : lo.toInt ≤ (pz_val T N p).toInt ∧ (pz_val T N p).toInt ≤ hi.toInt) (h3 : ¬ pz_c T N (pz_nx T N p) sg) : pz_num T N p lo hi sg = (1, pz_nx T N p, 0) := by
  rw [pz_num, if_neg (fun q => q h), if_neg (fun q => q h2), if_neg h3]
theorem pz_num_C (h : ¬ (pz_tok T N p = 2 ∧ lo.toInt ≤ (pz_val T N p).toInt ∧ (pz_val T N p).toInt ≤ hi.toInt)) : pz_num T N p lo hi sg = (if pz_tok T N p = 2 then 2 else 1, p, 0) := by
  rw [pz_num]
  by_cases e : pz_tok T N p = 2
  · rw [if_neg (fun q => q e), if_pos (fun q => h ⟨e, q⟩), if_pos e]
  · rw [if_pos e, if_neg e]
theorem pz_12 {P : Prop} [Decidable P] : ¬ (if P then (2 : Int32) else 1) = 0 := by
  split <;> decide
theorem pz_vne {x : Int32} (h : 0 ≤ x.toInt) : ¬ x = -1 := by
  intro q
  rw [q] at h
  exact absurd h (by decide)
end
theorem pz_mv_sm {T : Nat → Int32} {p n : Nat} (hn : n < 2) (h : ∀ j, j < n → pz_dig (T (p + j))) : ¬ 99 < pz_mv T p n := by
  have : n = 0 ∨ n = 1 := by omega
  rcases this with rfl | rfl
  · show ¬ (99 : Int32) < 0
    decide
  · have hd := h 0 (by omega)
    rw [Nat.add_zero] at hd
    show ¬ 99 < (if 99 < (0 : Int32) then (0 : Int32) else 10 * 0 + T (p + 0) - 48)
    rw [if_neg (by decide), Nat.add_zero, Int32.lt_iff_toInt_lt, show (10 * 0 + T p - 48 : Int32) = T p - 48 by rw [show (10 * 0 : Int32) = 0 from rfl, Int32.zero_add]]
    rw [i32_sub ⟨by omega, by decide⟩]
    have e1 : (99 : Int32).toInt = 99 := rfl
    have e2 : (48 : Int32).toInt = 48 := rfl
    omega
set_option maxHeartbeats 1000000 in
set_option maxRecDepth 100000 in
theorem kX6_nextByte {l : Launch} {O : rx_O} (hO : cb_O O) {σ : rx_S} {T : Nat → Int32} {N p : Nat} (h : tt T N p σ) (hp : p ≤ N) (hN : N ≤ 120) : rx_MI l O yX6_nextByte cX6_nextByte 1 (some .int) 0 [.ref 22] σ (fun r τ => σ = τ ∧ r = (if p < N then T p else -1)) := by
  refine rx_Met_of (own := RX6) rfl hO.2.1 vsX6_nextByte.2.2.2.2.2 (Nat.le_of_ble_eq_true rfl) rfl (fun pg e s m args below meth cd X => ?_)
  refine rx_aload_n (i := 0) X dX6_nextByte_0 rfl rfl ?_
  refine rx_getI (ci := 6) (i := 2) X (kc_22 hO) rfl rfl (by decide) inX6 flX6_19 dX6_nextByte_1 ?_
  refine rx_top h.2.2 ?_
  refine rx_if_lt_f X dX6_nextByte_4 (nI_n0 (by omega)) ?_
  refine rx_aload_n (i := 0) X dX6_nextByte_7 rfl rfl ?_
  refine rx_getI (ci := 6) (i := 2) X (kc_22 hO) rfl rfl (by decide) inX6 flX6_19 dX6_nextByte_8 ?_
  refine rx_top h.2.2 ?_
  refine rx_aload_n (i := 0) X dX6_nextByte_11 rfl rfl ?_
  refine rx_getI (ci := 6) (i := 1) X (kc_22 hO) rfl rfl (by decide) inX6 flX6_15 dX6_nextByte_12 ?_
  refine rx_top h.2.1 ?_
  refine rx_icmp_ge X dX6_nextByte_15 (fun h15 => ?_) (fun h15 => ?_)
  · rw [nI_leI (by omega) (by omega)] at h15
    refine rx_iconst (v := -1) X dX6_nextByte_30 (by decide) ?_
    refine rx_iret X dX6_nextByte_31 ?_
    exact ⟨rfl, (if_neg (by omega)).symm⟩
  · rw [nI_leI (by omega) (by omega)] at h15
    refine rx_aload_n (i := 0) X dX6_nextByte_18 rfl rfl ?_
    refine rx_getR (ci := 6) (i := 0) X (kc_22 hO) rfl rfl (by decide) inX6 flX6_11 dX6_nextByte_19 ?_
    refine rx_aload_n (i := 0) X dX6_nextByte_22 rfl rfl ?_
    refine rx_getI (ci := 6) (i := 2) X (kc_22 hO) rfl rfl (by decide) inX6 flX6_19 dX6_nextByte_23 ?_
    refine rx_top h.2.2 ?_
    refine rx_ialdN (j := p) X (kc_23 hO) hO.2.2.1 rfl (by omega) (by decide) dX6_nextByte_26 ?_
    refine rx_top (congrFun h.1 p) ?_
    refine rx_goto X dX6_nextByte_27 ?_
    refine rx_iret X dX6_nextByte_31 ?_
    exact ⟨rfl, (if_pos (by omega)).symm⟩
set_option maxHeartbeats 1000000 in
set_option maxRecDepth 100000 in
theorem kX6_fail {l : Launch} {O : rx_O} (hO : cb_O O) {σ : rx_S} {f : Int32} : rx_MI l O yX6_fail cX6_fail 2 (some .boolean) 0 [.ref 22, .int f] σ (fun r τ => r = 0 ∧ rx_u σ 22 3 f = τ) := by
  refine rx_Met_of (own := RX6) rfl hO.2.1 vsX6_fail.2.2.2.2.2 (Nat.le_of_ble_eq_true rfl) rfl (fun pg e s m args below meth cd X => ?_)
  refine rx_aload_n (i := 0) X dX6_fail_0 rfl rfl ?_
  refine rx_iload_n (i := 1) X dX6_fail_1 rfl rfl ?_
  refine rx_putI (ci := 6) (i := 3) X (kc_22 hO) rfl rfl (by decide) inX6 tyX6 tyX6_ok nmX6 flX6_74 rfl rfl dX6_fail_2 ?_
  refine rx_iconst (v := 0) X dX6_fail_5 (by decide) ?_
  refine rx_zret X dX6_fail_6 rfl ?_
  exact ⟨rfl, rfl⟩
set_option maxHeartbeats 1000000 in
set_option maxRecDepth 100000 in
theorem kX6_pass {l : Launch} {O : rx_O} (hO : cb_O O) {σ : rx_S} {T : Nat → Int32} {N p : Nat} {c : Int32} (h : tt T N p σ) (hp : p ≤ N) (hN : N ≤ 120) (hc : ¬ c = -1) : rx_MI l O yX6_pass cX6_pass 2 (some .boolean) 1 [.ref 22, .int c] σ (fun r τ => (r = 1 ∧ pz_c T N p c ∧ rx_u σ 22 2 (nI (p + 1)) = τ) ∨ (r = 0 ∧ ¬ pz_c T N p c ∧ rx_u σ 22 3 1 = τ)) := by
  refine rx_Met_of (own := RX6) rfl hO.2.1 vsX6_pass.2.2.2.2.2 (Nat.le_of_ble_eq_true rfl) rfl (fun pg e s m args below meth cd X => ?_)
  refine rx_aload_n (i := 0) X dX6_pass_0 rfl rfl ?_
  refine rx_callVi (ci := 6) X vsX6_nextByte mlX6_46 (kX6_nextByte hO h hp hN) (kc_22 hO) rfl rfl (by decide) (by decide) dX6_pass_1 rfl (Nat.le_of_ble_eq_true rfl) (fun r1 t1 h1 => ?_)
  obtain ⟨rfl, rfl⟩ := h1
  refine rx_iload_n (i := 1) X dX6_pass_4 rfl rfl ?_
  refine rx_icmp_eq X dX6_pass_5 (fun h5 => ?_) (fun h5 => ?_)
  · refine rx_aload_n (i := 0) X dX6_pass_14 rfl rfl ?_
    refine rx_dup X dX6_pass_15 rfl ?_
    refine rx_getI (ci := 6) (i := 2) X (kc_22 hO) rfl rfl (by decide) inX6 flX6_19 dX6_pass_16 ?_
    refine rx_top h.2.2 ?_
    refine rx_iconst (v := 1) X dX6_pass_19 (by decide) ?_
    refine rx_iadd X dX6_pass_20 ?_
    refine rx_putI (ci := 6) (i := 2) X (kc_22 hO) rfl rfl (by decide) inX6 tyX6 tyX6_ok nmX6 flX6_19 rfl rfl dX6_pass_21 ?_
    refine rx_iconst (v := 1) X dX6_pass_24 (by decide) ?_
    refine rx_zret X dX6_pass_25 rfl ?_
    refine Or.inl ⟨rfl, ?_, ?_⟩
    · by_cases q : p < N
      · rw [if_pos q] at h5; exact ⟨q, h5⟩
      · rw [if_neg q] at h5; exact absurd h5.symm hc
    · rw [← nI_1]
  · refine rx_aload_n (i := 0) X dX6_pass_8 rfl rfl ?_
    refine rx_iconst (v := 1) X dX6_pass_9 (by decide) ?_
    refine rx_callVi (ci := 6) X vsX6_fail mlX6_50 (kX6_fail hO) (kc_22 hO) rfl rfl (by decide) (by decide) dX6_pass_10 rfl (Nat.le_of_ble_eq_true rfl) (fun r10 t10 h10 => ?_)
    obtain ⟨rfl, rfl⟩ := h10
    refine rx_zret X dX6_pass_13 rfl ?_
    refine Or.inr ⟨rfl, fun q => h5 ?_, rfl⟩
    rw [if_pos q.1]; exact q.2
set_option maxHeartbeats 1000000 in
set_option maxRecDepth 100000 in
theorem kX6_readNumber {l : Launch} {O : rx_O} (hO : cb_O O) {σ : rx_S} {T : Nat → Int32} {N p : Nat} {lo hi : Int32} (h : tt T N p σ) (hp : p ≤ N) (hN : N ≤ 120) : rx_MI l O yX6_readNumber cX6_readNumber 5 (some .int) 1 [.ref 22, .int lo, .int hi] σ (fun r τ => (pz_tok T N p = 2 ∧ (lo.toInt ≤ (pz_val T N p).toInt ∧ (pz_val T N p).toInt ≤ hi.toInt) ∧ r = (pz_val T N p) ∧ rx_u σ 22 2 (nI (pz_nx T N p)) = τ) ∨ (r = -1 ∧ ¬ (pz_tok T N p = 2 ∧ (lo.toInt ≤ (pz_val T N p).toInt ∧ (pz_val T N p).toInt ≤ hi.toInt)) ∧ rx_u σ 22 3 (if pz_tok T N p = 2 then 2 else 1) = τ)) := by
  refine rx_Met_of (own := RX6) rfl hO.2.1 vsX6_readNumber.2.2.2.2.2 (Nat.le_of_ble_eq_true rfl) rfl (fun pg e s m args below meth cd X => ?_)
  have tail : ∀ (q : Nat) (z : Int32), p ≤ q → q ≤ N → pz_e T N p = q → z = pz_mv T p (min (q - p) 2) → rx_J O 5 pg l e (rx_lv 1) s m args below meth cd (rx_QI O below args s (fun r τ => (pz_tok T N p = 2 ∧ (lo.toInt ≤ (pz_val T N p).toInt ∧ (pz_val T N p).toInt ≤ hi.toInt) ∧ r = (pz_val T N p) ∧ rx_u σ 22 2 (nI (pz_nx T N p)) = τ) ∨ (r = -1 ∧ ¬ (pz_tok T N p = 2 ∧ (lo.toInt ≤ (pz_val T N p).toInt ∧ (pz_val T N p).toInt ≤ hi.toInt)) ∧ rx_u σ 22 3 (if pz_tok T N p = 2 then 2 else 1) = τ))) 74 [(0, .ref 22), (1, .int lo), (2, .int hi), (3, .int z), (4, .int (nI q))] [] σ := by
    intro q z hpq hqN he hz
    refine rx_iload (i := 4) X dX6_readNumber_74 rfl ?_
    refine rx_aload_n (i := 0) X dX6_readNumber_76 rfl rfl ?_
    refine rx_getI (ci := 6) (i := 2) X (kc_22 hO) rfl rfl (by decide) inX6 flX6_19 dX6_readNumber_77 ?_
    refine rx_top h.2.2 ?_
    refine rx_icmp_eq X dX6_readNumber_80 (fun h80 => ?_) (fun h80 => ?_)
    · have hqp : q = p := nI_inj (by omega) (by omega) h80
      have tok0 : ¬ pz_tok T N p = 2 := by
        rw [pz_tok, he, if_neg (by omega)]
        split
        · decide
        · split <;> decide
      refine rx_aload_n (i := 0) X dX6_readNumber_94 rfl rfl ?_
      refine rx_iconst (v := 1) X dX6_readNumber_95 (by decide) ?_
      refine rx_callVi (ci := 6) X vsX6_fail mlX6_50 (kX6_fail hO) (kc_22 hO) rfl rfl (by decide) (by decide) dX6_readNumber_96 rfl (Nat.le_of_ble_eq_true rfl) (fun r96 t96 h96 => ?_)
      obtain ⟨rfl, rfl⟩ := h96
      refine rx_pop X dX6_readNumber_99 rfl ?_
      refine rx_iconst (v := -1) X dX6_readNumber_100 (by decide) ?_
      refine rx_iret X dX6_readNumber_101 ?_
      exact Or.inr ⟨rfl, fun z => tok0 z.1, by rw [if_neg tok0]⟩
    · have hqp : ¬ q = p := fun z => h80 (by rw [z])
      refine rx_iload (i := 4) X dX6_readNumber_83 rfl ?_
      refine rx_aload_n (i := 0) X dX6_readNumber_85 rfl rfl ?_
      refine rx_getI (ci := 6) (i := 2) X (kc_22 hO) rfl rfl (by decide) inX6 flX6_19 dX6_readNumber_86 ?_
      refine rx_top h.2.2 ?_
      refine rx_isub X dX6_readNumber_89 ?_
      refine rx_top (pk_sub (by omega)) ?_
      refine rx_iconst (v := 2) X dX6_readNumber_90 (by decide) ?_
      refine rx_icmp_le X dX6_readNumber_91 (fun h91 => ?_) (fun h91 => ?_)
      · rw [show (2 : Int32) = nI 2 from rfl, nI_leI (by omega) (by decide)] at h91
        have tok2 : pz_tok T N p = 2 := by rw [pz_tok, he, if_pos (by omega), if_neg (by omega)]
        have val2 : pz_val T N p = z := by rw [pz_val, he, if_pos (by omega), hz, Nat.min_eq_left h91]
        have nx2 : pz_nx T N p = q := by rw [pz_nx, he, if_pos (by omega)]
        refine rx_iload_n (i := 3) X dX6_readNumber_102 rfl rfl ?_
        refine rx_iload_n (i := 1) X dX6_readNumber_103 rfl rfl ?_
        refine rx_icmp_lt X dX6_readNumber_104 (fun h104 => ?_) (fun h104 => ?_)
        · refine rx_aload_n (i := 0) X dX6_readNumber_112 rfl rfl ?_
          refine rx_iconst (v := 2) X dX6_readNumber_113 (by decide) ?_
          refine rx_callVi (ci := 6) X vsX6_fail mlX6_50 (kX6_fail hO) (kc_22 hO) rfl rfl (by decide) (by decide) dX6_readNumber_114 rfl (Nat.le_of_ble_eq_true rfl) (fun r114 t114 h114 => ?_)
          obtain ⟨rfl, rfl⟩ := h114
          refine rx_pop X dX6_readNumber_117 rfl ?_
          refine rx_iconst (v := -1) X dX6_readNumber_118 (by decide) ?_
          refine rx_iret X dX6_readNumber_119 ?_
          rw [Int32.lt_iff_toInt_lt] at h104
          exact Or.inr ⟨rfl, fun z => absurd z.2.1 (by rw [val2]; omega), by rw [if_pos tok2]⟩
        · refine rx_iload_n (i := 3) X dX6_readNumber_107 rfl rfl ?_
          refine rx_iload_n (i := 2) X dX6_readNumber_108 rfl rfl ?_
          refine rx_icmp_le X dX6_readNumber_109 (fun h109 => ?_) (fun h109 => ?_)
          · refine rx_aload_n (i := 0) X dX6_readNumber_120 rfl rfl ?_
            refine rx_iload (i := 4) X dX6_readNumber_121 rfl ?_
            refine rx_putI (ci := 6) (i := 2) X (kc_22 hO) rfl rfl (by decide) inX6 tyX6 tyX6_ok nmX6 flX6_19 rfl rfl dX6_readNumber_123 ?_
            refine rx_iload_n (i := 3) X dX6_readNumber_126 rfl rfl ?_
            refine rx_iret X dX6_readNumber_127 ?_
            rw [Int32.lt_iff_toInt_lt] at h104
            rw [Int32.le_iff_toInt_le] at h109
            exact Or.inl ⟨tok2, by rw [val2]; omega, val2.symm, by rw [nx2]⟩
          · refine rx_aload_n (i := 0) X dX6_readNumber_112 rfl rfl ?_
            refine rx_iconst (v := 2) X dX6_readNumber_113 (by decide) ?_
            refine rx_callVi (ci := 6) X vsX6_fail mlX6_50 (kX6_fail hO) (kc_22 hO) rfl rfl (by decide) (by decide) dX6_readNumber_114 rfl (Nat.le_of_ble_eq_true rfl) (fun r114 t114 h114 => ?_)
            obtain ⟨rfl, rfl⟩ := h114
            refine rx_pop X dX6_readNumber_117 rfl ?_
            refine rx_iconst (v := -1) X dX6_readNumber_118 (by decide) ?_
            refine rx_iret X dX6_readNumber_119 ?_
            rw [Int32.le_iff_toInt_le] at h109
            exact Or.inr ⟨rfl, fun z => absurd z.2.2 (by rw [val2]; omega), by rw [if_pos tok2]⟩
      · rw [show (2 : Int32) = nI 2 from rfl, nI_leI (by omega) (by decide)] at h91
        have tok0 : ¬ pz_tok T N p = 2 := by
          rw [pz_tok, he, if_pos (by omega), if_pos (by omega)]
          decide
        refine rx_aload_n (i := 0) X dX6_readNumber_94 rfl rfl ?_
        refine rx_iconst (v := 1) X dX6_readNumber_95 (by decide) ?_
        refine rx_callVi (ci := 6) X vsX6_fail mlX6_50 (kX6_fail hO) (kc_22 hO) rfl rfl (by decide) (by decide) dX6_readNumber_96 rfl (Nat.le_of_ble_eq_true rfl) (fun r96 t96 h96 => ?_)
        obtain ⟨rfl, rfl⟩ := h96
        refine rx_pop X dX6_readNumber_99 rfl ?_
        refine rx_iconst (v := -1) X dX6_readNumber_100 (by decide) ?_
        refine rx_iret X dX6_readNumber_101 ?_
        exact Or.inr ⟨rfl, fun z => tok0 z.1, by rw [if_neg tok0]⟩
  have loop : ∀ (k : Nat) (q : Nat) (x z : Int32), (q + k = N) → (p ≤ q) → (x = nI q) → (pz_e T N p = pz_e T N q) → (z = pz_mv T p (min (q - p) 2)) → (∀ j, p ≤ j → j < q → pz_dig (T j)) → rx_J O 5 pg l e (rx_lv 1) s m args below meth cd (rx_QI O below args s (fun r τ => (pz_tok T N p = 2 ∧ (lo.toInt ≤ (pz_val T N p).toInt ∧ (pz_val T N p).toInt ≤ hi.toInt) ∧ r = (pz_val T N p) ∧ rx_u σ 22 2 (nI (pz_nx T N p)) = τ) ∨ (r = -1 ∧ ¬ (pz_tok T N p = 2 ∧ (lo.toInt ≤ (pz_val T N p).toInt ∧ (pz_val T N p).toInt ≤ hi.toInt)) ∧ rx_u σ 22 3 (if pz_tok T N p = 2 then 2 else 1) = τ))) 8 [(0, .ref 22), (1, .int lo), (2, .int hi), (3, .int z), (4, .int x)] [] σ := by
    intro k
    induction k with
    | zero =>
      intro q x z hq hpq hx he hz hds
      obtain rfl : q = N := by omega
      subst hx
      refine rx_iload (i := 4) X dX6_readNumber_8 rfl ?_
      refine rx_aload_n (i := 0) X dX6_readNumber_10 rfl rfl ?_
      refine rx_getI (ci := 6) (i := 1) X (kc_22 hO) rfl rfl (by decide) inX6 flX6_15 dX6_readNumber_11 ?_
      refine rx_top h.2.1 ?_
      refine rx_icmp_ge_t X dX6_readNumber_14 (Int32.le_refl _) ?_
      exact tail _ _ hpq (by omega) (he.trans (pz_e_n (by omega))) hz
    | succ k ih =>
      intro q x z hq hpq hx he hz hds
      subst hx
      refine rx_iload (i := 4) X dX6_readNumber_8 rfl ?_
      refine rx_aload_n (i := 0) X dX6_readNumber_10 rfl rfl ?_
      refine rx_getI (ci := 6) (i := 1) X (kc_22 hO) rfl rfl (by decide) inX6 flX6_15 dX6_readNumber_11 ?_
      refine rx_top h.2.1 ?_
      refine rx_icmp_ge_f X dX6_readNumber_14 (nI_ge (by omega) (by omega)) ?_
      refine rx_aload_n (i := 0) X dX6_readNumber_17 rfl rfl ?_
      refine rx_getR (ci := 6) (i := 0) X (kc_22 hO) rfl rfl (by decide) inX6 flX6_11 dX6_readNumber_18 ?_
      refine rx_iload (i := 4) X dX6_readNumber_21 rfl ?_
      refine rx_ialdN (j := q) X (kc_23 hO) hO.2.2.1 rfl (by omega) (by decide) dX6_readNumber_23 ?_
      refine rx_top (congrFun h.1 q) ?_
      refine rx_bipush (v := 48) X dX6_readNumber_24 (by decide) ?_
      refine rx_icmp_lt X dX6_readNumber_26 (fun h26 => ?_) (fun h26 => ?_)
      · exact tail _ _ hpq (by omega) (he.trans (pz_e_n (fun z => by have e1 : (48 : Int32).toInt = 48 := rfl; have := Int32.lt_iff_toInt_lt.mp h26; have := z.2.1; omega))) hz
      · refine rx_aload_n (i := 0) X dX6_readNumber_29 rfl rfl ?_
        refine rx_getR (ci := 6) (i := 0) X (kc_22 hO) rfl rfl (by decide) inX6 flX6_11 dX6_readNumber_30 ?_
        refine rx_iload (i := 4) X dX6_readNumber_33 rfl ?_
        refine rx_ialdN (j := q) X (kc_23 hO) hO.2.2.1 rfl (by omega) (by decide) dX6_readNumber_35 ?_
        refine rx_top (congrFun h.1 q) ?_
        refine rx_bipush (v := 57) X dX6_readNumber_36 (by decide) ?_
        refine rx_icmp_gt X dX6_readNumber_38 (fun h38 => ?_) (fun h38 => ?_)
        · exact tail _ _ hpq (by omega) (he.trans (pz_e_n (fun z => by have e1 : (57 : Int32).toInt = 57 := rfl; have := Int32.lt_iff_toInt_lt.mp h38; have := z.2.2; omega))) hz
        · refine rx_iload (i := 4) X dX6_readNumber_41 rfl ?_
          refine rx_aload_n (i := 0) X dX6_readNumber_43 rfl rfl ?_
          refine rx_getI (ci := 6) (i := 2) X (kc_22 hO) rfl rfl (by decide) inX6 flX6_19 dX6_readNumber_44 ?_
          refine rx_top h.2.2 ?_
          refine rx_isub X dX6_readNumber_47 ?_
          refine rx_top (pk_sub (by omega)) ?_
          refine rx_iconst (v := 2) X dX6_readNumber_48 (by decide) ?_
          refine rx_icmp_ge X dX6_readNumber_49 (fun h49 => ?_) (fun h49 => ?_)
          · refine rx_iinc (i := 4) (lo2 := [(0, .ref _), (1, .int _), (2, .int _), (3, .int _), (4, .int _)]) X dX6_readNumber_68 rfl (rx_inc1 _) (by decide) rfl ?_
            refine rx_goto X dX6_readNumber_71 ?_
            have hdg : pz_dig (T q) := by
              rw [Int32.lt_iff_toInt_lt] at h26 h38
              have e1 : (48 : Int32).toInt = 48 := rfl
              have e2 : (57 : Int32).toInt = 57 := rfl
              exact ⟨by omega, by omega⟩
            rw [show (2 : Int32) = nI 2 from rfl, nI_leI (by decide) (by omega)] at h49
            refine ih (q + 1) _ _ (by omega) (by omega) (nI_1 q) (he.trans (pz_e_s (by omega) hdg)) ?_ (fun j a b => ?_)
            · rw [hz, Nat.min_eq_right h49, Nat.min_eq_right (by omega)]
            · by_cases e : j = q
              · rw [e]; exact hdg
              · exact hds j a (by omega)
          · refine rx_iload_n (i := 3) X dX6_readNumber_52 rfl rfl ?_
            refine rx_bipush (v := 10) X dX6_readNumber_53 (by decide) ?_
            refine rx_imul X dX6_readNumber_55 ?_
            refine rx_aload_n (i := 0) X dX6_readNumber_56 rfl rfl ?_
            refine rx_getR (ci := 6) (i := 0) X (kc_22 hO) rfl rfl (by decide) inX6 flX6_11 dX6_readNumber_57 ?_
            refine rx_iload (i := 4) X dX6_readNumber_60 rfl ?_
            refine rx_ialdN (j := q) X (kc_23 hO) hO.2.2.1 rfl (by omega) (by decide) dX6_readNumber_62 ?_
            refine rx_top (congrFun h.1 q) ?_
            refine rx_iadd X dX6_readNumber_63 ?_
            refine rx_bipush (v := 48) X dX6_readNumber_64 (by decide) ?_
            refine rx_isub X dX6_readNumber_66 ?_
            refine rx_istore_n (i := 3) (lo2 := [(0, .ref _), (1, .int _), (2, .int _), (3, .int _), (4, .int _)]) X dX6_readNumber_67 rfl (by decide) rfl ?_
            refine rx_iinc (i := 4) (lo2 := [(0, .ref _), (1, .int _), (2, .int _), (3, .int _), (4, .int _)]) X dX6_readNumber_68 rfl (rx_inc1 _) (by decide) rfl ?_
            refine rx_goto X dX6_readNumber_71 ?_
            have hdg : pz_dig (T q) := by
              rw [Int32.lt_iff_toInt_lt] at h26 h38
              have e1 : (48 : Int32).toInt = 48 := rfl
              have e2 : (57 : Int32).toInt = 57 := rfl
              exact ⟨by omega, by omega⟩
            rw [show (2 : Int32) = nI 2 from rfl, nI_leI (by decide) (by omega)] at h49
            refine ih (q + 1) _ _ (by omega) (by omega) (nI_1 q) (he.trans (pz_e_s (by omega) hdg)) ?_ (fun j a b => ?_)
            · rw [hz, Nat.min_eq_left (show q - p ≤ 2 by omega), Nat.min_eq_left (show q + 1 - p ≤ 2 by omega), show q + 1 - p = (q - p) + 1 by omega, pz_mv, if_neg (pz_mv_sm (by omega) (fun j hj => hds (p + j) (by omega) (by omega))), show p + (q - p) = q by omega, Int32.mul_comm]
            · by_cases e : j = q
              · rw [e]; exact hdg
              · exact hds j a (by omega)
  refine rx_iconst (v := 0) X dX6_readNumber_0 (by decide) ?_
  refine rx_istore_n (i := 3) (lo2 := [(0, .ref _), (1, .int _), (2, .int _), (3, .int _)]) X dX6_readNumber_1 rfl (by decide) rfl ?_
  refine rx_aload_n (i := 0) X dX6_readNumber_2 rfl rfl ?_
  refine rx_getI (ci := 6) (i := 2) X (kc_22 hO) rfl rfl (by decide) inX6 flX6_19 dX6_readNumber_3 ?_
  refine rx_top h.2.2 ?_
  refine rx_istore (i := 4) (lo2 := [(0, .ref _), (1, .int _), (2, .int _), (3, .int _), (4, .int _)]) X dX6_readNumber_6 (by decide) rfl ?_
  exact loop (N - p) p _ _ (by omega) (Nat.le_refl p) rfl rfl (by rw [Nat.sub_self]; rfl) (fun j a b => absurd b (by omega))
theorem pz_k6 (x : Int32) : x = 98 ∨ x = 112 ∨ x = 113 ∨ x = 116 ∨ x = 117 ∨ (¬ x = 98 ∧ ¬ x = 112 ∧ ¬ x = 113 ∧ ¬ x = 116 ∧ ¬ x = 117) := by
  by_cases h1 : x = 98
  · exact Or.inl h1
  by_cases h2 : x = 112
  · exact Or.inr (Or.inl h2)
  by_cases h3 : x = 113
  · exact Or.inr (Or.inr (Or.inl h3))
  by_cases h4 : x = 116
  · exact Or.inr (Or.inr (Or.inr (Or.inl h4)))
  by_cases h5 : x = 117
  · exact Or.inr (Or.inr (Or.inr (Or.inr (Or.inl h5))))
  exact Or.inr (Or.inr (Or.inr (Or.inr (Or.inr ⟨h1, h2, h3, h4, h5⟩))))
def tz_k (x : Int32) : Int32 := if pz_kind x = 0 then -1 else pz_kind x
theorem pz_kind_r {x : Int32} (h : ¬ pz_kind x = 0) : 1 ≤ (pz_kind x).toInt ∧ (pz_kind x).toInt ≤ 5 := by
  rcases pz_k6 x with rfl | rfl | rfl | rfl | rfl | hk
  · decide
  · decide
  · decide
  · decide
  · decide
  · exact absurd (by rw [pz_kind, if_neg hk.2.1, if_neg hk.2.2.2.1, if_neg hk.2.2.1, if_neg hk.1, if_neg hk.2.2.2.2]) h
set_option maxHeartbeats 1000000 in
set_option maxRecDepth 100000 in
theorem kX6_kindOf {l : Launch} {O : rx_O} (hO : cb_O O) {σ : rx_S} {x : Int32} : rx_MI l O yX6_kindOf cX6_kindOf 2 (some .int) 0 [.ref 22, .int x] σ (fun r τ => tz_k x = r ∧ σ = τ) := by
  refine rx_Met_of (own := RX6) rfl hO.2.1 vsX6_kindOf.2.2.2.2.2 (Nat.le_of_ble_eq_true rfl) rfl (fun pg e s m args below meth cd X => ?_)
  refine rx_iload_n (i := 1) X dX6_kindOf_0 rfl rfl ?_
  rcases pz_k6 x with rfl | rfl | rfl | rfl | rfl | hk
  · refine rx_lookup (tgt := 58) X dX6_kindOf_1 rfl rfl rfl ?_
    refine rx_iconst (v := 4) X dX6_kindOf_58 (by decide) ?_
    refine rx_iret X dX6_kindOf_59 ?_
    exact ⟨rfl, rfl⟩
  · refine rx_lookup (tgt := 52) X dX6_kindOf_1 rfl rfl rfl ?_
    refine rx_iconst (v := 1) X dX6_kindOf_52 (by decide) ?_
    refine rx_iret X dX6_kindOf_53 ?_
    exact ⟨rfl, rfl⟩
  · refine rx_lookup (tgt := 56) X dX6_kindOf_1 rfl rfl rfl ?_
    refine rx_iconst (v := 3) X dX6_kindOf_56 (by decide) ?_
    refine rx_iret X dX6_kindOf_57 ?_
    exact ⟨rfl, rfl⟩
  · refine rx_lookup (tgt := 54) X dX6_kindOf_1 rfl rfl rfl ?_
    refine rx_iconst (v := 2) X dX6_kindOf_54 (by decide) ?_
    refine rx_iret X dX6_kindOf_55 ?_
    exact ⟨rfl, rfl⟩
  · refine rx_lookup (tgt := 60) X dX6_kindOf_1 rfl rfl rfl ?_
    refine rx_iconst (v := 5) X dX6_kindOf_60 (by decide) ?_
    refine rx_iret X dX6_kindOf_61 ?_
    exact ⟨rfl, rfl⟩
  · refine rx_lookup (tgt := 62) (off := 61) X dX6_kindOf_1 rfl (by have e98 : ¬ x.toInt = 98 := fun q => hk.1 (Int32.toInt_inj.mp q); have e112 : ¬ x.toInt = 112 := fun q => hk.2.1 (Int32.toInt_inj.mp q); have e113 : ¬ x.toInt = 113 := fun q => hk.2.2.1 (Int32.toInt_inj.mp q); have e116 : ¬ x.toInt = 116 := fun q => hk.2.2.2.1 (Int32.toInt_inj.mp q); have e117 : ¬ x.toInt = 117 := fun q => hk.2.2.2.2 (Int32.toInt_inj.mp q); simp [Op.lookupswitch.offset, Ne.symm e98, e98, Ne.symm e112, e112, Ne.symm e113, e113, Ne.symm e116, e116, Ne.symm e117, e117]) rfl ?_
    refine rx_iconst (v := -1) X dX6_kindOf_62 (by decide) ?_
    refine rx_iret X dX6_kindOf_63 ?_
    exact ⟨by rw [tz_k, pz_kind, if_neg hk.2.1, if_neg hk.2.2.2.1, if_neg hk.2.2.1, if_neg hk.1, if_neg hk.2.2.2.2]; rfl, rfl⟩
def tz_law (T : Nat → Int32) (N : Nat) (rd : Nat → Int32) (n1 : Int32 × Nat × Int32) : pz_R := if ¬ pz_c T N 0 119 then (1, 0, rd) else if n1.1 = 0 then (0, n1.2.1, upd rd 0 n1.2.2) else (n1.1, n1.2.1, rd)
def tz_pull (T : Nat → Int32) (N p : Nat) (rd : Nat → Int32) (n1 : Int32 × Nat × Int32) : pz_R := if ¬ pz_c T N p 103 then (1, p, rd) else if n1.1 = 0 then (0, n1.2.1, upd (upd rd 2 (rd 2 + 1)) (5 + rx_N (rd 2)) n1.2.2) else (n1.1, n1.2.1, rd)
theorem cb_R.len {σ : rx_S} {B : Nat} {w : Nat → Int32} {v : Int32} (h : cb_R cb_T σ B w) : cb_R cb_T (rx_u σ B 0 v) B (upd w 0 v) := by
  rw [rx_u_eq]
  exact h.obj upd_s (h.2.1.1.2.1.trans (upd_n (by omega)).symm) (h.2.1.1.2.2.1.trans (upd_n (by omega)).symm) (h.2.1.1.2.2.2.trans (upd_n (by omega)).symm) (fun j hj => (upd_n (by omega)).symm)
set_option maxHeartbeats 1000000 in
set_option maxRecDepth 100000 in
theorem kX6_readLaw {l : Launch} {O : rx_O} (hO : cb_O O) {σ : rx_S} {T : Nat → Int32} {N : Nat} {rd : Nat → Int32} (h : tt T N 0 σ) (hN : N ≤ 120) (hR : cb_R cb_T σ 243 rd) : rx_MI l O yX6_readLaw cX6_readLaw 2 (some .boolean) 2 [.ref 22, .ref 243] σ (fun r τ => ∃ f q rd2, tz_law T N rd (pz_num T N 1 1 99 59) = (f, q, rd2) ∧ tz_pn f q rd2 σ r τ) := by
  refine rx_Met_of (own := RX6) rfl hO.2.1 vsX6_readLaw.2.2.2.2.2 (Nat.le_of_ble_eq_true rfl) rfl (fun pg e s m args below meth cd X => ?_)
  refine rx_aload_n (i := 0) X dX6_readLaw_0 rfl rfl ?_
  refine rx_bipush (v := 119) X dX6_readLaw_1 (by decide) ?_
  refine rx_callVi (ci := 6) X vsX6_pass mlX6_37 (kX6_pass hO h (Nat.zero_le N) hN (by decide)) (kc_22 hO) rfl rfl (by decide) (by decide) dX6_readLaw_3 rfl (Nat.le_of_ble_eq_true rfl) (fun r3 t3 h3 => ?_)
  obtain ⟨rfl, h3c, rfl⟩ | ⟨rfl, h3c, rfl⟩ := h3
  · refine rx_if_ne_t X dX6_readLaw_6 (by decide) ?_
    refine rx_aload_n (i := 1) X dX6_readLaw_11 rfl rfl ?_
    refine rx_aload_n (i := 0) X dX6_readLaw_12 rfl rfl ?_
    refine rx_iconst (v := 1) X dX6_readLaw_13 (by decide) ?_
    refine rx_bipush (v := 99) X dX6_readLaw_14 (by decide) ?_
    refine rx_callVi (ci := 6) X vsX6_readNumber mlX6_41 (kX6_readNumber hO h.at2 h3c.1 hN) (kc_22 hO) rfl rfl (by decide) (by decide) dX6_readLaw_16 rfl (Nat.le_of_ble_eq_true rfl) (fun r16 t16 h16 => ?_)
    obtain ⟨h16t, h16i, rfl, rfl⟩ | ⟨rfl, h16n, rfl⟩ := h16
    · refine rx_putI (ci := 3) (i := 0) X (kb_0 hO cb_B243) rfl rfl (by decide) inX3 tyX3 tyX3_ok nmX3 flX6_45 rfl rfl dX6_readLaw_19 ?_
      refine rx_aload_n (i := 1) X dX6_readLaw_22 rfl rfl ?_
      refine rx_getI (ci := 3) (i := 0) X (kb_0 hO cb_B243) rfl rfl (by decide) inX3 flX6_45 dX6_readLaw_23 ?_
      refine rx_top (show _ = _ by rw [rx_u_s, upd_s]) ?_
      refine rx_iconst (v := -1) X dX6_readLaw_26 (by decide) ?_
      refine rx_icmp_eq_f X dX6_readLaw_27 (pz_vne (by have := h16i.1; have e1 : (1 : Int32).toInt = 1 := rfl; omega)) ?_
      refine rx_aload_n (i := 0) X dX6_readLaw_30 rfl rfl ?_
      refine rx_bipush (v := 59) X dX6_readLaw_31 (by decide) ?_
      refine rx_callVi (ci := 6) X vsX6_pass mlX6_37 (kX6_pass hO (h.at2.at2.mv (q := pz_nx T N 1) ((tz.rf _).ub (by decide) (by decide)) (by rw [rx_u_ne (by decide), u22_22])) (pz_nx_le h3c.1) hN (by decide)) (kc_22 hO) rfl rfl (by decide) (by decide) dX6_readLaw_33 rfl (Nat.le_of_ble_eq_true rfl) (fun r33 t33 h33 => ?_)
      obtain ⟨rfl, h33c, rfl⟩ | ⟨rfl, h33c, rfl⟩ := h33
      · refine rx_if_eq_f X dX6_readLaw_36 (by decide) ?_
        refine rx_iconst (v := 1) X dX6_readLaw_39 (by decide) ?_
        refine rx_goto X dX6_readLaw_40 ?_
        refine rx_zret X dX6_readLaw_44 rfl ?_
        refine ⟨0, _, _, by rw [tz_law, if_neg (fun q => q h3c), pz_num_A h16t h16i h33c]; exact if_pos rfl, (((tz.rf σ).u2.u2).ub (by decide) (by decide)).u2, Or.inl ⟨rfl, rfl, u22_22, ?_, hR.u22.u22.len.u22⟩⟩
        rw [u22_3, rx_u_ne (by decide), u22_3, u22_3]
      · refine rx_if_eq_t X dX6_readLaw_36 (by decide) ?_
        refine rx_iconst (v := 0) X dX6_readLaw_43 (by decide) ?_
        refine rx_zret X dX6_readLaw_44 rfl ?_
        refine ⟨1, _, rd, by rw [tz_law, if_neg (fun q => q h3c), pz_num_B h16t h16i h33c]; exact if_neg (show ¬ (1 : Int32) = 0 by decide), (((tz.rf σ).u2.u2).ub (by decide) (by decide)).u3, Or.inr ⟨rfl, by decide, u22_33, ?_, hR.u22.u22.len.u22.1⟩⟩
        rw [u22_2, rx_u_ne (by decide), u22_22]
    · refine rx_putI (ci := 3) (i := 0) X (kb_0 hO cb_B243) rfl rfl (by decide) inX3 tyX3 tyX3_ok nmX3 flX6_45 rfl rfl dX6_readLaw_19 ?_
      refine rx_aload_n (i := 1) X dX6_readLaw_22 rfl rfl ?_
      refine rx_getI (ci := 3) (i := 0) X (kb_0 hO cb_B243) rfl rfl (by decide) inX3 flX6_45 dX6_readLaw_23 ?_
      refine rx_top (show _ = _ by rw [rx_u_s, upd_s]) ?_
      refine rx_iconst (v := -1) X dX6_readLaw_26 (by decide) ?_
      refine rx_icmp_eq_t X dX6_readLaw_27 rfl ?_
      refine rx_iconst (v := 0) X dX6_readLaw_43 (by decide) ?_
      refine rx_zret X dX6_readLaw_44 rfl ?_
      refine ⟨_, 1, rd, by rw [tz_law, if_neg (fun q => q h3c), pz_num_C h16n]; exact if_neg pz_12, ((tz.rf σ).u2.u3).ub (by decide) (by decide), Or.inr ⟨rfl, pz_12, ?_, ?_, hR.u22.u22.len.1⟩⟩
      · rw [rx_u_ne (by decide), u22_33]
      · rw [rx_u_ne (by decide), u22_2, u22_22]
  · refine rx_if_ne_f X dX6_readLaw_6 (by decide) ?_
    refine rx_iconst (v := 0) X dX6_readLaw_9 (by decide) ?_
    refine rx_zret X dX6_readLaw_10 rfl ?_
    exact ⟨1, 0, rd, by rw [tz_law, if_pos h3c], (tz.rf σ).u3, Or.inr ⟨rfl, by decide, u22_33, u22_2.trans h.2.2, hR.u22.1⟩⟩
set_option maxHeartbeats 1000000 in
set_option maxRecDepth 100000 in
theorem kX6_readPull {l : Launch} {O : rx_O} (hO : cb_O O) {σ : rx_S} {T : Nat → Int32} {N p : Nat} {rd : Nat → Int32} (h : tt T N p σ) (hp : p ≤ N) (hN : N ≤ 120) (hR : cb_R cb_T σ 243 rd) (h2 : 0 ≤ (rd 2).toInt ∧ (rd 2).toInt < 5) : rx_MI l O yX6_readPull cX6_readPull 3 (some .boolean) 2 [.ref 22, .ref 243] σ (fun r τ => ∃ f q rd2, tz_pull T N p rd (pz_num T N (p + 1) 0 99 59) = (f, q, rd2) ∧ tz_pn f q rd2 σ r τ) := by
  refine rx_Met_of (own := RX6) rfl hO.2.1 vsX6_readPull.2.2.2.2.2 (Nat.le_of_ble_eq_true rfl) rfl (fun pg e s m args below meth cd X => ?_)
  refine rx_aload_n (i := 0) X dX6_readPull_0 rfl rfl ?_
  refine rx_bipush (v := 103) X dX6_readPull_1 (by decide) ?_
  refine rx_callVi (ci := 6) X vsX6_pass mlX6_37 (kX6_pass hO h hp hN (by decide)) (kc_22 hO) rfl rfl (by decide) (by decide) dX6_readPull_3 rfl (Nat.le_of_ble_eq_true rfl) (fun r3 t3 h3 => ?_)
  obtain ⟨rfl, h3c, rfl⟩ | ⟨rfl, h3c, rfl⟩ := h3
  · refine rx_if_ne_t X dX6_readPull_6 (by decide) ?_
    refine rx_aload_n (i := 0) X dX6_readPull_11 rfl rfl ?_
    refine rx_iconst (v := 0) X dX6_readPull_12 (by decide) ?_
    refine rx_bipush (v := 99) X dX6_readPull_13 (by decide) ?_
    refine rx_callVi (ci := 6) X vsX6_readNumber mlX6_41 (kX6_readNumber hO h.at2 h3c.1 hN) (kc_22 hO) rfl rfl (by decide) (by decide) dX6_readPull_15 rfl (Nat.le_of_ble_eq_true rfl) (fun r15 t15 h15 => ?_)
    obtain ⟨h15t, h15i, rfl, rfl⟩ | ⟨rfl, h15n, rfl⟩ := h15
    · refine rx_istore_n (i := 2) (lo2 := [(0, .ref _), (1, .ref _), (2, .int _)]) X dX6_readPull_18 rfl (by decide) rfl ?_
      refine rx_iload_n (i := 2) X dX6_readPull_19 rfl rfl ?_
      refine rx_iconst (v := -1) X dX6_readPull_20 (by decide) ?_
      refine rx_icmp_eq_f X dX6_readPull_21 (pz_vne (by have := h15i.1; have e1 : (0 : Int32).toInt = 0 := rfl; omega)) ?_
      refine rx_aload_n (i := 0) X dX6_readPull_24 rfl rfl ?_
      refine rx_bipush (v := 59) X dX6_readPull_25 (by decide) ?_
      refine rx_callVi (ci := 6) X vsX6_pass mlX6_37 (kX6_pass hO h.at2.at2 (pz_nx_le h3c.1) hN (by decide)) (kc_22 hO) rfl rfl (by decide) (by decide) dX6_readPull_27 rfl (Nat.le_of_ble_eq_true rfl) (fun r27 t27 h27 => ?_)
      obtain ⟨rfl, h27c, rfl⟩ | ⟨rfl, h27c, rfl⟩ := h27
      · refine rx_if_ne_t X dX6_readPull_30 (by decide) ?_
        refine rx_aload_n (i := 1) X dX6_readPull_35 rfl rfl ?_
        refine rx_iload_n (i := 2) X dX6_readPull_36 rfl rfl ?_
        refine rx_callVv (ci := 3) X vsX3_addPull mlX6_56 (kX3_addPull hO cb_B243 hR.u22.u22.u22 h2) (kb_0 hO cb_B243) rfl rfl (by decide) (by decide) dX6_readPull_37 rfl (Nat.le_of_ble_eq_true rfl) (fun t37 h37 => ?_)
        obtain ⟨h37f, h37⟩ := h37
        refine rx_iconst (v := 1) X dX6_readPull_40 (by decide) ?_
        refine rx_zret X dX6_readPull_41 rfl ?_
        refine ⟨0, _, _, by rw [tz_pull, if_neg (fun q => q h3c), pz_num_A h15t h15i h27c]; exact if_pos rfl, ((tz.rf σ).u2.u2.u2).fr h37f, Or.inl ⟨rfl, rfl, ?_, ?_, h37⟩⟩
        · rw [h37f.2 22 (by omega), u22_22]
        · rw [h37f.2 22 (by omega), u22_3, u22_3, u22_3]
      · refine rx_if_ne_f X dX6_readPull_30 (by decide) ?_
        refine rx_iconst (v := 0) X dX6_readPull_33 (by decide) ?_
        refine rx_zret X dX6_readPull_34 rfl ?_
        exact ⟨1, _, rd, by rw [tz_pull, if_neg (fun q => q h3c), pz_num_B h15t h15i h27c]; exact if_neg (show ¬ (1 : Int32) = 0 by decide), (tz.rf σ).u2.u2.u3, Or.inr ⟨rfl, by decide, u22_33, by rw [u22_2, u22_22], hR.u22.u22.u22.1⟩⟩
    · refine rx_istore_n (i := 2) (lo2 := [(0, .ref _), (1, .ref _), (2, .int _)]) X dX6_readPull_18 rfl (by decide) rfl ?_
      refine rx_iload_n (i := 2) X dX6_readPull_19 rfl rfl ?_
      refine rx_iconst (v := -1) X dX6_readPull_20 (by decide) ?_
      refine rx_icmp_eq_t X dX6_readPull_21 rfl ?_
      refine rx_iconst (v := 0) X dX6_readPull_33 (by decide) ?_
      refine rx_zret X dX6_readPull_34 rfl ?_
      exact ⟨_, p + 1, rd, by rw [tz_pull, if_neg (fun q => q h3c), pz_num_C h15n]; exact if_neg pz_12, (tz.rf σ).u2.u3, Or.inr ⟨rfl, pz_12, u22_33, by rw [u22_2, u22_22], hR.u22.u22.1⟩⟩
  · refine rx_if_ne_f X dX6_readPull_6 (by decide) ?_
    refine rx_iconst (v := 0) X dX6_readPull_9 (by decide) ?_
    refine rx_zret X dX6_readPull_10 rfl ?_
    exact ⟨1, p, rd, by rw [tz_pull, if_pos h3c], (tz.rf σ).u3, Or.inr ⟨rfl, by decide, u22_33, u22_2.trans h.2.2, hR.u22.1⟩⟩
theorem tz_a1 {T : Nat → Int32} {N : Nat} {k : Int32} {rd : Nat → Int32} {f v : Int32} {q : Nat} (h : ¬ f = 0) : pz_ant1 T N k rd (f, q, v) = (f, q, rd) := by rw [pz_ant1, if_neg h]
theorem tz_a1s {T : Nat → Int32} {N : Nat} {k : Int32} {rd : Nat → Int32} {v : Int32} {q : Nat} : pz_ant1 T N k rd (0, q, v) = pz_ant2 T N k rd v (pz_num T N q 0 99 44) := by rw [pz_ant1, if_pos rfl]
theorem tz_a2 {T : Nat → Int32} {N : Nat} {k : Int32} {rd : Nat → Int32} {f v v1 : Int32} {q : Nat} (h : ¬ f = 0) : pz_ant2 T N k rd v1 (f, q, v) = (f, q, rd) := by rw [pz_ant2, if_neg h]
theorem tz_a2s {T : Nat → Int32} {N : Nat} {k : Int32} {rd : Nat → Int32} {v v1 : Int32} {q : Nat} : pz_ant2 T N k rd v1 (0, q, v) = pz_ant3 T N k rd v1 v (pz_num T N q 1 9 59) := by rw [pz_ant2, if_pos rfl]
theorem tz_a3 {T : Nat → Int32} {N : Nat} {k : Int32} {rd : Nat → Int32} {f v v1 v2 : Int32} {q : Nat} (h : ¬ f = 0) : pz_ant3 T N k rd v1 v2 (f, q, v) = (f, q, rd) := by rw [pz_ant3, if_neg h]
theorem tz_a3s {T : Nat → Int32} {N : Nat} {k : Int32} {rd : Nat → Int32} {v v1 v2 : Int32} {q : Nat} : pz_ant3 T N k rd v1 v2 (0, q, v) = (0, q, pz_rd rd (rx_N (rd 3)) k v1 v2 v) := by rw [pz_ant3, if_pos rfl]
set_option maxHeartbeats 1000000 in
set_option maxRecDepth 100000 in
theorem kX6_readAnt {l : Launch} {O : rx_O} (hO : cb_O O) {σ : rx_S} {T : Nat → Int32} {N p : Nat} {rd : Nat → Int32} {k : Int32} (h : tt T N p σ) (hp : p ≤ N) (hN : N ≤ 120) (hR : cb_R cb_T σ 243 rd) (h3 : 0 ≤ (rd 3).toInt ∧ (rd 3).toInt < 6) (h4 : rd 4 = 0) : rx_MI l O yX6_readAnt cX6_readAnt 6 (some .boolean) 2 [.ref 22, .ref 243, .int k] σ (fun r τ => ∃ f q rd2, pz_ant1 T N k rd (pz_num T N p 1 20 44) = (f, q, rd2) ∧ tz_pn f q rd2 σ r τ) := by
  refine rx_Met_of (own := RX6) rfl hO.2.1 vsX6_readAnt.2.2.2.2.2 (Nat.le_of_ble_eq_true rfl) rfl (fun pg e s m args below meth cd X => ?_)
  refine rx_aload_n (i := 0) X dX6_readAnt_0 rfl rfl ?_
  refine rx_iconst (v := 1) X dX6_readAnt_1 (by decide) ?_
  refine rx_bipush (v := 20) X dX6_readAnt_2 (by decide) ?_
  refine rx_callVi (ci := 6) X vsX6_readNumber mlX6_41 (kX6_readNumber hO h hp hN) (kc_22 hO) rfl rfl (by decide) (by decide) dX6_readAnt_4 rfl (Nat.le_of_ble_eq_true rfl) (fun r4 t4 h4 => ?_)
  obtain ⟨h4t, h4i, rfl, rfl⟩ | ⟨rfl, h4n, rfl⟩ := h4
  · refine rx_istore_n (i := 3) (lo2 := [(0, .ref _), (1, .ref _), (2, .int _), (3, .int _)]) X dX6_readAnt_7 rfl (by decide) rfl ?_
    refine rx_iload_n (i := 3) X dX6_readAnt_8 rfl rfl ?_
    refine rx_iconst (v := -1) X dX6_readAnt_9 (by decide) ?_
    refine rx_icmp_eq_f X dX6_readAnt_10 (pz_vne (by have := h4i.1; have e1 : (1 : Int32).toInt = 1 := rfl; omega)) ?_
    refine rx_aload_n (i := 0) X dX6_readAnt_13 rfl rfl ?_
    refine rx_bipush (v := 44) X dX6_readAnt_14 (by decide) ?_
    refine rx_callVi (ci := 6) X vsX6_pass mlX6_37 (kX6_pass hO h.at2 (pz_nx_le hp) hN (by decide)) (kc_22 hO) rfl rfl (by decide) (by decide) dX6_readAnt_16 rfl (Nat.le_of_ble_eq_true rfl) (fun r16 t16 h16 => ?_)
    obtain ⟨rfl, h16c, rfl⟩ | ⟨rfl, h16c, rfl⟩ := h16
    · refine rx_if_ne_t X dX6_readAnt_19 (by decide) ?_
      refine rx_aload_n (i := 0) X dX6_readAnt_24 rfl rfl ?_
      refine rx_iconst (v := 0) X dX6_readAnt_25 (by decide) ?_
      refine rx_bipush (v := 99) X dX6_readAnt_26 (by decide) ?_
      refine rx_callVi (ci := 6) X vsX6_readNumber mlX6_41 (kX6_readNumber hO h.at2.at2 h16c.1 hN) (kc_22 hO) rfl rfl (by decide) (by decide) dX6_readAnt_28 rfl (Nat.le_of_ble_eq_true rfl) (fun r28 t28 h28 => ?_)
      obtain ⟨h28t, h28i, rfl, rfl⟩ | ⟨rfl, h28n, rfl⟩ := h28
      · refine rx_istore (i := 4) (lo2 := [(0, .ref _), (1, .ref _), (2, .int _), (3, .int _), (4, .int _)]) X dX6_readAnt_31 (by decide) rfl ?_
        refine rx_iload (i := 4) X dX6_readAnt_33 rfl ?_
        refine rx_iconst (v := -1) X dX6_readAnt_35 (by decide) ?_
        refine rx_icmp_eq_f X dX6_readAnt_36 (pz_vne (by have := h28i.1; have e1 : (0 : Int32).toInt = 0 := rfl; omega)) ?_
        refine rx_aload_n (i := 0) X dX6_readAnt_39 rfl rfl ?_
        refine rx_bipush (v := 44) X dX6_readAnt_40 (by decide) ?_
        refine rx_callVi (ci := 6) X vsX6_pass mlX6_37 (kX6_pass hO h.at2.at2.at2 (pz_nx_le h16c.1) hN (by decide)) (kc_22 hO) rfl rfl (by decide) (by decide) dX6_readAnt_42 rfl (Nat.le_of_ble_eq_true rfl) (fun r42 t42 h42 => ?_)
        obtain ⟨rfl, h42c, rfl⟩ | ⟨rfl, h42c, rfl⟩ := h42
        · refine rx_if_ne_t X dX6_readAnt_45 (by decide) ?_
          refine rx_aload_n (i := 0) X dX6_readAnt_50 rfl rfl ?_
          refine rx_iconst (v := 1) X dX6_readAnt_51 (by decide) ?_
          refine rx_bipush (v := 9) X dX6_readAnt_52 (by decide) ?_
          refine rx_callVi (ci := 6) X vsX6_readNumber mlX6_41 (kX6_readNumber hO h.at2.at2.at2.at2 h42c.1 hN) (kc_22 hO) rfl rfl (by decide) (by decide) dX6_readAnt_54 rfl (Nat.le_of_ble_eq_true rfl) (fun r54 t54 h54 => ?_)
          obtain ⟨h54t, h54i, rfl, rfl⟩ | ⟨rfl, h54n, rfl⟩ := h54
          · refine rx_istore (i := 5) (lo2 := [(0, .ref _), (1, .ref _), (2, .int _), (3, .int _), (4, .int _), (5, .int _)]) X dX6_readAnt_57 (by decide) rfl ?_
            refine rx_iload (i := 5) X dX6_readAnt_59 rfl ?_
            refine rx_iconst (v := -1) X dX6_readAnt_61 (by decide) ?_
            refine rx_icmp_eq_f X dX6_readAnt_62 (pz_vne (by have := h54i.1; have e1 : (1 : Int32).toInt = 1 := rfl; omega)) ?_
            refine rx_aload_n (i := 0) X dX6_readAnt_65 rfl rfl ?_
            refine rx_bipush (v := 59) X dX6_readAnt_66 (by decide) ?_
            refine rx_callVi (ci := 6) X vsX6_pass mlX6_37 (kX6_pass hO h.at2.at2.at2.at2.at2 (pz_nx_le h42c.1) hN (by decide)) (kc_22 hO) rfl rfl (by decide) (by decide) dX6_readAnt_68 rfl (Nat.le_of_ble_eq_true rfl) (fun r68 t68 h68 => ?_)
            obtain ⟨rfl, h68c, rfl⟩ | ⟨rfl, h68c, rfl⟩ := h68
            · refine rx_if_ne_t X dX6_readAnt_71 (by decide) ?_
              refine rx_aload_n (i := 1) X dX6_readAnt_76 rfl rfl ?_
              refine rx_iload_n (i := 2) X dX6_readAnt_77 rfl rfl ?_
              refine rx_iload_n (i := 3) X dX6_readAnt_78 rfl rfl ?_
              refine rx_iload (i := 4) X dX6_readAnt_79 rfl ?_
              refine rx_iload (i := 5) X dX6_readAnt_81 rfl ?_
              refine rx_callVv (ci := 3) X vsX3_addAnt mlX6_70 (kX3_addAnt hO cb_B243 hR.u22.u22.u22.u22.u22.u22 h3 h4) (kb_0 hO cb_B243) rfl rfl (by decide) (by decide) dX6_readAnt_83 rfl (Nat.le_of_ble_eq_true rfl) (fun t83 h83 => ?_)
              obtain ⟨h83f, h83⟩ := h83
              refine rx_iconst (v := 1) X dX6_readAnt_86 (by decide) ?_
              refine rx_zret X dX6_readAnt_87 rfl ?_
              refine ⟨0, _, _, by rw [pz_num_A h4t h4i h16c, tz_a1s, pz_num_A h28t h28i h42c, tz_a2s, pz_num_A h54t h54i h68c]; exact tz_a3s, ((tz.rf σ).u2.u2.u2.u2.u2.u2).fr h83f, Or.inl ⟨rfl, rfl, ?_, ?_, h83⟩⟩
              · rw [h83f.2 22 (by omega), u22_22]
              · rw [h83f.2 22 (by omega), u22_3, u22_3, u22_3, u22_3, u22_3, u22_3]
            · refine rx_if_ne_f X dX6_readAnt_71 (by decide) ?_
              refine rx_iconst (v := 0) X dX6_readAnt_74 (by decide) ?_
              refine rx_zret X dX6_readAnt_75 rfl ?_
              exact ⟨_, _, rd, by rw [pz_num_A h4t h4i h16c, tz_a1s, pz_num_A h28t h28i h42c, tz_a2s, pz_num_B h54t h54i h68c]; exact tz_a3 (by decide), (tz.rf σ).u2.u2.u2.u2.u2.u3, Or.inr ⟨rfl, by decide, u22_33, by rw [u22_2, u22_22], hR.u22.u22.u22.u22.u22.u22.1⟩⟩
          · refine rx_istore (i := 5) (lo2 := [(0, .ref _), (1, .ref _), (2, .int _), (3, .int _), (4, .int _), (5, .int _)]) X dX6_readAnt_57 (by decide) rfl ?_
            refine rx_iload (i := 5) X dX6_readAnt_59 rfl ?_
            refine rx_iconst (v := -1) X dX6_readAnt_61 (by decide) ?_
            refine rx_icmp_eq_t X dX6_readAnt_62 rfl ?_
            refine rx_iconst (v := 0) X dX6_readAnt_74 (by decide) ?_
            refine rx_zret X dX6_readAnt_75 rfl ?_
            exact ⟨_, _, rd, by rw [pz_num_A h4t h4i h16c, tz_a1s, pz_num_A h28t h28i h42c, tz_a2s, pz_num_C h54n]; exact tz_a3 pz_12, (tz.rf σ).u2.u2.u2.u2.u3, Or.inr ⟨rfl, pz_12, u22_33, by rw [u22_2, u22_22], hR.u22.u22.u22.u22.u22.1⟩⟩
        · refine rx_if_ne_f X dX6_readAnt_45 (by decide) ?_
          refine rx_iconst (v := 0) X dX6_readAnt_48 (by decide) ?_
          refine rx_zret X dX6_readAnt_49 rfl ?_
          exact ⟨_, _, rd, by rw [pz_num_A h4t h4i h16c, tz_a1s, pz_num_B h28t h28i h42c]; exact tz_a2 (by decide), (tz.rf σ).u2.u2.u2.u3, Or.inr ⟨rfl, by decide, u22_33, by rw [u22_2, u22_22], hR.u22.u22.u22.u22.1⟩⟩
      · refine rx_istore (i := 4) (lo2 := [(0, .ref _), (1, .ref _), (2, .int _), (3, .int _), (4, .int _)]) X dX6_readAnt_31 (by decide) rfl ?_
        refine rx_iload (i := 4) X dX6_readAnt_33 rfl ?_
        refine rx_iconst (v := -1) X dX6_readAnt_35 (by decide) ?_
        refine rx_icmp_eq_t X dX6_readAnt_36 rfl ?_
        refine rx_iconst (v := 0) X dX6_readAnt_48 (by decide) ?_
        refine rx_zret X dX6_readAnt_49 rfl ?_
        exact ⟨_, _, rd, by rw [pz_num_A h4t h4i h16c, tz_a1s, pz_num_C h28n]; exact tz_a2 pz_12, (tz.rf σ).u2.u2.u3, Or.inr ⟨rfl, pz_12, u22_33, by rw [u22_2, u22_22], hR.u22.u22.u22.1⟩⟩
    · refine rx_if_ne_f X dX6_readAnt_19 (by decide) ?_
      refine rx_iconst (v := 0) X dX6_readAnt_22 (by decide) ?_
      refine rx_zret X dX6_readAnt_23 rfl ?_
      exact ⟨_, _, rd, by rw [pz_num_B h4t h4i h16c]; exact tz_a1 (by decide), (tz.rf σ).u2.u3, Or.inr ⟨rfl, by decide, u22_33, by rw [u22_2, u22_22], hR.u22.u22.1⟩⟩
  · refine rx_istore_n (i := 3) (lo2 := [(0, .ref _), (1, .ref _), (2, .int _), (3, .int _)]) X dX6_readAnt_7 rfl (by decide) rfl ?_
    refine rx_iload_n (i := 3) X dX6_readAnt_8 rfl rfl ?_
    refine rx_iconst (v := -1) X dX6_readAnt_9 (by decide) ?_
    refine rx_icmp_eq_t X dX6_readAnt_10 rfl ?_
    refine rx_iconst (v := 0) X dX6_readAnt_22 (by decide) ?_
    refine rx_zret X dX6_readAnt_23 rfl ?_
    exact ⟨_, _, rd, by rw [pz_num_C h4n]; exact tz_a1 pz_12, (tz.rf σ).u3, Or.inr ⟨rfl, pz_12, u22_33, u22_2.trans h.2.2, hR.u22.1⟩⟩
