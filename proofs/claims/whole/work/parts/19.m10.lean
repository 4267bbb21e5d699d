theorem n10 : ¬ (1 : Int32) = 0 := by decide
theorem n20 : ¬ (2 : Int32) = 0 := by decide
theorem n30 : ¬ (3 : Int32) = 0 := by decide
abbrev pz_c (T : Nat → Int32) (N p : Nat) (c : Int32) : Prop := p < N ∧ T p = c
/-- a letter or a sign is no figure -/
abbrev pz_lt (c : Int32) : Prop := pz_let c ∧ ¬ pz_dig c
theorem pz_is {T : Nat → Int32} {N p : Nat} {c : Int32} (hp : p ≤ N) (hc : pz_lt c) : (pz_tok T N p = 1 ∧ pz_val T N p = c) ↔ pz_c T N p c := by
  constructor
  · rintro ⟨h1, h2⟩
    unfold pz_tok at h1
    unfold pz_val at h2
    by_cases e : p < pz_e T N p
    · rw [if_pos e] at h1
      split at h1 <;> exact absurd h1 (by decide)
    · rw [if_neg e] at h1 h2
      by_cases e2 : p = N
      · rw [if_pos e2] at h1
        exact absurd h1 (by decide)
      · rw [if_neg e2] at h2
        exact ⟨by omega, h2⟩
  · rintro ⟨h1, h2⟩
    have e : pz_e T N p = p := pz_e_n (fun z => hc.2 (h2 ▸ z.2))
    refine ⟨?_, ?_⟩
    · rw [pz_tok, e, if_neg (Nat.lt_irrefl p), if_neg (by omega), h2, if_pos hc.1]
    · rw [pz_val, e, if_neg (Nat.lt_irrefl p), if_neg (by omega), h2]
theorem pz_c_nx {T : Nat → Int32} {N p : Nat} {c : Int32} (hc : pz_lt c) (h : pz_c T N p c) : pz_nx T N p = p + 1 := by
  have e : pz_e T N p = p := pz_e_n (fun z => hc.2 (h.2 ▸ z.2))
  unfold pz_nx
  rw [e, if_neg (by omega), if_neg (by omega)]
def pz_num (T : Nat → Int32) (N p : Nat) (lo hi sign : Int32) : Int32 × Nat × Int32 :=
  if ¬ pz_tok T N p = 2 then (1, p, 0) else if ¬ (lo.toInt ≤ (pz_val T N p).toInt ∧ (pz_val T N p).toInt ≤ hi.toInt) then (2, p, 0)
  else if pz_c T N (pz_nx T N p) sign then (0, pz_nx T N p + 1, pz_val T N p) else (1, pz_nx T N p, 0)
/-- the reference reads: at p, of N bytes -/
def pz_st (N p : Nat) (τ : rx_S) : Prop := τ.1 0 9 = nI N ∧ pz_at (τ.1 6) N p (τ.1 0)
theorem pz_ok.n {N : Nat} {σ τ : rx_S} (h : pz_ok σ τ) (hN : σ.1 0 9 = nI N) : τ.1 0 9 = nI N := by rw [h.2.1 9 (by decide) (by decide) (by decide) (by decide) (by decide)]; exact hN
theorem pz_ok.t {σ τ : rx_S} (h : pz_ok σ τ) : τ.1 6 = σ.1 6 := h.1 6 (by decide) (by decide)
theorem rx_MV.weak {l : Launch} {O : rx_O} {y : MethodName} {bytes : ByteArray} {maxL : Nat} {rt : Option FieldType} {n : Nat} {As : List Value} {σ : rx_S} {P Q : rx_S → Prop} (h : rx_MV l O y bytes maxL rt n As σ P) (hq : ∀ τ, P τ → Q τ) : rx_MV l O y bytes maxL rt n As σ Q := by
  intro p e ha hc hk s m args below hf happ hP hK
  obtain ⟨s2, o, h1, h2, h3, ⟨⟨⟨u, hu1, hu2, hu3⟩, hF⟩, hL⟩⟩ := h p e ha hc hk s m args below hf happ hP hK
  exact ⟨s2, o, h1, h2, h3, ⟨⟨⟨u, hu1, hq u hu2, hu3⟩, hF⟩, hL⟩⟩
theorem rx_MI.weak {l : Launch} {O : rx_O} {y : MethodName} {bytes : ByteArray} {maxL : Nat} {rt : Option FieldType} {n : Nat} {As : List Value} {σ : rx_S} {P Q : Int32 → rx_S → Prop} (h : rx_MI l O y bytes maxL rt n As σ P) (hq : ∀ r τ, P r τ → Q r τ) : rx_MI l O y bytes maxL rt n As σ Q := by
  intro p e ha hc hk s m args below hf happ hP hK
  obtain ⟨s2, o, h1, h2, h3, ⟨⟨⟨r, u, hu1, hu2, hu3⟩, hF⟩, hL⟩⟩ := h p e ha hc hk s m args below hf happ hP hK
  exact ⟨s2, o, h1, h2, h3, ⟨⟨⟨r, u, hu1, hq r u hu2, hu3⟩, hF⟩, hL⟩⟩
theorem kX8_next {l : Launch} {O : rx_O} (hO : mo_O O) {σ : rx_S} {p N : Nat} (h9 : σ.1 0 9 = nI N) (h11 : σ.1 0 11 = nI p) (hp : p ≤ N) (hN : N ≤ 120) : rx_MV l O yX8_nextToken cX8_nextToken 1 none 1 [.ref 0] σ (fun τ => pz_ok σ τ ∧ pz_st N p τ ∧ τ.1 7 = σ.1 7) := by
  refine rx_MV.weak (kX8_nextToken (l := l) hO (σ := σ) h11 h9 hp hN) ?_
  rintro τ ⟨h1, h2, h3, h4⟩
  exact ⟨h1, ⟨h1.n h9, by rw [h1.t]; exact h2⟩, h4⟩
set_option maxHeartbeats 4000000 in
set_option maxRecDepth 100000 in
theorem kX8_isLetter {l : Launch} {O : rx_O} (hO : mo_O O) {σ : rx_S} {c : Int32} {p N : Nat} (hs : pz_st N p σ) (hp : p ≤ N) (hc : pz_lt c) : rx_MI l O yX8_isLetter cX8_isLetter 2 (some .boolean) 0 [.ref 0, .int c] σ (fun r τ => σ = τ ∧ rx_b (pz_c (σ.1 6) N p c) r) := by
  refine rx_Met_of (own := RX8) rfl hO.2.1 vsX8_isLetter.2.2.2.2.2 (Nat.le_of_ble_eq_true rfl) rfl (fun p9 e s m args below meth cd X => ?_)
  refine rx_aload_n (i := 0) X dX8_isLetter_0 rfl rfl ?_
  refine rx_getI (ci := 8) (i := 12) X (km_0 hO) rfl rfl (by decide) inX8 flX8_97 dX8_isLetter_1 ?_
  refine rx_iconst (v := 1) X dX8_isLetter_4 (by decide) ?_
  refine rx_icmp_ne X dX8_isLetter_5 (fun h5 => ?_) (fun h5 => ?_)
  · refine rx_iconst (v := 0) X dX8_isLetter_20 (by decide) ?_
    refine rx_zret X dX8_isLetter_21 rfl ?_
    refine ⟨rfl, ?_⟩
    have hz := pz_is (T := σ.1 6) hp hc
    rw [← hs.2.2.1, ← hs.2.2.2.1] at hz
    first | exact Or.inl ⟨rfl, hz.mp ⟨h5, h13⟩⟩ | exact Or.inr ⟨rfl, fun z => h5 (hz.mpr z).1⟩ | exact Or.inr ⟨rfl, fun z => h13 (hz.mpr z).2⟩ | fail "leaf"
  · refine rx_aload_n (i := 0) X dX8_isLetter_8 rfl rfl ?_
    refine rx_getI (ci := 8) (i := 13) X (km_0 hO) rfl rfl (by decide) inX8 flX8_100 dX8_isLetter_9 ?_
    refine rx_iload_n (i := 1) X dX8_isLetter_12 rfl rfl ?_
    refine rx_icmp_ne X dX8_isLetter_13 (fun h13 => ?_) (fun h13 => ?_)
    · refine rx_iconst (v := 0) X dX8_isLetter_20 (by decide) ?_
      refine rx_zret X dX8_isLetter_21 rfl ?_
      refine ⟨rfl, ?_⟩
      have hz := pz_is (T := σ.1 6) hp hc
      rw [← hs.2.2.1, ← hs.2.2.2.1] at hz
      first | exact Or.inl ⟨rfl, hz.mp ⟨h5, h13⟩⟩ | exact Or.inr ⟨rfl, fun z => h5 (hz.mpr z).1⟩ | exact Or.inr ⟨rfl, fun z => h13 (hz.mpr z).2⟩ | fail "leaf"
    · refine rx_iconst (v := 1) X dX8_isLetter_16 (by decide) ?_
      refine rx_goto X dX8_isLetter_17 ?_
      refine rx_zret X dX8_isLetter_21 rfl ?_
      refine ⟨rfl, ?_⟩
      have hz := pz_is (T := σ.1 6) hp hc
      rw [← hs.2.2.1, ← hs.2.2.2.1] at hz
      first | exact Or.inl ⟨rfl, hz.mp ⟨h5, h13⟩⟩ | exact Or.inr ⟨rfl, fun z => h5 (hz.mpr z).1⟩ | exact Or.inr ⟨rfl, fun z => h13 (hz.mpr z).2⟩ | fail "leaf"
set_option maxHeartbeats 4000000 in
set_option maxRecDepth 100000 in
theorem kX8_faults {l : Launch} {O : rx_O} (hO : mo_O O) {σ : rx_S} {f : Int32} : rx_MI l O yX8_faults cX8_faults 2 (some .boolean) 0 [.ref 0, .int f] σ (fun r τ => r = 0 ∧ rx_u σ 0 15 f = τ) := by
  refine rx_Met_of (own := RX8) rfl hO.2.1 vsX8_faults.2.2.2.2.2 (Nat.le_of_ble_eq_true rfl) rfl (fun p e s m args below meth c X => ?_)
  refine rx_aload_n (i := 0) X dX8_faults_0 rfl rfl ?_
  refine rx_iload_n (i := 1) X dX8_faults_1 rfl rfl ?_
  refine rx_putI (ci := 8) (i := 15) X (km_0 hO) rfl rfl (by decide) inX8 tyX8 tyX8_ok nmX8 flX8_111 rfl rfl dX8_faults_2 ?_
  refine rx_iconst (v := 0) X dX8_faults_5 (by decide) ?_
  refine rx_zret X dX8_faults_6 rfl ?_
  exact ⟨rfl, rfl⟩
set_option maxHeartbeats 4000000 in
set_option maxRecDepth 100000 in
theorem kX8_takes {l : Launch} {O : rx_O} (hO : mo_O O) {σ : rx_S} {c : Int32} {p N : Nat} (hs : pz_st N p σ) (hp : p ≤ N) (hN : N ≤ 120) (hc : pz_lt c) : rx_MI l O yX8_takes cX8_takes 2 (some .boolean) 2 [.ref 0, .int c] σ (fun r τ => (r = 1 ∧ pz_c (σ.1 6) N p c ∧ pz_ok σ τ ∧ pz_st N (p + 1) τ ∧ τ.1 7 = σ.1 7) ∨ (r = 0 ∧ ¬ pz_c (σ.1 6) N p c ∧ pz_ok σ τ ∧ τ.1 0 15 = 1 ∧ τ.1 0 14 = nI p ∧ τ.1 7 = σ.1 7)) := by
  refine rx_Met_of (own := RX8) rfl hO.2.1 vsX8_takes.2.2.2.2.2 (Nat.le_of_ble_eq_true rfl) rfl (fun p9 e s m args below meth cd X => ?_)
  refine rx_aload_n (i := 0) X dX8_takes_0 rfl rfl ?_
  refine rx_iload_n (i := 1) X dX8_takes_1 rfl rfl ?_
  refine rx_callVi (ci := 8) X vsX8_isLetter mlX8_114 (kX8_isLetter hO hs hp hc) (km_0 hO) rfl rfl (by decide) (by decide) dX8_takes_2 rfl (Nat.le_of_ble_eq_true rfl) (fun r2 t2 h2 => ?_)
  obtain ⟨rfl, ⟨rfl, h2⟩ | ⟨rfl, h2⟩⟩ := h2
  · refine rx_if_ne_t X dX8_takes_5 (by decide) ?_
    refine rx_aload_n (i := 0) X dX8_takes_14 rfl rfl ?_
    refine rx_callVv (ci := 8) X vsX8_nextToken mlX8_120 (kX8_next hO (p := p + 1) hs.1 (by rw [hs.2.2.2.2, pz_c_nx hc h2]) (by omega) hN) (km_0 hO) rfl rfl (by decide) (by decide) dX8_takes_15 rfl (Nat.le_of_ble_eq_true rfl) (fun t15 h15 => ?_)
    refine rx_iconst (v := 1) X dX8_takes_18 (by decide) ?_
    refine rx_zret X dX8_takes_19 rfl ?_
    first
      | exact Or.inl ⟨rfl, h2, h15.1, h15.2.1, h15.2.2⟩
      | exact Or.inr ⟨rfl, h2, (pz_ok.rf σ).u0 (by decide), u0s, by rw [u0n (by decide)]; exact hs.2.1, by rw [rx_u_ne (by decide)]⟩
      | fail "leaf"
  · refine rx_if_ne_f X dX8_takes_5 (by decide) ?_
    refine rx_aload_n (i := 0) X dX8_takes_8 rfl rfl ?_
    refine rx_iconst (v := 1) X dX8_takes_9 (by decide) ?_
    refine rx_callVi (ci := 8) X vsX8_faults mlX8_117 (kX8_faults hO) (km_0 hO) rfl rfl (by decide) (by decide) dX8_takes_10 rfl (Nat.le_of_ble_eq_true rfl) (fun r10 t10 h10 => ?_)
    obtain ⟨rfl, rfl⟩ := h10
    refine rx_zret X dX8_takes_13 rfl ?_
    first
      | exact Or.inl ⟨rfl, h2, h15.1, h15.2.1, h15.2.2⟩
      | exact Or.inr ⟨rfl, h2, (pz_ok.rf σ).u0 (by decide), u0s, by rw [u0n (by decide)]; exact hs.2.1, by rw [rx_u_ne (by decide)]⟩
      | fail "leaf"
set_option maxHeartbeats 4000000 in
set_option maxRecDepth 100000 in
theorem kX8_takesNumber {l : Launch} {O : rx_O} (hO : mo_O O) {σ : rx_S} {lo hi sg : Int32} {at0 p N : Nat} (hs : pz_st N p σ) (hp : p ≤ N) (hN : N ≤ 120) (hc : pz_lt sg) (hat : at0 < 40) : rx_MI l O yX8_takesNumber cX8_takesNumber 5 (some .boolean) 3 [.ref 0, .int lo, .int hi, .int (nI at0), .int sg] σ (fun r τ => pz_ok σ τ ∧ ((r = 1 ∧ (pz_num (σ.1 6) N p lo hi sg).1 = 0 ∧ pz_st N (pz_num (σ.1 6) N p lo hi sg).2.1 τ ∧ τ.1 7 = upd (σ.1 7) at0 (pz_num (σ.1 6) N p lo hi sg).2.2) ∨ (r = 0 ∧ ¬ (pz_num (σ.1 6) N p lo hi sg).1 = 0 ∧ τ.1 0 15 = (pz_num (σ.1 6) N p lo hi sg).1 ∧ τ.1 0 14 = nI (pz_num (σ.1 6) N p lo hi sg).2.1))) := by
  refine rx_Met_of (own := RX8) rfl hO.2.1 vsX8_takesNumber.2.2.2.2.2 (Nat.le_of_ble_eq_true rfl) rfl (fun p9 e s m args below meth cd X => ?_)
  refine rx_aload_n (i := 0) X dX8_takesNumber_0 rfl rfl ?_
  refine rx_getI (ci := 8) (i := 12) X (km_0 hO) rfl rfl (by decide) inX8 flX8_97 dX8_takesNumber_1 ?_
  refine rx_iconst (v := 2) X dX8_takesNumber_4 (by decide) ?_
  refine rx_icmp_ne X dX8_takesNumber_5 (fun h5 => ?_) (fun h5 => ?_)
  · refine rx_aload_n (i := 0) X dX8_takesNumber_23 rfl rfl ?_
    refine rx_aload_n (i := 0) X dX8_takesNumber_24 rfl rfl ?_
    refine rx_getI (ci := 8) (i := 12) X (km_0 hO) rfl rfl (by decide) inX8 flX8_97 dX8_takesNumber_25 ?_
    refine rx_iconst (v := 2) X dX8_takesNumber_28 (by decide) ?_
    refine rx_icmp_ne X dX8_takesNumber_29 (fun h29 => ?_) (fun h29 => ?_)
    · refine rx_iconst (v := 1) X dX8_takesNumber_36 (by decide) ?_
      refine rx_callVi (ci := 8) X vsX8_faults mlX8_117 (kX8_faults hO) (km_0 hO) rfl rfl (by decide) (by decide) dX8_takesNumber_37 rfl (Nat.le_of_ble_eq_true rfl) (fun r37 t37 h37 => ?_)
      obtain ⟨rfl, rfl⟩ := h37
      refine rx_zret X dX8_takesNumber_40 rfl ?_
      have hz := hs.2.2.1
      first
        | exact absurd h29 h5
        | exact absurd h5 h29
        | (have e : pz_num (σ.1 6) N p lo hi sg = (1, p, 0) := by rw [pz_num, if_pos (fun z => h5 (hz.trans z))]
           rw [e]
           exact ⟨(pz_ok.rf σ).u0 (by decide), Or.inr ⟨rfl, n10, u0s, by rw [u0n (by decide)]; exact hs.2.1⟩⟩)
        | (have e : pz_num (σ.1 6) N p lo hi sg = (2, p, 0) := by rw [pz_num, if_neg (fun z => z (hz.symm.trans h5)), if_pos (by rw [← hs.2.2.2.1]; exact h17)]
           rw [e]
           exact ⟨(pz_ok.rf σ).u0 (by decide), Or.inr ⟨rfl, n20, u0s, by rw [u0n (by decide)]; exact hs.2.1⟩⟩)
        | (have k0 : pz_ok σ t52 := ((pz_ok.rf σ).u7).tr k1
           obtain ⟨rfl, q1, q2, q3, q4⟩ | ⟨rfl, q1, q2, q3, q4, q5⟩ := h58
           · rw [k0.t] at q1
             have e : pz_num (σ.1 6) N p lo hi sg = (0, pz_nx (σ.1 6) N p + 1, pz_val (σ.1 6) N p) := by rw [pz_num, if_neg (fun z => z (hz.symm.trans h5)), if_neg (by rw [← hs.2.2.2.1]; exact fun z => z h17), if_pos q1]
             rw [e]
             exact ⟨k0.tr q2, Or.inl ⟨rfl, rfl, q3, by rw [q4, k3, rx_u_s, hs.2.2.2.1]⟩⟩
           · rw [k0.t] at q1
             have e : pz_num (σ.1 6) N p lo hi sg = (1, pz_nx (σ.1 6) N p, 0) := by rw [pz_num, if_neg (fun z => z (hz.symm.trans h5)), if_neg (by rw [← hs.2.2.2.1]; exact fun z => z h17), if_neg q1]
             rw [e]
             exact ⟨k0.tr q2, Or.inr ⟨rfl, n10, q3, q4⟩⟩)
        | fail "leaf"
    · refine rx_iconst (v := 2) X dX8_takesNumber_32 (by decide) ?_
      refine rx_goto X dX8_takesNumber_33 ?_
      refine rx_callVi (ci := 8) X vsX8_faults mlX8_117 (kX8_faults hO) (km_0 hO) rfl rfl (by decide) (by decide) dX8_takesNumber_37 rfl (Nat.le_of_ble_eq_true rfl) (fun r37 t37 h37 => ?_)
      obtain ⟨rfl, rfl⟩ := h37
      refine rx_zret X dX8_takesNumber_40 rfl ?_
      have hz := hs.2.2.1
      first
        | exact absurd h29 h5
        | exact absurd h5 h29
        | (have e : pz_num (σ.1 6) N p lo hi sg = (1, p, 0) := by rw [pz_num, if_pos (fun z => h5 (hz.trans z))]
           rw [e]
           exact ⟨(pz_ok.rf σ).u0 (by decide), Or.inr ⟨rfl, n10, u0s, by rw [u0n (by decide)]; exact hs.2.1⟩⟩)
        | (have e : pz_num (σ.1 6) N p lo hi sg = (2, p, 0) := by rw [pz_num, if_neg (fun z => z (hz.symm.trans h5)), if_pos (by rw [← hs.2.2.2.1]; exact h17)]
           rw [e]
           exact ⟨(pz_ok.rf σ).u0 (by decide), Or.inr ⟨rfl, n20, u0s, by rw [u0n (by decide)]; exact hs.2.1⟩⟩)
        | (have k0 : pz_ok σ t52 := ((pz_ok.rf σ).u7).tr k1
           obtain ⟨rfl, q1, q2, q3, q4⟩ | ⟨rfl, q1, q2, q3, q4, q5⟩ := h58
           · rw [k0.t] at q1
             have e : pz_num (σ.1 6) N p lo hi sg = (0, pz_nx (σ.1 6) N p + 1, pz_val (σ.1 6) N p) := by rw [pz_num, if_neg (fun z => z (hz.symm.trans h5)), if_neg (by rw [← hs.2.2.2.1]; exact fun z => z h17), if_pos q1]
             rw [e]
             exact ⟨k0.tr q2, Or.inl ⟨rfl, rfl, q3, by rw [q4, k3, rx_u_s, hs.2.2.2.1]⟩⟩
           · rw [k0.t] at q1
             have e : pz_num (σ.1 6) N p lo hi sg = (1, pz_nx (σ.1 6) N p, 0) := by rw [pz_num, if_neg (fun z => z (hz.symm.trans h5)), if_neg (by rw [← hs.2.2.2.1]; exact fun z => z h17), if_neg q1]
             rw [e]
             exact ⟨k0.tr q2, Or.inr ⟨rfl, n10, q3, q4⟩⟩)
        | fail "leaf"
  · refine rx_aload_n (i := 0) X dX8_takesNumber_8 rfl rfl ?_
    refine rx_getI (ci := 8) (i := 13) X (km_0 hO) rfl rfl (by decide) inX8 flX8_100 dX8_takesNumber_9 ?_
    refine rx_i2l X dX8_takesNumber_12 ?_
    refine rx_iload_n (i := 1) X dX8_takesNumber_13 rfl rfl ?_
    refine rx_i2l X dX8_takesNumber_14 ?_
    refine rx_iload_n (i := 2) X dX8_takesNumber_15 rfl rfl ?_
    refine rx_i2l X dX8_takesNumber_16 ?_
    refine rx_callTi X vsX8_in mlX8_63 (kX8_inI hO (Int32.toInt_toInt64 _) (Int32.toInt_toInt64 _)) rfl (by decide) (by decide) dX8_takesNumber_17 rfl (Nat.le_of_ble_eq_true rfl) (fun r17 t17 h17 => ?_)
    obtain ⟨rfl, ⟨rfl, h17⟩ | ⟨rfl, h17⟩⟩ := h17
    · refine rx_if_ne_t X dX8_takesNumber_20 (by decide) ?_
      refine rx_aload_n (i := 0) X dX8_takesNumber_41 rfl rfl ?_
      refine rx_getR (ci := 8) (i := 16) X (km_0 hO) rfl rfl (by decide) inX8 flX8_32 dX8_takesNumber_42 ?_
      refine rx_iload_n (i := 3) X dX8_takesNumber_45 rfl rfl ?_
      refine rx_aload_n (i := 0) X dX8_takesNumber_46 rfl rfl ?_
      refine rx_getI (ci := 8) (i := 13) X (km_0 hO) rfl rfl (by decide) inX8 flX8_100 dX8_takesNumber_47 ?_
      refine rx_iastN (j := at0) X (km_7 hO) hO.2.2.1 rfl hat (by decide) dX8_takesNumber_50 ?_
      refine rx_aload_n (i := 0) X dX8_takesNumber_51 rfl rfl ?_
      refine rx_callVv (ci := 8) X vsX8_nextToken mlX8_120 (kX8_next hO (p := pz_nx (σ.1 6) N p) (by rw [rx_u_ne (by decide)]; exact hs.1) (by rw [rx_u_ne (by decide)]; exact hs.2.2.2.2) (pz_nx_le hp) hN) (km_0 hO) rfl rfl (by decide) (by decide) dX8_takesNumber_52 rfl (Nat.le_of_ble_eq_true rfl) (fun t52 h52 => ?_)
      obtain ⟨k1, k2, k3⟩ := h52
      refine rx_aload_n (i := 0) X dX8_takesNumber_55 rfl rfl ?_
      refine rx_iload (i := 4) X dX8_takesNumber_56 rfl ?_
      refine rx_callVi (ci := 8) X vsX8_takes mlX8_123 (kX8_takes hO k2 (pz_nx_le hp) hN hc) (km_0 hO) rfl rfl (by decide) (by decide) dX8_takesNumber_58 rfl (Nat.le_of_ble_eq_true rfl) (fun r58 t58 h58 => ?_)
      refine rx_zret X dX8_takesNumber_61 (by obtain ⟨rfl, -⟩ | ⟨rfl, -⟩ := h58 <;> rfl) ?_
      have hz := hs.2.2.1
      first
        | exact absurd h29 h5
        | exact absurd h5 h29
        | (have e : pz_num (σ.1 6) N p lo hi sg = (1, p, 0) := by rw [pz_num, if_pos (fun z => h5 (hz.trans z))]
           rw [e]
           exact ⟨(pz_ok.rf σ).u0 (by decide), Or.inr ⟨rfl, n10, u0s, by rw [u0n (by decide)]; exact hs.2.1⟩⟩)
        | (have e : pz_num (σ.1 6) N p lo hi sg = (2, p, 0) := by rw [pz_num, if_neg (fun z => z (hz.symm.trans h5)), if_pos (by rw [← hs.2.2.2.1]; exact h17)]
           rw [e]
           exact ⟨(pz_ok.rf σ).u0 (by decide), Or.inr ⟨rfl, n20, u0s, by rw [u0n (by decide)]; exact hs.2.1⟩⟩)
        | (have k0 : pz_ok σ t52 := ((pz_ok.rf σ).u7).tr k1
           obtain ⟨rfl, q1, q2, q3, q4⟩ | ⟨rfl, q1, q2, q3, q4, q5⟩ := h58
           · rw [k0.t] at q1
             have e : pz_num (σ.1 6) N p lo hi sg = (0, pz_nx (σ.1 6) N p + 1, pz_val (σ.1 6) N p) := by rw [pz_num, if_neg (fun z => z (hz.symm.trans h5)), if_neg (by rw [← hs.2.2.2.1]; exact fun z => z h17), if_pos q1]
             rw [e]
             exact ⟨k0.tr q2, Or.inl ⟨rfl, rfl, q3, by rw [q4, k3, rx_u_s, hs.2.2.2.1]⟩⟩
           · rw [k0.t] at q1
             have e : pz_num (σ.1 6) N p lo hi sg = (1, pz_nx (σ.1 6) N p, 0) := by rw [pz_num, if_neg (fun z => z (hz.symm.trans h5)), if_neg (by rw [← hs.2.2.2.1]; exact fun z => z h17), if_neg q1]
             rw [e]
             exact ⟨k0.tr q2, Or.inr ⟨rfl, n10, q3, q4⟩⟩)
        | fail "leaf"
    · refine rx_if_ne_f X dX8_takesNumber_20 (by decide) ?_
      refine rx_aload_n (i := 0) X dX8_takesNumber_23 rfl rfl ?_
      refine rx_aload_n (i := 0) X dX8_takesNumber_24 rfl rfl ?_
      refine rx_getI (ci := 8) (i := 12) X (km_0 hO) rfl rfl (by decide) inX8 flX8_97 dX8_takesNumber_25 ?_
      refine rx_iconst (v := 2) X dX8_takesNumber_28 (by decide) ?_
      refine rx_icmp_ne X dX8_takesNumber_29 (fun h29 => ?_) (fun h29 => ?_)
      · refine rx_iconst (v := 1) X dX8_takesNumber_36 (by decide) ?_
        refine rx_callVi (ci := 8) X vsX8_faults mlX8_117 (kX8_faults hO) (km_0 hO) rfl rfl (by decide) (by decide) dX8_takesNumber_37 rfl (Nat.le_of_ble_eq_true rfl) (fun r37 t37 h37 => ?_)
        obtain ⟨rfl, rfl⟩ := h37
        refine rx_zret X dX8_takesNumber_40 rfl ?_
        have hz := hs.2.2.1
        first
          | exact absurd h29 h5
          | exact absurd h5 h29
          | (have e : pz_num (σ.1 6) N p lo hi sg = (1, p, 0) := by rw [pz_num, if_pos (fun z => h5 (hz.trans z))]
             rw [e]
             exact ⟨(pz_ok.rf σ).u0 (by decide), Or.inr ⟨rfl, n10, u0s, by rw [u0n (by decide)]; exact hs.2.1⟩⟩)
          | (have e : pz_num (σ.1 6) N p lo hi sg = (2, p, 0) := by rw [pz_num, if_neg (fun z => z (hz.symm.trans h5)), if_pos (by rw [← hs.2.2.2.1]; exact h17)]
             rw [e]
             exact ⟨(pz_ok.rf σ).u0 (by decide), Or.inr ⟨rfl, n20, u0s, by rw [u0n (by decide)]; exact hs.2.1⟩⟩)
          | (have k0 : pz_ok σ t52 := ((pz_ok.rf σ).u7).tr k1
             obtain ⟨rfl, q1, q2, q3, q4⟩ | ⟨rfl, q1, q2, q3, q4, q5⟩ := h58
             · rw [k0.t] at q1
               have e : pz_num (σ.1 6) N p lo hi sg = (0, pz_nx (σ.1 6) N p + 1, pz_val (σ.1 6) N p) := by rw [pz_num, if_neg (fun z => z (hz.symm.trans h5)), if_neg (by rw [← hs.2.2.2.1]; exact fun z => z h17), if_pos q1]
               rw [e]
               exact ⟨k0.tr q2, Or.inl ⟨rfl, rfl, q3, by rw [q4, k3, rx_u_s, hs.2.2.2.1]⟩⟩
             · rw [k0.t] at q1
               have e : pz_num (σ.1 6) N p lo hi sg = (1, pz_nx (σ.1 6) N p, 0) := by rw [pz_num, if_neg (fun z => z (hz.symm.trans h5)), if_neg (by rw [← hs.2.2.2.1]; exact fun z => z h17), if_neg q1]
               rw [e]
               exact ⟨k0.tr q2, Or.inr ⟨rfl, n10, q3, q4⟩⟩)
          | fail "leaf"
      · refine rx_iconst (v := 2) X dX8_takesNumber_32 (by decide) ?_
        refine rx_goto X dX8_takesNumber_33 ?_
        refine rx_callVi (ci := 8) X vsX8_faults mlX8_117 (kX8_faults hO) (km_0 hO) rfl rfl (by decide) (by decide) dX8_takesNumber_37 rfl (Nat.le_of_ble_eq_true rfl) (fun r37 t37 h37 => ?_)
        obtain ⟨rfl, rfl⟩ := h37
        refine rx_zret X dX8_takesNumber_40 rfl ?_
        have hz := hs.2.2.1
        first
          | exact absurd h29 h5
          | exact absurd h5 h29
          | (have e : pz_num (σ.1 6) N p lo hi sg = (1, p, 0) := by rw [pz_num, if_pos (fun z => h5 (hz.trans z))]
             rw [e]
             exact ⟨(pz_ok.rf σ).u0 (by decide), Or.inr ⟨rfl, n10, u0s, by rw [u0n (by decide)]; exact hs.2.1⟩⟩)
          | (have e : pz_num (σ.1 6) N p lo hi sg = (2, p, 0) := by rw [pz_num, if_neg (fun z => z (hz.symm.trans h5)), if_pos (by rw [← hs.2.2.2.1]; exact h17)]
             rw [e]
             exact ⟨(pz_ok.rf σ).u0 (by decide), Or.inr ⟨rfl, n20, u0s, by rw [u0n (by decide)]; exact hs.2.1⟩⟩)
          | (have k0 : pz_ok σ t52 := ((pz_ok.rf σ).u7).tr k1
             obtain ⟨rfl, q1, q2, q3, q4⟩ | ⟨rfl, q1, q2, q3, q4, q5⟩ := h58
             · rw [k0.t] at q1
               have e : pz_num (σ.1 6) N p lo hi sg = (0, pz_nx (σ.1 6) N p + 1, pz_val (σ.1 6) N p) := by rw [pz_num, if_neg (fun z => z (hz.symm.trans h5)), if_neg (by rw [← hs.2.2.2.1]; exact fun z => z h17), if_pos q1]
               rw [e]
               exact ⟨k0.tr q2, Or.inl ⟨rfl, rfl, q3, by rw [q4, k3, rx_u_s, hs.2.2.2.1]⟩⟩
             · rw [k0.t] at q1
               have e : pz_num (σ.1 6) N p lo hi sg = (1, pz_nx (σ.1 6) N p, 0) := by rw [pz_num, if_neg (fun z => z (hz.symm.trans h5)), if_neg (by rw [← hs.2.2.2.1]; exact fun z => z h17), if_neg q1]
               rw [e]
               exact ⟨k0.tr q2, Or.inr ⟨rfl, n10, q3, q4⟩⟩)
          | fail "leaf"
