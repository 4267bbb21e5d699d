/-! ===== who arrived: six bits ===== -/
def w_B (w : Nat → Int32) : Prop := 0 ≤ (w 4).toInt ∧ (w 4).toInt < 64
theorem w_B_or : ∀ q, q < 64 → ∀ a, a < 6 → 0 ≤ (nI q ||| 1 <<< (nI a &&& 31)).toInt ∧ (nI q ||| 1 <<< (nI a &&& 31)).toInt < 64 := by decide +kernel
theorem w_B_go {w : Nat → Int32} {a : Nat} (h : w_B w) (ha : a < 6) : w_B (w_go w a) := by
  unfold w_B w_go
  split
  · rw [upd_n (by omega), upd_s, rx_nN h.1]
    have e := rx_Ni h.1
    have h2 := h.2
    exact w_B_or (rx_N (w 4)) (by omega) a ha
  · rw [upd_n (by omega)]
    exact h
theorem w_B_all {sp : Int32} {w : Nat → Int32} (h : w_B w) : ∀ n, n ≤ 6 → w_B (w_all sp n w)
  | 0, _ => h
  | n + 1, hn => by
    have ih := w_B_all (sp := sp) h n (by omega)
    unfold w_all
    split
    · exact w_B_go ih (by omega)
    · exact ih
theorem w_B_min {sp inches : Int32} {w : Nat → Int32} (h : w_B w) (h3 : 0 ≤ (w 3).toInt ∧ (w 3).toInt ≤ 6) : w_B (w_min sp inches w) := by
  have e := rx_Ni h3.1
  have h1 := w_B_all (sp := sp) h (rx_N (w 3)) (by omega)
  unfold w_B w_min
  rw [upd_n (by decide), upd_n (by decide)]
  exact h1
theorem w_B_one {K : Nat} {sp : Int32} {w : Nat → Int32} (h : w_B w) (hv : w_V K w) : w_B (w_one sp w) := w_B_min h ⟨by have := hv.2.2.2.1.1; omega, hv.2.2.2.1.2⟩
theorem w_B_on {sp : Int32} : ∀ {n K : Nat} {w : Nat → Int32}, K + n < 1000000 → w_V K w → w_B w → w_B (w_on sp n w)
  | 0, _, _, _, _, h => h
  | n + 1, K, w, hK, hv, h => w_B_on (n := n) (K := K + 1) (by omega) (w_V_one (by omega) hv) (w_B_one h hv)
theorem w_V_slack {K : Nat} {w : Nat → Int32} (h : w_V K w) : w_V K (w_slack w) := by
  obtain ⟨h0, h1, h2, h3, h4, h5⟩ := h
  have e : ∀ j, j ≠ 0 → w_slack w j = w j := fun j hj => upd_n hj
  have e0 : w_slack w 0 = if w 0 < 2 then 1 else w 0 / 2 := upd_s
  refine ⟨?_, by rw [e 1 (by decide)]; exact h1, by rw [e 2 (by decide)]; exact h2, by rw [e 3 (by decide)]; exact h3, fun i hi => ?_, fun a ha => ?_⟩
  · rw [e0]
    split
    · decide
    · rename_i q
      have d : (w 0 / 2).toInt = (w 0).toInt.tdiv 2 := w_div_toInt (by decide)
      rw [Int.tdiv_eq_ediv_of_nonneg (by omega)] at d
      simp only [Int32.lt_iff_toInt_lt, Int32.reduceToInt] at q
      omega
  · rw [e 2 (by decide)] at hi
    rw [e _ (by omega)]
    exact h4 i hi
  · rw [e 3 (by decide)] at ha
    obtain ⟨b1, b2, b3, b4, b5⟩ := h5 a ha
    exact ⟨by rw [e _ (by omega)]; exact b1, by rw [e _ (by omega)]; exact b2, by rw [e _ (by omega)]; exact b3, by rw [e _ (by omega)]; exact b4, by rw [e _ (by omega)]; exact b5⟩
theorem kA_slack {l : Launch} {O : rx_O} (hO : mo_O O) {σ : rx_S} {u : Nat → Int32} : rx_MV l O yX8_slacken cX8_slacken 1 none 0 [.ref 0] (as_st σ u) (fun τ => as_st σ (w_slack u) = τ) := by
  have h := kX8_slacken (l := l) hO (σ := as_st σ u)
  rw [as_4, show rx_ua (as_st σ u) 4 (w_slack u) = as_st σ (w_slack u) by rw [as_st, rx_ua_ua]; rfl] at h
  exact h
theorem rx_topL {O : rx_O} {nL : Nat} {p : Program} {l : Launch} {e : Env} {R : Room} {s : State} {m : MethodId} {args : Array Value} {below : List Frame} {meth : Method} {c : Code} {Q : State → Prop} {pc : Nat} {lo : List (Nat × Value)} {st : List Value} {σ : rx_S} {x y : Int64} (h : x = y) (k : rx_J O nL p l e R s m args below meth c Q pc lo (.long y :: st) σ) : rx_J O nL p l e R s m args below meth c Q pc lo (.long x :: st) σ := h ▸ k
def dr_x (x : Int64) : Int64 := x * 16807 - x * 16807 / 2147483647 * 2147483647
def dr_u (x : Int64) (w : Nat → Int32) : Nat → Int32 := if x - x / 4 * 4 = 0 then w_slack w else w
def dr_s (x : Int64) (u : Nat → Int32) : Int32 := (x - x / (u 3).toInt64 * (u 3).toInt64).toInt32
def dr_loop : Nat → Int64 → (Nat → Int32) → Nat → Int32
  | 0, _, w => w
  | n + 1, x, w => dr_loop n (dr_x x) (w_one (dr_s (dr_x x) (dr_u (dr_x x) w)) (dr_u (dr_x x) w))
theorem dr_u_3 (x : Int64) (w : Nat → Int32) : dr_u x w 3 = w 3 := by
  unfold dr_u w_slack
  split
  · exact upd_n (by decide)
  · rfl
theorem dr_u_V {K : Nat} {x : Int64} {w : Nat → Int32} (h : w_V K w) : w_V K (dr_u x w) := by
  unfold dr_u
  split
  · exact w_V_slack h
  · exact h
theorem dr_u_B {x : Int64} {w : Nat → Int32} (h : w_B w) : w_B (dr_u x w) := by
  unfold dr_u w_slack w_B
  split
  · rw [upd_n (by decide)]; exact h
  · exact h
theorem dr_u_hi {x : Int64} {w : Nat → Int32} {i : Nat} (h : 40 ≤ i) : dr_u x w i = w i := by
  unfold dr_u w_slack
  split
  · exact upd_n (by omega)
  · rfl
def sp_drawnV (σ : rx_S) (n seed v : Int32) : Int32 :=
  if σ.1 0 4 = 0 then -1000002 else if ¬ (0 ≤ n.toInt ∧ n.toInt ≤ 99) ∨ ¬ (1 ≤ seed.toInt ∧ seed.toInt ≤ 999999) ∨ ¬ (0 ≤ v.toInt ∧ v.toInt ≤ 1) then -1000001
  else if v = 0 then sp_ones 6 (dr_loop (rx_N n) seed.toInt64 (σ.1 4) 4) 0 else dr_loop (rx_N n) seed.toInt64 (σ.1 4) 0
theorem i64_ne {x : Int32} (h : 1 ≤ x.toInt) : ¬ x.toInt64 = 0 := by
  intro q
  have e := Int32.toInt_toInt64 x
  rw [q, show (0 : Int64).toInt = 0 from rfl] at e
  omega
theorem dr_sam {σ ρ : rx_S} (h : (∀ k, k ≠ 0 → ρ.1 k = σ.1 k) ∧ ρ.2 = σ.2) (h0 : ∀ j, j ≠ 6 → ρ.1 0 j = σ.1 0 j) (h6 : σ.1 0 6 = -1) : mo_sam σ (sp_aside (rx_u ρ 0 6 (-1))) := by
  refine ⟨fun k h9 _ _ => ?_, h.2⟩
  rw [sp_aside, rx_ua_ne h9]
  by_cases e : k = 0
  · subst e
    funext j
    by_cases e6 : j = 6
    · subst e6
      rw [u0s, h6]
    · rw [u0n e6]
      exact h0 j e6
  · rw [rx_u_ne e]
    exact h.1 k e
set_option maxHeartbeats 4000000 in
set_option maxRecDepth 100000 in
theorem kX8_drawn {l : Launch} {O : rx_O} (hO : mo_O O) {σ : rx_S} {n sd v : Int32} (hw : mo_W σ) (hB : w_B (σ.1 4)) (h6 : σ.1 0 6 = -1) : rx_MI l O yX8_drawn cX8_drawn 7 (some .int) 6 [.ref 0, .int n, .int sd, .int v] σ (fun r τ => r = sp_drawnV σ n sd v ∧ mo_sam σ τ) := by
  refine rx_Met_of (own := RX8) rfl hO.2.1 vsX8_drawn.2.2.2.2.2 (Nat.le_of_ble_eq_true rfl) rfl (fun p e s m args below meth c X => ?_)
  have go : ∀ (q : Nat), q < 100 → ¬ σ.1 0 4 = 0 → w_V 999 (σ.1 4) → ¬ (¬ (0 ≤ (nI q).toInt ∧ (nI q).toInt ≤ 99) ∨ ¬ (1 ≤ sd.toInt ∧ sd.toInt ≤ 999999) ∨ ¬ (0 ≤ v.toInt ∧ v.toInt ≤ 1)) → rx_J O 7 p l e (rx_lv 6) s m args below meth c (rx_QI O below args s (fun r τ => r = sp_drawnV σ (nI q) sd v ∧ mo_sam σ τ)) 55 [(0, .ref 0), (1, .int (nI q)), (2, .int sd), (3, .int v), (4, .long sd.toInt64), (6, .int 0)] [] (as_st σ (σ.1 4)) := by
    intro q hq h4 hv0 hno
    have loop : ∀ (k : Nat) (i K : Nat) (x : Int32) (xx : Int64) (u : Nat → Int32) (ρ : rx_S), (i + k = q) → (x = nI i) → (K + k < 1000000) → (w_V K u) → (w_B u) → (∀ j, 40 ≤ j → u j = σ.1 4 j) → (u 3 = σ.1 4 3) → ((∀ k, k ≠ 0 → ρ.1 k = σ.1 k) ∧ ρ.2 = σ.2) → (∀ j, j ≠ 6 → ρ.1 0 j = σ.1 0 j) → (dr_loop q sd.toInt64 (σ.1 4) = dr_loop k xx u) → rx_J O 7 p l e (rx_lv 6) s m args below meth c (rx_QI O below args s (fun r τ => r = sp_drawnV σ (nI q) sd v ∧ mo_sam σ τ)) 55 [(0, .ref 0), (1, .int (nI q)), (2, .int sd), (3, .int v), (4, .long xx), (6, .int x)] [] (as_st ρ u) := by
      intro k
      induction k with
      | zero =>
        intro i K x xx u ρ hi9 hx hK hv hb hi40 h3u hρ h0ρ hu
        subst hx
        obtain rfl : i = q := by omega
        have hu4 : u 4 = nI (rx_N (u 4)) := rx_nN hb.1
        refine rx_iload (i := 6) X dX8_drawn_55 rfl ?_
        refine rx_iload_n (i := 1) X dX8_drawn_57 rfl rfl ?_
        refine rx_icmp_ge_t X dX8_drawn_58 (Int32.le_refl _) ?_
        refine rx_aload_n (i := 0) X dX8_drawn_113 rfl rfl ?_
        refine rx_iconst (v := -1) X dX8_drawn_114 (by decide) ?_
        refine rx_putI (ci := 8) (i := 6) X (km_0 hO) rfl rfl (by decide) inX8 tyX8 tyX8_ok nmX8 flX8_22 rfl rfl dX8_drawn_115 ?_
        refine rx_sto (as_uk (by decide) (by decide)) ?_
        refine rx_iload_n (i := 3) X dX8_drawn_118 rfl rfl ?_
        refine rx_if_ne X dX8_drawn_119 (fun h119 => ?_) (fun h119 => ?_)
        · refine rx_aload_n (i := 0) X dX8_drawn_134 rfl rfl ?_
          refine rx_getR (ci := 8) (i := 5) X (km_0 hO) rfl rfl (by decide) inX8 flX8_19 dX8_drawn_135 ?_
          refine rx_iconst (v := 0) X dX8_drawn_138 (by decide) ?_
          refine rx_ialdN (j := 0) X (km_4 hO) hO.2.2.1 rfl (by decide) (by decide) dX8_drawn_139 ?_
          refine rx_top (as_rd _ _ _) ?_
          refine rx_istore (i := 6) (lo2 := [(0, .ref _), (1, .int _), (2, .int _), (3, .int _), (4, .long _), (6, .int _)]) X dX8_drawn_140 (by decide) rfl ?_
          refine rx_aload_n (i := 0) X dX8_drawn_142 rfl rfl ?_
          refine rx_callVv (ci := 8) X vsX8_takeBack mlX8_196 (kA_take hO (fun j hj => (hi40 j hj).trans (by rw [rx_u_ne (by decide), hρ.1 4 (by decide)]))) (km_0 hO) rfl rfl (by decide) (by decide) dX8_drawn_143 rfl (Nat.le_of_ble_eq_true rfl) (fun t143 h143 => ?_)
          subst h143
          refine rx_iload (i := 6) X dX8_drawn_146 rfl ?_
          refine rx_iret X dX8_drawn_148 ?_
          refine ⟨?_, dr_sam hρ h0ρ h6⟩
          rw [sp_drawnV, if_neg h4, if_neg hno, rx_Nn (j := i) (by omega)]
          rw [if_neg h119, hu]
          rfl
        · refine rx_aload_n (i := 0) X dX8_drawn_122 rfl rfl ?_
          refine rx_getR (ci := 8) (i := 5) X (km_0 hO) rfl rfl (by decide) inX8 flX8_19 dX8_drawn_123 ?_
          refine rx_iconst (v := 4) X dX8_drawn_126 (by decide) ?_
          refine rx_ialdN (j := 4) X (km_4 hO) hO.2.2.1 rfl (by decide) (by decide) dX8_drawn_127 ?_
          refine rx_top ((as_rd _ _ _).trans hu4) ?_
          refine rx_callTi X vsX8_ones mlX8_245 (kX8_ones hO (by have := rx_Ni hb.1; have := hb.2; omega)) rfl (by decide) (by decide) dX8_drawn_128 rfl (Nat.le_of_ble_eq_true rfl) (fun r128 t128 h128 => ?_)
          obtain ⟨rfl, rfl⟩ := h128
          refine rx_goto X dX8_drawn_131 ?_
          refine rx_istore (i := 6) (lo2 := [(0, .ref _), (1, .int _), (2, .int _), (3, .int _), (4, .long _), (6, .int _)]) X dX8_drawn_140 (by decide) rfl ?_
          refine rx_aload_n (i := 0) X dX8_drawn_142 rfl rfl ?_
          refine rx_callVv (ci := 8) X vsX8_takeBack mlX8_196 (kA_take hO (fun j hj => (hi40 j hj).trans (by rw [rx_u_ne (by decide), hρ.1 4 (by decide)]))) (km_0 hO) rfl rfl (by decide) (by decide) dX8_drawn_143 rfl (Nat.le_of_ble_eq_true rfl) (fun t143 h143 => ?_)
          subst h143
          refine rx_iload (i := 6) X dX8_drawn_146 rfl ?_
          refine rx_iret X dX8_drawn_148 ?_
          refine ⟨?_, dr_sam hρ h0ρ h6⟩
          rw [sp_drawnV, if_neg h4, if_neg hno, rx_Nn (j := i) (by omega)]
          rw [if_pos h119, hu, ← hu4]
          rfl
      | succ k ih =>
        intro i K x xx u ρ hi9 hx hK hv hb hi40 h3u hρ h0ρ hu
        subst hx
        refine rx_iload (i := 6) X dX8_drawn_55 rfl ?_
        refine rx_iload_n (i := 1) X dX8_drawn_57 rfl rfl ?_
        refine rx_icmp_ge_f X dX8_drawn_58 (nI_ge (b := q) (by omega) (by omega)) ?_
        refine rx_lload (i := 4) X dX8_drawn_61 rfl ?_
        refine rx_ldc2 X dX8_drawn_63 kcX8_239 ?_
        refine rx_lmul X dX8_drawn_66 ?_
        refine rx_ldc2 X dX8_drawn_67 kcX8_241 ?_
        refine rx_lrem X dX8_drawn_70 (by decide) ?_
        refine rx_topL (show _ = dr_x xx from rfl) ?_
        refine rx_lstore (i := 4) (lo2 := [(0, .ref _), (1, .int _), (2, .int _), (3, .int _), (4, .long _), (6, .int _)]) X dX8_drawn_71 (by decide) rfl ?_
        refine rx_lload (i := 4) X dX8_drawn_73 rfl ?_
        refine rx_ldc2 X dX8_drawn_75 kcX8_243 ?_
        refine rx_lrem X dX8_drawn_78 (by decide) ?_
        refine rx_lconst (v := 0) X dX8_drawn_79 (by decide) ?_
        refine rx_lcmp X dX8_drawn_80 ?_
        refine rx_if_ne X dX8_drawn_81 (fun h81 => ?_) (fun h81 => ?_)
        · rw [lg_cmp_eq] at h81
          refine rx_sto (τ := as_st ρ (dr_u (dr_x xx) u)) (by rw [dr_u, if_neg h81]) ?_
          refine rx_aload_n (i := 0) X dX8_drawn_88 rfl rfl ?_
          refine rx_lload (i := 4) X dX8_drawn_89 rfl ?_
          refine rx_aload_n (i := 0) X dX8_drawn_91 rfl rfl ?_
          refine rx_getR (ci := 8) (i := 5) X (km_0 hO) rfl rfl (by decide) inX8 flX8_19 dX8_drawn_92 ?_
          refine rx_iconst (v := 3) X dX8_drawn_95 (by decide) ?_
          refine rx_ialdN (j := 3) X (km_4 hO) hO.2.2.1 rfl (by decide) (by decide) dX8_drawn_96 ?_
          refine rx_top (as_rd _ _ _) ?_
          refine rx_i2l X dX8_drawn_97 ?_
          refine rx_lrem X dX8_drawn_98 (i64_ne (by rw [dr_u_3, h3u]; exact hv0.2.2.2.1.1)) ?_
          refine rx_l2i X dX8_drawn_99 ?_
          refine rx_putI (ci := 8) (i := 6) X (km_0 hO) rfl rfl (by decide) inX8 tyX8 tyX8_ok nmX8 flX8_22 rfl rfl dX8_drawn_100 ?_
          refine rx_sto (as_uk (by decide) (by decide)) ?_
          refine rx_aload_n (i := 0) X dX8_drawn_103 rfl rfl ?_
          refine rx_callVv (ci := 8) X vsX8_oneMinute mlX8_170 (kA_one hO (dr_u_V hv)) (km_0 hO) rfl rfl (by decide) (by decide) dX8_drawn_104 rfl (Nat.le_of_ble_eq_true rfl) (fun t104 h104 => ?_)
          rw [u0s] at h104
          subst h104
          refine rx_iinc (i := 6) (lo2 := [(0, .ref _), (1, .int _), (2, .int _), (3, .int _), (4, .long _), (6, .int _)]) X dX8_drawn_107 rfl (rx_inc1 _) (by decide) rfl ?_
          refine rx_goto X dX8_drawn_110 ?_
          refine ih (i + 1) (K + 1) _ _ _ _ (by omega) (nI_1 i) (by omega) (w_V_one (by omega) (dr_u_V hv)) (w_B_one (dr_u_B hb) (dr_u_V hv)) (fun j hj => (w_hi_one (dr_u_V hv) hj).trans ((dr_u_hi hj).trans (hi40 j hj))) (w_one_3.trans ((dr_u_3 _ _).trans h3u)) ⟨fun k hk => by rw [rx_u_ne hk]; exact hρ.1 k hk, hρ.2⟩ (fun j hj => by rw [u0n hj]; exact h0ρ j hj) ?_
          rw [hu]
          rfl
        · rw [lg_cmp_eq] at h81
          refine rx_aload_n (i := 0) X dX8_drawn_84 rfl rfl ?_
          refine rx_callVv (ci := 8) X vsX8_slacken mlX8_181 (kA_slack hO) (km_0 hO) rfl rfl (by decide) (by decide) dX8_drawn_85 rfl (Nat.le_of_ble_eq_true rfl) (fun t85 h85 => ?_)
          subst h85
          refine rx_sto (τ := as_st ρ (dr_u (dr_x xx) u)) (by rw [dr_u, if_pos h81]) ?_
          refine rx_aload_n (i := 0) X dX8_drawn_88 rfl rfl ?_
          refine rx_lload (i := 4) X dX8_drawn_89 rfl ?_
          refine rx_aload_n (i := 0) X dX8_drawn_91 rfl rfl ?_
          refine rx_getR (ci := 8) (i := 5) X (km_0 hO) rfl rfl (by decide) inX8 flX8_19 dX8_drawn_92 ?_
          refine rx_iconst (v := 3) X dX8_drawn_95 (by decide) ?_
          refine rx_ialdN (j := 3) X (km_4 hO) hO.2.2.1 rfl (by decide) (by decide) dX8_drawn_96 ?_
          refine rx_top (as_rd _ _ _) ?_
          refine rx_i2l X dX8_drawn_97 ?_
          refine rx_lrem X dX8_drawn_98 (i64_ne (by rw [dr_u_3, h3u]; exact hv0.2.2.2.1.1)) ?_
          refine rx_l2i X dX8_drawn_99 ?_
          refine rx_putI (ci := 8) (i := 6) X (km_0 hO) rfl rfl (by decide) inX8 tyX8 tyX8_ok nmX8 flX8_22 rfl rfl dX8_drawn_100 ?_
          refine rx_sto (as_uk (by decide) (by decide)) ?_
          refine rx_aload_n (i := 0) X dX8_drawn_103 rfl rfl ?_
          refine rx_callVv (ci := 8) X vsX8_oneMinute mlX8_170 (kA_one hO (dr_u_V hv)) (km_0 hO) rfl rfl (by decide) (by decide) dX8_drawn_104 rfl (Nat.le_of_ble_eq_true rfl) (fun t104 h104 => ?_)
          rw [u0s] at h104
          subst h104
          refine rx_iinc (i := 6) (lo2 := [(0, .ref _), (1, .int _), (2, .int _), (3, .int _), (4, .long _), (6, .int _)]) X dX8_drawn_107 rfl (rx_inc1 _) (by decide) rfl ?_
          refine rx_goto X dX8_drawn_110 ?_
          refine ih (i + 1) (K + 1) _ _ _ _ (by omega) (nI_1 i) (by omega) (w_V_one (by omega) (dr_u_V hv)) (w_B_one (dr_u_B hb) (dr_u_V hv)) (fun j hj => (w_hi_one (dr_u_V hv) hj).trans ((dr_u_hi hj).trans (hi40 j hj))) (w_one_3.trans ((dr_u_3 _ _).trans h3u)) ⟨fun k hk => by rw [rx_u_ne hk]; exact hρ.1 k hk, hρ.2⟩ (fun j hj => by rw [u0n hj]; exact h0ρ j hj) ?_
          rw [hu]
          rfl
    exact loop q 0 999 _ _ _ σ (by omega) rfl (by omega) hv0 hB (fun _ _ => rfl) rfl ⟨fun _ _ => rfl, rfl⟩ (fun _ _ => rfl) rfl
  refine rx_aload_n (i := 0) X dX8_drawn_0 rfl rfl ?_
  refine rx_getZ (ci := 8) (i := 4) X (km_0 hO) rfl rfl (by decide) inX8 flX8_144 dX8_drawn_1 ?_
  refine rx_if_ne X dX8_drawn_4 (fun h4 => ?_) (fun h4 => ?_)
  · refine rx_iload_n (i := 1) X dX8_drawn_10 rfl rfl ?_
    refine rx_i2l X dX8_drawn_11 ?_
    refine rx_lconst (v := 0) X dX8_drawn_12 (by decide) ?_
    refine rx_ldc2 X dX8_drawn_13 kcX8_179 ?_
    refine rx_callTi X vsX8_in mlX8_63 (kX8_inI hO (A := 0) (B := 99) rfl rfl) rfl (by decide) (by decide) dX8_drawn_16 rfl (Nat.le_of_ble_eq_true rfl) (fun r16 t16 h16 => ?_)
    obtain ⟨rfl, ⟨rfl, h16⟩ | ⟨rfl, h16⟩⟩ := h16
    · obtain ⟨q, hq, rfl⟩ := rx_sub (x := n) (n := 100) (by omega) (by omega)
      refine rx_if_eq_f X dX8_drawn_19 (by decide) ?_
      refine rx_iload_n (i := 2) X dX8_drawn_22 rfl rfl ?_
      refine rx_i2l X dX8_drawn_23 ?_
      refine rx_lconst (v := 1) X dX8_drawn_24 (by decide) ?_
      refine rx_ldc2 X dX8_drawn_25 kcX8_237 ?_
      refine rx_callTi X vsX8_in mlX8_63 (kX8_inI hO (A := 1) (B := 999999) rfl rfl) rfl (by decide) (by decide) dX8_drawn_28 rfl (Nat.le_of_ble_eq_true rfl) (fun r28 t28 h28 => ?_)
      obtain ⟨rfl, ⟨rfl, h28⟩ | ⟨rfl, h28⟩⟩ := h28
      · refine rx_if_eq_f X dX8_drawn_31 (by decide) ?_
        refine rx_iload_n (i := 3) X dX8_drawn_34 rfl rfl ?_
        refine rx_callTi X vsX8_isWhat mlX8_199 (kX8_isWhat hO) rfl (by decide) (by decide) dX8_drawn_35 rfl (Nat.le_of_ble_eq_true rfl) (fun r35 t35 h35 => ?_)
        obtain ⟨rfl, ⟨rfl, h35⟩ | ⟨rfl, h35⟩⟩ := h35
        · refine rx_if_ne_t X dX8_drawn_38 (by decide) ?_
          refine rx_aload_n (i := 0) X dX8_drawn_44 rfl rfl ?_
          have hv := hw.V4 h4
          refine rx_callVv (ci := 8) X vsX8_putAside mlX8_190 (kX8_putAside hO) (km_0 hO) rfl rfl (by decide) (by decide) dX8_drawn_45 rfl (Nat.le_of_ble_eq_true rfl) (fun t45 h45 => ?_)
          subst h45
          refine rx_iload_n (i := 2) X dX8_drawn_48 rfl rfl ?_
          refine rx_i2l X dX8_drawn_49 ?_
          refine rx_lstore (i := 4) (lo2 := [(0, .ref _), (1, .int _), (2, .int _), (3, .int _), (4, .long _)]) X dX8_drawn_50 (by decide) rfl ?_
          refine rx_iconst (v := 0) X dX8_drawn_52 (by decide) ?_
          refine rx_istore (i := 6) (lo2 := [(0, .ref _), (1, .int _), (2, .int _), (3, .int _), (4, .long _), (6, .int _)]) X dX8_drawn_53 (by decide) rfl ?_
          exact go q hq h4 hv (by omega)
        · refine rx_if_ne_f X dX8_drawn_38 (by decide) ?_
          refine rx_ldc X dX8_drawn_41 kcX8_73 ?_
          refine rx_iret X dX8_drawn_43 ?_
          refine ⟨?_, fun _ _ _ _ => rfl, rfl⟩
          rw [sp_drawnV]
          rw [if_neg h4, if_pos (by omega)]
      · refine rx_if_eq_t X dX8_drawn_31 (by decide) ?_
        refine rx_ldc X dX8_drawn_41 kcX8_73 ?_
        refine rx_iret X dX8_drawn_43 ?_
        refine ⟨?_, fun _ _ _ _ => rfl, rfl⟩
        rw [sp_drawnV]
        rw [if_neg h4, if_pos (by omega)]
    · refine rx_if_eq_t X dX8_drawn_19 (by decide) ?_
      refine rx_ldc X dX8_drawn_41 kcX8_73 ?_
      refine rx_iret X dX8_drawn_43 ?_
      refine ⟨?_, fun _ _ _ _ => rfl, rfl⟩
      rw [sp_drawnV]
      rw [if_neg h4, if_pos (by omega)]
  · refine rx_ldc X dX8_drawn_7 kcX8_173 ?_
    refine rx_iret X dX8_drawn_9 ?_
    refine ⟨?_, fun _ _ _ _ => rfl, rfl⟩
    rw [sp_drawnV]
    rw [if_pos h4]
