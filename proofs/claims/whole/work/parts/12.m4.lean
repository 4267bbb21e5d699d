/-- the reference's wall: one that stands, or none -/
def mo_W (σ : rx_S) : Prop := (σ.1 0 4 = 1 ∧ w_V 999 (σ.1 4)) ∨ (σ.1 0 4 = 0 ∧ ∀ i, i < 40 → σ.1 4 i = 0)
theorem mo_W.n3 {σ : rx_S} (h : mo_W σ) : 0 ≤ (σ.1 4 3).toInt ∧ (σ.1 4 3).toInt ≤ 6 := by
  rcases h with ⟨-, h⟩ | ⟨-, h⟩
  · have := h.2.2.2.1
    omega
  · rw [h 3 (by decide)]
    decide
theorem mo_W.n2 {σ : rx_S} (h : mo_W σ) : 0 ≤ (σ.1 4 2).toInt ∧ (σ.1 4 2).toInt ≤ 5 := by
  rcases h with ⟨-, h⟩ | ⟨-, h⟩
  · have := h.2.2.1
    omega
  · rw [h 2 (by decide)]
    decide
theorem mo_W.V {σ : rx_S} (h : mo_W σ) (h3 : 0 < (σ.1 4 3).toInt) : w_V 999 (σ.1 4) := by
  rcases h with ⟨-, h⟩ | ⟨-, h⟩
  · exact h
  · rw [h 3 (by decide)] at h3
    exact absurd h3 (by decide)
theorem mo_W.V2 {σ : rx_S} (h : mo_W σ) (h3 : 0 < (σ.1 4 2).toInt) : w_V 999 (σ.1 4) := by
  rcases h with ⟨-, h⟩ | ⟨-, h⟩
  · exact h
  · rw [h 2 (by decide)] at h3
    exact absurd h3 (by decide)
theorem mo_W.V4 {σ : rx_S} (h : mo_W σ) (h3 : ¬ σ.1 0 4 = 0) : w_V 999 (σ.1 4) := by
  rcases h with ⟨-, h⟩ | ⟨h, -⟩
  · exact h
  · exact absurd h h3
abbrev mo_ant (σ : rx_S) (x : Int32) : Prop := 0 ≤ x.toInt ∧ x.toInt < (σ.1 4 3).toInt
theorem w_hi_all {sp : Int32} {w : Nat → Int32} {n i : Nat} (hn : n ≤ 6) (hi : 40 ≤ i) : w_all sp n w i = w i := w_all_n (by omega) (fun a _ => by omega)
theorem w_hi_min {sp inches : Int32} {w : Nat → Int32} {i : Nat} (hw : (w 3).toInt ≤ 6) (h0 : 0 ≤ (w 3).toInt) (hi : 40 ≤ i) : w_min sp inches w i = w i := by
  have := rx_Ni h0
  unfold w_min
  rw [upd_n (by omega), upd_n (by omega), w_hi_all (by omega) hi]
theorem w_hi_one {K : Nat} {sp : Int32} {w : Nat → Int32} {i : Nat} (hv : w_V K w) (hi : 40 ≤ i) : w_one sp w i = w i := w_hi_min hv.2.2.2.1.2 (by have := hv.2.2.2.1.1; omega) hi
theorem w_hi_on {sp : Int32} {i : Nat} (hi : 40 ≤ i) : ∀ {n K : Nat} {w : Nat → Int32}, K + n < 1000000 → w_V K w → w_on sp n w i = w i
  | 0, _, _, _, _ => rfl
  | n + 1, K, w, hK, hv => by
    show w_on sp n (w_one sp w) i = w i
    rw [w_hi_on hi (n := n) (K := K + 1) (by omega) (w_V_one (by omega) hv), w_hi_one hv hi]
section ASK
variable {l : Launch} {O : rx_O} {σ : rx_S} {u : Nat → Int32}
theorem kA_one (hO : mo_O O) {K : Nat} (hv : w_V K u) : rx_MV l O yX8_oneMinute cX8_oneMinute 1 none 4 [.ref 0] (as_st σ u) (fun τ => as_st σ (w_one (σ.1 0 6) u) = τ) := by
  have h := kX8_oneMinute (l := l) hO (σ := as_st σ u) (K := K) (by rw [as_4]; exact hv)
  rw [as_4, as_ne (by decide) (by decide), show rx_ua (as_st σ u) 4 (w_one (σ.1 0 6) u) = as_st σ (w_one (σ.1 0 6) u) by rw [as_st, rx_ua_ua]; rfl] at h
  exact h
theorem kA_on (hO : mo_O O) {K n : Nat} (hn : n < 1000) (hK : K + n < 1000000) (hv : w_V K u) : rx_MV l O yX8_goOn cX8_goOn 3 none 5 [.ref 0, .int (nI n)] (as_st σ u) (fun τ => as_st σ (w_on (σ.1 0 6) n u) = τ) := by
  have h := kX8_goOn (l := l) hO (σ := as_st σ u) (K := K) hn hK (by rw [as_4]; exact hv)
  rw [as_4, as_ne (by decide) (by decide), show rx_ua (as_st σ u) 4 (w_on (σ.1 0 6) n u) = as_st σ (w_on (σ.1 0 6) n u) by rw [as_st, rx_ua_ua]; rfl] at h
  exact h
theorem kA_take (hO : mo_O O) (h : ∀ i, 40 ≤ i → u i = σ.1 4 i) : rx_MV l O yX8_takeBack cX8_takeBack 2 none 0 [.ref 0] (as_st σ u) (fun τ => sp_aside σ = τ) := by
  have h1 := kX8_takeBack (l := l) hO (σ := as_st σ u)
  rw [as_take h] at h1
  exact h1
end ASK
def sp_pull (σ : rx_S) (q v : Int32) : Int32 × rx_S := if ¬ (0 ≤ q.toInt ∧ q.toInt < (σ.1 4 2).toInt) ∨ ¬ (0 ≤ v.toInt ∧ v.toInt ≤ 99) then (-1000001, σ) else (σ.1 4 (5 + rx_N q), rx_u (sp_note σ) 4 (5 + rx_N q) v)
def sp_letGo (σ : rx_S) : Int32 × rx_S := if σ.1 0 4 = 0 then (-1000002, σ) else (w_slack (σ.1 4) 0, rx_ua (sp_note σ) 4 (w_slack (σ.1 4)))
def sp_place (σ : rx_S) (x v : Int32) : Int32 × rx_S := if ¬ mo_ant σ x ∨ ¬ (0 ≤ v.toInt ∧ v.toInt ≤ 99) then (-1000001, σ) else if w_has (σ.1 4 4) (rx_N x) then (-1000002, σ) else (σ.1 4 (34 + rx_N x) / 10000, rx_u (sp_note σ) 4 (34 + rx_N x) (10000 * v))
def sp_step (σ : rx_S) (x v : Int32) : Int32 × rx_S := if ¬ mo_ant σ x ∨ ¬ (1 ≤ v.toInt ∧ v.toInt ≤ 20) then (-1000001, σ) else (σ.1 4 (16 + rx_N x), rx_u (sp_note σ) 4 (16 + rx_N x) v)
def sp_ant (σ : rx_S) (x v : Int32) : Int32 := if ¬ mo_ant σ x then -1000001 else if v = 0 then σ.1 4 (16 + rx_N x) else if v = 1 then σ.1 4 (28 + rx_N x) else if v = 2 then σ.1 4 (34 + rx_N x) else if v = 3 then (if w_has (σ.1 4 4) (rx_N x) then 1 else 0) else if v = 4 then (if w_has (σ.1 4 4) (rx_N x) then 100 else w_gait (σ.1 4) (rx_N x) + 100) else if v = 5 then σ.1 4 (22 + rx_N x) else -1000001
def sp_pulls (σ : rx_S) (k : Int32) : Int32 := if k.toInt < 0 then -1000001 else if k.toInt < (σ.1 4 2).toInt then σ.1 4 (5 + rx_N k) else -1000000
theorem nt_4 (σ : rx_S) : (sp_note σ).1 4 = σ.1 4 := by rw [sp_note, rx_u_ne (by decide), rx_ua_ne (by decide)]
theorem sw6 (v : Int32) : v = 0 ∨ v = 1 ∨ v = 2 ∨ v = 3 ∨ v = 4 ∨ v = 5 ∨ (v.toInt < 0 ∨ 5 < v.toInt) := by
  by_cases h : 0 ≤ v.toInt ∧ v.toInt ≤ 5
  · have e : v.toInt = 0 ∨ v.toInt = 1 ∨ v.toInt = 2 ∨ v.toInt = 3 ∨ v.toInt = 4 ∨ v.toInt = 5 := by omega
    rcases e with e | e | e | e | e | e
    · exact Or.inl (Int32.toInt_inj.mp e)
    · exact Or.inr (Or.inl (Int32.toInt_inj.mp e))
    · exact Or.inr (Or.inr (Or.inl (Int32.toInt_inj.mp e)))
    · exact Or.inr (Or.inr (Or.inr (Or.inl (Int32.toInt_inj.mp e))))
    · exact Or.inr (Or.inr (Or.inr (Or.inr (Or.inl (Int32.toInt_inj.mp e)))))
    · exact Or.inr (Or.inr (Or.inr (Or.inr (Or.inr (Or.inl (Int32.toInt_inj.mp e))))))
  · exact Or.inr (Or.inr (Or.inr (Or.inr (Or.inr (Or.inr (by omega))))))
set_option maxHeartbeats 4000000 in
set_option maxRecDepth 100000 in
theorem kX8_isWhat {l : Launch} {O : rx_O} (hO : mo_O O) {σ : rx_S} {x : Int32} : rx_MI l O yX8_isWhat cX8_isWhat 1 (some .boolean) 1 [.int x] σ (fun r τ => σ = τ ∧ rx_b (0 ≤ x.toInt ∧ x.toInt ≤ 1) r) := by
  refine rx_Met_of (own := RX8) rfl hO.2.1 vsX8_isWhat.2.2.2.2 (Nat.le_of_ble_eq_true rfl) rfl (fun p e s m args below meth c X => ?_)
  refine rx_iload_n (i := 0) X dX8_isWhat_0 rfl rfl ?_
  refine rx_i2l X dX8_isWhat_1 ?_
  refine rx_lconst (v := 0) X dX8_isWhat_2 (by decide) ?_
  refine rx_lconst (v := 1) X dX8_isWhat_3 (by decide) ?_
  refine rx_callTi X vsX8_in mlX8_63 (kX8_inI hO (A := 0) (B := 1) rfl rfl) rfl (by decide) (by decide) dX8_isWhat_4 rfl (Nat.le_of_ble_eq_true rfl) (fun r4 t4 h4 => ?_)
  obtain ⟨rfl, ⟨rfl, h4⟩ | ⟨rfl, h4⟩⟩ := h4
  · refine rx_zret X dX8_isWhat_7 rfl ?_
    exact ⟨rfl, by first | exact Or.inl ⟨rfl, by assumption⟩ | exact Or.inr ⟨rfl, by assumption⟩⟩
  · refine rx_zret X dX8_isWhat_7 rfl ?_
    exact ⟨rfl, by first | exact Or.inl ⟨rfl, by assumption⟩ | exact Or.inr ⟨rfl, by assumption⟩⟩
set_option maxHeartbeats 4000000 in
set_option maxRecDepth 100000 in
theorem kX8_pull {l : Launch} {O : rx_O} (hO : mo_O O) {σ : rx_S} {q v : Int32} (hw : mo_W σ) (h18 : 0 ≤ (σ.1 0 18).toInt ∧ (σ.1 0 18).toInt ≤ 24) : rx_MI l O yX8_pull cX8_pull 4 (some .int) 2 [.ref 0, .int q, .int v] σ (fun r τ => sp_pull σ q v = (r, τ)) := by
  refine rx_Met_of (own := RX8) rfl hO.2.1 vsX8_pull.2.2.2.2.2 (Nat.le_of_ble_eq_true rfl) rfl (fun p e s m args below meth c X => ?_)
  refine rx_iload_n (i := 1) X dX8_pull_0 rfl rfl ?_
  refine rx_i2l X dX8_pull_1 ?_
  refine rx_lconst (v := 0) X dX8_pull_2 (by decide) ?_
  refine rx_aload_n (i := 0) X dX8_pull_3 rfl rfl ?_
  refine rx_getR (ci := 8) (i := 5) X (km_0 hO) rfl rfl (by decide) inX8 flX8_19 dX8_pull_4 ?_
  refine rx_iconst (v := 2) X dX8_pull_7 (by decide) ?_
  refine rx_ialdN (j := 2) X (km_4 hO) hO.2.2.1 rfl (by decide) (by decide) dX8_pull_8 ?_
  refine rx_iconst (v := 1) X dX8_pull_9 (by decide) ?_
  refine rx_isub X dX8_pull_10 ?_
  refine rx_i2l X dX8_pull_11 ?_
  refine rx_callTi X vsX8_in mlX8_63 (kX8_inI hO (A := 0) rfl ((Int32.toInt_toInt64 _).trans (rx_sub1 hw.n2.1))) rfl (by decide) (by decide) dX8_pull_12 rfl (Nat.le_of_ble_eq_true rfl) (fun r12 t12 h12 => ?_)
  obtain ⟨rfl, ⟨rfl, h12⟩ | ⟨rfl, h12⟩⟩ := h12
  · refine rx_if_eq_f X dX8_pull_15 (by decide) ?_
    refine rx_iload_n (i := 2) X dX8_pull_18 rfl rfl ?_
    refine rx_i2l X dX8_pull_19 ?_
    refine rx_lconst (v := 0) X dX8_pull_20 (by decide) ?_
    refine rx_ldc2 X dX8_pull_21 kcX8_179 ?_
    refine rx_callTi X vsX8_in mlX8_63 (kX8_inI hO (A := 0) (B := 99) rfl rfl) rfl (by decide) (by decide) dX8_pull_24 rfl (Nat.le_of_ble_eq_true rfl) (fun r24 t24 h24 => ?_)
    obtain ⟨rfl, ⟨rfl, h24⟩ | ⟨rfl, h24⟩⟩ := h24
    · refine rx_if_ne_t X dX8_pull_27 (by decide) ?_
      refine rx_aload_n (i := 0) X dX8_pull_33 rfl rfl ?_
      refine rx_callVv (ci := 8) X vsX8_note mlX8_176 (kX8_note hO h18) (km_0 hO) rfl rfl (by decide) (by decide) dX8_pull_34 rfl (Nat.le_of_ble_eq_true rfl) (fun t34 h34 => ?_)
      subst h34
      refine rx_aload_n (i := 0) X dX8_pull_37 rfl rfl ?_
      refine rx_getR (ci := 8) (i := 5) X (km_0 hO) rfl rfl (by decide) inX8 flX8_19 dX8_pull_38 ?_
      refine rx_iconst (v := 5) X dX8_pull_41 (by decide) ?_
      refine rx_iload_n (i := 1) X dX8_pull_42 rfl rfl ?_
      refine rx_iadd X dX8_pull_43 ?_
      refine rx_ialdN (j := 5 + rx_N q) X (km_4 hO) hO.2.2.1 (rx_add1 5 h12.1) (by have := rx_Ni h12.1; have := hw.n2; omega) (by decide) dX8_pull_44 ?_
      refine rx_top (congrFun (nt_4 σ) _) ?_
      refine rx_istore_n (i := 3) (lo2 := [(0, .ref _), (1, .int _), (2, .int _), (3, .int _)]) X dX8_pull_45 rfl (by decide) rfl ?_
      refine rx_aload_n (i := 0) X dX8_pull_46 rfl rfl ?_
      refine rx_getR (ci := 8) (i := 5) X (km_0 hO) rfl rfl (by decide) inX8 flX8_19 dX8_pull_47 ?_
      refine rx_iconst (v := 5) X dX8_pull_50 (by decide) ?_
      refine rx_iload_n (i := 1) X dX8_pull_51 rfl rfl ?_
      refine rx_iadd X dX8_pull_52 ?_
      refine rx_iload_n (i := 2) X dX8_pull_53 rfl rfl ?_
      refine rx_iastN (j := 5 + rx_N q) X (km_4 hO) hO.2.2.1 (rx_add1 5 h12.1) (by have := rx_Ni h12.1; have := hw.n2; omega) (by decide) dX8_pull_54 ?_
      refine rx_iload_n (i := 3) X dX8_pull_55 rfl rfl ?_
      refine rx_iret X dX8_pull_56 ?_
      rw [sp_pull]
      first | rw [if_pos (by omega)] | rw [if_neg (by omega)]
    · refine rx_if_ne_f X dX8_pull_27 (by decide) ?_
      refine rx_ldc X dX8_pull_30 kcX8_73 ?_
      refine rx_iret X dX8_pull_32 ?_
      rw [sp_pull]
      first | rw [if_pos (by omega)] | rw [if_neg (by omega)]
  · refine rx_if_eq_t X dX8_pull_15 (by decide) ?_
    refine rx_ldc X dX8_pull_30 kcX8_73 ?_
    refine rx_iret X dX8_pull_32 ?_
    rw [sp_pull]
    first | rw [if_pos (by omega)] | rw [if_neg (by omega)]
set_option maxHeartbeats 4000000 in
set_option maxRecDepth 100000 in
theorem kX8_letGo {l : Launch} {O : rx_O} (hO : mo_O O) {σ : rx_S} (h18 : 0 ≤ (σ.1 0 18).toInt ∧ (σ.1 0 18).toInt ≤ 24) : rx_MI l O yX8_letGo cX8_letGo 1 (some .int) 2 [.ref 0] σ (fun r τ => sp_letGo σ = (r, τ)) := by
  refine rx_Met_of (own := RX8) rfl hO.2.1 vsX8_letGo.2.2.2.2.2 (Nat.le_of_ble_eq_true rfl) rfl (fun p e s m args below meth c X => ?_)
  refine rx_aload_n (i := 0) X dX8_letGo_0 rfl rfl ?_
  refine rx_getZ (ci := 8) (i := 4) X (km_0 hO) rfl rfl (by decide) inX8 flX8_144 dX8_letGo_1 ?_
  refine rx_if_ne X dX8_letGo_4 (fun h4 => ?_) (fun h4 => ?_)
  · refine rx_aload_n (i := 0) X dX8_letGo_10 rfl rfl ?_
    refine rx_callVv (ci := 8) X vsX8_note mlX8_176 (kX8_note hO h18) (km_0 hO) rfl rfl (by decide) (by decide) dX8_letGo_11 rfl (Nat.le_of_ble_eq_true rfl) (fun t11 h11 => ?_)
    subst h11
    refine rx_aload_n (i := 0) X dX8_letGo_14 rfl rfl ?_
    refine rx_callVv (ci := 8) X vsX8_slacken mlX8_181 (kX8_slacken hO) (km_0 hO) rfl rfl (by decide) (by decide) dX8_letGo_15 rfl (Nat.le_of_ble_eq_true rfl) (fun t15 h15 => ?_)
    rw [nt_4] at h15
    subst h15
    refine rx_aload_n (i := 0) X dX8_letGo_18 rfl rfl ?_
    refine rx_getR (ci := 8) (i := 5) X (km_0 hO) rfl rfl (by decide) inX8 flX8_19 dX8_letGo_19 ?_
    refine rx_iconst (v := 0) X dX8_letGo_22 (by decide) ?_
    refine rx_ialdN (j := 0) X (km_4 hO) hO.2.2.1 rfl (by decide) (by decide) dX8_letGo_23 ?_
    refine rx_top (by rw [rx_ua_s]) ?_
    refine rx_iret X dX8_letGo_24 ?_
    rw [sp_letGo]
    first | rw [if_pos h4] | rw [if_neg h4]
  · refine rx_ldc X dX8_letGo_7 kcX8_173 ?_
    refine rx_iret X dX8_letGo_9 ?_
    rw [sp_letGo]
    first | rw [if_pos h4] | rw [if_neg h4]
set_option maxHeartbeats 4000000 in
set_option maxRecDepth 100000 in
theorem kX8_place {l : Launch} {O : rx_O} (hO : mo_O O) {σ : rx_S} {x v : Int32} (hw : mo_W σ) (h18 : 0 ≤ (σ.1 0 18).toInt ∧ (σ.1 0 18).toInt ≤ 24) : rx_MI l O yX8_place cX8_place 4 (some .int) 2 [.ref 0, .int x, .int v] σ (fun r τ => sp_place σ x v = (r, τ)) := by
  refine rx_Met_of (own := RX8) rfl hO.2.1 vsX8_place.2.2.2.2.2 (Nat.le_of_ble_eq_true rfl) rfl (fun p e s m args below meth c X => ?_)
  refine rx_aload_n (i := 0) X dX8_place_0 rfl rfl ?_
  refine rx_iload_n (i := 1) X dX8_place_1 rfl rfl ?_
  refine rx_callVi (ci := 8) X vsX8_isAnt mlX8_184 (kX8_isAnt hO hw.n3.1) (km_0 hO) rfl rfl (by decide) (by decide) dX8_place_2 rfl (Nat.le_of_ble_eq_true rfl) (fun r2 t2 h2 => ?_)
  obtain ⟨rfl, ⟨rfl, h2⟩ | ⟨rfl, h2⟩⟩ := h2
  · obtain ⟨a, ha, rfl⟩ := rx_sub h2.1 (n := 6) (by have := hw.n3; omega)
    refine rx_if_eq_f X dX8_place_5 (by decide) ?_
    refine rx_iload_n (i := 2) X dX8_place_8 rfl rfl ?_
    refine rx_i2l X dX8_place_9 ?_
    refine rx_lconst (v := 0) X dX8_place_10 (by decide) ?_
    refine rx_ldc2 X dX8_place_11 kcX8_179 ?_
    refine rx_callTi X vsX8_in mlX8_63 (kX8_inI hO (A := 0) (B := 99) rfl rfl) rfl (by decide) (by decide) dX8_place_14 rfl (Nat.le_of_ble_eq_true rfl) (fun r14 t14 h14 => ?_)
    obtain ⟨rfl, ⟨rfl, h14⟩ | ⟨rfl, h14⟩⟩ := h14
    · refine rx_if_ne_t X dX8_place_17 (by decide) ?_
      refine rx_aload_n (i := 0) X dX8_place_23 rfl rfl ?_
      refine rx_getR (ci := 8) (i := 5) X (km_0 hO) rfl rfl (by decide) inX8 flX8_19 dX8_place_24 ?_
      refine rx_iconst (v := 4) X dX8_place_27 (by decide) ?_
      refine rx_ialdN (j := 4) X (km_4 hO) hO.2.2.1 rfl (by decide) (by decide) dX8_place_28 ?_
      refine rx_iload_n (i := 1) X dX8_place_29 rfl rfl ?_
      refine rx_callTi X vsX8_has mlX8_159 (kX8_has hO) rfl (by decide) (by decide) dX8_place_30 rfl (Nat.le_of_ble_eq_true rfl) (fun r30 t30 h30 => ?_)
      obtain ⟨rfl, ⟨rfl, h30⟩ | ⟨rfl, h30⟩⟩ := h30
      · refine rx_if_eq_f X dX8_place_33 (by decide) ?_
        refine rx_ldc X dX8_place_36 kcX8_173 ?_
        refine rx_iret X dX8_place_38 ?_
        rw [sp_place]
        first | rw [if_pos (by omega)] | rw [if_neg (by omega), rx_Nn (j := a) (by omega), if_pos h30] | rw [if_neg (by omega), rx_Nn (j := a) (by omega), if_neg h30]
      · refine rx_if_eq_t X dX8_place_33 (by decide) ?_
        refine rx_aload_n (i := 0) X dX8_place_39 rfl rfl ?_
        refine rx_callVv (ci := 8) X vsX8_note mlX8_176 (kX8_note hO h18) (km_0 hO) rfl rfl (by decide) (by decide) dX8_place_40 rfl (Nat.le_of_ble_eq_true rfl) (fun t40 h40 => ?_)
        subst h40
        refine rx_aload_n (i := 0) X dX8_place_43 rfl rfl ?_
        refine rx_getR (ci := 8) (i := 5) X (km_0 hO) rfl rfl (by decide) inX8 flX8_19 dX8_place_44 ?_
        refine rx_bipush (v := 34) X dX8_place_47 (by decide) ?_
        refine rx_iload_n (i := 1) X dX8_place_49 rfl rfl ?_
        refine rx_iadd X dX8_place_50 ?_
        refine rx_ialdN (j := 34 + a) X (km_4 hO) hO.2.2.1 (nI_add 34 a) (by omega) (by decide) dX8_place_51 ?_
        refine rx_top (congrFun (nt_4 σ) _) ?_
        refine rx_sipush (v := 10000) X dX8_place_52 (by decide) ?_
        refine rx_idiv X dX8_place_55 (by decide) ?_
        refine rx_istore_n (i := 3) (lo2 := [(0, .ref _), (1, .int _), (2, .int _), (3, .int _)]) X dX8_place_56 rfl (by decide) rfl ?_
        refine rx_aload_n (i := 0) X dX8_place_57 rfl rfl ?_
        refine rx_getR (ci := 8) (i := 5) X (km_0 hO) rfl rfl (by decide) inX8 flX8_19 dX8_place_58 ?_
        refine rx_bipush (v := 34) X dX8_place_61 (by decide) ?_
        refine rx_iload_n (i := 1) X dX8_place_63 rfl rfl ?_
        refine rx_iadd X dX8_place_64 ?_
        refine rx_sipush (v := 10000) X dX8_place_65 (by decide) ?_
        refine rx_iload_n (i := 2) X dX8_place_68 rfl rfl ?_
        refine rx_imul X dX8_place_69 ?_
        refine rx_iastN (j := 34 + a) X (km_4 hO) hO.2.2.1 (nI_add 34 a) (by omega) (by decide) dX8_place_70 ?_
        refine rx_iload_n (i := 3) X dX8_place_71 rfl rfl ?_
        refine rx_iret X dX8_place_72 ?_
        rw [sp_place]
        first | rw [if_pos (by omega)] | rw [if_neg (by omega), rx_Nn (j := a) (by omega), if_pos h30] | rw [if_neg (by omega), rx_Nn (j := a) (by omega), if_neg h30]
    · refine rx_if_ne_f X dX8_place_17 (by decide) ?_
      refine rx_ldc X dX8_place_20 kcX8_73 ?_
      refine rx_iret X dX8_place_22 ?_
      rw [sp_place]
      first | rw [if_pos (by omega)] | rw [if_neg (by omega), rx_Nn (j := a) (by omega), if_pos h30] | rw [if_neg (by omega), rx_Nn (j := a) (by omega), if_neg h30]
  · refine rx_if_eq_t X dX8_place_5 (by decide) ?_
    refine rx_ldc X dX8_place_20 kcX8_73 ?_
    refine rx_iret X dX8_place_22 ?_
    rw [sp_place]
    first | rw [if_pos (by omega)] | rw [if_neg (by omega), rx_Nn (j := a) (by omega), if_pos h30] | rw [if_neg (by omega), rx_Nn (j := a) (by omega), if_neg h30]
set_option maxHeartbeats 4000000 in
set_option maxRecDepth 100000 in
theorem kX8_step {l : Launch} {O : rx_O} (hO : mo_O O) {σ : rx_S} {x v : Int32} (hw : mo_W σ) (h18 : 0 ≤ (σ.1 0 18).toInt ∧ (σ.1 0 18).toInt ≤ 24) : rx_MI l O yX8_step cX8_step 4 (some .int) 2 [.ref 0, .int x, .int v] σ (fun r τ => sp_step σ x v = (r, τ)) := by
  refine rx_Met_of (own := RX8) rfl hO.2.1 vsX8_step.2.2.2.2.2 (Nat.le_of_ble_eq_true rfl) rfl (fun p e s m args below meth c X => ?_)
  refine rx_aload_n (i := 0) X dX8_step_0 rfl rfl ?_
  refine rx_iload_n (i := 1) X dX8_step_1 rfl rfl ?_
  refine rx_callVi (ci := 8) X vsX8_isAnt mlX8_184 (kX8_isAnt hO hw.n3.1) (km_0 hO) rfl rfl (by decide) (by decide) dX8_step_2 rfl (Nat.le_of_ble_eq_true rfl) (fun r2 t2 h2 => ?_)
  obtain ⟨rfl, ⟨rfl, h2⟩ | ⟨rfl, h2⟩⟩ := h2
  · obtain ⟨a, ha, rfl⟩ := rx_sub h2.1 (n := 6) (by have := hw.n3; omega)
    refine rx_if_eq_f X dX8_step_5 (by decide) ?_
    refine rx_iload_n (i := 2) X dX8_step_8 rfl rfl ?_
    refine rx_i2l X dX8_step_9 ?_
    refine rx_lconst (v := 1) X dX8_step_10 (by decide) ?_
    refine rx_ldc2 X dX8_step_11 kcX8_187 ?_
    refine rx_callTi X vsX8_in mlX8_63 (kX8_inI hO (A := 1) (B := 20) rfl rfl) rfl (by decide) (by decide) dX8_step_14 rfl (Nat.le_of_ble_eq_true rfl) (fun r14 t14 h14 => ?_)
    obtain ⟨rfl, ⟨rfl, h14⟩ | ⟨rfl, h14⟩⟩ := h14
    · refine rx_if_ne_t X dX8_step_17 (by decide) ?_
      refine rx_aload_n (i := 0) X dX8_step_23 rfl rfl ?_
      refine rx_callVv (ci := 8) X vsX8_note mlX8_176 (kX8_note hO h18) (km_0 hO) rfl rfl (by decide) (by decide) dX8_step_24 rfl (Nat.le_of_ble_eq_true rfl) (fun t24 h24 => ?_)
      subst h24
      refine rx_aload_n (i := 0) X dX8_step_27 rfl rfl ?_
      refine rx_getR (ci := 8) (i := 5) X (km_0 hO) rfl rfl (by decide) inX8 flX8_19 dX8_step_28 ?_
      refine rx_bipush (v := 16) X dX8_step_31 (by decide) ?_
      refine rx_iload_n (i := 1) X dX8_step_33 rfl rfl ?_
      refine rx_iadd X dX8_step_34 ?_
      refine rx_ialdN (j := 16 + a) X (km_4 hO) hO.2.2.1 (nI_add 16 a) (by omega) (by decide) dX8_step_35 ?_
      refine rx_top (congrFun (nt_4 σ) _) ?_
      refine rx_istore_n (i := 3) (lo2 := [(0, .ref _), (1, .int _), (2, .int _), (3, .int _)]) X dX8_step_36 rfl (by decide) rfl ?_
      refine rx_aload_n (i := 0) X dX8_step_37 rfl rfl ?_
      refine rx_getR (ci := 8) (i := 5) X (km_0 hO) rfl rfl (by decide) inX8 flX8_19 dX8_step_38 ?_
      refine rx_bipush (v := 16) X dX8_step_41 (by decide) ?_
      refine rx_iload_n (i := 1) X dX8_step_43 rfl rfl ?_
      refine rx_iadd X dX8_step_44 ?_
      refine rx_iload_n (i := 2) X dX8_step_45 rfl rfl ?_
      refine rx_iastN (j := 16 + a) X (km_4 hO) hO.2.2.1 (nI_add 16 a) (by omega) (by decide) dX8_step_46 ?_
      refine rx_iload_n (i := 3) X dX8_step_47 rfl rfl ?_
      refine rx_iret X dX8_step_48 ?_
      rw [sp_step]
      first | rw [if_pos (by omega)] | rw [if_neg (by omega), rx_Nn (j := a) (by omega)]
    · refine rx_if_ne_f X dX8_step_17 (by decide) ?_
      refine rx_ldc X dX8_step_20 kcX8_73 ?_
      refine rx_iret X dX8_step_22 ?_
      rw [sp_step]
      first | rw [if_pos (by omega)] | rw [if_neg (by omega), rx_Nn (j := a) (by omega)]
  · refine rx_if_eq_t X dX8_step_5 (by decide) ?_
    refine rx_ldc X dX8_step_20 kcX8_73 ?_
    refine rx_iret X dX8_step_22 ?_
    rw [sp_step]
    first | rw [if_pos (by omega)] | rw [if_neg (by omega), rx_Nn (j := a) (by omega)]
set_option maxHeartbeats 4000000 in
set_option maxRecDepth 100000 in
theorem kX8_ant {l : Launch} {O : rx_O} (hO : mo_O O) {σ : rx_S} {x v : Int32} (hw : mo_W σ) : rx_MI l O yX8_ant cX8_ant 3 (some .int) 2 [.ref 0, .int x, .int v] σ (fun r τ => sp_ant σ x v = r ∧ σ = τ) := by
  refine rx_Met_of (own := RX8) rfl hO.2.1 vsX8_ant.2.2.2.2.2 (Nat.le_of_ble_eq_true rfl) rfl (fun p e s m args below meth c X => ?_)
  refine rx_aload_n (i := 0) X dX8_ant_0 rfl rfl ?_
  refine rx_iload_n (i := 1) X dX8_ant_1 rfl rfl ?_
  refine rx_callVi (ci := 8) X vsX8_isAnt mlX8_184 (kX8_isAnt hO hw.n3.1) (km_0 hO) rfl rfl (by decide) (by decide) dX8_ant_2 rfl (Nat.le_of_ble_eq_true rfl) (fun r2 t2 h2 => ?_)
  obtain ⟨rfl, ⟨rfl, h2⟩ | ⟨rfl, h2⟩⟩ := h2
  · obtain ⟨a, ha, rfl⟩ := rx_sub h2.1 (n := 6) (by have := hw.n3; omega)
    have hv := hw.V (by omega)
    have n3 := rx_Ni (x := σ.1 4 3) hw.n3.1
    have ia := nI_toInt (n := a) (by omega)
    refine rx_if_ne_t X dX8_ant_5 (by decide) ?_
    refine rx_iload_n (i := 2) X dX8_ant_11 rfl rfl ?_
    rcases sw6 v with rfl | rfl | rfl | rfl | rfl | rfl | hsw
    · refine rx_tableIn (tgt := 52) X dX8_ant_12 (by decide) (by decide) rfl rfl ?_
      refine rx_aload_n (i := 0) X dX8_ant_52 rfl rfl ?_
      refine rx_getR (ci := 8) (i := 5) X (km_0 hO) rfl rfl (by decide) inX8 flX8_19 dX8_ant_53 ?_
      refine rx_bipush (v := 16) X dX8_ant_56 (by decide) ?_
      refine rx_iload_n (i := 1) X dX8_ant_58 rfl rfl ?_
      refine rx_iadd X dX8_ant_59 ?_
      refine rx_ialdN (j := 16 + a) X (km_4 hO) hO.2.2.1 (nI_add 16 a) (by omega) (by decide) dX8_ant_60 ?_
      refine rx_iret X dX8_ant_61 ?_
      refine ⟨?_, rfl⟩
      rw [sp_ant]
      first
        | rw [if_pos (by omega)]
        | (rw [if_neg (by omega), rx_Nn (j := a) (by omega)]; first | (simp; done) | (simp only [w_has, h89]; simp; done) | (simp only [w_has, h108]; simp; done))
        | (have e : ∀ c : Int32, 0 ≤ c.toInt → c.toInt ≤ 5 → ¬ v = c := fun c q1 q2 q => by rw [q] at hsw; omega
           rw [if_neg (by omega), if_neg (e 0 (by decide) (by decide)), if_neg (e 1 (by decide) (by decide)), if_neg (e 2 (by decide) (by decide)), if_neg (e 3 (by decide) (by decide)), if_neg (e 4 (by decide) (by decide)), if_neg (e 5 (by decide) (by decide))])
    · refine rx_tableIn (tgt := 62) X dX8_ant_12 (by decide) (by decide) rfl rfl ?_
      refine rx_aload_n (i := 0) X dX8_ant_62 rfl rfl ?_
      refine rx_getR (ci := 8) (i := 5) X (km_0 hO) rfl rfl (by decide) inX8 flX8_19 dX8_ant_63 ?_
      refine rx_bipush (v := 28) X dX8_ant_66 (by decide) ?_
      refine rx_iload_n (i := 1) X dX8_ant_68 rfl rfl ?_
      refine rx_iadd X dX8_ant_69 ?_
      refine rx_ialdN (j := 28 + a) X (km_4 hO) hO.2.2.1 (nI_add 28 a) (by omega) (by decide) dX8_ant_70 ?_
      refine rx_iret X dX8_ant_71 ?_
      refine ⟨?_, rfl⟩
      rw [sp_ant]
      first
        | rw [if_pos (by omega)]
        | (rw [if_neg (by omega), rx_Nn (j := a) (by omega)]; first | (simp; done) | (simp only [w_has, h89]; simp; done) | (simp only [w_has, h108]; simp; done))
        | (have e : ∀ c : Int32, 0 ≤ c.toInt → c.toInt ≤ 5 → ¬ v = c := fun c q1 q2 q => by rw [q] at hsw; omega
           rw [if_neg (by omega), if_neg (e 0 (by decide) (by decide)), if_neg (e 1 (by decide) (by decide)), if_neg (e 2 (by decide) (by decide)), if_neg (e 3 (by decide) (by decide)), if_neg (e 4 (by decide) (by decide)), if_neg (e 5 (by decide) (by decide))])
    · refine rx_tableIn (tgt := 72) X dX8_ant_12 (by decide) (by decide) rfl rfl ?_
      refine rx_aload_n (i := 0) X dX8_ant_72 rfl rfl ?_
      refine rx_getR (ci := 8) (i := 5) X (km_0 hO) rfl rfl (by decide) inX8 flX8_19 dX8_ant_73 ?_
      refine rx_bipush (v := 34) X dX8_ant_76 (by decide) ?_
      refine rx_iload_n (i := 1) X dX8_ant_78 rfl rfl ?_
      refine rx_iadd X dX8_ant_79 ?_
      refine rx_ialdN (j := 34 + a) X (km_4 hO) hO.2.2.1 (nI_add 34 a) (by omega) (by decide) dX8_ant_80 ?_
      refine rx_iret X dX8_ant_81 ?_
      refine ⟨?_, rfl⟩
      rw [sp_ant]
      first
        | rw [if_pos (by omega)]
        | (rw [if_neg (by omega), rx_Nn (j := a) (by omega)]; first | (simp; done) | (simp only [w_has, h89]; simp; done) | (simp only [w_has, h108]; simp; done))
        | (have e : ∀ c : Int32, 0 ≤ c.toInt → c.toInt ≤ 5 → ¬ v = c := fun c q1 q2 q => by rw [q] at hsw; omega
           rw [if_neg (by omega), if_neg (e 0 (by decide) (by decide)), if_neg (e 1 (by decide) (by decide)), if_neg (e 2 (by decide) (by decide)), if_neg (e 3 (by decide) (by decide)), if_neg (e 4 (by decide) (by decide)), if_neg (e 5 (by decide) (by decide))])
    · refine rx_tableIn (tgt := 82) X dX8_ant_12 (by decide) (by decide) rfl rfl ?_
      refine rx_aload_n (i := 0) X dX8_ant_82 rfl rfl ?_
      refine rx_getR (ci := 8) (i := 5) X (km_0 hO) rfl rfl (by decide) inX8 flX8_19 dX8_ant_83 ?_
      refine rx_iconst (v := 4) X dX8_ant_86 (by decide) ?_
      refine rx_ialdN (j := 4) X (km_4 hO) hO.2.2.1 rfl (by decide) (by decide) dX8_ant_87 ?_
      refine rx_iload_n (i := 1) X dX8_ant_88 rfl rfl ?_
      refine rx_callTi X vsX8_has mlX8_159 (kX8_has hO) rfl (by decide) (by decide) dX8_ant_89 rfl (Nat.le_of_ble_eq_true rfl) (fun r89 t89 h89 => ?_)
      obtain ⟨rfl, ⟨rfl, h89⟩ | ⟨rfl, h89⟩⟩ := h89
      · refine rx_if_eq_f X dX8_ant_92 (by decide) ?_
        refine rx_iconst (v := 1) X dX8_ant_95 (by decide) ?_
        refine rx_goto X dX8_ant_96 ?_
        refine rx_iret X dX8_ant_100 ?_
        refine ⟨?_, rfl⟩
        rw [sp_ant]
        first
          | rw [if_pos (by omega)]
          | (rw [if_neg (by omega), rx_Nn (j := a) (by omega)]; first | (simp; done) | (simp only [w_has, h89]; simp; done) | (simp only [w_has, h108]; simp; done))
          | (have e : ∀ c : Int32, 0 ≤ c.toInt → c.toInt ≤ 5 → ¬ v = c := fun c q1 q2 q => by rw [q] at hsw; omega
             rw [if_neg (by omega), if_neg (e 0 (by decide) (by decide)), if_neg (e 1 (by decide) (by decide)), if_neg (e 2 (by decide) (by decide)), if_neg (e 3 (by decide) (by decide)), if_neg (e 4 (by decide) (by decide)), if_neg (e 5 (by decide) (by decide))])
      · refine rx_if_eq_t X dX8_ant_92 (by decide) ?_
        refine rx_iconst (v := 0) X dX8_ant_99 (by decide) ?_
        refine rx_iret X dX8_ant_100 ?_
        refine ⟨?_, rfl⟩
        rw [sp_ant]
        first
          | rw [if_pos (by omega)]
          | (rw [if_neg (by omega), rx_Nn (j := a) (by omega)]; first | (simp; done) | (simp only [w_has, h89]; simp; done) | (simp only [w_has, h108]; simp; done))
          | (have e : ∀ c : Int32, 0 ≤ c.toInt → c.toInt ≤ 5 → ¬ v = c := fun c q1 q2 q => by rw [q] at hsw; omega
             rw [if_neg (by omega), if_neg (e 0 (by decide) (by decide)), if_neg (e 1 (by decide) (by decide)), if_neg (e 2 (by decide) (by decide)), if_neg (e 3 (by decide) (by decide)), if_neg (e 4 (by decide) (by decide)), if_neg (e 5 (by decide) (by decide))])
    · refine rx_tableIn (tgt := 101) X dX8_ant_12 (by decide) (by decide) rfl rfl ?_
      refine rx_aload_n (i := 0) X dX8_ant_101 rfl rfl ?_
      refine rx_getR (ci := 8) (i := 5) X (km_0 hO) rfl rfl (by decide) inX8 flX8_19 dX8_ant_102 ?_
      refine rx_iconst (v := 4) X dX8_ant_105 (by decide) ?_
      refine rx_ialdN (j := 4) X (km_4 hO) hO.2.2.1 rfl (by decide) (by decide) dX8_ant_106 ?_
      refine rx_iload_n (i := 1) X dX8_ant_107 rfl rfl ?_
      refine rx_callTi X vsX8_has mlX8_159 (kX8_has hO) rfl (by decide) (by decide) dX8_ant_108 rfl (Nat.le_of_ble_eq_true rfl) (fun r108 t108 h108 => ?_)
      obtain ⟨rfl, ⟨rfl, h108⟩ | ⟨rfl, h108⟩⟩ := h108
      · refine rx_if_eq_f X dX8_ant_111 (by decide) ?_
        refine rx_bipush (v := 100) X dX8_ant_114 (by decide) ?_
        refine rx_goto X dX8_ant_116 ?_
        refine rx_iret X dX8_ant_127 ?_
        refine ⟨?_, rfl⟩
        rw [sp_ant]
        first
          | rw [if_pos (by omega)]
          | (rw [if_neg (by omega), rx_Nn (j := a) (by omega)]; first | (simp; done) | (simp only [w_has, h89]; simp; done) | (simp only [w_has, h108]; simp; done))
          | (have e : ∀ c : Int32, 0 ≤ c.toInt → c.toInt ≤ 5 → ¬ v = c := fun c q1 q2 q => by rw [q] at hsw; omega
             rw [if_neg (by omega), if_neg (e 0 (by decide) (by decide)), if_neg (e 1 (by decide) (by decide)), if_neg (e 2 (by decide) (by decide)), if_neg (e 3 (by decide) (by decide)), if_neg (e 4 (by decide) (by decide)), if_neg (e 5 (by decide) (by decide))])
      · refine rx_if_eq_t X dX8_ant_111 (by decide) ?_
        refine rx_aload_n (i := 0) X dX8_ant_119 rfl rfl ?_
        refine rx_iload_n (i := 1) X dX8_ant_120 rfl rfl ?_
        refine rx_callVi (ci := 8) X vsX8_gaitOf mlX8_155 (kX8_gaitOf hO (by omega) (w_ne0 (hv.2.2.2.2.2 a (by omega)).2.2.2.1.1)) (km_0 hO) rfl rfl (by decide) (by decide) dX8_ant_121 rfl (Nat.le_of_ble_eq_true rfl) (fun r121 t121 h121 => ?_)
        obtain ⟨rfl, rfl⟩ := h121
        refine rx_bipush (v := 100) X dX8_ant_124 (by decide) ?_
        refine rx_iadd X dX8_ant_126 ?_
        refine rx_iret X dX8_ant_127 ?_
        refine ⟨?_, rfl⟩
        rw [sp_ant]
        first
          | rw [if_pos (by omega)]
          | (rw [if_neg (by omega), rx_Nn (j := a) (by omega)]; first | (simp; done) | (simp only [w_has, h89]; simp; done) | (simp only [w_has, h108]; simp; done))
          | (have e : ∀ c : Int32, 0 ≤ c.toInt → c.toInt ≤ 5 → ¬ v = c := fun c q1 q2 q => by rw [q] at hsw; omega
             rw [if_neg (by omega), if_neg (e 0 (by decide) (by decide)), if_neg (e 1 (by decide) (by decide)), if_neg (e 2 (by decide) (by decide)), if_neg (e 3 (by decide) (by decide)), if_neg (e 4 (by decide) (by decide)), if_neg (e 5 (by decide) (by decide))])
    · refine rx_tableIn (tgt := 128) X dX8_ant_12 (by decide) (by decide) rfl rfl ?_
      refine rx_aload_n (i := 0) X dX8_ant_128 rfl rfl ?_
      refine rx_getR (ci := 8) (i := 5) X (km_0 hO) rfl rfl (by decide) inX8 flX8_19 dX8_ant_129 ?_
      refine rx_bipush (v := 22) X dX8_ant_132 (by decide) ?_
      refine rx_iload_n (i := 1) X dX8_ant_134 rfl rfl ?_
      refine rx_iadd X dX8_ant_135 ?_
      refine rx_ialdN (j := 22 + a) X (km_4 hO) hO.2.2.1 (nI_add 22 a) (by omega) (by decide) dX8_ant_136 ?_
      refine rx_iret X dX8_ant_137 ?_
      refine ⟨?_, rfl⟩
      rw [sp_ant]
      first
        | rw [if_pos (by omega)]
        | (rw [if_neg (by omega), rx_Nn (j := a) (by omega)]; first | (simp; done) | (simp only [w_has, h89]; simp; done) | (simp only [w_has, h108]; simp; done))
        | (have e : ∀ c : Int32, 0 ≤ c.toInt → c.toInt ≤ 5 → ¬ v = c := fun c q1 q2 q => by rw [q] at hsw; omega
           rw [if_neg (by omega), if_neg (e 0 (by decide) (by decide)), if_neg (e 1 (by decide) (by decide)), if_neg (e 2 (by decide) (by decide)), if_neg (e 3 (by decide) (by decide)), if_neg (e 4 (by decide) (by decide)), if_neg (e 5 (by decide) (by decide))])
    · refine rx_tableOut (tgt := 138) X dX8_ant_12 hsw rfl ?_
      refine rx_ldc X dX8_ant_138 kcX8_73 ?_
      refine rx_iret X dX8_ant_140 ?_
      refine ⟨?_, rfl⟩
      rw [sp_ant]
      first
        | rw [if_pos (by omega)]
        | (rw [if_neg (by omega), rx_Nn (j := a) (by omega)]; first | (simp; done) | (simp only [w_has, h89]; simp; done) | (simp only [w_has, h108]; simp; done))
        | (have e : ∀ c : Int32, 0 ≤ c.toInt → c.toInt ≤ 5 → ¬ v = c := fun c q1 q2 q => by rw [q] at hsw; omega
           rw [if_neg (by omega), if_neg (e 0 (by decide) (by decide)), if_neg (e 1 (by decide) (by decide)), if_neg (e 2 (by decide) (by decide)), if_neg (e 3 (by decide) (by decide)), if_neg (e 4 (by decide) (by decide)), if_neg (e 5 (by decide) (by decide))])
  · refine rx_if_ne_f X dX8_ant_5 (by decide) ?_
    refine rx_ldc X dX8_ant_8 kcX8_73 ?_
    refine rx_iret X dX8_ant_10 ?_
    refine ⟨?_, rfl⟩
    rw [sp_ant]
    first
      | rw [if_pos (by omega)]
      | (rw [if_neg (by omega), rx_Nn (j := a) (by omega)]; first | (simp; done) | (simp only [w_has, h89]; simp; done) | (simp only [w_has, h108]; simp; done))
      | (have e : ∀ c : Int32, 0 ≤ c.toInt → c.toInt ≤ 5 → ¬ v = c := fun c q1 q2 q => by rw [q] at hsw; omega
         rw [if_neg (by omega), if_neg (e 0 (by decide) (by decide)), if_neg (e 1 (by decide) (by decide)), if_neg (e 2 (by decide) (by decide)), if_neg (e 3 (by decide) (by decide)), if_neg (e 4 (by decide) (by decide)), if_neg (e 5 (by decide) (by decide))])
set_option maxHeartbeats 4000000 in
set_option maxRecDepth 100000 in
theorem kX8_pulls {l : Launch} {O : rx_O} (hO : mo_O O) {σ : rx_S} {k : Int32} (hw : mo_W σ) : rx_MI l O yX8_pulls cX8_pulls 2 (some .int) 0 [.ref 0, .int k] σ (fun r τ => sp_pulls σ k = r ∧ σ = τ) := by
  refine rx_Met_of (own := RX8) rfl hO.2.1 vsX8_pulls.2.2.2.2.2 (Nat.le_of_ble_eq_true rfl) rfl (fun p e s m args below meth c X => ?_)
  refine rx_iload_n (i := 1) X dX8_pulls_0 rfl rfl ?_
  refine rx_if_ge X dX8_pulls_1 (fun h1 => ?_) (fun h1 => ?_)
  · try simp only [Int32.lt_iff_toInt_lt, Int32.le_iff_toInt_le, Int32.reduceToInt] at h1
    refine rx_iload_n (i := 1) X dX8_pulls_9 rfl rfl ?_
    refine rx_aload_n (i := 0) X dX8_pulls_10 rfl rfl ?_
    refine rx_getR (ci := 8) (i := 5) X (km_0 hO) rfl rfl (by decide) inX8 flX8_19 dX8_pulls_11 ?_
    refine rx_iconst (v := 2) X dX8_pulls_14 (by decide) ?_
    refine rx_ialdN (j := 2) X (km_4 hO) hO.2.2.1 rfl (by decide) (by decide) dX8_pulls_15 ?_
    refine rx_icmp_ge X dX8_pulls_16 (fun h16 => ?_) (fun h16 => ?_)
    · try simp only [Int32.lt_iff_toInt_lt, Int32.le_iff_toInt_le, Int32.reduceToInt] at h16
      refine rx_ldc X dX8_pulls_30 kcX8_189 ?_
      refine rx_iret X dX8_pulls_32 ?_
      refine ⟨?_, rfl⟩
      rw [sp_pulls]
      first | rw [if_pos (by omega)] | rw [if_neg (by omega), if_pos (by omega)] | rw [if_neg (by omega), if_neg (by omega)]
    · try simp only [Int32.lt_iff_toInt_lt, Int32.le_iff_toInt_le, Int32.reduceToInt] at h16
      refine rx_aload_n (i := 0) X dX8_pulls_19 rfl rfl ?_
      refine rx_getR (ci := 8) (i := 5) X (km_0 hO) rfl rfl (by decide) inX8 flX8_19 dX8_pulls_20 ?_
      refine rx_iconst (v := 5) X dX8_pulls_23 (by decide) ?_
      refine rx_iload_n (i := 1) X dX8_pulls_24 rfl rfl ?_
      refine rx_iadd X dX8_pulls_25 ?_
      refine rx_ialdN (j := 5 + rx_N k) X (km_4 hO) hO.2.2.1 (rx_add1 5 (by omega)) (by have := rx_Ni (x := k) (by omega); have := hw.n2; omega) (by decide) dX8_pulls_26 ?_
      refine rx_goto X dX8_pulls_27 ?_
      refine rx_iret X dX8_pulls_32 ?_
      refine ⟨?_, rfl⟩
      rw [sp_pulls]
      first | rw [if_pos (by omega)] | rw [if_neg (by omega), if_pos (by omega)] | rw [if_neg (by omega), if_neg (by omega)]
  · try simp only [Int32.lt_iff_toInt_lt, Int32.le_iff_toInt_le, Int32.reduceToInt] at h1
    refine rx_ldc X dX8_pulls_4 kcX8_73 ?_
    refine rx_goto X dX8_pulls_6 ?_
    refine rx_iret X dX8_pulls_32 ?_
    refine ⟨?_, rfl⟩
    rw [sp_pulls]
    first | rw [if_pos (by omega)] | rw [if_neg (by omega), if_pos (by omega)] | rw [if_neg (by omega), if_neg (by omega)]
