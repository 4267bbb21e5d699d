def nx_okb (c : Nat) (L : List Int32) : Bool := L.length == c && L.all (fun x => decide (0 ≤ x.toInt) && decide (x.toInt < c))
def nx_ok (c : Nat) : Nat → List Int32 → Bool
  | 0, _ => false
  | f + 1, L => nx_okb c L && (match nx c L with
    | none => true
    | some M => nx_ok c f M)
def nx_id (c : Nat) : List Int32 := (List.range c).map nI
theorem nx_id_ok : ∀ c, 1 ≤ c → c < 6 → nx_ok c 120 (nx_id c) = true := by
  intro c h1 h2
  have : c = 1 ∨ c = 2 ∨ c = 3 ∨ c = 4 ∨ c = 5 := by omega
  rcases this with rfl | rfl | rfl | rfl | rfl <;> decide +kernel
theorem nx_okb_at {c : Nat} {L : List Int32} (h : nx_okb c L = true) : L.length = c ∧ ∀ p, p < c → 0 ≤ (L.getD p 0).toInt ∧ (L.getD p 0).toInt < c := by
  simp only [nx_okb, Bool.and_eq_true, beq_iff_eq, List.all_eq_true, decide_eq_true_eq] at h
  refine ⟨h.1, fun p hp => ?_⟩
  have hl : p < L.length := by omega
  rw [List.getD_eq_getElem?_getD, List.getElem?_eq_getElem hl]
  exact h.2 _ (List.getElem_mem hl)
theorem nx_ok_s {c f : Nat} {L M : List Int32} (h : nx_ok c (f + 1) L = true) (hn : nx c L = some M) : nx_ok c f M = true := by
  simp only [nx_ok, Bool.and_eq_true, hn] at h
  exact h.2
theorem nx_ok_b {c f : Nat} {L : List Int32} (h : nx_ok c (f + 1) L = true) : nx_okb c L = true := by
  simp only [nx_ok, Bool.and_eq_true] at h
  exact h.1
def od_in (L : List Int32) (c i : Nat) (u : Nat → Int32) : Int32 := u (5 + rx_N (L.getD (i % c) 0))
def od_ab (sp : Int32) (a : Nat) (L : List Int32) (c : Nat) : Nat → Nat → (Nat → Int32) → Int32
  | 0, n, w => if w_has (w 4) a then nI n else 201
  | f + 1, n, w => if w_has (w 4) a then nI n else od_ab sp a L c f (n + 1) (w_min sp (od_in L c n w) w)
abbrev od_bet (late best v : Int32) : Prop := best < 0 ∨ (late = 1 ∧ best < v) ∨ (¬ late = 1 ∧ v < best)
def od_loop (sp : Int32) (a : Nat) (late : Int32) (c : Nat) (w : Nat → Int32) : Nat → List Int32 → Int32 → List Int32 → Int32 × List Int32
  | 0, _, b, B => (b, B)
  | f + 1, L, b, B => match nx c L with
    | none => if od_bet late b (od_ab sp a L c 200 0 w) then (od_ab sp a L c 200 0 w, L) else (b, B)
    | some M => if od_bet late b (od_ab sp a L c 200 0 w) then od_loop sp a late c w f M (od_ab sp a L c 200 0 w) L else od_loop sp a late c w f M b B
def sp_orderV (σ : rx_S) (x late k : Int32) : Int32 :=
  if ¬ mo_ant σ x ∨ ¬ (0 ≤ late.toInt ∧ late.toInt ≤ 1) ∨ k.toInt < -1 then -1000001
  else if w_has (σ.1 4 4) (rx_N x) then -1000002
  else if k.toInt < 0 then (if 200 < (od_loop (σ.1 0 6) (rx_N x) late (rx_N (σ.1 4 2)) (σ.1 4) 120 (nx_id (rx_N (σ.1 4 2))) (-1) []).1 then -1000000 else (od_loop (σ.1 0 6) (rx_N x) late (rx_N (σ.1 4 2)) (σ.1 4) 120 (nx_id (rx_N (σ.1 4 2))) (-1) []).1)
  else if k.toInt < (σ.1 4 2).toInt then (od_loop (σ.1 0 6) (rx_N x) late (rx_N (σ.1 4 2)) (σ.1 4) 120 (nx_id (rx_N (σ.1 4 2))) (-1) []).2.getD (rx_N k) 0
  else -1000000
/-- what nobody asks for may change: the wall put aside, the rows of orders -/
def mo_sam (σ τ : rx_S) : Prop := (∀ k, k ≠ 9 → k ≠ 10 → k ≠ 11 → τ.1 k = σ.1 k) ∧ τ.2 = σ.2
theorem as_uk {σ : rx_S} {u : Nat → Int32} {k i : Nat} {v : Int32} (h4 : k ≠ 4) (h9 : k ≠ 9) : rx_u (as_st σ u) k i v = as_st (rx_u σ k i v) u := by
  have e : ∀ f : Nat → Int32, rx_ua (as_st σ u) k f = as_st (rx_ua σ k f) u := by
    intro f
    unfold as_st sp_aside
    rw [rx_ua_ne (Ne.symm h4), rx_ua_ne (Ne.symm h9), rx_ua_comm _ (Ne.symm h4), rx_ua_comm _ (Ne.symm h9)]
  rw [rx_u_eq, as_ne h4 h9, e]
  rfl
theorem od_sam {σ ρ : rx_S} (h : (∀ k, k ≠ 10 → k ≠ 11 → ρ.1 k = σ.1 k) ∧ ρ.2 = σ.2) : mo_sam σ (sp_aside ρ) := by
  refine ⟨fun k h9 h10 h11 => ?_, h.2⟩
  rw [sp_aside, rx_ua_ne h9]
  exact h.1 k h10 h11
theorem w_min_2 {sp inches : Int32} {w : Nat → Int32} : w_min sp inches w 2 = w 2 := by
  unfold w_min
  rw [upd_n (by decide), upd_n (by decide), w_all_n (by decide) (fun a _ => by omega)]
theorem kA_min {l : Launch} {O : rx_O} (hO : mo_O O) {σ : rx_S} {u : Nat → Int32} {K : Nat} {inches : Int32} (hv : w_V K u) : rx_MV l O yX8_goMinute cX8_goMinute 3 none 3 [.ref 0, .int inches] (as_st σ u) (fun τ => as_st σ (w_min (σ.1 0 6) inches u) = τ) := by
  have h := w_V_goMinute (l := l) hO (σ := as_st σ u) (K := K) (inches := inches) (by rw [as_4]; exact hv)
  rw [as_4, as_ne (by decide) (by decide), show rx_ua (as_st σ u) 4 (w_min (σ.1 0 6) inches u) = as_st σ (w_min (σ.1 0 6) inches u) by rw [as_st, rx_ua_ua]; rfl] at h
  exact h
set_option maxHeartbeats 4000000 in
set_option maxRecDepth 100000 in
theorem kA_by {l : Launch} {O : rx_O} (hO : mo_O O) {σ : rx_S} {a c : Nat} {L : List Int32} (ha : a < 6) (hc : 1 ≤ c ∧ c ≤ 5) (hc2 : σ.1 4 2 = nI c) (hL : nx_is c (σ.1 10) L) (hLv : ∀ p, p < c → 0 ≤ (L.getD p 0).toInt ∧ (L.getD p 0).toInt < c) (hv : w_V 999 (σ.1 4)) : rx_MI l O yX8_arrivesBy cX8_arrivesBy 3 (some .int) 4 [.ref 0, .int (nI a)] (as_st σ (σ.1 4)) (fun r τ => od_ab (σ.1 0 6) a L c 200 0 (σ.1 4) = r ∧ sp_aside σ = τ) := by
  refine rx_Met_of (own := RX8) rfl hO.2.1 vsX8_arrivesBy.2.2.2.2.2 (Nat.le_of_ble_eq_true rfl) rfl (fun p e s m args below meth cd X => ?_)
  have loop : ∀ (k : Nat) (i K : Nat) (x : Int32) (u : Nat → Int32), (i + k = 200) → (x = nI i) → (K + k < 1000000) → (w_V K u) → (∀ j, 40 ≤ j → u j = σ.1 4 j) → (u 2 = σ.1 4 2) → (od_ab (σ.1 0 6) a L c 200 0 (σ.1 4) = od_ab (σ.1 0 6) a L c k i u) → rx_J O 3 p l e (rx_lv 4) s m args below meth cd (rx_QI O below args s (fun r τ => od_ab (σ.1 0 6) a L c 200 0 (σ.1 4) = r ∧ sp_aside σ = τ)) 2 [(0, .ref 0), (1, .int (nI a)), (2, .int x)] [] (as_st σ u) := by
    intro k
    induction k with
    | zero =>
      intro i K x u hi9 hx hK hv hi40 h2u hu
      subst hx
      obtain rfl : i = 200 := by omega
      refine rx_aload_n (i := 0) X dX8_arrivesBy_2 rfl rfl ?_
      refine rx_getR (ci := 8) (i := 5) X (km_0 hO) rfl rfl (by decide) inX8 flX8_19 dX8_arrivesBy_3 ?_
      refine rx_iconst (v := 4) X dX8_arrivesBy_6 (by decide) ?_
      refine rx_ialdN (j := 4) X (km_4 hO) hO.2.2.1 rfl (by decide) (by decide) dX8_arrivesBy_7 ?_
      refine rx_top (as_rd _ _ _) ?_
      refine rx_iload_n (i := 1) X dX8_arrivesBy_8 rfl rfl ?_
      refine rx_callTi X vsX8_has mlX8_159 (kX8_has hO) rfl (by decide) (by decide) dX8_arrivesBy_9 rfl (Nat.le_of_ble_eq_true rfl) (fun r9 t9 h9 => ?_)
      obtain ⟨rfl, ⟨rfl, h9⟩ | ⟨rfl, h9⟩⟩ := h9
      · refine rx_if_ne_t X dX8_arrivesBy_12 (by decide) ?_
        refine rx_aload_n (i := 0) X dX8_arrivesBy_52 rfl rfl ?_
        refine rx_getR (ci := 8) (i := 5) X (km_0 hO) rfl rfl (by decide) inX8 flX8_19 dX8_arrivesBy_53 ?_
        refine rx_iconst (v := 4) X dX8_arrivesBy_56 (by decide) ?_
        refine rx_ialdN (j := 4) X (km_4 hO) hO.2.2.1 rfl (by decide) (by decide) dX8_arrivesBy_57 ?_
        refine rx_top (as_rd _ _ _) ?_
        refine rx_iload_n (i := 1) X dX8_arrivesBy_58 rfl rfl ?_
        refine rx_callTi X vsX8_has mlX8_159 (kX8_has hO) rfl (by decide) (by decide) dX8_arrivesBy_59 rfl (Nat.le_of_ble_eq_true rfl) (fun r59 t59 h59 => ?_)
        obtain ⟨rfl, ⟨rfl, h59⟩ | ⟨rfl, h59⟩⟩ := h59
        · refine rx_if_eq_f X dX8_arrivesBy_62 (by decide) ?_
          refine rx_iload_n (i := 2) X dX8_arrivesBy_65 rfl rfl ?_
          refine rx_goto X dX8_arrivesBy_66 ?_
          refine rx_istore_n (i := 2) (lo2 := [(0, .ref _), (1, .int _), (2, .int _)]) X dX8_arrivesBy_72 rfl (by decide) rfl ?_
          refine rx_aload_n (i := 0) X dX8_arrivesBy_73 rfl rfl ?_
          refine rx_callVv (ci := 8) X vsX8_takeBack mlX8_196 (kA_take hO hi40) (km_0 hO) rfl rfl (by decide) (by decide) dX8_arrivesBy_74 rfl (Nat.le_of_ble_eq_true rfl) (fun t74 h74 => ?_)
          subst h74
          refine rx_iload_n (i := 2) X dX8_arrivesBy_77 rfl rfl ?_
          refine rx_iret X dX8_arrivesBy_78 ?_
          first
            | exact absurd h9 h59
            | exact absurd h59 h9
            | (refine ⟨?_, rfl⟩; rw [hu, od_ab, if_pos h9])
            | (refine ⟨?_, rfl⟩; rw [hu, od_ab, if_neg h9])
            | fail "leaf"
        · refine rx_if_eq_t X dX8_arrivesBy_62 (by decide) ?_
          refine rx_sipush (v := 201) X dX8_arrivesBy_69 (by decide) ?_
          refine rx_istore_n (i := 2) (lo2 := [(0, .ref _), (1, .int _), (2, .int _)]) X dX8_arrivesBy_72 rfl (by decide) rfl ?_
          refine rx_aload_n (i := 0) X dX8_arrivesBy_73 rfl rfl ?_
          refine rx_callVv (ci := 8) X vsX8_takeBack mlX8_196 (kA_take hO hi40) (km_0 hO) rfl rfl (by decide) (by decide) dX8_arrivesBy_74 rfl (Nat.le_of_ble_eq_true rfl) (fun t74 h74 => ?_)
          subst h74
          refine rx_iload_n (i := 2) X dX8_arrivesBy_77 rfl rfl ?_
          refine rx_iret X dX8_arrivesBy_78 ?_
          first
            | exact absurd h9 h59
            | exact absurd h59 h9
            | (refine ⟨?_, rfl⟩; rw [hu, od_ab, if_pos h9])
            | (refine ⟨?_, rfl⟩; rw [hu, od_ab, if_neg h9])
            | fail "leaf"
      · refine rx_if_ne_f X dX8_arrivesBy_12 (by decide) ?_
        refine rx_iload_n (i := 2) X dX8_arrivesBy_15 rfl rfl ?_
        refine rx_sipush (v := 200) X dX8_arrivesBy_16 (by decide) ?_
        refine rx_icmp_ge_t X dX8_arrivesBy_19 (Int32.le_refl _) ?_
        refine rx_aload_n (i := 0) X dX8_arrivesBy_52 rfl rfl ?_
        refine rx_getR (ci := 8) (i := 5) X (km_0 hO) rfl rfl (by decide) inX8 flX8_19 dX8_arrivesBy_53 ?_
        refine rx_iconst (v := 4) X dX8_arrivesBy_56 (by decide) ?_
        refine rx_ialdN (j := 4) X (km_4 hO) hO.2.2.1 rfl (by decide) (by decide) dX8_arrivesBy_57 ?_
        refine rx_top (as_rd _ _ _) ?_
        refine rx_iload_n (i := 1) X dX8_arrivesBy_58 rfl rfl ?_
        refine rx_callTi X vsX8_has mlX8_159 (kX8_has hO) rfl (by decide) (by decide) dX8_arrivesBy_59 rfl (Nat.le_of_ble_eq_true rfl) (fun r59 t59 h59 => ?_)
        obtain ⟨rfl, ⟨rfl, h59⟩ | ⟨rfl, h59⟩⟩ := h59
        · refine rx_if_eq_f X dX8_arrivesBy_62 (by decide) ?_
          refine rx_iload_n (i := 2) X dX8_arrivesBy_65 rfl rfl ?_
          refine rx_goto X dX8_arrivesBy_66 ?_
          refine rx_istore_n (i := 2) (lo2 := [(0, .ref _), (1, .int _), (2, .int _)]) X dX8_arrivesBy_72 rfl (by decide) rfl ?_
          refine rx_aload_n (i := 0) X dX8_arrivesBy_73 rfl rfl ?_
          refine rx_callVv (ci := 8) X vsX8_takeBack mlX8_196 (kA_take hO hi40) (km_0 hO) rfl rfl (by decide) (by decide) dX8_arrivesBy_74 rfl (Nat.le_of_ble_eq_true rfl) (fun t74 h74 => ?_)
          subst h74
          refine rx_iload_n (i := 2) X dX8_arrivesBy_77 rfl rfl ?_
          refine rx_iret X dX8_arrivesBy_78 ?_
          first
            | exact absurd h9 h59
            | exact absurd h59 h9
            | (refine ⟨?_, rfl⟩; rw [hu, od_ab, if_pos h9])
            | (refine ⟨?_, rfl⟩; rw [hu, od_ab, if_neg h9])
            | fail "leaf"
        · refine rx_if_eq_t X dX8_arrivesBy_62 (by decide) ?_
          refine rx_sipush (v := 201) X dX8_arrivesBy_69 (by decide) ?_
          refine rx_istore_n (i := 2) (lo2 := [(0, .ref _), (1, .int _), (2, .int _)]) X dX8_arrivesBy_72 rfl (by decide) rfl ?_
          refine rx_aload_n (i := 0) X dX8_arrivesBy_73 rfl rfl ?_
          refine rx_callVv (ci := 8) X vsX8_takeBack mlX8_196 (kA_take hO hi40) (km_0 hO) rfl rfl (by decide) (by decide) dX8_arrivesBy_74 rfl (Nat.le_of_ble_eq_true rfl) (fun t74 h74 => ?_)
          subst h74
          refine rx_iload_n (i := 2) X dX8_arrivesBy_77 rfl rfl ?_
          refine rx_iret X dX8_arrivesBy_78 ?_
          first
            | exact absurd h9 h59
            | exact absurd h59 h9
            | (refine ⟨?_, rfl⟩; rw [hu, od_ab, if_pos h9])
            | (refine ⟨?_, rfl⟩; rw [hu, od_ab, if_neg h9])
            | fail "leaf"
    | succ k ih =>
      intro i K x u hi9 hx hK hv hi40 h2u hu
      subst hx
      refine rx_aload_n (i := 0) X dX8_arrivesBy_2 rfl rfl ?_
      refine rx_getR (ci := 8) (i := 5) X (km_0 hO) rfl rfl (by decide) inX8 flX8_19 dX8_arrivesBy_3 ?_
      refine rx_iconst (v := 4) X dX8_arrivesBy_6 (by decide) ?_
      refine rx_ialdN (j := 4) X (km_4 hO) hO.2.2.1 rfl (by decide) (by decide) dX8_arrivesBy_7 ?_
      refine rx_top (as_rd _ _ _) ?_
      refine rx_iload_n (i := 1) X dX8_arrivesBy_8 rfl rfl ?_
      refine rx_callTi X vsX8_has mlX8_159 (kX8_has hO) rfl (by decide) (by decide) dX8_arrivesBy_9 rfl (Nat.le_of_ble_eq_true rfl) (fun r9 t9 h9 => ?_)
      obtain ⟨rfl, ⟨rfl, h9⟩ | ⟨rfl, h9⟩⟩ := h9
      · refine rx_if_ne_t X dX8_arrivesBy_12 (by decide) ?_
        refine rx_aload_n (i := 0) X dX8_arrivesBy_52 rfl rfl ?_
        refine rx_getR (ci := 8) (i := 5) X (km_0 hO) rfl rfl (by decide) inX8 flX8_19 dX8_arrivesBy_53 ?_
        refine rx_iconst (v := 4) X dX8_arrivesBy_56 (by decide) ?_
        refine rx_ialdN (j := 4) X (km_4 hO) hO.2.2.1 rfl (by decide) (by decide) dX8_arrivesBy_57 ?_
        refine rx_top (as_rd _ _ _) ?_
        refine rx_iload_n (i := 1) X dX8_arrivesBy_58 rfl rfl ?_
        refine rx_callTi X vsX8_has mlX8_159 (kX8_has hO) rfl (by decide) (by decide) dX8_arrivesBy_59 rfl (Nat.le_of_ble_eq_true rfl) (fun r59 t59 h59 => ?_)
        obtain ⟨rfl, ⟨rfl, h59⟩ | ⟨rfl, h59⟩⟩ := h59
        · refine rx_if_eq_f X dX8_arrivesBy_62 (by decide) ?_
          refine rx_iload_n (i := 2) X dX8_arrivesBy_65 rfl rfl ?_
          refine rx_goto X dX8_arrivesBy_66 ?_
          refine rx_istore_n (i := 2) (lo2 := [(0, .ref _), (1, .int _), (2, .int _)]) X dX8_arrivesBy_72 rfl (by decide) rfl ?_
          refine rx_aload_n (i := 0) X dX8_arrivesBy_73 rfl rfl ?_
          refine rx_callVv (ci := 8) X vsX8_takeBack mlX8_196 (kA_take hO hi40) (km_0 hO) rfl rfl (by decide) (by decide) dX8_arrivesBy_74 rfl (Nat.le_of_ble_eq_true rfl) (fun t74 h74 => ?_)
          subst h74
          refine rx_iload_n (i := 2) X dX8_arrivesBy_77 rfl rfl ?_
          refine rx_iret X dX8_arrivesBy_78 ?_
          refine ⟨?_, rfl⟩
          rw [hu, od_ab, if_pos h9]
        · exact absurd h9 h59
      · refine rx_if_ne_f X dX8_arrivesBy_12 (by decide) ?_
        refine rx_iload_n (i := 2) X dX8_arrivesBy_15 rfl rfl ?_
        refine rx_sipush (v := 200) X dX8_arrivesBy_16 (by decide) ?_
        refine rx_icmp_ge_f X dX8_arrivesBy_19 (nI_ge (b := 200) (by omega) (by decide)) ?_
        refine rx_aload_n (i := 0) X dX8_arrivesBy_22 rfl rfl ?_
        refine rx_aload_n (i := 0) X dX8_arrivesBy_23 rfl rfl ?_
        refine rx_getR (ci := 8) (i := 5) X (km_0 hO) rfl rfl (by decide) inX8 flX8_19 dX8_arrivesBy_24 ?_
        refine rx_iconst (v := 5) X dX8_arrivesBy_27 (by decide) ?_
        refine rx_aload_n (i := 0) X dX8_arrivesBy_28 rfl rfl ?_
        refine rx_getR (ci := 8) (i := 20) X (km_0 hO) rfl rfl (by decide) inX8 flX8_41 dX8_arrivesBy_29 ?_
        refine rx_iload_n (i := 2) X dX8_arrivesBy_32 rfl rfl ?_
        refine rx_aload_n (i := 0) X dX8_arrivesBy_33 rfl rfl ?_
        refine rx_getR (ci := 8) (i := 5) X (km_0 hO) rfl rfl (by decide) inX8 flX8_19 dX8_arrivesBy_34 ?_
        refine rx_iconst (v := 2) X dX8_arrivesBy_37 (by decide) ?_
        refine rx_ialdN (j := 2) X (km_4 hO) hO.2.2.1 rfl (by decide) (by decide) dX8_arrivesBy_38 ?_
        refine rx_top ((as_rd _ _ _).trans (h2u.trans hc2)) ?_
        refine rx_irem X dX8_arrivesBy_39 (nI_ne0 (by omega) (by omega)) ?_
        have hmod : i % c < c := Nat.mod_lt _ (by omega)
        refine rx_ialdN (j := i % c) X (km_10 hO) hO.2.2.1 (pk_rem (by omega) (by omega) (by omega)) (by omega) (by decide) dX8_arrivesBy_40 ?_
        refine rx_top ((congrFun (as_ne (by decide) (by decide)) _).trans (hL.2 _ hmod)) ?_
        refine rx_iadd X dX8_arrivesBy_41 ?_
        have hlv := hLv (i % c) hmod
        have hln := rx_Ni hlv.1
        refine rx_ialdN (j := 5 + rx_N (L.getD (i % c) 0)) X (km_4 hO) hO.2.2.1 (rx_add1 5 hlv.1) (by omega) (by decide) dX8_arrivesBy_42 ?_
        refine rx_top (as_rd _ _ _) ?_
        refine rx_callVv (ci := 8) X vsX8_goMinute mlX8_167 (kA_min hO hv) (km_0 hO) rfl rfl (by decide) (by decide) dX8_arrivesBy_43 rfl (Nat.le_of_ble_eq_true rfl) (fun t43 h43 => ?_)
        subst h43
        refine rx_iinc (i := 2) (lo2 := [(0, .ref _), (1, .int _), (2, .int _)]) X dX8_arrivesBy_46 rfl (rx_inc1 _) (by decide) rfl ?_
        refine rx_goto X dX8_arrivesBy_49 ?_
        have hin : 0 ≤ (u (5 + rx_N (L.getD (i % c) 0))).toInt ∧ (u (5 + rx_N (L.getD (i % c) 0))).toInt ≤ 99 := hv.2.2.2.2.1 _ (by rw [h2u, hc2, rx_Nn (by omega)]; omega)
        refine ih (i + 1) (K + 1) _ _ (by omega) (nI_1 i) (by omega) (w_V_min (by omega) hv hin) (fun j hj => (w_hi_min hv.2.2.2.1.2 (by have := hv.2.2.2.1.1; omega) hj).trans (hi40 j hj)) (w_min_2.trans h2u) ?_
        rw [hu]
        conv => lhs; rw [od_ab, if_neg h9, od_in]
  refine rx_iconst (v := 0) X dX8_arrivesBy_0 (by decide) ?_
  refine rx_istore_n (i := 2) (lo2 := [(0, .ref _), (1, .int _), (2, .int _)]) X dX8_arrivesBy_1 rfl (by decide) rfl ?_
  exact loop 200 0 999 _ _ rfl rfl (by omega) hv (fun _ _ => rfl) rfl rfl
