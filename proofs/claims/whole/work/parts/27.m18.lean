theorem od_st {ρ τ : rx_S} {u : Nat → Int32} (h1 : ∀ k, k ≠ 10 → τ.1 k = (as_st ρ u).1 k) (h2 : τ.2 = (as_st ρ u).2) : τ = as_st (rx_ua ρ 10 (τ.1 10)) u := by
  refine Prod.ext (funext fun k => ?_) h2
  by_cases h : k = 10
  · subst h
    rw [as_ne (by decide) (by decide), rx_ua_s]
  · rw [h1 k h]
    by_cases h4 : k = 4
    · subst h4
      rw [as_4, as_4]
    · by_cases h9 : k = 9
      · subst h9
        unfold as_st sp_aside
        rw [rx_ua_ne (by decide), rx_ua_s, rx_ua_ne (by decide), rx_ua_s, rx_ua_ne (k := 10) (by decide), rx_ua_ne (k := 10) (by decide)]
      · rw [as_ne h4 h9, as_ne h4 h9, rx_ua_ne h]
theorem nx_id_at {c p : Nat} (h : p < c) : (nx_id c).getD p 0 = nI p := by
  unfold nx_id
  rw [List.getD_eq_getElem?_getD, List.getElem?_map, List.getElem?_range h]
  rfl
theorem od_loop_0 {sp : Int32} {a c f : Nat} {late b : Int32} {w : Nat → Int32} {L B : List Int32} (hn : nx c L = none) : od_loop sp a late c w (f + 1) L b B = if od_bet late b (od_ab sp a L c 200 0 w) then (od_ab sp a L c 200 0 w, L) else (b, B) := by
  unfold od_loop
  rw [hn]
theorem od_loop_1 {sp : Int32} {a c f : Nat} {late b : Int32} {w : Nat → Int32} {L B M : List Int32} (hn : nx c L = some M) : od_loop sp a late c w (f + 1) L b B = if od_bet late b (od_ab sp a L c 200 0 w) then od_loop sp a late c w f M (od_ab sp a L c 200 0 w) L else od_loop sp a late c w f M b B := by
  conv => lhs; unfold od_loop
  rw [hn]
theorem od_ab_0 {sp : Int32} {a c : Nat} {L : List Int32} : ∀ {f n : Nat} {w : Nat → Int32}, f + n ≤ 1000 → 0 ≤ (od_ab sp a L c f n w).toInt ∧ (od_ab sp a L c f n w).toInt ≤ 1000
  | 0, n, w, h => by
    unfold od_ab
    split
    · rw [nI_toInt (by omega)]
      omega
    · decide
  | f + 1, n, w, h => by
    unfold od_ab
    split
    · rw [nI_toInt (by omega)]
      omega
    · exact od_ab_0 (by omega)
set_option maxHeartbeats 4000000 in
set_option maxRecDepth 100000 in
theorem kX8_order {l : Launch} {O : rx_O} (hO : mo_O O) {σ : rx_S} {x late kk : Int32} (hw : mo_W σ) : rx_MI l O yX8_order cX8_order 9 (some .int) 8 [.ref 0, .int x, .int late, .int kk] σ (fun r τ => r = sp_orderV σ x late kk ∧ mo_sam σ τ) := by
  refine rx_Met_of (own := RX8) rfl hO.2.1 vsX8_order.2.2.2.2.2 (Nat.le_of_ble_eq_true rfl) rfl (fun p e s m args below meth cd X => ?_)
  have go : ∀ (a c : Nat), a < 6 → (1 ≤ c ∧ c ≤ 5) → σ.1 4 2 = nI c → w_V 999 (σ.1 4) → ¬ (¬ mo_ant σ (nI a) ∨ ¬ (0 ≤ late.toInt ∧ late.toInt ≤ 1) ∨ kk.toInt < -1) → ¬ w_has (σ.1 4 4) (rx_N (nI a)) → rx_J O 9 p l e (rx_lv 8) s m args below meth cd (rx_QI O below args s (fun r τ => r = sp_orderV σ (nI a) late kk ∧ mo_sam σ τ)) 54 [(0, .ref 0), (1, .int (nI a)), (2, .int late), (3, .int kk), (4, .int (nI c)), (5, .int 0)] [] (as_st σ (σ.1 4)) := by
    intro a c ha hc hc2 hv hno1 hno2
    have fin : ∀ (ρ : rx_S) (b : Int32) (BB : List Int32), (∀ k, k ≠ 10 → k ≠ 11 → ρ.1 k = σ.1 k) ∧ ρ.2 = σ.2 → nx_is c (ρ.1 11) BB → od_loop (σ.1 0 6) a late c (σ.1 4) 120 (nx_id c) (-1) [] = (b, BB) → rx_J O 9 p l e (rx_lv 8) s m args below meth cd (rx_QI O below args s (fun r τ => r = sp_orderV σ (nI a) late kk ∧ mo_sam σ τ)) 166 [(0, .ref 0), (1, .int (nI a)), (2, .int late), (3, .int kk), (4, .int (nI c)), (5, .int b), (6, .int 0)] [] (as_st ρ (ρ.1 4)) := by
      intro ρ b BB hρ hBB hu
      refine rx_iload_n (i := 3) X dX8_order_166 rfl rfl ?_
      refine rx_if_ge X dX8_order_167 (fun h167 => ?_) (fun h167 => ?_)
      · try simp only [Int32.lt_iff_toInt_lt, Int32.le_iff_toInt_le, Int32.reduceToInt] at h167
        refine rx_iload_n (i := 3) X dX8_order_188 rfl rfl ?_
        refine rx_iload (i := 4) X dX8_order_189 rfl ?_
        refine rx_icmp_ge X dX8_order_191 (fun h191 => ?_) (fun h191 => ?_)
        · try simp only [Int32.lt_iff_toInt_lt, Int32.le_iff_toInt_le, Int32.reduceToInt] at h191
          have ek := nI_toInt (n := c) (by omega)
          refine rx_ldc X dX8_order_203 kcX8_189 ?_
          refine rx_iret X dX8_order_205 ?_
          refine ⟨?_, by rw [show ρ.1 4 = ρ.1 4 from rfl, as_self]; exact od_sam hρ⟩
          rw [sp_orderV, if_neg hno1, if_neg hno2]
          rw [if_neg (by omega), if_neg (by rw [hc2]; omega)]
        · try simp only [Int32.lt_iff_toInt_lt, Int32.le_iff_toInt_le, Int32.reduceToInt] at h191
          have ek := nI_toInt (n := c) (by omega)
          have ekn := rx_Ni (x := kk) (by omega)
          refine rx_aload_n (i := 0) X dX8_order_194 rfl rfl ?_
          refine rx_getR (ci := 8) (i := 21) X (km_0 hO) rfl rfl (by decide) inX8 flX8_44 dX8_order_195 ?_
          refine rx_iload_n (i := 3) X dX8_order_198 rfl rfl ?_
          refine rx_ialdN (j := rx_N kk) X (km_11 hO) hO.2.2.1 (rx_nN (by omega)) (by omega) (by decide) dX8_order_199 ?_
          refine rx_top (congrFun (as_ne (by decide) (by decide)) _) ?_
          refine rx_goto X dX8_order_200 ?_
          refine rx_iret X dX8_order_205 ?_
          refine ⟨?_, by rw [show ρ.1 4 = ρ.1 4 from rfl, as_self]; exact od_sam hρ⟩
          rw [sp_orderV, if_neg hno1, if_neg hno2]
          rw [if_neg (by omega), if_pos (by rw [hc2]; omega), rx_Nn (j := a) (by omega), hc2, rx_Nn (j := c) (by omega), hu]
          exact hBB.2 _ (by omega)
      · try simp only [Int32.lt_iff_toInt_lt, Int32.le_iff_toInt_le, Int32.reduceToInt] at h167
        refine rx_iload (i := 5) X dX8_order_170 rfl ?_
        refine rx_sipush (v := 200) X dX8_order_172 (by decide) ?_
        refine rx_icmp_le X dX8_order_175 (fun h175 => ?_) (fun h175 => ?_)
        · refine rx_iload (i := 5) X dX8_order_183 rfl ?_
          refine rx_goto X dX8_order_185 ?_
          refine rx_iret X dX8_order_205 ?_
          refine ⟨?_, by rw [show ρ.1 4 = ρ.1 4 from rfl, as_self]; exact od_sam hρ⟩
          rw [sp_orderV, if_neg hno1, if_neg hno2]
          rw [if_pos (by omega), rx_Nn (j := a) (by omega), hc2, rx_Nn (j := c) (by omega), hu]
          rw [if_neg (Int32.not_lt.mpr h175)]
        · refine rx_ldc X dX8_order_178 kcX8_189 ?_
          refine rx_goto X dX8_order_180 ?_
          refine rx_iret X dX8_order_205 ?_
          refine ⟨?_, by rw [show ρ.1 4 = ρ.1 4 from rfl, as_self]; exact od_sam hρ⟩
          rw [sp_orderV, if_neg hno1, if_neg hno2]
          rw [if_pos (by omega), rx_Nn (j := a) (by omega), hc2, rx_Nn (j := c) (by omega), hu]
          rw [if_pos (Int32.not_le.mp h175)]
    have loop : ∀ (k : Nat) (ρ : rx_S) (b : Int32) (L B : List Int32), (nx_ok c k L = true) → ((∀ k, k ≠ 10 → k ≠ 11 → ρ.1 k = σ.1 k) ∧ ρ.2 = σ.2) → (nx_is c (ρ.1 10) L) → (b < 0 ∨ (nx_is c (ρ.1 11) B ∧ 0 ≤ b.toInt)) → (od_loop (σ.1 0 6) a late c (σ.1 4) 120 (nx_id c) (-1) [] = od_loop (σ.1 0 6) a late c (σ.1 4) k L b B) → rx_J O 9 p l e (rx_lv 8) s m args below meth cd (rx_QI O below args s (fun r τ => r = sp_orderV σ (nI a) late kk ∧ mo_sam σ τ)) 82 [(0, .ref 0), (1, .int (nI a)), (2, .int late), (3, .int kk), (4, .int (nI c)), (5, .int b), (6, .int 1)] [] (as_st ρ (ρ.1 4)) := by
      intro k
      induction k with
      | zero =>
        intro ρ b L B hok hρ hL hB hu
        exact absurd hok (by simp [nx_ok])
      | succ k ih =>
        intro ρ b L B hok hρ hL hB hu
        have cont : ∀ (ρ2 : rx_S) (b2 v7 x6 : Int32) (B2 : List Int32), ((∀ k, k ≠ 10 → k ≠ 11 → ρ2.1 k = σ.1 k) ∧ ρ2.2 = σ.2) → nx_is c (ρ2.1 10) L → nx_is c (ρ2.1 11) B2 → 0 ≤ b2.toInt → od_loop (σ.1 0 6) a late c (σ.1 4) 120 (nx_id c) (-1) [] = (match nx c L with | none => (b2, B2) | some M => od_loop (σ.1 0 6) a late c (σ.1 4) k M b2 B2) → rx_J O 9 p l e (rx_lv 8) s m args below meth cd (rx_QI O below args s (fun r τ => r = sp_orderV σ (nI a) late kk ∧ mo_sam σ τ)) 155 [(0, .ref 0), (1, .int (nI a)), (2, .int late), (3, .int kk), (4, .int (nI c)), (5, .int b2), (6, .int x6), (7, .int v7)] [] (as_st ρ2 (ρ2.1 4)) := by
          intro ρ2 b2 v7 x6 B2 hρ2 hL hB2 hb2 hr
          refine rx_aload_n (i := 0) X dX8_order_155 rfl rfl ?_
          refine rx_iload (i := 4) X dX8_order_156 rfl ?_
          refine rx_callVi (ci := 8) X vsX8_isNext mlX8_215 (kX8_isNext hO hc (by rw [as_ne (by decide) (by decide)]; exact hL)) (km_0 hO) rfl rfl (by decide) (by decide) dX8_order_158 rfl (Nat.le_of_ble_eq_true rfl) (fun r158 t158 h158 => ?_)
          obtain ⟨q1, q2, ⟨rfl, M, hnM, hM⟩ | ⟨rfl, hn0, rfl⟩⟩ := h158
          · rw [od_st q1 q2]
            refine rx_istore (i := 6) (lo2 := [(0, .ref _), (1, .int _), (2, .int _), (3, .int _), (4, .int _), (5, .int _), (6, .int _), (7, .int _)]) X dX8_order_161 (by decide) rfl ?_
            refine rx_goto X dX8_order_163 ?_
            refine rx_less [0, 1, 2, 3, 4, 5, 6] rfl ?_
            have hρ2 : (∀ k, k ≠ 10 → k ≠ 11 → (rx_ua ρ2 10 (t158.1 10)).1 k = σ.1 k) ∧ (rx_ua ρ2 10 (t158.1 10)).2 = σ.2 := ⟨fun k h1 h2 => by rw [rx_ua_ne h1]; exact hρ2.1 k h1 h2, hρ2.2⟩
            rw [show ρ2.1 4 = (rx_ua ρ2 10 (t158.1 10)).1 4 from (rx_ua_ne (by decide)).symm]
            exact ih _ b2 M B2 (nx_ok_s hok hnM) hρ2 (by rw [rx_ua_s]; exact hM) (Or.inr ⟨by rw [rx_ua_ne (by decide)]; exact hB2, hb2⟩) (by rw [hr, hnM])
          · refine rx_istore (i := 6) (lo2 := [(0, .ref _), (1, .int _), (2, .int _), (3, .int _), (4, .int _), (5, .int _), (6, .int _), (7, .int _)]) X dX8_order_161 (by decide) rfl ?_
            refine rx_goto X dX8_order_163 ?_
            refine rx_iload (i := 6) X dX8_order_82 rfl ?_
            refine rx_if_eq_t X dX8_order_84 (by decide) ?_
            refine rx_less [0, 1, 2, 3, 4, 5, 6] rfl ?_
            exact fin ρ2 b2 B2 hρ2 hB2 (by rw [hr, hn0])
        have cpb : od_bet late b (od_ab (σ.1 0 6) a L c 200 0 (σ.1 4)) → rx_J O 9 p l e (rx_lv 8) s m args below meth cd (rx_QI O below args s (fun r τ => r = sp_orderV σ (nI a) late kk ∧ mo_sam σ τ)) 128 [(0, .ref 0), (1, .int (nI a)), (2, .int late), (3, .int kk), (4, .int (nI c)), (5, .int (od_ab (σ.1 0 6) a L c 200 0 (σ.1 4))), (6, .int 1), (7, .int (od_ab (σ.1 0 6) a L c 200 0 (σ.1 4))), (8, .int 0)] [] (as_st ρ (ρ.1 4)) := by
          intro hbet
          have cpl : ∀ (j : Nat) (p0 : Nat) (xp : Int32) (ρ2 : rx_S), (p0 + j = c) → (xp = nI p0) → ((∀ k, k ≠ 10 → k ≠ 11 → ρ2.1 k = σ.1 k) ∧ ρ2.2 = σ.2) → (nx_is c (ρ2.1 10) L) → (∀ p, p < p0 → ρ2.1 11 p = ρ.1 10 p) → rx_J O 9 p l e (rx_lv 8) s m args below meth cd (rx_QI O below args s (fun r τ => r = sp_orderV σ (nI a) late kk ∧ mo_sam σ τ)) 128 [(0, .ref 0), (1, .int (nI a)), (2, .int late), (3, .int kk), (4, .int (nI c)), (5, .int (od_ab (σ.1 0 6) a L c 200 0 (σ.1 4))), (6, .int 1), (7, .int (od_ab (σ.1 0 6) a L c 200 0 (σ.1 4))), (8, .int xp)] [] (as_st ρ2 (ρ2.1 4)) := by
            intro j
            induction j with
            | zero =>
              intro p0 xp ρ2 hp0 hxp hρ2 hL2 hcp
              subst hxp
              obtain rfl : p0 = c := by omega
              refine rx_iload (i := 8) X dX8_order_128 rfl ?_
              refine rx_iload (i := 4) X dX8_order_130 rfl ?_
              refine rx_icmp_ge_t X dX8_order_132 (Int32.le_refl _) ?_
              refine rx_less [0, 1, 2, 3, 4, 5, 6, 7] rfl ?_
              refine cont ρ2 _ _ _ L hρ2 hL2 ⟨hL.1, fun p hp => by rw [hcp p hp]; exact hL.2 p hp⟩ (od_ab_0 (by decide)).1 ?_
              rw [hu]
              cases hn : nx p0 L with
              | none => rw [od_loop_0 hn, if_pos hbet]
              | some M => rw [od_loop_1 hn, if_pos hbet]
            | succ j ihj =>
              intro p0 xp ρ2 hp0 hxp hρ2 hL2 hcp
              subst hxp
              refine rx_iload (i := 8) X dX8_order_128 rfl ?_
              refine rx_iload (i := 4) X dX8_order_130 rfl ?_
              refine rx_icmp_ge_f X dX8_order_132 (nI_ge (b := c) (by omega) (by omega)) ?_
              refine rx_aload_n (i := 0) X dX8_order_135 rfl rfl ?_
              refine rx_getR (ci := 8) (i := 21) X (km_0 hO) rfl rfl (by decide) inX8 flX8_44 dX8_order_136 ?_
              refine rx_iload (i := 8) X dX8_order_139 rfl ?_
              refine rx_aload_n (i := 0) X dX8_order_141 rfl rfl ?_
              refine rx_getR (ci := 8) (i := 20) X (km_0 hO) rfl rfl (by decide) inX8 flX8_41 dX8_order_142 ?_
              refine rx_iload (i := 8) X dX8_order_145 rfl ?_
              refine rx_ialdN (j := p0) X (km_10 hO) hO.2.2.1 rfl (by omega) (by decide) dX8_order_147 ?_
              refine rx_top (congrFun (as_ne (by decide) (by decide)) _) ?_
              refine rx_iastN (j := p0) X (km_11 hO) hO.2.2.1 rfl (by omega) (by decide) dX8_order_148 ?_
              refine rx_sto (as_uk (by decide) (by decide)) ?_
              refine rx_iinc (i := 8) (lo2 := [(0, .ref _), (1, .int _), (2, .int _), (3, .int _), (4, .int _), (5, .int _), (6, .int _), (7, .int _), (8, .int _)]) X dX8_order_149 rfl (rx_inc1 _) (by decide) rfl ?_
              refine rx_goto X dX8_order_152 ?_
              rw [show ρ2.1 4 = (rx_u ρ2 11 p0 (ρ2.1 10 p0)).1 4 from (rx_u_ne (by decide)).symm]
              refine ihj (p0 + 1) _ _ (by omega) (nI_1 p0) ⟨fun k h1 h2 => by rw [rx_u_ne h2]; exact hρ2.1 k h1 h2, hρ2.2⟩ ?_ ?_
              · rw [rx_u_ne (by decide)]; exact hL2
              · intro q hq
                rw [rx_u_s]
                by_cases e : q = p0
                · subst e
                  rw [upd_s, hL2.2 q (by omega), hL.2 q (by omega)]
                · rw [upd_n e]
                  exact hcp q (by omega)
          exact cpl c 0 _ ρ (by omega) rfl hρ hL (fun p hp => absurd hp (by omega))
        refine rx_iload (i := 6) X dX8_order_82 rfl ?_
        refine rx_if_eq_f X dX8_order_84 (by decide) ?_
        refine rx_aload_n (i := 0) X dX8_order_87 rfl rfl ?_
        refine rx_iload_n (i := 1) X dX8_order_88 rfl rfl ?_
        have hc2ρ : ρ.1 4 2 = nI c := by rw [hρ.1 4 (by decide) (by decide)]; exact hc2
        have hLv := (nx_okb_at (nx_ok_b hok)).2
        refine rx_callVi (ci := 8) X vsX8_arrivesBy mlX8_212 (kA_by hO ha hc hc2ρ hL hLv (by rw [hρ.1 4 (by decide) (by decide)]; exact hv)) (km_0 hO) rfl rfl (by decide) (by decide) dX8_order_89 rfl (Nat.le_of_ble_eq_true rfl) (fun r89 t89 h89 => ?_)
        rw [hρ.1 4 (by decide) (by decide), hρ.1 0 (by decide) (by decide)] at h89
        obtain ⟨rfl, rfl⟩ := h89
        rw [← as_self]
        refine rx_istore (i := 7) (lo2 := [(0, .ref _), (1, .int _), (2, .int _), (3, .int _), (4, .int _), (5, .int _), (6, .int _), (7, .int _)]) X dX8_order_92 (by decide) rfl ?_
        refine rx_iload (i := 5) X dX8_order_94 rfl ?_
        refine rx_if_lt X dX8_order_96 (fun h96 => ?_) (fun h96 => ?_)
        · refine rx_iload (i := 7) X dX8_order_121 rfl ?_
          refine rx_istore (i := 5) (lo2 := [(0, .ref _), (1, .int _), (2, .int _), (3, .int _), (4, .int _), (5, .int _), (6, .int _), (7, .int _)]) X dX8_order_123 (by decide) rfl ?_
          refine rx_iconst (v := 0) X dX8_order_125 (by decide) ?_
          refine rx_istore (i := 8) (lo2 := [(0, .ref _), (1, .int _), (2, .int _), (3, .int _), (4, .int _), (5, .int _), (6, .int _), (7, .int _), (8, .int _)]) X dX8_order_126 (by decide) rfl ?_
          exact cpb (Or.inl h96)
        · refine rx_iload_n (i := 2) X dX8_order_99 rfl rfl ?_
          refine rx_iconst (v := 1) X dX8_order_100 (by decide) ?_
          refine rx_icmp_ne X dX8_order_101 (fun h101 => ?_) (fun h101 => ?_)
          · refine rx_iload (i := 7) X dX8_order_114 rfl ?_
            refine rx_iload (i := 5) X dX8_order_116 rfl ?_
            refine rx_icmp_ge X dX8_order_118 (fun h118 => ?_) (fun h118 => ?_)
            · have hnb : ¬ od_bet late b (od_ab (σ.1 0 6) a L c 200 0 (σ.1 4)) := fun z => z.elim h96 (fun z => z.elim (fun z => h101 z.1) (fun z => absurd z.2 (Int32.not_lt.mpr h118)))
              have hb0 : 0 ≤ b.toInt := by
                have := h96
                simp only [Int32.lt_iff_toInt_lt, Int32.reduceToInt] at this
                omega
              refine cont ρ _ _ _ B hρ hL ((hB.resolve_left h96).1) hb0 ?_
              rw [hu]
              cases hn : nx c L with
              | none => rw [od_loop_0 hn, if_neg hnb]
              | some M => rw [od_loop_1 hn, if_neg hnb]
            · refine rx_iload (i := 7) X dX8_order_121 rfl ?_
              refine rx_istore (i := 5) (lo2 := [(0, .ref _), (1, .int _), (2, .int _), (3, .int _), (4, .int _), (5, .int _), (6, .int _), (7, .int _)]) X dX8_order_123 (by decide) rfl ?_
              refine rx_iconst (v := 0) X dX8_order_125 (by decide) ?_
              refine rx_istore (i := 8) (lo2 := [(0, .ref _), (1, .int _), (2, .int _), (3, .int _), (4, .int _), (5, .int _), (6, .int _), (7, .int _), (8, .int _)]) X dX8_order_126 (by decide) rfl ?_
              exact cpb (Or.inr (Or.inr ⟨h101, Int32.not_le.mp h118⟩))
          · refine rx_iload (i := 7) X dX8_order_104 rfl ?_
            refine rx_iload (i := 5) X dX8_order_106 rfl ?_
            refine rx_icmp_le X dX8_order_108 (fun h108 => ?_) (fun h108 => ?_)
            · have hnb : ¬ od_bet late b (od_ab (σ.1 0 6) a L c 200 0 (σ.1 4)) := fun z => z.elim h96 (fun z => z.elim (fun z => absurd z.2 (Int32.not_lt.mpr h108)) (fun z => z.1 h101))
              have hb0 : 0 ≤ b.toInt := by
                have := h96
                simp only [Int32.lt_iff_toInt_lt, Int32.reduceToInt] at this
                omega
              refine cont ρ _ _ _ B hρ hL ((hB.resolve_left h96).1) hb0 ?_
              rw [hu]
              cases hn : nx c L with
              | none => rw [od_loop_0 hn, if_neg hnb]
              | some M => rw [od_loop_1 hn, if_neg hnb]
            · refine rx_goto X dX8_order_111 ?_
              refine rx_iload (i := 7) X dX8_order_121 rfl ?_
              refine rx_istore (i := 5) (lo2 := [(0, .ref _), (1, .int _), (2, .int _), (3, .int _), (4, .int _), (5, .int _), (6, .int _), (7, .int _)]) X dX8_order_123 (by decide) rfl ?_
              refine rx_iconst (v := 0) X dX8_order_125 (by decide) ?_
              refine rx_istore (i := 8) (lo2 := [(0, .ref _), (1, .int _), (2, .int _), (3, .int _), (4, .int _), (5, .int _), (6, .int _), (7, .int _), (8, .int _)]) X dX8_order_126 (by decide) rfl ?_
              exact cpb (Or.inr (Or.inl ⟨h101, Int32.not_le.mp h108⟩))
    have ini : ∀ (k : Nat) (i : Nat) (x : Int32) (ρ : rx_S), (i + k = c) → (x = nI i) → ((∀ k, k ≠ 10 → k ≠ 11 → ρ.1 k = σ.1 k) ∧ ρ.2 = σ.2) → (∀ p, p < i → ρ.1 10 p = nI p) → rx_J O 9 p l e (rx_lv 8) s m args below meth cd (rx_QI O below args s (fun r τ => r = sp_orderV σ (nI a) late kk ∧ mo_sam σ τ)) 54 [(0, .ref 0), (1, .int (nI a)), (2, .int late), (3, .int kk), (4, .int (nI c)), (5, .int x)] [] (as_st ρ (ρ.1 4)) := by
      intro k
      induction k with
      | zero =>
        intro i x ρ hi9 hx hρ hid
        subst hx
        obtain rfl : i = c := by omega
        refine rx_iload (i := 5) X dX8_order_54 rfl ?_
        refine rx_iload (i := 4) X dX8_order_56 rfl ?_
        refine rx_icmp_ge_t X dX8_order_58 (Int32.le_refl _) ?_
        refine rx_iconst (v := -1) X dX8_order_76 (by decide) ?_
        refine rx_istore (i := 5) (lo2 := [(0, .ref _), (1, .int _), (2, .int _), (3, .int _), (4, .int _), (5, .int _)]) X dX8_order_77 (by decide) rfl ?_
        refine rx_iconst (v := 1) X dX8_order_79 (by decide) ?_
        refine rx_istore (i := 6) (lo2 := [(0, .ref _), (1, .int _), (2, .int _), (3, .int _), (4, .int _), (5, .int _), (6, .int _)]) X dX8_order_80 (by decide) rfl ?_
        exact loop 120 ρ _ (nx_id i) [] (nx_id_ok i (by omega) (by omega)) hρ ⟨by simp [nx_id], fun p hp => by rw [hid p hp, nx_id_at hp]⟩ (Or.inl (by decide)) rfl
      | succ k ih =>
        intro i x ρ hi9 hx hρ hid
        subst hx
        refine rx_iload (i := 5) X dX8_order_54 rfl ?_
        refine rx_iload (i := 4) X dX8_order_56 rfl ?_
        refine rx_icmp_ge_f X dX8_order_58 (nI_ge (b := c) (by omega) (by omega)) ?_
        refine rx_aload_n (i := 0) X dX8_order_61 rfl rfl ?_
        refine rx_getR (ci := 8) (i := 20) X (km_0 hO) rfl rfl (by decide) inX8 flX8_41 dX8_order_62 ?_
        refine rx_iload (i := 5) X dX8_order_65 rfl ?_
        refine rx_iload (i := 5) X dX8_order_67 rfl ?_
        refine rx_iastN (j := i) X (km_10 hO) hO.2.2.1 rfl (by omega) (by decide) dX8_order_69 ?_
        refine rx_sto (as_uk (by decide) (by decide)) ?_
        refine rx_iinc (i := 5) (lo2 := [(0, .ref _), (1, .int _), (2, .int _), (3, .int _), (4, .int _), (5, .int _)]) X dX8_order_70 rfl (rx_inc1 _) (by decide) rfl ?_
        refine rx_goto X dX8_order_73 ?_
        rw [show ρ.1 4 = (rx_u ρ 10 i (nI i)).1 4 from (rx_u_ne (by decide)).symm]
        refine ih (i + 1) _ _ (by omega) (nI_1 i) ⟨fun k h1 h2 => by rw [rx_u_ne h1]; exact hρ.1 k h1 h2, hρ.2⟩ ?_
        intro p hp
        rw [rx_u_s]
        by_cases e : p = i
        · subst e
          rw [upd_s]
        · rw [upd_n e]
          exact hid p (by omega)
    exact ini c 0 _ σ (by omega) rfl ⟨fun _ _ _ => rfl, rfl⟩ (fun p hp => absurd hp (by omega))
  refine rx_aload_n (i := 0) X dX8_order_0 rfl rfl ?_
  refine rx_iload_n (i := 1) X dX8_order_1 rfl rfl ?_
  refine rx_callVi (ci := 8) X vsX8_isAnt mlX8_184 (kX8_isAnt hO hw.n3.1) (km_0 hO) rfl rfl (by decide) (by decide) dX8_order_2 rfl (Nat.le_of_ble_eq_true rfl) (fun r2 t2 h2 => ?_)
  obtain ⟨rfl, ⟨rfl, h2⟩ | ⟨rfl, h2⟩⟩ := h2
  · obtain ⟨a, ha, rfl⟩ := rx_sub h2.1 (n := 6) (by have := hw.n3; omega)
    have hv := hw.V (by omega)
    refine rx_if_eq_f X dX8_order_5 (by decide) ?_
    refine rx_iload_n (i := 2) X dX8_order_8 rfl rfl ?_
    refine rx_callTi X vsX8_isWhat mlX8_199 (kX8_isWhat hO) rfl (by decide) (by decide) dX8_order_9 rfl (Nat.le_of_ble_eq_true rfl) (fun r9 t9 h9 => ?_)
    obtain ⟨rfl, ⟨rfl, h9⟩ | ⟨rfl, h9⟩⟩ := h9
    · refine rx_if_eq_f X dX8_order_12 (by decide) ?_
      refine rx_iload_n (i := 3) X dX8_order_15 rfl rfl ?_
      refine rx_iconst (v := -1) X dX8_order_16 (by decide) ?_
      refine rx_icmp_ge X dX8_order_17 (fun h17 => ?_) (fun h17 => ?_)
      · try simp only [Int32.lt_iff_toInt_lt, Int32.le_iff_toInt_le, Int32.reduceToInt] at h17
        refine rx_aload_n (i := 0) X dX8_order_23 rfl rfl ?_
        refine rx_getR (ci := 8) (i := 5) X (km_0 hO) rfl rfl (by decide) inX8 flX8_19 dX8_order_24 ?_
        refine rx_iconst (v := 4) X dX8_order_27 (by decide) ?_
        refine rx_ialdN (j := 4) X (km_4 hO) hO.2.2.1 rfl (by decide) (by decide) dX8_order_28 ?_
        refine rx_top rfl ?_
        refine rx_iload_n (i := 1) X dX8_order_29 rfl rfl ?_
        refine rx_callTi X vsX8_has mlX8_159 (kX8_has hO) rfl (by decide) (by decide) dX8_order_30 rfl (Nat.le_of_ble_eq_true rfl) (fun r30 t30 h30 => ?_)
        obtain ⟨rfl, ⟨rfl, h30⟩ | ⟨rfl, h30⟩⟩ := h30
        · refine rx_if_eq_f X dX8_order_33 (by decide) ?_
          refine rx_ldc X dX8_order_36 kcX8_173 ?_
          refine rx_iret X dX8_order_38 ?_
          refine ⟨?_, fun _ _ _ _ => rfl, rfl⟩
          rw [sp_orderV]
          rw [if_neg (by omega), rx_Nn (j := a) (by omega), if_pos h30]
        · refine rx_if_eq_t X dX8_order_33 (by decide) ?_
          refine rx_aload_n (i := 0) X dX8_order_39 rfl rfl ?_
          refine rx_callVv (ci := 8) X vsX8_putAside mlX8_190 (kX8_putAside hO) (km_0 hO) rfl rfl (by decide) (by decide) dX8_order_40 rfl (Nat.le_of_ble_eq_true rfl) (fun t40 h40 => ?_)
          subst h40
          refine rx_aload_n (i := 0) X dX8_order_43 rfl rfl ?_
          refine rx_getR (ci := 8) (i := 5) X (km_0 hO) rfl rfl (by decide) inX8 flX8_19 dX8_order_44 ?_
          refine rx_iconst (v := 2) X dX8_order_47 (by decide) ?_
          refine rx_ialdN (j := 2) X (km_4 hO) hO.2.2.1 rfl (by decide) (by decide) dX8_order_48 ?_
          refine rx_top (as_rd _ _ _) ?_
          refine rx_istore (i := 4) (lo2 := [(0, .ref _), (1, .int _), (2, .int _), (3, .int _), (4, .int _)]) X dX8_order_49 (by decide) rfl ?_
          refine rx_iconst (v := 0) X dX8_order_51 (by decide) ?_
          refine rx_istore (i := 5) (lo2 := [(0, .ref _), (1, .int _), (2, .int _), (3, .int _), (4, .int _), (5, .int _)]) X dX8_order_52 (by decide) rfl ?_
          have i2 := hv.2.2.1
          have n2 := rx_Ni (x := σ.1 4 2) (by omega)
          have e2 := rx_nN (x := σ.1 4 2) (by omega)
          have hgo := go a (rx_N (σ.1 4 2)) ha (by omega) e2 hv (by omega) (by rw [rx_Nn (j := a) (by omega)]; exact h30)
          rw [← e2] at hgo
          exact hgo
      · try simp only [Int32.lt_iff_toInt_lt, Int32.le_iff_toInt_le, Int32.reduceToInt] at h17
        refine rx_ldc X dX8_order_20 kcX8_73 ?_
        refine rx_iret X dX8_order_22 ?_
        refine ⟨?_, fun _ _ _ _ => rfl, rfl⟩
        rw [sp_orderV]
        rw [if_pos (Or.inr (Or.inr (by omega)))]
    · refine rx_if_eq_t X dX8_order_12 (by decide) ?_
      refine rx_ldc X dX8_order_20 kcX8_73 ?_
      refine rx_iret X dX8_order_22 ?_
      refine ⟨?_, fun _ _ _ _ => rfl, rfl⟩
      rw [sp_orderV]
      rw [if_pos (Or.inr (Or.inl h9))]
  · refine rx_if_eq_t X dX8_order_5 (by decide) ?_
    refine rx_ldc X dX8_order_20 kcX8_73 ?_
    refine rx_iret X dX8_order_22 ?_
    refine ⟨?_, fun _ _ _ _ => rfl, rfl⟩
    rw [sp_orderV]
    rw [if_pos (Or.inl h2)]
