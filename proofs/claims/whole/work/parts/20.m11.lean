abbrev pz_R : Type := Int32 × Nat × (Nat → Int32)
abbrev pz_pn (N : Nat) (f : Int32) (q : Nat) (rd : Nat → Int32) (σ : rx_S) (r : Int32) (τ : rx_S) : Prop := pz_ok σ τ ∧ ((r = 1 ∧ f = 0 ∧ pz_st N q τ ∧ τ.1 7 = rd) ∨ (r = 0 ∧ ¬ f = 0 ∧ τ.1 0 15 = f ∧ τ.1 0 14 = nI q))
abbrev pz_post (N : Nat) (res : pz_R) (σ : rx_S) (r : Int32) (τ : rx_S) : Prop := pz_pn N res.1 res.2.1 res.2.2 σ r τ
theorem pz_post_of {N q : Nat} {res : pz_R} {f r : Int32} {rd : Nat → Int32} {σ τ : rx_S} (e : res = (f, q, rd)) (h : pz_pn N f q rd σ r τ) : pz_post N res σ r τ := by subst e; exact h
def pz_pull (T : Nat → Int32) (N p : Nat) (rd : Nat → Int32) : pz_R :=
  if rd 2 = 5 ∨ 0 < rd 3 then (if 0 < rd 3 then 1 else 3, p, rd)
  else if (pz_num T N (p + 1) 0 99 59).1 = 0 then (0, (pz_num T N (p + 1) 0 99 59).2.1, upd (upd rd 2 (rd 2 + 1)) (5 + rx_N (rd 2)) (pz_num T N (p + 1) 0 99 59).2.2)
  else ((pz_num T N (p + 1) 0 99 59).1, (pz_num T N (p + 1) 0 99 59).2.1, rd)
def pz_rd (rd : Nat → Int32) (a : Nat) (k v1 v2 v3 : Int32) : Nat → Int32 := upd (upd (upd (upd (upd (upd rd (10 + a) k) 3 (rd 3 + 1)) (16 + a) v1) (22 + a) v2) (34 + a) (10000 * v2)) (28 + a) v3
def pz_ant3 (T : Nat → Int32) (N : Nat) (k : Int32) (rd : Nat → Int32) (v1 v2 : Int32) (n3 : Int32 × Nat × Int32) : pz_R := if n3.1 = 0 then (0, n3.2.1, pz_rd rd (rx_N (rd 3)) k v1 v2 n3.2.2) else (n3.1, n3.2.1, rd)
def pz_ant2 (T : Nat → Int32) (N : Nat) (k : Int32) (rd : Nat → Int32) (v1 : Int32) (n2 : Int32 × Nat × Int32) : pz_R := if n2.1 = 0 then pz_ant3 T N k rd v1 n2.2.2 (pz_num T N n2.2.1 1 9 59) else (n2.1, n2.2.1, rd)
def pz_ant1 (T : Nat → Int32) (N : Nat) (k : Int32) (rd : Nat → Int32) (n1 : Int32 × Nat × Int32) : pz_R := if n1.1 = 0 then pz_ant2 T N k rd n1.2.2 (pz_num T N n1.2.1 0 99 44) else (n1.1, n1.2.1, rd)
def pz_ant (T : Nat → Int32) (N p : Nat) (k : Int32) (rd : Nat → Int32) : pz_R :=
  if rd 3 = 6 ∨ rd 2 = 0 then (if rd 2 = 0 then 1 else 3, p, rd) else pz_ant1 T N k rd (pz_num T N (p + 1) 1 20 44)
def pz_kind (x : Int32) : Int32 := if x = 112 then 1 else if x = 116 then 2 else if x = 113 then 3 else if x = 98 then 4 else if x = 117 then 5 else 0
def pz_item (T : Nat → Int32) (N p : Nat) (rd : Nat → Int32) : pz_R := if p < N ∧ ¬ pz_kind (T p) = 0 then pz_ant T N p (pz_kind (T p)) rd else if pz_c T N p 103 then pz_pull T N p rd else (1, p, rd)
def pz_loop (T : Nat → Int32) (N : Nat) : Nat → Nat → (Nat → Int32) → pz_R
  | 0, p, rd => (1, p, rd)
  | f + 1, p, rd => if pz_tok T N p = 3 ∧ ¬ rd 3 = 0 then (0, p, rd) else if (pz_item T N p rd).1 = 0 then pz_loop T N f (pz_item T N p rd).2.1 (pz_item T N p rd).2.2 else pz_item T N p rd
def pz_z (rd : Nat → Int32) : Nat → Int32 := cpn 40 (fun _ => 0) rd
def pz_wall (T : Nat → Int32) (N : Nat) (rd : Nat → Int32) : pz_R :=
  if ¬ pz_c T N 0 119 then (1, 0, rd) else if (pz_num T N 1 1 99 59).1 = 0 then pz_loop T N (N + 2) (pz_num T N 1 1 99 59).2.1 (upd (pz_z rd) 0 (pz_num T N 1 1 99 59).2.2) else ((pz_num T N 1 1 99 59).1, (pz_num T N 1 1 99 59).2.1, rd)
/-- a number that is fine: its place behind lies further on, its value is as told -/
theorem pz_num_0 {T : Nat → Int32} {N p : Nat} {lo hi sg : Int32} (hp : p ≤ N) (h : (pz_num T N p lo hi sg).1 = 0) : p < (pz_num T N p lo hi sg).2.1 ∧ (pz_num T N p lo hi sg).2.1 ≤ N ∧ lo.toInt ≤ (pz_num T N p lo hi sg).2.2.toInt ∧ (pz_num T N p lo hi sg).2.2.toInt ≤ hi.toInt := by
  unfold pz_num at h ⊢
  split at h
  · exact absurd h n10
  · rename_i h1
    split at h
    · exact absurd h n20
    · rename_i h2
      split at h
      · rename_i h3
        rw [if_neg h1, if_neg h2, if_pos h3]
        have := pz_e_le (T := T) hp
        have hnx : p ≤ pz_nx T N p := by
          unfold pz_nx
          split
          · omega
          · split <;> omega
        have h3' := h3.1
        exact ⟨by show p < pz_nx T N p + 1; omega, by show pz_nx T N p + 1 ≤ N; omega, by show lo.toInt ≤ (pz_val T N p).toInt; omega, by show (pz_val T N p).toInt ≤ hi.toInt; omega⟩
      · exact absurd h n10
theorem pz_st.u7 {N p j : Nat} {v : Int32} {τ : rx_S} (h : pz_st N p τ) : pz_st N p (rx_u τ 7 j v) := by
  unfold pz_st at *
  rw [rx_u_ne (by decide), rx_u_ne (by decide)]
  exact h
theorem kX8_num {l : Launch} {O : rx_O} (hO : mo_O O) {σ : rx_S} {lo hi sg : Int32} {at0 p N : Nat} (hs : pz_st N p σ) (hp : p ≤ N) (hN : N ≤ 120) (hc : pz_lt sg) (hat : at0 < 40) : rx_MI l O yX8_takesNumber cX8_takesNumber 5 (some .boolean) 3 [.ref 0, .int lo, .int hi, .int (nI at0), .int sg] σ (fun r τ => pz_pn N (pz_num (σ.1 6) N p lo hi sg).1 (pz_num (σ.1 6) N p lo hi sg).2.1 (upd (σ.1 7) at0 (pz_num (σ.1 6) N p lo hi sg).2.2) σ r τ) := kX8_takesNumber hO hs hp hN hc hat
set_option maxHeartbeats 4000000 in
set_option maxRecDepth 100000 in
theorem kX8_readPull {l : Launch} {O : rx_O} (hO : mo_O O) {σ : rx_S} {p N : Nat} (hs : pz_st N p σ) (hg : pz_c (σ.1 6) N p 103) (hN : N ≤ 120) (h2 : 0 ≤ (σ.1 7 2).toInt ∧ (σ.1 7 2).toInt ≤ 5) : rx_MI l O yX8_readPull cX8_readPull 2 (some .boolean) 4 [.ref 0] σ (fun r τ => pz_post N (pz_pull (σ.1 6) N p (σ.1 7)) σ r τ) := by
  refine rx_Met_of (own := RX8) rfl hO.2.1 vsX8_readPull.2.2.2.2.2 (Nat.le_of_ble_eq_true rfl) rfl (fun p9 e s m args below meth cd X => ?_)
  refine rx_aload_n (i := 0) X dX8_readPull_0 rfl rfl ?_
  refine rx_getR (ci := 8) (i := 16) X (km_0 hO) rfl rfl (by decide) inX8 flX8_32 dX8_readPull_1 ?_
  refine rx_iconst (v := 2) X dX8_readPull_4 (by decide) ?_
  refine rx_ialdN (j := 2) X (km_7 hO) hO.2.2.1 rfl (by decide) (by decide) dX8_readPull_5 ?_
  refine rx_istore_n (i := 1) (lo2 := [(0, .ref _), (1, .int _)]) X dX8_readPull_6 rfl (by decide) rfl ?_
  refine rx_iload_n (i := 1) X dX8_readPull_7 rfl rfl ?_
  refine rx_iconst (v := 5) X dX8_readPull_8 (by decide) ?_
  refine rx_icmp_eq X dX8_readPull_9 (fun h9 => ?_) (fun h9 => ?_)
  · refine rx_aload_n (i := 0) X dX8_readPull_21 rfl rfl ?_
    refine rx_aload_n (i := 0) X dX8_readPull_22 rfl rfl ?_
    refine rx_getR (ci := 8) (i := 16) X (km_0 hO) rfl rfl (by decide) inX8 flX8_32 dX8_readPull_23 ?_
    refine rx_iconst (v := 3) X dX8_readPull_26 (by decide) ?_
    refine rx_ialdN (j := 3) X (km_7 hO) hO.2.2.1 rfl (by decide) (by decide) dX8_readPull_27 ?_
    refine rx_if_le X dX8_readPull_28 (fun h28 => ?_) (fun h28 => ?_)
    · refine rx_iconst (v := 3) X dX8_readPull_35 (by decide) ?_
      refine rx_callVi (ci := 8) X vsX8_faults mlX8_117 (kX8_faults hO) (km_0 hO) rfl rfl (by decide) (by decide) dX8_readPull_36 rfl (Nat.le_of_ble_eq_true rfl) (fun r36 t36 h36 => ?_)
      obtain ⟨rfl, rfl⟩ := h36
      refine rx_zret X dX8_readPull_39 rfl ?_
      first
        | (have e : (pz_pull (σ.1 6) N p (σ.1 7)) = (if 0 < σ.1 7 3 then 1 else 3, p, σ.1 7) := by
             rw [pz_pull]
             first | rw [if_pos (Or.inl h9)] | rw [if_pos (Or.inr (Int32.not_le.mp h18))]
           rw [e]
           refine ⟨(pz_ok.rf σ).u0 (by decide), Or.inr ⟨rfl, ?_, ?_, by rw [u0n (by decide)]; exact hs.2.1⟩⟩
           · show ¬ (if 0 < σ.1 7 3 then (1 : Int32) else 3) = 0
             split
             · exact n10
             · exact n30
           · rw [u0s]
             show _ = if 0 < σ.1 7 3 then (1 : Int32) else 3
             first | rw [if_neg (Int32.not_lt.mpr h28)] | rw [if_pos (Int32.not_le.mp h28)])
        | (have hno : ¬ (σ.1 7 2 = 5 ∨ 0 < σ.1 7 3) := fun z => z.elim h9 (fun z => absurd z (Int32.not_lt.mpr h18))
           have k0 : pz_ok σ (rx_u t41 7 2 (σ.1 7 2 + 1)) := k1.u7
           rw [k0.t] at z63
           first
             | (rw [k0.t, rx_u_s, k3] at rd63
                rw [k0.t] at st63
                refine ⟨k0.tr ok63, Or.inl ⟨rfl, ?_, ?_, ?_⟩⟩
                · rw [pz_pull, if_neg hno, if_pos z63]
                · rw [pz_pull, if_neg hno, if_pos z63]; exact st63
                · rw [pz_pull, if_neg hno, if_pos z63]; exact rd63)
             | (rw [k0.t] at w63 b63
                refine ⟨k0.tr ok63, Or.inr ⟨rfl, ?_, ?_, ?_⟩⟩
                · rw [pz_pull, if_neg hno, if_neg z63]; exact z63
                · rw [pz_pull, if_neg hno, if_neg z63]; exact w63
                · rw [pz_pull, if_neg hno, if_neg z63]; exact b63))
        | fail "leaf"
    · refine rx_iconst (v := 1) X dX8_readPull_31 (by decide) ?_
      refine rx_goto X dX8_readPull_32 ?_
      refine rx_callVi (ci := 8) X vsX8_faults mlX8_117 (kX8_faults hO) (km_0 hO) rfl rfl (by decide) (by decide) dX8_readPull_36 rfl (Nat.le_of_ble_eq_true rfl) (fun r36 t36 h36 => ?_)
      obtain ⟨rfl, rfl⟩ := h36
      refine rx_zret X dX8_readPull_39 rfl ?_
      first
        | (have e : (pz_pull (σ.1 6) N p (σ.1 7)) = (if 0 < σ.1 7 3 then 1 else 3, p, σ.1 7) := by
             rw [pz_pull]
             first | rw [if_pos (Or.inl h9)] | rw [if_pos (Or.inr (Int32.not_le.mp h18))]
           rw [e]
           refine ⟨(pz_ok.rf σ).u0 (by decide), Or.inr ⟨rfl, ?_, ?_, by rw [u0n (by decide)]; exact hs.2.1⟩⟩
           · show ¬ (if 0 < σ.1 7 3 then (1 : Int32) else 3) = 0
             split
             · exact n10
             · exact n30
           · rw [u0s]
             show _ = if 0 < σ.1 7 3 then (1 : Int32) else 3
             first | rw [if_neg (Int32.not_lt.mpr h28)] | rw [if_pos (Int32.not_le.mp h28)])
        | (have hno : ¬ (σ.1 7 2 = 5 ∨ 0 < σ.1 7 3) := fun z => z.elim h9 (fun z => absurd z (Int32.not_lt.mpr h18))
           have k0 : pz_ok σ (rx_u t41 7 2 (σ.1 7 2 + 1)) := k1.u7
           rw [k0.t] at z63
           first
             | (rw [k0.t, rx_u_s, k3] at rd63
                rw [k0.t] at st63
                refine ⟨k0.tr ok63, Or.inl ⟨rfl, ?_, ?_, ?_⟩⟩
                · rw [pz_pull, if_neg hno, if_pos z63]
                · rw [pz_pull, if_neg hno, if_pos z63]; exact st63
                · rw [pz_pull, if_neg hno, if_pos z63]; exact rd63)
             | (rw [k0.t] at w63 b63
                refine ⟨k0.tr ok63, Or.inr ⟨rfl, ?_, ?_, ?_⟩⟩
                · rw [pz_pull, if_neg hno, if_neg z63]; exact z63
                · rw [pz_pull, if_neg hno, if_neg z63]; exact w63
                · rw [pz_pull, if_neg hno, if_neg z63]; exact b63))
        | fail "leaf"
  · refine rx_aload_n (i := 0) X dX8_readPull_12 rfl rfl ?_
    refine rx_getR (ci := 8) (i := 16) X (km_0 hO) rfl rfl (by decide) inX8 flX8_32 dX8_readPull_13 ?_
    refine rx_iconst (v := 3) X dX8_readPull_16 (by decide) ?_
    refine rx_ialdN (j := 3) X (km_7 hO) hO.2.2.1 rfl (by decide) (by decide) dX8_readPull_17 ?_
    refine rx_if_le X dX8_readPull_18 (fun h18 => ?_) (fun h18 => ?_)
    · refine rx_aload_n (i := 0) X dX8_readPull_40 rfl rfl ?_
      refine rx_callVv (ci := 8) X vsX8_nextToken mlX8_120 (kX8_next hO (p := p + 1) hs.1 (by rw [hs.2.2.2.2, pz_c_nx (by decide) hg]) (by have := hg.1; omega) hN) (km_0 hO) rfl rfl (by decide) (by decide) dX8_readPull_41 rfl (Nat.le_of_ble_eq_true rfl) (fun t41 h41 => ?_)
      obtain ⟨k1, k2, k3⟩ := h41
      refine rx_aload_n (i := 0) X dX8_readPull_44 rfl rfl ?_
      refine rx_getR (ci := 8) (i := 16) X (km_0 hO) rfl rfl (by decide) inX8 flX8_32 dX8_readPull_45 ?_
      refine rx_iconst (v := 2) X dX8_readPull_48 (by decide) ?_
      refine rx_dup2 X dX8_readPull_49 rfl rfl ?_
      refine rx_ialdN (j := 2) X (km_7 hO) hO.2.2.1 rfl (by decide) (by decide) dX8_readPull_50 ?_
      refine rx_top (congrFun k3 2) ?_
      refine rx_iconst (v := 1) X dX8_readPull_51 (by decide) ?_
      refine rx_iadd X dX8_readPull_52 ?_
      refine rx_iastN (j := 2) X (km_7 hO) hO.2.2.1 rfl (by decide) (by decide) dX8_readPull_53 ?_
      refine rx_aload_n (i := 0) X dX8_readPull_54 rfl rfl ?_
      refine rx_iconst (v := 0) X dX8_readPull_55 (by decide) ?_
      refine rx_bipush (v := 99) X dX8_readPull_56 (by decide) ?_
      refine rx_iconst (v := 5) X dX8_readPull_58 (by decide) ?_
      refine rx_iload_n (i := 1) X dX8_readPull_59 rfl rfl ?_
      refine rx_iadd X dX8_readPull_60 ?_
      refine rx_bipush (v := 59) X dX8_readPull_61 (by decide) ?_
      rw [show (5 : Int32) + σ.1 7 2 = nI (5 + rx_N (σ.1 7 2)) from rx_add1 5 h2.1]
      have n2 := rx_Ni h2.1
      refine rx_callVi (ci := 8) X vsX8_takesNumber mlX8_126 (kX8_num hO k2.u7 (by have := hg.1; omega) hN (by decide) (by omega)) (km_0 hO) rfl rfl (by decide) (by decide) dX8_readPull_63 rfl (Nat.le_of_ble_eq_true rfl) (fun r63 t63 h63 => ?_)
      obtain ⟨ok63, ⟨rfl, z63, st63, rd63⟩ | ⟨rfl, z63, w63, b63⟩⟩ := h63
      · refine rx_zret X dX8_readPull_66 rfl ?_
        first
          | (have e : (pz_pull (σ.1 6) N p (σ.1 7)) = (if 0 < σ.1 7 3 then 1 else 3, p, σ.1 7) := by
               rw [pz_pull]
               first | rw [if_pos (Or.inl h9)] | rw [if_pos (Or.inr (Int32.not_le.mp h18))]
             rw [e]
             refine ⟨(pz_ok.rf σ).u0 (by decide), Or.inr ⟨rfl, ?_, ?_, by rw [u0n (by decide)]; exact hs.2.1⟩⟩
             · show ¬ (if 0 < σ.1 7 3 then (1 : Int32) else 3) = 0
               split
               · exact n10
               · exact n30
             · rw [u0s]
               show _ = if 0 < σ.1 7 3 then (1 : Int32) else 3
               first | rw [if_neg (Int32.not_lt.mpr h28)] | rw [if_pos (Int32.not_le.mp h28)])
          | (have hno : ¬ (σ.1 7 2 = 5 ∨ 0 < σ.1 7 3) := fun z => z.elim h9 (fun z => absurd z (Int32.not_lt.mpr h18))
             have k0 : pz_ok σ (rx_u t41 7 2 (σ.1 7 2 + 1)) := k1.u7
             rw [k0.t] at z63
             first
               | (rw [k0.t, rx_u_s, k3] at rd63
                  rw [k0.t] at st63
                  refine ⟨k0.tr ok63, Or.inl ⟨rfl, ?_, ?_, ?_⟩⟩
                  · rw [pz_pull, if_neg hno, if_pos z63]
                  · rw [pz_pull, if_neg hno, if_pos z63]; exact st63
                  · rw [pz_pull, if_neg hno, if_pos z63]; exact rd63)
               | (rw [k0.t] at w63 b63
                  refine ⟨k0.tr ok63, Or.inr ⟨rfl, ?_, ?_, ?_⟩⟩
                  · rw [pz_pull, if_neg hno, if_neg z63]; exact z63
                  · rw [pz_pull, if_neg hno, if_neg z63]; exact w63
                  · rw [pz_pull, if_neg hno, if_neg z63]; exact b63))
          | fail "leaf"
      · refine rx_zret X dX8_readPull_66 rfl ?_
        first
          | (have e : (pz_pull (σ.1 6) N p (σ.1 7)) = (if 0 < σ.1 7 3 then 1 else 3, p, σ.1 7) := by
               rw [pz_pull]
               first | rw [if_pos (Or.inl h9)] | rw [if_pos (Or.inr (Int32.not_le.mp h18))]
             rw [e]
             refine ⟨(pz_ok.rf σ).u0 (by decide), Or.inr ⟨rfl, ?_, ?_, by rw [u0n (by decide)]; exact hs.2.1⟩⟩
             · show ¬ (if 0 < σ.1 7 3 then (1 : Int32) else 3) = 0
               split
               · exact n10
               · exact n30
             · rw [u0s]
               show _ = if 0 < σ.1 7 3 then (1 : Int32) else 3
               first | rw [if_neg (Int32.not_lt.mpr h28)] | rw [if_pos (Int32.not_le.mp h28)])
          | (have hno : ¬ (σ.1 7 2 = 5 ∨ 0 < σ.1 7 3) := fun z => z.elim h9 (fun z => absurd z (Int32.not_lt.mpr h18))
             have k0 : pz_ok σ (rx_u t41 7 2 (σ.1 7 2 + 1)) := k1.u7
             rw [k0.t] at z63
             first
               | (rw [k0.t, rx_u_s, k3] at rd63
                  rw [k0.t] at st63
                  refine ⟨k0.tr ok63, Or.inl ⟨rfl, ?_, ?_, ?_⟩⟩
                  · rw [pz_pull, if_neg hno, if_pos z63]
                  · rw [pz_pull, if_neg hno, if_pos z63]; exact st63
                  · rw [pz_pull, if_neg hno, if_pos z63]; exact rd63)
               | (rw [k0.t] at w63 b63
                  refine ⟨k0.tr ok63, Or.inr ⟨rfl, ?_, ?_, ?_⟩⟩
                  · rw [pz_pull, if_neg hno, if_neg z63]; exact z63
                  · rw [pz_pull, if_neg hno, if_neg z63]; exact w63
                  · rw [pz_pull, if_neg hno, if_neg z63]; exact b63))
          | fail "leaf"
    · refine rx_aload_n (i := 0) X dX8_readPull_21 rfl rfl ?_
      refine rx_aload_n (i := 0) X dX8_readPull_22 rfl rfl ?_
      refine rx_getR (ci := 8) (i := 16) X (km_0 hO) rfl rfl (by decide) inX8 flX8_32 dX8_readPull_23 ?_
      refine rx_iconst (v := 3) X dX8_readPull_26 (by decide) ?_
      refine rx_ialdN (j := 3) X (km_7 hO) hO.2.2.1 rfl (by decide) (by decide) dX8_readPull_27 ?_
      refine rx_if_le X dX8_readPull_28 (fun h28 => ?_) (fun h28 => ?_)
      · refine rx_iconst (v := 3) X dX8_readPull_35 (by decide) ?_
        refine rx_callVi (ci := 8) X vsX8_faults mlX8_117 (kX8_faults hO) (km_0 hO) rfl rfl (by decide) (by decide) dX8_readPull_36 rfl (Nat.le_of_ble_eq_true rfl) (fun r36 t36 h36 => ?_)
        obtain ⟨rfl, rfl⟩ := h36
        refine rx_zret X dX8_readPull_39 rfl ?_
        first
          | (have e : (pz_pull (σ.1 6) N p (σ.1 7)) = (if 0 < σ.1 7 3 then 1 else 3, p, σ.1 7) := by
               rw [pz_pull]
               first | rw [if_pos (Or.inl h9)] | rw [if_pos (Or.inr (Int32.not_le.mp h18))]
             rw [e]
             refine ⟨(pz_ok.rf σ).u0 (by decide), Or.inr ⟨rfl, ?_, ?_, by rw [u0n (by decide)]; exact hs.2.1⟩⟩
             · show ¬ (if 0 < σ.1 7 3 then (1 : Int32) else 3) = 0
               split
               · exact n10
               · exact n30
             · rw [u0s]
               show _ = if 0 < σ.1 7 3 then (1 : Int32) else 3
               first | rw [if_neg (Int32.not_lt.mpr h28)] | rw [if_pos (Int32.not_le.mp h28)])
          | (have hno : ¬ (σ.1 7 2 = 5 ∨ 0 < σ.1 7 3) := fun z => z.elim h9 (fun z => absurd z (Int32.not_lt.mpr h18))
             have k0 : pz_ok σ (rx_u t41 7 2 (σ.1 7 2 + 1)) := k1.u7
             rw [k0.t] at z63
             first
               | (rw [k0.t, rx_u_s, k3] at rd63
                  rw [k0.t] at st63
                  refine ⟨k0.tr ok63, Or.inl ⟨rfl, ?_, ?_, ?_⟩⟩
                  · rw [pz_pull, if_neg hno, if_pos z63]
                  · rw [pz_pull, if_neg hno, if_pos z63]; exact st63
                  · rw [pz_pull, if_neg hno, if_pos z63]; exact rd63)
               | (rw [k0.t] at w63 b63
                  refine ⟨k0.tr ok63, Or.inr ⟨rfl, ?_, ?_, ?_⟩⟩
                  · rw [pz_pull, if_neg hno, if_neg z63]; exact z63
                  · rw [pz_pull, if_neg hno, if_neg z63]; exact w63
                  · rw [pz_pull, if_neg hno, if_neg z63]; exact b63))
          | fail "leaf"
      · refine rx_iconst (v := 1) X dX8_readPull_31 (by decide) ?_
        refine rx_goto X dX8_readPull_32 ?_
        refine rx_callVi (ci := 8) X vsX8_faults mlX8_117 (kX8_faults hO) (km_0 hO) rfl rfl (by decide) (by decide) dX8_readPull_36 rfl (Nat.le_of_ble_eq_true rfl) (fun r36 t36 h36 => ?_)
        obtain ⟨rfl, rfl⟩ := h36
        refine rx_zret X dX8_readPull_39 rfl ?_
        first
          | (have e : (pz_pull (σ.1 6) N p (σ.1 7)) = (if 0 < σ.1 7 3 then 1 else 3, p, σ.1 7) := by
               rw [pz_pull]
               first | rw [if_pos (Or.inl h9)] | rw [if_pos (Or.inr (Int32.not_le.mp h18))]
             rw [e]
             refine ⟨(pz_ok.rf σ).u0 (by decide), Or.inr ⟨rfl, ?_, ?_, by rw [u0n (by decide)]; exact hs.2.1⟩⟩
             · show ¬ (if 0 < σ.1 7 3 then (1 : Int32) else 3) = 0
               split
               · exact n10
               · exact n30
             · rw [u0s]
               show _ = if 0 < σ.1 7 3 then (1 : Int32) else 3
               first | rw [if_neg (Int32.not_lt.mpr h28)] | rw [if_pos (Int32.not_le.mp h28)])
          | (have hno : ¬ (σ.1 7 2 = 5 ∨ 0 < σ.1 7 3) := fun z => z.elim h9 (fun z => absurd z (Int32.not_lt.mpr h18))
             have k0 : pz_ok σ (rx_u t41 7 2 (σ.1 7 2 + 1)) := k1.u7
             rw [k0.t] at z63
             first
               | (rw [k0.t, rx_u_s, k3] at rd63
                  rw [k0.t] at st63
                  refine ⟨k0.tr ok63, Or.inl ⟨rfl, ?_, ?_, ?_⟩⟩
                  · rw [pz_pull, if_neg hno, if_pos z63]
                  · rw [pz_pull, if_neg hno, if_pos z63]; exact st63
                  · rw [pz_pull, if_neg hno, if_pos z63]; exact rd63)
               | (rw [k0.t] at w63 b63
                  refine ⟨k0.tr ok63, Or.inr ⟨rfl, ?_, ?_, ?_⟩⟩
                  · rw [pz_pull, if_neg hno, if_neg z63]; exact z63
                  · rw [pz_pull, if_neg hno, if_neg z63]; exact w63
                  · rw [pz_pull, if_neg hno, if_neg z63]; exact b63))
          | fail "leaf"
