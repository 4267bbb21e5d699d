theorem kc_rel : ∀ {r : Nat}, r < 8 → [12, 13, 14, 15, 16, 17, 18, 19][r]? = some (12 + r) := by
  intro r hr
  have : r = 0 ∨ r = 1 ∨ r = 2 ∨ r = 3 ∨ r = 4 ∨ r = 5 ∨ r = 6 ∨ r = 7 := by omega
  rcases this with rfl | rfl | rfl | rfl | rfl | rfl | rfl | rfl <;> rfl
theorem kc_iel : ∀ {r : Nat}, r < 2 → [258, 267][r]? = some (258 + 9 * r) := by
  intro r hr
  have : r = 0 ∨ r = 1 := by omega
  rcases this with rfl | rfl <;> rfl
abbrev cb_ant (O : rx_O) (c : Nat) : Prop := O.1[c]? = some (.inl (1, [0, 0, 0, 0, 0, 1]))
/-! one ant: kind, step, from, rest, part, arrived -/
abbrev a_nail (α : Nat → Int32) (m : Int32) : Prop := α 0 = 4 ∨ (α 0 = 5 ∧ m < 10 * α 3)
def a_gait (α : Nat → Int32) (m : Int32) : Int32 := if a_nail α m then -α 1 else if α 0 = 2 ∧ 0 < α 3 ∧ m - m / α 3 * α 3 = 0 then 0 else if α 0 = 3 then α 1 + α 4 / 100000 else α 1
def a_part (α : Nat → Int32) (m L : Int32) : Int32 := α 4 + a_gait α m * 1000000 / L
def a_go (α : Nat → Int32) (m L : Int32) : Nat → Int32 := if ¬ α 5 = 0 ∨ L < 1 then α else if a_part α m L ≤ 0 ∧ a_nail α m then upd (upd α 4 0) 5 1 else if 1000000 ≤ a_part α m L ∧ ¬ a_nail α m then upd (upd α 4 1000000) 5 1 else upd α 4 (a_part α m L)
def a_tell (α : Nat → Int32) (k st fr re : Int32) : Nat → Int32 := upd (upd (upd (upd (upd (upd α 0 k) 1 st) 2 fr) 3 re) 4 (fr * 10000)) 5 0
def a_take (α β : Nat → Int32) : Nat → Int32 := upd (upd (upd (upd (upd (upd α 0 (β 0)) 1 (β 1)) 2 (β 2)) 3 (β 3)) 4 (β 4)) 5 (β 5)
set_option maxHeartbeats 4000000 in
set_option maxRecDepth 100000 in
theorem kX1_goesToNail {l : Launch} {O : rx_O} (hO : cb_O O) {σ : rx_S} {c0 : Nat} {mi : Int32} (hc : cb_ant O c0) : rx_MI l O yX1_goesToNail cX1_goesToNail 2 (some .boolean) 0 [.ref c0, .int mi] σ (fun r τ => σ = τ ∧ rx_b (a_nail (σ.1 c0) mi) r) := by
  refine rx_Met_of (own := RX1) rfl hO.2.1 vsX1_goesToNail.2.2.2.2.2 (Nat.le_of_ble_eq_true rfl) rfl (fun p e s m args below meth c X => ?_)
  refine rx_aload_n (i := 0) X dX1_goesToNail_0 rfl rfl ?_
  refine rx_getI (ci := 1) (i := 0) X hc rfl rfl (by decide) inX1 flX1_7 dX1_goesToNail_1 ?_
  refine rx_iconst (v := 4) X dX1_goesToNail_4 (by decide) ?_
  refine rx_icmp_eq X dX1_goesToNail_5 (fun h5 => ?_) (fun h5 => ?_)
  · refine rx_iconst (v := 1) X dX1_goesToNail_27 (by decide) ?_
    refine rx_goto X dX1_goesToNail_28 ?_
    refine rx_zret X dX1_goesToNail_32 rfl ?_
    exact ⟨rfl, Or.inl ⟨rfl, Or.inl h5⟩⟩
  · refine rx_aload_n (i := 0) X dX1_goesToNail_8 rfl rfl ?_
    refine rx_getI (ci := 1) (i := 0) X hc rfl rfl (by decide) inX1 flX1_7 dX1_goesToNail_9 ?_
    refine rx_iconst (v := 5) X dX1_goesToNail_12 (by decide) ?_
    refine rx_icmp_ne X dX1_goesToNail_13 (fun h13 => ?_) (fun h13 => ?_)
    · refine rx_iconst (v := 0) X dX1_goesToNail_31 (by decide) ?_
      refine rx_zret X dX1_goesToNail_32 rfl ?_
      exact ⟨rfl, Or.inr ⟨rfl, fun q => q.elim h5 (fun q => h13 q.1)⟩⟩
    · refine rx_iload_n (i := 1) X dX1_goesToNail_16 rfl rfl ?_
      refine rx_bipush (v := 10) X dX1_goesToNail_17 (by decide) ?_
      refine rx_aload_n (i := 0) X dX1_goesToNail_19 rfl rfl ?_
      refine rx_getI (ci := 1) (i := 3) X hc rfl rfl (by decide) inX1 flX1_19 dX1_goesToNail_20 ?_
      refine rx_imul X dX1_goesToNail_23 ?_
      refine rx_icmp_ge X dX1_goesToNail_24 (fun h24 => ?_) (fun h24 => ?_)
      · refine rx_iconst (v := 0) X dX1_goesToNail_31 (by decide) ?_
        refine rx_zret X dX1_goesToNail_32 rfl ?_
        exact ⟨rfl, Or.inr ⟨rfl, fun q => q.elim h5 (fun q => absurd q.2 (Int32.not_lt.mpr h24))⟩⟩
      · refine rx_iconst (v := 1) X dX1_goesToNail_27 (by decide) ?_
        refine rx_goto X dX1_goesToNail_28 ?_
        refine rx_zret X dX1_goesToNail_32 rfl ?_
        exact ⟨rfl, Or.inl ⟨rfl, Or.inr ⟨h13, Int32.not_le.mp h24⟩⟩⟩
set_option maxHeartbeats 4000000 in
set_option maxRecDepth 100000 in
theorem kX1_gait {l : Launch} {O : rx_O} (hO : cb_O O) {σ : rx_S} {c0 : Nat} {mi : Int32} (hc : cb_ant O c0) : rx_MI l O yX1_gait cX1_gait 2 (some .int) 1 [.ref c0, .int mi] σ (fun r τ => a_gait (σ.1 c0) mi = r ∧ σ = τ) := by
  refine rx_Met_of (own := RX1) rfl hO.2.1 vsX1_gait.2.2.2.2.2 (Nat.le_of_ble_eq_true rfl) rfl (fun p e s m args below meth c X => ?_)
  refine rx_aload_n (i := 0) X dX1_gait_0 rfl rfl ?_
  refine rx_iload_n (i := 1) X dX1_gait_1 rfl rfl ?_
  refine rx_callVi (ci := 1) X vsX1_goesToNail mlX1_33 (kX1_goesToNail hO hc) hc rfl rfl (by decide) (by decide) dX1_gait_2 rfl (Nat.le_of_ble_eq_true rfl) (fun r2 t2 h2 => ?_)
  obtain ⟨rfl, ⟨rfl, h2⟩ | ⟨rfl, h2⟩⟩ := h2
  · refine rx_if_eq_f X dX1_gait_5 (by decide) ?_
    refine rx_aload_n (i := 0) X dX1_gait_8 rfl rfl ?_
    refine rx_getI (ci := 1) (i := 1) X hc rfl rfl (by decide) inX1 flX1_13 dX1_gait_9 ?_
    refine rx_ineg X dX1_gait_12 ?_
    refine rx_iret X dX1_gait_13 ?_
    refine ⟨?_, rfl⟩
    unfold a_gait
    rw [if_pos h2]
  · refine rx_if_eq_t X dX1_gait_5 (by decide) ?_
    refine rx_aload_n (i := 0) X dX1_gait_14 rfl rfl ?_
    refine rx_getI (ci := 1) (i := 0) X hc rfl rfl (by decide) inX1 flX1_7 dX1_gait_15 ?_
    refine rx_iconst (v := 2) X dX1_gait_18 (by decide) ?_
    refine rx_icmp_ne X dX1_gait_19 (fun h19 => ?_) (fun h19 => ?_)
    · refine rx_aload_n (i := 0) X dX1_gait_40 rfl rfl ?_
      refine rx_getI (ci := 1) (i := 0) X hc rfl rfl (by decide) inX1 flX1_7 dX1_gait_41 ?_
      refine rx_iconst (v := 3) X dX1_gait_44 (by decide) ?_
      refine rx_icmp_ne X dX1_gait_45 (fun h45 => ?_) (fun h45 => ?_)
      · refine rx_aload_n (i := 0) X dX1_gait_63 rfl rfl ?_
        refine rx_getI (ci := 1) (i := 1) X hc rfl rfl (by decide) inX1 flX1_13 dX1_gait_64 ?_
        refine rx_iret X dX1_gait_67 ?_
        refine ⟨?_, rfl⟩
        unfold a_gait
        rw [if_neg h2, if_neg (fun q => h19 q.1), if_neg h45]
      · refine rx_aload_n (i := 0) X dX1_gait_48 rfl rfl ?_
        refine rx_getI (ci := 1) (i := 1) X hc rfl rfl (by decide) inX1 flX1_13 dX1_gait_49 ?_
        refine rx_aload_n (i := 0) X dX1_gait_52 rfl rfl ?_
        refine rx_getI (ci := 1) (i := 4) X hc rfl rfl (by decide) inX1 flX1_22 dX1_gait_53 ?_
        refine rx_ldc X dX1_gait_56 kcX1_37 ?_
        refine rx_idiv X dX1_gait_58 (by decide) ?_
        refine rx_iadd X dX1_gait_59 ?_
        refine rx_goto X dX1_gait_60 ?_
        refine rx_iret X dX1_gait_67 ?_
        refine ⟨?_, rfl⟩
        unfold a_gait
        rw [if_neg h2, if_neg (fun q => h19 q.1), if_pos h45]
    · refine rx_aload_n (i := 0) X dX1_gait_22 rfl rfl ?_
      refine rx_getI (ci := 1) (i := 3) X hc rfl rfl (by decide) inX1 flX1_19 dX1_gait_23 ?_
      refine rx_if_le X dX1_gait_26 (fun h26 => ?_) (fun h26 => ?_)
      · refine rx_aload_n (i := 0) X dX1_gait_40 rfl rfl ?_
        refine rx_getI (ci := 1) (i := 0) X hc rfl rfl (by decide) inX1 flX1_7 dX1_gait_41 ?_
        refine rx_iconst (v := 3) X dX1_gait_44 (by decide) ?_
        refine rx_icmp_ne X dX1_gait_45 (fun h45 => ?_) (fun h45 => ?_)
        · refine rx_aload_n (i := 0) X dX1_gait_63 rfl rfl ?_
          refine rx_getI (ci := 1) (i := 1) X hc rfl rfl (by decide) inX1 flX1_13 dX1_gait_64 ?_
          refine rx_iret X dX1_gait_67 ?_
          refine ⟨?_, rfl⟩
          unfold a_gait
          rw [if_neg h2, if_neg (fun q => absurd q.2.1 (Int32.not_lt.mpr h26)), if_neg h45]
        · refine rx_aload_n (i := 0) X dX1_gait_48 rfl rfl ?_
          refine rx_getI (ci := 1) (i := 1) X hc rfl rfl (by decide) inX1 flX1_13 dX1_gait_49 ?_
          refine rx_aload_n (i := 0) X dX1_gait_52 rfl rfl ?_
          refine rx_getI (ci := 1) (i := 4) X hc rfl rfl (by decide) inX1 flX1_22 dX1_gait_53 ?_
          refine rx_ldc X dX1_gait_56 kcX1_37 ?_
          refine rx_idiv X dX1_gait_58 (by decide) ?_
          refine rx_iadd X dX1_gait_59 ?_
          refine rx_goto X dX1_gait_60 ?_
          refine rx_iret X dX1_gait_67 ?_
          refine ⟨?_, rfl⟩
          unfold a_gait
          rw [if_neg h2, if_neg (fun q => absurd q.2.1 (Int32.not_lt.mpr h26)), if_pos h45]
      · refine rx_iload_n (i := 1) X dX1_gait_29 rfl rfl ?_
        refine rx_aload_n (i := 0) X dX1_gait_30 rfl rfl ?_
        refine rx_getI (ci := 1) (i := 3) X hc rfl rfl (by decide) inX1 flX1_19 dX1_gait_31 ?_
        refine rx_irem X dX1_gait_34 (fun q => h26 (by rw [q]; decide)) ?_
        refine rx_if_ne X dX1_gait_35 (fun h35 => ?_) (fun h35 => ?_)
        · refine rx_aload_n (i := 0) X dX1_gait_40 rfl rfl ?_
          refine rx_getI (ci := 1) (i := 0) X hc rfl rfl (by decide) inX1 flX1_7 dX1_gait_41 ?_
          refine rx_iconst (v := 3) X dX1_gait_44 (by decide) ?_
          refine rx_icmp_ne X dX1_gait_45 (fun h45 => ?_) (fun h45 => ?_)
          · refine rx_aload_n (i := 0) X dX1_gait_63 rfl rfl ?_
            refine rx_getI (ci := 1) (i := 1) X hc rfl rfl (by decide) inX1 flX1_13 dX1_gait_64 ?_
            refine rx_iret X dX1_gait_67 ?_
            refine ⟨?_, rfl⟩
            unfold a_gait
            rw [if_neg h2, if_neg (fun q => h35 q.2.2), if_neg h45]
          · refine rx_aload_n (i := 0) X dX1_gait_48 rfl rfl ?_
            refine rx_getI (ci := 1) (i := 1) X hc rfl rfl (by decide) inX1 flX1_13 dX1_gait_49 ?_
            refine rx_aload_n (i := 0) X dX1_gait_52 rfl rfl ?_
            refine rx_getI (ci := 1) (i := 4) X hc rfl rfl (by decide) inX1 flX1_22 dX1_gait_53 ?_
            refine rx_ldc X dX1_gait_56 kcX1_37 ?_
            refine rx_idiv X dX1_gait_58 (by decide) ?_
            refine rx_iadd X dX1_gait_59 ?_
            refine rx_goto X dX1_gait_60 ?_
            refine rx_iret X dX1_gait_67 ?_
            refine ⟨?_, rfl⟩
            unfold a_gait
            rw [if_neg h2, if_neg (fun q => h35 q.2.2), if_pos h45]
        · refine rx_iconst (v := 0) X dX1_gait_38 (by decide) ?_
          refine rx_iret X dX1_gait_39 ?_
          refine ⟨?_, rfl⟩
          unfold a_gait
          rw [if_neg h2, if_pos ⟨h19, Int32.not_le.mp h26, h35⟩]
theorem a_nail_u {σ : rx_S} {c0 : Nat} {x mi : Int32} : a_nail ((rx_u σ c0 4 x).1 c0) mi ↔ a_nail (σ.1 c0) mi := by
  rw [rx_u_s]
  exact Iff.rfl
set_option maxHeartbeats 4000000 in
set_option maxRecDepth 100000 in
theorem kX1_go {l : Launch} {O : rx_O} (hO : cb_O O) {σ : rx_S} {c0 : Nat} {mi L : Int32} (hc : cb_ant O c0) : rx_MV l O yX1_go cX1_go 3 none 2 [.ref c0, .int mi, .int L] σ (fun τ => rx_ua σ c0 (a_go (σ.1 c0) mi L) = τ) := by
  refine rx_Met_of (own := RX1) rfl hO.2.1 vsX1_go.2.2.2.2.2 (Nat.le_of_ble_eq_true rfl) rfl (fun p e s m args below meth c X => ?_)
  refine rx_aload_n (i := 0) X dX1_go_0 rfl rfl ?_
  refine rx_getZ (ci := 1) (i := 5) X hc rfl rfl (by decide) inX1 flX1_25 dX1_go_1 ?_
  refine rx_if_ne X dX1_go_4 (fun h4 => ?_) (fun h4 => ?_)
  · refine rx_vret X dX1_go_12 ?_
    unfold a_go
    rw [if_pos (Or.inl h4)]
    exact rx_ua_self σ c0
  · refine rx_iload_n (i := 2) X dX1_go_7 rfl rfl ?_
    refine rx_iconst (v := 1) X dX1_go_8 (by decide) ?_
    refine rx_icmp_ge X dX1_go_9 (fun h9 => ?_) (fun h9 => ?_)
    · refine rx_aload_n (i := 0) X dX1_go_13 rfl rfl ?_
      refine rx_dup X dX1_go_14 rfl ?_
      refine rx_getI (ci := 1) (i := 4) X hc rfl rfl (by decide) inX1 flX1_22 dX1_go_15 ?_
      refine rx_aload_n (i := 0) X dX1_go_18 rfl rfl ?_
      refine rx_iload_n (i := 1) X dX1_go_19 rfl rfl ?_
      refine rx_callVi (ci := 1) X vsX1_gait mlX1_38 (kX1_gait hO hc) hc rfl rfl (by decide) (by decide) dX1_go_20 rfl (Nat.le_of_ble_eq_true rfl) (fun r20 t20 h20 => ?_)
      obtain ⟨rfl, rfl⟩ := h20
      refine rx_ldc X dX1_go_23 kcX1_42 ?_
      refine rx_imul X dX1_go_25 ?_
      refine rx_iload_n (i := 2) X dX1_go_26 rfl rfl ?_
      refine rx_idiv X dX1_go_27 (fun q => absurd (show (0 : Int32) < 1 by decide) (Int32.not_lt.mpr (q ▸ h9))) ?_
      refine rx_iadd X dX1_go_28 ?_
      refine rx_putI (ci := 1) (i := 4) X hc rfl rfl (by decide) inX1 tyX1 tyX1_ok nmX1 flX1_22 rfl rfl dX1_go_29 ?_
      refine rx_aload_n (i := 0) X dX1_go_32 rfl rfl ?_
      refine rx_getI (ci := 1) (i := 4) X hc rfl rfl (by decide) inX1 flX1_22 dX1_go_33 ?_
      refine rx_top (show _ = a_part (σ.1 c0) mi L by rw [rx_u_s, upd_s]; rfl) ?_
      refine rx_if_gt X dX1_go_36 (fun h36 => ?_) (fun h36 => ?_)
      · refine rx_aload_n (i := 0) X dX1_go_60 rfl rfl ?_
        refine rx_getI (ci := 1) (i := 4) X hc rfl rfl (by decide) inX1 flX1_22 dX1_go_61 ?_
        refine rx_top (show _ = a_part (σ.1 c0) mi L by rw [rx_u_s, upd_s]; rfl) ?_
        refine rx_ldc X dX1_go_64 kcX1_42 ?_
        refine rx_icmp_lt X dX1_go_66 (fun h66 => ?_) (fun h66 => ?_)
        · refine rx_vret X dX1_go_88 ?_
          unfold a_go
          rw [if_neg (fun q => q.elim (fun z => z h4) (fun q => absurd q (Int32.not_lt.mpr h9))), if_neg (fun q => absurd q.1 (Int32.not_le.mpr h36)), if_neg (fun q => absurd q.1 (Int32.not_le.mpr h66))]
          simp only [rx_u_eq, rx_ua_s, rx_ua_ua]
          rfl
        · refine rx_aload_n (i := 0) X dX1_go_69 rfl rfl ?_
          refine rx_iload_n (i := 1) X dX1_go_70 rfl rfl ?_
          refine rx_callVi (ci := 1) X vsX1_goesToNail mlX1_33 (kX1_goesToNail hO hc) hc rfl rfl (by decide) (by decide) dX1_go_71 rfl (Nat.le_of_ble_eq_true rfl) (fun r71 t71 h71 => ?_)
          obtain ⟨rfl, ⟨rfl, h71⟩ | ⟨rfl, h71⟩⟩ := h71
          · replace h71 := a_nail_u.mp h71
            refine rx_if_ne_t X dX1_go_74 (by decide) ?_
            refine rx_vret X dX1_go_88 ?_
            unfold a_go
            rw [if_neg (fun q => q.elim (fun z => z h4) (fun q => absurd q (Int32.not_lt.mpr h9))), if_neg (fun q => absurd q.1 (Int32.not_le.mpr h36)), if_neg (fun q => q.2 h71)]
            simp only [rx_u_eq, rx_ua_s, rx_ua_ua]
            rfl
          · replace h71 := fun q => h71 (a_nail_u.mpr q)
            refine rx_if_ne_f X dX1_go_74 (by decide) ?_
            refine rx_aload_n (i := 0) X dX1_go_77 rfl rfl ?_
            refine rx_ldc X dX1_go_78 kcX1_42 ?_
            refine rx_putI (ci := 1) (i := 4) X hc rfl rfl (by decide) inX1 tyX1 tyX1_ok nmX1 flX1_22 rfl rfl dX1_go_80 ?_
            refine rx_aload_n (i := 0) X dX1_go_83 rfl rfl ?_
            refine rx_iconst (v := 1) X dX1_go_84 (by decide) ?_
            refine rx_putZ (ci := 1) (i := 5) X hc rfl rfl (by decide) inX1 tyX1 tyX1_ok nmX1 flX1_25 rfl rfl rfl rfl dX1_go_85 ?_
            refine rx_vret X dX1_go_88 ?_
            unfold a_go
            rw [if_neg (fun q => q.elim (fun z => z h4) (fun q => absurd q (Int32.not_lt.mpr h9))), if_neg (fun q => absurd q.1 (Int32.not_le.mpr h36)), if_pos ⟨Int32.not_lt.mp h66, h71⟩]
            simp only [rx_u_eq, rx_ua_s, rx_ua_ua, upd_upd]
      · refine rx_aload_n (i := 0) X dX1_go_39 rfl rfl ?_
        refine rx_iload_n (i := 1) X dX1_go_40 rfl rfl ?_
        refine rx_callVi (ci := 1) X vsX1_goesToNail mlX1_33 (kX1_goesToNail hO hc) hc rfl rfl (by decide) (by decide) dX1_go_41 rfl (Nat.le_of_ble_eq_true rfl) (fun r41 t41 h41 => ?_)
        obtain ⟨rfl, ⟨rfl, h41⟩ | ⟨rfl, h41⟩⟩ := h41
        · replace h41 := a_nail_u.mp h41
          refine rx_if_eq_f X dX1_go_44 (by decide) ?_
          refine rx_aload_n (i := 0) X dX1_go_47 rfl rfl ?_
          refine rx_iconst (v := 0) X dX1_go_48 (by decide) ?_
          refine rx_putI (ci := 1) (i := 4) X hc rfl rfl (by decide) inX1 tyX1 tyX1_ok nmX1 flX1_22 rfl rfl dX1_go_49 ?_
          refine rx_aload_n (i := 0) X dX1_go_52 rfl rfl ?_
          refine rx_iconst (v := 1) X dX1_go_53 (by decide) ?_
          refine rx_putZ (ci := 1) (i := 5) X hc rfl rfl (by decide) inX1 tyX1 tyX1_ok nmX1 flX1_25 rfl rfl rfl rfl dX1_go_54 ?_
          refine rx_goto X dX1_go_57 ?_
          refine rx_vret X dX1_go_88 ?_
          unfold a_go
          rw [if_neg (fun q => q.elim (fun z => z h4) (fun q => absurd q (Int32.not_lt.mpr h9))), if_pos ⟨Int32.not_lt.mp h36, h41⟩]
          simp only [rx_u_eq, rx_ua_s, rx_ua_ua, upd_upd]
        · replace h41 := fun q => h41 (a_nail_u.mpr q)
          refine rx_if_eq_t X dX1_go_44 (by decide) ?_
          refine rx_aload_n (i := 0) X dX1_go_60 rfl rfl ?_
          refine rx_getI (ci := 1) (i := 4) X hc rfl rfl (by decide) inX1 flX1_22 dX1_go_61 ?_
          refine rx_top (show _ = a_part (σ.1 c0) mi L by rw [rx_u_s, upd_s]; rfl) ?_
          refine rx_ldc X dX1_go_64 kcX1_42 ?_
          refine rx_icmp_lt X dX1_go_66 (fun h66 => ?_) (fun h66 => ?_)
          · refine rx_vret X dX1_go_88 ?_
            unfold a_go
            rw [if_neg (fun q => q.elim (fun z => z h4) (fun q => absurd q (Int32.not_lt.mpr h9))), if_neg (fun q => h41 q.2), if_neg (fun q => absurd q.1 (Int32.not_le.mpr h66))]
            simp only [rx_u_eq, rx_ua_s, rx_ua_ua]
            rfl
          · refine rx_aload_n (i := 0) X dX1_go_69 rfl rfl ?_
            refine rx_iload_n (i := 1) X dX1_go_70 rfl rfl ?_
            refine rx_callVi (ci := 1) X vsX1_goesToNail mlX1_33 (kX1_goesToNail hO hc) hc rfl rfl (by decide) (by decide) dX1_go_71 rfl (Nat.le_of_ble_eq_true rfl) (fun r71 t71 h71 => ?_)
            obtain ⟨rfl, ⟨rfl, h71⟩ | ⟨rfl, h71⟩⟩ := h71
            · replace h71 := a_nail_u.mp h71
              refine rx_if_ne_t X dX1_go_74 (by decide) ?_
              refine rx_vret X dX1_go_88 ?_
              unfold a_go
              rw [if_neg (fun q => q.elim (fun z => z h4) (fun q => absurd q (Int32.not_lt.mpr h9))), if_neg (fun q => h41 q.2), if_neg (fun q => q.2 h71)]
              simp only [rx_u_eq, rx_ua_s, rx_ua_ua]
              rfl
            · replace h71 := fun q => h71 (a_nail_u.mpr q)
              refine rx_if_ne_f X dX1_go_74 (by decide) ?_
              refine rx_aload_n (i := 0) X dX1_go_77 rfl rfl ?_
              refine rx_ldc X dX1_go_78 kcX1_42 ?_
              refine rx_putI (ci := 1) (i := 4) X hc rfl rfl (by decide) inX1 tyX1 tyX1_ok nmX1 flX1_22 rfl rfl dX1_go_80 ?_
              refine rx_aload_n (i := 0) X dX1_go_83 rfl rfl ?_
              refine rx_iconst (v := 1) X dX1_go_84 (by decide) ?_
              refine rx_putZ (ci := 1) (i := 5) X hc rfl rfl (by decide) inX1 tyX1 tyX1_ok nmX1 flX1_25 rfl rfl rfl rfl dX1_go_85 ?_
              refine rx_vret X dX1_go_88 ?_
              unfold a_go
              rw [if_neg (fun q => q.elim (fun z => z h4) (fun q => absurd q (Int32.not_lt.mpr h9))), if_neg (fun q => h41 q.2), if_pos ⟨Int32.not_lt.mp h66, h71⟩]
              simp only [rx_u_eq, rx_ua_s, rx_ua_ua, upd_upd]
    · refine rx_vret X dX1_go_12 ?_
      unfold a_go
      rw [if_pos (Or.inr (Int32.not_le.mp h9))]
      exact rx_ua_self σ c0
set_option maxHeartbeats 4000000 in
set_option maxRecDepth 100000 in
theorem kX1_tell {l : Launch} {O : rx_O} (hO : cb_O O) {σ : rx_S} {c0 : Nat} {k st fr re : Int32} (hc : cb_ant O c0) : rx_MV l O yX1_tell cX1_tell 5 none 0 [.ref c0, .int k, .int st, .int fr, .int re] σ (fun τ => rx_ua σ c0 (a_tell (σ.1 c0) k st fr re) = τ) := by
  refine rx_Met_of (own := RX1) rfl hO.2.1 vsX1_tell.2.2.2.2.2 (Nat.le_of_ble_eq_true rfl) rfl (fun p e s m args below meth c X => ?_)
  refine rx_aload_n (i := 0) X dX1_tell_0 rfl rfl ?_
  refine rx_iload_n (i := 1) X dX1_tell_1 rfl rfl ?_
  refine rx_putI (ci := 1) (i := 0) X hc rfl rfl (by decide) inX1 tyX1 tyX1_ok nmX1 flX1_7 rfl rfl dX1_tell_2 ?_
  refine rx_aload_n (i := 0) X dX1_tell_5 rfl rfl ?_
  refine rx_iload_n (i := 2) X dX1_tell_6 rfl rfl ?_
  refine rx_putI (ci := 1) (i := 1) X hc rfl rfl (by decide) inX1 tyX1 tyX1_ok nmX1 flX1_13 rfl rfl dX1_tell_7 ?_
  refine rx_aload_n (i := 0) X dX1_tell_10 rfl rfl ?_
  refine rx_iload_n (i := 3) X dX1_tell_11 rfl rfl ?_
  refine rx_putI (ci := 1) (i := 2) X hc rfl rfl (by decide) inX1 tyX1 tyX1_ok nmX1 flX1_16 rfl rfl dX1_tell_12 ?_
  refine rx_aload_n (i := 0) X dX1_tell_15 rfl rfl ?_
  refine rx_iload (i := 4) X dX1_tell_16 rfl ?_
  refine rx_putI (ci := 1) (i := 3) X hc rfl rfl (by decide) inX1 tyX1 tyX1_ok nmX1 flX1_19 rfl rfl dX1_tell_18 ?_
  refine rx_aload_n (i := 0) X dX1_tell_21 rfl rfl ?_
  refine rx_iload_n (i := 3) X dX1_tell_22 rfl rfl ?_
  refine rx_sipush (v := 10000) X dX1_tell_23 (by decide) ?_
  refine rx_imul X dX1_tell_26 ?_
  refine rx_putI (ci := 1) (i := 4) X hc rfl rfl (by decide) inX1 tyX1 tyX1_ok nmX1 flX1_22 rfl rfl dX1_tell_27 ?_
  refine rx_aload_n (i := 0) X dX1_tell_30 rfl rfl ?_
  refine rx_iconst (v := 0) X dX1_tell_31 (by decide) ?_
  refine rx_putZ (ci := 1) (i := 5) X hc rfl rfl (by decide) inX1 tyX1 tyX1_ok nmX1 flX1_25 rfl rfl rfl rfl dX1_tell_32 ?_
  refine rx_vret X dX1_tell_35 ?_
  simp only [rx_u_eq, rx_ua_s, rx_ua_ua]
  rfl
theorem ar_nar {x : Int32} (h : x = 0 ∨ x = 1) : narrow .boolean (.int x) = .int x := by
  rcases h with rfl | rfl <;> rfl
theorem ar_fit {x : Int32} (h : x = 0 ∨ x = 1) : fits .boolean (.int x) = true := by
  rcases h with rfl | rfl <;> rfl
set_option maxHeartbeats 4000000 in
set_option maxRecDepth 100000 in
theorem kX1_takeFrom {l : Launch} {O : rx_O} (hO : cb_O O) {σ : rx_S} {c0 : Nat} {d0 : Nat} (hc : cb_ant O c0) (hd : cb_ant O d0) (hne : d0 ≠ c0) (h5 : σ.1 d0 5 = 0 ∨ σ.1 d0 5 = 1) : rx_MV l O yX1_takeFrom cX1_takeFrom 2 none 0 [.ref c0, .ref d0] σ (fun τ => rx_ua σ c0 (a_take (σ.1 c0) (σ.1 d0)) = τ) := by
  refine rx_Met_of (own := RX1) rfl hO.2.1 vsX1_takeFrom.2.2.2.2.2 (Nat.le_of_ble_eq_true rfl) rfl (fun p e s m args below meth c X => ?_)
  refine rx_aload_n (i := 0) X dX1_takeFrom_0 rfl rfl ?_
  refine rx_aload_n (i := 1) X dX1_takeFrom_1 rfl rfl ?_
  refine rx_getI (ci := 1) (i := 0) X hd rfl rfl (by decide) inX1 flX1_7 dX1_takeFrom_2 ?_
  refine rx_putI (ci := 1) (i := 0) X hc rfl rfl (by decide) inX1 tyX1 tyX1_ok nmX1 flX1_7 rfl rfl dX1_takeFrom_5 ?_
  refine rx_aload_n (i := 0) X dX1_takeFrom_8 rfl rfl ?_
  refine rx_aload_n (i := 1) X dX1_takeFrom_9 rfl rfl ?_
  refine rx_getI (ci := 1) (i := 1) X hd rfl rfl (by decide) inX1 flX1_13 dX1_takeFrom_10 ?_
  refine rx_putI (ci := 1) (i := 1) X hc rfl rfl (by decide) inX1 tyX1 tyX1_ok nmX1 flX1_13 rfl rfl dX1_takeFrom_13 ?_
  refine rx_aload_n (i := 0) X dX1_takeFrom_16 rfl rfl ?_
  refine rx_aload_n (i := 1) X dX1_takeFrom_17 rfl rfl ?_
  refine rx_getI (ci := 1) (i := 2) X hd rfl rfl (by decide) inX1 flX1_16 dX1_takeFrom_18 ?_
  refine rx_putI (ci := 1) (i := 2) X hc rfl rfl (by decide) inX1 tyX1 tyX1_ok nmX1 flX1_16 rfl rfl dX1_takeFrom_21 ?_
  refine rx_aload_n (i := 0) X dX1_takeFrom_24 rfl rfl ?_
  refine rx_aload_n (i := 1) X dX1_takeFrom_25 rfl rfl ?_
  refine rx_getI (ci := 1) (i := 3) X hd rfl rfl (by decide) inX1 flX1_19 dX1_takeFrom_26 ?_
  refine rx_putI (ci := 1) (i := 3) X hc rfl rfl (by decide) inX1 tyX1 tyX1_ok nmX1 flX1_19 rfl rfl dX1_takeFrom_29 ?_
  refine rx_aload_n (i := 0) X dX1_takeFrom_32 rfl rfl ?_
  refine rx_aload_n (i := 1) X dX1_takeFrom_33 rfl rfl ?_
  refine rx_getI (ci := 1) (i := 4) X hd rfl rfl (by decide) inX1 flX1_22 dX1_takeFrom_34 ?_
  refine rx_putI (ci := 1) (i := 4) X hc rfl rfl (by decide) inX1 tyX1 tyX1_ok nmX1 flX1_22 rfl rfl dX1_takeFrom_37 ?_
  refine rx_aload_n (i := 0) X dX1_takeFrom_40 rfl rfl ?_
  refine rx_aload_n (i := 1) X dX1_takeFrom_41 rfl rfl ?_
  refine rx_getZ (ci := 1) (i := 5) X hd rfl rfl (by decide) inX1 flX1_25 dX1_takeFrom_42 ?_
  refine rx_top (show _ = σ.1 d0 5 by simp only [rx_u_ne hne]) ?_
  refine rx_putZ (ci := 1) (i := 5) X hc rfl rfl (by decide) inX1 tyX1 tyX1_ok nmX1 flX1_25 rfl rfl (ar_nar h5) (ar_fit h5) dX1_takeFrom_45 ?_
  refine rx_vret X dX1_takeFrom_48 ?_
  simp only [rx_u_eq, rx_ua_s, rx_ua_ua, rx_ua_ne hne]
  rfl
set_option maxHeartbeats 4000000 in
set_option maxRecDepth 100000 in
theorem kX1_hundredth {l : Launch} {O : rx_O} (hO : cb_O O) {σ : rx_S} {c0 : Nat} (hc : cb_ant O c0) : rx_MI l O yX1_hundredth cX1_hundredth 1 (some .int) 0 [.ref c0] σ (fun r τ => σ.1 c0 4 / 10000 = r ∧ σ = τ) := by
  refine rx_Met_of (own := RX1) rfl hO.2.1 vsX1_hundredth.2.2.2.2.2 (Nat.le_of_ble_eq_true rfl) rfl (fun p e s m args below meth c X => ?_)
  refine rx_aload_n (i := 0) X dX1_hundredth_0 rfl rfl ?_
  refine rx_getI (ci := 1) (i := 4) X hc rfl rfl (by decide) inX1 flX1_22 dX1_hundredth_1 ?_
  refine rx_sipush (v := 10000) X dX1_hundredth_4 (by decide) ?_
  refine rx_idiv X dX1_hundredth_7 (by decide) ?_
  refine rx_iret X dX1_hundredth_8 ?_
  exact ⟨rfl, rfl⟩
theorem a_in {z : Int32} (h : ¬ z < 0) (h2 : ¬ 5 < z) : vp_in z 6 := by
  have h3 : 0 ≤ z.toInt := by
    have := Int32.le_iff_toInt_le.mp (Int32.not_lt.mp h)
    exact this
  have h4 : z.toInt ≤ 5 := Int32.le_iff_toInt_le.mp (Int32.not_lt.mp h2)
  have h5 := rx_Ni h3
  rintro (q | q)
  · exact h q
  · have q2 : 6 ≤ rx_N z := q
    omega
theorem a_is_5 : ∀ i, i < 6 → ¬ (5 : Int32) < nI i := by decide +kernel
abbrev a_P : List Int32 := [-1, 0, 1, 1, 0, 4]
def a_is (q : Int32) : Nat → Int32 → Bool
  | 0, _ => false
  | f + 1, x => if x < 0 then false else if 5 < x then false else if x = q then true else a_is q f (a_P.getD (rx_N x) 0)
theorem a_is_K : ∀ k, k < 5 → ∀ q, q < 6 → a_is (nI q) 6 (nI (k + 1)) = decide (nI q = 0 ∨ nI (k + 1) = nI q ∨ (nI q = 1 ∧ nI (k + 1) < 4) ∨ (nI q = 4 ∧ nI (k + 1) = 5)) := by decide +kernel
theorem flX1_29z : Cond.fieldLink RX1 29 "AntBand$Ant" "PARENTS" "[I" ∈ rx_tbl := rx_in (i := 789) (by decide +kernel) rfl
theorem cb_zP {O : rx_O} (h : cb_O O) : ("AntBand$Ant", "PARENTS", 277, a_P) ∈ O.2.2.2.2 := by
  rw [h.2.2.2.2.2.2.2]
  exact List.mem_cons_self
set_option maxHeartbeats 4000000 in
set_option maxRecDepth 100000 in
theorem kX1_isOf {l : Launch} {O : rx_O} (hO : cb_O O) {σ : rx_S} {c0 : Nat} {q : Int32} (hc : cb_ant O c0) : rx_MI l O yX1_isOf cX1_isOf 4 (some .boolean) 0 [.ref c0, .int q] σ (fun r τ => σ = τ ∧ rx_b (a_is q 6 (σ.1 c0 0) = true) r) := by
  refine rx_Met_of (own := RX1) rfl hO.2.1 vsX1_isOf.2.2.2.2.2 (Nat.le_of_ble_eq_true rfl) rfl (fun p e s m args below meth c X => ?_)
  have loop : ∀ (k : Nat) (i : Nat) (x z : Int32), (i + k = 6) → (x = nI i) → (a_is q 6 (σ.1 c0 0) = a_is q k z) → rx_J O 4 p l e (rx_lv 0) s m args below meth c (rx_QI O below args s (fun r τ => σ = τ ∧ rx_b (a_is q 6 (σ.1 c0 0) = true) r)) 7 [(0, .ref c0), (1, .int q), (2, .int z), (3, .int x)] [] σ := by
    intro k
    induction k with
    | zero =>
      intro i x z hi hx hz
      obtain rfl : i = 6 := by omega
      subst hx
      refine rx_iload_n (i := 3) X dX1_isOf_7 rfl rfl ?_
      refine rx_iconst (v := 5) X dX1_isOf_8 (by decide) ?_
      refine rx_icmp_gt_t X dX1_isOf_9 (by decide) ?_
      refine rx_iconst (v := 0) X dX1_isOf_40 (by decide) ?_
      refine rx_zret X dX1_isOf_41 rfl ?_
      exact ⟨rfl, Or.inr ⟨rfl, by rw [hz]; exact Bool.false_ne_true⟩⟩
    | succ k ih =>
      intro i x z hi hx hz
      refine rx_iload_n (i := 3) X dX1_isOf_7 rfl rfl ?_
      refine rx_iconst (v := 5) X dX1_isOf_8 (by decide) ?_
      refine rx_icmp_gt_f X dX1_isOf_9 (by rw [hx]; exact a_is_5 i (by omega)) ?_
      refine rx_iload_n (i := 2) X dX1_isOf_12 rfl rfl ?_
      refine rx_if_lt X dX1_isOf_13 (fun h13 => ?_) (fun h13 => ?_)
      · refine rx_iconst (v := 0) X dX1_isOf_40 (by decide) ?_
        refine rx_zret X dX1_isOf_41 rfl ?_
        refine ⟨rfl, Or.inr ⟨rfl, ?_⟩⟩
        rw [hz, a_is, if_pos h13]
        exact Bool.false_ne_true
      · refine rx_iload_n (i := 2) X dX1_isOf_16 rfl rfl ?_
        refine rx_iconst (v := 5) X dX1_isOf_17 (by decide) ?_
        refine rx_icmp_gt X dX1_isOf_18 (fun h18 => ?_) (fun h18 => ?_)
        · refine rx_iconst (v := 0) X dX1_isOf_40 (by decide) ?_
          refine rx_zret X dX1_isOf_41 rfl ?_
          refine ⟨rfl, Or.inr ⟨rfl, ?_⟩⟩
          rw [hz, a_is, if_neg h13, if_pos h18]
          exact Bool.false_ne_true
        · refine rx_iload_n (i := 2) X dX1_isOf_21 rfl rfl ?_
          refine rx_iload_n (i := 1) X dX1_isOf_22 rfl rfl ?_
          refine rx_icmp_ne X dX1_isOf_23 (fun h23 => ?_) (fun h23 => ?_)
          · refine rx_gets (xs := a_P) X (cb_zP hO) flX1_29z dX1_isOf_28 ?_
            refine rx_iload_n (i := 2) X dX1_isOf_31 rfl rfl ?_
            refine rx_zld X (cb_zP hO) (a_in h13 h18) dX1_isOf_32 ?_
            refine rx_istore_n (i := 2) (lo2 := [(0, .ref _), (1, .int _), (2, .int _), (3, .int _)]) X dX1_isOf_33 rfl (by decide) rfl ?_
            refine rx_iinc (i := 3) (lo2 := [(0, .ref _), (1, .int _), (2, .int _), (3, .int _)]) X dX1_isOf_34 rfl (rx_inc1 _) (by decide) rfl ?_
            refine rx_goto X dX1_isOf_37 ?_
            refine ih (i + 1) _ _ (by omega) (by rw [hx]; exact nI_1 i) ?_
            rw [hz, a_is, if_neg h13, if_neg h18, if_neg h23]
          · refine rx_iconst (v := 1) X dX1_isOf_26 (by decide) ?_
            refine rx_zret X dX1_isOf_27 rfl ?_
            refine ⟨rfl, Or.inl ⟨rfl, ?_⟩⟩
            rw [hz, a_is, if_neg h13, if_neg h18, if_pos h23]
  refine rx_aload_n (i := 0) X dX1_isOf_0 rfl rfl ?_
  refine rx_getI (ci := 1) (i := 0) X hc rfl rfl (by decide) inX1 flX1_7 dX1_isOf_1 ?_
  refine rx_istore_n (i := 2) (lo2 := [(0, .ref _), (1, .int _), (2, .int _)]) X dX1_isOf_4 rfl (by decide) rfl ?_
  refine rx_iconst (v := 0) X dX1_isOf_5 (by decide) ?_
  refine rx_istore_n (i := 3) (lo2 := [(0, .ref _), (1, .int _), (2, .int _), (3, .int _)]) X dX1_isOf_6 rfl (by decide) rfl ?_
  exact loop 6 0 _ _ rfl rfl rfl
