set_option maxHeartbeats 1000000 in
set_option maxRecDepth 100000 in
theorem kX4_walkByDraws {l : Launch} {O : rx_O} (hO : cb_O O) {σ : rx_S} {n : Nat} {w : Nat → Int32} {sd : Int32} (hw : cb_R cb_T σ 1 w) (hv : w_V 999 w) (hb : w_B w) (hn : n < 1000) : rx_MV l O yX4_walkByDraws cX4_walkByDraws 7 none 4 [.ref 242, .ref 1, .int (nI n), .int sd] σ (fun τ => cb_fr 243 σ τ ∧ cb_R cb_T τ 243 (dr_loop n sd.toInt64 w)) := by
  refine rx_Met_of (own := RX4) rfl hO.2.1 vsX4_walkByDraws.2.2.2.2.2 (Nat.le_of_ble_eq_true rfl) rfl (fun p e s m args below meth c X => ?_)
  have loop : ∀ (k : Nat) (i : Nat) (x : Int32) (xx : Int64) (τ : rx_S) (u : Nat → Int32), (i + k = n) → (x = nI i) → (cb_fr 243 σ τ) → (cb_R cb_T τ 243 u) → (w_V (999 + i) u) → (w_B u) → (dr_loop n sd.toInt64 w = dr_loop k xx u) → rx_J O 7 p l e (rx_lv 4) s m args below meth c (rx_QV O below args s (fun τ => cb_fr 243 σ τ ∧ cb_R cb_T τ 243 (dr_loop n sd.toInt64 w))) 15 [(0, .ref 242), (1, .ref 1), (2, .int (nI n)), (3, .int sd), (4, .long xx), (6, .int x)] [] τ := by
    intro k
    induction k with
    | zero =>
      intro i x xx τ u hi hx hf hτ hv2 hb2 he
      obtain rfl : i = n := by omega
      subst hx
      refine rx_iload (i := 6) X dX4_walkByDraws_15 rfl ?_
      refine rx_iload_n (i := 2) X dX4_walkByDraws_17 rfl rfl ?_
      refine rx_icmp_ge_t X dX4_walkByDraws_18 (Int32.le_refl _) ?_
      refine rx_vret X dX4_walkByDraws_90 ?_
      exact ⟨hf, by rw [he]; exact hτ⟩
    | succ k ih =>
      intro i x xx τ u hi hx hf hτ hv2 hb2 he
      subst hx
      refine rx_iload (i := 6) X dX4_walkByDraws_15 rfl ?_
      refine rx_iload_n (i := 2) X dX4_walkByDraws_17 rfl rfl ?_
      refine rx_icmp_ge_f X dX4_walkByDraws_18 (nI_ge (by omega) (by omega)) ?_
      refine rx_lload (i := 4) X dX4_walkByDraws_21 rfl ?_
      refine rx_ldc2 X dX4_walkByDraws_23 kcX4_153 ?_
      refine rx_lmul X dX4_walkByDraws_26 ?_
      refine rx_ldc2 X dX4_walkByDraws_27 kcX4_155 ?_
      refine rx_lrem X dX4_walkByDraws_30 (by decide) ?_
      refine rx_topL (y := dr_x xx) rfl ?_
      refine rx_lstore (i := 4) (lo2 := [(0, .ref _), (1, .ref _), (2, .int _), (3, .int _), (4, .long _), (6, .int _)]) X dX4_walkByDraws_31 (by decide) rfl ?_
      refine rx_lload (i := 4) X dX4_walkByDraws_33 rfl ?_
      refine rx_ldc2 X dX4_walkByDraws_35 kcX4_157 ?_
      refine rx_lrem X dX4_walkByDraws_38 (by decide) ?_
      refine rx_lconst (v := 0) X dX4_walkByDraws_39 (by decide) ?_
      refine rx_lcmp X dX4_walkByDraws_40 ?_
      refine rx_if_ne X dX4_walkByDraws_41 (fun h41 => ?_) (fun h41 => ?_)
      · rw [lg_cmp_eq] at h41
        have hfρ := hf
        have hρ : cb_R cb_T τ 243 (dr_u (dr_x xx) u) := by rw [dr_u, if_neg h41]; exact hτ
        refine rx_aload_n (i := 0) X dX4_walkByDraws_51 rfl rfl ?_
        refine rx_getR (ci := 4) (i := 0) X (kc_242 hO) rfl rfl (by decide) inX4 flX4_12 dX4_walkByDraws_52 ?_
        refine rx_aload_n (i := 0) X dX4_walkByDraws_55 rfl rfl ?_
        refine rx_getR (ci := 4) (i := 0) X (kc_242 hO) rfl rfl (by decide) inX4 flX4_12 dX4_walkByDraws_56 ?_
        refine rx_getI (ci := 3) (i := 3) X (kb_0 hO cb_B243) rfl rfl (by decide) inX3 flX4_113 dX4_walkByDraws_59 ?_
        refine rx_top (hρ.2.1.1.2.2.2.trans (dr_u_3 _ _)) ?_
        refine rx_if_le_f X dX4_walkByDraws_62 (w_pos hv2.2.2.2.1.1) ?_
        refine rx_lload (i := 4) X dX4_walkByDraws_65 rfl ?_
        refine rx_aload_n (i := 0) X dX4_walkByDraws_67 rfl rfl ?_
        refine rx_getR (ci := 4) (i := 0) X (kc_242 hO) rfl rfl (by decide) inX4 flX4_12 dX4_walkByDraws_68 ?_
        refine rx_getI (ci := 3) (i := 3) X (kb_0 hO cb_B243) rfl rfl (by decide) inX3 flX4_113 dX4_walkByDraws_71 ?_
        refine rx_top (hρ.2.1.1.2.2.2.trans (dr_u_3 _ _)) ?_
        refine rx_i2l X dX4_walkByDraws_74 ?_
        refine rx_lrem X dX4_walkByDraws_75 (i64_ne hv2.2.2.2.1.1) ?_
        refine rx_l2i X dX4_walkByDraws_76 ?_
        refine rx_goto X dX4_walkByDraws_77 ?_
        refine rx_top (y := dr_s (dr_x xx) (dr_u (dr_x xx) u)) (show _ = Int64.toInt32 _ by rw [dr_u_3]) ?_
        refine rx_callVv (ci := 3) X vsX3_passMinute mlX4_32 (kX3_passMinute hO cb_B243 hρ (dr_u_V hv2) (dr_u_B hb2)) (kb_0 hO cb_B243) rfl rfl (by decide) (by decide) dX4_walkByDraws_81 rfl (Nat.le_of_ble_eq_true rfl) (fun t81 h81 => ?_)
        obtain ⟨h81f, h81⟩ := h81
        refine rx_iinc (i := 6) (lo2 := [(0, .ref _), (1, .ref _), (2, .int _), (3, .int _), (4, .long _), (6, .int _)]) X dX4_walkByDraws_84 rfl (rx_inc1 _) (by decide) rfl ?_
        refine rx_goto X dX4_walkByDraws_87 ?_
        exact ih (i + 1) _ _ _ _ (by omega) (nI_1 i) (hfρ.trans h81f) h81 (w_V_one (K := 999 + i) (by omega) (dr_u_V hv2)) (w_B_one (dr_u_B hb2) (dr_u_V hv2)) (by rw [he]; rfl)
      · rw [lg_cmp_eq] at h41
        refine rx_aload_n (i := 0) X dX4_walkByDraws_44 rfl rfl ?_
        refine rx_getR (ci := 4) (i := 0) X (kc_242 hO) rfl rfl (by decide) inX4 flX4_12 dX4_walkByDraws_45 ?_
        refine rx_callVv (ci := 3) X vsX3_slacken mlX4_159 (kX3_slacken hO cb_B243 hτ hv2.1.1) (kb_0 hO cb_B243) rfl rfl (by decide) (by decide) dX4_walkByDraws_48 rfl (Nat.le_of_ble_eq_true rfl) (fun t48 h48 => ?_)
        obtain ⟨h48f, h48⟩ := h48
        have hfρ := hf.trans h48f
        have hρ : cb_R cb_T t48 243 (dr_u (dr_x xx) u) := by rw [dr_u, if_pos h41]; exact h48
        refine rx_aload_n (i := 0) X dX4_walkByDraws_51 rfl rfl ?_
        refine rx_getR (ci := 4) (i := 0) X (kc_242 hO) rfl rfl (by decide) inX4 flX4_12 dX4_walkByDraws_52 ?_
        refine rx_aload_n (i := 0) X dX4_walkByDraws_55 rfl rfl ?_
        refine rx_getR (ci := 4) (i := 0) X (kc_242 hO) rfl rfl (by decide) inX4 flX4_12 dX4_walkByDraws_56 ?_
        refine rx_getI (ci := 3) (i := 3) X (kb_0 hO cb_B243) rfl rfl (by decide) inX3 flX4_113 dX4_walkByDraws_59 ?_
        refine rx_top (hρ.2.1.1.2.2.2.trans (dr_u_3 _ _)) ?_
        refine rx_if_le_f X dX4_walkByDraws_62 (w_pos hv2.2.2.2.1.1) ?_
        refine rx_lload (i := 4) X dX4_walkByDraws_65 rfl ?_
        refine rx_aload_n (i := 0) X dX4_walkByDraws_67 rfl rfl ?_
        refine rx_getR (ci := 4) (i := 0) X (kc_242 hO) rfl rfl (by decide) inX4 flX4_12 dX4_walkByDraws_68 ?_
        refine rx_getI (ci := 3) (i := 3) X (kb_0 hO cb_B243) rfl rfl (by decide) inX3 flX4_113 dX4_walkByDraws_71 ?_
        refine rx_top (hρ.2.1.1.2.2.2.trans (dr_u_3 _ _)) ?_
        refine rx_i2l X dX4_walkByDraws_74 ?_
        refine rx_lrem X dX4_walkByDraws_75 (i64_ne hv2.2.2.2.1.1) ?_
        refine rx_l2i X dX4_walkByDraws_76 ?_
        refine rx_goto X dX4_walkByDraws_77 ?_
        refine rx_top (y := dr_s (dr_x xx) (dr_u (dr_x xx) u)) (show _ = Int64.toInt32 _ by rw [dr_u_3]) ?_
        refine rx_callVv (ci := 3) X vsX3_passMinute mlX4_32 (kX3_passMinute hO cb_B243 hρ (dr_u_V hv2) (dr_u_B hb2)) (kb_0 hO cb_B243) rfl rfl (by decide) (by decide) dX4_walkByDraws_81 rfl (Nat.le_of_ble_eq_true rfl) (fun t81 h81 => ?_)
        obtain ⟨h81f, h81⟩ := h81
        refine rx_iinc (i := 6) (lo2 := [(0, .ref _), (1, .ref _), (2, .int _), (3, .int _), (4, .long _), (6, .int _)]) X dX4_walkByDraws_84 rfl (rx_inc1 _) (by decide) rfl ?_
        refine rx_goto X dX4_walkByDraws_87 ?_
        exact ih (i + 1) _ _ _ _ (by omega) (nI_1 i) (hfρ.trans h81f) h81 (w_V_one (K := 999 + i) (by omega) (dr_u_V hv2)) (w_B_one (dr_u_B hb2) (dr_u_V hv2)) (by rw [he]; rfl)
  refine rx_aload_n (i := 0) X dX4_walkByDraws_0 rfl rfl ?_
  refine rx_getR (ci := 4) (i := 0) X (kc_242 hO) rfl rfl (by decide) inX4 flX4_12 dX4_walkByDraws_1 ?_
  refine rx_aload_n (i := 1) X dX4_walkByDraws_4 rfl rfl ?_
  refine rx_callVv (ci := 3) X vsX3_takeFrom mlX4_28 (kX3_tf hO hw (cb_fr.rfl' 243 σ)) (kb_0 hO cb_B243) rfl rfl (by decide) (by decide) dX4_walkByDraws_5 rfl (Nat.le_of_ble_eq_true rfl) (fun t5 h5 => ?_)
  obtain ⟨h5f, h5⟩ := h5
  refine rx_iload_n (i := 3) X dX4_walkByDraws_8 rfl rfl ?_
  refine rx_i2l X dX4_walkByDraws_9 ?_
  refine rx_lstore (i := 4) (lo2 := [(0, .ref _), (1, .ref _), (2, .int _), (3, .int _), (4, .long _)]) X dX4_walkByDraws_10 (by decide) rfl ?_
  refine rx_iconst (v := 0) X dX4_walkByDraws_12 (by decide) ?_
  refine rx_istore (i := 6) (lo2 := [(0, .ref _), (1, .ref _), (2, .int _), (3, .int _), (4, .long _), (6, .int _)]) X dX4_walkByDraws_13 (by decide) rfl ?_
  exact loop n 0 _ _ _ _ (by omega) rfl h5f h5 hv hb rfl
theorem bl_bit : ∀ s, s < 256 → ∀ k, k < 8 → (((nI s >>> (nI k &&& 31)) &&& 1 = 0) ↔ ¬ w_has (nI s) k) := by decide +kernel
theorem wd_w_B {a s : Nat} {w : Nat → Int32} (hv : w_V 999 w) (hb : w_B w) : ∀ k, k < 1000 → w_B (wd_w a s k w)
  | 0, _ => hb
  | k + 1, hk => w_B_one (wd_w_B hv hb k (by omega)) (wd_w_V hv k (by omega))
theorem wd_w_3 {a s : Nat} {w : Nat → Int32} : ∀ k, wd_w a s k w 3 = w 3
  | 0 => rfl
  | k + 1 => by
    show w_one _ (wd_w a s k w) 3 = _
    rw [w_one_3, wd_w_3 k]
set_option maxHeartbeats 1000000 in
set_option maxRecDepth 100000 in
theorem kX4_arrivesBlown {l : Launch} {O : rx_O} (hO : cb_O O) {σ : rx_S} {n a s0 : Nat} {w : Nat → Int32} (hw : cb_R cb_T σ 1 w) (hv : w_V 999 w) (hb : w_B w) (hn : n ≤ 8) (ha : a < 6) (ha3 : a < rx_N (w 3)) (hs : s0 < 256) : rx_MI l O yX4_arrivesBlown cX4_arrivesBlown 6 (some .boolean) 3 [.ref 242, .ref 1, .int (nI a), .int (nI n), .int (nI s0)] σ (fun r τ => cb_fr 243 σ τ ∧ cb_bo τ 243 ∧ rx_b (w_has (wd_w a s0 n w 4) a) r) := by
  refine rx_Met_of (own := RX4) rfl hO.2.1 vsX4_arrivesBlown.2.2.2.2.2 (Nat.le_of_ble_eq_true rfl) rfl (fun p e s m args below meth c X => ?_)
  have loop : ∀ (k : Nat) (i : Nat) (x : Int32) (τ : rx_S), (i + k = n) → (x = nI i) → (cb_fr 243 σ τ) → (cb_R (fun b => b = a) τ 243 (wd_w a s0 i w)) → rx_J O 6 p l e (rx_lv 3) s m args below meth c (rx_QI O below args s (fun r τ => cb_fr 243 σ τ ∧ cb_bo τ 243 ∧ rx_b (w_has (wd_w a s0 n w 4) a) r)) 11 [(0, .ref 242), (1, .ref 1), (2, .int (nI a)), (3, .int (nI n)), (4, .int (nI s0)), (5, .int x)] [] τ := by
    intro k
    induction k with
    | zero =>
      intro i x τ hi hx hf hτ
      obtain rfl : i = n := by omega
      subst hx
      have hv2 := wd_w_V (a := a) (s := s0) hv i (by omega)
      have hb2 := wd_w_B (a := a) (s := s0) hv hb i (by omega)
      have hu3 : a < rx_N (wd_w a s0 i w 3) := by rw [wd_w_3]; exact ha3
      refine rx_iload (i := 5) X dX4_arrivesBlown_11 rfl ?_
      refine rx_iload_n (i := 3) X dX4_arrivesBlown_13 rfl rfl ?_
      refine rx_icmp_ge_t X dX4_arrivesBlown_14 (Int32.le_refl _) ?_
      refine rx_aload_n (i := 0) X dX4_arrivesBlown_66 rfl rfl ?_
      refine rx_getR (ci := 4) (i := 0) X (kc_242 hO) rfl rfl (by decide) inX4 flX4_12 dX4_arrivesBlown_67 ?_
      refine rx_getR (ci := 3) (i := 5) X (kb_0 hO cb_B243) rfl rfl (by decide) inX3 flX4_43 dX4_arrivesBlown_70 ?_
      refine rx_iload_n (i := 2) X dX4_arrivesBlown_73 rfl rfl ?_
      refine rx_aaldN (j := a) X (kb_2 hO cb_B243) hO.2.2.2.2.2.1 rfl ha (by decide) (kb_el ha) dX4_arrivesBlown_74 ?_
      refine rx_getZ (ci := 1) (i := 5) X (kb_a hO cb_B243 ha) rfl rfl (by decide) inX1 flX4_56 dX4_arrivesBlown_75 ?_
      refine rx_zret X dX4_arrivesBlown_78 (ar_nar (hτ.1 a ha)) ?_
      exact ⟨hf, hτ.1, (hτ.2.2 a ha hu3 rfl).2.2.2.2.2⟩
    | succ k ih =>
      intro i x τ hi hx hf hτ
      subst hx
      have hv2 := wd_w_V (a := a) (s := s0) hv i (by omega)
      have hb2 := wd_w_B (a := a) (s := s0) hv hb i (by omega)
      have hu3 : a < rx_N (wd_w a s0 i w 3) := by rw [wd_w_3]; exact ha3
      refine rx_iload (i := 5) X dX4_arrivesBlown_11 rfl ?_
      refine rx_iload_n (i := 3) X dX4_arrivesBlown_13 rfl rfl ?_
      refine rx_icmp_ge_f X dX4_arrivesBlown_14 (nI_ge (by omega) (by omega)) ?_
      refine rx_iload (i := 4) X dX4_arrivesBlown_17 rfl ?_
      refine rx_iload (i := 5) X dX4_arrivesBlown_19 rfl ?_
      refine rx_ishr X dX4_arrivesBlown_21 ?_
      refine rx_iconst (v := 1) X dX4_arrivesBlown_22 (by decide) ?_
      refine rx_iand X dX4_arrivesBlown_23 ?_
      refine rx_if_ne X dX4_arrivesBlown_24 (fun h24 => ?_) (fun h24 => ?_)
      · have hh : w_has (nI s0) i := Decidable.of_not_not (fun q => h24 ((bl_bit s0 hs i (by omega)).mpr q))
        refine rx_aload_n (i := 0) X dX4_arrivesBlown_53 rfl rfl ?_
        refine rx_getR (ci := 4) (i := 0) X (kc_242 hO) rfl rfl (by decide) inX4 flX4_12 dX4_arrivesBlown_54 ?_
        refine rx_callVv (ci := 3) X vsX3_stretchInTurn mlX4_150 (kX3_stretchInTurn hO cb_B243 hτ hv2.2.1.1 hv2.2.2.1) (kb_0 hO cb_B243) rfl rfl (by decide) (by decide) dX4_arrivesBlown_57 rfl (Nat.le_of_ble_eq_true rfl) (fun t57 h57 => ?_)
        obtain ⟨h57f, h57⟩ := h57
        refine rx_iinc (i := 5) (lo2 := [(0, .ref _), (1, .ref _), (2, .int _), (3, .int _), (4, .int _), (5, .int _)]) X dX4_arrivesBlown_60 rfl (rx_inc1 _) (by decide) rfl ?_
        refine rx_goto X dX4_arrivesBlown_63 ?_
        refine ih (i + 1) _ _ (by omega) (nI_1 i) (hf.trans h57f) ?_
        show cb_R _ _ 243 (w_one (if w_has (nI s0) i then nI a else -1) (wd_w a s0 i w))
        rw [if_pos hh]
        exact h57.still ha hv2.n3.2 hb2 rfl
      · have hh := (bl_bit s0 hs i (by omega)).mp h24
        refine rx_aload_n (i := 0) X dX4_arrivesBlown_27 rfl rfl ?_
        refine rx_getR (ci := 4) (i := 0) X (kc_242 hO) rfl rfl (by decide) inX4 flX4_12 dX4_arrivesBlown_28 ?_
        refine rx_getR (ci := 3) (i := 5) X (kb_0 hO cb_B243) rfl rfl (by decide) inX3 flX4_43 dX4_arrivesBlown_31 ?_
        refine rx_iload_n (i := 2) X dX4_arrivesBlown_34 rfl rfl ?_
        refine rx_aaldN (j := a) X (kb_2 hO cb_B243) hO.2.2.2.2.2.1 rfl ha (by decide) (kb_el ha) dX4_arrivesBlown_35 ?_
        refine rx_aload_n (i := 0) X dX4_arrivesBlown_36 rfl rfl ?_
        refine rx_getR (ci := 4) (i := 0) X (kc_242 hO) rfl rfl (by decide) inX4 flX4_12 dX4_arrivesBlown_37 ?_
        refine rx_getI (ci := 3) (i := 1) X (kb_0 hO cb_B243) rfl rfl (by decide) inX3 flX4_66 dX4_arrivesBlown_40 ?_
        refine rx_top hτ.2.1.1.2.1 ?_
        refine rx_aload_n (i := 0) X dX4_arrivesBlown_43 rfl rfl ?_
        refine rx_getR (ci := 4) (i := 0) X (kc_242 hO) rfl rfl (by decide) inX4 flX4_12 dX4_arrivesBlown_44 ?_
        refine rx_getI (ci := 3) (i := 0) X (kb_0 hO cb_B243) rfl rfl (by decide) inX3 flX4_69 dX4_arrivesBlown_47 ?_
        refine rx_top hτ.2.1.1.1 ?_
        refine rx_callVv (ci := 1) X vsX1_go mlX4_72 (kX1_go hO (kb_a hO cb_B243 ha)) (kb_a hO cb_B243 ha) rfl rfl (by decide) (by decide) dX4_arrivesBlown_50 rfl (Nat.le_of_ble_eq_true rfl) (fun t50 h50 => ?_)
        subst h50
        have hg := hτ.go ha rfl hu3 (hv2.2.2.2.2.2 a hu3) hv2.1.1 hb2
        refine rx_aload_n (i := 0) X dX4_arrivesBlown_53 rfl rfl ?_
        refine rx_getR (ci := 4) (i := 0) X (kc_242 hO) rfl rfl (by decide) inX4 flX4_12 dX4_arrivesBlown_54 ?_
        refine rx_callVv (ci := 3) X vsX3_stretchInTurn mlX4_150 (kX3_stretchInTurn hO cb_B243 hg (by rw [w_g1_n (by omega) (by omega)]; exact hv2.2.1.1) (by rw [w_g1_n (by omega) (by omega)]; exact hv2.2.2.1)) (kb_0 hO cb_B243) rfl rfl (by decide) (by decide) dX4_arrivesBlown_57 rfl (Nat.le_of_ble_eq_true rfl) (fun t57 h57 => ?_)
        obtain ⟨h57f, h57⟩ := h57
        refine rx_iinc (i := 5) (lo2 := [(0, .ref _), (1, .ref _), (2, .int _), (3, .int _), (4, .int _), (5, .int _)]) X dX4_arrivesBlown_60 rfl (rx_inc1 _) (by decide) rfl ?_
        refine rx_goto X dX4_arrivesBlown_63 ?_
        refine ih (i + 1) _ _ (by omega) (nI_1 i) ((hf.ua (by omega) (by omega)).trans h57f) ?_
        show cb_R _ _ 243 (w_one (if w_has (nI s0) i then nI a else -1) (wd_w a s0 i w))
        rw [w_in_g1 hv2.2.2.1] at h57
        rw [if_neg hh]
        exact h57.alone ha hu3 hv2.n3.2 hb2 (nI_m1 a ha)
  refine rx_aload_n (i := 0) X dX4_arrivesBlown_0 rfl rfl ?_
  refine rx_getR (ci := 4) (i := 0) X (kc_242 hO) rfl rfl (by decide) inX4 flX4_12 dX4_arrivesBlown_1 ?_
  refine rx_aload_n (i := 1) X dX4_arrivesBlown_4 rfl rfl ?_
  refine rx_callVv (ci := 3) X vsX3_takeFrom mlX4_28 (kX3_tf hO hw (cb_fr.rfl' 243 σ)) (kb_0 hO cb_B243) rfl rfl (by decide) (by decide) dX4_arrivesBlown_5 rfl (Nat.le_of_ble_eq_true rfl) (fun t5 h5 => ?_)
  obtain ⟨h5f, h5⟩ := h5
  refine rx_iconst (v := 0) X dX4_arrivesBlown_8 (by decide) ?_
  refine rx_istore (i := 5) (lo2 := [(0, .ref _), (1, .ref _), (2, .int _), (3, .int _), (4, .int _), (5, .int _)]) X dX4_arrivesBlown_9 (by decide) rfl ?_
  exact loop n 0 _ _ (by omega) rfl h5f (h5.less (fun _ _ => trivial))
set_option maxHeartbeats 1000000 in
set_option maxRecDepth 100000 in
theorem kX4_casesOf {l : Launch} {O : rx_O} (hO : cb_O O) {σ : rx_S} {n q s0 : Nat} (hn : n ≤ 8) (hq : q ≤ 10) (hs : s0 < 256) : rx_ML l O yX4_casesOf cX4_casesOf 7 (some .long) 0 [.ref 242, .int (nI n), .int (nI q), .int (nI s0)] σ (fun r τ => lN (wd_p s0 q n) = r ∧ σ = τ) := by
  refine rx_Met_of (own := RX4) rfl hO.2.1 vsX4_casesOf.2.2.2.2.2 (Nat.le_of_ble_eq_true rfl) rfl (fun p e s m args below meth c X => ?_)
  have loop : ∀ (k : Nat) (i : Nat) (x : Int32) (z : Int64), (i + k = n) → (x = nI i) → (z = lN (wd_p s0 q i)) → rx_J O 7 p l e (rx_lv 0) s m args below meth c (rx_QL O below args s (fun r τ => lN (wd_p s0 q n) = r ∧ σ = τ)) 6 [(0, .ref 242), (1, .int (nI n)), (2, .int (nI q)), (3, .int (nI s0)), (4, .long z), (6, .int x)] [] σ := by
    intro k
    induction k with
    | zero =>
      intro i x z hi hx hz
      obtain rfl : i = n := by omega
      subst hx
      refine rx_iload (i := 6) X dX4_casesOf_6 rfl ?_
      refine rx_iload_n (i := 1) X dX4_casesOf_8 rfl rfl ?_
      refine rx_icmp_ge_t X dX4_casesOf_9 (Int32.le_refl _) ?_
      refine rx_lload (i := 4) X dX4_casesOf_42 rfl ?_
      refine rx_lret X dX4_casesOf_44 ?_
      exact ⟨hz.symm, rfl⟩
    | succ k ih =>
      intro i x z hi hx hz
      subst hx
      refine rx_iload (i := 6) X dX4_casesOf_6 rfl ?_
      refine rx_iload_n (i := 1) X dX4_casesOf_8 rfl rfl ?_
      refine rx_icmp_ge_f X dX4_casesOf_9 (nI_ge (by omega) (by omega)) ?_
      refine rx_lload (i := 4) X dX4_casesOf_12 rfl ?_
      refine rx_iload_n (i := 3) X dX4_casesOf_14 rfl rfl ?_
      refine rx_iload (i := 6) X dX4_casesOf_15 rfl ?_
      refine rx_ishr X dX4_casesOf_17 ?_
      refine rx_iconst (v := 1) X dX4_casesOf_18 (by decide) ?_
      refine rx_iand X dX4_casesOf_19 ?_
      refine rx_if_ne X dX4_casesOf_20 (fun h20 => ?_) (fun h20 => ?_)
      · have hh : w_has (nI s0) i := Decidable.of_not_not (fun q => h20 ((bl_bit s0 hs i (by omega)).mpr q))
        refine rx_iload_n (i := 2) X dX4_casesOf_31 rfl rfl ?_
        refine rx_i2l X dX4_casesOf_32 ?_
        refine rx_lmul X dX4_casesOf_33 ?_
        refine rx_lstore (i := 4) (lo2 := [(0, .ref _), (1, .int _), (2, .int _), (3, .int _), (4, .long _), (6, .int _)]) X dX4_casesOf_34 (by decide) rfl ?_
        refine rx_iinc (i := 6) (lo2 := [(0, .ref _), (1, .int _), (2, .int _), (3, .int _), (4, .long _), (6, .int _)]) X dX4_casesOf_36 rfl (rx_inc1 _) (by decide) rfl ?_
        refine rx_goto X dX4_casesOf_39 ?_
        refine ih (i + 1) _ _ (by omega) (nI_1 i) ?_
        rw [hz, wd_p, wd_f, if_pos hh, nI_l (by omega), lN_mul]
      · have hh := (bl_bit s0 hs i (by omega)).mp h20
        refine rx_bipush (v := 10) X dX4_casesOf_23 (by decide) ?_
        refine rx_iload_n (i := 2) X dX4_casesOf_25 rfl rfl ?_
        refine rx_isub X dX4_casesOf_26 ?_
        refine rx_i2l X dX4_casesOf_27 ?_
        refine rx_goto X dX4_casesOf_28 ?_
        refine rx_lmul X dX4_casesOf_33 ?_
        refine rx_lstore (i := 4) (lo2 := [(0, .ref _), (1, .int _), (2, .int _), (3, .int _), (4, .long _), (6, .int _)]) X dX4_casesOf_34 (by decide) rfl ?_
        refine rx_iinc (i := 6) (lo2 := [(0, .ref _), (1, .int _), (2, .int _), (3, .int _), (4, .long _), (6, .int _)]) X dX4_casesOf_36 rfl (rx_inc1 _) (by decide) rfl ?_
        refine rx_goto X dX4_casesOf_39 ?_
        refine ih (i + 1) _ _ (by omega) (nI_1 i) ?_
        rw [hz, wd_p, wd_f, if_neg hh, show (10 : Int32) = nI 10 from rfl, pk_sub (by omega), nI_l (by omega), lN_mul]
  refine rx_lconst (v := 1) X dX4_casesOf_0 (by decide) ?_
  refine rx_lstore (i := 4) (lo2 := [(0, .ref _), (1, .int _), (2, .int _), (3, .int _), (4, .long _)]) X dX4_casesOf_1 (by decide) rfl ?_
  refine rx_iconst (v := 0) X dX4_casesOf_3 (by decide) ?_
  refine rx_istore (i := 6) (lo2 := [(0, .ref _), (1, .int _), (2, .int _), (3, .int _), (4, .long _), (6, .int _)]) X dX4_casesOf_4 (by decide) rfl ?_
  exact loop n 0 _ _ (by omega) rfl rfl
def gl : Nat → Nat → Nat → Nat
  | 0, g, _ => g
  | k + 1, g, l => if l = 0 then g else gl k l (g % l)
theorem gl_gcd : ∀ k g l, l ≤ g → g * l < 2 ^ k → gl k g l = Nat.gcd g l
  | 0, g, l, h, h2 => by
    have e : l = 0 := by
      rcases Nat.eq_zero_or_pos l with e | e
      · exact e
      · exact absurd h2 (by have := Nat.mul_pos (Nat.lt_of_lt_of_le e h) e; simp only [Nat.pow_zero]; omega)
    rw [e, Nat.gcd_zero_right]
    rfl
  | k + 1, g, l, h, h2 => by
    show (if l = 0 then g else gl k l (g % l)) = _
    by_cases e : l = 0
    · rw [if_pos e, e, Nat.gcd_zero_right]
    · rw [if_neg e]
      have lp : 0 < l := Nat.pos_of_ne_zero e
      have r1 : g % l < l := Nat.mod_lt g lp
      have r2 := Nat.div_add_mod g l
      have r3 : 1 ≤ g / l := (Nat.one_le_div_iff lp).mpr h
      have r4 : l * 1 ≤ l * (g / l) := Nat.mul_le_mul_left l r3
      have r5 : 2 * (g % l) ≤ g := by omega
      have r6 : l * (2 * (g % l)) ≤ l * g := Nat.mul_le_mul_left l r5
      have r7 : l * (2 * (g % l)) = 2 * (l * (g % l)) := Nat.mul_left_comm l 2 (g % l)
      have r8 : 2 ^ (k + 1) = 2 * 2 ^ k := by rw [Nat.pow_succ, Nat.mul_comm]
      have r9 : l * g = g * l := Nat.mul_comm l g
      rw [gl_gcd k l (g % l) (Nat.le_of_lt r1) (by omega), Nat.gcd_comm l, ← Nat.gcd_rec, Nat.gcd_comm]
theorem gl_first {g l : Nat} (hl : l < 2 ^ 40) : gl 100 g l = Nat.gcd g l := by
  show (if l = 0 then g else gl 99 l (g % l)) = _
  by_cases e : l = 0
  · rw [if_pos e, e, Nat.gcd_zero_right]
  · rw [if_neg e]
    have r1 : g % l < l := Nat.mod_lt g (Nat.pos_of_ne_zero e)
    have r2 : l * (g % l) ≤ 2 ^ 40 * 2 ^ 40 := Nat.mul_le_mul (Nat.le_of_lt hl) (by omega)
    have r3 : (2 : Nat) ^ 40 * 2 ^ 40 < 2 ^ 99 := by decide
    rw [gl_gcd 99 l (g % l) (Nat.le_of_lt r1) (by omega), Nat.gcd_comm l, ← Nat.gcd_rec, Nat.gcd_comm]
set_option maxHeartbeats 1000000 in
set_option maxRecDepth 100000 in
theorem kX4_commonDivisor {l : Launch} {O : rx_O} (hO : cb_O O) {σ : rx_S} {g0 l0 : Nat} (hg0 : g0 < 2 ^ 40) (hl0 : l0 < 2 ^ 40) : rx_ML l O yX4_commonDivisor cX4_commonDivisor 12 (some .long) 0 [.ref 242, .long (lN g0), .long (lN l0)] σ (fun r τ => lN (Nat.gcd g0 l0) = r ∧ σ = τ) := by
  refine rx_Met_of (own := RX4) rfl hO.2.1 vsX4_commonDivisor.2.2.2.2.2 (Nat.le_of_ble_eq_true rfl) rfl (fun p e s m args below meth c X => ?_)
  have loop : ∀ (k : Nat) (i : Nat) (x : Int32) (g ll : Nat), (i + k = 100) → (x = nI i) → (g < 2 ^ 41) → (ll < 2 ^ 41) → (gl 100 g0 l0 = gl k g ll) → rx_J O 12 p l e (rx_lv 0) s m args below meth c (rx_QL O below args s (fun r τ => lN (Nat.gcd g0 l0) = r ∧ σ = τ)) 9 [(0, .ref 242), (1, .long (lN g0)), (3, .long (lN l0)), (5, .long (lN g)), (7, .long (lN ll)), (9, .int x)] [] σ := by
    intro k
    induction k with
    | zero =>
      intro i x g ll hi hx hg hl he
      obtain rfl : i = 100 := by omega
      subst hx
      refine rx_iload (i := 9) X dX4_commonDivisor_9 rfl ?_
      refine rx_bipush (v := 100) X dX4_commonDivisor_11 (by decide) ?_
      refine rx_icmp_ge_t X dX4_commonDivisor_13 (by decide) ?_
      refine rx_lload (i := 5) X dX4_commonDivisor_44 rfl ?_
      refine rx_lret X dX4_commonDivisor_46 ?_
      exact ⟨by rw [← gl_first hl0, he]; rfl, rfl⟩
    | succ k ih =>
      intro i x g ll hi hx hg hl he
      subst hx
      refine rx_iload (i := 9) X dX4_commonDivisor_9 rfl ?_
      refine rx_bipush (v := 100) X dX4_commonDivisor_11 (by decide) ?_
      refine rx_icmp_ge_f X dX4_commonDivisor_13 (nI_ge (b := 100) (by omega) (by decide)) ?_
      refine rx_lload (i := 7) X dX4_commonDivisor_16 rfl ?_
      refine rx_lconst (v := 0) X dX4_commonDivisor_18 (by decide) ?_
      refine rx_lcmp X dX4_commonDivisor_19 ?_
      refine rx_if_eq X dX4_commonDivisor_20 (fun h20 => ?_) (fun h20 => ?_)
      · rw [lg_cmp_eq, lN_0 (by omega)] at h20
        refine rx_lload (i := 5) X dX4_commonDivisor_44 rfl ?_
        refine rx_lret X dX4_commonDivisor_46 ?_
        exact ⟨by rw [← gl_first hl0, he]; exact congrArg lN (if_pos h20), rfl⟩
      · rw [lg_cmp_eq] at h20
        refine rx_lload (i := 5) X dX4_commonDivisor_23 rfl ?_
        refine rx_lload (i := 7) X dX4_commonDivisor_25 rfl ?_
        refine rx_lrem X dX4_commonDivisor_27 h20 ?_
        refine rx_lstore (i := 10) (lo2 := [(0, .ref _), (1, .long _), (3, .long _), (5, .long _), (7, .long _), (9, .int _), (10, .long _)]) X dX4_commonDivisor_28 (by decide) rfl ?_
        refine rx_lload (i := 7) X dX4_commonDivisor_30 rfl ?_
        refine rx_lstore (i := 5) (lo2 := [(0, .ref _), (1, .long _), (3, .long _), (5, .long _), (7, .long _), (9, .int _), (10, .long _)]) X dX4_commonDivisor_32 (by decide) rfl ?_
        refine rx_lload (i := 10) X dX4_commonDivisor_34 rfl ?_
        refine rx_lstore (i := 7) (lo2 := [(0, .ref _), (1, .long _), (3, .long _), (5, .long _), (7, .long _), (9, .int _), (10, .long _)]) X dX4_commonDivisor_36 (by decide) rfl ?_
        refine rx_iinc (i := 9) (lo2 := [(0, .ref _), (1, .long _), (3, .long _), (5, .long _), (7, .long _), (9, .int _), (10, .long _)]) X dX4_commonDivisor_38 rfl (rx_inc1 _) (by decide) rfl ?_
        refine rx_goto X dX4_commonDivisor_41 ?_
        refine (rx_less [0, 1, 2, 3, 4, 5] rfl) ?_
        rw [lN_0 (by omega)] at h20
        rw [lN_rm (by omega) (by omega) (by omega)]
        have r1 := Nat.mod_lt g (Nat.pos_of_ne_zero h20)
        exact ih (i + 1) _ _ _ (by omega) (nI_1 i) (by omega) (by omega) (by rw [he]; exact if_neg h20)
  refine rx_lload_n (i := 1) X dX4_commonDivisor_0 rfl rfl ?_
  refine rx_lstore (i := 5) (lo2 := [(0, .ref _), (1, .long _), (3, .long _), (5, .long _)]) X dX4_commonDivisor_1 (by decide) rfl ?_
  refine rx_lload_n (i := 3) X dX4_commonDivisor_3 rfl rfl ?_
  refine rx_lstore (i := 7) (lo2 := [(0, .ref _), (1, .long _), (3, .long _), (5, .long _), (7, .long _)]) X dX4_commonDivisor_4 (by decide) rfl ?_
  refine rx_iconst (v := 0) X dX4_commonDivisor_6 (by decide) ?_
  refine rx_istore (i := 9) (lo2 := [(0, .ref _), (1, .long _), (3, .long _), (5, .long _), (7, .long _), (9, .int _)]) X dX4_commonDivisor_7 (by decide) rfl ?_
  exact loop 100 0 _ _ _ rfl rfl (by omega) (by omega) rfl
