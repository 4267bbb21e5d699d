set_option maxHeartbeats 4000000 in
set_option maxRecDepth 100000 in
theorem kX8_isAnt {l : Launch} {O : rx_O} (hO : mo_O O) {σ : rx_S} {x : Int32} (h3 : 0 ≤ (σ.1 4 3).toInt) : rx_MI l O yX8_isAnt cX8_isAnt 2 (some .boolean) 1 [.ref 0, .int x] σ (fun r τ => σ = τ ∧ rx_b (0 ≤ x.toInt ∧ x.toInt < (σ.1 4 3).toInt) r) := by
  refine rx_Met_of (own := RX8) rfl hO.2.1 vsX8_isAnt.2.2.2.2.2 (Nat.le_of_ble_eq_true rfl) rfl (fun p e s m args below meth c X => ?_)
  refine rx_iload_n (i := 1) X dX8_isAnt_0 rfl rfl ?_
  refine rx_i2l X dX8_isAnt_1 ?_
  refine rx_lconst (v := 0) X dX8_isAnt_2 (by decide) ?_
  refine rx_aload_n (i := 0) X dX8_isAnt_3 rfl rfl ?_
  refine rx_getR (ci := 8) (i := 5) X (km_0 hO) rfl rfl (by decide) inX8 flX8_19 dX8_isAnt_4 ?_
  refine rx_iconst (v := 3) X dX8_isAnt_7 (by decide) ?_
  refine rx_ialdN (j := 3) X (km_4 hO) hO.2.2.1 rfl (by decide) (by decide) dX8_isAnt_8 ?_
  refine rx_iconst (v := 1) X dX8_isAnt_9 (by decide) ?_
  refine rx_isub X dX8_isAnt_10 ?_
  refine rx_i2l X dX8_isAnt_11 ?_
  refine rx_callTi X vsX8_in mlX8_63 (kX8_inI hO (A := 0) rfl ((Int32.toInt_toInt64 _).trans (rx_sub1 h3))) rfl (by decide) (by decide) dX8_isAnt_12 rfl (Nat.le_of_ble_eq_true rfl) (fun r12 t12 h12 => ?_)
  obtain ⟨rfl, ⟨rfl, h12⟩ | ⟨rfl, h12⟩⟩ := h12
  · refine rx_zret X dX8_isAnt_15 rfl ?_
    exact ⟨rfl, by first | exact Or.inl ⟨rfl, by omega⟩ | exact Or.inr ⟨rfl, by omega⟩⟩
  · refine rx_zret X dX8_isAnt_15 rfl ?_
    exact ⟨rfl, by first | exact Or.inl ⟨rfl, by omega⟩ | exact Or.inr ⟨rfl, by omega⟩⟩
set_option maxHeartbeats 4000000 in
set_option maxRecDepth 100000 in
theorem kX8_isNailward {l : Launch} {O : rx_O} (hO : mo_O O) {σ : rx_S} {a : Nat} (ha : a < 6) : rx_MI l O yX8_isNailward cX8_isNailward 3 (some .boolean) 0 [.ref 0, .int (nI a)] σ (fun r τ => σ = τ ∧ rx_b (w_nail (σ.1 4) a) r) := by
  refine rx_Met_of (own := RX8) rfl hO.2.1 vsX8_isNailward.2.2.2.2.2 (Nat.le_of_ble_eq_true rfl) rfl (fun p e s m args below meth c X => ?_)
  refine rx_aload_n (i := 0) X dX8_isNailward_0 rfl rfl ?_
  refine rx_getR (ci := 8) (i := 5) X (km_0 hO) rfl rfl (by decide) inX8 flX8_19 dX8_isNailward_1 ?_
  refine rx_bipush (v := 10) X dX8_isNailward_4 (by decide) ?_
  refine rx_iload_n (i := 1) X dX8_isNailward_6 rfl rfl ?_
  refine rx_iadd X dX8_isNailward_7 ?_
  refine rx_ialdN (j := 10 + a) X (km_4 hO) hO.2.2.1 (nI_add 10 a) (by omega) (by decide) dX8_isNailward_8 ?_
  refine rx_istore_n (i := 2) (lo2 := [(0, .ref _), (1, .int _), (2, .int _)]) X dX8_isNailward_9 rfl (by decide) rfl ?_
  refine rx_iload_n (i := 2) X dX8_isNailward_10 rfl rfl ?_
  refine rx_iconst (v := 4) X dX8_isNailward_11 (by decide) ?_
  refine rx_icmp_eq X dX8_isNailward_12 (fun h12 => ?_) (fun h12 => ?_)
  · refine rx_iconst (v := 1) X dX8_isNailward_41 (by decide) ?_
    refine rx_goto X dX8_isNailward_42 ?_
    refine rx_zret X dX8_isNailward_46 rfl ?_
    refine ⟨rfl, ?_⟩
    first | exact Or.inl ⟨rfl, Or.inl h12⟩ | exact Or.inl ⟨rfl, Or.inr ⟨h17, Int32.not_le.mp h38⟩⟩ | exact Or.inr ⟨rfl, fun q => q.elim h12 (fun q => absurd q.2 (Int32.not_lt.mpr h38))⟩ | exact Or.inr ⟨rfl, fun q => q.elim h12 (fun q => h17 q.1)⟩
  · refine rx_iload_n (i := 2) X dX8_isNailward_15 rfl rfl ?_
    refine rx_iconst (v := 5) X dX8_isNailward_16 (by decide) ?_
    refine rx_icmp_ne X dX8_isNailward_17 (fun h17 => ?_) (fun h17 => ?_)
    · refine rx_iconst (v := 0) X dX8_isNailward_45 (by decide) ?_
      refine rx_zret X dX8_isNailward_46 rfl ?_
      refine ⟨rfl, ?_⟩
      first | exact Or.inl ⟨rfl, Or.inl h12⟩ | exact Or.inl ⟨rfl, Or.inr ⟨h17, Int32.not_le.mp h38⟩⟩ | exact Or.inr ⟨rfl, fun q => q.elim h12 (fun q => absurd q.2 (Int32.not_lt.mpr h38))⟩ | exact Or.inr ⟨rfl, fun q => q.elim h12 (fun q => h17 q.1)⟩
    · refine rx_aload_n (i := 0) X dX8_isNailward_20 rfl rfl ?_
      refine rx_getR (ci := 8) (i := 5) X (km_0 hO) rfl rfl (by decide) inX8 flX8_19 dX8_isNailward_21 ?_
      refine rx_iconst (v := 1) X dX8_isNailward_24 (by decide) ?_
      refine rx_ialdN (j := 1) X (km_4 hO) hO.2.2.1 rfl (by decide) (by decide) dX8_isNailward_25 ?_
      refine rx_bipush (v := 10) X dX8_isNailward_26 (by decide) ?_
      refine rx_aload_n (i := 0) X dX8_isNailward_28 rfl rfl ?_
      refine rx_getR (ci := 8) (i := 5) X (km_0 hO) rfl rfl (by decide) inX8 flX8_19 dX8_isNailward_29 ?_
      refine rx_bipush (v := 28) X dX8_isNailward_32 (by decide) ?_
      refine rx_iload_n (i := 1) X dX8_isNailward_34 rfl rfl ?_
      refine rx_iadd X dX8_isNailward_35 ?_
      refine rx_ialdN (j := 28 + a) X (km_4 hO) hO.2.2.1 (nI_add 28 a) (by omega) (by decide) dX8_isNailward_36 ?_
      refine rx_imul X dX8_isNailward_37 ?_
      refine rx_icmp_ge X dX8_isNailward_38 (fun h38 => ?_) (fun h38 => ?_)
      · refine rx_iconst (v := 0) X dX8_isNailward_45 (by decide) ?_
        refine rx_zret X dX8_isNailward_46 rfl ?_
        refine ⟨rfl, ?_⟩
        first | exact Or.inl ⟨rfl, Or.inl h12⟩ | exact Or.inl ⟨rfl, Or.inr ⟨h17, Int32.not_le.mp h38⟩⟩ | exact Or.inr ⟨rfl, fun q => q.elim h12 (fun q => absurd q.2 (Int32.not_lt.mpr h38))⟩ | exact Or.inr ⟨rfl, fun q => q.elim h12 (fun q => h17 q.1)⟩
      · refine rx_iconst (v := 1) X dX8_isNailward_41 (by decide) ?_
        refine rx_goto X dX8_isNailward_42 ?_
        refine rx_zret X dX8_isNailward_46 rfl ?_
        refine ⟨rfl, ?_⟩
        first | exact Or.inl ⟨rfl, Or.inl h12⟩ | exact Or.inl ⟨rfl, Or.inr ⟨h17, Int32.not_le.mp h38⟩⟩ | exact Or.inr ⟨rfl, fun q => q.elim h12 (fun q => absurd q.2 (Int32.not_lt.mpr h38))⟩ | exact Or.inr ⟨rfl, fun q => q.elim h12 (fun q => h17 q.1)⟩
set_option maxHeartbeats 4000000 in
set_option maxRecDepth 100000 in
theorem kX8_gaitOf {l : Launch} {O : rx_O} (hO : mo_O O) {σ : rx_S} {a : Nat} (ha : a < 6) (hr : ¬ σ.1 4 (28 + a) = 0) : rx_MI l O yX8_gaitOf cX8_gaitOf 3 (some .int) 1 [.ref 0, .int (nI a)] σ (fun r τ => w_gait (σ.1 4) a = r ∧ σ = τ) := by
  refine rx_Met_of (own := RX8) rfl hO.2.1 vsX8_gaitOf.2.2.2.2.2 (Nat.le_of_ble_eq_true rfl) rfl (fun p e s m args below meth c X => ?_)
  refine rx_aload_n (i := 0) X dX8_gaitOf_0 rfl rfl ?_
  refine rx_getR (ci := 8) (i := 5) X (km_0 hO) rfl rfl (by decide) inX8 flX8_19 dX8_gaitOf_1 ?_
  refine rx_bipush (v := 16) X dX8_gaitOf_4 (by decide) ?_
  refine rx_iload_n (i := 1) X dX8_gaitOf_6 rfl rfl ?_
  refine rx_iadd X dX8_gaitOf_7 ?_
  refine rx_ialdN (j := 16 + a) X (km_4 hO) hO.2.2.1 (nI_add 16 a) (by omega) (by decide) dX8_gaitOf_8 ?_
  refine rx_istore_n (i := 2) (lo2 := [(0, .ref _), (1, .int _), (2, .int _)]) X dX8_gaitOf_9 rfl (by decide) rfl ?_
  refine rx_aload_n (i := 0) X dX8_gaitOf_10 rfl rfl ?_
  refine rx_getR (ci := 8) (i := 5) X (km_0 hO) rfl rfl (by decide) inX8 flX8_19 dX8_gaitOf_11 ?_
  refine rx_bipush (v := 10) X dX8_gaitOf_14 (by decide) ?_
  refine rx_iload_n (i := 1) X dX8_gaitOf_16 rfl rfl ?_
  refine rx_iadd X dX8_gaitOf_17 ?_
  refine rx_ialdN (j := 10 + a) X (km_4 hO) hO.2.2.1 (nI_add 10 a) (by omega) (by decide) dX8_gaitOf_18 ?_
  rcases w_kind3 (σ.1 4 (10 + a)) with hk | hk | hk
  · refine rx_lookup (tgt := 44) X dX8_gaitOf_19 rfl (by rw [hk] <;> rfl) rfl ?_
    refine rx_aload_n (i := 0) X dX8_gaitOf_44 rfl rfl ?_
    refine rx_getR (ci := 8) (i := 5) X (km_0 hO) rfl rfl (by decide) inX8 flX8_19 dX8_gaitOf_45 ?_
    refine rx_iconst (v := 1) X dX8_gaitOf_48 (by decide) ?_
    refine rx_ialdN (j := 1) X (km_4 hO) hO.2.2.1 rfl (by decide) (by decide) dX8_gaitOf_49 ?_
    refine rx_aload_n (i := 0) X dX8_gaitOf_50 rfl rfl ?_
    refine rx_getR (ci := 8) (i := 5) X (km_0 hO) rfl rfl (by decide) inX8 flX8_19 dX8_gaitOf_51 ?_
    refine rx_bipush (v := 28) X dX8_gaitOf_54 (by decide) ?_
    refine rx_iload_n (i := 1) X dX8_gaitOf_56 rfl rfl ?_
    refine rx_iadd X dX8_gaitOf_57 ?_
    refine rx_ialdN (j := 28 + a) X (km_4 hO) hO.2.2.1 (nI_add 28 a) (by omega) (by decide) dX8_gaitOf_58 ?_
    refine rx_irem X dX8_gaitOf_59 hr ?_
    refine rx_if_ne X dX8_gaitOf_60 (fun h60 => ?_) (fun h60 => ?_)
    · refine rx_iload_n (i := 2) X dX8_gaitOf_67 rfl rfl ?_
      refine rx_iret X dX8_gaitOf_68 ?_
      refine ⟨?_, rfl⟩
      unfold w_gait
      first | rw [if_pos hk, if_pos h60] | rw [if_pos hk, if_neg h60] | (rw [if_neg (by rw [hk]; decide), if_pos hk]) | (rw [if_neg hk.1, if_neg hk.2, if_pos h86]) | (rw [if_neg hk.1, if_neg hk.2, if_neg h86])
    · refine rx_iconst (v := 0) X dX8_gaitOf_63 (by decide) ?_
      refine rx_goto X dX8_gaitOf_64 ?_
      refine rx_iret X dX8_gaitOf_68 ?_
      refine ⟨?_, rfl⟩
      unfold w_gait
      first | rw [if_pos hk, if_pos h60] | rw [if_pos hk, if_neg h60] | (rw [if_neg (by rw [hk]; decide), if_pos hk]) | (rw [if_neg hk.1, if_neg hk.2, if_pos h86]) | (rw [if_neg hk.1, if_neg hk.2, if_neg h86])
  · refine rx_lookup (tgt := 69) X dX8_gaitOf_19 rfl (by rw [hk] <;> rfl) rfl ?_
    refine rx_iload_n (i := 2) X dX8_gaitOf_69 rfl rfl ?_
    refine rx_aload_n (i := 0) X dX8_gaitOf_70 rfl rfl ?_
    refine rx_getR (ci := 8) (i := 5) X (km_0 hO) rfl rfl (by decide) inX8 flX8_19 dX8_gaitOf_71 ?_
    refine rx_bipush (v := 34) X dX8_gaitOf_74 (by decide) ?_
    refine rx_iload_n (i := 1) X dX8_gaitOf_76 rfl rfl ?_
    refine rx_iadd X dX8_gaitOf_77 ?_
    refine rx_ialdN (j := 34 + a) X (km_4 hO) hO.2.2.1 (nI_add 34 a) (by omega) (by decide) dX8_gaitOf_78 ?_
    refine rx_ldc X dX8_gaitOf_79 kcX8_151 ?_
    refine rx_idiv X dX8_gaitOf_81 (by decide) ?_
    refine rx_iadd X dX8_gaitOf_82 ?_
    refine rx_iret X dX8_gaitOf_83 ?_
    refine ⟨?_, rfl⟩
    unfold w_gait
    first | rw [if_pos hk, if_pos h60] | rw [if_pos hk, if_neg h60] | (rw [if_neg (by rw [hk]; decide), if_pos hk]) | (rw [if_neg hk.1, if_neg hk.2, if_pos h86]) | (rw [if_neg hk.1, if_neg hk.2, if_neg h86])
  · refine rx_lookup (tgt := 84) (off := 65) X dX8_gaitOf_19 rfl (by have e2 : ¬ (σ.1 4 (10 + a)).toInt = 2 := fun q => hk.1 (Int32.toInt_inj.mp q); have e3 : ¬ (σ.1 4 (10 + a)).toInt = 3 := fun q => hk.2 (Int32.toInt_inj.mp q); simp [Op.lookupswitch.offset, Ne.symm e2, Ne.symm e3, e2, e3]) rfl ?_
    refine rx_aload_n (i := 0) X dX8_gaitOf_84 rfl rfl ?_
    refine rx_iload_n (i := 1) X dX8_gaitOf_85 rfl rfl ?_
    refine rx_callVi (ci := 8) X vsX8_isNailward mlX8_152 (kX8_isNailward hO (by omega)) (km_0 hO) rfl rfl (by decide) (by decide) dX8_gaitOf_86 rfl (Nat.le_of_ble_eq_true rfl) (fun r86 t86 h86 => ?_)
    obtain ⟨rfl, ⟨rfl, h86⟩ | ⟨rfl, h86⟩⟩ := h86
    · refine rx_if_eq_f X dX8_gaitOf_89 (by decide) ?_
      refine rx_iload_n (i := 2) X dX8_gaitOf_92 rfl rfl ?_
      refine rx_ineg X dX8_gaitOf_93 ?_
      refine rx_goto X dX8_gaitOf_94 ?_
      refine rx_iret X dX8_gaitOf_98 ?_
      refine ⟨?_, rfl⟩
      unfold w_gait
      first | rw [if_pos hk, if_pos h60] | rw [if_pos hk, if_neg h60] | (rw [if_neg (by rw [hk]; decide), if_pos hk]) | (rw [if_neg hk.1, if_neg hk.2, if_pos h86]) | (rw [if_neg hk.1, if_neg hk.2, if_neg h86])
    · refine rx_if_eq_t X dX8_gaitOf_89 (by decide) ?_
      refine rx_iload_n (i := 2) X dX8_gaitOf_97 rfl rfl ?_
      refine rx_iret X dX8_gaitOf_98 ?_
      refine ⟨?_, rfl⟩
      unfold w_gait
      first | rw [if_pos hk, if_pos h60] | rw [if_pos hk, if_neg h60] | (rw [if_neg (by rw [hk]; decide), if_pos hk]) | (rw [if_neg hk.1, if_neg hk.2, if_pos h86]) | (rw [if_neg hk.1, if_neg hk.2, if_neg h86])
set_option maxHeartbeats 4000000 in
set_option maxRecDepth 100000 in
theorem kX8_goOne {l : Launch} {O : rx_O} (hO : mo_O O) {σ : rx_S} {a : Nat} (ha : a < 6) (hr : ¬ σ.1 4 (28 + a) = 0) (h0 : ¬ σ.1 4 0 = 0) : rx_MV l O yX8_goOne cX8_goOne 4 none 2 [.ref 0, .int (nI a)] σ (fun τ => rx_ua σ 4 (w_go (σ.1 4) a) = τ) := by
  refine rx_Met_of (own := RX8) rfl hO.2.1 vsX8_goOne.2.2.2.2.2 (Nat.le_of_ble_eq_true rfl) rfl (fun p e s m args below meth c X => ?_)
  refine rx_aload_n (i := 0) X dX8_goOne_0 rfl rfl ?_
  refine rx_getR (ci := 8) (i := 5) X (km_0 hO) rfl rfl (by decide) inX8 flX8_19 dX8_goOne_1 ?_
  refine rx_bipush (v := 34) X dX8_goOne_4 (by decide) ?_
  refine rx_iload_n (i := 1) X dX8_goOne_6 rfl rfl ?_
  refine rx_iadd X dX8_goOne_7 ?_
  refine rx_ialdN (j := 34 + a) X (km_4 hO) hO.2.2.1 (nI_add 34 a) (by omega) (by decide) dX8_goOne_8 ?_
  refine rx_aload_n (i := 0) X dX8_goOne_9 rfl rfl ?_
  refine rx_iload_n (i := 1) X dX8_goOne_10 rfl rfl ?_
  refine rx_callVi (ci := 8) X vsX8_gaitOf mlX8_155 (kX8_gaitOf hO (by omega) hr) (km_0 hO) rfl rfl (by decide) (by decide) dX8_goOne_11 rfl (Nat.le_of_ble_eq_true rfl) (fun r11 t11 h11 => ?_)
  obtain ⟨rfl, rfl⟩ := h11
  refine rx_ldc X dX8_goOne_14 kcX8_158 ?_
  refine rx_imul X dX8_goOne_16 ?_
  refine rx_aload_n (i := 0) X dX8_goOne_17 rfl rfl ?_
  refine rx_getR (ci := 8) (i := 5) X (km_0 hO) rfl rfl (by decide) inX8 flX8_19 dX8_goOne_18 ?_
  refine rx_iconst (v := 0) X dX8_goOne_21 (by decide) ?_
  refine rx_ialdN (j := 0) X (km_4 hO) hO.2.2.1 rfl (by decide) (by decide) dX8_goOne_22 ?_
  refine rx_idiv X dX8_goOne_23 h0 ?_
  refine rx_iadd X dX8_goOne_24 ?_
  refine rx_istore_n (i := 2) (lo2 := [(0, .ref _), (1, .int _), (2, .int _)]) X dX8_goOne_25 rfl (by decide) rfl ?_
  refine rx_aload_n (i := 0) X dX8_goOne_26 rfl rfl ?_
  refine rx_iload_n (i := 1) X dX8_goOne_27 rfl rfl ?_
  refine rx_callVi (ci := 8) X vsX8_isNailward mlX8_152 (kX8_isNailward hO (by omega)) (km_0 hO) rfl rfl (by decide) (by decide) dX8_goOne_28 rfl (Nat.le_of_ble_eq_true rfl) (fun r28 t28 h28 => ?_)
  obtain ⟨rfl, ⟨rfl, h28⟩ | ⟨rfl, h28⟩⟩ := h28
  · refine rx_istore_n (i := 3) (lo2 := [(0, .ref _), (1, .int _), (2, .int _), (3, .int _)]) X dX8_goOne_31 rfl (by decide) rfl ?_
    refine rx_iload_n (i := 3) X dX8_goOne_32 rfl rfl ?_
    refine rx_if_eq_f X dX8_goOne_33 (by decide) ?_
    refine rx_iload_n (i := 2) X dX8_goOne_36 rfl rfl ?_
    refine rx_if_gt X dX8_goOne_37 (fun h37 => ?_) (fun h37 => ?_)
    · refine rx_aload_n (i := 0) X dX8_goOne_72 rfl rfl ?_
      refine rx_getR (ci := 8) (i := 5) X (km_0 hO) rfl rfl (by decide) inX8 flX8_19 dX8_goOne_73 ?_
      refine rx_bipush (v := 34) X dX8_goOne_76 (by decide) ?_
      refine rx_iload_n (i := 1) X dX8_goOne_78 rfl rfl ?_
      refine rx_iadd X dX8_goOne_79 ?_
      refine rx_iload_n (i := 2) X dX8_goOne_80 rfl rfl ?_
      refine rx_iastN (j := 34 + a) X (km_4 hO) hO.2.2.1 (nI_add 34 a) (by omega) (by decide) dX8_goOne_81 ?_
      refine rx_vret X dX8_goOne_82 ?_
      first | rw [w_go_A h28 h37] | rw [w_go_B h28 h37] | rw [w_go_C h28 h46] | rw [w_go_D h28 h46]
      simp only [rx_u_eq, rx_ua_s, rx_ua_ua]
      first | rfl | done
    · refine rx_goto X dX8_goOne_40 ?_
      refine rx_iload_n (i := 3) X dX8_goOne_49 rfl rfl ?_
      refine rx_if_eq_f X dX8_goOne_50 (by decide) ?_
      refine rx_iconst (v := 0) X dX8_goOne_53 (by decide) ?_
      refine rx_goto X dX8_goOne_54 ?_
      refine rx_istore_n (i := 2) (lo2 := [(0, .ref _), (1, .int _), (2, .int _), (3, .int _)]) X dX8_goOne_59 rfl (by decide) rfl ?_
      refine rx_aload_n (i := 0) X dX8_goOne_60 rfl rfl ?_
      refine rx_getR (ci := 8) (i := 5) X (km_0 hO) rfl rfl (by decide) inX8 flX8_19 dX8_goOne_61 ?_
      refine rx_iconst (v := 4) X dX8_goOne_64 (by decide) ?_
      refine rx_dup2 X dX8_goOne_65 rfl rfl ?_
      refine rx_ialdN (j := 4) X (km_4 hO) hO.2.2.1 rfl (by decide) (by decide) dX8_goOne_66 ?_
      refine rx_iconst (v := 1) X dX8_goOne_67 (by decide) ?_
      refine rx_iload_n (i := 1) X dX8_goOne_68 rfl rfl ?_
      refine rx_ishl X dX8_goOne_69 ?_
      refine rx_ior X dX8_goOne_70 ?_
      refine rx_iastN (j := 4) X (km_4 hO) hO.2.2.1 rfl (by decide) (by decide) dX8_goOne_71 ?_
      refine rx_aload_n (i := 0) X dX8_goOne_72 rfl rfl ?_
      refine rx_getR (ci := 8) (i := 5) X (km_0 hO) rfl rfl (by decide) inX8 flX8_19 dX8_goOne_73 ?_
      refine rx_bipush (v := 34) X dX8_goOne_76 (by decide) ?_
      refine rx_iload_n (i := 1) X dX8_goOne_78 rfl rfl ?_
      refine rx_iadd X dX8_goOne_79 ?_
      refine rx_iload_n (i := 2) X dX8_goOne_80 rfl rfl ?_
      refine rx_iastN (j := 34 + a) X (km_4 hO) hO.2.2.1 (nI_add 34 a) (by omega) (by decide) dX8_goOne_81 ?_
      refine rx_vret X dX8_goOne_82 ?_
      first | rw [w_go_A h28 h37] | rw [w_go_B h28 h37] | rw [w_go_C h28 h46] | rw [w_go_D h28 h46]
      simp only [rx_u_eq, rx_ua_s, rx_ua_ua]
      first | rfl | done
  · refine rx_istore_n (i := 3) (lo2 := [(0, .ref _), (1, .int _), (2, .int _), (3, .int _)]) X dX8_goOne_31 rfl (by decide) rfl ?_
    refine rx_iload_n (i := 3) X dX8_goOne_32 rfl rfl ?_
    refine rx_if_eq_t X dX8_goOne_33 (by decide) ?_
    refine rx_iload_n (i := 2) X dX8_goOne_43 rfl rfl ?_
    refine rx_ldc X dX8_goOne_44 kcX8_158 ?_
    refine rx_icmp_lt X dX8_goOne_46 (fun h46 => ?_) (fun h46 => ?_)
    · refine rx_aload_n (i := 0) X dX8_goOne_72 rfl rfl ?_
      refine rx_getR (ci := 8) (i := 5) X (km_0 hO) rfl rfl (by decide) inX8 flX8_19 dX8_goOne_73 ?_
      refine rx_bipush (v := 34) X dX8_goOne_76 (by decide) ?_
      refine rx_iload_n (i := 1) X dX8_goOne_78 rfl rfl ?_
      refine rx_iadd X dX8_goOne_79 ?_
      refine rx_iload_n (i := 2) X dX8_goOne_80 rfl rfl ?_
      refine rx_iastN (j := 34 + a) X (km_4 hO) hO.2.2.1 (nI_add 34 a) (by omega) (by decide) dX8_goOne_81 ?_
      refine rx_vret X dX8_goOne_82 ?_
      first | rw [w_go_A h28 h37] | rw [w_go_B h28 h37] | rw [w_go_C h28 h46] | rw [w_go_D h28 h46]
      simp only [rx_u_eq, rx_ua_s, rx_ua_ua]
      first | rfl | done
    · refine rx_iload_n (i := 3) X dX8_goOne_49 rfl rfl ?_
      refine rx_if_eq_t X dX8_goOne_50 (by decide) ?_
      refine rx_ldc X dX8_goOne_57 kcX8_158 ?_
      refine rx_istore_n (i := 2) (lo2 := [(0, .ref _), (1, .int _), (2, .int _), (3, .int _)]) X dX8_goOne_59 rfl (by decide) rfl ?_
      refine rx_aload_n (i := 0) X dX8_goOne_60 rfl rfl ?_
      refine rx_getR (ci := 8) (i := 5) X (km_0 hO) rfl rfl (by decide) inX8 flX8_19 dX8_goOne_61 ?_
      refine rx_iconst (v := 4) X dX8_goOne_64 (by decide) ?_
      refine rx_dup2 X dX8_goOne_65 rfl rfl ?_
      refine rx_ialdN (j := 4) X (km_4 hO) hO.2.2.1 rfl (by decide) (by decide) dX8_goOne_66 ?_
      refine rx_iconst (v := 1) X dX8_goOne_67 (by decide) ?_
      refine rx_iload_n (i := 1) X dX8_goOne_68 rfl rfl ?_
      refine rx_ishl X dX8_goOne_69 ?_
      refine rx_ior X dX8_goOne_70 ?_
      refine rx_iastN (j := 4) X (km_4 hO) hO.2.2.1 rfl (by decide) (by decide) dX8_goOne_71 ?_
      refine rx_aload_n (i := 0) X dX8_goOne_72 rfl rfl ?_
      refine rx_getR (ci := 8) (i := 5) X (km_0 hO) rfl rfl (by decide) inX8 flX8_19 dX8_goOne_73 ?_
      refine rx_bipush (v := 34) X dX8_goOne_76 (by decide) ?_
      refine rx_iload_n (i := 1) X dX8_goOne_78 rfl rfl ?_
      refine rx_iadd X dX8_goOne_79 ?_
      refine rx_iload_n (i := 2) X dX8_goOne_80 rfl rfl ?_
      refine rx_iastN (j := 34 + a) X (km_4 hO) hO.2.2.1 (nI_add 34 a) (by omega) (by decide) dX8_goOne_81 ?_
      refine rx_vret X dX8_goOne_82 ?_
      first | rw [w_go_A h28 h37] | rw [w_go_B h28 h37] | rw [w_go_C h28 h46] | rw [w_go_D h28 h46]
      simp only [rx_u_eq, rx_ua_s, rx_ua_ua]
      first | rfl | done
set_option maxHeartbeats 4000000 in
set_option maxRecDepth 100000 in
theorem kX8_goMinute {l : Launch} {O : rx_O} (hO : mo_O O) {σ : rx_S} {inches : Int32} (h3 : 0 ≤ (σ.1 4 3).toInt ∧ (σ.1 4 3).toInt ≤ 6) (hr : ∀ a, a < rx_N (σ.1 4 3) → ¬ σ.1 4 (28 + a) = 0) (h0 : ¬ σ.1 4 0 = 0) : rx_MV l O yX8_goMinute cX8_goMinute 3 none 3 [.ref 0, .int inches] σ (fun τ => rx_ua σ 4 (w_min (σ.1 0 6) inches (σ.1 4)) = τ) := by
  refine rx_Met_of (own := RX8) rfl hO.2.1 vsX8_goMinute.2.2.2.2.2 (Nat.le_of_ble_eq_true rfl) rfl (fun p e s m args below meth c X => ?_)
  have loop : ∀ (k : Nat) (i : Nat) (x : Int32) (τ : rx_S), (i + k = rx_N (σ.1 4 3)) → (x = nI i) → (τ = rx_ua σ 4 (w_all (σ.1 0 6) i (σ.1 4))) → rx_J O 3 p l e (rx_lv 3) s m args below meth c (rx_QV O below args s (fun τ => rx_ua σ 4 (w_min (σ.1 0 6) inches (σ.1 4)) = τ)) 2 [(0, .ref 0), (1, .int inches), (2, .int x)] [] τ := by
    intro k
    induction k with
    | zero =>
      intro i x τ hi hx hτ
      have n3 := rx_Ni (x := σ.1 4 3) (by omega)
      have e3 : τ.1 4 3 = σ.1 4 3 := by rw [hτ, rx_ua_s, w_all_n (by decide) (fun a _ => by omega)]
      have e0 : τ.1 4 0 = σ.1 4 0 := by rw [hτ, rx_ua_s, w_all_n (by decide) (fun a _ => by omega)]
      have e6 : τ.1 0 6 = σ.1 0 6 := by rw [hτ, rx_ua_ne (by decide)]
      have e4 : τ.1 4 4 = w_all (σ.1 0 6) i (σ.1 4) 4 := by rw [hτ, rx_ua_s]
      have e28 : ∀ a, a < 6 → τ.1 4 (28 + a) = σ.1 4 (28 + a) := fun a ha => by rw [hτ, rx_ua_s, w_all_n (by omega) (fun b _ => by omega)]
      have eN : rx_nN (x := σ.1 4 3) (by omega) = rx_nN (x := σ.1 4 3) (by omega) := rfl
      obtain rfl : i = rx_N (σ.1 4 3) := by omega
      refine rx_iload_n (i := 2) X dX8_goMinute_2 rfl rfl ?_
      refine rx_aload_n (i := 0) X dX8_goMinute_3 rfl rfl ?_
      refine rx_getR (ci := 8) (i := 5) X (km_0 hO) rfl rfl (by decide) inX8 flX8_19 dX8_goMinute_4 ?_
      refine rx_iconst (v := 3) X dX8_goMinute_7 (by decide) ?_
      refine rx_ialdN (j := 3) X (km_4 hO) hO.2.2.1 rfl (by decide) (by decide) dX8_goMinute_8 ?_
      refine rx_top e3 ?_
      refine rx_icmp_ge_t X dX8_goMinute_9 (by rw [hx, ← rx_nN (x := σ.1 4 3) (by omega)]; exact Int32.le_refl _) ?_
      refine rx_aload_n (i := 0) X dX8_goMinute_44 rfl rfl ?_
      refine rx_getR (ci := 8) (i := 5) X (km_0 hO) rfl rfl (by decide) inX8 flX8_19 dX8_goMinute_45 ?_
      refine rx_iconst (v := 0) X dX8_goMinute_48 (by decide) ?_
      refine rx_ialdN (j := 0) X (km_4 hO) hO.2.2.1 rfl (by decide) (by decide) dX8_goMinute_49 ?_
      refine rx_iload_n (i := 1) X dX8_goMinute_50 rfl rfl ?_
      refine rx_iadd X dX8_goMinute_51 ?_
      refine rx_istore_n (i := 2) (lo2 := [(0, .ref _), (1, .int _), (2, .int _)]) X dX8_goMinute_52 rfl (by decide) rfl ?_
      refine rx_aload_n (i := 0) X dX8_goMinute_53 rfl rfl ?_
      refine rx_getR (ci := 8) (i := 5) X (km_0 hO) rfl rfl (by decide) inX8 flX8_19 dX8_goMinute_54 ?_
      refine rx_iconst (v := 0) X dX8_goMinute_57 (by decide) ?_
      refine rx_iload_n (i := 2) X dX8_goMinute_58 rfl rfl ?_
      refine rx_sipush (v := 9999) X dX8_goMinute_59 (by decide) ?_
      refine rx_icmp_le X dX8_goMinute_62 (fun h62 => ?_) (fun h62 => ?_)
      · refine rx_iload_n (i := 2) X dX8_goMinute_71 rfl rfl ?_
        refine rx_iastN (j := 0) X (km_4 hO) hO.2.2.1 rfl (by decide) (by decide) dX8_goMinute_72 ?_
        refine rx_aload_n (i := 0) X dX8_goMinute_73 rfl rfl ?_
        refine rx_getR (ci := 8) (i := 5) X (km_0 hO) rfl rfl (by decide) inX8 flX8_19 dX8_goMinute_74 ?_
        refine rx_iconst (v := 1) X dX8_goMinute_77 (by decide) ?_
        refine rx_dup2 X dX8_goMinute_78 rfl rfl ?_
        refine rx_ialdN (j := 1) X (km_4 hO) hO.2.2.1 rfl (by decide) (by decide) dX8_goMinute_79 ?_
        refine rx_iconst (v := 1) X dX8_goMinute_80 (by decide) ?_
        refine rx_iadd X dX8_goMinute_81 ?_
        refine rx_iastN (j := 1) X (km_4 hO) hO.2.2.1 rfl (by decide) (by decide) dX8_goMinute_82 ?_
        refine rx_vret X dX8_goMinute_83 ?_
        rw [hτ, rx_ua_s] at h62
        subst hτ
        simp only [rx_u_eq, rx_ua_s, rx_ua_ua, w_min]
        congr 2
        first | rw [w_len, if_neg (Int32.not_lt.mpr h62)] | rw [w_len, if_pos (Int32.not_le.mp h62)]
      · refine rx_sipush (v := 9999) X dX8_goMinute_65 (by decide) ?_
        refine rx_goto X dX8_goMinute_68 ?_
        refine rx_iastN (j := 0) X (km_4 hO) hO.2.2.1 rfl (by decide) (by decide) dX8_goMinute_72 ?_
        refine rx_aload_n (i := 0) X dX8_goMinute_73 rfl rfl ?_
        refine rx_getR (ci := 8) (i := 5) X (km_0 hO) rfl rfl (by decide) inX8 flX8_19 dX8_goMinute_74 ?_
        refine rx_iconst (v := 1) X dX8_goMinute_77 (by decide) ?_
        refine rx_dup2 X dX8_goMinute_78 rfl rfl ?_
        refine rx_ialdN (j := 1) X (km_4 hO) hO.2.2.1 rfl (by decide) (by decide) dX8_goMinute_79 ?_
        refine rx_iconst (v := 1) X dX8_goMinute_80 (by decide) ?_
        refine rx_iadd X dX8_goMinute_81 ?_
        refine rx_iastN (j := 1) X (km_4 hO) hO.2.2.1 rfl (by decide) (by decide) dX8_goMinute_82 ?_
        refine rx_vret X dX8_goMinute_83 ?_
        rw [hτ, rx_ua_s] at h62
        subst hτ
        simp only [rx_u_eq, rx_ua_s, rx_ua_ua, w_min]
        congr 2
        first | rw [w_len, if_neg (Int32.not_lt.mpr h62)] | rw [w_len, if_pos (Int32.not_le.mp h62)]
    | succ k ih =>
      intro i x τ hi hx hτ
      have n3 := rx_Ni (x := σ.1 4 3) (by omega)
      have e3 : τ.1 4 3 = σ.1 4 3 := by rw [hτ, rx_ua_s, w_all_n (by decide) (fun a _ => by omega)]
      have e0 : τ.1 4 0 = σ.1 4 0 := by rw [hτ, rx_ua_s, w_all_n (by decide) (fun a _ => by omega)]
      have e6 : τ.1 0 6 = σ.1 0 6 := by rw [hτ, rx_ua_ne (by decide)]
      have e4 : τ.1 4 4 = w_all (σ.1 0 6) i (σ.1 4) 4 := by rw [hτ, rx_ua_s]
      have e28 : ∀ a, a < 6 → τ.1 4 (28 + a) = σ.1 4 (28 + a) := fun a ha => by rw [hτ, rx_ua_s, w_all_n (by omega) (fun b _ => by omega)]
      have eN : rx_nN (x := σ.1 4 3) (by omega) = rx_nN (x := σ.1 4 3) (by omega) := rfl
      refine rx_iload_n (i := 2) X dX8_goMinute_2 rfl rfl ?_
      refine rx_aload_n (i := 0) X dX8_goMinute_3 rfl rfl ?_
      refine rx_getR (ci := 8) (i := 5) X (km_0 hO) rfl rfl (by decide) inX8 flX8_19 dX8_goMinute_4 ?_
      refine rx_iconst (v := 3) X dX8_goMinute_7 (by decide) ?_
      refine rx_ialdN (j := 3) X (km_4 hO) hO.2.2.1 rfl (by decide) (by decide) dX8_goMinute_8 ?_
      refine rx_top e3 ?_
      refine rx_icmp_ge_f X dX8_goMinute_9 (by rw [hx]; rw [rx_nN (x := σ.1 4 3) (by omega)]; exact nI_ge (by omega) (by omega)) ?_
      refine rx_aload_n (i := 0) X dX8_goMinute_12 rfl rfl ?_
      refine rx_getR (ci := 8) (i := 5) X (km_0 hO) rfl rfl (by decide) inX8 flX8_19 dX8_goMinute_13 ?_
      refine rx_iconst (v := 4) X dX8_goMinute_16 (by decide) ?_
      refine rx_ialdN (j := 4) X (km_4 hO) hO.2.2.1 rfl (by decide) (by decide) dX8_goMinute_17 ?_
      refine rx_top e4 ?_
      refine rx_iload_n (i := 2) X dX8_goMinute_18 rfl rfl ?_
      subst hx
      refine rx_callTi X vsX8_has mlX8_159 (kX8_has hO) rfl (by decide) (by decide) dX8_goMinute_19 rfl (Nat.le_of_ble_eq_true rfl) (fun r19 t19 h19 => ?_)
      obtain ⟨rfl, ⟨rfl, h19⟩ | ⟨rfl, h19⟩⟩ := h19
      · refine rx_if_ne_t X dX8_goMinute_22 (by decide) ?_
        refine rx_iinc (i := 2) (lo2 := [(0, .ref _), (1, .int _), (2, .int _)]) X dX8_goMinute_38 rfl (rx_inc1 _) (by decide) rfl ?_
        refine rx_goto X dX8_goMinute_41 ?_
        refine ih (i + 1) _ _ (by omega) (nI_1 i) ?_
        first
          | (rw [hτ, w_all_h h19]; done)
          | (rw [hτ, w_all_t h30]; done)
          | (rw [hτ, rx_ua_s, rx_ua_ua, w_all_g h19 h30]; done)
      · refine rx_if_ne_f X dX8_goMinute_22 (by decide) ?_
        refine rx_iload_n (i := 2) X dX8_goMinute_25 rfl rfl ?_
        refine rx_aload_n (i := 0) X dX8_goMinute_26 rfl rfl ?_
        refine rx_getI (ci := 8) (i := 6) X (km_0 hO) rfl rfl (by decide) inX8 flX8_22 dX8_goMinute_27 ?_
        refine rx_top e6 ?_
        refine rx_icmp_eq X dX8_goMinute_30 (fun h30 => ?_) (fun h30 => ?_)
        · refine rx_iinc (i := 2) (lo2 := [(0, .ref _), (1, .int _), (2, .int _)]) X dX8_goMinute_38 rfl (rx_inc1 _) (by decide) rfl ?_
          refine rx_goto X dX8_goMinute_41 ?_
          refine ih (i + 1) _ _ (by omega) (nI_1 i) ?_
          first
            | (rw [hτ, w_all_h h19]; done)
            | (rw [hτ, w_all_t h30]; done)
            | (rw [hτ, rx_ua_s, rx_ua_ua, w_all_g h19 h30]; done)
        · refine rx_aload_n (i := 0) X dX8_goMinute_33 rfl rfl ?_
          refine rx_iload_n (i := 2) X dX8_goMinute_34 rfl rfl ?_
          refine rx_callVv (ci := 8) X vsX8_goOne mlX8_163 (kX8_goOne hO (a := i) (by omega) (by rw [e28 i (by omega)]; exact hr i (by omega)) (by rw [e0]; exact h0)) (km_0 hO) rfl rfl (by decide) (by decide) dX8_goMinute_35 rfl (Nat.le_of_ble_eq_true rfl) (fun t35 h35 => ?_)
          subst h35
          refine rx_iinc (i := 2) (lo2 := [(0, .ref _), (1, .int _), (2, .int _)]) X dX8_goMinute_38 rfl (rx_inc1 _) (by decide) rfl ?_
          refine rx_goto X dX8_goMinute_41 ?_
          refine ih (i + 1) _ _ (by omega) (nI_1 i) ?_
          first
            | (rw [hτ, w_all_h h19]; done)
            | (rw [hτ, w_all_t h30]; done)
            | (rw [hτ, rx_ua_s, rx_ua_ua, w_all_g h19 h30]; done)
  refine rx_iconst (v := 0) X dX8_goMinute_0 (by decide) ?_
  refine rx_istore_n (i := 2) (lo2 := [(0, .ref _), (1, .int _), (2, .int _)]) X dX8_goMinute_1 rfl (by decide) rfl ?_
  exact loop (rx_N (σ.1 4 3)) 0 _ _ (by omega) rfl (rx_ua_self σ 4).symm
theorem w_ne0 {x : Int32} (h : 1 ≤ x.toInt) : ¬ x = 0 := by
  intro q
  rw [q] at h
  exact absurd h (by decide)
theorem w_V_goMinute {l : Launch} {O : rx_O} (hO : mo_O O) {σ : rx_S} {K : Nat} {inches : Int32} (hv : w_V K (σ.1 4)) : rx_MV l O yX8_goMinute cX8_goMinute 3 none 3 [.ref 0, .int inches] σ (fun τ => rx_ua σ 4 (w_min (σ.1 0 6) inches (σ.1 4)) = τ) :=
  kX8_goMinute hO ⟨by have := hv.2.2.2.1; omega, by have := hv.2.2.2.1; omega⟩ (fun a ha => w_ne0 (hv.2.2.2.2.2 a ha).2.2.2.1.1) (w_ne0 hv.1.1)
set_option maxHeartbeats 4000000 in
set_option maxRecDepth 100000 in
theorem kX8_oneMinute {l : Launch} {O : rx_O} (hO : mo_O O) {σ : rx_S} {K : Nat} (hv : w_V K (σ.1 4)) : rx_MV l O yX8_oneMinute cX8_oneMinute 1 none 4 [.ref 0] σ (fun τ => rx_ua σ 4 (w_one (σ.1 0 6) (σ.1 4)) = τ) := by
  refine rx_Met_of (own := RX8) rfl hO.2.1 vsX8_oneMinute.2.2.2.2.2 (Nat.le_of_ble_eq_true rfl) rfl (fun p e s m args below meth c X => ?_)
  refine rx_aload_n (i := 0) X dX8_oneMinute_0 rfl rfl ?_
  refine rx_aload_n (i := 0) X dX8_oneMinute_1 rfl rfl ?_
  refine rx_getR (ci := 8) (i := 5) X (km_0 hO) rfl rfl (by decide) inX8 flX8_19 dX8_oneMinute_2 ?_
  refine rx_iconst (v := 5) X dX8_oneMinute_5 (by decide) ?_
  refine rx_aload_n (i := 0) X dX8_oneMinute_6 rfl rfl ?_
  refine rx_getR (ci := 8) (i := 5) X (km_0 hO) rfl rfl (by decide) inX8 flX8_19 dX8_oneMinute_7 ?_
  refine rx_iconst (v := 1) X dX8_oneMinute_10 (by decide) ?_
  refine rx_ialdN (j := 1) X (km_4 hO) hO.2.2.1 rfl (by decide) (by decide) dX8_oneMinute_11 ?_
  refine rx_aload_n (i := 0) X dX8_oneMinute_12 rfl rfl ?_
  refine rx_getR (ci := 8) (i := 5) X (km_0 hO) rfl rfl (by decide) inX8 flX8_19 dX8_oneMinute_13 ?_
  refine rx_iconst (v := 2) X dX8_oneMinute_16 (by decide) ?_
  refine rx_ialdN (j := 2) X (km_4 hO) hO.2.2.1 rfl (by decide) (by decide) dX8_oneMinute_17 ?_
  refine rx_irem X dX8_oneMinute_18 (w_ne0 hv.2.2.1.1) ?_
  refine rx_iadd X dX8_oneMinute_19 ?_
  refine rx_ialdN (j := 5 + rx_N (σ.1 4 1) % rx_N (σ.1 4 2)) X (km_4 hO) hO.2.2.1 (w_ix hv.2.1.1 hv.2.2.1.1) (by have := w_ix_lt (w := σ.1 4) hv.2.2.1; omega) (by decide) dX8_oneMinute_20 ?_
  refine rx_callVv (ci := 8) X vsX8_goMinute mlX8_167 (w_V_goMinute hO hv) (km_0 hO) rfl rfl (by decide) (by decide) dX8_oneMinute_21 rfl (Nat.le_of_ble_eq_true rfl) (fun t21 h21 => ?_)
  subst h21
  refine rx_vret X dX8_oneMinute_24 ?_
  rfl
set_option maxHeartbeats 4000000 in
set_option maxRecDepth 100000 in
theorem kX8_goOn {l : Launch} {O : rx_O} (hO : mo_O O) {σ : rx_S} {n K : Nat} (hn : n < 1000) (hK : K + n < 1000000) (hv : w_V K (σ.1 4)) : rx_MV l O yX8_goOn cX8_goOn 3 none 5 [.ref 0, .int (nI n)] σ (fun τ => rx_ua σ 4 (w_on (σ.1 0 6) n (σ.1 4)) = τ) := by
  refine rx_Met_of (own := RX8) rfl hO.2.1 vsX8_goOn.2.2.2.2.2 (Nat.le_of_ble_eq_true rfl) rfl (fun p e s m args below meth c X => ?_)
  have loop : ∀ (k : Nat) (i K : Nat) (x : Int32) (τ : rx_S), (i + k = n) → (x = nI i) → (K + k < 1000000) → (w_V K (τ.1 4)) → (τ.1 0 6 = σ.1 0 6) → (rx_ua σ 4 (w_on (σ.1 0 6) n (σ.1 4)) = rx_ua τ 4 (w_on (σ.1 0 6) (n - i) (τ.1 4))) → rx_J O 3 p l e (rx_lv 5) s m args below meth c (rx_QV O below args s (fun τ => rx_ua σ 4 (w_on (σ.1 0 6) n (σ.1 4)) = τ)) 2 [(0, .ref 0), (1, .int (nI n)), (2, .int x)] [] τ := by
    intro k
    induction k with
    | zero =>
      intro i K x τ hi hx hK hw h6 hτ
      obtain rfl : i = n := by omega
      subst hx
      refine rx_iload_n (i := 2) X dX8_goOn_2 rfl rfl ?_
      refine rx_iload_n (i := 1) X dX8_goOn_3 rfl rfl ?_
      refine rx_icmp_ge_t X dX8_goOn_4 (Int32.le_refl _) ?_
      refine rx_vret X dX8_goOn_17 ?_
      rw [hτ, Nat.sub_self]
      exact rx_ua_self τ 4
    | succ k ih =>
      intro i K x τ hi hx hK hw h6 hτ
      subst hx
      refine rx_iload_n (i := 2) X dX8_goOn_2 rfl rfl ?_
      refine rx_iload_n (i := 1) X dX8_goOn_3 rfl rfl ?_
      refine rx_icmp_ge_f X dX8_goOn_4 (nI_ge (by omega) (by omega)) ?_
      refine rx_aload_n (i := 0) X dX8_goOn_7 rfl rfl ?_
      refine rx_callVv (ci := 8) X vsX8_oneMinute mlX8_170 (kX8_oneMinute hO hw) (km_0 hO) rfl rfl (by decide) (by decide) dX8_goOn_8 rfl (Nat.le_of_ble_eq_true rfl) (fun t8 h8 => ?_)
      subst h8
      refine rx_iinc (i := 2) (lo2 := [(0, .ref _), (1, .int _), (2, .int _)]) X dX8_goOn_11 rfl (rx_inc1 _) (by decide) rfl ?_
      refine rx_goto X dX8_goOn_14 ?_
      refine ih (i + 1) (K + 1) _ _ (by omega) (nI_1 i) (by omega) ?_ ?_ ?_
      · rw [rx_ua_s]; exact w_V_one (by omega) hw
      · rw [rx_ua_ne (by decide)]; exact h6
      · rw [hτ, rx_ua_s, rx_ua_ua, show n - i = (n - (i + 1)) + 1 by omega, h6]; rfl
  refine rx_iconst (v := 0) X dX8_goOn_0 (by decide) ?_
  refine rx_istore_n (i := 2) (lo2 := [(0, .ref _), (1, .int _), (2, .int _)]) X dX8_goOn_1 rfl (by decide) rfl ?_
  exact loop n 0 K _ σ (by omega) rfl (by omega) hv rfl rfl
def w_slack (w : Nat → Int32) : Nat → Int32 := upd w 0 (if w 0 < 2 then 1 else w 0 / 2)
set_option maxHeartbeats 4000000 in
set_option maxRecDepth 100000 in
theorem kX8_slacken {l : Launch} {O : rx_O} (hO : mo_O O) {σ : rx_S} : rx_MV l O yX8_slacken cX8_slacken 1 none 0 [.ref 0] σ (fun τ => rx_ua σ 4 (w_slack (σ.1 4)) = τ) := by
  refine rx_Met_of (own := RX8) rfl hO.2.1 vsX8_slacken.2.2.2.2.2 (Nat.le_of_ble_eq_true rfl) rfl (fun p e s m args below meth c X => ?_)
  refine rx_aload_n (i := 0) X dX8_slacken_0 rfl rfl ?_
  refine rx_getR (ci := 8) (i := 5) X (km_0 hO) rfl rfl (by decide) inX8 flX8_19 dX8_slacken_1 ?_
  refine rx_iconst (v := 0) X dX8_slacken_4 (by decide) ?_
  refine rx_aload_n (i := 0) X dX8_slacken_5 rfl rfl ?_
  refine rx_getR (ci := 8) (i := 5) X (km_0 hO) rfl rfl (by decide) inX8 flX8_19 dX8_slacken_6 ?_
  refine rx_iconst (v := 0) X dX8_slacken_9 (by decide) ?_
  refine rx_ialdN (j := 0) X (km_4 hO) hO.2.2.1 rfl (by decide) (by decide) dX8_slacken_10 ?_
  refine rx_iconst (v := 2) X dX8_slacken_11 (by decide) ?_
  refine rx_icmp_ge X dX8_slacken_12 (fun h12 => ?_) (fun h12 => ?_)
  · refine rx_aload_n (i := 0) X dX8_slacken_19 rfl rfl ?_
    refine rx_getR (ci := 8) (i := 5) X (km_0 hO) rfl rfl (by decide) inX8 flX8_19 dX8_slacken_20 ?_
    refine rx_iconst (v := 0) X dX8_slacken_23 (by decide) ?_
    refine rx_ialdN (j := 0) X (km_4 hO) hO.2.2.1 rfl (by decide) (by decide) dX8_slacken_24 ?_
    refine rx_iconst (v := 2) X dX8_slacken_25 (by decide) ?_
    refine rx_idiv X dX8_slacken_26 (by decide) ?_
    refine rx_iastN (j := 0) X (km_4 hO) hO.2.2.1 rfl (by decide) (by decide) dX8_slacken_27 ?_
    refine rx_vret X dX8_slacken_28 ?_
    unfold w_slack
    first | (rw [if_pos (Int32.not_le.mp h12)]; rfl) | (rw [if_neg (Int32.not_lt.mpr h12)]; rfl)
  · refine rx_iconst (v := 1) X dX8_slacken_15 (by decide) ?_
    refine rx_goto X dX8_slacken_16 ?_
    refine rx_iastN (j := 0) X (km_4 hO) hO.2.2.1 rfl (by decide) (by decide) dX8_slacken_27 ?_
    refine rx_vret X dX8_slacken_28 ?_
    unfold w_slack
    first | (rw [if_pos (Int32.not_le.mp h12)]; rfl) | (rw [if_neg (Int32.not_lt.mpr h12)]; rfl)
