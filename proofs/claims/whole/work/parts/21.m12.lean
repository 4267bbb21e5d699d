set_option maxHeartbeats 4000000 in
set_option maxRecDepth 100000 in
theorem kX8_readAnt {l : Launch} {O : rx_O} (hO : mo_O O) {σ : rx_S} {p N : Nat} {k : Int32} (hs : pz_st N p σ) (hnx : pz_nx (σ.1 6) N p = p + 1) (hp1 : p + 1 ≤ N) (hN : N ≤ 120) (h3 : 0 ≤ (σ.1 7 3).toInt ∧ (σ.1 7 3).toInt ≤ 6) : rx_MI l O yX8_readAnt cX8_readAnt 4 (some .boolean) 4 [.ref 0, .int k] σ (fun r τ => pz_post N (pz_ant (σ.1 6) N p k (σ.1 7)) σ r τ) := by
  refine rx_Met_of (own := RX8) rfl hO.2.1 vsX8_readAnt.2.2.2.2.2 (Nat.le_of_ble_eq_true rfl) rfl (fun p9 e s m args below meth cd X => ?_)
  refine rx_aload_n (i := 0) X dX8_readAnt_0 rfl rfl ?_
  refine rx_getR (ci := 8) (i := 16) X (km_0 hO) rfl rfl (by decide) inX8 flX8_32 dX8_readAnt_1 ?_
  refine rx_iconst (v := 3) X dX8_readAnt_4 (by decide) ?_
  refine rx_ialdN (j := 3) X (km_7 hO) hO.2.2.1 rfl (by decide) (by decide) dX8_readAnt_5 ?_
  refine rx_istore_n (i := 2) (lo2 := [(0, .ref _), (1, .int _), (2, .int _)]) X dX8_readAnt_6 rfl (by decide) rfl ?_
  refine rx_iload_n (i := 2) X dX8_readAnt_7 rfl rfl ?_
  refine rx_bipush (v := 6) X dX8_readAnt_8 (by decide) ?_
  refine rx_icmp_eq X dX8_readAnt_10 (fun h10 => ?_) (fun h10 => ?_)
  · refine rx_aload_n (i := 0) X dX8_readAnt_22 rfl rfl ?_
    refine rx_aload_n (i := 0) X dX8_readAnt_23 rfl rfl ?_
    refine rx_getR (ci := 8) (i := 16) X (km_0 hO) rfl rfl (by decide) inX8 flX8_32 dX8_readAnt_24 ?_
    refine rx_iconst (v := 2) X dX8_readAnt_27 (by decide) ?_
    refine rx_ialdN (j := 2) X (km_7 hO) hO.2.2.1 rfl (by decide) (by decide) dX8_readAnt_28 ?_
    refine rx_if_ne X dX8_readAnt_29 (fun h29 => ?_) (fun h29 => ?_)
    · refine rx_iconst (v := 3) X dX8_readAnt_36 (by decide) ?_
      refine rx_callVi (ci := 8) X vsX8_faults mlX8_117 (kX8_faults hO) (km_0 hO) rfl rfl (by decide) (by decide) dX8_readAnt_37 rfl (Nat.le_of_ble_eq_true rfl) (fun r37 t37 h37 => ?_)
      obtain ⟨rfl, rfl⟩ := h37
      refine rx_zret X dX8_readAnt_40 rfl ?_
      have e : (pz_ant (σ.1 6) N p k (σ.1 7)) = (3, p, σ.1 7) := by rw [pz_ant, if_pos (Or.inl h10), if_neg h29]
      exact pz_post_of e ⟨(pz_ok.rf σ).u0 (by decide), Or.inr ⟨rfl, n30, u0s, by rw [u0n (by decide)]; exact hs.2.1⟩⟩
    · refine rx_iconst (v := 1) X dX8_readAnt_32 (by decide) ?_
      refine rx_goto X dX8_readAnt_33 ?_
      refine rx_callVi (ci := 8) X vsX8_faults mlX8_117 (kX8_faults hO) (km_0 hO) rfl rfl (by decide) (by decide) dX8_readAnt_37 rfl (Nat.le_of_ble_eq_true rfl) (fun r37 t37 h37 => ?_)
      obtain ⟨rfl, rfl⟩ := h37
      refine rx_zret X dX8_readAnt_40 rfl ?_
      have e : (pz_ant (σ.1 6) N p k (σ.1 7)) = (1, p, σ.1 7) := by rw [pz_ant, if_pos (Or.inl h10), if_pos h29]
      exact pz_post_of e ⟨(pz_ok.rf σ).u0 (by decide), Or.inr ⟨rfl, n10, u0s, by rw [u0n (by decide)]; exact hs.2.1⟩⟩
  · refine rx_aload_n (i := 0) X dX8_readAnt_13 rfl rfl ?_
    refine rx_getR (ci := 8) (i := 16) X (km_0 hO) rfl rfl (by decide) inX8 flX8_32 dX8_readAnt_14 ?_
    refine rx_iconst (v := 2) X dX8_readAnt_17 (by decide) ?_
    refine rx_ialdN (j := 2) X (km_7 hO) hO.2.2.1 rfl (by decide) (by decide) dX8_readAnt_18 ?_
    refine rx_if_ne X dX8_readAnt_19 (fun h19 => ?_) (fun h19 => ?_)
    · refine rx_aload_n (i := 0) X dX8_readAnt_41 rfl rfl ?_
      refine rx_callVv (ci := 8) X vsX8_nextToken mlX8_120 (kX8_next hO (p := p + 1) hs.1 (by rw [hs.2.2.2.2, hnx]) hp1 hN) (km_0 hO) rfl rfl (by decide) (by decide) dX8_readAnt_42 rfl (Nat.le_of_ble_eq_true rfl) (fun t42 h42 => ?_)
      obtain ⟨k1, k2, k3⟩ := h42
      have n3 := rx_Ni h3.1
      have n36 : ¬ (σ.1 7 3).toInt = 6 := fun q => h10 (Int32.toInt_inj.mp q)
      have k0 := k1.t
      refine rx_aload_n (i := 0) X dX8_readAnt_45 rfl rfl ?_
      refine rx_getR (ci := 8) (i := 16) X (km_0 hO) rfl rfl (by decide) inX8 flX8_32 dX8_readAnt_46 ?_
      refine rx_bipush (v := 10) X dX8_readAnt_49 (by decide) ?_
      refine rx_iload_n (i := 2) X dX8_readAnt_51 rfl rfl ?_
      refine rx_iadd X dX8_readAnt_52 ?_
      refine rx_iload_n (i := 1) X dX8_readAnt_53 rfl rfl ?_
      refine rx_iastN (j := 10 + rx_N (σ.1 7 3)) X (km_7 hO) hO.2.2.1 (rx_add1 10 h3.1) (by omega) (by decide) dX8_readAnt_54 ?_
      refine rx_aload_n (i := 0) X dX8_readAnt_55 rfl rfl ?_
      refine rx_getR (ci := 8) (i := 16) X (km_0 hO) rfl rfl (by decide) inX8 flX8_32 dX8_readAnt_56 ?_
      refine rx_iconst (v := 3) X dX8_readAnt_59 (by decide) ?_
      refine rx_dup2 X dX8_readAnt_60 rfl rfl ?_
      refine rx_ialdN (j := 3) X (km_7 hO) hO.2.2.1 rfl (by decide) (by decide) dX8_readAnt_61 ?_
      refine rx_top (by rw [rx_u_s, upd_n (by omega), k3]) ?_
      refine rx_iconst (v := 1) X dX8_readAnt_62 (by decide) ?_
      refine rx_iadd X dX8_readAnt_63 ?_
      refine rx_iastN (j := 3) X (km_7 hO) hO.2.2.1 rfl (by decide) (by decide) dX8_readAnt_64 ?_
      refine rx_aload_n (i := 0) X dX8_readAnt_65 rfl rfl ?_
      refine rx_iconst (v := 1) X dX8_readAnt_66 (by decide) ?_
      refine rx_bipush (v := 20) X dX8_readAnt_67 (by decide) ?_
      refine rx_bipush (v := 16) X dX8_readAnt_69 (by decide) ?_
      refine rx_iload_n (i := 2) X dX8_readAnt_71 rfl rfl ?_
      refine rx_iadd X dX8_readAnt_72 ?_
      refine rx_bipush (v := 44) X dX8_readAnt_73 (by decide) ?_
      rw [show (16 : Int32) + σ.1 7 3 = nI (16 + rx_N (σ.1 7 3)) from rx_add1 16 h3.1]
      refine rx_callVi (ci := 8) X vsX8_takesNumber mlX8_126 (kX8_num hO (k2.u7).u7 hp1 hN (by decide) (by omega)) (km_0 hO) rfl rfl (by decide) (by decide) dX8_readAnt_75 rfl (Nat.le_of_ble_eq_true rfl) (fun r75 t75 h75 => ?_)
      obtain ⟨ok75, ⟨rfl, z75, st75, rd75⟩ | ⟨rfl, z75, w75, b75⟩⟩ := h75
      · refine rx_if_eq_f X dX8_readAnt_78 (by decide) ?_
        refine rx_aload_n (i := 0) X dX8_readAnt_81 rfl rfl ?_
        refine rx_iconst (v := 0) X dX8_readAnt_82 (by decide) ?_
        refine rx_bipush (v := 99) X dX8_readAnt_83 (by decide) ?_
        refine rx_bipush (v := 22) X dX8_readAnt_85 (by decide) ?_
        refine rx_iload_n (i := 2) X dX8_readAnt_87 rfl rfl ?_
        refine rx_iadd X dX8_readAnt_88 ?_
        refine rx_bipush (v := 44) X dX8_readAnt_89 (by decide) ?_
        rw [show (22 : Int32) + σ.1 7 3 = nI (22 + rx_N (σ.1 7 3)) from rx_add1 22 h3.1]
        have T0 : (rx_u (rx_u t42 7 (10 + rx_N (σ.1 7 3)) k) 7 3 (σ.1 7 3 + 1)).1 6 = σ.1 6 := by rw [rx_u_ne (by decide), rx_u_ne (by decide), k0]
        rw [T0] at z75 st75 rd75
        rw [rx_u_s, rx_u_s, k3] at rd75
        have T75 : t75.1 6 = σ.1 6 := by rw [ok75.t, T0]
        refine rx_callVi (ci := 8) X vsX8_takesNumber mlX8_126 (kX8_num hO st75 (pz_num_0 hp1 z75).2.1 hN (by decide) (by omega)) (km_0 hO) rfl rfl (by decide) (by decide) dX8_readAnt_91 rfl (Nat.le_of_ble_eq_true rfl) (fun r91 t91 h91 => ?_)
        obtain ⟨ok91, ⟨rfl, z91, st91, rd91⟩ | ⟨rfl, z91, w91, b91⟩⟩ := h91
        · refine rx_if_eq_f X dX8_readAnt_94 (by decide) ?_
          refine rx_iconst (v := 1) X dX8_readAnt_97 (by decide) ?_
          refine rx_goto X dX8_readAnt_98 ?_
          refine rx_istore_n (i := 3) (lo2 := [(0, .ref _), (1, .int _), (2, .int _), (3, .int _)]) X dX8_readAnt_102 rfl (by decide) rfl ?_
          refine rx_aload_n (i := 0) X dX8_readAnt_103 rfl rfl ?_
          refine rx_getR (ci := 8) (i := 16) X (km_0 hO) rfl rfl (by decide) inX8 flX8_32 dX8_readAnt_104 ?_
          refine rx_bipush (v := 34) X dX8_readAnt_107 (by decide) ?_
          refine rx_iload_n (i := 2) X dX8_readAnt_109 rfl rfl ?_
          refine rx_iadd X dX8_readAnt_110 ?_
          refine rx_sipush (v := 10000) X dX8_readAnt_111 (by decide) ?_
          refine rx_aload_n (i := 0) X dX8_readAnt_114 rfl rfl ?_
          refine rx_getR (ci := 8) (i := 16) X (km_0 hO) rfl rfl (by decide) inX8 flX8_32 dX8_readAnt_115 ?_
          refine rx_bipush (v := 22) X dX8_readAnt_118 (by decide) ?_
          refine rx_iload_n (i := 2) X dX8_readAnt_120 rfl rfl ?_
          refine rx_iadd X dX8_readAnt_121 ?_
          refine rx_ialdN (j := 22 + rx_N (σ.1 7 3)) X (km_7 hO) hO.2.2.1 (rx_add1 22 h3.1) (by omega) (by decide) dX8_readAnt_122 ?_
          refine rx_imul X dX8_readAnt_123 ?_
          refine rx_iastN (j := 34 + rx_N (σ.1 7 3)) X (km_7 hO) hO.2.2.1 (rx_add1 34 h3.1) (by omega) (by decide) dX8_readAnt_124 ?_
          refine rx_iload_n (i := 3) X dX8_readAnt_125 rfl rfl ?_
          refine rx_if_eq_f X dX8_readAnt_126 (by decide) ?_
          refine rx_aload_n (i := 0) X dX8_readAnt_129 rfl rfl ?_
          refine rx_iconst (v := 1) X dX8_readAnt_130 (by decide) ?_
          refine rx_bipush (v := 9) X dX8_readAnt_131 (by decide) ?_
          refine rx_bipush (v := 28) X dX8_readAnt_133 (by decide) ?_
          refine rx_iload_n (i := 2) X dX8_readAnt_135 rfl rfl ?_
          refine rx_iadd X dX8_readAnt_136 ?_
          refine rx_bipush (v := 59) X dX8_readAnt_137 (by decide) ?_
          rw [show (28 : Int32) + σ.1 7 3 = nI (28 + rx_N (σ.1 7 3)) from rx_add1 28 h3.1]
          rw [T75] at z91 st91 rd91
          have t91' : (rx_u t91 7 (34 + rx_N (σ.1 7 3)) (10000 * t91.1 7 (22 + rx_N (σ.1 7 3)))).1 6 = σ.1 6 := by rw [rx_u_ne (by decide), ok91.t, T75]
          refine rx_callVi (ci := 8) X vsX8_takesNumber mlX8_126 (kX8_num hO (st91.u7) (pz_num_0 (pz_num_0 hp1 z75).2.1 z91).2.1 hN (by decide) (by omega)) (km_0 hO) rfl rfl (by decide) (by decide) dX8_readAnt_139 rfl (Nat.le_of_ble_eq_true rfl) (fun r139 t139 h139 => ?_)
          obtain ⟨ok139, ⟨rfl, z139, st139, rd139⟩ | ⟨rfl, z139, w139, b139⟩⟩ := h139
          · refine rx_if_eq_f X dX8_readAnt_142 (by decide) ?_
            refine rx_iconst (v := 1) X dX8_readAnt_145 (by decide) ?_
            refine rx_goto X dX8_readAnt_146 ?_
            refine rx_zret X dX8_readAnt_150 rfl ?_
            have hno : ¬ (σ.1 7 3 = 6 ∨ σ.1 7 2 = 0) := fun z => z.elim h10 h19
            have kk : pz_ok σ (rx_u (rx_u t42 7 (10 + rx_N (σ.1 7 3)) k) 7 3 (σ.1 7 3 + 1)) := (k1.u7).u7
            rw [t91'] at z139 st139 rd139
            have e : (pz_ant (σ.1 6) N p k (σ.1 7)) = (0, (pz_num (σ.1 6) N (pz_num (σ.1 6) N (pz_num (σ.1 6) N (p + 1) 1 20 44).2.1 0 99 44).2.1 1 9 59).2.1, pz_rd (σ.1 7) (rx_N (σ.1 7 3)) k (pz_num (σ.1 6) N (p + 1) 1 20 44).2.2 (pz_num (σ.1 6) N (pz_num (σ.1 6) N (p + 1) 1 20 44).2.1 0 99 44).2.2 (pz_num (σ.1 6) N (pz_num (σ.1 6) N (pz_num (σ.1 6) N (p + 1) 1 20 44).2.1 0 99 44).2.1 1 9 59).2.2) := by rw [pz_ant, if_neg hno, pz_ant1, if_pos z75, pz_ant2, if_pos z91, pz_ant3, if_pos z139]
            have e7 : t139.1 7 = pz_rd (σ.1 7) (rx_N (σ.1 7 3)) k (pz_num (σ.1 6) N (p + 1) 1 20 44).2.2 (pz_num (σ.1 6) N (pz_num (σ.1 6) N (p + 1) 1 20 44).2.1 0 99 44).2.2 (pz_num (σ.1 6) N (pz_num (σ.1 6) N (pz_num (σ.1 6) N (p + 1) 1 20 44).2.1 0 99 44).2.1 1 9 59).2.2 := by
              rw [rd139, rx_u_s, rd91, upd_s, rd75]
              rfl
            exact pz_post_of e ⟨((kk.tr ok75).tr ok91).u7.tr ok139, Or.inl ⟨rfl, rfl, st139, e7⟩⟩
          · refine rx_if_eq_t X dX8_readAnt_142 (by decide) ?_
            refine rx_iconst (v := 0) X dX8_readAnt_149 (by decide) ?_
            refine rx_zret X dX8_readAnt_150 rfl ?_
            have hno : ¬ (σ.1 7 3 = 6 ∨ σ.1 7 2 = 0) := fun z => z.elim h10 h19
            have kk : pz_ok σ (rx_u (rx_u t42 7 (10 + rx_N (σ.1 7 3)) k) 7 3 (σ.1 7 3 + 1)) := (k1.u7).u7
            rw [t91'] at z139 w139 b139
            have e : (pz_ant (σ.1 6) N p k (σ.1 7)) = ((pz_num (σ.1 6) N (pz_num (σ.1 6) N (pz_num (σ.1 6) N (p + 1) 1 20 44).2.1 0 99 44).2.1 1 9 59).1, (pz_num (σ.1 6) N (pz_num (σ.1 6) N (pz_num (σ.1 6) N (p + 1) 1 20 44).2.1 0 99 44).2.1 1 9 59).2.1, σ.1 7) := by rw [pz_ant, if_neg hno, pz_ant1, if_pos z75, pz_ant2, if_pos z91, pz_ant3, if_neg z139]
            exact pz_post_of e ⟨((kk.tr ok75).tr ok91).u7.tr ok139, Or.inr ⟨rfl, z139, w139, b139⟩⟩
        · refine rx_if_eq_t X dX8_readAnt_94 (by decide) ?_
          refine rx_iconst (v := 0) X dX8_readAnt_101 (by decide) ?_
          refine rx_istore_n (i := 3) (lo2 := [(0, .ref _), (1, .int _), (2, .int _), (3, .int _)]) X dX8_readAnt_102 rfl (by decide) rfl ?_
          refine rx_aload_n (i := 0) X dX8_readAnt_103 rfl rfl ?_
          refine rx_getR (ci := 8) (i := 16) X (km_0 hO) rfl rfl (by decide) inX8 flX8_32 dX8_readAnt_104 ?_
          refine rx_bipush (v := 34) X dX8_readAnt_107 (by decide) ?_
          refine rx_iload_n (i := 2) X dX8_readAnt_109 rfl rfl ?_
          refine rx_iadd X dX8_readAnt_110 ?_
          refine rx_sipush (v := 10000) X dX8_readAnt_111 (by decide) ?_
          refine rx_aload_n (i := 0) X dX8_readAnt_114 rfl rfl ?_
          refine rx_getR (ci := 8) (i := 16) X (km_0 hO) rfl rfl (by decide) inX8 flX8_32 dX8_readAnt_115 ?_
          refine rx_bipush (v := 22) X dX8_readAnt_118 (by decide) ?_
          refine rx_iload_n (i := 2) X dX8_readAnt_120 rfl rfl ?_
          refine rx_iadd X dX8_readAnt_121 ?_
          refine rx_ialdN (j := 22 + rx_N (σ.1 7 3)) X (km_7 hO) hO.2.2.1 (rx_add1 22 h3.1) (by omega) (by decide) dX8_readAnt_122 ?_
          refine rx_imul X dX8_readAnt_123 ?_
          refine rx_iastN (j := 34 + rx_N (σ.1 7 3)) X (km_7 hO) hO.2.2.1 (rx_add1 34 h3.1) (by omega) (by decide) dX8_readAnt_124 ?_
          refine rx_iload_n (i := 3) X dX8_readAnt_125 rfl rfl ?_
          refine rx_if_eq_t X dX8_readAnt_126 (by decide) ?_
          refine rx_iconst (v := 0) X dX8_readAnt_149 (by decide) ?_
          refine rx_zret X dX8_readAnt_150 rfl ?_
          have hno : ¬ (σ.1 7 3 = 6 ∨ σ.1 7 2 = 0) := fun z => z.elim h10 h19
          have kk : pz_ok σ (rx_u (rx_u t42 7 (10 + rx_N (σ.1 7 3)) k) 7 3 (σ.1 7 3 + 1)) := (k1.u7).u7
          rw [T75] at z91 w91 b91
          have e : (pz_ant (σ.1 6) N p k (σ.1 7)) = ((pz_num (σ.1 6) N (pz_num (σ.1 6) N (p + 1) 1 20 44).2.1 0 99 44).1, (pz_num (σ.1 6) N (pz_num (σ.1 6) N (p + 1) 1 20 44).2.1 0 99 44).2.1, σ.1 7) := by rw [pz_ant, if_neg hno, pz_ant1, if_pos z75, pz_ant2, if_neg z91]
          exact pz_post_of e ⟨((kk.tr ok75).tr ok91).u7, Or.inr ⟨rfl, z91, by rw [rx_u_ne (by decide)]; exact w91, by rw [rx_u_ne (by decide)]; exact b91⟩⟩
      · refine rx_if_eq_t X dX8_readAnt_78 (by decide) ?_
        refine rx_iconst (v := 0) X dX8_readAnt_101 (by decide) ?_
        refine rx_istore_n (i := 3) (lo2 := [(0, .ref _), (1, .int _), (2, .int _), (3, .int _)]) X dX8_readAnt_102 rfl (by decide) rfl ?_
        refine rx_aload_n (i := 0) X dX8_readAnt_103 rfl rfl ?_
        refine rx_getR (ci := 8) (i := 16) X (km_0 hO) rfl rfl (by decide) inX8 flX8_32 dX8_readAnt_104 ?_
        refine rx_bipush (v := 34) X dX8_readAnt_107 (by decide) ?_
        refine rx_iload_n (i := 2) X dX8_readAnt_109 rfl rfl ?_
        refine rx_iadd X dX8_readAnt_110 ?_
        refine rx_sipush (v := 10000) X dX8_readAnt_111 (by decide) ?_
        refine rx_aload_n (i := 0) X dX8_readAnt_114 rfl rfl ?_
        refine rx_getR (ci := 8) (i := 16) X (km_0 hO) rfl rfl (by decide) inX8 flX8_32 dX8_readAnt_115 ?_
        refine rx_bipush (v := 22) X dX8_readAnt_118 (by decide) ?_
        refine rx_iload_n (i := 2) X dX8_readAnt_120 rfl rfl ?_
        refine rx_iadd X dX8_readAnt_121 ?_
        refine rx_ialdN (j := 22 + rx_N (σ.1 7 3)) X (km_7 hO) hO.2.2.1 (rx_add1 22 h3.1) (by omega) (by decide) dX8_readAnt_122 ?_
        refine rx_imul X dX8_readAnt_123 ?_
        refine rx_iastN (j := 34 + rx_N (σ.1 7 3)) X (km_7 hO) hO.2.2.1 (rx_add1 34 h3.1) (by omega) (by decide) dX8_readAnt_124 ?_
        refine rx_iload_n (i := 3) X dX8_readAnt_125 rfl rfl ?_
        refine rx_if_eq_t X dX8_readAnt_126 (by decide) ?_
        refine rx_iconst (v := 0) X dX8_readAnt_149 (by decide) ?_
        refine rx_zret X dX8_readAnt_150 rfl ?_
        have hno : ¬ (σ.1 7 3 = 6 ∨ σ.1 7 2 = 0) := fun z => z.elim h10 h19
        have kk : pz_ok σ (rx_u (rx_u t42 7 (10 + rx_N (σ.1 7 3)) k) 7 3 (σ.1 7 3 + 1)) := (k1.u7).u7
        have T0 : (rx_u (rx_u t42 7 (10 + rx_N (σ.1 7 3)) k) 7 3 (σ.1 7 3 + 1)).1 6 = σ.1 6 := by rw [rx_u_ne (by decide), rx_u_ne (by decide), k0]
        rw [T0] at z75 w75 b75
        have e : (pz_ant (σ.1 6) N p k (σ.1 7)) = ((pz_num (σ.1 6) N (p + 1) 1 20 44).1, (pz_num (σ.1 6) N (p + 1) 1 20 44).2.1, σ.1 7) := by rw [pz_ant, if_neg hno, pz_ant1, if_neg z75]
        exact pz_post_of e ⟨(kk.tr ok75).u7, Or.inr ⟨rfl, z75, by rw [rx_u_ne (by decide)]; exact w75, by rw [rx_u_ne (by decide)]; exact b75⟩⟩
    · refine rx_aload_n (i := 0) X dX8_readAnt_22 rfl rfl ?_
      refine rx_aload_n (i := 0) X dX8_readAnt_23 rfl rfl ?_
      refine rx_getR (ci := 8) (i := 16) X (km_0 hO) rfl rfl (by decide) inX8 flX8_32 dX8_readAnt_24 ?_
      refine rx_iconst (v := 2) X dX8_readAnt_27 (by decide) ?_
      refine rx_ialdN (j := 2) X (km_7 hO) hO.2.2.1 rfl (by decide) (by decide) dX8_readAnt_28 ?_
      refine rx_if_ne X dX8_readAnt_29 (fun h29 => ?_) (fun h29 => ?_)
      · refine rx_iconst (v := 3) X dX8_readAnt_36 (by decide) ?_
        refine rx_callVi (ci := 8) X vsX8_faults mlX8_117 (kX8_faults hO) (km_0 hO) rfl rfl (by decide) (by decide) dX8_readAnt_37 rfl (Nat.le_of_ble_eq_true rfl) (fun r37 t37 h37 => ?_)
        obtain ⟨rfl, rfl⟩ := h37
        refine rx_zret X dX8_readAnt_40 rfl ?_
        have e : (pz_ant (σ.1 6) N p k (σ.1 7)) = (3, p, σ.1 7) := by rw [pz_ant, if_pos (Or.inr h19), if_neg h29]
        exact pz_post_of e ⟨(pz_ok.rf σ).u0 (by decide), Or.inr ⟨rfl, n30, u0s, by rw [u0n (by decide)]; exact hs.2.1⟩⟩
      · refine rx_iconst (v := 1) X dX8_readAnt_32 (by decide) ?_
        refine rx_goto X dX8_readAnt_33 ?_
        refine rx_callVi (ci := 8) X vsX8_faults mlX8_117 (kX8_faults hO) (km_0 hO) rfl rfl (by decide) (by decide) dX8_readAnt_37 rfl (Nat.le_of_ble_eq_true rfl) (fun r37 t37 h37 => ?_)
        obtain ⟨rfl, rfl⟩ := h37
        refine rx_zret X dX8_readAnt_40 rfl ?_
        have e : (pz_ant (σ.1 6) N p k (σ.1 7)) = (1, p, σ.1 7) := by rw [pz_ant, if_pos (Or.inr h19), if_pos h29]
        exact pz_post_of e ⟨(pz_ok.rf σ).u0 (by decide), Or.inr ⟨rfl, n10, u0s, by rw [u0n (by decide)]; exact hs.2.1⟩⟩
