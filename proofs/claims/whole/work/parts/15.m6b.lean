/-- fewer locals are enough -/
theorem rx_less {O : rx_O} {nL : Nat} {p : Program} {l : Launch} {e : Env} {R : Room} {s : State} {m : MethodId} {args : Array Value} {below : List Frame} {meth : Method} {c : Code} {Q : State → Prop} {pc : Nat} {lo lo2 : List (Nat × Value)} {st : List Value} {σ : rx_S} (is : List Nat) (h : is.filterMap (fun i => lo[i]?) = lo2) (k : rx_J O nL p l e R s m args below meth c Q pc lo2 st σ) : rx_J O nL p l e R s m args below meth c Q pc lo st σ := by
  intro H locs ls hP hS hl
  refine k H locs ls hP hS ⟨hl.1, hl.2.1, fun q hq => ?_⟩
  obtain ⟨x, hx, rfl⟩ := List.mem_map.mp hq
  rw [← h] at hx
  obtain ⟨i, -, hi⟩ := List.mem_filterMap.mp hx
  exact hl.2.2 _ (List.mem_map.mpr ⟨x, List.mem_of_getElem? hi, rfl⟩)
set_option maxHeartbeats 4000000 in
set_option maxRecDepth 100000 in
theorem kX8_fast {l : Launch} {O : rx_O} (hO : mo_O O) {σ : rx_S} {x n : Int32} (hw : mo_W σ) : rx_MI l O yX8_fast cX8_fast 6 (some .int) 7 [.ref 0, .int x, .int n] σ (fun r τ => sp_fast σ x n = (r, τ)) := by
  refine rx_Met_of (own := RX8) rfl hO.2.1 vsX8_fast.2.2.2.2.2 (Nat.le_of_ble_eq_true rfl) rfl (fun p e s m args below meth c X => ?_)
  have go : ∀ (a q : Nat), a < 6 → q < 100 → mo_ant σ (nI a) → mo_n (nI q) → ¬ w_has (σ.1 4 4) a → w_V 999 (σ.1 4) → rx_J O 6 p l e (rx_lv 7) s m args below meth c (rx_QI O below args s (fun r τ => sp_fast σ (nI a) (nI q) = (r, τ))) 24 [(0, .ref 0), (1, .int (nI a)), (2, .int (nI q)), (3, .int 0), (4, .int (-1000000)), (5, .int 1)] [] (as_st σ (σ.1 4)) := by
    intro a q ha hq h2 h14 hno hv
    have loop : ∀ (k : Nat) (i : Nat) (x : Int32), (i + k = 21 ∧ 1 ≤ i) → (x = nI i) → (w_fast (σ.1 0 6) a q (σ.1 4) 20 1 = w_fast (σ.1 0 6) a q (σ.1 4) k i) → rx_J O 6 p l e (rx_lv 7) s m args below meth c (rx_QI O below args s (fun r τ => sp_fast σ (nI a) (nI q) = (r, τ))) 24 [(0, .ref 0), (1, .int (nI a)), (2, .int (nI q)), (3, .int 0), (4, .int (-1000000)), (5, .int x)] [] (as_st σ (σ.1 4)) := by
      intro k
      induction k with
      | zero =>
        intro i x hi hx hu
        subst hx
        obtain rfl : i = 21 := by omega
        refine rx_iload (i := 5) X dX8_fast_24 rfl ?_
        refine rx_bipush (v := 20) X dX8_fast_26 (by decide) ?_
        refine rx_icmp_gt_t X dX8_fast_28 (by decide) ?_
        refine rx_iload (i := 4) X dX8_fast_71 rfl ?_
        refine rx_iret X dX8_fast_73 ?_
        rw [sp_fast, rx_Nn (j := a) (by omega), rx_Nn (j := q) (by omega), sp_lk_0 ha h2 h14 hno, hu]
        rw [as_self]
        rfl
      | succ k ih =>
        intro i x hi hx hu
        subst hx
        refine rx_iload (i := 5) X dX8_fast_24 rfl ?_
        refine rx_bipush (v := 20) X dX8_fast_26 (by decide) ?_
        refine rx_icmp_gt_f X dX8_fast_28 (nI_nlt (a := 20) (b := i) (by omega) (by omega)) ?_
        refine rx_iload (i := 4) X dX8_fast_31 rfl ?_
        refine rx_if_ge_f X dX8_fast_33 (by decide) ?_
        refine rx_aload_n (i := 0) X dX8_fast_36 rfl rfl ?_
        refine rx_getR (ci := 8) (i := 5) X (km_0 hO) rfl rfl (by decide) inX8 flX8_19 dX8_fast_37 ?_
        refine rx_bipush (v := 16) X dX8_fast_40 (by decide) ?_
        refine rx_iload_n (i := 1) X dX8_fast_42 rfl rfl ?_
        refine rx_iadd X dX8_fast_43 ?_
        refine rx_iload (i := 5) X dX8_fast_44 rfl ?_
        refine rx_iastN (j := 16 + a) X (km_4 hO) hO.2.2.1 (nI_add 16 a) (by omega) (by decide) dX8_fast_46 ?_
        refine rx_sto (as_up _ _ _ _) ?_
        refine rx_aload_n (i := 0) X dX8_fast_47 rfl rfl ?_
        refine rx_iload_n (i := 1) X dX8_fast_48 rfl rfl ?_
        refine rx_iload_n (i := 2) X dX8_fast_49 rfl rfl ?_
        have hvv := w_V_upd16 hv ha (v := nI i) (by rw [nI_toInt (by omega)]; omega)
        refine rx_callVi (ci := 8) X vsX8_isThereBy mlX8_205 (kA_thereBy hO ha (by omega) (K := 999) (by omega) hvv (fun j hj => upd_n (by omega))) (km_0 hO) rfl rfl (by decide) (by decide) dX8_fast_50 rfl (Nat.le_of_ble_eq_true rfl) (fun r50 t50 h50 => ?_)
        obtain ⟨rfl, ⟨rfl, h50⟩ | ⟨rfl, h50⟩⟩ := h50
        all_goals rw [← as_self]
        · refine rx_if_eq_f X dX8_fast_53 (by decide) ?_
          refine rx_iload (i := 5) X dX8_fast_56 rfl ?_
          refine rx_goto X dX8_fast_58 ?_
          refine rx_istore (i := 4) (lo2 := [(0, .ref _), (1, .int _), (2, .int _), (3, .int _), (4, .int _), (5, .int _)]) X dX8_fast_63 (by decide) rfl ?_
          refine rx_iinc (i := 5) (lo2 := [(0, .ref _), (1, .int _), (2, .int _), (3, .int _), (4, .int _), (5, .int _)]) X dX8_fast_65 rfl (rx_inc1 _) (by decide) rfl ?_
          refine rx_goto X dX8_fast_68 ?_
          refine rx_iload (i := 5) X dX8_fast_24 rfl ?_
          refine rx_bipush (v := 20) X dX8_fast_26 (by decide) ?_
          refine rx_icmp_gt X dX8_fast_28 (fun h28 => ?_) (fun h28 => ?_)
          · try simp only [Int32.lt_iff_toInt_lt, Int32.le_iff_toInt_le, Int32.reduceToInt] at h28
            refine rx_iload (i := 4) X dX8_fast_71 rfl ?_
            refine rx_iret X dX8_fast_73 ?_
            rw [sp_fast, rx_Nn (j := a) (by omega), rx_Nn (j := q) (by omega), sp_lk_0 ha h2 h14 hno, hu]
            rw [w_fast, if_pos h50, as_self]
          · try simp only [Int32.lt_iff_toInt_lt, Int32.le_iff_toInt_le, Int32.reduceToInt] at h28
            refine rx_iload (i := 4) X dX8_fast_31 rfl ?_
            refine rx_if_ge_t X dX8_fast_33 (nI_pos' (n := i) (by omega)) ?_
            refine rx_iload (i := 4) X dX8_fast_71 rfl ?_
            refine rx_iret X dX8_fast_73 ?_
            rw [sp_fast, rx_Nn (j := a) (by omega), rx_Nn (j := q) (by omega), sp_lk_0 ha h2 h14 hno, hu]
            rw [w_fast, if_pos h50, as_self]
        · refine rx_if_eq_t X dX8_fast_53 (by decide) ?_
          refine rx_iload (i := 4) X dX8_fast_61 rfl ?_
          refine rx_istore (i := 4) (lo2 := [(0, .ref _), (1, .int _), (2, .int _), (3, .int _), (4, .int _), (5, .int _)]) X dX8_fast_63 (by decide) rfl ?_
          refine rx_iinc (i := 5) (lo2 := [(0, .ref _), (1, .int _), (2, .int _), (3, .int _), (4, .int _), (5, .int _)]) X dX8_fast_65 rfl (rx_inc1 _) (by decide) rfl ?_
          refine rx_goto X dX8_fast_68 ?_
          refine ih (i + 1) _ (by omega) (nI_1 i) ?_
          rw [hu]
          conv => lhs; rw [w_fast, if_neg h50]
    exact loop 20 1 _ (by omega) rfl rfl
  refine rx_aload_n (i := 0) X dX8_fast_0 rfl rfl ?_
  refine rx_iload_n (i := 1) X dX8_fast_1 rfl rfl ?_
  refine rx_iload_n (i := 2) X dX8_fast_2 rfl rfl ?_
  refine rx_callVi (ci := 8) X vsX8_lacks mlX8_202 (kX8_lacks hO hw) (km_0 hO) rfl rfl (by decide) (by decide) dX8_fast_3 rfl (Nat.le_of_ble_eq_true rfl) (fun r3 t3 h3 => ?_)
  obtain ⟨rfl, ⟨rfl, h3⟩ | ⟨rfl, h3⟩ | ⟨rfl, h3⟩⟩ := h3
  · refine rx_istore_n (i := 3) (lo2 := [(0, .ref _), (1, .int _), (2, .int _), (3, .int _)]) X dX8_fast_6 rfl (by decide) rfl ?_
    refine rx_iload_n (i := 3) X dX8_fast_7 rfl rfl ?_
    refine rx_if_ge_f X dX8_fast_8 (by decide) ?_
    refine rx_iload_n (i := 3) X dX8_fast_11 rfl rfl ?_
    refine rx_iret X dX8_fast_12 ?_
    rw [sp_fast]
    first | rw [sp_lk_1 (by assumption)] | rw [sp_lk_2 (by assumption)] | fail "leaf"
  · refine rx_istore_n (i := 3) (lo2 := [(0, .ref _), (1, .int _), (2, .int _), (3, .int _)]) X dX8_fast_6 rfl (by decide) rfl ?_
    refine rx_iload_n (i := 3) X dX8_fast_7 rfl rfl ?_
    refine rx_if_ge_f X dX8_fast_8 (by decide) ?_
    refine rx_iload_n (i := 3) X dX8_fast_11 rfl rfl ?_
    refine rx_iret X dX8_fast_12 ?_
    rw [sp_fast]
    first | rw [sp_lk_1 (by assumption)] | rw [sp_lk_2 (by assumption)] | fail "leaf"
  · obtain ⟨h2, h14, hno⟩ := h3
    obtain ⟨a, ha, rfl⟩ := rx_sub h2.1 (n := 6) (by have := hw.n3; omega)
    obtain ⟨q, hq, rfl⟩ := rx_sub (x := n) (n := 100) (by omega) (by omega)
    have hv := hw.V (by omega)
    rw [rx_Nn (j := a) (by omega)] at hno
    refine rx_istore_n (i := 3) (lo2 := [(0, .ref _), (1, .int _), (2, .int _), (3, .int _)]) X dX8_fast_6 rfl (by decide) rfl ?_
    refine rx_iload_n (i := 3) X dX8_fast_7 rfl rfl ?_
    refine rx_if_ge_t X dX8_fast_8 (by decide) ?_
    refine rx_aload_n (i := 0) X dX8_fast_13 rfl rfl ?_
    refine rx_callVv (ci := 8) X vsX8_putAside mlX8_190 (kX8_putAside hO) (km_0 hO) rfl rfl (by decide) (by decide) dX8_fast_14 rfl (Nat.le_of_ble_eq_true rfl) (fun t14 h14 => ?_)
    subst h14
    refine rx_ldc X dX8_fast_17 kcX8_189 ?_
    refine rx_istore (i := 4) (lo2 := [(0, .ref _), (1, .int _), (2, .int _), (3, .int _), (4, .int _)]) X dX8_fast_19 (by decide) rfl ?_
    refine rx_iconst (v := 1) X dX8_fast_21 (by decide) ?_
    refine rx_istore (i := 5) (lo2 := [(0, .ref _), (1, .int _), (2, .int _), (3, .int _), (4, .int _), (5, .int _)]) X dX8_fast_22 (by decide) rfl ?_
    exact go a q ha hq h2 h14 hno hv
set_option maxHeartbeats 4000000 in
set_option maxRecDepth 100000 in
theorem kX8_pullFor {l : Launch} {O : rx_O} (hO : mo_O O) {σ : rx_S} {x n : Int32} (hw : mo_W σ) : rx_MI l O yX8_pullFor cX8_pullFor 7 (some .int) 7 [.ref 0, .int x, .int n] σ (fun r τ => sp_pullFor σ x n = (r, τ)) := by
  refine rx_Met_of (own := RX8) rfl hO.2.1 vsX8_pullFor.2.2.2.2.2 (Nat.le_of_ble_eq_true rfl) rfl (fun p e s m args below meth c X => ?_)
  have go : ∀ (a q : Nat), a < 6 → q < 100 → mo_ant σ (nI a) → mo_n (nI q) → ¬ w_has (σ.1 4 4) a → w_V 999 (σ.1 4) → rx_J O 7 p l e (rx_lv 7) s m args below meth c (rx_QI O below args s (fun r τ => sp_pullFor σ (nI a) (nI q) = (r, τ))) 25 [(0, .ref 0), (1, .int (nI a)), (2, .int (nI q)), (3, .int 0), (4, .int (-1000000)), (5, .int 99)] [] (as_st σ (σ.1 4)) := by
    intro a q ha hq h2 h14 hno hv
    have n2 := rx_Ni (x := σ.1 4 2) (by have := hv.2.2.1; omega)
    have i2 := hv.2.2.1
    have loop : ∀ (k : Nat) (x : Int32), (k ≤ 100) → (x = nI k + (-1)) → (w_pf (σ.1 0 6) a q (σ.1 4) 100 = w_pf (σ.1 0 6) a q (σ.1 4) k) → rx_J O 7 p l e (rx_lv 7) s m args below meth c (rx_QI O below args s (fun r τ => sp_pullFor σ (nI a) (nI q) = (r, τ))) 25 [(0, .ref 0), (1, .int (nI a)), (2, .int (nI q)), (3, .int 0), (4, .int (-1000000)), (5, .int x)] [] (as_st σ (σ.1 4)) := by
      intro k
      induction k with
      | zero =>
        intro x hk9 hx hu
        subst hx
        refine rx_iload (i := 5) X dX8_pullFor_25 rfl ?_
        refine rx_if_lt_t X dX8_pullFor_27 (by decide) ?_
        refine rx_iload (i := 4) X dX8_pullFor_90 rfl ?_
        refine rx_iret X dX8_pullFor_92 ?_
        rw [sp_pullFor, rx_Nn (j := a) (by omega), rx_Nn (j := q) (by omega), sp_lk_0 ha h2 h14 hno, hu]
        rw [as_self]
        rfl
      | succ k ih =>
        intro x hk9 hx hu
        have hk : k < 100 := by omega
        rw [pk_m1] at hx
        subst hx
        have inner : ∀ (j : Nat) (p0 : Nat) (xp : Int32), (p0 + j = rx_N (σ.1 4 2)) → (xp = nI p0) → rx_J O 7 p l e (rx_lv 7) s m args below meth c (rx_QI O below args s (fun r τ => sp_pullFor σ (nI a) (nI q) = (r, τ))) 38 [(0, .ref 0), (1, .int (nI a)), (2, .int (nI q)), (3, .int 0), (4, .int (-1000000)), (5, .int (nI k)), (6, .int xp)] [] (as_st σ (w_pl p0 (nI k) (σ.1 4))) := by
          intro j
          induction j with
          | zero =>
            intro p0 xp hp0 hxp
            subst hxp
            obtain rfl : p0 = rx_N (σ.1 4 2) := by omega
            refine rx_iload (i := 6) X dX8_pullFor_38 rfl ?_
            refine rx_aload_n (i := 0) X dX8_pullFor_40 rfl rfl ?_
            refine rx_getR (ci := 8) (i := 5) X (km_0 hO) rfl rfl (by decide) inX8 flX8_19 dX8_pullFor_41 ?_
            refine rx_iconst (v := 2) X dX8_pullFor_44 (by decide) ?_
            refine rx_ialdN (j := 2) X (km_4 hO) hO.2.2.1 rfl (by decide) (by decide) dX8_pullFor_45 ?_
            refine rx_top ((as_rd _ _ _).trans (w_pl_n (by omega))) ?_
            refine rx_icmp_ge_t X dX8_pullFor_46 (by rw [← rx_nN (x := σ.1 4 2) (by omega)]; exact Int32.le_refl _) ?_
            refine rx_aload_n (i := 0) X dX8_pullFor_66 rfl rfl ?_
            refine rx_iload_n (i := 1) X dX8_pullFor_67 rfl rfl ?_
            refine rx_iload_n (i := 2) X dX8_pullFor_68 rfl rfl ?_
            have hvv := w_V_pl (p := rx_N (σ.1 4 2)) hv (by omega) (v := nI k) (by rw [nI_toInt (by omega)]; omega)
            refine rx_callVi (ci := 8) X vsX8_isThereBy mlX8_205 (kA_thereBy hO ha (by omega) (K := 999) (by omega) hvv (fun j hj => w_pl_n (by omega))) (km_0 hO) rfl rfl (by decide) (by decide) dX8_pullFor_69 rfl (Nat.le_of_ble_eq_true rfl) (fun r69 t69 h69 => ?_)
            obtain ⟨rfl, ⟨rfl, h69⟩ | ⟨rfl, h69⟩⟩ := h69
            all_goals rw [← as_self]
            · refine rx_if_eq_f X dX8_pullFor_72 (by decide) ?_
              refine rx_iload (i := 5) X dX8_pullFor_75 rfl ?_
              refine rx_goto X dX8_pullFor_77 ?_
              refine rx_istore (i := 4) (lo2 := [(0, .ref _), (1, .int _), (2, .int _), (3, .int _), (4, .int _), (5, .int _), (6, .int _)]) X dX8_pullFor_82 (by decide) rfl ?_
              refine rx_iinc (i := 5) (lo2 := [(0, .ref _), (1, .int _), (2, .int _), (3, .int _), (4, .int _), (5, .int _), (6, .int _)]) X dX8_pullFor_84 rfl (rx_dec1 _) (by decide) rfl ?_
              refine rx_goto X dX8_pullFor_87 ?_
              refine rx_iload (i := 5) X dX8_pullFor_25 rfl ?_
              refine rx_if_lt X dX8_pullFor_27 (fun h27 => ?_) (fun h27 => ?_)
              · try simp only [Int32.lt_iff_toInt_lt, Int32.le_iff_toInt_le, Int32.reduceToInt] at h27
                skip
                refine rx_iload (i := 4) X dX8_pullFor_90 rfl ?_
                refine rx_iret X dX8_pullFor_92 ?_
                rw [sp_pullFor, rx_Nn (j := a) (by omega), rx_Nn (j := q) (by omega), sp_lk_0 ha h2 h14 hno, hu]
                rw [w_pf, if_pos h69, as_self]
              · try simp only [Int32.lt_iff_toInt_lt, Int32.le_iff_toInt_le, Int32.reduceToInt] at h27
                refine rx_iload (i := 4) X dX8_pullFor_30 rfl ?_
                refine rx_if_ge_t X dX8_pullFor_32 (nI_pos' (n := k) (by omega)) ?_
                refine rx_iload (i := 4) X dX8_pullFor_90 rfl ?_
                refine rx_iret X dX8_pullFor_92 ?_
                rw [sp_pullFor, rx_Nn (j := a) (by omega), rx_Nn (j := q) (by omega), sp_lk_0 ha h2 h14 hno, hu]
                rw [w_pf, if_pos h69, as_self]
            · refine rx_if_eq_t X dX8_pullFor_72 (by decide) ?_
              refine rx_iload (i := 4) X dX8_pullFor_80 rfl ?_
              refine rx_istore (i := 4) (lo2 := [(0, .ref _), (1, .int _), (2, .int _), (3, .int _), (4, .int _), (5, .int _), (6, .int _)]) X dX8_pullFor_82 (by decide) rfl ?_
              refine rx_iinc (i := 5) (lo2 := [(0, .ref _), (1, .int _), (2, .int _), (3, .int _), (4, .int _), (5, .int _), (6, .int _)]) X dX8_pullFor_84 rfl (rx_dec1 _) (by decide) rfl ?_
              refine rx_goto X dX8_pullFor_87 ?_
              refine rx_less [0, 1, 2, 3, 4, 5] rfl ?_
              refine ih _ (by omega) rfl ?_
              rw [hu]
              conv => lhs; rw [w_pf, if_neg h69]
          | succ j ihj =>
            intro p0 xp hp0 hxp
            subst hxp
            refine rx_iload (i := 6) X dX8_pullFor_38 rfl ?_
            refine rx_aload_n (i := 0) X dX8_pullFor_40 rfl rfl ?_
            refine rx_getR (ci := 8) (i := 5) X (km_0 hO) rfl rfl (by decide) inX8 flX8_19 dX8_pullFor_41 ?_
            refine rx_iconst (v := 2) X dX8_pullFor_44 (by decide) ?_
            refine rx_ialdN (j := 2) X (km_4 hO) hO.2.2.1 rfl (by decide) (by decide) dX8_pullFor_45 ?_
            refine rx_top ((as_rd _ _ _).trans (w_pl_n (by omega))) ?_
            refine rx_icmp_ge_f X dX8_pullFor_46 (by rw [rx_nN (x := σ.1 4 2) (by omega)]; exact nI_ge (by omega) (by omega)) ?_
            refine rx_aload_n (i := 0) X dX8_pullFor_49 rfl rfl ?_
            refine rx_getR (ci := 8) (i := 5) X (km_0 hO) rfl rfl (by decide) inX8 flX8_19 dX8_pullFor_50 ?_
            refine rx_iconst (v := 5) X dX8_pullFor_53 (by decide) ?_
            refine rx_iload (i := 6) X dX8_pullFor_54 rfl ?_
            refine rx_iadd X dX8_pullFor_56 ?_
            refine rx_iload (i := 5) X dX8_pullFor_57 rfl ?_
            refine rx_iastN (j := 5 + p0) X (km_4 hO) hO.2.2.1 (nI_add 5 p0) (by omega) (by decide) dX8_pullFor_59 ?_
            refine rx_sto (as_up _ _ _ _) ?_
            refine rx_iinc (i := 6) (lo2 := [(0, .ref _), (1, .int _), (2, .int _), (3, .int _), (4, .int _), (5, .int _), (6, .int _)]) X dX8_pullFor_60 rfl (rx_inc1 _) (by decide) rfl ?_
            refine rx_goto X dX8_pullFor_63 ?_
            rw [w_pl_s]
            exact ihj (p0 + 1) _ (by omega) (nI_1 p0)
        refine rx_iload (i := 5) X dX8_pullFor_25 rfl ?_
        refine rx_if_lt_f X dX8_pullFor_27 (nI_pos (by omega)) ?_
        refine rx_iload (i := 4) X dX8_pullFor_30 rfl ?_
        refine rx_if_ge_f X dX8_pullFor_32 (by decide) ?_
        refine rx_iconst (v := 0) X dX8_pullFor_35 (by decide) ?_
        refine rx_istore (i := 6) (lo2 := [(0, .ref _), (1, .int _), (2, .int _), (3, .int _), (4, .int _), (5, .int _), (6, .int _)]) X dX8_pullFor_36 (by decide) rfl ?_
        have hin := inner (rx_N (σ.1 4 2)) 0 _ (by omega) rfl
        rw [w_pl_0] at hin
        exact hin
    exact loop 100 _ (by omega) rfl rfl
  refine rx_aload_n (i := 0) X dX8_pullFor_0 rfl rfl ?_
  refine rx_iload_n (i := 1) X dX8_pullFor_1 rfl rfl ?_
  refine rx_iload_n (i := 2) X dX8_pullFor_2 rfl rfl ?_
  refine rx_callVi (ci := 8) X vsX8_lacks mlX8_202 (kX8_lacks hO hw) (km_0 hO) rfl rfl (by decide) (by decide) dX8_pullFor_3 rfl (Nat.le_of_ble_eq_true rfl) (fun r3 t3 h3 => ?_)
  obtain ⟨rfl, ⟨rfl, h3⟩ | ⟨rfl, h3⟩ | ⟨rfl, h3⟩⟩ := h3
  · refine rx_istore_n (i := 3) (lo2 := [(0, .ref _), (1, .int _), (2, .int _), (3, .int _)]) X dX8_pullFor_6 rfl (by decide) rfl ?_
    refine rx_iload_n (i := 3) X dX8_pullFor_7 rfl rfl ?_
    refine rx_if_ge_f X dX8_pullFor_8 (by decide) ?_
    refine rx_iload_n (i := 3) X dX8_pullFor_11 rfl rfl ?_
    refine rx_iret X dX8_pullFor_12 ?_
    rw [sp_pullFor]
    first | rw [sp_lk_1 (by assumption)] | rw [sp_lk_2 (by assumption)] | fail "leaf"
  · refine rx_istore_n (i := 3) (lo2 := [(0, .ref _), (1, .int _), (2, .int _), (3, .int _)]) X dX8_pullFor_6 rfl (by decide) rfl ?_
    refine rx_iload_n (i := 3) X dX8_pullFor_7 rfl rfl ?_
    refine rx_if_ge_f X dX8_pullFor_8 (by decide) ?_
    refine rx_iload_n (i := 3) X dX8_pullFor_11 rfl rfl ?_
    refine rx_iret X dX8_pullFor_12 ?_
    rw [sp_pullFor]
    first | rw [sp_lk_1 (by assumption)] | rw [sp_lk_2 (by assumption)] | fail "leaf"
  · obtain ⟨h2, h14, hno⟩ := h3
    obtain ⟨a, ha, rfl⟩ := rx_sub h2.1 (n := 6) (by have := hw.n3; omega)
    obtain ⟨q, hq, rfl⟩ := rx_sub (x := n) (n := 100) (by omega) (by omega)
    have hv := hw.V (by omega)
    rw [rx_Nn (j := a) (by omega)] at hno
    refine rx_istore_n (i := 3) (lo2 := [(0, .ref _), (1, .int _), (2, .int _), (3, .int _)]) X dX8_pullFor_6 rfl (by decide) rfl ?_
    refine rx_iload_n (i := 3) X dX8_pullFor_7 rfl rfl ?_
    refine rx_if_ge_t X dX8_pullFor_8 (by decide) ?_
    refine rx_aload_n (i := 0) X dX8_pullFor_13 rfl rfl ?_
    refine rx_callVv (ci := 8) X vsX8_putAside mlX8_190 (kX8_putAside hO) (km_0 hO) rfl rfl (by decide) (by decide) dX8_pullFor_14 rfl (Nat.le_of_ble_eq_true rfl) (fun t14 h14 => ?_)
    subst h14
    refine rx_ldc X dX8_pullFor_17 kcX8_189 ?_
    refine rx_istore (i := 4) (lo2 := [(0, .ref _), (1, .int _), (2, .int _), (3, .int _), (4, .int _)]) X dX8_pullFor_19 (by decide) rfl ?_
    refine rx_bipush (v := 99) X dX8_pullFor_21 (by decide) ?_
    refine rx_istore (i := 5) (lo2 := [(0, .ref _), (1, .int _), (2, .int _), (3, .int _), (4, .int _), (5, .int _)]) X dX8_pullFor_23 (by decide) rfl ?_
    exact go a q ha hq h2 h14 hno hv
abbrev w_hf (a : Nat) (b : Bool) (w : Nat → Int32) : Prop := w (34 + a) = 500000 ∨ decide (w (34 + a) < 500000) ≠ b
def w_half (sp : Int32) (a : Nat) (b : Bool) : Nat → Nat → (Nat → Int32) → Int32
  | 0, n, w => if w_hf a b w then nI n else -1000000
  | f + 1, n, w => if w_hf a b w then nI n else w_half sp a b f (n + 1) (w_one sp w)
def sp_half (σ : rx_S) (x : Int32) : Int32 × rx_S := sp_lk σ x 1 (w_half (σ.1 0 6) (rx_N x) (decide (σ.1 4 (34 + rx_N x) < 500000)) 200 0 (σ.1 4))
set_option maxHeartbeats 4000000 in
set_option maxRecDepth 100000 in
theorem kX8_half {l : Launch} {O : rx_O} (hO : mo_O O) {σ : rx_S} {x : Int32} (hw : mo_W σ) : rx_MI l O yX8_half cX8_half 6 (some .int) 7 [.ref 0, .int x] σ (fun r τ => sp_half σ x = (r, τ)) := by
  refine rx_Met_of (own := RX8) rfl hO.2.1 vsX8_half.2.2.2.2.2 (Nat.le_of_ble_eq_true rfl) rfl (fun p e s m args below meth c X => ?_)
  have go : ∀ (a : Nat), a < 6 → mo_ant σ (nI a) → ¬ w_has (σ.1 4 4) a → w_V 999 (σ.1 4) → (∀ b : Bool, decide (σ.1 4 (34 + a) < 500000) = b → rx_J O 6 p l e (rx_lv 7) s m args below meth c (rx_QI O below args s (fun r τ => sp_half σ (nI a) = (r, τ))) 40 [(0, .ref 0), (1, .int (nI a)), (2, .int 0), (3, .int (if b = true then 1 else 0)), (4, .int 0)] [] (as_st σ (σ.1 4))) := by
    intro a ha h2 hno hv b hb
    cases b with
    | true =>
      have loop : ∀ (k : Nat) (i K : Nat) (x : Int32) (u : Nat → Int32), (i + k = 200) → (x = nI i) → (K + k < 1000000) → (w_V K u) → (∀ j, 40 ≤ j → u j = σ.1 4 j) → (w_half (σ.1 0 6) a true 200 0 (σ.1 4) = w_half (σ.1 0 6) a true k i u) → rx_J O 6 p l e (rx_lv 7) s m args below meth c (rx_QI O below args s (fun r τ => sp_half σ (nI a) = (r, τ))) 40 [(0, .ref 0), (1, .int (nI a)), (2, .int 0), (3, .int 1), (4, .int x)] [] (as_st σ u) := by
        intro k
        induction k with
        | zero =>
          intro i K x u hi9 hx hK hv hi40 hu
          subst hx
          obtain rfl : i = 200 := by omega
          refine rx_aload_n (i := 0) X dX8_half_40 rfl rfl ?_
          refine rx_getR (ci := 8) (i := 5) X (km_0 hO) rfl rfl (by decide) inX8 flX8_19 dX8_half_41 ?_
          refine rx_bipush (v := 34) X dX8_half_44 (by decide) ?_
          refine rx_iload_n (i := 1) X dX8_half_46 rfl rfl ?_
          refine rx_iadd X dX8_half_47 ?_
          refine rx_ialdN (j := 34 + a) X (km_4 hO) hO.2.2.1 (nI_add 34 a) (by omega) (by decide) dX8_half_48 ?_
          refine rx_top (as_rd _ _ _) ?_
          refine rx_ldc X dX8_half_49 kcX8_218 ?_
          refine rx_icmp_eq X dX8_half_51 (fun h51 => ?_) (fun h51 => ?_)
          · refine rx_aload_n (i := 0) X dX8_half_95 rfl rfl ?_
            refine rx_getR (ci := 8) (i := 5) X (km_0 hO) rfl rfl (by decide) inX8 flX8_19 dX8_half_96 ?_
            refine rx_bipush (v := 34) X dX8_half_99 (by decide) ?_
            refine rx_iload_n (i := 1) X dX8_half_101 rfl rfl ?_
            refine rx_iadd X dX8_half_102 ?_
            refine rx_ialdN (j := 34 + a) X (km_4 hO) hO.2.2.1 (nI_add 34 a) (by omega) (by decide) dX8_half_103 ?_
            refine rx_top (as_rd _ _ _) ?_
            refine rx_ldc X dX8_half_104 kcX8_218 ?_
            refine rx_icmp_eq X dX8_half_106 (fun h106 => ?_) (fun h106 => ?_)
            · refine rx_iconst (v := 1) X dX8_half_132 (by decide) ?_
              refine rx_goto X dX8_half_133 ?_
              refine rx_istore (i := 5) (lo2 := [(0, .ref _), (1, .int _), (2, .int _), (3, .int _), (4, .int _), (5, .int _)]) X dX8_half_137 (by decide) rfl ?_
              refine rx_aload_n (i := 0) X dX8_half_139 rfl rfl ?_
              refine rx_callVv (ci := 8) X vsX8_takeBack mlX8_196 (kA_take hO hi40) (km_0 hO) rfl rfl (by decide) (by decide) dX8_half_140 rfl (Nat.le_of_ble_eq_true rfl) (fun t140 h140 => ?_)
              subst h140
              refine rx_iload (i := 5) X dX8_half_143 rfl ?_
              refine rx_if_eq_f X dX8_half_145 (by decide) ?_
              refine rx_iload (i := 4) X dX8_half_148 rfl ?_
              refine rx_goto X dX8_half_150 ?_
              refine rx_iret X dX8_half_155 ?_
              first | exact absurd h51 h106 | exact absurd h106 h51 | exact absurd (Int32.not_le.mp h65) (Int32.not_lt.mpr h120) | exact absurd (Int32.not_le.mp h120) (Int32.not_lt.mpr h65) | (rw [sp_half, show (1 : Int32) = nI 1 from rfl, rx_Nn (j := a) (by omega), hb, sp_lk_0 ha h2 (by decide) hno, hu]; rw [w_half, if_pos (Or.inl h51)]) | (rw [sp_half, show (1 : Int32) = nI 1 from rfl, rx_Nn (j := a) (by omega), hb, sp_lk_0 ha h2 (by decide) hno, hu]; rw [w_half, if_pos (Or.inr (by rw [decide_eq_false (Int32.not_lt.mpr h65)]; decide))]) | (rw [sp_half, show (1 : Int32) = nI 1 from rfl, rx_Nn (j := a) (by omega), hb, sp_lk_0 ha h2 (by decide) hno, hu]; rw [w_half, if_neg (fun q => q.elim h51 (fun q => q (decide_eq_true (Int32.not_le.mp h65))))]) | fail "leaf"
            · refine rx_aload_n (i := 0) X dX8_half_109 rfl rfl ?_
              refine rx_getR (ci := 8) (i := 5) X (km_0 hO) rfl rfl (by decide) inX8 flX8_19 dX8_half_110 ?_
              refine rx_bipush (v := 34) X dX8_half_113 (by decide) ?_
              refine rx_iload_n (i := 1) X dX8_half_115 rfl rfl ?_
              refine rx_iadd X dX8_half_116 ?_
              refine rx_ialdN (j := 34 + a) X (km_4 hO) hO.2.2.1 (nI_add 34 a) (by omega) (by decide) dX8_half_117 ?_
              refine rx_top (as_rd _ _ _) ?_
              refine rx_ldc X dX8_half_118 kcX8_218 ?_
              refine rx_icmp_ge X dX8_half_120 (fun h120 => ?_) (fun h120 => ?_)
              · refine rx_iconst (v := 0) X dX8_half_127 (by decide) ?_
                refine rx_iload_n (i := 3) X dX8_half_128 rfl rfl ?_
                refine rx_icmp_eq_f X dX8_half_129 (by decide) ?_
                refine rx_iconst (v := 1) X dX8_half_132 (by decide) ?_
                refine rx_goto X dX8_half_133 ?_
                refine rx_istore (i := 5) (lo2 := [(0, .ref _), (1, .int _), (2, .int _), (3, .int _), (4, .int _), (5, .int _)]) X dX8_half_137 (by decide) rfl ?_
                refine rx_aload_n (i := 0) X dX8_half_139 rfl rfl ?_
                refine rx_callVv (ci := 8) X vsX8_takeBack mlX8_196 (kA_take hO hi40) (km_0 hO) rfl rfl (by decide) (by decide) dX8_half_140 rfl (Nat.le_of_ble_eq_true rfl) (fun t140 h140 => ?_)
                subst h140
                refine rx_iload (i := 5) X dX8_half_143 rfl ?_
                refine rx_if_eq_f X dX8_half_145 (by decide) ?_
                refine rx_iload (i := 4) X dX8_half_148 rfl ?_
                refine rx_goto X dX8_half_150 ?_
                refine rx_iret X dX8_half_155 ?_
                first | exact absurd h51 h106 | exact absurd h106 h51 | exact absurd (Int32.not_le.mp h65) (Int32.not_lt.mpr h120) | exact absurd (Int32.not_le.mp h120) (Int32.not_lt.mpr h65) | (rw [sp_half, show (1 : Int32) = nI 1 from rfl, rx_Nn (j := a) (by omega), hb, sp_lk_0 ha h2 (by decide) hno, hu]; rw [w_half, if_pos (Or.inl h51)]) | (rw [sp_half, show (1 : Int32) = nI 1 from rfl, rx_Nn (j := a) (by omega), hb, sp_lk_0 ha h2 (by decide) hno, hu]; rw [w_half, if_pos (Or.inr (by rw [decide_eq_false (Int32.not_lt.mpr h65)]; decide))]) | (rw [sp_half, show (1 : Int32) = nI 1 from rfl, rx_Nn (j := a) (by omega), hb, sp_lk_0 ha h2 (by decide) hno, hu]; rw [w_half, if_neg (fun q => q.elim h51 (fun q => q (decide_eq_true (Int32.not_le.mp h65))))]) | fail "leaf"
              · refine rx_iconst (v := 1) X dX8_half_123 (by decide) ?_
                refine rx_goto X dX8_half_124 ?_
                refine rx_iload_n (i := 3) X dX8_half_128 rfl rfl ?_
                refine rx_icmp_eq_t X dX8_half_129 (by decide) ?_
                refine rx_iconst (v := 0) X dX8_half_136 (by decide) ?_
                refine rx_istore (i := 5) (lo2 := [(0, .ref _), (1, .int _), (2, .int _), (3, .int _), (4, .int _), (5, .int _)]) X dX8_half_137 (by decide) rfl ?_
                refine rx_aload_n (i := 0) X dX8_half_139 rfl rfl ?_
                refine rx_callVv (ci := 8) X vsX8_takeBack mlX8_196 (kA_take hO hi40) (km_0 hO) rfl rfl (by decide) (by decide) dX8_half_140 rfl (Nat.le_of_ble_eq_true rfl) (fun t140 h140 => ?_)
                subst h140
                refine rx_iload (i := 5) X dX8_half_143 rfl ?_
                refine rx_if_eq_t X dX8_half_145 (by decide) ?_
                refine rx_ldc X dX8_half_153 kcX8_189 ?_
                refine rx_iret X dX8_half_155 ?_
                first | exact absurd h51 h106 | exact absurd h106 h51 | exact absurd (Int32.not_le.mp h65) (Int32.not_lt.mpr h120) | exact absurd (Int32.not_le.mp h120) (Int32.not_lt.mpr h65) | (rw [sp_half, show (1 : Int32) = nI 1 from rfl, rx_Nn (j := a) (by omega), hb, sp_lk_0 ha h2 (by decide) hno, hu]; rw [w_half, if_pos (Or.inl h51)]) | (rw [sp_half, show (1 : Int32) = nI 1 from rfl, rx_Nn (j := a) (by omega), hb, sp_lk_0 ha h2 (by decide) hno, hu]; rw [w_half, if_pos (Or.inr (by rw [decide_eq_false (Int32.not_lt.mpr h65)]; decide))]) | (rw [sp_half, show (1 : Int32) = nI 1 from rfl, rx_Nn (j := a) (by omega), hb, sp_lk_0 ha h2 (by decide) hno, hu]; rw [w_half, if_neg (fun q => q.elim h51 (fun q => q (decide_eq_true (Int32.not_le.mp h65))))]) | fail "leaf"
          · refine rx_aload_n (i := 0) X dX8_half_54 rfl rfl ?_
            refine rx_getR (ci := 8) (i := 5) X (km_0 hO) rfl rfl (by decide) inX8 flX8_19 dX8_half_55 ?_
            refine rx_bipush (v := 34) X dX8_half_58 (by decide) ?_
            refine rx_iload_n (i := 1) X dX8_half_60 rfl rfl ?_
            refine rx_iadd X dX8_half_61 ?_
            refine rx_ialdN (j := 34 + a) X (km_4 hO) hO.2.2.1 (nI_add 34 a) (by omega) (by decide) dX8_half_62 ?_
            refine rx_top (as_rd _ _ _) ?_
            refine rx_ldc X dX8_half_63 kcX8_218 ?_
            refine rx_icmp_ge X dX8_half_65 (fun h65 => ?_) (fun h65 => ?_)
            · refine rx_iconst (v := 0) X dX8_half_72 (by decide) ?_
              refine rx_iload_n (i := 3) X dX8_half_73 rfl rfl ?_
              refine rx_icmp_ne_t X dX8_half_74 (by decide) ?_
              refine rx_aload_n (i := 0) X dX8_half_95 rfl rfl ?_
              refine rx_getR (ci := 8) (i := 5) X (km_0 hO) rfl rfl (by decide) inX8 flX8_19 dX8_half_96 ?_
              refine rx_bipush (v := 34) X dX8_half_99 (by decide) ?_
              refine rx_iload_n (i := 1) X dX8_half_101 rfl rfl ?_
              refine rx_iadd X dX8_half_102 ?_
              refine rx_ialdN (j := 34 + a) X (km_4 hO) hO.2.2.1 (nI_add 34 a) (by omega) (by decide) dX8_half_103 ?_
              refine rx_top (as_rd _ _ _) ?_
              refine rx_ldc X dX8_half_104 kcX8_218 ?_
              refine rx_icmp_eq X dX8_half_106 (fun h106 => ?_) (fun h106 => ?_)
              · refine rx_iconst (v := 1) X dX8_half_132 (by decide) ?_
                refine rx_goto X dX8_half_133 ?_
                refine rx_istore (i := 5) (lo2 := [(0, .ref _), (1, .int _), (2, .int _), (3, .int _), (4, .int _), (5, .int _)]) X dX8_half_137 (by decide) rfl ?_
                refine rx_aload_n (i := 0) X dX8_half_139 rfl rfl ?_
                refine rx_callVv (ci := 8) X vsX8_takeBack mlX8_196 (kA_take hO hi40) (km_0 hO) rfl rfl (by decide) (by decide) dX8_half_140 rfl (Nat.le_of_ble_eq_true rfl) (fun t140 h140 => ?_)
                subst h140
                refine rx_iload (i := 5) X dX8_half_143 rfl ?_
                refine rx_if_eq_f X dX8_half_145 (by decide) ?_
                refine rx_iload (i := 4) X dX8_half_148 rfl ?_
                refine rx_goto X dX8_half_150 ?_
                refine rx_iret X dX8_half_155 ?_
                first | exact absurd h51 h106 | exact absurd h106 h51 | exact absurd (Int32.not_le.mp h65) (Int32.not_lt.mpr h120) | exact absurd (Int32.not_le.mp h120) (Int32.not_lt.mpr h65) | (rw [sp_half, show (1 : Int32) = nI 1 from rfl, rx_Nn (j := a) (by omega), hb, sp_lk_0 ha h2 (by decide) hno, hu]; rw [w_half, if_pos (Or.inl h51)]) | (rw [sp_half, show (1 : Int32) = nI 1 from rfl, rx_Nn (j := a) (by omega), hb, sp_lk_0 ha h2 (by decide) hno, hu]; rw [w_half, if_pos (Or.inr (by rw [decide_eq_false (Int32.not_lt.mpr h65)]; decide))]) | (rw [sp_half, show (1 : Int32) = nI 1 from rfl, rx_Nn (j := a) (by omega), hb, sp_lk_0 ha h2 (by decide) hno, hu]; rw [w_half, if_neg (fun q => q.elim h51 (fun q => q (decide_eq_true (Int32.not_le.mp h65))))]) | fail "leaf"
              · refine rx_aload_n (i := 0) X dX8_half_109 rfl rfl ?_
                refine rx_getR (ci := 8) (i := 5) X (km_0 hO) rfl rfl (by decide) inX8 flX8_19 dX8_half_110 ?_
                refine rx_bipush (v := 34) X dX8_half_113 (by decide) ?_
                refine rx_iload_n (i := 1) X dX8_half_115 rfl rfl ?_
                refine rx_iadd X dX8_half_116 ?_
                refine rx_ialdN (j := 34 + a) X (km_4 hO) hO.2.2.1 (nI_add 34 a) (by omega) (by decide) dX8_half_117 ?_
                refine rx_top (as_rd _ _ _) ?_
                refine rx_ldc X dX8_half_118 kcX8_218 ?_
                refine rx_icmp_ge X dX8_half_120 (fun h120 => ?_) (fun h120 => ?_)
                · refine rx_iconst (v := 0) X dX8_half_127 (by decide) ?_
                  refine rx_iload_n (i := 3) X dX8_half_128 rfl rfl ?_
                  refine rx_icmp_eq_f X dX8_half_129 (by decide) ?_
                  refine rx_iconst (v := 1) X dX8_half_132 (by decide) ?_
                  refine rx_goto X dX8_half_133 ?_
                  refine rx_istore (i := 5) (lo2 := [(0, .ref _), (1, .int _), (2, .int _), (3, .int _), (4, .int _), (5, .int _)]) X dX8_half_137 (by decide) rfl ?_
                  refine rx_aload_n (i := 0) X dX8_half_139 rfl rfl ?_
                  refine rx_callVv (ci := 8) X vsX8_takeBack mlX8_196 (kA_take hO hi40) (km_0 hO) rfl rfl (by decide) (by decide) dX8_half_140 rfl (Nat.le_of_ble_eq_true rfl) (fun t140 h140 => ?_)
                  subst h140
                  refine rx_iload (i := 5) X dX8_half_143 rfl ?_
                  refine rx_if_eq_f X dX8_half_145 (by decide) ?_
                  refine rx_iload (i := 4) X dX8_half_148 rfl ?_
                  refine rx_goto X dX8_half_150 ?_
                  refine rx_iret X dX8_half_155 ?_
                  first | exact absurd h51 h106 | exact absurd h106 h51 | exact absurd (Int32.not_le.mp h65) (Int32.not_lt.mpr h120) | exact absurd (Int32.not_le.mp h120) (Int32.not_lt.mpr h65) | (rw [sp_half, show (1 : Int32) = nI 1 from rfl, rx_Nn (j := a) (by omega), hb, sp_lk_0 ha h2 (by decide) hno, hu]; rw [w_half, if_pos (Or.inl h51)]) | (rw [sp_half, show (1 : Int32) = nI 1 from rfl, rx_Nn (j := a) (by omega), hb, sp_lk_0 ha h2 (by decide) hno, hu]; rw [w_half, if_pos (Or.inr (by rw [decide_eq_false (Int32.not_lt.mpr h65)]; decide))]) | (rw [sp_half, show (1 : Int32) = nI 1 from rfl, rx_Nn (j := a) (by omega), hb, sp_lk_0 ha h2 (by decide) hno, hu]; rw [w_half, if_neg (fun q => q.elim h51 (fun q => q (decide_eq_true (Int32.not_le.mp h65))))]) | fail "leaf"
                · refine rx_iconst (v := 1) X dX8_half_123 (by decide) ?_
                  refine rx_goto X dX8_half_124 ?_
                  refine rx_iload_n (i := 3) X dX8_half_128 rfl rfl ?_
                  refine rx_icmp_eq_t X dX8_half_129 (by decide) ?_
                  refine rx_iconst (v := 0) X dX8_half_136 (by decide) ?_
                  refine rx_istore (i := 5) (lo2 := [(0, .ref _), (1, .int _), (2, .int _), (3, .int _), (4, .int _), (5, .int _)]) X dX8_half_137 (by decide) rfl ?_
                  refine rx_aload_n (i := 0) X dX8_half_139 rfl rfl ?_
                  refine rx_callVv (ci := 8) X vsX8_takeBack mlX8_196 (kA_take hO hi40) (km_0 hO) rfl rfl (by decide) (by decide) dX8_half_140 rfl (Nat.le_of_ble_eq_true rfl) (fun t140 h140 => ?_)
                  subst h140
                  refine rx_iload (i := 5) X dX8_half_143 rfl ?_
                  refine rx_if_eq_t X dX8_half_145 (by decide) ?_
                  refine rx_ldc X dX8_half_153 kcX8_189 ?_
                  refine rx_iret X dX8_half_155 ?_
                  first | exact absurd h51 h106 | exact absurd h106 h51 | exact absurd (Int32.not_le.mp h65) (Int32.not_lt.mpr h120) | exact absurd (Int32.not_le.mp h120) (Int32.not_lt.mpr h65) | (rw [sp_half, show (1 : Int32) = nI 1 from rfl, rx_Nn (j := a) (by omega), hb, sp_lk_0 ha h2 (by decide) hno, hu]; rw [w_half, if_pos (Or.inl h51)]) | (rw [sp_half, show (1 : Int32) = nI 1 from rfl, rx_Nn (j := a) (by omega), hb, sp_lk_0 ha h2 (by decide) hno, hu]; rw [w_half, if_pos (Or.inr (by rw [decide_eq_false (Int32.not_lt.mpr h65)]; decide))]) | (rw [sp_half, show (1 : Int32) = nI 1 from rfl, rx_Nn (j := a) (by omega), hb, sp_lk_0 ha h2 (by decide) hno, hu]; rw [w_half, if_neg (fun q => q.elim h51 (fun q => q (decide_eq_true (Int32.not_le.mp h65))))]) | fail "leaf"
            · refine rx_iconst (v := 1) X dX8_half_68 (by decide) ?_
              refine rx_goto X dX8_half_69 ?_
              refine rx_iload_n (i := 3) X dX8_half_73 rfl rfl ?_
              refine rx_icmp_ne_f X dX8_half_74 (by decide) ?_
              refine rx_iload (i := 4) X dX8_half_77 rfl ?_
              refine rx_sipush (v := 200) X dX8_half_79 (by decide) ?_
              refine rx_icmp_ge_t X dX8_half_82 (Int32.le_refl _) ?_
              refine rx_aload_n (i := 0) X dX8_half_95 rfl rfl ?_
              refine rx_getR (ci := 8) (i := 5) X (km_0 hO) rfl rfl (by decide) inX8 flX8_19 dX8_half_96 ?_
              refine rx_bipush (v := 34) X dX8_half_99 (by decide) ?_
              refine rx_iload_n (i := 1) X dX8_half_101 rfl rfl ?_
              refine rx_iadd X dX8_half_102 ?_
              refine rx_ialdN (j := 34 + a) X (km_4 hO) hO.2.2.1 (nI_add 34 a) (by omega) (by decide) dX8_half_103 ?_
              refine rx_top (as_rd _ _ _) ?_
              refine rx_ldc X dX8_half_104 kcX8_218 ?_
              refine rx_icmp_eq X dX8_half_106 (fun h106 => ?_) (fun h106 => ?_)
              · refine rx_iconst (v := 1) X dX8_half_132 (by decide) ?_
                refine rx_goto X dX8_half_133 ?_
                refine rx_istore (i := 5) (lo2 := [(0, .ref _), (1, .int _), (2, .int _), (3, .int _), (4, .int _), (5, .int _)]) X dX8_half_137 (by decide) rfl ?_
                refine rx_aload_n (i := 0) X dX8_half_139 rfl rfl ?_
                refine rx_callVv (ci := 8) X vsX8_takeBack mlX8_196 (kA_take hO hi40) (km_0 hO) rfl rfl (by decide) (by decide) dX8_half_140 rfl (Nat.le_of_ble_eq_true rfl) (fun t140 h140 => ?_)
                subst h140
                refine rx_iload (i := 5) X dX8_half_143 rfl ?_
                refine rx_if_eq_f X dX8_half_145 (by decide) ?_
                refine rx_iload (i := 4) X dX8_half_148 rfl ?_
                refine rx_goto X dX8_half_150 ?_
                refine rx_iret X dX8_half_155 ?_
                first | exact absurd h51 h106 | exact absurd h106 h51 | exact absurd (Int32.not_le.mp h65) (Int32.not_lt.mpr h120) | exact absurd (Int32.not_le.mp h120) (Int32.not_lt.mpr h65) | (rw [sp_half, show (1 : Int32) = nI 1 from rfl, rx_Nn (j := a) (by omega), hb, sp_lk_0 ha h2 (by decide) hno, hu]; rw [w_half, if_pos (Or.inl h51)]) | (rw [sp_half, show (1 : Int32) = nI 1 from rfl, rx_Nn (j := a) (by omega), hb, sp_lk_0 ha h2 (by decide) hno, hu]; rw [w_half, if_pos (Or.inr (by rw [decide_eq_false (Int32.not_lt.mpr h65)]; decide))]) | (rw [sp_half, show (1 : Int32) = nI 1 from rfl, rx_Nn (j := a) (by omega), hb, sp_lk_0 ha h2 (by decide) hno, hu]; rw [w_half, if_neg (fun q => q.elim h51 (fun q => q (decide_eq_true (Int32.not_le.mp h65))))]) | fail "leaf"
              · refine rx_aload_n (i := 0) X dX8_half_109 rfl rfl ?_
                refine rx_getR (ci := 8) (i := 5) X (km_0 hO) rfl rfl (by decide) inX8 flX8_19 dX8_half_110 ?_
                refine rx_bipush (v := 34) X dX8_half_113 (by decide) ?_
                refine rx_iload_n (i := 1) X dX8_half_115 rfl rfl ?_
                refine rx_iadd X dX8_half_116 ?_
                refine rx_ialdN (j := 34 + a) X (km_4 hO) hO.2.2.1 (nI_add 34 a) (by omega) (by decide) dX8_half_117 ?_
                refine rx_top (as_rd _ _ _) ?_
                refine rx_ldc X dX8_half_118 kcX8_218 ?_
                refine rx_icmp_ge X dX8_half_120 (fun h120 => ?_) (fun h120 => ?_)
                · refine rx_iconst (v := 0) X dX8_half_127 (by decide) ?_
                  refine rx_iload_n (i := 3) X dX8_half_128 rfl rfl ?_
                  refine rx_icmp_eq_f X dX8_half_129 (by decide) ?_
                  refine rx_iconst (v := 1) X dX8_half_132 (by decide) ?_
                  refine rx_goto X dX8_half_133 ?_
                  refine rx_istore (i := 5) (lo2 := [(0, .ref _), (1, .int _), (2, .int _), (3, .int _), (4, .int _), (5, .int _)]) X dX8_half_137 (by decide) rfl ?_
                  refine rx_aload_n (i := 0) X dX8_half_139 rfl rfl ?_
                  refine rx_callVv (ci := 8) X vsX8_takeBack mlX8_196 (kA_take hO hi40) (km_0 hO) rfl rfl (by decide) (by decide) dX8_half_140 rfl (Nat.le_of_ble_eq_true rfl) (fun t140 h140 => ?_)
                  subst h140
                  refine rx_iload (i := 5) X dX8_half_143 rfl ?_
                  refine rx_if_eq_f X dX8_half_145 (by decide) ?_
                  refine rx_iload (i := 4) X dX8_half_148 rfl ?_
                  refine rx_goto X dX8_half_150 ?_
                  refine rx_iret X dX8_half_155 ?_
                  first | exact absurd h51 h106 | exact absurd h106 h51 | exact absurd (Int32.not_le.mp h65) (Int32.not_lt.mpr h120) | exact absurd (Int32.not_le.mp h120) (Int32.not_lt.mpr h65) | (rw [sp_half, show (1 : Int32) = nI 1 from rfl, rx_Nn (j := a) (by omega), hb, sp_lk_0 ha h2 (by decide) hno, hu]; rw [w_half, if_pos (Or.inl h51)]) | (rw [sp_half, show (1 : Int32) = nI 1 from rfl, rx_Nn (j := a) (by omega), hb, sp_lk_0 ha h2 (by decide) hno, hu]; rw [w_half, if_pos (Or.inr (by rw [decide_eq_false (Int32.not_lt.mpr h65)]; decide))]) | (rw [sp_half, show (1 : Int32) = nI 1 from rfl, rx_Nn (j := a) (by omega), hb, sp_lk_0 ha h2 (by decide) hno, hu]; rw [w_half, if_neg (fun q => q.elim h51 (fun q => q (decide_eq_true (Int32.not_le.mp h65))))]) | fail "leaf"
                · refine rx_iconst (v := 1) X dX8_half_123 (by decide) ?_
                  refine rx_goto X dX8_half_124 ?_
                  refine rx_iload_n (i := 3) X dX8_half_128 rfl rfl ?_
                  refine rx_icmp_eq_t X dX8_half_129 (by decide) ?_
                  refine rx_iconst (v := 0) X dX8_half_136 (by decide) ?_
                  refine rx_istore (i := 5) (lo2 := [(0, .ref _), (1, .int _), (2, .int _), (3, .int _), (4, .int _), (5, .int _)]) X dX8_half_137 (by decide) rfl ?_
                  refine rx_aload_n (i := 0) X dX8_half_139 rfl rfl ?_
                  refine rx_callVv (ci := 8) X vsX8_takeBack mlX8_196 (kA_take hO hi40) (km_0 hO) rfl rfl (by decide) (by decide) dX8_half_140 rfl (Nat.le_of_ble_eq_true rfl) (fun t140 h140 => ?_)
                  subst h140
                  refine rx_iload (i := 5) X dX8_half_143 rfl ?_
                  refine rx_if_eq_t X dX8_half_145 (by decide) ?_
                  refine rx_ldc X dX8_half_153 kcX8_189 ?_
                  refine rx_iret X dX8_half_155 ?_
                  first | exact absurd h51 h106 | exact absurd h106 h51 | exact absurd (Int32.not_le.mp h65) (Int32.not_lt.mpr h120) | exact absurd (Int32.not_le.mp h120) (Int32.not_lt.mpr h65) | (rw [sp_half, show (1 : Int32) = nI 1 from rfl, rx_Nn (j := a) (by omega), hb, sp_lk_0 ha h2 (by decide) hno, hu]; rw [w_half, if_pos (Or.inl h51)]) | (rw [sp_half, show (1 : Int32) = nI 1 from rfl, rx_Nn (j := a) (by omega), hb, sp_lk_0 ha h2 (by decide) hno, hu]; rw [w_half, if_pos (Or.inr (by rw [decide_eq_false (Int32.not_lt.mpr h65)]; decide))]) | (rw [sp_half, show (1 : Int32) = nI 1 from rfl, rx_Nn (j := a) (by omega), hb, sp_lk_0 ha h2 (by decide) hno, hu]; rw [w_half, if_neg (fun q => q.elim h51 (fun q => q (decide_eq_true (Int32.not_le.mp h65))))]) | fail "leaf"
        | succ k ih =>
          intro i K x u hi9 hx hK hv hi40 hu
          subst hx
          refine rx_aload_n (i := 0) X dX8_half_40 rfl rfl ?_
          refine rx_getR (ci := 8) (i := 5) X (km_0 hO) rfl rfl (by decide) inX8 flX8_19 dX8_half_41 ?_
          refine rx_bipush (v := 34) X dX8_half_44 (by decide) ?_
          refine rx_iload_n (i := 1) X dX8_half_46 rfl rfl ?_
          refine rx_iadd X dX8_half_47 ?_
          refine rx_ialdN (j := 34 + a) X (km_4 hO) hO.2.2.1 (nI_add 34 a) (by omega) (by decide) dX8_half_48 ?_
          refine rx_top (as_rd _ _ _) ?_
          refine rx_ldc X dX8_half_49 kcX8_218 ?_
          refine rx_icmp_eq X dX8_half_51 (fun h51 => ?_) (fun h51 => ?_)
          · refine rx_aload_n (i := 0) X dX8_half_95 rfl rfl ?_
            refine rx_getR (ci := 8) (i := 5) X (km_0 hO) rfl rfl (by decide) inX8 flX8_19 dX8_half_96 ?_
            refine rx_bipush (v := 34) X dX8_half_99 (by decide) ?_
            refine rx_iload_n (i := 1) X dX8_half_101 rfl rfl ?_
            refine rx_iadd X dX8_half_102 ?_
            refine rx_ialdN (j := 34 + a) X (km_4 hO) hO.2.2.1 (nI_add 34 a) (by omega) (by decide) dX8_half_103 ?_
            refine rx_top (as_rd _ _ _) ?_
            refine rx_ldc X dX8_half_104 kcX8_218 ?_
            refine rx_icmp_eq X dX8_half_106 (fun h106 => ?_) (fun h106 => ?_)
            · refine rx_iconst (v := 1) X dX8_half_132 (by decide) ?_
              refine rx_goto X dX8_half_133 ?_
              refine rx_istore (i := 5) (lo2 := [(0, .ref _), (1, .int _), (2, .int _), (3, .int _), (4, .int _), (5, .int _)]) X dX8_half_137 (by decide) rfl ?_
              refine rx_aload_n (i := 0) X dX8_half_139 rfl rfl ?_
              refine rx_callVv (ci := 8) X vsX8_takeBack mlX8_196 (kA_take hO hi40) (km_0 hO) rfl rfl (by decide) (by decide) dX8_half_140 rfl (Nat.le_of_ble_eq_true rfl) (fun t140 h140 => ?_)
              subst h140
              refine rx_iload (i := 5) X dX8_half_143 rfl ?_
              refine rx_if_eq_f X dX8_half_145 (by decide) ?_
              refine rx_iload (i := 4) X dX8_half_148 rfl ?_
              refine rx_goto X dX8_half_150 ?_
              refine rx_iret X dX8_half_155 ?_
              first | exact absurd h51 h106 | exact absurd h106 h51 | exact absurd (Int32.not_le.mp h65) (Int32.not_lt.mpr h120) | exact absurd (Int32.not_le.mp h120) (Int32.not_lt.mpr h65) | (rw [sp_half, show (1 : Int32) = nI 1 from rfl, rx_Nn (j := a) (by omega), hb, sp_lk_0 ha h2 (by decide) hno, hu]; rw [w_half, if_pos (Or.inl h51)]) | (rw [sp_half, show (1 : Int32) = nI 1 from rfl, rx_Nn (j := a) (by omega), hb, sp_lk_0 ha h2 (by decide) hno, hu]; rw [w_half, if_pos (Or.inr (by rw [decide_eq_false (Int32.not_lt.mpr h65)]; decide))]) | fail "leaf"
            · refine rx_aload_n (i := 0) X dX8_half_109 rfl rfl ?_
              refine rx_getR (ci := 8) (i := 5) X (km_0 hO) rfl rfl (by decide) inX8 flX8_19 dX8_half_110 ?_
              refine rx_bipush (v := 34) X dX8_half_113 (by decide) ?_
              refine rx_iload_n (i := 1) X dX8_half_115 rfl rfl ?_
              refine rx_iadd X dX8_half_116 ?_
              refine rx_ialdN (j := 34 + a) X (km_4 hO) hO.2.2.1 (nI_add 34 a) (by omega) (by decide) dX8_half_117 ?_
              refine rx_top (as_rd _ _ _) ?_
              refine rx_ldc X dX8_half_118 kcX8_218 ?_
              refine rx_icmp_ge X dX8_half_120 (fun h120 => ?_) (fun h120 => ?_)
              · refine rx_iconst (v := 0) X dX8_half_127 (by decide) ?_
                refine rx_iload_n (i := 3) X dX8_half_128 rfl rfl ?_
                refine rx_icmp_eq_f X dX8_half_129 (by decide) ?_
                refine rx_iconst (v := 1) X dX8_half_132 (by decide) ?_
                refine rx_goto X dX8_half_133 ?_
                refine rx_istore (i := 5) (lo2 := [(0, .ref _), (1, .int _), (2, .int _), (3, .int _), (4, .int _), (5, .int _)]) X dX8_half_137 (by decide) rfl ?_
                refine rx_aload_n (i := 0) X dX8_half_139 rfl rfl ?_
                refine rx_callVv (ci := 8) X vsX8_takeBack mlX8_196 (kA_take hO hi40) (km_0 hO) rfl rfl (by decide) (by decide) dX8_half_140 rfl (Nat.le_of_ble_eq_true rfl) (fun t140 h140 => ?_)
                subst h140
                refine rx_iload (i := 5) X dX8_half_143 rfl ?_
                refine rx_if_eq_f X dX8_half_145 (by decide) ?_
                refine rx_iload (i := 4) X dX8_half_148 rfl ?_
                refine rx_goto X dX8_half_150 ?_
                refine rx_iret X dX8_half_155 ?_
                first | exact absurd h51 h106 | exact absurd h106 h51 | exact absurd (Int32.not_le.mp h65) (Int32.not_lt.mpr h120) | exact absurd (Int32.not_le.mp h120) (Int32.not_lt.mpr h65) | (rw [sp_half, show (1 : Int32) = nI 1 from rfl, rx_Nn (j := a) (by omega), hb, sp_lk_0 ha h2 (by decide) hno, hu]; rw [w_half, if_pos (Or.inl h51)]) | (rw [sp_half, show (1 : Int32) = nI 1 from rfl, rx_Nn (j := a) (by omega), hb, sp_lk_0 ha h2 (by decide) hno, hu]; rw [w_half, if_pos (Or.inr (by rw [decide_eq_false (Int32.not_lt.mpr h65)]; decide))]) | fail "leaf"
              · refine rx_iconst (v := 1) X dX8_half_123 (by decide) ?_
                refine rx_goto X dX8_half_124 ?_
                refine rx_iload_n (i := 3) X dX8_half_128 rfl rfl ?_
                refine rx_icmp_eq_t X dX8_half_129 (by decide) ?_
                refine rx_iconst (v := 0) X dX8_half_136 (by decide) ?_
                refine rx_istore (i := 5) (lo2 := [(0, .ref _), (1, .int _), (2, .int _), (3, .int _), (4, .int _), (5, .int _)]) X dX8_half_137 (by decide) rfl ?_
                refine rx_aload_n (i := 0) X dX8_half_139 rfl rfl ?_
                refine rx_callVv (ci := 8) X vsX8_takeBack mlX8_196 (kA_take hO hi40) (km_0 hO) rfl rfl (by decide) (by decide) dX8_half_140 rfl (Nat.le_of_ble_eq_true rfl) (fun t140 h140 => ?_)
                subst h140
                refine rx_iload (i := 5) X dX8_half_143 rfl ?_
                refine rx_if_eq_t X dX8_half_145 (by decide) ?_
                refine rx_ldc X dX8_half_153 kcX8_189 ?_
                refine rx_iret X dX8_half_155 ?_
                first | exact absurd h51 h106 | exact absurd h106 h51 | exact absurd (Int32.not_le.mp h65) (Int32.not_lt.mpr h120) | exact absurd (Int32.not_le.mp h120) (Int32.not_lt.mpr h65) | (rw [sp_half, show (1 : Int32) = nI 1 from rfl, rx_Nn (j := a) (by omega), hb, sp_lk_0 ha h2 (by decide) hno, hu]; rw [w_half, if_pos (Or.inl h51)]) | (rw [sp_half, show (1 : Int32) = nI 1 from rfl, rx_Nn (j := a) (by omega), hb, sp_lk_0 ha h2 (by decide) hno, hu]; rw [w_half, if_pos (Or.inr (by rw [decide_eq_false (Int32.not_lt.mpr h65)]; decide))]) | fail "leaf"
          · refine rx_aload_n (i := 0) X dX8_half_54 rfl rfl ?_
            refine rx_getR (ci := 8) (i := 5) X (km_0 hO) rfl rfl (by decide) inX8 flX8_19 dX8_half_55 ?_
            refine rx_bipush (v := 34) X dX8_half_58 (by decide) ?_
            refine rx_iload_n (i := 1) X dX8_half_60 rfl rfl ?_
            refine rx_iadd X dX8_half_61 ?_
            refine rx_ialdN (j := 34 + a) X (km_4 hO) hO.2.2.1 (nI_add 34 a) (by omega) (by decide) dX8_half_62 ?_
            refine rx_top (as_rd _ _ _) ?_
            refine rx_ldc X dX8_half_63 kcX8_218 ?_
            refine rx_icmp_ge X dX8_half_65 (fun h65 => ?_) (fun h65 => ?_)
            · refine rx_iconst (v := 0) X dX8_half_72 (by decide) ?_
              refine rx_iload_n (i := 3) X dX8_half_73 rfl rfl ?_
              refine rx_icmp_ne_t X dX8_half_74 (by decide) ?_
              refine rx_aload_n (i := 0) X dX8_half_95 rfl rfl ?_
              refine rx_getR (ci := 8) (i := 5) X (km_0 hO) rfl rfl (by decide) inX8 flX8_19 dX8_half_96 ?_
              refine rx_bipush (v := 34) X dX8_half_99 (by decide) ?_
              refine rx_iload_n (i := 1) X dX8_half_101 rfl rfl ?_
              refine rx_iadd X dX8_half_102 ?_
              refine rx_ialdN (j := 34 + a) X (km_4 hO) hO.2.2.1 (nI_add 34 a) (by omega) (by decide) dX8_half_103 ?_
              refine rx_top (as_rd _ _ _) ?_
              refine rx_ldc X dX8_half_104 kcX8_218 ?_
              refine rx_icmp_eq X dX8_half_106 (fun h106 => ?_) (fun h106 => ?_)
              · refine rx_iconst (v := 1) X dX8_half_132 (by decide) ?_
                refine rx_goto X dX8_half_133 ?_
                refine rx_istore (i := 5) (lo2 := [(0, .ref _), (1, .int _), (2, .int _), (3, .int _), (4, .int _), (5, .int _)]) X dX8_half_137 (by decide) rfl ?_
                refine rx_aload_n (i := 0) X dX8_half_139 rfl rfl ?_
                refine rx_callVv (ci := 8) X vsX8_takeBack mlX8_196 (kA_take hO hi40) (km_0 hO) rfl rfl (by decide) (by decide) dX8_half_140 rfl (Nat.le_of_ble_eq_true rfl) (fun t140 h140 => ?_)
                subst h140
                refine rx_iload (i := 5) X dX8_half_143 rfl ?_
                refine rx_if_eq_f X dX8_half_145 (by decide) ?_
                refine rx_iload (i := 4) X dX8_half_148 rfl ?_
                refine rx_goto X dX8_half_150 ?_
                refine rx_iret X dX8_half_155 ?_
                first | exact absurd h51 h106 | exact absurd h106 h51 | exact absurd (Int32.not_le.mp h65) (Int32.not_lt.mpr h120) | exact absurd (Int32.not_le.mp h120) (Int32.not_lt.mpr h65) | (rw [sp_half, show (1 : Int32) = nI 1 from rfl, rx_Nn (j := a) (by omega), hb, sp_lk_0 ha h2 (by decide) hno, hu]; rw [w_half, if_pos (Or.inl h51)]) | (rw [sp_half, show (1 : Int32) = nI 1 from rfl, rx_Nn (j := a) (by omega), hb, sp_lk_0 ha h2 (by decide) hno, hu]; rw [w_half, if_pos (Or.inr (by rw [decide_eq_false (Int32.not_lt.mpr h65)]; decide))]) | fail "leaf"
              · refine rx_aload_n (i := 0) X dX8_half_109 rfl rfl ?_
                refine rx_getR (ci := 8) (i := 5) X (km_0 hO) rfl rfl (by decide) inX8 flX8_19 dX8_half_110 ?_
                refine rx_bipush (v := 34) X dX8_half_113 (by decide) ?_
                refine rx_iload_n (i := 1) X dX8_half_115 rfl rfl ?_
                refine rx_iadd X dX8_half_116 ?_
                refine rx_ialdN (j := 34 + a) X (km_4 hO) hO.2.2.1 (nI_add 34 a) (by omega) (by decide) dX8_half_117 ?_
                refine rx_top (as_rd _ _ _) ?_
                refine rx_ldc X dX8_half_118 kcX8_218 ?_
                refine rx_icmp_ge X dX8_half_120 (fun h120 => ?_) (fun h120 => ?_)
                · refine rx_iconst (v := 0) X dX8_half_127 (by decide) ?_
                  refine rx_iload_n (i := 3) X dX8_half_128 rfl rfl ?_
                  refine rx_icmp_eq_f X dX8_half_129 (by decide) ?_
                  refine rx_iconst (v := 1) X dX8_half_132 (by decide) ?_
                  refine rx_goto X dX8_half_133 ?_
                  refine rx_istore (i := 5) (lo2 := [(0, .ref _), (1, .int _), (2, .int _), (3, .int _), (4, .int _), (5, .int _)]) X dX8_half_137 (by decide) rfl ?_
                  refine rx_aload_n (i := 0) X dX8_half_139 rfl rfl ?_
                  refine rx_callVv (ci := 8) X vsX8_takeBack mlX8_196 (kA_take hO hi40) (km_0 hO) rfl rfl (by decide) (by decide) dX8_half_140 rfl (Nat.le_of_ble_eq_true rfl) (fun t140 h140 => ?_)
                  subst h140
                  refine rx_iload (i := 5) X dX8_half_143 rfl ?_
                  refine rx_if_eq_f X dX8_half_145 (by decide) ?_
                  refine rx_iload (i := 4) X dX8_half_148 rfl ?_
                  refine rx_goto X dX8_half_150 ?_
                  refine rx_iret X dX8_half_155 ?_
                  first | exact absurd h51 h106 | exact absurd h106 h51 | exact absurd (Int32.not_le.mp h65) (Int32.not_lt.mpr h120) | exact absurd (Int32.not_le.mp h120) (Int32.not_lt.mpr h65) | (rw [sp_half, show (1 : Int32) = nI 1 from rfl, rx_Nn (j := a) (by omega), hb, sp_lk_0 ha h2 (by decide) hno, hu]; rw [w_half, if_pos (Or.inl h51)]) | (rw [sp_half, show (1 : Int32) = nI 1 from rfl, rx_Nn (j := a) (by omega), hb, sp_lk_0 ha h2 (by decide) hno, hu]; rw [w_half, if_pos (Or.inr (by rw [decide_eq_false (Int32.not_lt.mpr h65)]; decide))]) | fail "leaf"
                · refine rx_iconst (v := 1) X dX8_half_123 (by decide) ?_
                  refine rx_goto X dX8_half_124 ?_
                  refine rx_iload_n (i := 3) X dX8_half_128 rfl rfl ?_
                  refine rx_icmp_eq_t X dX8_half_129 (by decide) ?_
                  refine rx_iconst (v := 0) X dX8_half_136 (by decide) ?_
                  refine rx_istore (i := 5) (lo2 := [(0, .ref _), (1, .int _), (2, .int _), (3, .int _), (4, .int _), (5, .int _)]) X dX8_half_137 (by decide) rfl ?_
                  refine rx_aload_n (i := 0) X dX8_half_139 rfl rfl ?_
                  refine rx_callVv (ci := 8) X vsX8_takeBack mlX8_196 (kA_take hO hi40) (km_0 hO) rfl rfl (by decide) (by decide) dX8_half_140 rfl (Nat.le_of_ble_eq_true rfl) (fun t140 h140 => ?_)
                  subst h140
                  refine rx_iload (i := 5) X dX8_half_143 rfl ?_
                  refine rx_if_eq_t X dX8_half_145 (by decide) ?_
                  refine rx_ldc X dX8_half_153 kcX8_189 ?_
                  refine rx_iret X dX8_half_155 ?_
                  first | exact absurd h51 h106 | exact absurd h106 h51 | exact absurd (Int32.not_le.mp h65) (Int32.not_lt.mpr h120) | exact absurd (Int32.not_le.mp h120) (Int32.not_lt.mpr h65) | (rw [sp_half, show (1 : Int32) = nI 1 from rfl, rx_Nn (j := a) (by omega), hb, sp_lk_0 ha h2 (by decide) hno, hu]; rw [w_half, if_pos (Or.inl h51)]) | (rw [sp_half, show (1 : Int32) = nI 1 from rfl, rx_Nn (j := a) (by omega), hb, sp_lk_0 ha h2 (by decide) hno, hu]; rw [w_half, if_pos (Or.inr (by rw [decide_eq_false (Int32.not_lt.mpr h65)]; decide))]) | fail "leaf"
            · refine rx_iconst (v := 1) X dX8_half_68 (by decide) ?_
              refine rx_goto X dX8_half_69 ?_
              refine rx_iload_n (i := 3) X dX8_half_73 rfl rfl ?_
              refine rx_icmp_ne_f X dX8_half_74 (by decide) ?_
              refine rx_iload (i := 4) X dX8_half_77 rfl ?_
              refine rx_sipush (v := 200) X dX8_half_79 (by decide) ?_
              refine rx_icmp_ge_f X dX8_half_82 (nI_ge (b := 200) (by omega) (by decide)) ?_
              refine rx_aload_n (i := 0) X dX8_half_85 rfl rfl ?_
              refine rx_callVv (ci := 8) X vsX8_oneMinute mlX8_170 (kA_one hO hv) (km_0 hO) rfl rfl (by decide) (by decide) dX8_half_86 rfl (Nat.le_of_ble_eq_true rfl) (fun t86 h86 => ?_)
              subst h86
              refine rx_iinc (i := 4) (lo2 := [(0, .ref _), (1, .int _), (2, .int _), (3, .int _), (4, .int _)]) X dX8_half_89 rfl (rx_inc1 _) (by decide) rfl ?_
              refine rx_goto X dX8_half_92 ?_
              refine ih (i + 1) (K + 1) _ _ (by omega) (nI_1 i) (by omega) (w_V_one (by omega) hv) (fun j hj => (w_hi_one hv hj).trans (hi40 j hj)) ?_
              rw [hu]
              conv => lhs; rw [w_half, if_neg (fun q => q.elim h51 (fun q => q (decide_eq_true (Int32.not_le.mp h65))))]
      exact loop 200 0 999 _ _ rfl rfl (by omega) hv (fun _ _ => rfl) rfl
    | false =>
      have loop : ∀ (k : Nat) (i K : Nat) (x : Int32) (u : Nat → Int32), (i + k = 200) → (x = nI i) → (K + k < 1000000) → (w_V K u) → (∀ j, 40 ≤ j → u j = σ.1 4 j) → (w_half (σ.1 0 6) a false 200 0 (σ.1 4) = w_half (σ.1 0 6) a false k i u) → rx_J O 6 p l e (rx_lv 7) s m args below meth c (rx_QI O below args s (fun r τ => sp_half σ (nI a) = (r, τ))) 40 [(0, .ref 0), (1, .int (nI a)), (2, .int 0), (3, .int 0), (4, .int x)] [] (as_st σ u) := by
        intro k
        induction k with
        | zero =>
          intro i K x u hi9 hx hK hv hi40 hu
          subst hx
          obtain rfl : i = 200 := by omega
          refine rx_aload_n (i := 0) X dX8_half_40 rfl rfl ?_
          refine rx_getR (ci := 8) (i := 5) X (km_0 hO) rfl rfl (by decide) inX8 flX8_19 dX8_half_41 ?_
          refine rx_bipush (v := 34) X dX8_half_44 (by decide) ?_
          refine rx_iload_n (i := 1) X dX8_half_46 rfl rfl ?_
          refine rx_iadd X dX8_half_47 ?_
          refine rx_ialdN (j := 34 + a) X (km_4 hO) hO.2.2.1 (nI_add 34 a) (by omega) (by decide) dX8_half_48 ?_
          refine rx_top (as_rd _ _ _) ?_
          refine rx_ldc X dX8_half_49 kcX8_218 ?_
          refine rx_icmp_eq X dX8_half_51 (fun h51 => ?_) (fun h51 => ?_)
          · refine rx_aload_n (i := 0) X dX8_half_95 rfl rfl ?_
            refine rx_getR (ci := 8) (i := 5) X (km_0 hO) rfl rfl (by decide) inX8 flX8_19 dX8_half_96 ?_
            refine rx_bipush (v := 34) X dX8_half_99 (by decide) ?_
            refine rx_iload_n (i := 1) X dX8_half_101 rfl rfl ?_
            refine rx_iadd X dX8_half_102 ?_
            refine rx_ialdN (j := 34 + a) X (km_4 hO) hO.2.2.1 (nI_add 34 a) (by omega) (by decide) dX8_half_103 ?_
            refine rx_top (as_rd _ _ _) ?_
            refine rx_ldc X dX8_half_104 kcX8_218 ?_
            refine rx_icmp_eq X dX8_half_106 (fun h106 => ?_) (fun h106 => ?_)
            · refine rx_iconst (v := 1) X dX8_half_132 (by decide) ?_
              refine rx_goto X dX8_half_133 ?_
              refine rx_istore (i := 5) (lo2 := [(0, .ref _), (1, .int _), (2, .int _), (3, .int _), (4, .int _), (5, .int _)]) X dX8_half_137 (by decide) rfl ?_
              refine rx_aload_n (i := 0) X dX8_half_139 rfl rfl ?_
              refine rx_callVv (ci := 8) X vsX8_takeBack mlX8_196 (kA_take hO hi40) (km_0 hO) rfl rfl (by decide) (by decide) dX8_half_140 rfl (Nat.le_of_ble_eq_true rfl) (fun t140 h140 => ?_)
              subst h140
              refine rx_iload (i := 5) X dX8_half_143 rfl ?_
              refine rx_if_eq_f X dX8_half_145 (by decide) ?_
              refine rx_iload (i := 4) X dX8_half_148 rfl ?_
              refine rx_goto X dX8_half_150 ?_
              refine rx_iret X dX8_half_155 ?_
              first | exact absurd h51 h106 | exact absurd h106 h51 | exact absurd (Int32.not_le.mp h65) (Int32.not_lt.mpr h120) | exact absurd (Int32.not_le.mp h120) (Int32.not_lt.mpr h65) | (rw [sp_half, show (1 : Int32) = nI 1 from rfl, rx_Nn (j := a) (by omega), hb, sp_lk_0 ha h2 (by decide) hno, hu]; rw [w_half, if_pos (Or.inl h51)]) | (rw [sp_half, show (1 : Int32) = nI 1 from rfl, rx_Nn (j := a) (by omega), hb, sp_lk_0 ha h2 (by decide) hno, hu]; rw [w_half, if_pos (Or.inr (by rw [decide_eq_true (Int32.not_le.mp h65)]; decide))]) | (rw [sp_half, show (1 : Int32) = nI 1 from rfl, rx_Nn (j := a) (by omega), hb, sp_lk_0 ha h2 (by decide) hno, hu]; rw [w_half, if_neg (fun q => q.elim h51 (fun q => q (decide_eq_false (Int32.not_lt.mpr h65))))]) | fail "leaf"
            · refine rx_aload_n (i := 0) X dX8_half_109 rfl rfl ?_
              refine rx_getR (ci := 8) (i := 5) X (km_0 hO) rfl rfl (by decide) inX8 flX8_19 dX8_half_110 ?_
              refine rx_bipush (v := 34) X dX8_half_113 (by decide) ?_
              refine rx_iload_n (i := 1) X dX8_half_115 rfl rfl ?_
              refine rx_iadd X dX8_half_116 ?_
              refine rx_ialdN (j := 34 + a) X (km_4 hO) hO.2.2.1 (nI_add 34 a) (by omega) (by decide) dX8_half_117 ?_
              refine rx_top (as_rd _ _ _) ?_
              refine rx_ldc X dX8_half_118 kcX8_218 ?_
              refine rx_icmp_ge X dX8_half_120 (fun h120 => ?_) (fun h120 => ?_)
              · refine rx_iconst (v := 0) X dX8_half_127 (by decide) ?_
                refine rx_iload_n (i := 3) X dX8_half_128 rfl rfl ?_
                refine rx_icmp_eq_t X dX8_half_129 (by decide) ?_
                refine rx_iconst (v := 0) X dX8_half_136 (by decide) ?_
                refine rx_istore (i := 5) (lo2 := [(0, .ref _), (1, .int _), (2, .int _), (3, .int _), (4, .int _), (5, .int _)]) X dX8_half_137 (by decide) rfl ?_
                refine rx_aload_n (i := 0) X dX8_half_139 rfl rfl ?_
                refine rx_callVv (ci := 8) X vsX8_takeBack mlX8_196 (kA_take hO hi40) (km_0 hO) rfl rfl (by decide) (by decide) dX8_half_140 rfl (Nat.le_of_ble_eq_true rfl) (fun t140 h140 => ?_)
                subst h140
                refine rx_iload (i := 5) X dX8_half_143 rfl ?_
                refine rx_if_eq_t X dX8_half_145 (by decide) ?_
                refine rx_ldc X dX8_half_153 kcX8_189 ?_
                refine rx_iret X dX8_half_155 ?_
                first | exact absurd h51 h106 | exact absurd h106 h51 | exact absurd (Int32.not_le.mp h65) (Int32.not_lt.mpr h120) | exact absurd (Int32.not_le.mp h120) (Int32.not_lt.mpr h65) | (rw [sp_half, show (1 : Int32) = nI 1 from rfl, rx_Nn (j := a) (by omega), hb, sp_lk_0 ha h2 (by decide) hno, hu]; rw [w_half, if_pos (Or.inl h51)]) | (rw [sp_half, show (1 : Int32) = nI 1 from rfl, rx_Nn (j := a) (by omega), hb, sp_lk_0 ha h2 (by decide) hno, hu]; rw [w_half, if_pos (Or.inr (by rw [decide_eq_true (Int32.not_le.mp h65)]; decide))]) | (rw [sp_half, show (1 : Int32) = nI 1 from rfl, rx_Nn (j := a) (by omega), hb, sp_lk_0 ha h2 (by decide) hno, hu]; rw [w_half, if_neg (fun q => q.elim h51 (fun q => q (decide_eq_false (Int32.not_lt.mpr h65))))]) | fail "leaf"
              · refine rx_iconst (v := 1) X dX8_half_123 (by decide) ?_
                refine rx_goto X dX8_half_124 ?_
                refine rx_iload_n (i := 3) X dX8_half_128 rfl rfl ?_
                refine rx_icmp_eq_f X dX8_half_129 (by decide) ?_
                refine rx_iconst (v := 1) X dX8_half_132 (by decide) ?_
                refine rx_goto X dX8_half_133 ?_
                refine rx_istore (i := 5) (lo2 := [(0, .ref _), (1, .int _), (2, .int _), (3, .int _), (4, .int _), (5, .int _)]) X dX8_half_137 (by decide) rfl ?_
                refine rx_aload_n (i := 0) X dX8_half_139 rfl rfl ?_
                refine rx_callVv (ci := 8) X vsX8_takeBack mlX8_196 (kA_take hO hi40) (km_0 hO) rfl rfl (by decide) (by decide) dX8_half_140 rfl (Nat.le_of_ble_eq_true rfl) (fun t140 h140 => ?_)
                subst h140
                refine rx_iload (i := 5) X dX8_half_143 rfl ?_
                refine rx_if_eq_f X dX8_half_145 (by decide) ?_
                refine rx_iload (i := 4) X dX8_half_148 rfl ?_
                refine rx_goto X dX8_half_150 ?_
                refine rx_iret X dX8_half_155 ?_
                first | exact absurd h51 h106 | exact absurd h106 h51 | exact absurd (Int32.not_le.mp h65) (Int32.not_lt.mpr h120) | exact absurd (Int32.not_le.mp h120) (Int32.not_lt.mpr h65) | (rw [sp_half, show (1 : Int32) = nI 1 from rfl, rx_Nn (j := a) (by omega), hb, sp_lk_0 ha h2 (by decide) hno, hu]; rw [w_half, if_pos (Or.inl h51)]) | (rw [sp_half, show (1 : Int32) = nI 1 from rfl, rx_Nn (j := a) (by omega), hb, sp_lk_0 ha h2 (by decide) hno, hu]; rw [w_half, if_pos (Or.inr (by rw [decide_eq_true (Int32.not_le.mp h65)]; decide))]) | (rw [sp_half, show (1 : Int32) = nI 1 from rfl, rx_Nn (j := a) (by omega), hb, sp_lk_0 ha h2 (by decide) hno, hu]; rw [w_half, if_neg (fun q => q.elim h51 (fun q => q (decide_eq_false (Int32.not_lt.mpr h65))))]) | fail "leaf"
          · refine rx_aload_n (i := 0) X dX8_half_54 rfl rfl ?_
            refine rx_getR (ci := 8) (i := 5) X (km_0 hO) rfl rfl (by decide) inX8 flX8_19 dX8_half_55 ?_
            refine rx_bipush (v := 34) X dX8_half_58 (by decide) ?_
            refine rx_iload_n (i := 1) X dX8_half_60 rfl rfl ?_
            refine rx_iadd X dX8_half_61 ?_
            refine rx_ialdN (j := 34 + a) X (km_4 hO) hO.2.2.1 (nI_add 34 a) (by omega) (by decide) dX8_half_62 ?_
            refine rx_top (as_rd _ _ _) ?_
            refine rx_ldc X dX8_half_63 kcX8_218 ?_
            refine rx_icmp_ge X dX8_half_65 (fun h65 => ?_) (fun h65 => ?_)
            · refine rx_iconst (v := 0) X dX8_half_72 (by decide) ?_
              refine rx_iload_n (i := 3) X dX8_half_73 rfl rfl ?_
              refine rx_icmp_ne_f X dX8_half_74 (by decide) ?_
              refine rx_iload (i := 4) X dX8_half_77 rfl ?_
              refine rx_sipush (v := 200) X dX8_half_79 (by decide) ?_
              refine rx_icmp_ge_t X dX8_half_82 (Int32.le_refl _) ?_
              refine rx_aload_n (i := 0) X dX8_half_95 rfl rfl ?_
              refine rx_getR (ci := 8) (i := 5) X (km_0 hO) rfl rfl (by decide) inX8 flX8_19 dX8_half_96 ?_
              refine rx_bipush (v := 34) X dX8_half_99 (by decide) ?_
              refine rx_iload_n (i := 1) X dX8_half_101 rfl rfl ?_
              refine rx_iadd X dX8_half_102 ?_
              refine rx_ialdN (j := 34 + a) X (km_4 hO) hO.2.2.1 (nI_add 34 a) (by omega) (by decide) dX8_half_103 ?_
              refine rx_top (as_rd _ _ _) ?_
              refine rx_ldc X dX8_half_104 kcX8_218 ?_
              refine rx_icmp_eq X dX8_half_106 (fun h106 => ?_) (fun h106 => ?_)
              · refine rx_iconst (v := 1) X dX8_half_132 (by decide) ?_
                refine rx_goto X dX8_half_133 ?_
                refine rx_istore (i := 5) (lo2 := [(0, .ref _), (1, .int _), (2, .int _), (3, .int _), (4, .int _), (5, .int _)]) X dX8_half_137 (by decide) rfl ?_
                refine rx_aload_n (i := 0) X dX8_half_139 rfl rfl ?_
                refine rx_callVv (ci := 8) X vsX8_takeBack mlX8_196 (kA_take hO hi40) (km_0 hO) rfl rfl (by decide) (by decide) dX8_half_140 rfl (Nat.le_of_ble_eq_true rfl) (fun t140 h140 => ?_)
                subst h140
                refine rx_iload (i := 5) X dX8_half_143 rfl ?_
                refine rx_if_eq_f X dX8_half_145 (by decide) ?_
                refine rx_iload (i := 4) X dX8_half_148 rfl ?_
                refine rx_goto X dX8_half_150 ?_
                refine rx_iret X dX8_half_155 ?_
                first | exact absurd h51 h106 | exact absurd h106 h51 | exact absurd (Int32.not_le.mp h65) (Int32.not_lt.mpr h120) | exact absurd (Int32.not_le.mp h120) (Int32.not_lt.mpr h65) | (rw [sp_half, show (1 : Int32) = nI 1 from rfl, rx_Nn (j := a) (by omega), hb, sp_lk_0 ha h2 (by decide) hno, hu]; rw [w_half, if_pos (Or.inl h51)]) | (rw [sp_half, show (1 : Int32) = nI 1 from rfl, rx_Nn (j := a) (by omega), hb, sp_lk_0 ha h2 (by decide) hno, hu]; rw [w_half, if_pos (Or.inr (by rw [decide_eq_true (Int32.not_le.mp h65)]; decide))]) | (rw [sp_half, show (1 : Int32) = nI 1 from rfl, rx_Nn (j := a) (by omega), hb, sp_lk_0 ha h2 (by decide) hno, hu]; rw [w_half, if_neg (fun q => q.elim h51 (fun q => q (decide_eq_false (Int32.not_lt.mpr h65))))]) | fail "leaf"
              · refine rx_aload_n (i := 0) X dX8_half_109 rfl rfl ?_
                refine rx_getR (ci := 8) (i := 5) X (km_0 hO) rfl rfl (by decide) inX8 flX8_19 dX8_half_110 ?_
                refine rx_bipush (v := 34) X dX8_half_113 (by decide) ?_
                refine rx_iload_n (i := 1) X dX8_half_115 rfl rfl ?_
                refine rx_iadd X dX8_half_116 ?_
                refine rx_ialdN (j := 34 + a) X (km_4 hO) hO.2.2.1 (nI_add 34 a) (by omega) (by decide) dX8_half_117 ?_
                refine rx_top (as_rd _ _ _) ?_
                refine rx_ldc X dX8_half_118 kcX8_218 ?_
                refine rx_icmp_ge X dX8_half_120 (fun h120 => ?_) (fun h120 => ?_)
                · refine rx_iconst (v := 0) X dX8_half_127 (by decide) ?_
                  refine rx_iload_n (i := 3) X dX8_half_128 rfl rfl ?_
                  refine rx_icmp_eq_t X dX8_half_129 (by decide) ?_
                  refine rx_iconst (v := 0) X dX8_half_136 (by decide) ?_
                  refine rx_istore (i := 5) (lo2 := [(0, .ref _), (1, .int _), (2, .int _), (3, .int _), (4, .int _), (5, .int _)]) X dX8_half_137 (by decide) rfl ?_
                  refine rx_aload_n (i := 0) X dX8_half_139 rfl rfl ?_
                  refine rx_callVv (ci := 8) X vsX8_takeBack mlX8_196 (kA_take hO hi40) (km_0 hO) rfl rfl (by decide) (by decide) dX8_half_140 rfl (Nat.le_of_ble_eq_true rfl) (fun t140 h140 => ?_)
                  subst h140
                  refine rx_iload (i := 5) X dX8_half_143 rfl ?_
                  refine rx_if_eq_t X dX8_half_145 (by decide) ?_
                  refine rx_ldc X dX8_half_153 kcX8_189 ?_
                  refine rx_iret X dX8_half_155 ?_
                  first | exact absurd h51 h106 | exact absurd h106 h51 | exact absurd (Int32.not_le.mp h65) (Int32.not_lt.mpr h120) | exact absurd (Int32.not_le.mp h120) (Int32.not_lt.mpr h65) | (rw [sp_half, show (1 : Int32) = nI 1 from rfl, rx_Nn (j := a) (by omega), hb, sp_lk_0 ha h2 (by decide) hno, hu]; rw [w_half, if_pos (Or.inl h51)]) | (rw [sp_half, show (1 : Int32) = nI 1 from rfl, rx_Nn (j := a) (by omega), hb, sp_lk_0 ha h2 (by decide) hno, hu]; rw [w_half, if_pos (Or.inr (by rw [decide_eq_true (Int32.not_le.mp h65)]; decide))]) | (rw [sp_half, show (1 : Int32) = nI 1 from rfl, rx_Nn (j := a) (by omega), hb, sp_lk_0 ha h2 (by decide) hno, hu]; rw [w_half, if_neg (fun q => q.elim h51 (fun q => q (decide_eq_false (Int32.not_lt.mpr h65))))]) | fail "leaf"
                · refine rx_iconst (v := 1) X dX8_half_123 (by decide) ?_
                  refine rx_goto X dX8_half_124 ?_
                  refine rx_iload_n (i := 3) X dX8_half_128 rfl rfl ?_
                  refine rx_icmp_eq_f X dX8_half_129 (by decide) ?_
                  refine rx_iconst (v := 1) X dX8_half_132 (by decide) ?_
                  refine rx_goto X dX8_half_133 ?_
                  refine rx_istore (i := 5) (lo2 := [(0, .ref _), (1, .int _), (2, .int _), (3, .int _), (4, .int _), (5, .int _)]) X dX8_half_137 (by decide) rfl ?_
                  refine rx_aload_n (i := 0) X dX8_half_139 rfl rfl ?_
                  refine rx_callVv (ci := 8) X vsX8_takeBack mlX8_196 (kA_take hO hi40) (km_0 hO) rfl rfl (by decide) (by decide) dX8_half_140 rfl (Nat.le_of_ble_eq_true rfl) (fun t140 h140 => ?_)
                  subst h140
                  refine rx_iload (i := 5) X dX8_half_143 rfl ?_
                  refine rx_if_eq_f X dX8_half_145 (by decide) ?_
                  refine rx_iload (i := 4) X dX8_half_148 rfl ?_
                  refine rx_goto X dX8_half_150 ?_
                  refine rx_iret X dX8_half_155 ?_
                  first | exact absurd h51 h106 | exact absurd h106 h51 | exact absurd (Int32.not_le.mp h65) (Int32.not_lt.mpr h120) | exact absurd (Int32.not_le.mp h120) (Int32.not_lt.mpr h65) | (rw [sp_half, show (1 : Int32) = nI 1 from rfl, rx_Nn (j := a) (by omega), hb, sp_lk_0 ha h2 (by decide) hno, hu]; rw [w_half, if_pos (Or.inl h51)]) | (rw [sp_half, show (1 : Int32) = nI 1 from rfl, rx_Nn (j := a) (by omega), hb, sp_lk_0 ha h2 (by decide) hno, hu]; rw [w_half, if_pos (Or.inr (by rw [decide_eq_true (Int32.not_le.mp h65)]; decide))]) | (rw [sp_half, show (1 : Int32) = nI 1 from rfl, rx_Nn (j := a) (by omega), hb, sp_lk_0 ha h2 (by decide) hno, hu]; rw [w_half, if_neg (fun q => q.elim h51 (fun q => q (decide_eq_false (Int32.not_lt.mpr h65))))]) | fail "leaf"
            · refine rx_iconst (v := 1) X dX8_half_68 (by decide) ?_
              refine rx_goto X dX8_half_69 ?_
              refine rx_iload_n (i := 3) X dX8_half_73 rfl rfl ?_
              refine rx_icmp_ne_t X dX8_half_74 (by decide) ?_
              refine rx_aload_n (i := 0) X dX8_half_95 rfl rfl ?_
              refine rx_getR (ci := 8) (i := 5) X (km_0 hO) rfl rfl (by decide) inX8 flX8_19 dX8_half_96 ?_
              refine rx_bipush (v := 34) X dX8_half_99 (by decide) ?_
              refine rx_iload_n (i := 1) X dX8_half_101 rfl rfl ?_
              refine rx_iadd X dX8_half_102 ?_
              refine rx_ialdN (j := 34 + a) X (km_4 hO) hO.2.2.1 (nI_add 34 a) (by omega) (by decide) dX8_half_103 ?_
              refine rx_top (as_rd _ _ _) ?_
              refine rx_ldc X dX8_half_104 kcX8_218 ?_
              refine rx_icmp_eq X dX8_half_106 (fun h106 => ?_) (fun h106 => ?_)
              · refine rx_iconst (v := 1) X dX8_half_132 (by decide) ?_
                refine rx_goto X dX8_half_133 ?_
                refine rx_istore (i := 5) (lo2 := [(0, .ref _), (1, .int _), (2, .int _), (3, .int _), (4, .int _), (5, .int _)]) X dX8_half_137 (by decide) rfl ?_
                refine rx_aload_n (i := 0) X dX8_half_139 rfl rfl ?_
                refine rx_callVv (ci := 8) X vsX8_takeBack mlX8_196 (kA_take hO hi40) (km_0 hO) rfl rfl (by decide) (by decide) dX8_half_140 rfl (Nat.le_of_ble_eq_true rfl) (fun t140 h140 => ?_)
                subst h140
                refine rx_iload (i := 5) X dX8_half_143 rfl ?_
                refine rx_if_eq_f X dX8_half_145 (by decide) ?_
                refine rx_iload (i := 4) X dX8_half_148 rfl ?_
                refine rx_goto X dX8_half_150 ?_
                refine rx_iret X dX8_half_155 ?_
                first | exact absurd h51 h106 | exact absurd h106 h51 | exact absurd (Int32.not_le.mp h65) (Int32.not_lt.mpr h120) | exact absurd (Int32.not_le.mp h120) (Int32.not_lt.mpr h65) | (rw [sp_half, show (1 : Int32) = nI 1 from rfl, rx_Nn (j := a) (by omega), hb, sp_lk_0 ha h2 (by decide) hno, hu]; rw [w_half, if_pos (Or.inl h51)]) | (rw [sp_half, show (1 : Int32) = nI 1 from rfl, rx_Nn (j := a) (by omega), hb, sp_lk_0 ha h2 (by decide) hno, hu]; rw [w_half, if_pos (Or.inr (by rw [decide_eq_true (Int32.not_le.mp h65)]; decide))]) | (rw [sp_half, show (1 : Int32) = nI 1 from rfl, rx_Nn (j := a) (by omega), hb, sp_lk_0 ha h2 (by decide) hno, hu]; rw [w_half, if_neg (fun q => q.elim h51 (fun q => q (decide_eq_false (Int32.not_lt.mpr h65))))]) | fail "leaf"
              · refine rx_aload_n (i := 0) X dX8_half_109 rfl rfl ?_
                refine rx_getR (ci := 8) (i := 5) X (km_0 hO) rfl rfl (by decide) inX8 flX8_19 dX8_half_110 ?_
                refine rx_bipush (v := 34) X dX8_half_113 (by decide) ?_
                refine rx_iload_n (i := 1) X dX8_half_115 rfl rfl ?_
                refine rx_iadd X dX8_half_116 ?_
                refine rx_ialdN (j := 34 + a) X (km_4 hO) hO.2.2.1 (nI_add 34 a) (by omega) (by decide) dX8_half_117 ?_
                refine rx_top (as_rd _ _ _) ?_
                refine rx_ldc X dX8_half_118 kcX8_218 ?_
                refine rx_icmp_ge X dX8_half_120 (fun h120 => ?_) (fun h120 => ?_)
                · refine rx_iconst (v := 0) X dX8_half_127 (by decide) ?_
                  refine rx_iload_n (i := 3) X dX8_half_128 rfl rfl ?_
                  refine rx_icmp_eq_t X dX8_half_129 (by decide) ?_
                  refine rx_iconst (v := 0) X dX8_half_136 (by decide) ?_
                  refine rx_istore (i := 5) (lo2 := [(0, .ref _), (1, .int _), (2, .int _), (3, .int _), (4, .int _), (5, .int _)]) X dX8_half_137 (by decide) rfl ?_
                  refine rx_aload_n (i := 0) X dX8_half_139 rfl rfl ?_
                  refine rx_callVv (ci := 8) X vsX8_takeBack mlX8_196 (kA_take hO hi40) (km_0 hO) rfl rfl (by decide) (by decide) dX8_half_140 rfl (Nat.le_of_ble_eq_true rfl) (fun t140 h140 => ?_)
                  subst h140
                  refine rx_iload (i := 5) X dX8_half_143 rfl ?_
                  refine rx_if_eq_t X dX8_half_145 (by decide) ?_
                  refine rx_ldc X dX8_half_153 kcX8_189 ?_
                  refine rx_iret X dX8_half_155 ?_
                  first | exact absurd h51 h106 | exact absurd h106 h51 | exact absurd (Int32.not_le.mp h65) (Int32.not_lt.mpr h120) | exact absurd (Int32.not_le.mp h120) (Int32.not_lt.mpr h65) | (rw [sp_half, show (1 : Int32) = nI 1 from rfl, rx_Nn (j := a) (by omega), hb, sp_lk_0 ha h2 (by decide) hno, hu]; rw [w_half, if_pos (Or.inl h51)]) | (rw [sp_half, show (1 : Int32) = nI 1 from rfl, rx_Nn (j := a) (by omega), hb, sp_lk_0 ha h2 (by decide) hno, hu]; rw [w_half, if_pos (Or.inr (by rw [decide_eq_true (Int32.not_le.mp h65)]; decide))]) | (rw [sp_half, show (1 : Int32) = nI 1 from rfl, rx_Nn (j := a) (by omega), hb, sp_lk_0 ha h2 (by decide) hno, hu]; rw [w_half, if_neg (fun q => q.elim h51 (fun q => q (decide_eq_false (Int32.not_lt.mpr h65))))]) | fail "leaf"
                · refine rx_iconst (v := 1) X dX8_half_123 (by decide) ?_
                  refine rx_goto X dX8_half_124 ?_
                  refine rx_iload_n (i := 3) X dX8_half_128 rfl rfl ?_
                  refine rx_icmp_eq_f X dX8_half_129 (by decide) ?_
                  refine rx_iconst (v := 1) X dX8_half_132 (by decide) ?_
                  refine rx_goto X dX8_half_133 ?_
                  refine rx_istore (i := 5) (lo2 := [(0, .ref _), (1, .int _), (2, .int _), (3, .int _), (4, .int _), (5, .int _)]) X dX8_half_137 (by decide) rfl ?_
                  refine rx_aload_n (i := 0) X dX8_half_139 rfl rfl ?_
                  refine rx_callVv (ci := 8) X vsX8_takeBack mlX8_196 (kA_take hO hi40) (km_0 hO) rfl rfl (by decide) (by decide) dX8_half_140 rfl (Nat.le_of_ble_eq_true rfl) (fun t140 h140 => ?_)
                  subst h140
                  refine rx_iload (i := 5) X dX8_half_143 rfl ?_
                  refine rx_if_eq_f X dX8_half_145 (by decide) ?_
                  refine rx_iload (i := 4) X dX8_half_148 rfl ?_
                  refine rx_goto X dX8_half_150 ?_
                  refine rx_iret X dX8_half_155 ?_
                  first | exact absurd h51 h106 | exact absurd h106 h51 | exact absurd (Int32.not_le.mp h65) (Int32.not_lt.mpr h120) | exact absurd (Int32.not_le.mp h120) (Int32.not_lt.mpr h65) | (rw [sp_half, show (1 : Int32) = nI 1 from rfl, rx_Nn (j := a) (by omega), hb, sp_lk_0 ha h2 (by decide) hno, hu]; rw [w_half, if_pos (Or.inl h51)]) | (rw [sp_half, show (1 : Int32) = nI 1 from rfl, rx_Nn (j := a) (by omega), hb, sp_lk_0 ha h2 (by decide) hno, hu]; rw [w_half, if_pos (Or.inr (by rw [decide_eq_true (Int32.not_le.mp h65)]; decide))]) | (rw [sp_half, show (1 : Int32) = nI 1 from rfl, rx_Nn (j := a) (by omega), hb, sp_lk_0 ha h2 (by decide) hno, hu]; rw [w_half, if_neg (fun q => q.elim h51 (fun q => q (decide_eq_false (Int32.not_lt.mpr h65))))]) | fail "leaf"
        | succ k ih =>
          intro i K x u hi9 hx hK hv hi40 hu
          subst hx
          refine rx_aload_n (i := 0) X dX8_half_40 rfl rfl ?_
          refine rx_getR (ci := 8) (i := 5) X (km_0 hO) rfl rfl (by decide) inX8 flX8_19 dX8_half_41 ?_
          refine rx_bipush (v := 34) X dX8_half_44 (by decide) ?_
          refine rx_iload_n (i := 1) X dX8_half_46 rfl rfl ?_
          refine rx_iadd X dX8_half_47 ?_
          refine rx_ialdN (j := 34 + a) X (km_4 hO) hO.2.2.1 (nI_add 34 a) (by omega) (by decide) dX8_half_48 ?_
          refine rx_top (as_rd _ _ _) ?_
          refine rx_ldc X dX8_half_49 kcX8_218 ?_
          refine rx_icmp_eq X dX8_half_51 (fun h51 => ?_) (fun h51 => ?_)
          · refine rx_aload_n (i := 0) X dX8_half_95 rfl rfl ?_
            refine rx_getR (ci := 8) (i := 5) X (km_0 hO) rfl rfl (by decide) inX8 flX8_19 dX8_half_96 ?_
            refine rx_bipush (v := 34) X dX8_half_99 (by decide) ?_
            refine rx_iload_n (i := 1) X dX8_half_101 rfl rfl ?_
            refine rx_iadd X dX8_half_102 ?_
            refine rx_ialdN (j := 34 + a) X (km_4 hO) hO.2.2.1 (nI_add 34 a) (by omega) (by decide) dX8_half_103 ?_
            refine rx_top (as_rd _ _ _) ?_
            refine rx_ldc X dX8_half_104 kcX8_218 ?_
            refine rx_icmp_eq X dX8_half_106 (fun h106 => ?_) (fun h106 => ?_)
            · refine rx_iconst (v := 1) X dX8_half_132 (by decide) ?_
              refine rx_goto X dX8_half_133 ?_
              refine rx_istore (i := 5) (lo2 := [(0, .ref _), (1, .int _), (2, .int _), (3, .int _), (4, .int _), (5, .int _)]) X dX8_half_137 (by decide) rfl ?_
              refine rx_aload_n (i := 0) X dX8_half_139 rfl rfl ?_
              refine rx_callVv (ci := 8) X vsX8_takeBack mlX8_196 (kA_take hO hi40) (km_0 hO) rfl rfl (by decide) (by decide) dX8_half_140 rfl (Nat.le_of_ble_eq_true rfl) (fun t140 h140 => ?_)
              subst h140
              refine rx_iload (i := 5) X dX8_half_143 rfl ?_
              refine rx_if_eq_f X dX8_half_145 (by decide) ?_
              refine rx_iload (i := 4) X dX8_half_148 rfl ?_
              refine rx_goto X dX8_half_150 ?_
              refine rx_iret X dX8_half_155 ?_
              first | exact absurd h51 h106 | exact absurd h106 h51 | exact absurd (Int32.not_le.mp h65) (Int32.not_lt.mpr h120) | exact absurd (Int32.not_le.mp h120) (Int32.not_lt.mpr h65) | (rw [sp_half, show (1 : Int32) = nI 1 from rfl, rx_Nn (j := a) (by omega), hb, sp_lk_0 ha h2 (by decide) hno, hu]; rw [w_half, if_pos (Or.inl h51)]) | (rw [sp_half, show (1 : Int32) = nI 1 from rfl, rx_Nn (j := a) (by omega), hb, sp_lk_0 ha h2 (by decide) hno, hu]; rw [w_half, if_pos (Or.inr (by rw [decide_eq_true (Int32.not_le.mp h65)]; decide))]) | fail "leaf"
            · refine rx_aload_n (i := 0) X dX8_half_109 rfl rfl ?_
              refine rx_getR (ci := 8) (i := 5) X (km_0 hO) rfl rfl (by decide) inX8 flX8_19 dX8_half_110 ?_
              refine rx_bipush (v := 34) X dX8_half_113 (by decide) ?_
              refine rx_iload_n (i := 1) X dX8_half_115 rfl rfl ?_
              refine rx_iadd X dX8_half_116 ?_
              refine rx_ialdN (j := 34 + a) X (km_4 hO) hO.2.2.1 (nI_add 34 a) (by omega) (by decide) dX8_half_117 ?_
              refine rx_top (as_rd _ _ _) ?_
              refine rx_ldc X dX8_half_118 kcX8_218 ?_
              refine rx_icmp_ge X dX8_half_120 (fun h120 => ?_) (fun h120 => ?_)
              · refine rx_iconst (v := 0) X dX8_half_127 (by decide) ?_
                refine rx_iload_n (i := 3) X dX8_half_128 rfl rfl ?_
                refine rx_icmp_eq_t X dX8_half_129 (by decide) ?_
                refine rx_iconst (v := 0) X dX8_half_136 (by decide) ?_
                refine rx_istore (i := 5) (lo2 := [(0, .ref _), (1, .int _), (2, .int _), (3, .int _), (4, .int _), (5, .int _)]) X dX8_half_137 (by decide) rfl ?_
                refine rx_aload_n (i := 0) X dX8_half_139 rfl rfl ?_
                refine rx_callVv (ci := 8) X vsX8_takeBack mlX8_196 (kA_take hO hi40) (km_0 hO) rfl rfl (by decide) (by decide) dX8_half_140 rfl (Nat.le_of_ble_eq_true rfl) (fun t140 h140 => ?_)
                subst h140
                refine rx_iload (i := 5) X dX8_half_143 rfl ?_
                refine rx_if_eq_t X dX8_half_145 (by decide) ?_
                refine rx_ldc X dX8_half_153 kcX8_189 ?_
                refine rx_iret X dX8_half_155 ?_
                first | exact absurd h51 h106 | exact absurd h106 h51 | exact absurd (Int32.not_le.mp h65) (Int32.not_lt.mpr h120) | exact absurd (Int32.not_le.mp h120) (Int32.not_lt.mpr h65) | (rw [sp_half, show (1 : Int32) = nI 1 from rfl, rx_Nn (j := a) (by omega), hb, sp_lk_0 ha h2 (by decide) hno, hu]; rw [w_half, if_pos (Or.inl h51)]) | (rw [sp_half, show (1 : Int32) = nI 1 from rfl, rx_Nn (j := a) (by omega), hb, sp_lk_0 ha h2 (by decide) hno, hu]; rw [w_half, if_pos (Or.inr (by rw [decide_eq_true (Int32.not_le.mp h65)]; decide))]) | fail "leaf"
              · refine rx_iconst (v := 1) X dX8_half_123 (by decide) ?_
                refine rx_goto X dX8_half_124 ?_
                refine rx_iload_n (i := 3) X dX8_half_128 rfl rfl ?_
                refine rx_icmp_eq_f X dX8_half_129 (by decide) ?_
                refine rx_iconst (v := 1) X dX8_half_132 (by decide) ?_
                refine rx_goto X dX8_half_133 ?_
                refine rx_istore (i := 5) (lo2 := [(0, .ref _), (1, .int _), (2, .int _), (3, .int _), (4, .int _), (5, .int _)]) X dX8_half_137 (by decide) rfl ?_
                refine rx_aload_n (i := 0) X dX8_half_139 rfl rfl ?_
                refine rx_callVv (ci := 8) X vsX8_takeBack mlX8_196 (kA_take hO hi40) (km_0 hO) rfl rfl (by decide) (by decide) dX8_half_140 rfl (Nat.le_of_ble_eq_true rfl) (fun t140 h140 => ?_)
                subst h140
                refine rx_iload (i := 5) X dX8_half_143 rfl ?_
                refine rx_if_eq_f X dX8_half_145 (by decide) ?_
                refine rx_iload (i := 4) X dX8_half_148 rfl ?_
                refine rx_goto X dX8_half_150 ?_
                refine rx_iret X dX8_half_155 ?_
                first | exact absurd h51 h106 | exact absurd h106 h51 | exact absurd (Int32.not_le.mp h65) (Int32.not_lt.mpr h120) | exact absurd (Int32.not_le.mp h120) (Int32.not_lt.mpr h65) | (rw [sp_half, show (1 : Int32) = nI 1 from rfl, rx_Nn (j := a) (by omega), hb, sp_lk_0 ha h2 (by decide) hno, hu]; rw [w_half, if_pos (Or.inl h51)]) | (rw [sp_half, show (1 : Int32) = nI 1 from rfl, rx_Nn (j := a) (by omega), hb, sp_lk_0 ha h2 (by decide) hno, hu]; rw [w_half, if_pos (Or.inr (by rw [decide_eq_true (Int32.not_le.mp h65)]; decide))]) | fail "leaf"
          · refine rx_aload_n (i := 0) X dX8_half_54 rfl rfl ?_
            refine rx_getR (ci := 8) (i := 5) X (km_0 hO) rfl rfl (by decide) inX8 flX8_19 dX8_half_55 ?_
            refine rx_bipush (v := 34) X dX8_half_58 (by decide) ?_
            refine rx_iload_n (i := 1) X dX8_half_60 rfl rfl ?_
            refine rx_iadd X dX8_half_61 ?_
            refine rx_ialdN (j := 34 + a) X (km_4 hO) hO.2.2.1 (nI_add 34 a) (by omega) (by decide) dX8_half_62 ?_
            refine rx_top (as_rd _ _ _) ?_
            refine rx_ldc X dX8_half_63 kcX8_218 ?_
            refine rx_icmp_ge X dX8_half_65 (fun h65 => ?_) (fun h65 => ?_)
            · refine rx_iconst (v := 0) X dX8_half_72 (by decide) ?_
              refine rx_iload_n (i := 3) X dX8_half_73 rfl rfl ?_
              refine rx_icmp_ne_f X dX8_half_74 (by decide) ?_
              refine rx_iload (i := 4) X dX8_half_77 rfl ?_
              refine rx_sipush (v := 200) X dX8_half_79 (by decide) ?_
              refine rx_icmp_ge_f X dX8_half_82 (nI_ge (b := 200) (by omega) (by decide)) ?_
              refine rx_aload_n (i := 0) X dX8_half_85 rfl rfl ?_
              refine rx_callVv (ci := 8) X vsX8_oneMinute mlX8_170 (kA_one hO hv) (km_0 hO) rfl rfl (by decide) (by decide) dX8_half_86 rfl (Nat.le_of_ble_eq_true rfl) (fun t86 h86 => ?_)
              subst h86
              refine rx_iinc (i := 4) (lo2 := [(0, .ref _), (1, .int _), (2, .int _), (3, .int _), (4, .int _)]) X dX8_half_89 rfl (rx_inc1 _) (by decide) rfl ?_
              refine rx_goto X dX8_half_92 ?_
              refine ih (i + 1) (K + 1) _ _ (by omega) (nI_1 i) (by omega) (w_V_one (by omega) hv) (fun j hj => (w_hi_one hv hj).trans (hi40 j hj)) ?_
              rw [hu]
              conv => lhs; rw [w_half, if_neg (fun q => q.elim h51 (fun q => q (decide_eq_false (Int32.not_lt.mpr h65))))]
            · refine rx_iconst (v := 1) X dX8_half_68 (by decide) ?_
              refine rx_goto X dX8_half_69 ?_
              refine rx_iload_n (i := 3) X dX8_half_73 rfl rfl ?_
              refine rx_icmp_ne_t X dX8_half_74 (by decide) ?_
              refine rx_aload_n (i := 0) X dX8_half_95 rfl rfl ?_
              refine rx_getR (ci := 8) (i := 5) X (km_0 hO) rfl rfl (by decide) inX8 flX8_19 dX8_half_96 ?_
              refine rx_bipush (v := 34) X dX8_half_99 (by decide) ?_
              refine rx_iload_n (i := 1) X dX8_half_101 rfl rfl ?_
              refine rx_iadd X dX8_half_102 ?_
              refine rx_ialdN (j := 34 + a) X (km_4 hO) hO.2.2.1 (nI_add 34 a) (by omega) (by decide) dX8_half_103 ?_
              refine rx_top (as_rd _ _ _) ?_
              refine rx_ldc X dX8_half_104 kcX8_218 ?_
              refine rx_icmp_eq X dX8_half_106 (fun h106 => ?_) (fun h106 => ?_)
              · refine rx_iconst (v := 1) X dX8_half_132 (by decide) ?_
                refine rx_goto X dX8_half_133 ?_
                refine rx_istore (i := 5) (lo2 := [(0, .ref _), (1, .int _), (2, .int _), (3, .int _), (4, .int _), (5, .int _)]) X dX8_half_137 (by decide) rfl ?_
                refine rx_aload_n (i := 0) X dX8_half_139 rfl rfl ?_
                refine rx_callVv (ci := 8) X vsX8_takeBack mlX8_196 (kA_take hO hi40) (km_0 hO) rfl rfl (by decide) (by decide) dX8_half_140 rfl (Nat.le_of_ble_eq_true rfl) (fun t140 h140 => ?_)
                subst h140
                refine rx_iload (i := 5) X dX8_half_143 rfl ?_
                refine rx_if_eq_f X dX8_half_145 (by decide) ?_
                refine rx_iload (i := 4) X dX8_half_148 rfl ?_
                refine rx_goto X dX8_half_150 ?_
                refine rx_iret X dX8_half_155 ?_
                first | exact absurd h51 h106 | exact absurd h106 h51 | exact absurd (Int32.not_le.mp h65) (Int32.not_lt.mpr h120) | exact absurd (Int32.not_le.mp h120) (Int32.not_lt.mpr h65) | (rw [sp_half, show (1 : Int32) = nI 1 from rfl, rx_Nn (j := a) (by omega), hb, sp_lk_0 ha h2 (by decide) hno, hu]; rw [w_half, if_pos (Or.inl h51)]) | (rw [sp_half, show (1 : Int32) = nI 1 from rfl, rx_Nn (j := a) (by omega), hb, sp_lk_0 ha h2 (by decide) hno, hu]; rw [w_half, if_pos (Or.inr (by rw [decide_eq_true (Int32.not_le.mp h65)]; decide))]) | fail "leaf"
              · refine rx_aload_n (i := 0) X dX8_half_109 rfl rfl ?_
                refine rx_getR (ci := 8) (i := 5) X (km_0 hO) rfl rfl (by decide) inX8 flX8_19 dX8_half_110 ?_
                refine rx_bipush (v := 34) X dX8_half_113 (by decide) ?_
                refine rx_iload_n (i := 1) X dX8_half_115 rfl rfl ?_
                refine rx_iadd X dX8_half_116 ?_
                refine rx_ialdN (j := 34 + a) X (km_4 hO) hO.2.2.1 (nI_add 34 a) (by omega) (by decide) dX8_half_117 ?_
                refine rx_top (as_rd _ _ _) ?_
                refine rx_ldc X dX8_half_118 kcX8_218 ?_
                refine rx_icmp_ge X dX8_half_120 (fun h120 => ?_) (fun h120 => ?_)
                · refine rx_iconst (v := 0) X dX8_half_127 (by decide) ?_
                  refine rx_iload_n (i := 3) X dX8_half_128 rfl rfl ?_
                  refine rx_icmp_eq_t X dX8_half_129 (by decide) ?_
                  refine rx_iconst (v := 0) X dX8_half_136 (by decide) ?_
                  refine rx_istore (i := 5) (lo2 := [(0, .ref _), (1, .int _), (2, .int _), (3, .int _), (4, .int _), (5, .int _)]) X dX8_half_137 (by decide) rfl ?_
                  refine rx_aload_n (i := 0) X dX8_half_139 rfl rfl ?_
                  refine rx_callVv (ci := 8) X vsX8_takeBack mlX8_196 (kA_take hO hi40) (km_0 hO) rfl rfl (by decide) (by decide) dX8_half_140 rfl (Nat.le_of_ble_eq_true rfl) (fun t140 h140 => ?_)
                  subst h140
                  refine rx_iload (i := 5) X dX8_half_143 rfl ?_
                  refine rx_if_eq_t X dX8_half_145 (by decide) ?_
                  refine rx_ldc X dX8_half_153 kcX8_189 ?_
                  refine rx_iret X dX8_half_155 ?_
                  first | exact absurd h51 h106 | exact absurd h106 h51 | exact absurd (Int32.not_le.mp h65) (Int32.not_lt.mpr h120) | exact absurd (Int32.not_le.mp h120) (Int32.not_lt.mpr h65) | (rw [sp_half, show (1 : Int32) = nI 1 from rfl, rx_Nn (j := a) (by omega), hb, sp_lk_0 ha h2 (by decide) hno, hu]; rw [w_half, if_pos (Or.inl h51)]) | (rw [sp_half, show (1 : Int32) = nI 1 from rfl, rx_Nn (j := a) (by omega), hb, sp_lk_0 ha h2 (by decide) hno, hu]; rw [w_half, if_pos (Or.inr (by rw [decide_eq_true (Int32.not_le.mp h65)]; decide))]) | fail "leaf"
                · refine rx_iconst (v := 1) X dX8_half_123 (by decide) ?_
                  refine rx_goto X dX8_half_124 ?_
                  refine rx_iload_n (i := 3) X dX8_half_128 rfl rfl ?_
                  refine rx_icmp_eq_f X dX8_half_129 (by decide) ?_
                  refine rx_iconst (v := 1) X dX8_half_132 (by decide) ?_
                  refine rx_goto X dX8_half_133 ?_
                  refine rx_istore (i := 5) (lo2 := [(0, .ref _), (1, .int _), (2, .int _), (3, .int _), (4, .int _), (5, .int _)]) X dX8_half_137 (by decide) rfl ?_
                  refine rx_aload_n (i := 0) X dX8_half_139 rfl rfl ?_
                  refine rx_callVv (ci := 8) X vsX8_takeBack mlX8_196 (kA_take hO hi40) (km_0 hO) rfl rfl (by decide) (by decide) dX8_half_140 rfl (Nat.le_of_ble_eq_true rfl) (fun t140 h140 => ?_)
                  subst h140
                  refine rx_iload (i := 5) X dX8_half_143 rfl ?_
                  refine rx_if_eq_f X dX8_half_145 (by decide) ?_
                  refine rx_iload (i := 4) X dX8_half_148 rfl ?_
                  refine rx_goto X dX8_half_150 ?_
                  refine rx_iret X dX8_half_155 ?_
                  first | exact absurd h51 h106 | exact absurd h106 h51 | exact absurd (Int32.not_le.mp h65) (Int32.not_lt.mpr h120) | exact absurd (Int32.not_le.mp h120) (Int32.not_lt.mpr h65) | (rw [sp_half, show (1 : Int32) = nI 1 from rfl, rx_Nn (j := a) (by omega), hb, sp_lk_0 ha h2 (by decide) hno, hu]; rw [w_half, if_pos (Or.inl h51)]) | (rw [sp_half, show (1 : Int32) = nI 1 from rfl, rx_Nn (j := a) (by omega), hb, sp_lk_0 ha h2 (by decide) hno, hu]; rw [w_half, if_pos (Or.inr (by rw [decide_eq_true (Int32.not_le.mp h65)]; decide))]) | fail "leaf"
      exact loop 200 0 999 _ _ rfl rfl (by omega) hv (fun _ _ => rfl) rfl
  refine rx_aload_n (i := 0) X dX8_half_0 rfl rfl ?_
  refine rx_iload_n (i := 1) X dX8_half_1 rfl rfl ?_
  refine rx_iconst (v := 1) X dX8_half_2 (by decide) ?_
  refine rx_callVi (ci := 8) X vsX8_lacks mlX8_202 (kX8_lacks hO hw) (km_0 hO) rfl rfl (by decide) (by decide) dX8_half_3 rfl (Nat.le_of_ble_eq_true rfl) (fun r3 t3 h3 => ?_)
  obtain ⟨rfl, ⟨rfl, h3⟩ | ⟨rfl, h3⟩ | ⟨rfl, h3⟩⟩ := h3
  · refine rx_istore_n (i := 2) (lo2 := [(0, .ref _), (1, .int _), (2, .int _)]) X dX8_half_6 rfl (by decide) rfl ?_
    refine rx_iload_n (i := 2) X dX8_half_7 rfl rfl ?_
    refine rx_if_ge_f X dX8_half_8 (by decide) ?_
    refine rx_iload_n (i := 2) X dX8_half_11 rfl rfl ?_
    refine rx_iret X dX8_half_12 ?_
    rw [sp_half]
    first | rw [sp_lk_1 (by assumption)] | rw [sp_lk_2 (by assumption)] | fail "leaf"
  · refine rx_istore_n (i := 2) (lo2 := [(0, .ref _), (1, .int _), (2, .int _)]) X dX8_half_6 rfl (by decide) rfl ?_
    refine rx_iload_n (i := 2) X dX8_half_7 rfl rfl ?_
    refine rx_if_ge_f X dX8_half_8 (by decide) ?_
    refine rx_iload_n (i := 2) X dX8_half_11 rfl rfl ?_
    refine rx_iret X dX8_half_12 ?_
    rw [sp_half]
    first | rw [sp_lk_1 (by assumption)] | rw [sp_lk_2 (by assumption)] | fail "leaf"
  · obtain ⟨h2, h14, hno⟩ := h3
    obtain ⟨a, ha, rfl⟩ := rx_sub h2.1 (n := 6) (by have := hw.n3; omega)
    have hv := hw.V (by omega)
    rw [rx_Nn (j := a) (by omega)] at hno
    refine rx_istore_n (i := 2) (lo2 := [(0, .ref _), (1, .int _), (2, .int _)]) X dX8_half_6 rfl (by decide) rfl ?_
    refine rx_iload_n (i := 2) X dX8_half_7 rfl rfl ?_
    refine rx_if_ge_t X dX8_half_8 (by decide) ?_
    refine rx_aload_n (i := 0) X dX8_half_13 rfl rfl ?_
    refine rx_callVv (ci := 8) X vsX8_putAside mlX8_190 (kX8_putAside hO) (km_0 hO) rfl rfl (by decide) (by decide) dX8_half_14 rfl (Nat.le_of_ble_eq_true rfl) (fun t14 h14 => ?_)
    subst h14
    refine rx_aload_n (i := 0) X dX8_half_17 rfl rfl ?_
    refine rx_getR (ci := 8) (i := 5) X (km_0 hO) rfl rfl (by decide) inX8 flX8_19 dX8_half_18 ?_
    refine rx_bipush (v := 34) X dX8_half_21 (by decide) ?_
    refine rx_iload_n (i := 1) X dX8_half_23 rfl rfl ?_
    refine rx_iadd X dX8_half_24 ?_
    refine rx_ialdN (j := 34 + a) X (km_4 hO) hO.2.2.1 (nI_add 34 a) (by omega) (by decide) dX8_half_25 ?_
    refine rx_top (as_rd _ _ _) ?_
    refine rx_ldc X dX8_half_26 kcX8_218 ?_
    refine rx_icmp_ge X dX8_half_28 (fun h28 => ?_) (fun h28 => ?_)
    · refine rx_iconst (v := 0) X dX8_half_35 (by decide) ?_
      refine rx_istore_n (i := 3) (lo2 := [(0, .ref _), (1, .int _), (2, .int _), (3, .int _)]) X dX8_half_36 rfl (by decide) rfl ?_
      refine rx_iconst (v := 0) X dX8_half_37 (by decide) ?_
      refine rx_istore (i := 4) (lo2 := [(0, .ref _), (1, .int _), (2, .int _), (3, .int _), (4, .int _)]) X dX8_half_38 (by decide) rfl ?_
      first | exact go a ha h2 hno hv true (decide_eq_true (Int32.not_le.mp h28)) | exact go a ha h2 hno hv false (decide_eq_false (Int32.not_lt.mpr h28)) | fail "leaf"
    · refine rx_iconst (v := 1) X dX8_half_31 (by decide) ?_
      refine rx_goto X dX8_half_32 ?_
      refine rx_istore_n (i := 3) (lo2 := [(0, .ref _), (1, .int _), (2, .int _), (3, .int _)]) X dX8_half_36 rfl (by decide) rfl ?_
      refine rx_iconst (v := 0) X dX8_half_37 (by decide) ?_
      refine rx_istore (i := 4) (lo2 := [(0, .ref _), (1, .int _), (2, .int _), (3, .int _), (4, .int _)]) X dX8_half_38 (by decide) rfl ?_
      first | exact go a ha h2 hno hv true (decide_eq_true (Int32.not_le.mp h28)) | exact go a ha h2 hno hv false (decide_eq_false (Int32.not_lt.mpr h28)) | fail "leaf"
def w_restL (sp : Int32) (a n : Nat) (w : Nat → Int32) : Nat → Int32 × Int32
  | 0 => (0, -1)
  | v + 1 => if (w_restL sp a n w v).2 < w_on sp n (upd w (28 + a) (nI (v + 1))) (34 + a) then (nI (v + 1), w_on sp n (upd w (28 + a) (nI (v + 1))) (34 + a)) else w_restL sp a n w v
def sp_rest (σ : rx_S) (x n : Int32) : Int32 × rx_S := sp_lk σ x n (w_restL (σ.1 0 6) (rx_N x) (rx_N n) (σ.1 4) 9).1
set_option maxHeartbeats 4000000 in
set_option maxRecDepth 100000 in
theorem kX8_rest {l : Launch} {O : rx_O} (hO : mo_O O) {σ : rx_S} {x n : Int32} (hw : mo_W σ) : rx_MI l O yX8_rest cX8_rest 7 (some .int) 7 [.ref 0, .int x, .int n] σ (fun r τ => sp_rest σ x n = (r, τ)) := by
  refine rx_Met_of (own := RX8) rfl hO.2.1 vsX8_rest.2.2.2.2.2 (Nat.le_of_ble_eq_true rfl) rfl (fun p e s m args below meth c X => ?_)
  have go : ∀ (a q : Nat), a < 6 → q < 100 → mo_ant σ (nI a) → mo_n (nI q) → ¬ w_has (σ.1 4 4) a → w_V 999 (σ.1 4) → rx_J O 7 p l e (rx_lv 7) s m args below meth c (rx_QI O below args s (fun r τ => sp_rest σ (nI a) (nI q) = (r, τ))) 26 [(0, .ref 0), (1, .int (nI a)), (2, .int (nI q)), (3, .int 0), (4, .int 0), (5, .int (-1)), (6, .int 1)] [] (as_st σ (σ.1 4)) := by
    intro a q ha hq h2 h14 hno hv
    have loop : ∀ (k : Nat) (v : Nat) (b ms x : Int32), (v + k = 9) → (x = nI (v + 1)) → ((w_restL (σ.1 0 6) a q (σ.1 4) v).1 = b) → ((w_restL (σ.1 0 6) a q (σ.1 4) v).2 = ms) → rx_J O 7 p l e (rx_lv 7) s m args below meth c (rx_QI O below args s (fun r τ => sp_rest σ (nI a) (nI q) = (r, τ))) 26 [(0, .ref 0), (1, .int (nI a)), (2, .int (nI q)), (3, .int 0), (4, .int b), (5, .int ms), (6, .int x)] [] (as_st σ (σ.1 4)) := by
      intro k
      induction k with
      | zero =>
        intro v b ms x hi hx hb hm
        subst hx
        obtain rfl : v = 9 := by omega
        refine rx_iload (i := 6) X dX8_rest_26 rfl ?_
        refine rx_bipush (v := 10) X dX8_rest_28 (by decide) ?_
        refine rx_icmp_ge_t X dX8_rest_30 (by decide) ?_
        refine rx_iload (i := 4) X dX8_rest_112 rfl ?_
        refine rx_iret X dX8_rest_114 ?_
        rw [sp_rest, rx_Nn (j := a) (by omega), rx_Nn (j := q) (by omega), sp_lk_0 ha h2 h14 hno, as_self, hb]
      | succ k ih =>
        intro v b ms x hi hx hb hm
        subst hx
        have hvv := w_V_upd28 hv ha (v := nI (v + 1)) (by rw [nI_toInt (by omega)]; omega)
        refine rx_iload (i := 6) X dX8_rest_26 rfl ?_
        refine rx_bipush (v := 10) X dX8_rest_28 (by decide) ?_
        refine rx_icmp_ge_f X dX8_rest_30 (nI_ge (b := 10) (by omega) (by decide)) ?_
        refine rx_aload_n (i := 0) X dX8_rest_33 rfl rfl ?_
        refine rx_getR (ci := 8) (i := 5) X (km_0 hO) rfl rfl (by decide) inX8 flX8_19 dX8_rest_34 ?_
        refine rx_bipush (v := 28) X dX8_rest_37 (by decide) ?_
        refine rx_iload_n (i := 1) X dX8_rest_39 rfl rfl ?_
        refine rx_iadd X dX8_rest_40 ?_
        refine rx_iload (i := 6) X dX8_rest_41 rfl ?_
        refine rx_iastN (j := 28 + a) X (km_4 hO) hO.2.2.1 (nI_add 28 a) (by omega) (by decide) dX8_rest_43 ?_
        refine rx_sto (as_up _ _ _ _) ?_
        refine rx_aload_n (i := 0) X dX8_rest_44 rfl rfl ?_
        refine rx_iload_n (i := 2) X dX8_rest_45 rfl rfl ?_
        refine rx_callVv (ci := 8) X vsX8_goOn mlX8_193 (kA_on hO (K := 999) (by omega) (by omega) hvv) (km_0 hO) rfl rfl (by decide) (by decide) dX8_rest_46 rfl (Nat.le_of_ble_eq_true rfl) (fun t46 h46 => ?_)
        subst h46
        by_cases h60 : (w_on (σ.1 0 6) q (upd (σ.1 4) (28 + a) (nI (v + 1))) (34 + a)) ≤ ms
        · refine rx_aload_n (i := 0) X dX8_rest_49 rfl rfl ?_
          refine rx_getR (ci := 8) (i := 5) X (km_0 hO) rfl rfl (by decide) inX8 flX8_19 dX8_rest_50 ?_
          refine rx_bipush (v := 34) X dX8_rest_53 (by decide) ?_
          refine rx_iload_n (i := 1) X dX8_rest_55 rfl rfl ?_
          refine rx_iadd X dX8_rest_56 ?_
          refine rx_ialdN (j := 34 + a) X (km_4 hO) hO.2.2.1 (nI_add 34 a) (by omega) (by decide) dX8_rest_57 ?_
          refine rx_top (as_rd _ _ _) ?_
          refine rx_iload (i := 5) X dX8_rest_58 rfl ?_
          refine rx_icmp_le_t X dX8_rest_60 h60 ?_
          refine rx_iload (i := 4) X dX8_rest_68 rfl ?_
          refine rx_istore (i := 4) (lo2 := [(0, .ref _), (1, .int _), (2, .int _), (3, .int _), (4, .int _), (5, .int _), (6, .int _)]) X dX8_rest_70 (by decide) rfl ?_
          refine rx_aload_n (i := 0) X dX8_rest_72 rfl rfl ?_
          refine rx_getR (ci := 8) (i := 5) X (km_0 hO) rfl rfl (by decide) inX8 flX8_19 dX8_rest_73 ?_
          refine rx_bipush (v := 34) X dX8_rest_76 (by decide) ?_
          refine rx_iload_n (i := 1) X dX8_rest_78 rfl rfl ?_
          refine rx_iadd X dX8_rest_79 ?_
          refine rx_ialdN (j := 34 + a) X (km_4 hO) hO.2.2.1 (nI_add 34 a) (by omega) (by decide) dX8_rest_80 ?_
          refine rx_top (as_rd _ _ _) ?_
          refine rx_iload (i := 5) X dX8_rest_81 rfl ?_
          refine rx_icmp_le_t X dX8_rest_83 h60 ?_
          refine rx_iload (i := 5) X dX8_rest_98 rfl ?_
          refine rx_istore (i := 5) (lo2 := [(0, .ref _), (1, .int _), (2, .int _), (3, .int _), (4, .int _), (5, .int _), (6, .int _)]) X dX8_rest_100 (by decide) rfl ?_
          refine rx_aload_n (i := 0) X dX8_rest_102 rfl rfl ?_
          refine rx_callVv (ci := 8) X vsX8_takeBack mlX8_196 (kA_take hO (fun i hi => (w_hi_on hi (K := 999) (by omega) hvv).trans (upd_n (by omega)))) (km_0 hO) rfl rfl (by decide) (by decide) dX8_rest_103 rfl (Nat.le_of_ble_eq_true rfl) (fun t103 h103 => ?_)
          subst h103
          refine rx_iinc (i := 6) (lo2 := [(0, .ref _), (1, .int _), (2, .int _), (3, .int _), (4, .int _), (5, .int _), (6, .int _)]) X dX8_rest_106 rfl (rx_inc1 _) (by decide) rfl ?_
          refine rx_goto X dX8_rest_109 ?_
          rw [← as_self]
          refine ih (v + 1) _ _ _ (by omega) (nI_1 (v + 1)) ?_ ?_
          · first | (rw [w_restL, if_neg (by rw [hm]; exact Int32.not_lt.mpr h60)]; exact hb) | (rw [w_restL, if_pos (by rw [hm]; exact Int32.not_le.mp h60)]) | fail "leaf"
          · first | (rw [w_restL, if_neg (by rw [hm]; exact Int32.not_lt.mpr h60)]; exact hm) | (rw [w_restL, if_pos (by rw [hm]; exact Int32.not_le.mp h60)]) | fail "leaf"
        · refine rx_aload_n (i := 0) X dX8_rest_49 rfl rfl ?_
          refine rx_getR (ci := 8) (i := 5) X (km_0 hO) rfl rfl (by decide) inX8 flX8_19 dX8_rest_50 ?_
          refine rx_bipush (v := 34) X dX8_rest_53 (by decide) ?_
          refine rx_iload_n (i := 1) X dX8_rest_55 rfl rfl ?_
          refine rx_iadd X dX8_rest_56 ?_
          refine rx_ialdN (j := 34 + a) X (km_4 hO) hO.2.2.1 (nI_add 34 a) (by omega) (by decide) dX8_rest_57 ?_
          refine rx_top (as_rd _ _ _) ?_
          refine rx_iload (i := 5) X dX8_rest_58 rfl ?_
          refine rx_icmp_le_f X dX8_rest_60 h60 ?_
          refine rx_iload (i := 6) X dX8_rest_63 rfl ?_
          refine rx_goto X dX8_rest_65 ?_
          refine rx_istore (i := 4) (lo2 := [(0, .ref _), (1, .int _), (2, .int _), (3, .int _), (4, .int _), (5, .int _), (6, .int _)]) X dX8_rest_70 (by decide) rfl ?_
          refine rx_aload_n (i := 0) X dX8_rest_72 rfl rfl ?_
          refine rx_getR (ci := 8) (i := 5) X (km_0 hO) rfl rfl (by decide) inX8 flX8_19 dX8_rest_73 ?_
          refine rx_bipush (v := 34) X dX8_rest_76 (by decide) ?_
          refine rx_iload_n (i := 1) X dX8_rest_78 rfl rfl ?_
          refine rx_iadd X dX8_rest_79 ?_
          refine rx_ialdN (j := 34 + a) X (km_4 hO) hO.2.2.1 (nI_add 34 a) (by omega) (by decide) dX8_rest_80 ?_
          refine rx_top (as_rd _ _ _) ?_
          refine rx_iload (i := 5) X dX8_rest_81 rfl ?_
          refine rx_icmp_le_f X dX8_rest_83 h60 ?_
          refine rx_aload_n (i := 0) X dX8_rest_86 rfl rfl ?_
          refine rx_getR (ci := 8) (i := 5) X (km_0 hO) rfl rfl (by decide) inX8 flX8_19 dX8_rest_87 ?_
          refine rx_bipush (v := 34) X dX8_rest_90 (by decide) ?_
          refine rx_iload_n (i := 1) X dX8_rest_92 rfl rfl ?_
          refine rx_iadd X dX8_rest_93 ?_
          refine rx_ialdN (j := 34 + a) X (km_4 hO) hO.2.2.1 (nI_add 34 a) (by omega) (by decide) dX8_rest_94 ?_
          refine rx_top (as_rd _ _ _) ?_
          refine rx_goto X dX8_rest_95 ?_
          refine rx_istore (i := 5) (lo2 := [(0, .ref _), (1, .int _), (2, .int _), (3, .int _), (4, .int _), (5, .int _), (6, .int _)]) X dX8_rest_100 (by decide) rfl ?_
          refine rx_aload_n (i := 0) X dX8_rest_102 rfl rfl ?_
          refine rx_callVv (ci := 8) X vsX8_takeBack mlX8_196 (kA_take hO (fun i hi => (w_hi_on hi (K := 999) (by omega) hvv).trans (upd_n (by omega)))) (km_0 hO) rfl rfl (by decide) (by decide) dX8_rest_103 rfl (Nat.le_of_ble_eq_true rfl) (fun t103 h103 => ?_)
          subst h103
          refine rx_iinc (i := 6) (lo2 := [(0, .ref _), (1, .int _), (2, .int _), (3, .int _), (4, .int _), (5, .int _), (6, .int _)]) X dX8_rest_106 rfl (rx_inc1 _) (by decide) rfl ?_
          refine rx_goto X dX8_rest_109 ?_
          rw [← as_self]
          refine ih (v + 1) _ _ _ (by omega) (nI_1 (v + 1)) ?_ ?_
          · first | (rw [w_restL, if_neg (by rw [hm]; exact Int32.not_lt.mpr h60)]; exact hb) | (rw [w_restL, if_pos (by rw [hm]; exact Int32.not_le.mp h60)]) | fail "leaf"
          · first | (rw [w_restL, if_neg (by rw [hm]; exact Int32.not_lt.mpr h60)]; exact hm) | (rw [w_restL, if_pos (by rw [hm]; exact Int32.not_le.mp h60)]) | fail "leaf"
    exact loop 9 0 _ _ _ (by omega) rfl rfl rfl
  refine rx_aload_n (i := 0) X dX8_rest_0 rfl rfl ?_
  refine rx_iload_n (i := 1) X dX8_rest_1 rfl rfl ?_
  refine rx_iload_n (i := 2) X dX8_rest_2 rfl rfl ?_
  refine rx_callVi (ci := 8) X vsX8_lacks mlX8_202 (kX8_lacks hO hw) (km_0 hO) rfl rfl (by decide) (by decide) dX8_rest_3 rfl (Nat.le_of_ble_eq_true rfl) (fun r3 t3 h3 => ?_)
  obtain ⟨rfl, ⟨rfl, h3⟩ | ⟨rfl, h3⟩ | ⟨rfl, h3⟩⟩ := h3
  · refine rx_istore_n (i := 3) (lo2 := [(0, .ref _), (1, .int _), (2, .int _), (3, .int _)]) X dX8_rest_6 rfl (by decide) rfl ?_
    refine rx_iload_n (i := 3) X dX8_rest_7 rfl rfl ?_
    refine rx_if_ge_f X dX8_rest_8 (by decide) ?_
    refine rx_iload_n (i := 3) X dX8_rest_11 rfl rfl ?_
    refine rx_iret X dX8_rest_12 ?_
    rw [sp_rest]
    first | rw [sp_lk_1 (by assumption)] | rw [sp_lk_2 (by assumption)] | fail "leaf"
  · refine rx_istore_n (i := 3) (lo2 := [(0, .ref _), (1, .int _), (2, .int _), (3, .int _)]) X dX8_rest_6 rfl (by decide) rfl ?_
    refine rx_iload_n (i := 3) X dX8_rest_7 rfl rfl ?_
    refine rx_if_ge_f X dX8_rest_8 (by decide) ?_
    refine rx_iload_n (i := 3) X dX8_rest_11 rfl rfl ?_
    refine rx_iret X dX8_rest_12 ?_
    rw [sp_rest]
    first | rw [sp_lk_1 (by assumption)] | rw [sp_lk_2 (by assumption)] | fail "leaf"
  · obtain ⟨h2, h14, hno⟩ := h3
    obtain ⟨a, ha, rfl⟩ := rx_sub h2.1 (n := 6) (by have := hw.n3; omega)
    obtain ⟨q, hq, rfl⟩ := rx_sub (x := n) (n := 100) (by omega) (by omega)
    have hv := hw.V (by omega)
    rw [rx_Nn (j := a) (by omega)] at hno
    refine rx_istore_n (i := 3) (lo2 := [(0, .ref _), (1, .int _), (2, .int _), (3, .int _)]) X dX8_rest_6 rfl (by decide) rfl ?_
    refine rx_iload_n (i := 3) X dX8_rest_7 rfl rfl ?_
    refine rx_if_ge_t X dX8_rest_8 (by decide) ?_
    refine rx_aload_n (i := 0) X dX8_rest_13 rfl rfl ?_
    refine rx_callVv (ci := 8) X vsX8_putAside mlX8_190 (kX8_putAside hO) (km_0 hO) rfl rfl (by decide) (by decide) dX8_rest_14 rfl (Nat.le_of_ble_eq_true rfl) (fun t14 h14 => ?_)
    subst h14
    refine rx_iconst (v := 0) X dX8_rest_17 (by decide) ?_
    refine rx_istore (i := 4) (lo2 := [(0, .ref _), (1, .int _), (2, .int _), (3, .int _), (4, .int _)]) X dX8_rest_18 (by decide) rfl ?_
    refine rx_iconst (v := -1) X dX8_rest_20 (by decide) ?_
    refine rx_istore (i := 5) (lo2 := [(0, .ref _), (1, .int _), (2, .int _), (3, .int _), (4, .int _), (5, .int _)]) X dX8_rest_21 (by decide) rfl ?_
    refine rx_iconst (v := 1) X dX8_rest_23 (by decide) ?_
    refine rx_istore (i := 6) (lo2 := [(0, .ref _), (1, .int _), (2, .int _), (3, .int _), (4, .int _), (5, .int _), (6, .int _)]) X dX8_rest_24 (by decide) rfl ?_
    exact go a q ha hq h2 h14 hno hv
