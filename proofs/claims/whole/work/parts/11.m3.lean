def cpn (n : Nat) (f g : Nat → Int32) : Nat → Int32 := fun i => if i < n then f i else g i
theorem cpn_0 (f g : Nat → Int32) : cpn 0 f g = g := by
  funext i
  unfold cpn
  rw [if_neg (by omega)]
theorem cpn_s (n : Nat) (f g : Nat → Int32) : upd (cpn n f g) n (f n) = cpn (n + 1) f g := by
  funext i
  unfold upd cpn
  by_cases h : i = n
  · subst h
    rw [if_pos rfl, if_pos (by omega)]
  · rw [if_neg h]
    by_cases h2 : i < n
    · rw [if_pos h2, if_pos (by omega)]
    · rw [if_neg h2, if_neg (by omega)]
theorem cpn_lt {n i : Nat} {f g : Nat → Int32} (h : i < n) : cpn n f g i = f i := if_pos h
theorem cpn_ge {n i : Nat} {f g : Nat → Int32} (h : ¬ i < n) : cpn n f g i = g i := if_neg h
theorem upd_upd (f : Nat → Int32) (i : Nat) (x y : Int32) : upd (upd f i x) i y = upd f i y := by
  funext j
  unfold upd
  by_cases h : j = i
  · rw [if_pos h, if_pos h]
  · rw [if_neg h, if_neg h, if_neg h]
/-- what is written into the object comes last -/
theorem rx_ua_c0 (σ : rx_S) {k : Nat} (h : 0 ≠ k) (f g : Nat → Int32) : rx_ua (rx_ua σ 0 f) k g = rx_ua (rx_ua σ k g) 0 f := rx_ua_comm σ h f g
theorem rx_sub {x : Int32} {n : Nat} (h : 0 ≤ x.toInt) (h2 : x.toInt < n) : ∃ a, a < n ∧ x = nI a := ⟨rx_N x, rx_Nlt h h2, rx_nN h⟩
def ac_shift (n : Nat) (A : Nat → Int32) : Nat → Int32 := fun q => if q < n then A (q + 40) else A q
theorem ac_shift_0 (A : Nat → Int32) : ac_shift 0 A = A := by
  funext q
  unfold ac_shift
  rw [if_neg (by omega)]
theorem ac_shift_at {n q : Nat} {A : Nat → Int32} (h : n ≤ q) : ac_shift n A q = A q := if_neg (by omega)
theorem ac_shift_s (n : Nat) (A : Nat → Int32) : upd (ac_shift n A) n (A (n + 40)) = ac_shift (n + 1) A := by
  funext q
  unfold upd ac_shift
  by_cases h : q = n
  · subst h
    rw [if_pos rfl, if_pos (by omega)]
  · rw [if_neg h]
    by_cases h2 : q < n
    · rw [if_pos h2, if_pos (by omega)]
    · rw [if_neg h2, if_neg (by omega)]
def ac_put (m n : Nat) (w A : Nat → Int32) : Nat → Int32 := fun q => if 40 * m ≤ q ∧ q < 40 * m + n then w (q - 40 * m) else A q
theorem ac_put_0 (m : Nat) (w A : Nat → Int32) : ac_put m 0 w A = A := by
  funext q
  unfold ac_put
  rw [if_neg (by omega)]
theorem ac_put_s (m n : Nat) (w A : Nat → Int32) : upd (ac_put m n w A) (40 * m + n) (w n) = ac_put m (n + 1) w A := by
  funext q
  unfold upd ac_put
  by_cases h : q = 40 * m + n
  · rw [if_pos h, if_pos (by omega), h, Nat.add_sub_cancel_left]
  · rw [if_neg h]
    by_cases h2 : 40 * m ≤ q ∧ q < 40 * m + n
    · rw [if_pos h2, if_pos (by omega)]
    · rw [if_neg h2, if_neg (by omega)]
def mo_k (σ : rx_S) : Nat := if σ.1 0 18 = 24 then 23 else rx_N (σ.1 0 18)
def sp_note (σ : rx_S) : rx_S := rx_u (rx_ua σ 8 (ac_put (mo_k σ) 40 (σ.1 4) (if σ.1 0 18 = 24 then ac_shift 920 (σ.1 8) else σ.1 8))) 0 18 (nI (mo_k σ + 1))
set_option maxHeartbeats 4000000 in
set_option maxRecDepth 100000 in
theorem kX8_note {l : Launch} {O : rx_O} (hO : mo_O O) {σ : rx_S} (h18 : 0 ≤ (σ.1 0 18).toInt ∧ (σ.1 0 18).toInt ≤ 24) : rx_MV l O yX8_note cX8_note 2 none 0 [.ref 0] σ (fun τ => sp_note σ = τ) := by
  refine rx_Met_of (own := RX8) rfl hO.2.1 vsX8_note.2.2.2.2.2 (Nat.le_of_ble_eq_true rfl) rfl (fun p e s m args below meth c X => ?_)
  have second : ∀ (ρ : rx_S) (mm : Nat) (A1 : Nat → Int32), mm < 24 → mo_k σ = mm → ρ.1 8 = A1 → ρ.1 4 = σ.1 4 → ρ.1 0 18 = nI mm → (rx_ua (rx_ua σ 8 (ac_put mm 40 (σ.1 4) (if σ.1 0 18 = 24 then ac_shift 920 (σ.1 8) else σ.1 8))) 0 (upd (σ.1 0) 18 (nI (mm + 1))) = rx_ua (rx_ua ρ 8 (ac_put mm 40 (σ.1 4) A1)) 0 (upd (ρ.1 0) 18 (nI (mm + 1)))) → rx_J O 2 p l e (rx_lv 0) s m args below meth c (rx_QV O below args s (fun τ => sp_note σ = τ)) 51 [(0, .ref 0), (1, .int 0)] [] ρ := by
    intro ρ mm A1 hmm hm hρ8 hρ4 hρ18 hfin
    have lp2 : ∀ (k : Nat) (i : Nat) (x : Int32) (τ : rx_S), (i + k = 40) → (x = nI i) → (τ = rx_ua ρ 8 (ac_put mm i (σ.1 4) A1)) → rx_J O 2 p l e (rx_lv 0) s m args below meth c (rx_QV O below args s (fun τ => sp_note σ = τ)) 51 [(0, .ref 0), (1, .int x)] [] τ := by
      intro k
      induction k with
      | zero =>
        intro i x τ hi hx hτ
        obtain rfl : i = 40 := by omega
        subst hx
        subst hτ
        refine rx_iload_n (i := 1) X dX8_note_51 rfl rfl ?_
        refine rx_bipush (v := 40) X dX8_note_52 (by decide) ?_
        refine rx_icmp_ge_t X dX8_note_54 (Int32.le_refl _) ?_
        refine rx_aload_n (i := 0) X dX8_note_83 rfl rfl ?_
        refine rx_dup X dX8_note_84 rfl ?_
        refine rx_getI (ci := 8) (i := 18) X (km_0 hO) rfl rfl (by decide) inX8 flX8_148 dX8_note_85 ?_
        refine rx_iconst (v := 1) X dX8_note_88 (by decide) ?_
        refine rx_iadd X dX8_note_89 ?_
        refine rx_putI (ci := 8) (i := 18) X (km_0 hO) rfl rfl (by decide) inX8 tyX8 tyX8_ok nmX8 flX8_148 rfl rfl dX8_note_90 ?_
        refine rx_vret X dX8_note_93 ?_
        rw [sp_note, hm]
        simp only [rx_u_eq, rx_ua_s, rx_ua_ua]
        rw [rx_ua_ne (by decide), rx_ua_ne (by decide), hρ18, show nI mm + 1 = nI (mm + 1) from nI_1 mm]
        exact hfin
      | succ k ih =>
        intro i x τ hi hx hτ
        subst hx
        have e8 : τ.1 8 = ac_put mm i (σ.1 4) A1 := by rw [hτ, rx_ua_s]
        have e4 : τ.1 4 = σ.1 4 := by rw [hτ, rx_ua_ne (by decide), hρ4]
        have e18 : τ.1 0 18 = nI mm := by rw [hτ, rx_ua_ne (by decide), hρ18]
        refine rx_iload_n (i := 1) X dX8_note_51 rfl rfl ?_
        refine rx_bipush (v := 40) X dX8_note_52 (by decide) ?_
        refine rx_icmp_ge_f X dX8_note_54 (nI_ge (b := 40) (by omega) (by decide)) ?_
        refine rx_aload_n (i := 0) X dX8_note_57 rfl rfl ?_
        refine rx_getR (ci := 8) (i := 17) X (km_0 hO) rfl rfl (by decide) inX8 flX8_35 dX8_note_58 ?_
        refine rx_bipush (v := 40) X dX8_note_61 (by decide) ?_
        refine rx_aload_n (i := 0) X dX8_note_63 rfl rfl ?_
        refine rx_getI (ci := 8) (i := 18) X (km_0 hO) rfl rfl (by decide) inX8 flX8_148 dX8_note_64 ?_
        refine rx_top e18 ?_
        refine rx_imul X dX8_note_67 ?_
        refine rx_iload_n (i := 1) X dX8_note_68 rfl rfl ?_
        refine rx_iadd X dX8_note_69 ?_
        refine rx_aload_n (i := 0) X dX8_note_70 rfl rfl ?_
        refine rx_getR (ci := 8) (i := 5) X (km_0 hO) rfl rfl (by decide) inX8 flX8_19 dX8_note_71 ?_
        refine rx_iload_n (i := 1) X dX8_note_74 rfl rfl ?_
        refine rx_ialdN (j := i) X (km_4 hO) hO.2.2.1 rfl (by omega) (by decide) dX8_note_75 ?_
        refine rx_iastN (j := 40 * mm + i) X (km_8 hO) hO.2.2.1 (by rw [show (40 : Int32) = nI 40 from rfl, pk_mul, nI_add]) (by omega) (by decide) dX8_note_76 ?_
        refine rx_iinc (i := 1) (lo2 := [(0, .ref _), (1, .int _)]) X dX8_note_77 rfl (rx_inc1 _) (by decide) rfl ?_
        refine rx_goto X dX8_note_80 ?_
        refine ih (i + 1) _ _ (by omega) (nI_1 i) ?_
        rw [rx_u_eq, e8, e4, ac_put_s, hτ, rx_ua_ua]
    exact lp2 40 0 _ ρ rfl rfl (by rw [ac_put_0, ← hρ8]; exact (rx_ua_self ρ 8).symm)
  have first0 : σ.1 0 18 = 24 → rx_J O 2 p l e (rx_lv 0) s m args below meth c (rx_QV O below args s (fun τ => sp_note σ = τ)) 11 [(0, .ref 0), (1, .int 0)] [] σ := by
    intro h24
    have lp1 : ∀ (k : Nat) (i : Nat) (x : Int32) (τ : rx_S), (i + k = 920) → (x = nI i) → (τ = rx_ua σ 8 (ac_shift i (σ.1 8))) → rx_J O 2 p l e (rx_lv 0) s m args below meth c (rx_QV O below args s (fun τ => sp_note σ = τ)) 11 [(0, .ref 0), (1, .int x)] [] τ := by
      intro k
      induction k with
      | zero =>
        intro i x τ hi hx hτ
        obtain rfl : i = 920 := by omega
        subst hx
        subst hτ
        refine rx_iload_n (i := 1) X dX8_note_11 rfl rfl ?_
        refine rx_sipush (v := 920) X dX8_note_12 (by decide) ?_
        refine rx_icmp_ge_t X dX8_note_15 (Int32.le_refl _) ?_
        refine rx_aload_n (i := 0) X dX8_note_39 rfl rfl ?_
        refine rx_dup X dX8_note_40 rfl ?_
        refine rx_getI (ci := 8) (i := 18) X (km_0 hO) rfl rfl (by decide) inX8 flX8_148 dX8_note_41 ?_
        refine rx_iconst (v := 1) X dX8_note_44 (by decide) ?_
        refine rx_isub X dX8_note_45 ?_
        refine rx_putI (ci := 8) (i := 18) X (km_0 hO) rfl rfl (by decide) inX8 tyX8 tyX8_ok nmX8 flX8_148 rfl rfl dX8_note_46 ?_
        refine rx_iconst (v := 0) X dX8_note_49 (by decide) ?_
        refine rx_istore_n (i := 1) (lo2 := [(0, .ref _), (1, .int _)]) X dX8_note_50 rfl (by decide) rfl ?_
        refine second _ 23 (ac_shift 920 (σ.1 8)) (by omega) (if_pos h24) (by rw [rx_u_ne (by decide), rx_ua_s]) (by rw [rx_u_ne (by decide), rx_ua_ne (by decide)]) ?_ ?_
        · rw [rx_u_s, upd_s, rx_ua_ne (by decide), h24]; rfl
        · rw [if_pos h24]
          simp only [rx_u_eq, rx_ua_s, rx_ua_ua]
          rw [rx_ua_c0 _ (by decide), rx_ua_ua, rx_ua_ua, rx_ua_ne (by decide), upd_upd]
      | succ k ih =>
        intro i x τ hi hx hτ
        subst hx
        have e8 : τ.1 8 = ac_shift i (σ.1 8) := by rw [hτ, rx_ua_s]
        refine rx_iload_n (i := 1) X dX8_note_11 rfl rfl ?_
        refine rx_sipush (v := 920) X dX8_note_12 (by decide) ?_
        refine rx_icmp_ge_f X dX8_note_15 (nI_ge (b := 920) (by omega) (by decide)) ?_
        refine rx_aload_n (i := 0) X dX8_note_18 rfl rfl ?_
        refine rx_getR (ci := 8) (i := 17) X (km_0 hO) rfl rfl (by decide) inX8 flX8_35 dX8_note_19 ?_
        refine rx_iload_n (i := 1) X dX8_note_22 rfl rfl ?_
        refine rx_aload_n (i := 0) X dX8_note_23 rfl rfl ?_
        refine rx_getR (ci := 8) (i := 17) X (km_0 hO) rfl rfl (by decide) inX8 flX8_35 dX8_note_24 ?_
        refine rx_iload_n (i := 1) X dX8_note_27 rfl rfl ?_
        refine rx_bipush (v := 40) X dX8_note_28 (by decide) ?_
        refine rx_iadd X dX8_note_30 ?_
        refine rx_ialdN (j := i + 40) X (km_8 hO) hO.2.2.1 (nI_add i 40) (by omega) (by decide) dX8_note_31 ?_
        refine rx_iastN (j := i) X (km_8 hO) hO.2.2.1 rfl (by omega) (by decide) dX8_note_32 ?_
        refine rx_iinc (i := 1) (lo2 := [(0, .ref _), (1, .int _)]) X dX8_note_33 rfl (rx_inc1 _) (by decide) rfl ?_
        refine rx_goto X dX8_note_36 ?_
        refine ih (i + 1) _ _ (by omega) (nI_1 i) ?_
        rw [rx_u_eq, e8, ac_shift_at (by omega), ac_shift_s, hτ, rx_ua_ua]
    exact lp1 920 0 _ σ rfl rfl (by rw [ac_shift_0]; exact (rx_ua_self σ 8).symm)
  refine rx_aload_n (i := 0) X dX8_note_0 rfl rfl ?_
  refine rx_getI (ci := 8) (i := 18) X (km_0 hO) rfl rfl (by decide) inX8 flX8_148 dX8_note_1 ?_
  refine rx_bipush (v := 24) X dX8_note_4 (by decide) ?_
  refine rx_icmp_ne X dX8_note_6 (fun h6 => ?_) (fun h6 => ?_)
  · refine rx_iconst (v := 0) X dX8_note_49 (by decide) ?_
    refine rx_istore_n (i := 1) (lo2 := [(0, .ref _), (1, .int _)]) X dX8_note_50 rfl (by decide) rfl ?_
    refine second σ (rx_N (σ.1 0 18)) (σ.1 8) ?_ (if_neg h6) rfl rfl (rx_nN h18.1) ?_
    · have := rx_Ni h18.1
      have : ¬ (σ.1 0 18).toInt = 24 := fun q => h6 (Int32.toInt_inj.mp q)
      omega
    · rw [if_neg h6]
  · refine rx_iconst (v := 0) X dX8_note_9 (by decide) ?_
    refine rx_istore_n (i := 1) (lo2 := [(0, .ref _), (1, .int _)]) X dX8_note_10 rfl (by decide) rfl ?_
    exact first0 h6
/-- the wall is put aside; then the wall is as u -/
def sp_aside (σ : rx_S) : rx_S := rx_ua σ 9 (cpn 40 (σ.1 4) (σ.1 9))
def as_st (σ : rx_S) (u : Nat → Int32) : rx_S := rx_ua (sp_aside σ) 4 u
theorem as_rd (σ : rx_S) (u : Nat → Int32) (j : Nat) : (as_st σ u).1 4 j = u j := by rw [as_st, rx_ua_s]
theorem as_4 (σ : rx_S) (u : Nat → Int32) : (as_st σ u).1 4 = u := by rw [as_st, rx_ua_s]
theorem as_ne {σ : rx_S} {u : Nat → Int32} {k : Nat} (h : k ≠ 4) (h2 : k ≠ 9) : (as_st σ u).1 k = σ.1 k := by rw [as_st, rx_ua_ne h, sp_aside, rx_ua_ne h2]
theorem as_up (σ : rx_S) (u : Nat → Int32) (j : Nat) (v : Int32) : rx_u (as_st σ u) 4 j v = as_st σ (upd u j v) := by rw [rx_u_eq, as_4, as_st, rx_ua_ua]; rfl
theorem as_self (σ : rx_S) : as_st σ (σ.1 4) = sp_aside σ := rx_ua_self (sp_aside σ) 4
theorem as_take {σ : rx_S} {u : Nat → Int32} (h : ∀ i, 40 ≤ i → u i = σ.1 4 i) : rx_ua (as_st σ u) 4 (cpn 40 ((as_st σ u).1 9) ((as_st σ u).1 4)) = sp_aside σ := by
  rw [as_4, show (as_st σ u).1 9 = cpn 40 (σ.1 4) (σ.1 9) by rw [as_st, rx_ua_ne (by decide), sp_aside, rx_ua_s]]
  rw [as_st, rx_ua_ua]
  refine Eq.trans ?_ (as_self σ)
  show _ = rx_ua (sp_aside σ) 4 (σ.1 4)
  congr 1
  funext i
  by_cases hi : i < 40
  · rw [cpn_lt hi, cpn_lt hi]
  · rw [cpn_ge hi, h i (by omega)]
set_option maxHeartbeats 4000000 in
set_option maxRecDepth 100000 in
theorem kX8_putAside {l : Launch} {O : rx_O} (hO : mo_O O) {σ : rx_S} : rx_MV l O yX8_putAside cX8_putAside 2 none 0 [.ref 0] σ (fun τ => as_st σ (σ.1 4) = τ) := by
  refine rx_Met_of (own := RX8) rfl hO.2.1 vsX8_putAside.2.2.2.2.2 (Nat.le_of_ble_eq_true rfl) rfl (fun p e s m args below meth c X => ?_)
  have loop : ∀ (k : Nat) (i : Nat) (x : Int32) (τ : rx_S), (i + k = 40) → (x = nI i) → (τ = rx_ua σ 9 (cpn i (σ.1 4) (σ.1 9))) → rx_J O 2 p l e (rx_lv 0) s m args below meth c (rx_QV O below args s (fun τ => as_st σ (σ.1 4) = τ)) 2 [(0, .ref 0), (1, .int x)] [] τ := by
    intro k
    induction k with
    | zero =>
      intro i x τ hi hx hτ
      obtain rfl : i = 40 := by omega
      subst hx
      refine rx_iload_n (i := 1) X dX8_putAside_2 rfl rfl ?_
      refine rx_bipush (v := 40) X dX8_putAside_3 (by decide) ?_
      refine rx_icmp_ge_t X dX8_putAside_5 (Int32.le_refl _) ?_
      refine rx_vret X dX8_putAside_26 ?_
      rw [as_self]
      exact hτ.symm
    | succ k ih =>
      intro i x τ hi hx hτ
      subst hx
      have ea : τ.1 9 = cpn i (σ.1 4) (σ.1 9) := by rw [hτ, rx_ua_s]
      have eb : τ.1 4 = σ.1 4 := by rw [hτ, rx_ua_ne (by decide)]
      refine rx_iload_n (i := 1) X dX8_putAside_2 rfl rfl ?_
      refine rx_bipush (v := 40) X dX8_putAside_3 (by decide) ?_
      refine rx_icmp_ge_f X dX8_putAside_5 (nI_ge (b := 40) (by omega) (by decide)) ?_
      refine rx_aload_n (i := 0) X dX8_putAside_8 rfl rfl ?_
      refine rx_getR (ci := 8) (i := 19) X (km_0 hO) rfl rfl (by decide) inX8 flX8_38 dX8_putAside_9 ?_
      refine rx_iload_n (i := 1) X dX8_putAside_12 rfl rfl ?_
      refine rx_aload_n (i := 0) X dX8_putAside_13 rfl rfl ?_
      refine rx_getR (ci := 8) (i := 5) X (km_0 hO) rfl rfl (by decide) inX8 flX8_19 dX8_putAside_14 ?_
      refine rx_iload_n (i := 1) X dX8_putAside_17 rfl rfl ?_
      refine rx_ialdN (j := i) X (km_4 hO) hO.2.2.1 rfl (by omega) (by decide) dX8_putAside_18 ?_
      refine rx_iastN (j := i) X (km_9 hO) hO.2.2.1 rfl (by omega) (by decide) dX8_putAside_19 ?_
      refine rx_iinc (i := 1) (lo2 := [(0, .ref _), (1, .int _)]) X dX8_putAside_20 rfl (rx_inc1 _) (by decide) rfl ?_
      refine rx_goto X dX8_putAside_23 ?_
      refine ih (i + 1) _ _ (by omega) (nI_1 i) ?_
      rw [rx_u_eq, ea, eb, cpn_s, hτ, rx_ua_ua]
  refine rx_iconst (v := 0) X dX8_putAside_0 (by decide) ?_
  refine rx_istore_n (i := 1) (lo2 := [(0, .ref _), (1, .int _)]) X dX8_putAside_1 rfl (by decide) rfl ?_
  exact loop 40 0 _ σ rfl rfl (by rw [cpn_0]; exact (rx_ua_self σ 9).symm)
set_option maxHeartbeats 4000000 in
set_option maxRecDepth 100000 in
theorem kX8_takeBack {l : Launch} {O : rx_O} (hO : mo_O O) {σ : rx_S} : rx_MV l O yX8_takeBack cX8_takeBack 2 none 0 [.ref 0] σ (fun τ => rx_ua σ 4 (cpn 40 (σ.1 9) (σ.1 4)) = τ) := by
  refine rx_Met_of (own := RX8) rfl hO.2.1 vsX8_takeBack.2.2.2.2.2 (Nat.le_of_ble_eq_true rfl) rfl (fun p e s m args below meth c X => ?_)
  have loop : ∀ (k : Nat) (i : Nat) (x : Int32) (τ : rx_S), (i + k = 40) → (x = nI i) → (τ = rx_ua σ 4 (cpn i (σ.1 9) (σ.1 4))) → rx_J O 2 p l e (rx_lv 0) s m args below meth c (rx_QV O below args s (fun τ => rx_ua σ 4 (cpn 40 (σ.1 9) (σ.1 4)) = τ)) 2 [(0, .ref 0), (1, .int x)] [] τ := by
    intro k
    induction k with
    | zero =>
      intro i x τ hi hx hτ
      obtain rfl : i = 40 := by omega
      subst hx
      refine rx_iload_n (i := 1) X dX8_takeBack_2 rfl rfl ?_
      refine rx_bipush (v := 40) X dX8_takeBack_3 (by decide) ?_
      refine rx_icmp_ge_t X dX8_takeBack_5 (Int32.le_refl _) ?_
      refine rx_vret X dX8_takeBack_26 ?_
      exact hτ.symm
    | succ k ih =>
      intro i x τ hi hx hτ
      subst hx
      have ea : τ.1 4 = cpn i (σ.1 9) (σ.1 4) := by rw [hτ, rx_ua_s]
      have eb : τ.1 9 = σ.1 9 := by rw [hτ, rx_ua_ne (by decide)]
      refine rx_iload_n (i := 1) X dX8_takeBack_2 rfl rfl ?_
      refine rx_bipush (v := 40) X dX8_takeBack_3 (by decide) ?_
      refine rx_icmp_ge_f X dX8_takeBack_5 (nI_ge (b := 40) (by omega) (by decide)) ?_
      refine rx_aload_n (i := 0) X dX8_takeBack_8 rfl rfl ?_
      refine rx_getR (ci := 8) (i := 5) X (km_0 hO) rfl rfl (by decide) inX8 flX8_19 dX8_takeBack_9 ?_
      refine rx_iload_n (i := 1) X dX8_takeBack_12 rfl rfl ?_
      refine rx_aload_n (i := 0) X dX8_takeBack_13 rfl rfl ?_
      refine rx_getR (ci := 8) (i := 19) X (km_0 hO) rfl rfl (by decide) inX8 flX8_38 dX8_takeBack_14 ?_
      refine rx_iload_n (i := 1) X dX8_takeBack_17 rfl rfl ?_
      refine rx_ialdN (j := i) X (km_9 hO) hO.2.2.1 rfl (by omega) (by decide) dX8_takeBack_18 ?_
      refine rx_iastN (j := i) X (km_4 hO) hO.2.2.1 rfl (by omega) (by decide) dX8_takeBack_19 ?_
      refine rx_iinc (i := 1) (lo2 := [(0, .ref _), (1, .int _)]) X dX8_takeBack_20 rfl (rx_inc1 _) (by decide) rfl ?_
      refine rx_goto X dX8_takeBack_23 ?_
      refine ih (i + 1) _ _ (by omega) (nI_1 i) ?_
      rw [rx_u_eq, ea, eb, cpn_s, hτ, rx_ua_ua]
  refine rx_iconst (v := 0) X dX8_takeBack_0 (by decide) ?_
  refine rx_istore_n (i := 1) (lo2 := [(0, .ref _), (1, .int _)]) X dX8_takeBack_1 rfl (by decide) rfl ?_
  exact loop 40 0 _ σ rfl rfl (by rw [cpn_0]; exact (rx_ua_self σ 4).symm)
def sp_undo (σ : rx_S) : Int32 × rx_S := if σ.1 0 18 = 0 then (-1000002, σ) else (nI (rx_N (σ.1 0 18) - 1), rx_u (rx_ua σ 4 (cpn 40 (fun i => σ.1 8 (40 * (rx_N (σ.1 0 18) - 1) + i)) (σ.1 4))) 0 18 (nI (rx_N (σ.1 0 18) - 1)))
set_option maxHeartbeats 4000000 in
set_option maxRecDepth 100000 in
theorem kX8_undo {l : Launch} {O : rx_O} (hO : mo_O O) {σ : rx_S} (h18 : 0 ≤ (σ.1 0 18).toInt ∧ (σ.1 0 18).toInt ≤ 24) : rx_MI l O yX8_undo cX8_undo 2 (some .int) 0 [.ref 0] σ (fun r τ => sp_undo σ = (r, τ)) := by
  refine rx_Met_of (own := RX8) rfl hO.2.1 vsX8_undo.2.2.2.2.2 (Nat.le_of_ble_eq_true rfl) rfl (fun p e s m args below meth c X => ?_)
  have go : ∀ (mm : Nat), mm < 24 → rx_N (σ.1 0 18) - 1 = mm → ¬ σ.1 0 18 = 0 → rx_J O 2 p l e (rx_lv 0) s m args below meth c (rx_QI O below args s (fun r τ => sp_undo σ = (r, τ))) 22 [(0, .ref 0), (1, .int 0)] [] (rx_u σ 0 18 (nI mm)) := by
    intro mm hmm hm hne
    have loop : ∀ (k : Nat) (i : Nat) (x : Int32) (τ : rx_S), (i + k = 40) → (x = nI i) → (τ = rx_ua (rx_u σ 0 18 (nI mm)) 4 (cpn i (fun i => σ.1 8 (40 * mm + i)) (σ.1 4))) → rx_J O 2 p l e (rx_lv 0) s m args below meth c (rx_QI O below args s (fun r τ => sp_undo σ = (r, τ))) 22 [(0, .ref 0), (1, .int x)] [] τ := by
      intro k
      induction k with
      | zero =>
        intro i x τ hi hx hτ
        obtain rfl : i = 40 := by omega
        subst hx
        subst hτ
        refine rx_iload_n (i := 1) X dX8_undo_22 rfl rfl ?_
        refine rx_bipush (v := 40) X dX8_undo_23 (by decide) ?_
        refine rx_icmp_ge_t X dX8_undo_25 (Int32.le_refl _) ?_
        refine rx_aload_n (i := 0) X dX8_undo_54 rfl rfl ?_
        refine rx_getI (ci := 8) (i := 18) X (km_0 hO) rfl rfl (by decide) inX8 flX8_148 dX8_undo_55 ?_
        refine rx_iret X dX8_undo_58 ?_
        rw [sp_undo, if_neg hne, rx_ua_ne (by decide), rx_u_s, upd_s, hm]
        simp only [rx_u_eq]
        rw [rx_ua_c0 _ (by decide), rx_ua_ne (by decide)]
      | succ k ih =>
        intro i x τ hi hx hτ
        subst hx
        have ea : τ.1 4 = cpn i (fun i => σ.1 8 (40 * mm + i)) (σ.1 4) := by rw [hτ, rx_ua_s]
        have eb : τ.1 8 = σ.1 8 := by rw [hτ, rx_ua_ne (by decide), rx_u_ne (by decide)]
        have e18 : τ.1 0 18 = nI mm := by rw [hτ, rx_ua_ne (by decide), rx_u_s, upd_s]
        refine rx_iload_n (i := 1) X dX8_undo_22 rfl rfl ?_
        refine rx_bipush (v := 40) X dX8_undo_23 (by decide) ?_
        refine rx_icmp_ge_f X dX8_undo_25 (nI_ge (b := 40) (by omega) (by decide)) ?_
        refine rx_aload_n (i := 0) X dX8_undo_28 rfl rfl ?_
        refine rx_getR (ci := 8) (i := 5) X (km_0 hO) rfl rfl (by decide) inX8 flX8_19 dX8_undo_29 ?_
        refine rx_iload_n (i := 1) X dX8_undo_32 rfl rfl ?_
        refine rx_aload_n (i := 0) X dX8_undo_33 rfl rfl ?_
        refine rx_getR (ci := 8) (i := 17) X (km_0 hO) rfl rfl (by decide) inX8 flX8_35 dX8_undo_34 ?_
        refine rx_bipush (v := 40) X dX8_undo_37 (by decide) ?_
        refine rx_aload_n (i := 0) X dX8_undo_39 rfl rfl ?_
        refine rx_getI (ci := 8) (i := 18) X (km_0 hO) rfl rfl (by decide) inX8 flX8_148 dX8_undo_40 ?_
        refine rx_top e18 ?_
        refine rx_imul X dX8_undo_43 ?_
        refine rx_iload_n (i := 1) X dX8_undo_44 rfl rfl ?_
        refine rx_iadd X dX8_undo_45 ?_
        refine rx_ialdN (j := 40 * mm + i) X (km_8 hO) hO.2.2.1 (by rw [show (40 : Int32) = nI 40 from rfl, pk_mul, nI_add]) (by omega) (by decide) dX8_undo_46 ?_
        refine rx_iastN (j := i) X (km_4 hO) hO.2.2.1 rfl (by omega) (by decide) dX8_undo_47 ?_
        refine rx_iinc (i := 1) (lo2 := [(0, .ref _), (1, .int _)]) X dX8_undo_48 rfl (rx_inc1 _) (by decide) rfl ?_
        refine rx_goto X dX8_undo_51 ?_
        refine ih (i + 1) _ _ (by omega) (nI_1 i) ?_
        rw [rx_u_eq, ea, eb, hτ, rx_ua_ua]
        congr 1
        exact cpn_s i (fun i => σ.1 8 (40 * mm + i)) (σ.1 4)
    exact loop 40 0 _ _ rfl rfl (by rw [cpn_0]; exact (rx_ua_self _ 4).symm)
  refine rx_aload_n (i := 0) X dX8_undo_0 rfl rfl ?_
  refine rx_getI (ci := 8) (i := 18) X (km_0 hO) rfl rfl (by decide) inX8 flX8_148 dX8_undo_1 ?_
  refine rx_if_ne X dX8_undo_4 (fun h4 => ?_) (fun h4 => ?_)
  · refine rx_aload_n (i := 0) X dX8_undo_10 rfl rfl ?_
    refine rx_dup X dX8_undo_11 rfl ?_
    refine rx_getI (ci := 8) (i := 18) X (km_0 hO) rfl rfl (by decide) inX8 flX8_148 dX8_undo_12 ?_
    refine rx_iconst (v := 1) X dX8_undo_15 (by decide) ?_
    refine rx_isub X dX8_undo_16 ?_
    refine rx_putI (ci := 8) (i := 18) X (km_0 hO) rfl rfl (by decide) inX8 tyX8 tyX8_ok nmX8 flX8_148 rfl rfl dX8_undo_17 ?_
    refine rx_iconst (v := 0) X dX8_undo_20 (by decide) ?_
    refine rx_istore_n (i := 1) (lo2 := [(0, .ref _), (1, .int _)]) X dX8_undo_21 rfl (by decide) rfl ?_
    have e1 := rx_Ni h18.1
    have e2 : ¬ (σ.1 0 18).toInt = 0 := fun q => h4 (Int32.toInt_inj.mp q)
    have e3 : σ.1 0 18 - 1 = nI (rx_N (σ.1 0 18) - 1) := by
      conv => lhs; rw [rx_nN h18.1, show rx_N (σ.1 0 18) = (rx_N (σ.1 0 18) - 1) + 1 by omega]
      exact nI_pred _
    rw [e3]
    exact go _ (by omega) rfl h4
  · refine rx_ldc X dX8_undo_7 kcX8_173 ?_
    refine rx_iret X dX8_undo_9 ?_
    rw [sp_undo, if_pos h4]
