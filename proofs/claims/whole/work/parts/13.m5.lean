def sp_mins : Nat → rx_S → rx_S
  | 0, σ => σ
  | n + 1, σ => sp_mins n (rx_ua (sp_note σ) 4 (w_one (σ.1 0 6) (σ.1 4)))
def sp_minutes (σ : rx_S) (n : Int32) : Int32 × rx_S := if σ.1 0 4 = 0 then (-1000002, σ) else if ¬ (1 ≤ n.toInt ∧ n.toInt ≤ 24) then (-1000001, σ) else if 999 < (σ.1 4 1).toInt + n.toInt then (-1000003, σ) else ((sp_mins (rx_N n) σ).1 4 0, sp_mins (rx_N n) σ)
theorem nt_0 (σ : rx_S) {j : Nat} (h : j ≠ 18) : (sp_note σ).1 0 j = σ.1 0 j := by rw [sp_note, rx_u_s, upd_n h, rx_ua_ne (by decide)]
theorem nt_18 (σ : rx_S) (h : 0 ≤ (σ.1 0 18).toInt ∧ (σ.1 0 18).toInt ≤ 24) : 1 ≤ ((sp_note σ).1 0 18).toInt ∧ ((sp_note σ).1 0 18).toInt ≤ 24 := by
  have e1 := rx_Ni h.1
  rw [sp_note, rx_u_s, upd_s]
  have : mo_k σ < 24 := by
    unfold mo_k
    split
    · decide
    · rename_i q
      have : ¬ (σ.1 0 18).toInt = 24 := fun z => q (Int32.toInt_inj.mp z)
      omega
  rw [nI_toInt (by omega)]
  omega
set_option maxHeartbeats 4000000 in
set_option maxRecDepth 100000 in
theorem kX8_minutes {l : Launch} {O : rx_O} (hO : mo_O O) {σ : rx_S} {n : Int32} (hw : mo_W σ) (h18 : 0 ≤ (σ.1 0 18).toInt ∧ (σ.1 0 18).toInt ≤ 24) : rx_MI l O yX8_minutes cX8_minutes 3 (some .int) 5 [.ref 0, .int n] σ (fun r τ => sp_minutes σ n = (r, τ)) := by
  refine rx_Met_of (own := RX8) rfl hO.2.1 vsX8_minutes.2.2.2.2.2 (Nat.le_of_ble_eq_true rfl) rfl (fun p e s m args below meth c X => ?_)
  have go : ∀ (q : Nat), q < 25 → n = nI q → ¬ σ.1 0 4 = 0 → (1 ≤ n.toInt ∧ n.toInt ≤ 24) → (σ.1 4 1).toInt + n.toInt ≤ 999 → rx_J O 3 p l e (rx_lv 5) s m args below meth c (rx_QI O below args s (fun r τ => sp_minutes σ n = (r, τ))) 44 [(0, .ref 0), (1, .int n), (2, .int 0)] [] σ := by
    intro q hq hnq h4 h16 h36
    subst hnq
    have hv := hw.V4 h4
    have loop : ∀ (k : Nat) (i K : Nat) (x : Int32) (τ : rx_S), (i + k = q) → (x = nI i) → (K + k < 1000000) → (w_V K (τ.1 4)) → (0 ≤ (τ.1 0 18).toInt ∧ (τ.1 0 18).toInt ≤ 24) → (sp_mins q σ = sp_mins (q - i) τ) → rx_J O 3 p l e (rx_lv 5) s m args below meth c (rx_QI O below args s (fun r τ => sp_minutes σ (nI q) = (r, τ))) 44 [(0, .ref 0), (1, .int (nI q)), (2, .int x)] [] τ := by
      intro k
      induction k with
      | zero =>
        intro i K x τ hi hx hK hw h18 hτ
        obtain rfl : i = q := by omega
        subst hx
        refine rx_iload_n (i := 2) X dX8_minutes_44 rfl rfl ?_
        refine rx_iload_n (i := 1) X dX8_minutes_45 rfl rfl ?_
        refine rx_icmp_ge_t X dX8_minutes_46 (Int32.le_refl _) ?_
        refine rx_aload_n (i := 0) X dX8_minutes_63 rfl rfl ?_
        refine rx_getR (ci := 8) (i := 5) X (km_0 hO) rfl rfl (by decide) inX8 flX8_19 dX8_minutes_64 ?_
        refine rx_iconst (v := 0) X dX8_minutes_67 (by decide) ?_
        refine rx_ialdN (j := 0) X (km_4 hO) hO.2.2.1 rfl (by decide) (by decide) dX8_minutes_68 ?_
        refine rx_iret X dX8_minutes_69 ?_
        rw [sp_minutes, if_neg h4, if_neg (by omega), if_neg (by omega), rx_Nn (by omega), hτ, Nat.sub_self]
        rfl
      | succ k ih =>
        intro i K x τ hi hx hK hw h18 hτ
        subst hx
        refine rx_iload_n (i := 2) X dX8_minutes_44 rfl rfl ?_
        refine rx_iload_n (i := 1) X dX8_minutes_45 rfl rfl ?_
        refine rx_icmp_ge_f X dX8_minutes_46 (nI_ge (b := q) (by omega) (by omega)) ?_
        refine rx_aload_n (i := 0) X dX8_minutes_49 rfl rfl ?_
        refine rx_callVv (ci := 8) X vsX8_note mlX8_176 (kX8_note hO h18) (km_0 hO) rfl rfl (by decide) (by decide) dX8_minutes_50 rfl (Nat.le_of_ble_eq_true rfl) (fun t50 h50 => ?_)
        subst h50
        refine rx_aload_n (i := 0) X dX8_minutes_53 rfl rfl ?_
        refine rx_callVv (ci := 8) X vsX8_oneMinute mlX8_170 (kX8_oneMinute hO (K := K) (by rw [nt_4]; exact hw)) (km_0 hO) rfl rfl (by decide) (by decide) dX8_minutes_54 rfl (Nat.le_of_ble_eq_true rfl) (fun t54 h54 => ?_)
        rw [nt_4, nt_0 τ (by decide)] at h54
        subst h54
        refine rx_iinc (i := 2) (lo2 := [(0, .ref _), (1, .int _), (2, .int _)]) X dX8_minutes_57 rfl (rx_inc1 _) (by decide) rfl ?_
        refine rx_goto X dX8_minutes_60 ?_
        refine ih (i + 1) (K + 1) _ _ (by omega) (nI_1 i) (by omega) ?_ ?_ ?_
        · rw [rx_ua_s]; exact w_V_one (by omega) hw
        · rw [rx_ua_ne (by decide)]
          have := nt_18 τ h18
          omega
        · rw [hτ, show q - i = (q - (i + 1)) + 1 by omega]
          rfl
    exact loop q 0 999 _ σ (by omega) rfl (by omega) hv h18 rfl
  refine rx_aload_n (i := 0) X dX8_minutes_0 rfl rfl ?_
  refine rx_getZ (ci := 8) (i := 4) X (km_0 hO) rfl rfl (by decide) inX8 flX8_144 dX8_minutes_1 ?_
  refine rx_if_ne X dX8_minutes_4 (fun h4 => ?_) (fun h4 => ?_)
  · refine rx_iload_n (i := 1) X dX8_minutes_10 rfl rfl ?_
    refine rx_i2l X dX8_minutes_11 ?_
    refine rx_lconst (v := 1) X dX8_minutes_12 (by decide) ?_
    refine rx_ldc2 X dX8_minutes_13 kcX8_174 ?_
    refine rx_callTi X vsX8_in mlX8_63 (kX8_inI hO (A := 1) (B := 24) rfl rfl) rfl (by decide) (by decide) dX8_minutes_16 rfl (Nat.le_of_ble_eq_true rfl) (fun r16 t16 h16 => ?_)
    obtain ⟨rfl, ⟨rfl, h16⟩ | ⟨rfl, h16⟩⟩ := h16
    · refine rx_if_ne_t X dX8_minutes_19 (by decide) ?_
      refine rx_aload_n (i := 0) X dX8_minutes_25 rfl rfl ?_
      refine rx_getR (ci := 8) (i := 5) X (km_0 hO) rfl rfl (by decide) inX8 flX8_19 dX8_minutes_26 ?_
      refine rx_iconst (v := 1) X dX8_minutes_29 (by decide) ?_
      refine rx_ialdN (j := 1) X (km_4 hO) hO.2.2.1 rfl (by decide) (by decide) dX8_minutes_30 ?_
      refine rx_iload_n (i := 1) X dX8_minutes_31 rfl rfl ?_
      refine rx_iadd X dX8_minutes_32 ?_
      refine rx_sipush (v := 999) X dX8_minutes_33 (by decide) ?_
      refine rx_icmp_le X dX8_minutes_36 (fun h36 => ?_) (fun h36 => ?_)
      · try simp only [Int32.lt_iff_toInt_lt, Int32.le_iff_toInt_le, Int32.reduceToInt] at h36
        have hv := hw.V4 h4
        have e := w_add_toInt (x := σ.1 4 1) (y := n) (by have := hv.2.1; omega) (by have := hv.2.1; omega) (by omega) (by omega)
        refine rx_iconst (v := 0) X dX8_minutes_42 (by decide) ?_
        refine rx_istore_n (i := 2) (lo2 := [(0, .ref _), (1, .int _), (2, .int _)]) X dX8_minutes_43 rfl (by decide) rfl ?_
        exact go (rx_N n) (rx_Nlt (by omega) (by omega)) (rx_nN (by omega)) h4 h16 (by omega)
      · try simp only [Int32.lt_iff_toInt_lt, Int32.le_iff_toInt_le, Int32.reduceToInt] at h36
        have hv := hw.V4 h4
        have e := w_add_toInt (x := σ.1 4 1) (y := n) (by have := hv.2.1; omega) (by have := hv.2.1; omega) (by omega) (by omega)
        refine rx_ldc X dX8_minutes_39 kcX8_90 ?_
        refine rx_iret X dX8_minutes_41 ?_
        rw [sp_minutes]
        first | rw [if_pos h4] | rw [if_neg h4, if_pos (by omega)] | rw [if_neg h4, if_neg (by omega), if_pos (by omega)] | fail "leaf"
    · refine rx_if_ne_f X dX8_minutes_19 (by decide) ?_
      refine rx_ldc X dX8_minutes_22 kcX8_73 ?_
      refine rx_iret X dX8_minutes_24 ?_
      rw [sp_minutes]
      first | rw [if_pos h4] | rw [if_neg h4, if_pos (by omega)] | rw [if_neg h4, if_neg (by omega), if_pos (by omega)] | fail "leaf"
  · refine rx_ldc X dX8_minutes_7 kcX8_173 ?_
    refine rx_iret X dX8_minutes_9 ?_
    rw [sp_minutes]
    first | rw [if_pos h4] | rw [if_neg h4, if_pos (by omega)] | rw [if_neg h4, if_neg (by omega), if_pos (by omega)] | fail "leaf"
def sp_ahead (σ : rx_S) (x n : Int32) : Int32 × rx_S := if ¬ mo_ant σ x ∨ ¬ (0 ≤ n.toInt ∧ n.toInt ≤ 99) then (-1000001, σ) else (w_on (σ.1 0 6) (rx_N n) (σ.1 4) (34 + rx_N x), sp_aside σ)
def sp_band (σ : rx_S) (n v : Int32) : Int32 × rx_S := if σ.1 0 4 = 0 then (-1000002, σ) else if ¬ (0 ≤ n.toInt ∧ n.toInt ≤ 99) ∨ ¬ (0 ≤ v.toInt ∧ v.toInt ≤ 1) then (-1000001, σ) else (if v = 0 then w_on (σ.1 0 6) (rx_N n) (σ.1 4) 0 else w_on (σ.1 0 6) (rx_N n) (σ.1 4) 4, sp_aside σ)
def w_arr (sp : Int32) (a : Nat) : Nat → Nat → (Nat → Int32) → Int32
  | 0, n, w => if w_has (w 4) a then nI n else -1000000
  | f + 1, n, w => if w_has (w 4) a then nI n else w_arr sp a f (n + 1) (w_one sp w)
def sp_arrives (σ : rx_S) (x : Int32) : Int32 × rx_S := if ¬ mo_ant σ x then (-1000001, σ) else (w_arr (σ.1 0 6) (rx_N x) 200 0 (σ.1 4), sp_aside σ)
def w_best (w : Nat → Int32) : Nat → Nat
  | 0 => 0
  | n + 1 => if w (34 + w_best w n) < w (34 + (n + 1)) then n + 1 else w_best w n
theorem w_best_le (w : Nat → Int32) : ∀ n, w_best w n ≤ n
  | 0 => Nat.le_refl _
  | n + 1 => by
    have := w_best_le w n
    unfold w_best
    split <;> omega
def sp_leads (σ : rx_S) (n : Int32) : Int32 × rx_S := if σ.1 0 4 = 0 then (-1000002, σ) else if ¬ (0 ≤ n.toInt ∧ n.toInt ≤ 99) then (-1000001, σ) else (nI (w_best (w_on (σ.1 0 6) (rx_N n) (σ.1 4)) (rx_N (σ.1 4 3) - 1)), sp_aside σ)
theorem w_on_3 {sp : Int32} : ∀ {n K : Nat} {w : Nat → Int32}, K + n < 1000000 → w_V K w → w_on sp n w 3 = w 3
  | 0, _, _, _, _ => rfl
  | n + 1, K, w, hK, hv => by
    show w_on sp n (w_one sp w) 3 = w 3
    rw [w_on_3 (n := n) (K := K + 1) (by omega) (w_V_one (by omega) hv)]
    unfold w_one w_min
    rw [upd_n (by decide), upd_n (by decide), w_all_n (by decide) (fun a _ => by omega)]
theorem w_one_3 {sp : Int32} {w : Nat → Int32} : w_one sp w 3 = w 3 := by
  unfold w_one w_min
  rw [upd_n (by decide), upd_n (by decide), w_all_n (by decide) (fun a _ => by omega)]
theorem w_one_2 {sp : Int32} {w : Nat → Int32} : w_one sp w 2 = w 2 := by
  unfold w_one w_min
  rw [upd_n (by decide), upd_n (by decide), w_all_n (by decide) (fun a _ => by omega)]
set_option maxHeartbeats 4000000 in
set_option maxRecDepth 100000 in
theorem kX8_ahead {l : Launch} {O : rx_O} (hO : mo_O O) {σ : rx_S} {x n : Int32} (hw : mo_W σ) : rx_MI l O yX8_ahead cX8_ahead 4 (some .int) 6 [.ref 0, .int x, .int n] σ (fun r τ => sp_ahead σ x n = (r, τ)) := by
  refine rx_Met_of (own := RX8) rfl hO.2.1 vsX8_ahead.2.2.2.2.2 (Nat.le_of_ble_eq_true rfl) rfl (fun p e s m args below meth c X => ?_)
  refine rx_aload_n (i := 0) X dX8_ahead_0 rfl rfl ?_
  refine rx_iload_n (i := 1) X dX8_ahead_1 rfl rfl ?_
  refine rx_callVi (ci := 8) X vsX8_isAnt mlX8_184 (kX8_isAnt hO hw.n3.1) (km_0 hO) rfl rfl (by decide) (by decide) dX8_ahead_2 rfl (Nat.le_of_ble_eq_true rfl) (fun r2 t2 h2 => ?_)
  obtain ⟨rfl, ⟨rfl, h2⟩ | ⟨rfl, h2⟩⟩ := h2
  · obtain ⟨a, ha, rfl⟩ := rx_sub h2.1 (n := 6) (by have := hw.n3; omega)
    have hv := hw.V (by omega)
    refine rx_if_eq_f X dX8_ahead_5 (by decide) ?_
    refine rx_iload_n (i := 2) X dX8_ahead_8 rfl rfl ?_
    refine rx_i2l X dX8_ahead_9 ?_
    refine rx_lconst (v := 0) X dX8_ahead_10 (by decide) ?_
    refine rx_ldc2 X dX8_ahead_11 kcX8_179 ?_
    refine rx_callTi X vsX8_in mlX8_63 (kX8_inI hO (A := 0) (B := 99) rfl rfl) rfl (by decide) (by decide) dX8_ahead_14 rfl (Nat.le_of_ble_eq_true rfl) (fun r14 t14 h14 => ?_)
    obtain ⟨rfl, ⟨rfl, h14⟩ | ⟨rfl, h14⟩⟩ := h14
    · obtain ⟨q, hq, rfl⟩ := rx_sub (x := n) (n := 100) (by omega) (by omega)
      refine rx_if_ne_t X dX8_ahead_17 (by decide) ?_
      refine rx_aload_n (i := 0) X dX8_ahead_23 rfl rfl ?_
      refine rx_callVv (ci := 8) X vsX8_putAside mlX8_190 (kX8_putAside hO) (km_0 hO) rfl rfl (by decide) (by decide) dX8_ahead_24 rfl (Nat.le_of_ble_eq_true rfl) (fun t24 h24 => ?_)
      subst h24
      refine rx_aload_n (i := 0) X dX8_ahead_27 rfl rfl ?_
      refine rx_iload_n (i := 2) X dX8_ahead_28 rfl rfl ?_
      refine rx_callVv (ci := 8) X vsX8_goOn mlX8_193 (kA_on hO (K := 999) (by omega) (by omega) hv) (km_0 hO) rfl rfl (by decide) (by decide) dX8_ahead_29 rfl (Nat.le_of_ble_eq_true rfl) (fun t29 h29 => ?_)
      subst h29
      refine rx_aload_n (i := 0) X dX8_ahead_32 rfl rfl ?_
      refine rx_getR (ci := 8) (i := 5) X (km_0 hO) rfl rfl (by decide) inX8 flX8_19 dX8_ahead_33 ?_
      refine rx_bipush (v := 34) X dX8_ahead_36 (by decide) ?_
      refine rx_iload_n (i := 1) X dX8_ahead_38 rfl rfl ?_
      refine rx_iadd X dX8_ahead_39 ?_
      refine rx_ialdN (j := 34 + a) X (km_4 hO) hO.2.2.1 (nI_add 34 a) (by omega) (by decide) dX8_ahead_40 ?_
      refine rx_top (as_rd _ _ _) ?_
      refine rx_istore_n (i := 3) (lo2 := [(0, .ref _), (1, .int _), (2, .int _), (3, .int _)]) X dX8_ahead_41 rfl (by decide) rfl ?_
      refine rx_aload_n (i := 0) X dX8_ahead_42 rfl rfl ?_
      refine rx_callVv (ci := 8) X vsX8_takeBack mlX8_196 (kA_take hO (fun i hi => w_hi_on hi (K := 999) (by omega) hv)) (km_0 hO) rfl rfl (by decide) (by decide) dX8_ahead_43 rfl (Nat.le_of_ble_eq_true rfl) (fun t43 h43 => ?_)
      subst h43
      refine rx_iload_n (i := 3) X dX8_ahead_46 rfl rfl ?_
      refine rx_iret X dX8_ahead_47 ?_
      rw [sp_ahead]
      first | rw [if_pos (by omega)] | rw [if_neg (by omega), rx_Nn (j := a) (by omega), rx_Nn (j := q) (by omega)] | fail "leaf"
    · refine rx_if_ne_f X dX8_ahead_17 (by decide) ?_
      refine rx_ldc X dX8_ahead_20 kcX8_73 ?_
      refine rx_iret X dX8_ahead_22 ?_
      rw [sp_ahead]
      first | rw [if_pos (by omega)] | rw [if_neg (by omega), rx_Nn (j := a) (by omega), rx_Nn (j := q) (by omega)] | fail "leaf"
  · refine rx_if_eq_t X dX8_ahead_5 (by decide) ?_
    refine rx_ldc X dX8_ahead_20 kcX8_73 ?_
    refine rx_iret X dX8_ahead_22 ?_
    rw [sp_ahead]
    first | rw [if_pos (by omega)] | rw [if_neg (by omega), rx_Nn (j := a) (by omega), rx_Nn (j := q) (by omega)] | fail "leaf"
set_option maxHeartbeats 4000000 in
set_option maxRecDepth 100000 in
theorem kX8_band {l : Launch} {O : rx_O} (hO : mo_O O) {σ : rx_S} {n v : Int32} (hw : mo_W σ) : rx_MI l O yX8_band cX8_band 4 (some .int) 6 [.ref 0, .int n, .int v] σ (fun r τ => sp_band σ n v = (r, τ)) := by
  refine rx_Met_of (own := RX8) rfl hO.2.1 vsX8_band.2.2.2.2.2 (Nat.le_of_ble_eq_true rfl) rfl (fun p e s m args below meth c X => ?_)
  refine rx_aload_n (i := 0) X dX8_band_0 rfl rfl ?_
  refine rx_getZ (ci := 8) (i := 4) X (km_0 hO) rfl rfl (by decide) inX8 flX8_144 dX8_band_1 ?_
  refine rx_if_ne X dX8_band_4 (fun h4 => ?_) (fun h4 => ?_)
  · refine rx_iload_n (i := 1) X dX8_band_10 rfl rfl ?_
    refine rx_i2l X dX8_band_11 ?_
    refine rx_lconst (v := 0) X dX8_band_12 (by decide) ?_
    refine rx_ldc2 X dX8_band_13 kcX8_179 ?_
    refine rx_callTi X vsX8_in mlX8_63 (kX8_inI hO (A := 0) (B := 99) rfl rfl) rfl (by decide) (by decide) dX8_band_16 rfl (Nat.le_of_ble_eq_true rfl) (fun r16 t16 h16 => ?_)
    obtain ⟨rfl, ⟨rfl, h16⟩ | ⟨rfl, h16⟩⟩ := h16
    · obtain ⟨q, hq, rfl⟩ := rx_sub (x := n) (n := 100) (by omega) (by omega)
      refine rx_if_eq_f X dX8_band_19 (by decide) ?_
      refine rx_iload_n (i := 2) X dX8_band_22 rfl rfl ?_
      refine rx_callTi X vsX8_isWhat mlX8_199 (kX8_isWhat hO) rfl (by decide) (by decide) dX8_band_23 rfl (Nat.le_of_ble_eq_true rfl) (fun r23 t23 h23 => ?_)
      obtain ⟨rfl, ⟨rfl, h23⟩ | ⟨rfl, h23⟩⟩ := h23
      · refine rx_if_ne_t X dX8_band_26 (by decide) ?_
        refine rx_aload_n (i := 0) X dX8_band_32 rfl rfl ?_
        have hv := hw.V4 h4
        refine rx_callVv (ci := 8) X vsX8_putAside mlX8_190 (kX8_putAside hO) (km_0 hO) rfl rfl (by decide) (by decide) dX8_band_33 rfl (Nat.le_of_ble_eq_true rfl) (fun t33 h33 => ?_)
        subst h33
        refine rx_aload_n (i := 0) X dX8_band_36 rfl rfl ?_
        refine rx_iload_n (i := 1) X dX8_band_37 rfl rfl ?_
        refine rx_callVv (ci := 8) X vsX8_goOn mlX8_193 (kA_on hO (K := 999) (by omega) (by omega) hv) (km_0 hO) rfl rfl (by decide) (by decide) dX8_band_38 rfl (Nat.le_of_ble_eq_true rfl) (fun t38 h38 => ?_)
        subst h38
        refine rx_iload_n (i := 2) X dX8_band_41 rfl rfl ?_
        refine rx_if_ne X dX8_band_42 (fun h42 => ?_) (fun h42 => ?_)
        · refine rx_aload_n (i := 0) X dX8_band_54 rfl rfl ?_
          refine rx_getR (ci := 8) (i := 5) X (km_0 hO) rfl rfl (by decide) inX8 flX8_19 dX8_band_55 ?_
          refine rx_iconst (v := 4) X dX8_band_58 (by decide) ?_
          refine rx_ialdN (j := 4) X (km_4 hO) hO.2.2.1 rfl (by decide) (by decide) dX8_band_59 ?_
          refine rx_top (as_rd _ _ _) ?_
          refine rx_istore_n (i := 3) (lo2 := [(0, .ref _), (1, .int _), (2, .int _), (3, .int _)]) X dX8_band_60 rfl (by decide) rfl ?_
          refine rx_aload_n (i := 0) X dX8_band_61 rfl rfl ?_
          refine rx_callVv (ci := 8) X vsX8_takeBack mlX8_196 (kA_take hO (fun i hi => w_hi_on hi (K := 999) (by omega) hv)) (km_0 hO) rfl rfl (by decide) (by decide) dX8_band_62 rfl (Nat.le_of_ble_eq_true rfl) (fun t62 h62 => ?_)
          subst h62
          refine rx_iload_n (i := 3) X dX8_band_65 rfl rfl ?_
          refine rx_iret X dX8_band_66 ?_
          rw [sp_band]
          first | rw [if_pos h4] | rw [if_neg h4, if_pos (by omega)] | rw [if_neg h4, if_neg (by omega), rx_Nn (j := q) (by omega), if_pos h42] | rw [if_neg h4, if_neg (by omega), rx_Nn (j := q) (by omega), if_neg h42] | fail "leaf"
        · refine rx_aload_n (i := 0) X dX8_band_45 rfl rfl ?_
          refine rx_getR (ci := 8) (i := 5) X (km_0 hO) rfl rfl (by decide) inX8 flX8_19 dX8_band_46 ?_
          refine rx_iconst (v := 0) X dX8_band_49 (by decide) ?_
          refine rx_ialdN (j := 0) X (km_4 hO) hO.2.2.1 rfl (by decide) (by decide) dX8_band_50 ?_
          refine rx_top (as_rd _ _ _) ?_
          refine rx_goto X dX8_band_51 ?_
          refine rx_istore_n (i := 3) (lo2 := [(0, .ref _), (1, .int _), (2, .int _), (3, .int _)]) X dX8_band_60 rfl (by decide) rfl ?_
          refine rx_aload_n (i := 0) X dX8_band_61 rfl rfl ?_
          refine rx_callVv (ci := 8) X vsX8_takeBack mlX8_196 (kA_take hO (fun i hi => w_hi_on hi (K := 999) (by omega) hv)) (km_0 hO) rfl rfl (by decide) (by decide) dX8_band_62 rfl (Nat.le_of_ble_eq_true rfl) (fun t62 h62 => ?_)
          subst h62
          refine rx_iload_n (i := 3) X dX8_band_65 rfl rfl ?_
          refine rx_iret X dX8_band_66 ?_
          rw [sp_band]
          first | rw [if_pos h4] | rw [if_neg h4, if_pos (by omega)] | rw [if_neg h4, if_neg (by omega), rx_Nn (j := q) (by omega), if_pos h42] | rw [if_neg h4, if_neg (by omega), rx_Nn (j := q) (by omega), if_neg h42] | fail "leaf"
      · refine rx_if_ne_f X dX8_band_26 (by decide) ?_
        refine rx_ldc X dX8_band_29 kcX8_73 ?_
        refine rx_iret X dX8_band_31 ?_
        rw [sp_band]
        first | rw [if_pos h4] | rw [if_neg h4, if_pos (by omega)] | rw [if_neg h4, if_neg (by omega), rx_Nn (j := q) (by omega), if_pos h42] | rw [if_neg h4, if_neg (by omega), rx_Nn (j := q) (by omega), if_neg h42] | fail "leaf"
    · refine rx_if_eq_t X dX8_band_19 (by decide) ?_
      refine rx_ldc X dX8_band_29 kcX8_73 ?_
      refine rx_iret X dX8_band_31 ?_
      rw [sp_band]
      first | rw [if_pos h4] | rw [if_neg h4, if_pos (by omega)] | rw [if_neg h4, if_neg (by omega), rx_Nn (j := q) (by omega), if_pos h42] | rw [if_neg h4, if_neg (by omega), rx_Nn (j := q) (by omega), if_neg h42] | fail "leaf"
  · refine rx_ldc X dX8_band_7 kcX8_173 ?_
    refine rx_iret X dX8_band_9 ?_
    rw [sp_band]
    first | rw [if_pos h4] | rw [if_neg h4, if_pos (by omega)] | rw [if_neg h4, if_neg (by omega), rx_Nn (j := q) (by omega), if_pos h42] | rw [if_neg h4, if_neg (by omega), rx_Nn (j := q) (by omega), if_neg h42] | fail "leaf"
set_option maxHeartbeats 4000000 in
set_option maxRecDepth 100000 in
theorem kX8_arrives {l : Launch} {O : rx_O} (hO : mo_O O) {σ : rx_S} {x : Int32} (hw : mo_W σ) : rx_MI l O yX8_arrives cX8_arrives 4 (some .int) 6 [.ref 0, .int x] σ (fun r τ => sp_arrives σ x = (r, τ)) := by
  refine rx_Met_of (own := RX8) rfl hO.2.1 vsX8_arrives.2.2.2.2.2 (Nat.le_of_ble_eq_true rfl) rfl (fun p e s m args below meth c X => ?_)
  have go : ∀ (a : Nat), a < 6 → mo_ant σ (nI a) → x = nI a → rx_J O 4 p l e (rx_lv 6) s m args below meth c (rx_QI O below args s (fun r τ => sp_arrives σ x = (r, τ))) 17 [(0, .ref 0), (1, .int x), (2, .int 0)] [] (as_st σ (σ.1 4)) := by
    intro a ha h2 hxa
    subst hxa
    have hv := hw.V (by omega)
    have loop : ∀ (k : Nat) (i K : Nat) (x : Int32) (u : Nat → Int32), (i + k = 200) → (x = nI i) → (K + k < 1000000) → (w_V K u) → (∀ j, 40 ≤ j → u j = σ.1 4 j) → (w_arr (σ.1 0 6) a 200 0 (σ.1 4) = w_arr (σ.1 0 6) a k i u) → rx_J O 4 p l e (rx_lv 6) s m args below meth c (rx_QI O below args s (fun r τ => sp_arrives σ (nI a) = (r, τ))) 17 [(0, .ref 0), (1, .int (nI a)), (2, .int x)] [] (as_st σ u) := by
      intro k
      induction k with
      | zero =>
        intro i K x u hi hx hK hv hi40 hu
        subst hx
        obtain rfl : i = 200 := by omega
        refine rx_aload_n (i := 0) X dX8_arrives_17 rfl rfl ?_
        refine rx_getR (ci := 8) (i := 5) X (km_0 hO) rfl rfl (by decide) inX8 flX8_19 dX8_arrives_18 ?_
        refine rx_iconst (v := 4) X dX8_arrives_21 (by decide) ?_
        refine rx_ialdN (j := 4) X (km_4 hO) hO.2.2.1 rfl (by decide) (by decide) dX8_arrives_22 ?_
        refine rx_top (as_rd _ _ _) ?_
        refine rx_iload_n (i := 1) X dX8_arrives_23 rfl rfl ?_
        refine rx_callTi X vsX8_has mlX8_159 (kX8_has hO) rfl (by decide) (by decide) dX8_arrives_24 rfl (Nat.le_of_ble_eq_true rfl) (fun r24 t24 h24 => ?_)
        obtain ⟨rfl, ⟨rfl, h24⟩ | ⟨rfl, h24⟩⟩ := h24
        · refine rx_if_ne_t X dX8_arrives_27 (by decide) ?_
          refine rx_aload_n (i := 0) X dX8_arrives_47 rfl rfl ?_
          refine rx_getR (ci := 8) (i := 5) X (km_0 hO) rfl rfl (by decide) inX8 flX8_19 dX8_arrives_48 ?_
          refine rx_iconst (v := 4) X dX8_arrives_51 (by decide) ?_
          refine rx_ialdN (j := 4) X (km_4 hO) hO.2.2.1 rfl (by decide) (by decide) dX8_arrives_52 ?_
          refine rx_top (as_rd _ _ _) ?_
          refine rx_iload_n (i := 1) X dX8_arrives_53 rfl rfl ?_
          refine rx_callTi X vsX8_has mlX8_159 (kX8_has hO) rfl (by decide) (by decide) dX8_arrives_54 rfl (Nat.le_of_ble_eq_true rfl) (fun r54 t54 h54 => ?_)
          obtain ⟨rfl, ⟨rfl, h54⟩ | ⟨rfl, h54⟩⟩ := h54
          · refine rx_istore_n (i := 3) (lo2 := [(0, .ref _), (1, .int _), (2, .int _), (3, .int _)]) X dX8_arrives_57 rfl (by decide) rfl ?_
            refine rx_aload_n (i := 0) X dX8_arrives_58 rfl rfl ?_
            refine rx_callVv (ci := 8) X vsX8_takeBack mlX8_196 (kA_take hO hi40) (km_0 hO) rfl rfl (by decide) (by decide) dX8_arrives_59 rfl (Nat.le_of_ble_eq_true rfl) (fun t59 h59 => ?_)
            subst h59
            refine rx_iload_n (i := 3) X dX8_arrives_62 rfl rfl ?_
            refine rx_if_eq_f X dX8_arrives_63 (by decide) ?_
            refine rx_iload_n (i := 2) X dX8_arrives_66 rfl rfl ?_
            refine rx_goto X dX8_arrives_67 ?_
            refine rx_iret X dX8_arrives_72 ?_
            first
              | exact absurd h24 h54
              | exact absurd h54 h24
              | (rw [sp_arrives, if_neg (by omega), rx_Nn (j := a) (by omega), hu]; first | rw [w_arr, if_pos h24] | rw [w_arr, if_neg h24])
              | fail "leaf"
          · refine rx_istore_n (i := 3) (lo2 := [(0, .ref _), (1, .int _), (2, .int _), (3, .int _)]) X dX8_arrives_57 rfl (by decide) rfl ?_
            refine rx_aload_n (i := 0) X dX8_arrives_58 rfl rfl ?_
            refine rx_callVv (ci := 8) X vsX8_takeBack mlX8_196 (kA_take hO hi40) (km_0 hO) rfl rfl (by decide) (by decide) dX8_arrives_59 rfl (Nat.le_of_ble_eq_true rfl) (fun t59 h59 => ?_)
            subst h59
            refine rx_iload_n (i := 3) X dX8_arrives_62 rfl rfl ?_
            refine rx_if_eq_t X dX8_arrives_63 (by decide) ?_
            refine rx_ldc X dX8_arrives_70 kcX8_189 ?_
            refine rx_iret X dX8_arrives_72 ?_
            first
              | exact absurd h24 h54
              | exact absurd h54 h24
              | (rw [sp_arrives, if_neg (by omega), rx_Nn (j := a) (by omega), hu]; first | rw [w_arr, if_pos h24] | rw [w_arr, if_neg h24])
              | fail "leaf"
        · refine rx_if_ne_f X dX8_arrives_27 (by decide) ?_
          refine rx_iload_n (i := 2) X dX8_arrives_30 rfl rfl ?_
          refine rx_sipush (v := 200) X dX8_arrives_31 (by decide) ?_
          refine rx_icmp_ge_t X dX8_arrives_34 (Int32.le_refl _) ?_
          refine rx_aload_n (i := 0) X dX8_arrives_47 rfl rfl ?_
          refine rx_getR (ci := 8) (i := 5) X (km_0 hO) rfl rfl (by decide) inX8 flX8_19 dX8_arrives_48 ?_
          refine rx_iconst (v := 4) X dX8_arrives_51 (by decide) ?_
          refine rx_ialdN (j := 4) X (km_4 hO) hO.2.2.1 rfl (by decide) (by decide) dX8_arrives_52 ?_
          refine rx_top (as_rd _ _ _) ?_
          refine rx_iload_n (i := 1) X dX8_arrives_53 rfl rfl ?_
          refine rx_callTi X vsX8_has mlX8_159 (kX8_has hO) rfl (by decide) (by decide) dX8_arrives_54 rfl (Nat.le_of_ble_eq_true rfl) (fun r54 t54 h54 => ?_)
          obtain ⟨rfl, ⟨rfl, h54⟩ | ⟨rfl, h54⟩⟩ := h54
          · refine rx_istore_n (i := 3) (lo2 := [(0, .ref _), (1, .int _), (2, .int _), (3, .int _)]) X dX8_arrives_57 rfl (by decide) rfl ?_
            refine rx_aload_n (i := 0) X dX8_arrives_58 rfl rfl ?_
            refine rx_callVv (ci := 8) X vsX8_takeBack mlX8_196 (kA_take hO hi40) (km_0 hO) rfl rfl (by decide) (by decide) dX8_arrives_59 rfl (Nat.le_of_ble_eq_true rfl) (fun t59 h59 => ?_)
            subst h59
            refine rx_iload_n (i := 3) X dX8_arrives_62 rfl rfl ?_
            refine rx_if_eq_f X dX8_arrives_63 (by decide) ?_
            refine rx_iload_n (i := 2) X dX8_arrives_66 rfl rfl ?_
            refine rx_goto X dX8_arrives_67 ?_
            refine rx_iret X dX8_arrives_72 ?_
            first
              | exact absurd h24 h54
              | exact absurd h54 h24
              | (rw [sp_arrives, if_neg (by omega), rx_Nn (j := a) (by omega), hu]; first | rw [w_arr, if_pos h24] | rw [w_arr, if_neg h24])
              | fail "leaf"
          · refine rx_istore_n (i := 3) (lo2 := [(0, .ref _), (1, .int _), (2, .int _), (3, .int _)]) X dX8_arrives_57 rfl (by decide) rfl ?_
            refine rx_aload_n (i := 0) X dX8_arrives_58 rfl rfl ?_
            refine rx_callVv (ci := 8) X vsX8_takeBack mlX8_196 (kA_take hO hi40) (km_0 hO) rfl rfl (by decide) (by decide) dX8_arrives_59 rfl (Nat.le_of_ble_eq_true rfl) (fun t59 h59 => ?_)
            subst h59
            refine rx_iload_n (i := 3) X dX8_arrives_62 rfl rfl ?_
            refine rx_if_eq_t X dX8_arrives_63 (by decide) ?_
            refine rx_ldc X dX8_arrives_70 kcX8_189 ?_
            refine rx_iret X dX8_arrives_72 ?_
            first
              | exact absurd h24 h54
              | exact absurd h54 h24
              | (rw [sp_arrives, if_neg (by omega), rx_Nn (j := a) (by omega), hu]; first | rw [w_arr, if_pos h24] | rw [w_arr, if_neg h24])
              | fail "leaf"
      | succ k ih =>
        intro i K x u hi hx hK hv hi40 hu
        subst hx
        refine rx_aload_n (i := 0) X dX8_arrives_17 rfl rfl ?_
        refine rx_getR (ci := 8) (i := 5) X (km_0 hO) rfl rfl (by decide) inX8 flX8_19 dX8_arrives_18 ?_
        refine rx_iconst (v := 4) X dX8_arrives_21 (by decide) ?_
        refine rx_ialdN (j := 4) X (km_4 hO) hO.2.2.1 rfl (by decide) (by decide) dX8_arrives_22 ?_
        refine rx_top (as_rd _ _ _) ?_
        refine rx_iload_n (i := 1) X dX8_arrives_23 rfl rfl ?_
        refine rx_callTi X vsX8_has mlX8_159 (kX8_has hO) rfl (by decide) (by decide) dX8_arrives_24 rfl (Nat.le_of_ble_eq_true rfl) (fun r24 t24 h24 => ?_)
        obtain ⟨rfl, ⟨rfl, h24⟩ | ⟨rfl, h24⟩⟩ := h24
        · have hh := h24
          refine rx_if_ne_t X dX8_arrives_27 (by decide) ?_
          refine rx_aload_n (i := 0) X dX8_arrives_47 rfl rfl ?_
          refine rx_getR (ci := 8) (i := 5) X (km_0 hO) rfl rfl (by decide) inX8 flX8_19 dX8_arrives_48 ?_
          refine rx_iconst (v := 4) X dX8_arrives_51 (by decide) ?_
          refine rx_ialdN (j := 4) X (km_4 hO) hO.2.2.1 rfl (by decide) (by decide) dX8_arrives_52 ?_
          refine rx_top (as_rd _ _ _) ?_
          refine rx_iload_n (i := 1) X dX8_arrives_53 rfl rfl ?_
          refine rx_callTi X vsX8_has mlX8_159 (kX8_has hO) rfl (by decide) (by decide) dX8_arrives_54 rfl (Nat.le_of_ble_eq_true rfl) (fun r54 t54 h54 => ?_)
          obtain ⟨rfl, ⟨rfl, h54⟩ | ⟨rfl, h54⟩⟩ := h54
          · refine rx_istore_n (i := 3) (lo2 := [(0, .ref _), (1, .int _), (2, .int _), (3, .int _)]) X dX8_arrives_57 rfl (by decide) rfl ?_
            refine rx_aload_n (i := 0) X dX8_arrives_58 rfl rfl ?_
            refine rx_callVv (ci := 8) X vsX8_takeBack mlX8_196 (kA_take hO hi40) (km_0 hO) rfl rfl (by decide) (by decide) dX8_arrives_59 rfl (Nat.le_of_ble_eq_true rfl) (fun t59 h59 => ?_)
            subst h59
            refine rx_iload_n (i := 3) X dX8_arrives_62 rfl rfl ?_
            refine rx_if_eq_f X dX8_arrives_63 (by decide) ?_
            refine rx_iload_n (i := 2) X dX8_arrives_66 rfl rfl ?_
            refine rx_goto X dX8_arrives_67 ?_
            refine rx_iret X dX8_arrives_72 ?_
            rw [sp_arrives, if_neg (by omega), rx_Nn (j := a) (by omega), hu]
            rw [w_arr, if_pos h24]
          · exact absurd h24 h54
        · refine rx_if_ne_f X dX8_arrives_27 (by decide) ?_
          refine rx_iload_n (i := 2) X dX8_arrives_30 rfl rfl ?_
          refine rx_sipush (v := 200) X dX8_arrives_31 (by decide) ?_
          refine rx_icmp_ge_f X dX8_arrives_34 (nI_ge (b := 200) (by omega) (by decide)) ?_
          refine rx_aload_n (i := 0) X dX8_arrives_37 rfl rfl ?_
          refine rx_callVv (ci := 8) X vsX8_oneMinute mlX8_170 (kA_one hO hv) (km_0 hO) rfl rfl (by decide) (by decide) dX8_arrives_38 rfl (Nat.le_of_ble_eq_true rfl) (fun t38 h38 => ?_)
          subst h38
          refine rx_iinc (i := 2) (lo2 := [(0, .ref _), (1, .int _), (2, .int _)]) X dX8_arrives_41 rfl (rx_inc1 _) (by decide) rfl ?_
          refine rx_goto X dX8_arrives_44 ?_
          refine ih (i + 1) (K + 1) _ _ (by omega) (nI_1 i) (by omega) (w_V_one (by omega) hv) (fun j hj => (w_hi_one hv hj).trans (hi40 j hj)) ?_
          rw [hu]
          conv => lhs; rw [w_arr, if_neg h24]
    exact loop 200 0 999 _ _ rfl rfl (by omega) hv (fun _ _ => rfl) rfl
  refine rx_aload_n (i := 0) X dX8_arrives_0 rfl rfl ?_
  refine rx_iload_n (i := 1) X dX8_arrives_1 rfl rfl ?_
  refine rx_callVi (ci := 8) X vsX8_isAnt mlX8_184 (kX8_isAnt hO hw.n3.1) (km_0 hO) rfl rfl (by decide) (by decide) dX8_arrives_2 rfl (Nat.le_of_ble_eq_true rfl) (fun r2 t2 h2 => ?_)
  obtain ⟨rfl, ⟨rfl, h2⟩ | ⟨rfl, h2⟩⟩ := h2
  · refine rx_if_ne_t X dX8_arrives_5 (by decide) ?_
    refine rx_aload_n (i := 0) X dX8_arrives_11 rfl rfl ?_
    refine rx_callVv (ci := 8) X vsX8_putAside mlX8_190 (kX8_putAside hO) (km_0 hO) rfl rfl (by decide) (by decide) dX8_arrives_12 rfl (Nat.le_of_ble_eq_true rfl) (fun t12 h12 => ?_)
    subst h12
    refine rx_iconst (v := 0) X dX8_arrives_15 (by decide) ?_
    refine rx_istore_n (i := 2) (lo2 := [(0, .ref _), (1, .int _), (2, .int _)]) X dX8_arrives_16 rfl (by decide) rfl ?_
    exact go (rx_N x) (rx_Nlt h2.1 (by have := hw.n3; omega)) (by rw [← rx_nN h2.1]; exact h2) (rx_nN h2.1)
  · refine rx_if_ne_f X dX8_arrives_5 (by decide) ?_
    refine rx_ldc X dX8_arrives_8 kcX8_73 ?_
    refine rx_iret X dX8_arrives_10 ?_
    rw [sp_arrives, if_pos (by omega)]
set_option maxHeartbeats 4000000 in
set_option maxRecDepth 100000 in
theorem kX8_leads {l : Launch} {O : rx_O} (hO : mo_O O) {σ : rx_S} {n : Int32} (hw : mo_W σ) : rx_MI l O yX8_leads cX8_leads 4 (some .int) 6 [.ref 0, .int n] σ (fun r τ => sp_leads σ n = (r, τ)) := by
  refine rx_Met_of (own := RX8) rfl hO.2.1 vsX8_leads.2.2.2.2.2 (Nat.le_of_ble_eq_true rfl) rfl (fun p e s m args below meth c X => ?_)
  have go : ∀ (q : Nat), q < 100 → ¬ σ.1 0 4 = 0 → n = nI q → rx_J O 4 p l e (rx_lv 6) s m args below meth c (rx_QI O below args s (fun r τ => sp_leads σ n = (r, τ))) 38 [(0, .ref 0), (1, .int n), (2, .int 0), (3, .int 1)] [] (as_st σ (w_on (σ.1 0 6) q (σ.1 4))) := by
    intro q hq h4 hnq
    subst hnq
    have hv := hw.V4 h4
    have n3 := rx_Ni (x := σ.1 4 3) (by have := hv.2.2.2.1; omega)
    have i3 := hv.2.2.2.1
    have iq := nI_toInt (n := q) (by omega)
    have loop : ∀ (k : Nat) (i : Nat) (b x : Int32), (i + 1 + k = rx_N (σ.1 4 3)) → (x = nI (i + 1)) → (b = nI (w_best (w_on (σ.1 0 6) q (σ.1 4)) i)) → rx_J O 4 p l e (rx_lv 6) s m args below meth c (rx_QI O below args s (fun r τ => sp_leads σ (nI q) = (r, τ))) 38 [(0, .ref 0), (1, .int (nI q)), (2, .int b), (3, .int x)] [] (as_st σ (w_on (σ.1 0 6) q (σ.1 4))) := by
      intro k
      induction k with
      | zero =>
        intro i b x hi hx hb
        subst hx
        subst hb
        obtain rfl : i = rx_N (σ.1 4 3) - 1 := by omega
        refine rx_iload_n (i := 3) X dX8_leads_38 rfl rfl ?_
        refine rx_aload_n (i := 0) X dX8_leads_39 rfl rfl ?_
        refine rx_getR (ci := 8) (i := 5) X (km_0 hO) rfl rfl (by decide) inX8 flX8_19 dX8_leads_40 ?_
        refine rx_iconst (v := 3) X dX8_leads_43 (by decide) ?_
        refine rx_ialdN (j := 3) X (km_4 hO) hO.2.2.1 rfl (by decide) (by decide) dX8_leads_44 ?_
        refine rx_top ((as_rd _ _ _).trans (w_on_3 (K := 999) (by omega) hv)) ?_
        refine rx_icmp_ge_t X dX8_leads_45 (by rw [show rx_N (σ.1 4 3) - 1 + 1 = rx_N (σ.1 4 3) by omega, ← rx_nN (x := σ.1 4 3) (by omega)]; exact Int32.le_refl _) ?_
        refine rx_aload_n (i := 0) X dX8_leads_81 rfl rfl ?_
        refine rx_callVv (ci := 8) X vsX8_takeBack mlX8_196 (kA_take hO (fun i hi => w_hi_on hi (K := 999) (by omega) hv)) (km_0 hO) rfl rfl (by decide) (by decide) dX8_leads_82 rfl (Nat.le_of_ble_eq_true rfl) (fun t82 h82 => ?_)
        subst h82
        refine rx_iload_n (i := 2) X dX8_leads_85 rfl rfl ?_
        refine rx_iret X dX8_leads_86 ?_
        rw [sp_leads, if_neg h4, if_neg (by omega), rx_Nn (j := q) (by omega)]
      | succ k ih =>
        intro i b x hi hx hb
        subst hx
        subst hb
        have hle := w_best_le (w_on (σ.1 0 6) q (σ.1 4)) i
        refine rx_iload_n (i := 3) X dX8_leads_38 rfl rfl ?_
        refine rx_aload_n (i := 0) X dX8_leads_39 rfl rfl ?_
        refine rx_getR (ci := 8) (i := 5) X (km_0 hO) rfl rfl (by decide) inX8 flX8_19 dX8_leads_40 ?_
        refine rx_iconst (v := 3) X dX8_leads_43 (by decide) ?_
        refine rx_ialdN (j := 3) X (km_4 hO) hO.2.2.1 rfl (by decide) (by decide) dX8_leads_44 ?_
        refine rx_top ((as_rd _ _ _).trans (w_on_3 (K := 999) (by omega) hv)) ?_
        refine rx_icmp_ge_f X dX8_leads_45 (by rw [rx_nN (x := σ.1 4 3) (by omega)]; exact nI_ge (by omega) (by omega)) ?_
        refine rx_aload_n (i := 0) X dX8_leads_48 rfl rfl ?_
        refine rx_getR (ci := 8) (i := 5) X (km_0 hO) rfl rfl (by decide) inX8 flX8_19 dX8_leads_49 ?_
        refine rx_bipush (v := 34) X dX8_leads_52 (by decide) ?_
        refine rx_iload_n (i := 3) X dX8_leads_54 rfl rfl ?_
        refine rx_iadd X dX8_leads_55 ?_
        refine rx_ialdN (j := 34 + (i + 1)) X (km_4 hO) hO.2.2.1 (nI_add 34 (i + 1)) (by omega) (by decide) dX8_leads_56 ?_
        refine rx_top (as_rd _ _ _) ?_
        refine rx_aload_n (i := 0) X dX8_leads_57 rfl rfl ?_
        refine rx_getR (ci := 8) (i := 5) X (km_0 hO) rfl rfl (by decide) inX8 flX8_19 dX8_leads_58 ?_
        refine rx_bipush (v := 34) X dX8_leads_61 (by decide) ?_
        refine rx_iload_n (i := 2) X dX8_leads_63 rfl rfl ?_
        refine rx_iadd X dX8_leads_64 ?_
        refine rx_ialdN (j := 34 + (w_best (w_on (σ.1 0 6) q (σ.1 4)) i)) X (km_4 hO) hO.2.2.1 (nI_add 34 (w_best (w_on (σ.1 0 6) q (σ.1 4)) i)) (by omega) (by decide) dX8_leads_65 ?_
        refine rx_top (as_rd _ _ _) ?_
        refine rx_icmp_le X dX8_leads_66 (fun h66 => ?_) (fun h66 => ?_)
        · refine rx_iload_n (i := 2) X dX8_leads_73 rfl rfl ?_
          refine rx_istore_n (i := 2) (lo2 := [(0, .ref _), (1, .int _), (2, .int _), (3, .int _)]) X dX8_leads_74 rfl (by decide) rfl ?_
          refine rx_iinc (i := 3) (lo2 := [(0, .ref _), (1, .int _), (2, .int _), (3, .int _)]) X dX8_leads_75 rfl (rx_inc1 _) (by decide) rfl ?_
          refine rx_goto X dX8_leads_78 ?_
          refine ih (i + 1) _ _ (by omega) (nI_1 (i + 1)) ?_
          first | (rw [w_best, if_neg (Int32.not_lt.mpr h66)]; done) | (rw [w_best, if_pos (Int32.not_le.mp h66)]; done) | fail "leaf"
        · refine rx_iload_n (i := 3) X dX8_leads_69 rfl rfl ?_
          refine rx_goto X dX8_leads_70 ?_
          refine rx_istore_n (i := 2) (lo2 := [(0, .ref _), (1, .int _), (2, .int _), (3, .int _)]) X dX8_leads_74 rfl (by decide) rfl ?_
          refine rx_iinc (i := 3) (lo2 := [(0, .ref _), (1, .int _), (2, .int _), (3, .int _)]) X dX8_leads_75 rfl (rx_inc1 _) (by decide) rfl ?_
          refine rx_goto X dX8_leads_78 ?_
          refine ih (i + 1) _ _ (by omega) (nI_1 (i + 1)) ?_
          first | (rw [w_best, if_neg (Int32.not_lt.mpr h66)]; done) | (rw [w_best, if_pos (Int32.not_le.mp h66)]; done) | fail "leaf"
    exact loop (rx_N (σ.1 4 3) - 1) 0 _ _ (by omega) rfl rfl
  refine rx_aload_n (i := 0) X dX8_leads_0 rfl rfl ?_
  refine rx_getZ (ci := 8) (i := 4) X (km_0 hO) rfl rfl (by decide) inX8 flX8_144 dX8_leads_1 ?_
  refine rx_if_ne X dX8_leads_4 (fun h4 => ?_) (fun h4 => ?_)
  · refine rx_iload_n (i := 1) X dX8_leads_10 rfl rfl ?_
    refine rx_i2l X dX8_leads_11 ?_
    refine rx_lconst (v := 0) X dX8_leads_12 (by decide) ?_
    refine rx_ldc2 X dX8_leads_13 kcX8_179 ?_
    refine rx_callTi X vsX8_in mlX8_63 (kX8_inI hO (A := 0) (B := 99) rfl rfl) rfl (by decide) (by decide) dX8_leads_16 rfl (Nat.le_of_ble_eq_true rfl) (fun r16 t16 h16 => ?_)
    obtain ⟨rfl, ⟨rfl, h16⟩ | ⟨rfl, h16⟩⟩ := h16
    · obtain ⟨q, hq, rfl⟩ := rx_sub (x := n) (n := 100) (by omega) (by omega)
      refine rx_if_ne_t X dX8_leads_19 (by decide) ?_
      refine rx_aload_n (i := 0) X dX8_leads_25 rfl rfl ?_
      have hv := hw.V4 h4
      refine rx_callVv (ci := 8) X vsX8_putAside mlX8_190 (kX8_putAside hO) (km_0 hO) rfl rfl (by decide) (by decide) dX8_leads_26 rfl (Nat.le_of_ble_eq_true rfl) (fun t26 h26 => ?_)
      subst h26
      refine rx_aload_n (i := 0) X dX8_leads_29 rfl rfl ?_
      refine rx_iload_n (i := 1) X dX8_leads_30 rfl rfl ?_
      refine rx_callVv (ci := 8) X vsX8_goOn mlX8_193 (kA_on hO (K := 999) (by omega) (by omega) hv) (km_0 hO) rfl rfl (by decide) (by decide) dX8_leads_31 rfl (Nat.le_of_ble_eq_true rfl) (fun t31 h31 => ?_)
      subst h31
      refine rx_iconst (v := 0) X dX8_leads_34 (by decide) ?_
      refine rx_istore_n (i := 2) (lo2 := [(0, .ref _), (1, .int _), (2, .int _)]) X dX8_leads_35 rfl (by decide) rfl ?_
      refine rx_iconst (v := 1) X dX8_leads_36 (by decide) ?_
      refine rx_istore_n (i := 3) (lo2 := [(0, .ref _), (1, .int _), (2, .int _), (3, .int _)]) X dX8_leads_37 rfl (by decide) rfl ?_
      exact go q (by omega) h4 rfl
    · refine rx_if_ne_f X dX8_leads_19 (by decide) ?_
      refine rx_ldc X dX8_leads_22 kcX8_73 ?_
      refine rx_iret X dX8_leads_24 ?_
      rw [sp_leads]
      first | rw [if_pos h4] | rw [if_neg h4, if_pos (by omega)] | fail "leaf"
  · refine rx_ldc X dX8_leads_7 kcX8_173 ?_
    refine rx_iret X dX8_leads_9 ?_
    rw [sp_leads]
    first | rw [if_pos h4] | rw [if_neg h4, if_pos (by omega)] | fail "leaf"
