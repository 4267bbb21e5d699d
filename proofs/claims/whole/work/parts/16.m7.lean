def w_could (w : Nat → Int32) (a : Nat) : Nat → Int32
  | 0 => 0
  | n + 1 => w_could w a n ||| (if w (34 + a) < w (34 + n) then (0 : Int32) else 1 <<< (nI n &&& 31))
def w_ps (v : Nat → Int32) (a : Nat) (c : Int32) : Nat → Int32 → Int32
  | 0, s => s
  | n + 1, s => w_ps v a c n s ||| (if w_has c n ∧ v (34 + a) < v (34 + n) then 1 <<< (nI n &&& 31) else 0)
def w_pass (sp : Int32) (a : Nat) (c : Int32) : Nat → Int32 → (Nat → Int32) → Int32
  | 0, s, _ => s
  | k + 1, s, w => w_pass sp a c k (w_ps (w_one sp w) a c (rx_N (w 3)) s) (w_one sp w)
def sp_passed (σ : rx_S) (x n : Int32) : Int32 × rx_S := if ¬ mo_ant σ x ∨ ¬ mo_n n then (-1000001, σ) else (w_pass (σ.1 0 6) (rx_N x) (w_could (σ.1 4) (rx_N x) (rx_N (σ.1 4 3))) (rx_N n) 0 (σ.1 4), sp_aside σ)
def sp_inches (σ : rx_S) (x : Int32) : Int32 := if ¬ mo_ant σ x then -1000001 else ((σ.1 4 (34 + rx_N x)).toInt64 * (σ.1 4 0).toInt64 / 1000000).toInt32
def sp_kind (σ : rx_S) (x : Int32) : Int32 := if ¬ mo_ant σ x then -1000001 else σ.1 4 (10 + rx_N x)
abbrev mo_isK (k q : Int32) : Prop := q = 0 ∨ k = q ∨ (q = 1 ∧ k < 4) ∨ (q = 4 ∧ k = 5)
def sp_as (σ : rx_S) (x q : Int32) : Int32 × rx_S := if ¬ mo_ant σ x ∨ ¬ (0 ≤ q.toInt ∧ q.toInt ≤ 5) then (-1000001, σ) else if mo_isK (σ.1 4 (10 + rx_N x)) q then (x, rx_u σ 0 3 0) else (-1000013, rx_u σ 0 3 3)
def sp_image (σ : rx_S) (k : Int32) : Int32 × rx_S := if ¬ (0 ≤ k.toInt ∧ k.toInt ≤ 1) then (-1000001, σ) else if σ.1 0 4 = 0 then (-1000002, σ) else (1, rx_u (rx_ua σ 13 (ac_put (rx_N k) 40 (σ.1 4) (σ.1 13))) 12 (rx_N k) 1)
def sp_restore (σ : rx_S) (k : Int32) : Int32 × rx_S := if ¬ (0 ≤ k.toInt ∧ k.toInt ≤ 1) then (-1000001, σ) else if σ.1 12 (rx_N k) = 0 then (-1000002, σ) else (1, rx_u (rx_ua σ 4 (cpn 40 (fun i => σ.1 13 (40 * rx_N k + i)) (σ.1 4))) 0 18 0)
def sp_trace (σ : rx_S) (i : Int32) : Int32 := if 0 ≤ i.toInt ∧ i.toInt < (σ.1 0 25).toInt then σ.1 14 (rx_N i) else -1000000
def mo_rows (σ : rx_S) : Nat → Int32
  | 0 => 0
  | n + 1 => mo_rows σ n + (if σ.1 2 n < 0 then 0 else 1)
def sp_count (σ : rx_S) (v : Int32) : Int32 := if v = 0 then mo_rows σ 8 else if v = 1 then σ.1 4 2 else if v = 2 then σ.1 4 3 else if v = 3 then σ.1 4 1 else if v = 4 then σ.1 4 0 else if v = 5 then σ.1 4 4 else if v = 6 then σ.1 0 18 else if v = 7 then σ.1 0 9 else -1000001
theorem sw8 (v : Int32) : v = 0 ∨ v = 1 ∨ v = 2 ∨ v = 3 ∨ v = 4 ∨ v = 5 ∨ v = 6 ∨ v = 7 ∨ (v.toInt < 0 ∨ 7 < v.toInt) := by
  by_cases h : 0 ≤ v.toInt ∧ v.toInt ≤ 7
  · have e : v.toInt = 0 ∨ v.toInt = 1 ∨ v.toInt = 2 ∨ v.toInt = 3 ∨ v.toInt = 4 ∨ v.toInt = 5 ∨ v.toInt = 6 ∨ v.toInt = 7 := by omega
    rcases e with e | e | e | e | e | e | e | e
    · exact Or.inl (Int32.toInt_inj.mp e)
    · exact Or.inr (Or.inl (Int32.toInt_inj.mp e))
    · exact Or.inr (Or.inr (Or.inl (Int32.toInt_inj.mp e)))
    · exact Or.inr (Or.inr (Or.inr (Or.inl (Int32.toInt_inj.mp e))))
    · exact Or.inr (Or.inr (Or.inr (Or.inr (Or.inl (Int32.toInt_inj.mp e)))))
    · exact Or.inr (Or.inr (Or.inr (Or.inr (Or.inr (Or.inl (Int32.toInt_inj.mp e))))))
    · exact Or.inr (Or.inr (Or.inr (Or.inr (Or.inr (Or.inr (Or.inl (Int32.toInt_inj.mp e)))))))
    · exact Or.inr (Or.inr (Or.inr (Or.inr (Or.inr (Or.inr (Or.inr (Or.inl (Int32.toInt_inj.mp e))))))))
  · exact Or.inr (Or.inr (Or.inr (Or.inr (Or.inr (Or.inr (Or.inr (Or.inr (by omega))))))))
set_option maxHeartbeats 4000000 in
set_option maxRecDepth 100000 in
theorem kX8_fault {l : Launch} {O : rx_O} (hO : mo_O O) {σ : rx_S} : rx_MI l O yX8_fault cX8_fault 1 (some .int) 0 [.ref 0] σ (fun r τ => σ.1 0 10 = r ∧ σ = τ) := by
  refine rx_Met_of (own := RX8) rfl hO.2.1 vsX8_fault.2.2.2.2.2 (Nat.le_of_ble_eq_true rfl) rfl (fun p e s m args below meth c X => ?_)
  refine rx_aload_n (i := 0) X dX8_fault_0 rfl rfl ?_
  refine rx_getI (ci := 8) (i := 10) X (km_0 hO) rfl rfl (by decide) inX8 flX8_140 dX8_fault_1 ?_
  refine rx_iret X dX8_fault_4 ?_
  exact ⟨rfl, rfl⟩
set_option maxHeartbeats 4000000 in
set_option maxRecDepth 100000 in
theorem kX8_status {l : Launch} {O : rx_O} (hO : mo_O O) {σ : rx_S} : rx_MI l O yX8_status cX8_status 1 (some .int) 0 [.ref 0] σ (fun r τ => σ.1 0 3 = r ∧ σ = τ) := by
  refine rx_Met_of (own := RX8) rfl hO.2.1 vsX8_status.2.2.2.2.2 (Nat.le_of_ble_eq_true rfl) rfl (fun p e s m args below meth c X => ?_)
  refine rx_aload_n (i := 0) X dX8_status_0 rfl rfl ?_
  refine rx_getI (ci := 8) (i := 3) X (km_0 hO) rfl rfl (by decide) inX8 flX8_57 dX8_status_1 ?_
  refine rx_iret X dX8_status_4 ?_
  exact ⟨rfl, rfl⟩
set_option maxHeartbeats 4000000 in
set_option maxRecDepth 100000 in
theorem kX8_inches {l : Launch} {O : rx_O} (hO : mo_O O) {σ : rx_S} {x : Int32} (hw : mo_W σ) : rx_MI l O yX8_inches cX8_inches 2 (some .int) 2 [.ref 0, .int x] σ (fun r τ => sp_inches σ x = r ∧ σ = τ) := by
  refine rx_Met_of (own := RX8) rfl hO.2.1 vsX8_inches.2.2.2.2.2 (Nat.le_of_ble_eq_true rfl) rfl (fun p e s m args below meth c X => ?_)
  refine rx_aload_n (i := 0) X dX8_inches_0 rfl rfl ?_
  refine rx_iload_n (i := 1) X dX8_inches_1 rfl rfl ?_
  refine rx_callVi (ci := 8) X vsX8_isAnt mlX8_184 (kX8_isAnt hO hw.n3.1) (km_0 hO) rfl rfl (by decide) (by decide) dX8_inches_2 rfl (Nat.le_of_ble_eq_true rfl) (fun r2 t2 h2 => ?_)
  obtain ⟨rfl, ⟨rfl, h2⟩ | ⟨rfl, h2⟩⟩ := h2
  · obtain ⟨a, ha, rfl⟩ := rx_sub h2.1 (n := 6) (by have := hw.n3; omega)
    refine rx_if_eq_f X dX8_inches_5 (by decide) ?_
    refine rx_aload_n (i := 0) X dX8_inches_8 rfl rfl ?_
    refine rx_getR (ci := 8) (i := 5) X (km_0 hO) rfl rfl (by decide) inX8 flX8_19 dX8_inches_9 ?_
    refine rx_bipush (v := 34) X dX8_inches_12 (by decide) ?_
    refine rx_iload_n (i := 1) X dX8_inches_14 rfl rfl ?_
    refine rx_iadd X dX8_inches_15 ?_
    refine rx_ialdN (j := 34 + a) X (km_4 hO) hO.2.2.1 (nI_add 34 a) (by omega) (by decide) dX8_inches_16 ?_
    refine rx_i2l X dX8_inches_17 ?_
    refine rx_aload_n (i := 0) X dX8_inches_18 rfl rfl ?_
    refine rx_getR (ci := 8) (i := 5) X (km_0 hO) rfl rfl (by decide) inX8 flX8_19 dX8_inches_19 ?_
    refine rx_iconst (v := 0) X dX8_inches_22 (by decide) ?_
    refine rx_ialdN (j := 0) X (km_4 hO) hO.2.2.1 rfl (by decide) (by decide) dX8_inches_23 ?_
    refine rx_i2l X dX8_inches_24 ?_
    refine rx_lmul X dX8_inches_25 ?_
    refine rx_ldc2 X dX8_inches_26 kcX8_229 ?_
    refine rx_ldiv X dX8_inches_29 (by decide) ?_
    refine rx_l2i X dX8_inches_30 ?_
    refine rx_goto X dX8_inches_31 ?_
    refine rx_iret X dX8_inches_36 ?_
    refine ⟨?_, rfl⟩
    rw [sp_inches]
    first | rw [if_pos h2] | rw [if_neg (fun q => q h2), rx_Nn (j := a) (by omega)] | fail "leaf"
  · refine rx_if_eq_t X dX8_inches_5 (by decide) ?_
    refine rx_ldc X dX8_inches_34 kcX8_73 ?_
    refine rx_iret X dX8_inches_36 ?_
    refine ⟨?_, rfl⟩
    rw [sp_inches]
    first | rw [if_pos h2] | rw [if_neg (fun q => q h2), rx_Nn (j := a) (by omega)] | fail "leaf"
set_option maxHeartbeats 4000000 in
set_option maxRecDepth 100000 in
theorem kX8_kind {l : Launch} {O : rx_O} (hO : mo_O O) {σ : rx_S} {x : Int32} (hw : mo_W σ) : rx_MI l O yX8_kind cX8_kind 2 (some .int) 2 [.ref 0, .int x] σ (fun r τ => sp_kind σ x = r ∧ σ = τ) := by
  refine rx_Met_of (own := RX8) rfl hO.2.1 vsX8_kind.2.2.2.2.2 (Nat.le_of_ble_eq_true rfl) rfl (fun p e s m args below meth c X => ?_)
  refine rx_aload_n (i := 0) X dX8_kind_0 rfl rfl ?_
  refine rx_iload_n (i := 1) X dX8_kind_1 rfl rfl ?_
  refine rx_callVi (ci := 8) X vsX8_isAnt mlX8_184 (kX8_isAnt hO hw.n3.1) (km_0 hO) rfl rfl (by decide) (by decide) dX8_kind_2 rfl (Nat.le_of_ble_eq_true rfl) (fun r2 t2 h2 => ?_)
  obtain ⟨rfl, ⟨rfl, h2⟩ | ⟨rfl, h2⟩⟩ := h2
  · obtain ⟨a, ha, rfl⟩ := rx_sub h2.1 (n := 6) (by have := hw.n3; omega)
    refine rx_if_eq_f X dX8_kind_5 (by decide) ?_
    refine rx_aload_n (i := 0) X dX8_kind_8 rfl rfl ?_
    refine rx_getR (ci := 8) (i := 5) X (km_0 hO) rfl rfl (by decide) inX8 flX8_19 dX8_kind_9 ?_
    refine rx_bipush (v := 10) X dX8_kind_12 (by decide) ?_
    refine rx_iload_n (i := 1) X dX8_kind_14 rfl rfl ?_
    refine rx_iadd X dX8_kind_15 ?_
    refine rx_ialdN (j := 10 + a) X (km_4 hO) hO.2.2.1 (nI_add 10 a) (by omega) (by decide) dX8_kind_16 ?_
    refine rx_goto X dX8_kind_17 ?_
    refine rx_iret X dX8_kind_22 ?_
    refine ⟨?_, rfl⟩
    rw [sp_kind]
    first | rw [if_pos h2] | rw [if_neg (fun q => q h2), rx_Nn (j := a) (by omega)] | fail "leaf"
  · refine rx_if_eq_t X dX8_kind_5 (by decide) ?_
    refine rx_ldc X dX8_kind_20 kcX8_73 ?_
    refine rx_iret X dX8_kind_22 ?_
    refine ⟨?_, rfl⟩
    rw [sp_kind]
    first | rw [if_pos h2] | rw [if_neg (fun q => q h2), rx_Nn (j := a) (by omega)] | fail "leaf"
set_option maxHeartbeats 4000000 in
set_option maxRecDepth 100000 in
theorem kX8_isKind {l : Launch} {O : rx_O} (hO : mo_O O) {σ : rx_S} {k q : Int32} : rx_MI l O yX8_isKind cX8_isKind 2 (some .boolean) 0 [.int k, .int q] σ (fun r τ => σ = τ ∧ rx_b (mo_isK k q) r) := by
  refine rx_Met_of (own := RX8) rfl hO.2.1 vsX8_isKind.2.2.2.2 (Nat.le_of_ble_eq_true rfl) rfl (fun p e s m args below meth c X => ?_)
  refine rx_iload_n (i := 1) X dX8_isKind_0 rfl rfl ?_
  refine rx_if_eq X dX8_isKind_1 (fun h1 => ?_) (fun h1 => ?_)
  · refine rx_iconst (v := 1) X dX8_isKind_29 (by decide) ?_
    refine rx_goto X dX8_isKind_30 ?_
    refine rx_zret X dX8_isKind_34 rfl ?_
    refine ⟨rfl, ?_⟩
    first | exact Or.inl ⟨rfl, by simp_all [mo_isK]⟩ | exact Or.inr ⟨rfl, by simp_all [mo_isK, not_or]⟩ | fail "leaf"
  · refine rx_iload_n (i := 0) X dX8_isKind_4 rfl rfl ?_
    refine rx_iload_n (i := 1) X dX8_isKind_5 rfl rfl ?_
    refine rx_icmp_eq X dX8_isKind_6 (fun h6 => ?_) (fun h6 => ?_)
    · refine rx_iconst (v := 1) X dX8_isKind_29 (by decide) ?_
      refine rx_goto X dX8_isKind_30 ?_
      refine rx_zret X dX8_isKind_34 rfl ?_
      refine ⟨rfl, ?_⟩
      first | exact Or.inl ⟨rfl, by simp_all [mo_isK]⟩ | exact Or.inr ⟨rfl, by simp_all [mo_isK, not_or]⟩ | fail "leaf"
    · refine rx_iload_n (i := 1) X dX8_isKind_9 rfl rfl ?_
      refine rx_iconst (v := 1) X dX8_isKind_10 (by decide) ?_
      refine rx_icmp_ne X dX8_isKind_11 (fun h11 => ?_) (fun h11 => ?_)
      · refine rx_iload_n (i := 1) X dX8_isKind_19 rfl rfl ?_
        refine rx_iconst (v := 4) X dX8_isKind_20 (by decide) ?_
        refine rx_icmp_ne X dX8_isKind_21 (fun h21 => ?_) (fun h21 => ?_)
        · refine rx_iconst (v := 0) X dX8_isKind_33 (by decide) ?_
          refine rx_zret X dX8_isKind_34 rfl ?_
          refine ⟨rfl, ?_⟩
          first | exact Or.inl ⟨rfl, by simp_all [mo_isK]⟩ | exact Or.inr ⟨rfl, by simp_all [mo_isK, not_or]⟩ | fail "leaf"
        · refine rx_iload_n (i := 0) X dX8_isKind_24 rfl rfl ?_
          refine rx_iconst (v := 5) X dX8_isKind_25 (by decide) ?_
          refine rx_icmp_ne X dX8_isKind_26 (fun h26 => ?_) (fun h26 => ?_)
          · refine rx_iconst (v := 0) X dX8_isKind_33 (by decide) ?_
            refine rx_zret X dX8_isKind_34 rfl ?_
            refine ⟨rfl, ?_⟩
            first | exact Or.inl ⟨rfl, by simp_all [mo_isK]⟩ | exact Or.inr ⟨rfl, by simp_all [mo_isK, not_or]⟩ | fail "leaf"
          · refine rx_iconst (v := 1) X dX8_isKind_29 (by decide) ?_
            refine rx_goto X dX8_isKind_30 ?_
            refine rx_zret X dX8_isKind_34 rfl ?_
            refine ⟨rfl, ?_⟩
            first | exact Or.inl ⟨rfl, by simp_all [mo_isK]⟩ | exact Or.inr ⟨rfl, by simp_all [mo_isK, not_or]⟩ | fail "leaf"
      · refine rx_iload_n (i := 0) X dX8_isKind_14 rfl rfl ?_
        refine rx_iconst (v := 4) X dX8_isKind_15 (by decide) ?_
        refine rx_icmp_lt X dX8_isKind_16 (fun h16 => ?_) (fun h16 => ?_)
        · refine rx_iconst (v := 1) X dX8_isKind_29 (by decide) ?_
          refine rx_goto X dX8_isKind_30 ?_
          refine rx_zret X dX8_isKind_34 rfl ?_
          refine ⟨rfl, ?_⟩
          first | exact Or.inl ⟨rfl, by simp_all [mo_isK]⟩ | exact Or.inr ⟨rfl, by simp_all [mo_isK, not_or]⟩ | fail "leaf"
        · refine rx_iload_n (i := 1) X dX8_isKind_19 rfl rfl ?_
          refine rx_iconst (v := 4) X dX8_isKind_20 (by decide) ?_
          refine rx_icmp_ne X dX8_isKind_21 (fun h21 => ?_) (fun h21 => ?_)
          · refine rx_iconst (v := 0) X dX8_isKind_33 (by decide) ?_
            refine rx_zret X dX8_isKind_34 rfl ?_
            refine ⟨rfl, ?_⟩
            first | exact Or.inl ⟨rfl, by simp_all [mo_isK]⟩ | exact Or.inr ⟨rfl, by simp_all [mo_isK, not_or]⟩ | fail "leaf"
          · refine rx_iload_n (i := 0) X dX8_isKind_24 rfl rfl ?_
            refine rx_iconst (v := 5) X dX8_isKind_25 (by decide) ?_
            refine rx_icmp_ne X dX8_isKind_26 (fun h26 => ?_) (fun h26 => ?_)
            · refine rx_iconst (v := 0) X dX8_isKind_33 (by decide) ?_
              refine rx_zret X dX8_isKind_34 rfl ?_
              refine ⟨rfl, ?_⟩
              first | exact Or.inl ⟨rfl, by simp_all [mo_isK]⟩ | exact Or.inr ⟨rfl, by simp_all [mo_isK, not_or]⟩ | fail "leaf"
            · refine rx_iconst (v := 1) X dX8_isKind_29 (by decide) ?_
              refine rx_goto X dX8_isKind_30 ?_
              refine rx_zret X dX8_isKind_34 rfl ?_
              refine ⟨rfl, ?_⟩
              first | exact Or.inl ⟨rfl, by simp_all [mo_isK]⟩ | exact Or.inr ⟨rfl, by simp_all [mo_isK, not_or]⟩ | fail "leaf"
set_option maxHeartbeats 4000000 in
set_option maxRecDepth 100000 in
theorem kX8_as {l : Launch} {O : rx_O} (hO : mo_O O) {σ : rx_S} {x q : Int32} (hw : mo_W σ) : rx_MI l O yX8_as cX8_as 3 (some .int) 2 [.ref 0, .int x, .int q] σ (fun r τ => sp_as σ x q = (r, τ)) := by
  refine rx_Met_of (own := RX8) rfl hO.2.1 vsX8_as.2.2.2.2.2 (Nat.le_of_ble_eq_true rfl) rfl (fun p e s m args below meth c X => ?_)
  refine rx_aload_n (i := 0) X dX8_as_0 rfl rfl ?_
  refine rx_iload_n (i := 1) X dX8_as_1 rfl rfl ?_
  refine rx_callVi (ci := 8) X vsX8_isAnt mlX8_184 (kX8_isAnt hO hw.n3.1) (km_0 hO) rfl rfl (by decide) (by decide) dX8_as_2 rfl (Nat.le_of_ble_eq_true rfl) (fun r2 t2 h2 => ?_)
  obtain ⟨rfl, ⟨rfl, h2⟩ | ⟨rfl, h2⟩⟩ := h2
  · obtain ⟨a, ha, rfl⟩ := rx_sub h2.1 (n := 6) (by have := hw.n3; omega)
    refine rx_if_eq_f X dX8_as_5 (by decide) ?_
    refine rx_iload_n (i := 2) X dX8_as_8 rfl rfl ?_
    refine rx_i2l X dX8_as_9 ?_
    refine rx_lconst (v := 0) X dX8_as_10 (by decide) ?_
    refine rx_ldc2 X dX8_as_11 kcX8_248 ?_
    refine rx_callTi X vsX8_in mlX8_63 (kX8_inI hO (A := 0) (B := 5) rfl rfl) rfl (by decide) (by decide) dX8_as_14 rfl (Nat.le_of_ble_eq_true rfl) (fun r14 t14 h14 => ?_)
    obtain ⟨rfl, ⟨rfl, h14⟩ | ⟨rfl, h14⟩⟩ := h14
    · refine rx_if_ne_t X dX8_as_17 (by decide) ?_
      refine rx_aload_n (i := 0) X dX8_as_23 rfl rfl ?_
      refine rx_getR (ci := 8) (i := 5) X (km_0 hO) rfl rfl (by decide) inX8 flX8_19 dX8_as_24 ?_
      refine rx_bipush (v := 10) X dX8_as_27 (by decide) ?_
      refine rx_iload_n (i := 1) X dX8_as_29 rfl rfl ?_
      refine rx_iadd X dX8_as_30 ?_
      refine rx_ialdN (j := 10 + a) X (km_4 hO) hO.2.2.1 (nI_add 10 a) (by omega) (by decide) dX8_as_31 ?_
      refine rx_iload_n (i := 2) X dX8_as_32 rfl rfl ?_
      refine rx_callTi X vsX8_isKind mlX8_250 (kX8_isKind hO) rfl (by decide) (by decide) dX8_as_33 rfl (Nat.le_of_ble_eq_true rfl) (fun r33 t33 h33 => ?_)
      obtain ⟨rfl, ⟨rfl, h33⟩ | ⟨rfl, h33⟩⟩ := h33
      · refine rx_if_eq_f X dX8_as_36 (by decide) ?_
        refine rx_aload_n (i := 0) X dX8_as_39 rfl rfl ?_
        refine rx_iload_n (i := 1) X dX8_as_40 rfl rfl ?_
        refine rx_callVi (ci := 8) X vsX8_well mlX8_78 (kX8_well hO) (km_0 hO) rfl rfl (by decide) (by decide) dX8_as_41 rfl (Nat.le_of_ble_eq_true rfl) (fun r41 t41 h41 => ?_)
        obtain ⟨rfl, rfl⟩ := h41
        refine rx_goto X dX8_as_44 ?_
        refine rx_iret X dX8_as_52 ?_
        rw [sp_as]
        first | rw [if_pos (by omega)] | rw [if_neg (by omega), rx_Nn (j := a) (by omega), if_pos h33] | (rw [if_neg (by omega), rx_Nn (j := a) (by omega), if_neg h33]; rfl) | fail "leaf"
      · refine rx_if_eq_t X dX8_as_36 (by decide) ?_
        refine rx_aload_n (i := 0) X dX8_as_47 rfl rfl ?_
        refine rx_iconst (v := 3) X dX8_as_48 (by decide) ?_
        refine rx_callVi (ci := 8) X vsX8_find mlX8_74 (kX8_find hO) (km_0 hO) rfl rfl (by decide) (by decide) dX8_as_49 rfl (Nat.le_of_ble_eq_true rfl) (fun r49 t49 h49 => ?_)
        obtain ⟨rfl, rfl⟩ := h49
        refine rx_iret X dX8_as_52 ?_
        rw [sp_as]
        first | rw [if_pos (by omega)] | rw [if_neg (by omega), rx_Nn (j := a) (by omega), if_pos h33] | (rw [if_neg (by omega), rx_Nn (j := a) (by omega), if_neg h33]; rfl) | fail "leaf"
    · refine rx_if_ne_f X dX8_as_17 (by decide) ?_
      refine rx_ldc X dX8_as_20 kcX8_73 ?_
      refine rx_iret X dX8_as_22 ?_
      rw [sp_as]
      first | rw [if_pos (by omega)] | rw [if_neg (by omega), rx_Nn (j := a) (by omega), if_pos h33] | (rw [if_neg (by omega), rx_Nn (j := a) (by omega), if_neg h33]; rfl) | fail "leaf"
  · refine rx_if_eq_t X dX8_as_5 (by decide) ?_
    refine rx_ldc X dX8_as_20 kcX8_73 ?_
    refine rx_iret X dX8_as_22 ?_
    rw [sp_as]
    first | rw [if_pos (by omega)] | rw [if_neg (by omega), rx_Nn (j := a) (by omega), if_pos h33] | (rw [if_neg (by omega), rx_Nn (j := a) (by omega), if_neg h33]; rfl) | fail "leaf"
set_option maxHeartbeats 4000000 in
set_option maxRecDepth 100000 in
theorem kX8_trace {l : Launch} {O : rx_O} (hO : mo_O O) {σ : rx_S} {i : Int32} (ht : 0 ≤ (σ.1 0 25).toInt ∧ (σ.1 0 25).toInt ≤ 16) : rx_MI l O yX8_trace cX8_trace 2 (some .int) 1 [.ref 0, .int i] σ (fun r τ => sp_trace σ i = r ∧ σ = τ) := by
  refine rx_Met_of (own := RX8) rfl hO.2.1 vsX8_trace.2.2.2.2.2 (Nat.le_of_ble_eq_true rfl) rfl (fun p e s m args below meth c X => ?_)
  refine rx_iload_n (i := 1) X dX8_trace_0 rfl rfl ?_
  refine rx_i2l X dX8_trace_1 ?_
  refine rx_lconst (v := 0) X dX8_trace_2 (by decide) ?_
  refine rx_aload_n (i := 0) X dX8_trace_3 rfl rfl ?_
  refine rx_getI (ci := 8) (i := 25) X (km_0 hO) rfl rfl (by decide) inX8 flX8_253 dX8_trace_4 ?_
  refine rx_iconst (v := 1) X dX8_trace_7 (by decide) ?_
  refine rx_isub X dX8_trace_8 ?_
  refine rx_i2l X dX8_trace_9 ?_
  refine rx_callTi X vsX8_in mlX8_63 (kX8_inI hO (A := 0) rfl ((Int32.toInt_toInt64 _).trans (rx_sub1 ht.1))) rfl (by decide) (by decide) dX8_trace_10 rfl (Nat.le_of_ble_eq_true rfl) (fun r10 t10 h10 => ?_)
  obtain ⟨rfl, ⟨rfl, h10⟩ | ⟨rfl, h10⟩⟩ := h10
  · refine rx_if_eq_f X dX8_trace_13 (by decide) ?_
    refine rx_aload_n (i := 0) X dX8_trace_16 rfl rfl ?_
    refine rx_getR (ci := 8) (i := 24) X (km_0 hO) rfl rfl (by decide) inX8 flX8_54 dX8_trace_17 ?_
    refine rx_iload_n (i := 1) X dX8_trace_20 rfl rfl ?_
    refine rx_ialdN (j := rx_N i) X (km_14 hO) hO.2.2.1 (rx_nN h10.1) (rx_Nlt h10.1 (by omega)) (by decide) dX8_trace_21 ?_
    refine rx_goto X dX8_trace_22 ?_
    refine rx_iret X dX8_trace_27 ?_
    refine ⟨?_, rfl⟩
    rw [sp_trace]
    first | rw [if_pos (by omega)] | rw [if_neg (by omega)] | fail "leaf"
  · refine rx_if_eq_t X dX8_trace_13 (by decide) ?_
    refine rx_ldc X dX8_trace_25 kcX8_189 ?_
    refine rx_iret X dX8_trace_27 ?_
    refine ⟨?_, rfl⟩
    rw [sp_trace]
    first | rw [if_pos (by omega)] | rw [if_neg (by omega)] | fail "leaf"
set_option maxHeartbeats 4000000 in
set_option maxRecDepth 100000 in
theorem kX8_count {l : Launch} {O : rx_O} (hO : mo_O O) {σ : rx_S} {v : Int32} : rx_MI l O yX8_count cX8_count 4 (some .int) 0 [.ref 0, .int v] σ (fun r τ => sp_count σ v = r ∧ σ = τ) := by
  refine rx_Met_of (own := RX8) rfl hO.2.1 vsX8_count.2.2.2.2.2 (Nat.le_of_ble_eq_true rfl) rfl (fun p e s m args below meth c X => ?_)
  have loop : ∀ (k : Nat) (i : Nat) (cn x : Int32), (i + k = 8) → (x = nI i) → (cn = mo_rows σ i) → rx_J O 4 p l e (rx_lv 0) s m args below meth c (rx_QI O below args s (fun r τ => sp_count σ v = r ∧ σ = τ)) 4 [(0, .ref 0), (1, .int v), (2, .int cn), (3, .int x)] [] σ := by
    intro k
    induction k with
    | zero =>
      intro i cn x hi hx hc
      subst hx
      subst hc
      obtain rfl : i = 8 := by omega
      refine rx_iload_n (i := 3) X dX8_count_4 rfl rfl ?_
      refine rx_bipush (v := 8) X dX8_count_5 (by decide) ?_
      refine rx_icmp_ge_t X dX8_count_7 (by decide) ?_
      refine rx_iload_n (i := 1) X dX8_count_33 rfl rfl ?_
      rcases sw8 v with rfl | rfl | rfl | rfl | rfl | rfl | rfl | rfl | hsw
      · refine rx_tableIn (tgt := 80) X dX8_count_34 (by decide) (by decide) rfl rfl ?_
        refine rx_iload_n (i := 2) X dX8_count_80 rfl rfl ?_
        refine rx_iret X dX8_count_81 ?_
        refine ⟨?_, rfl⟩
        rw [sp_count]
        first
          | (simp; done)
          | (have e : ∀ c : Int32, 0 ≤ c.toInt → c.toInt ≤ 7 → ¬ v = c := fun c q1 q2 q => by rw [q] at hsw; omega
             rw [if_neg (e 0 (by decide) (by decide)), if_neg (e 1 (by decide) (by decide)), if_neg (e 2 (by decide) (by decide)), if_neg (e 3 (by decide) (by decide)), if_neg (e 4 (by decide) (by decide)), if_neg (e 5 (by decide) (by decide)), if_neg (e 6 (by decide) (by decide)), if_neg (e 7 (by decide) (by decide))])
          | fail "leaf"
      · refine rx_tableIn (tgt := 82) X dX8_count_34 (by decide) (by decide) rfl rfl ?_
        refine rx_aload_n (i := 0) X dX8_count_82 rfl rfl ?_
        refine rx_getR (ci := 8) (i := 5) X (km_0 hO) rfl rfl (by decide) inX8 flX8_19 dX8_count_83 ?_
        refine rx_iconst (v := 2) X dX8_count_86 (by decide) ?_
        refine rx_ialdN (j := 2) X (km_4 hO) hO.2.2.1 rfl (by decide) (by decide) dX8_count_87 ?_
        refine rx_iret X dX8_count_88 ?_
        refine ⟨?_, rfl⟩
        rw [sp_count]
        first
          | (simp; done)
          | (have e : ∀ c : Int32, 0 ≤ c.toInt → c.toInt ≤ 7 → ¬ v = c := fun c q1 q2 q => by rw [q] at hsw; omega
             rw [if_neg (e 0 (by decide) (by decide)), if_neg (e 1 (by decide) (by decide)), if_neg (e 2 (by decide) (by decide)), if_neg (e 3 (by decide) (by decide)), if_neg (e 4 (by decide) (by decide)), if_neg (e 5 (by decide) (by decide)), if_neg (e 6 (by decide) (by decide)), if_neg (e 7 (by decide) (by decide))])
          | fail "leaf"
      · refine rx_tableIn (tgt := 89) X dX8_count_34 (by decide) (by decide) rfl rfl ?_
        refine rx_aload_n (i := 0) X dX8_count_89 rfl rfl ?_
        refine rx_getR (ci := 8) (i := 5) X (km_0 hO) rfl rfl (by decide) inX8 flX8_19 dX8_count_90 ?_
        refine rx_iconst (v := 3) X dX8_count_93 (by decide) ?_
        refine rx_ialdN (j := 3) X (km_4 hO) hO.2.2.1 rfl (by decide) (by decide) dX8_count_94 ?_
        refine rx_iret X dX8_count_95 ?_
        refine ⟨?_, rfl⟩
        rw [sp_count]
        first
          | (simp; done)
          | (have e : ∀ c : Int32, 0 ≤ c.toInt → c.toInt ≤ 7 → ¬ v = c := fun c q1 q2 q => by rw [q] at hsw; omega
             rw [if_neg (e 0 (by decide) (by decide)), if_neg (e 1 (by decide) (by decide)), if_neg (e 2 (by decide) (by decide)), if_neg (e 3 (by decide) (by decide)), if_neg (e 4 (by decide) (by decide)), if_neg (e 5 (by decide) (by decide)), if_neg (e 6 (by decide) (by decide)), if_neg (e 7 (by decide) (by decide))])
          | fail "leaf"
      · refine rx_tableIn (tgt := 96) X dX8_count_34 (by decide) (by decide) rfl rfl ?_
        refine rx_aload_n (i := 0) X dX8_count_96 rfl rfl ?_
        refine rx_getR (ci := 8) (i := 5) X (km_0 hO) rfl rfl (by decide) inX8 flX8_19 dX8_count_97 ?_
        refine rx_iconst (v := 1) X dX8_count_100 (by decide) ?_
        refine rx_ialdN (j := 1) X (km_4 hO) hO.2.2.1 rfl (by decide) (by decide) dX8_count_101 ?_
        refine rx_iret X dX8_count_102 ?_
        refine ⟨?_, rfl⟩
        rw [sp_count]
        first
          | (simp; done)
          | (have e : ∀ c : Int32, 0 ≤ c.toInt → c.toInt ≤ 7 → ¬ v = c := fun c q1 q2 q => by rw [q] at hsw; omega
             rw [if_neg (e 0 (by decide) (by decide)), if_neg (e 1 (by decide) (by decide)), if_neg (e 2 (by decide) (by decide)), if_neg (e 3 (by decide) (by decide)), if_neg (e 4 (by decide) (by decide)), if_neg (e 5 (by decide) (by decide)), if_neg (e 6 (by decide) (by decide)), if_neg (e 7 (by decide) (by decide))])
          | fail "leaf"
      · refine rx_tableIn (tgt := 103) X dX8_count_34 (by decide) (by decide) rfl rfl ?_
        refine rx_aload_n (i := 0) X dX8_count_103 rfl rfl ?_
        refine rx_getR (ci := 8) (i := 5) X (km_0 hO) rfl rfl (by decide) inX8 flX8_19 dX8_count_104 ?_
        refine rx_iconst (v := 0) X dX8_count_107 (by decide) ?_
        refine rx_ialdN (j := 0) X (km_4 hO) hO.2.2.1 rfl (by decide) (by decide) dX8_count_108 ?_
        refine rx_iret X dX8_count_109 ?_
        refine ⟨?_, rfl⟩
        rw [sp_count]
        first
          | (simp; done)
          | (have e : ∀ c : Int32, 0 ≤ c.toInt → c.toInt ≤ 7 → ¬ v = c := fun c q1 q2 q => by rw [q] at hsw; omega
             rw [if_neg (e 0 (by decide) (by decide)), if_neg (e 1 (by decide) (by decide)), if_neg (e 2 (by decide) (by decide)), if_neg (e 3 (by decide) (by decide)), if_neg (e 4 (by decide) (by decide)), if_neg (e 5 (by decide) (by decide)), if_neg (e 6 (by decide) (by decide)), if_neg (e 7 (by decide) (by decide))])
          | fail "leaf"
      · refine rx_tableIn (tgt := 110) X dX8_count_34 (by decide) (by decide) rfl rfl ?_
        refine rx_aload_n (i := 0) X dX8_count_110 rfl rfl ?_
        refine rx_getR (ci := 8) (i := 5) X (km_0 hO) rfl rfl (by decide) inX8 flX8_19 dX8_count_111 ?_
        refine rx_iconst (v := 4) X dX8_count_114 (by decide) ?_
        refine rx_ialdN (j := 4) X (km_4 hO) hO.2.2.1 rfl (by decide) (by decide) dX8_count_115 ?_
        refine rx_iret X dX8_count_116 ?_
        refine ⟨?_, rfl⟩
        rw [sp_count]
        first
          | (simp; done)
          | (have e : ∀ c : Int32, 0 ≤ c.toInt → c.toInt ≤ 7 → ¬ v = c := fun c q1 q2 q => by rw [q] at hsw; omega
             rw [if_neg (e 0 (by decide) (by decide)), if_neg (e 1 (by decide) (by decide)), if_neg (e 2 (by decide) (by decide)), if_neg (e 3 (by decide) (by decide)), if_neg (e 4 (by decide) (by decide)), if_neg (e 5 (by decide) (by decide)), if_neg (e 6 (by decide) (by decide)), if_neg (e 7 (by decide) (by decide))])
          | fail "leaf"
      · refine rx_tableIn (tgt := 117) X dX8_count_34 (by decide) (by decide) rfl rfl ?_
        refine rx_aload_n (i := 0) X dX8_count_117 rfl rfl ?_
        refine rx_getI (ci := 8) (i := 18) X (km_0 hO) rfl rfl (by decide) inX8 flX8_148 dX8_count_118 ?_
        refine rx_iret X dX8_count_121 ?_
        refine ⟨?_, rfl⟩
        rw [sp_count]
        first
          | (simp; done)
          | (have e : ∀ c : Int32, 0 ≤ c.toInt → c.toInt ≤ 7 → ¬ v = c := fun c q1 q2 q => by rw [q] at hsw; omega
             rw [if_neg (e 0 (by decide) (by decide)), if_neg (e 1 (by decide) (by decide)), if_neg (e 2 (by decide) (by decide)), if_neg (e 3 (by decide) (by decide)), if_neg (e 4 (by decide) (by decide)), if_neg (e 5 (by decide) (by decide)), if_neg (e 6 (by decide) (by decide)), if_neg (e 7 (by decide) (by decide))])
          | fail "leaf"
      · refine rx_tableIn (tgt := 122) X dX8_count_34 (by decide) (by decide) rfl rfl ?_
        refine rx_aload_n (i := 0) X dX8_count_122 rfl rfl ?_
        refine rx_getI (ci := 8) (i := 9) X (km_0 hO) rfl rfl (by decide) inX8 flX8_87 dX8_count_123 ?_
        refine rx_iret X dX8_count_126 ?_
        refine ⟨?_, rfl⟩
        rw [sp_count]
        first
          | (simp; done)
          | (have e : ∀ c : Int32, 0 ≤ c.toInt → c.toInt ≤ 7 → ¬ v = c := fun c q1 q2 q => by rw [q] at hsw; omega
             rw [if_neg (e 0 (by decide) (by decide)), if_neg (e 1 (by decide) (by decide)), if_neg (e 2 (by decide) (by decide)), if_neg (e 3 (by decide) (by decide)), if_neg (e 4 (by decide) (by decide)), if_neg (e 5 (by decide) (by decide)), if_neg (e 6 (by decide) (by decide)), if_neg (e 7 (by decide) (by decide))])
          | fail "leaf"
      · refine rx_tableOut (tgt := 127) X dX8_count_34 hsw rfl ?_
        refine rx_ldc X dX8_count_127 kcX8_73 ?_
        refine rx_iret X dX8_count_129 ?_
        refine ⟨?_, rfl⟩
        rw [sp_count]
        first
          | (simp; done)
          | (have e : ∀ c : Int32, 0 ≤ c.toInt → c.toInt ≤ 7 → ¬ v = c := fun c q1 q2 q => by rw [q] at hsw; omega
             rw [if_neg (e 0 (by decide) (by decide)), if_neg (e 1 (by decide) (by decide)), if_neg (e 2 (by decide) (by decide)), if_neg (e 3 (by decide) (by decide)), if_neg (e 4 (by decide) (by decide)), if_neg (e 5 (by decide) (by decide)), if_neg (e 6 (by decide) (by decide)), if_neg (e 7 (by decide) (by decide))])
          | fail "leaf"
    | succ k ih =>
      intro i cn x hi hx hc
      subst hx
      subst hc
      refine rx_iload_n (i := 3) X dX8_count_4 rfl rfl ?_
      refine rx_bipush (v := 8) X dX8_count_5 (by decide) ?_
      refine rx_icmp_ge_f X dX8_count_7 (nI_ge (b := 8) (by omega) (by decide)) ?_
      refine rx_iload_n (i := 2) X dX8_count_10 rfl rfl ?_
      refine rx_aload_n (i := 0) X dX8_count_11 rfl rfl ?_
      refine rx_getR (ci := 8) (i := 1) X (km_0 hO) rfl rfl (by decide) inX8 flX8_13 dX8_count_12 ?_
      refine rx_iload_n (i := 3) X dX8_count_15 rfl rfl ?_
      refine rx_ialdN (j := i) X (km_2 hO) hO.2.2.1 rfl (by omega) (by decide) dX8_count_16 ?_
      refine rx_if_lt X dX8_count_17 (fun h17 => ?_) (fun h17 => ?_)
      · refine rx_iconst (v := 0) X dX8_count_24 (by decide) ?_
        refine rx_iadd X dX8_count_25 ?_
        refine rx_istore_n (i := 2) (lo2 := [(0, .ref _), (1, .int _), (2, .int _), (3, .int _)]) X dX8_count_26 rfl (by decide) rfl ?_
        refine rx_iinc (i := 3) (lo2 := [(0, .ref _), (1, .int _), (2, .int _), (3, .int _)]) X dX8_count_27 rfl (rx_inc1 _) (by decide) rfl ?_
        refine rx_goto X dX8_count_30 ?_
        refine ih (i + 1) _ _ (by omega) (nI_1 i) ?_
        first | rw [mo_rows, if_pos h17] | rw [mo_rows, if_neg h17] | fail "leaf"
      · refine rx_iconst (v := 1) X dX8_count_20 (by decide) ?_
        refine rx_goto X dX8_count_21 ?_
        refine rx_iadd X dX8_count_25 ?_
        refine rx_istore_n (i := 2) (lo2 := [(0, .ref _), (1, .int _), (2, .int _), (3, .int _)]) X dX8_count_26 rfl (by decide) rfl ?_
        refine rx_iinc (i := 3) (lo2 := [(0, .ref _), (1, .int _), (2, .int _), (3, .int _)]) X dX8_count_27 rfl (rx_inc1 _) (by decide) rfl ?_
        refine rx_goto X dX8_count_30 ?_
        refine ih (i + 1) _ _ (by omega) (nI_1 i) ?_
        first | rw [mo_rows, if_pos h17] | rw [mo_rows, if_neg h17] | fail "leaf"
  refine rx_iconst (v := 0) X dX8_count_0 (by decide) ?_
  refine rx_istore_n (i := 2) (lo2 := [(0, .ref _), (1, .int _), (2, .int _)]) X dX8_count_1 rfl (by decide) rfl ?_
  refine rx_iconst (v := 0) X dX8_count_2 (by decide) ?_
  refine rx_istore_n (i := 3) (lo2 := [(0, .ref _), (1, .int _), (2, .int _), (3, .int _)]) X dX8_count_3 rfl (by decide) rfl ?_
  exact loop 8 0 _ _ rfl rfl rfl
set_option maxHeartbeats 4000000 in
set_option maxRecDepth 100000 in
theorem kX8_image {l : Launch} {O : rx_O} (hO : mo_O O) {σ : rx_S} {q : Int32} : rx_MI l O yX8_image cX8_image 3 (some .int) 1 [.ref 0, .int q] σ (fun r τ => sp_image σ q = (r, τ)) := by
  refine rx_Met_of (own := RX8) rfl hO.2.1 vsX8_image.2.2.2.2.2 (Nat.le_of_ble_eq_true rfl) rfl (fun p e s m args below meth c X => ?_)
  have go : ∀ (K : Nat), K < 2 → (0 ≤ (nI K).toInt ∧ (nI K).toInt ≤ 1) → ¬ σ.1 0 4 = 0 → rx_J O 3 p l e (rx_lv 1) s m args below meth c (rx_QI O below args s (fun r τ => sp_image σ (nI K) = (r, τ))) 25 [(0, .ref 0), (1, .int (nI K)), (2, .int 0)] [] σ := by
    intro K hK h4 h17
    have loop : ∀ (k : Nat) (i : Nat) (x : Int32) (τ : rx_S), (i + k = 40) → (x = nI i) → (τ = rx_ua σ 13 (ac_put K i (σ.1 4) (σ.1 13))) → rx_J O 3 p l e (rx_lv 1) s m args below meth c (rx_QI O below args s (fun r τ => sp_image σ (nI K) = (r, τ))) 25 [(0, .ref 0), (1, .int (nI K)), (2, .int x)] [] τ := by
      intro k
      induction k with
      | zero =>
        intro i x τ hi hx hτ
        subst hx
        subst hτ
        obtain rfl : i = 40 := by omega
        refine rx_iload_n (i := 2) X dX8_image_25 rfl rfl ?_
        refine rx_bipush (v := 40) X dX8_image_26 (by decide) ?_
        refine rx_icmp_ge_t X dX8_image_28 (by decide) ?_
        refine rx_aload_n (i := 0) X dX8_image_54 rfl rfl ?_
        refine rx_getR (ci := 8) (i := 22) X (km_0 hO) rfl rfl (by decide) inX8 flX8_47 dX8_image_55 ?_
        refine rx_iload_n (i := 1) X dX8_image_58 rfl rfl ?_
        refine rx_iconst (v := 1) X dX8_image_59 (by decide) ?_
        refine rx_zastN (j := K) X (km_12 hO) hO.2.2.2 rfl (by omega) (by decide) rfl dX8_image_60 ?_
        refine rx_iconst (v := 1) X dX8_image_61 (by decide) ?_
        refine rx_iret X dX8_image_62 ?_
        rw [sp_image, if_neg (by omega), if_neg h17, rx_Nn (j := K) (by omega)]
      | succ k ih =>
        intro i x τ hi hx hτ
        subst hx
        have e13 : τ.1 13 = ac_put K i (σ.1 4) (σ.1 13) := by rw [hτ, rx_ua_s]
        have e4 : τ.1 4 = σ.1 4 := by rw [hτ, rx_ua_ne (by decide)]
        refine rx_iload_n (i := 2) X dX8_image_25 rfl rfl ?_
        refine rx_bipush (v := 40) X dX8_image_26 (by decide) ?_
        refine rx_icmp_ge_f X dX8_image_28 (nI_ge (b := 40) (by omega) (by decide)) ?_
        refine rx_aload_n (i := 0) X dX8_image_31 rfl rfl ?_
        refine rx_getR (ci := 8) (i := 23) X (km_0 hO) rfl rfl (by decide) inX8 flX8_51 dX8_image_32 ?_
        refine rx_bipush (v := 40) X dX8_image_35 (by decide) ?_
        refine rx_iload_n (i := 1) X dX8_image_37 rfl rfl ?_
        refine rx_imul X dX8_image_38 ?_
        refine rx_iload_n (i := 2) X dX8_image_39 rfl rfl ?_
        refine rx_iadd X dX8_image_40 ?_
        refine rx_aload_n (i := 0) X dX8_image_41 rfl rfl ?_
        refine rx_getR (ci := 8) (i := 5) X (km_0 hO) rfl rfl (by decide) inX8 flX8_19 dX8_image_42 ?_
        refine rx_iload_n (i := 2) X dX8_image_45 rfl rfl ?_
        refine rx_ialdN (j := i) X (km_4 hO) hO.2.2.1 rfl (by omega) (by decide) dX8_image_46 ?_
        refine rx_iastN (j := 40 * K + i) X (km_13 hO) hO.2.2.1 (by rw [show (40 : Int32) = nI 40 from rfl, pk_mul, nI_add]) (by omega) (by decide) dX8_image_47 ?_
        refine rx_iinc (i := 2) (lo2 := [(0, .ref _), (1, .int _), (2, .int _)]) X dX8_image_48 rfl (rx_inc1 _) (by decide) rfl ?_
        refine rx_goto X dX8_image_51 ?_
        refine ih (i + 1) _ _ (by omega) (nI_1 i) ?_
        rw [rx_u_eq, e13, e4, ac_put_s, hτ, rx_ua_ua]
    exact loop 40 0 _ σ rfl rfl (by rw [ac_put_0]; exact (rx_ua_self σ 13).symm)
  refine rx_iload_n (i := 1) X dX8_image_0 rfl rfl ?_
  refine rx_i2l X dX8_image_1 ?_
  refine rx_lconst (v := 0) X dX8_image_2 (by decide) ?_
  refine rx_lconst (v := 1) X dX8_image_3 (by decide) ?_
  refine rx_callTi X vsX8_in mlX8_63 (kX8_inI hO (A := 0) (B := 1) rfl rfl) rfl (by decide) (by decide) dX8_image_4 rfl (Nat.le_of_ble_eq_true rfl) (fun r4 t4 h4 => ?_)
  obtain ⟨rfl, ⟨rfl, h4⟩ | ⟨rfl, h4⟩⟩ := h4
  · obtain ⟨K, hK, rfl⟩ := rx_sub (x := q) (n := 2) (by omega) (by omega)
    refine rx_if_ne_t X dX8_image_7 (by decide) ?_
    refine rx_aload_n (i := 0) X dX8_image_13 rfl rfl ?_
    refine rx_getZ (ci := 8) (i := 4) X (km_0 hO) rfl rfl (by decide) inX8 flX8_144 dX8_image_14 ?_
    refine rx_if_ne X dX8_image_17 (fun h17 => ?_) (fun h17 => ?_)
    · refine rx_iconst (v := 0) X dX8_image_23 (by decide) ?_
      refine rx_istore_n (i := 2) (lo2 := [(0, .ref _), (1, .int _), (2, .int _)]) X dX8_image_24 rfl (by decide) rfl ?_
      exact go K hK h4 h17
    · refine rx_ldc X dX8_image_20 kcX8_173 ?_
      refine rx_iret X dX8_image_22 ?_
      rw [sp_image]
      first | rw [if_pos (by omega)] | rw [if_neg (by omega), if_pos h17] | fail "leaf"
  · refine rx_if_ne_f X dX8_image_7 (by decide) ?_
    refine rx_ldc X dX8_image_10 kcX8_73 ?_
    refine rx_iret X dX8_image_12 ?_
    rw [sp_image]
    first | rw [if_pos (by omega)] | rw [if_neg (by omega), if_pos h17] | fail "leaf"
set_option maxHeartbeats 4000000 in
set_option maxRecDepth 100000 in
theorem kX8_restore {l : Launch} {O : rx_O} (hO : mo_O O) {σ : rx_S} {q : Int32} : rx_MI l O yX8_restore cX8_restore 3 (some .int) 1 [.ref 0, .int q] σ (fun r τ => sp_restore σ q = (r, τ)) := by
  refine rx_Met_of (own := RX8) rfl hO.2.1 vsX8_restore.2.2.2.2.2 (Nat.le_of_ble_eq_true rfl) rfl (fun p e s m args below meth c X => ?_)
  have go : ∀ (K : Nat), K < 2 → (0 ≤ (nI K).toInt ∧ (nI K).toInt ≤ 1) → ¬ σ.1 12 K = 0 → rx_J O 3 p l e (rx_lv 1) s m args below meth c (rx_QI O below args s (fun r τ => sp_restore σ (nI K) = (r, τ))) 27 [(0, .ref 0), (1, .int (nI K)), (2, .int 0)] [] σ := by
    intro K hK h4 h19
    have loop : ∀ (k : Nat) (i : Nat) (x : Int32) (τ : rx_S), (i + k = 40) → (x = nI i) → (τ = rx_ua σ 4 (cpn i (fun i => σ.1 13 (40 * K + i)) (σ.1 4))) → rx_J O 3 p l e (rx_lv 1) s m args below meth c (rx_QI O below args s (fun r τ => sp_restore σ (nI K) = (r, τ))) 27 [(0, .ref 0), (1, .int (nI K)), (2, .int x)] [] τ := by
      intro k
      induction k with
      | zero =>
        intro i x τ hi hx hτ
        subst hx
        subst hτ
        obtain rfl : i = 40 := by omega
        refine rx_iload_n (i := 2) X dX8_restore_27 rfl rfl ?_
        refine rx_bipush (v := 40) X dX8_restore_28 (by decide) ?_
        refine rx_icmp_ge_t X dX8_restore_30 (by decide) ?_
        refine rx_aload_n (i := 0) X dX8_restore_56 rfl rfl ?_
        refine rx_iconst (v := 0) X dX8_restore_57 (by decide) ?_
        refine rx_putI (ci := 8) (i := 18) X (km_0 hO) rfl rfl (by decide) inX8 tyX8 tyX8_ok nmX8 flX8_148 rfl rfl dX8_restore_58 ?_
        refine rx_iconst (v := 1) X dX8_restore_61 (by decide) ?_
        refine rx_iret X dX8_restore_62 ?_
        rw [sp_restore, if_neg (by omega), rx_Nn (j := K) (by omega), if_neg h19]
      | succ k ih =>
        intro i x τ hi hx hτ
        subst hx
        have ea : τ.1 4 = cpn i (fun i => σ.1 13 (40 * K + i)) (σ.1 4) := by rw [hτ, rx_ua_s]
        have eb : τ.1 13 = σ.1 13 := by rw [hτ, rx_ua_ne (by decide)]
        refine rx_iload_n (i := 2) X dX8_restore_27 rfl rfl ?_
        refine rx_bipush (v := 40) X dX8_restore_28 (by decide) ?_
        refine rx_icmp_ge_f X dX8_restore_30 (nI_ge (b := 40) (by omega) (by decide)) ?_
        refine rx_aload_n (i := 0) X dX8_restore_33 rfl rfl ?_
        refine rx_getR (ci := 8) (i := 5) X (km_0 hO) rfl rfl (by decide) inX8 flX8_19 dX8_restore_34 ?_
        refine rx_iload_n (i := 2) X dX8_restore_37 rfl rfl ?_
        refine rx_aload_n (i := 0) X dX8_restore_38 rfl rfl ?_
        refine rx_getR (ci := 8) (i := 23) X (km_0 hO) rfl rfl (by decide) inX8 flX8_51 dX8_restore_39 ?_
        refine rx_bipush (v := 40) X dX8_restore_42 (by decide) ?_
        refine rx_iload_n (i := 1) X dX8_restore_44 rfl rfl ?_
        refine rx_imul X dX8_restore_45 ?_
        refine rx_iload_n (i := 2) X dX8_restore_46 rfl rfl ?_
        refine rx_iadd X dX8_restore_47 ?_
        refine rx_ialdN (j := 40 * K + i) X (km_13 hO) hO.2.2.1 (by rw [show (40 : Int32) = nI 40 from rfl, pk_mul, nI_add]) (by omega) (by decide) dX8_restore_48 ?_
        refine rx_iastN (j := i) X (km_4 hO) hO.2.2.1 rfl (by omega) (by decide) dX8_restore_49 ?_
        refine rx_iinc (i := 2) (lo2 := [(0, .ref _), (1, .int _), (2, .int _)]) X dX8_restore_50 rfl (rx_inc1 _) (by decide) rfl ?_
        refine rx_goto X dX8_restore_53 ?_
        refine ih (i + 1) _ _ (by omega) (nI_1 i) ?_
        rw [rx_u_eq, ea, eb, hτ, rx_ua_ua]
        congr 1
        exact cpn_s i (fun i => σ.1 13 (40 * K + i)) (σ.1 4)
    exact loop 40 0 _ σ rfl rfl (by rw [cpn_0]; exact (rx_ua_self σ 4).symm)
  refine rx_iload_n (i := 1) X dX8_restore_0 rfl rfl ?_
  refine rx_i2l X dX8_restore_1 ?_
  refine rx_lconst (v := 0) X dX8_restore_2 (by decide) ?_
  refine rx_lconst (v := 1) X dX8_restore_3 (by decide) ?_
  refine rx_callTi X vsX8_in mlX8_63 (kX8_inI hO (A := 0) (B := 1) rfl rfl) rfl (by decide) (by decide) dX8_restore_4 rfl (Nat.le_of_ble_eq_true rfl) (fun r4 t4 h4 => ?_)
  obtain ⟨rfl, ⟨rfl, h4⟩ | ⟨rfl, h4⟩⟩ := h4
  · obtain ⟨K, hK, rfl⟩ := rx_sub (x := q) (n := 2) (by omega) (by omega)
    refine rx_if_ne_t X dX8_restore_7 (by decide) ?_
    refine rx_aload_n (i := 0) X dX8_restore_13 rfl rfl ?_
    refine rx_getR (ci := 8) (i := 22) X (km_0 hO) rfl rfl (by decide) inX8 flX8_47 dX8_restore_14 ?_
    refine rx_iload_n (i := 1) X dX8_restore_17 rfl rfl ?_
    refine rx_zaldN (j := K) X (km_12 hO) hO.2.2.2 rfl (by omega) (by decide) dX8_restore_18 ?_
    refine rx_if_ne X dX8_restore_19 (fun h19 => ?_) (fun h19 => ?_)
    · refine rx_iconst (v := 0) X dX8_restore_25 (by decide) ?_
      refine rx_istore_n (i := 2) (lo2 := [(0, .ref _), (1, .int _), (2, .int _)]) X dX8_restore_26 rfl (by decide) rfl ?_
      exact go K hK h4 h19
    · refine rx_ldc X dX8_restore_22 kcX8_173 ?_
      refine rx_iret X dX8_restore_24 ?_
      rw [sp_restore]
      first | rw [if_pos (by omega)] | rw [if_neg (by omega), rx_Nn (j := K) (by omega), if_pos h19] | fail "leaf"
  · refine rx_if_ne_f X dX8_restore_7 (by decide) ?_
    refine rx_ldc X dX8_restore_10 kcX8_73 ?_
    refine rx_iret X dX8_restore_12 ?_
    rw [sp_restore]
    first | rw [if_pos (by omega)] | rw [if_neg (by omega), rx_Nn (j := K) (by omega), if_pos h19] | fail "leaf"
set_option maxHeartbeats 4000000 in
set_option maxRecDepth 100000 in
theorem kX8_passed {l : Launch} {O : rx_O} (hO : mo_O O) {σ : rx_S} {x n : Int32} (hw : mo_W σ) : rx_MI l O yX8_passed cX8_passed 7 (some .int) 6 [.ref 0, .int x, .int n] σ (fun r τ => sp_passed σ x n = (r, τ)) := by
  refine rx_Met_of (own := RX8) rfl hO.2.1 vsX8_passed.2.2.2.2.2 (Nat.le_of_ble_eq_true rfl) rfl (fun p e s m args below meth c X => ?_)
  have go : ∀ (a q : Nat), a < 6 → q < 100 → mo_ant σ (nI a) → mo_n (nI q) → w_V 999 (σ.1 4) → rx_J O 7 p l e (rx_lv 6) s m args below meth c (rx_QI O below args s (fun r τ => sp_passed σ (nI a) (nI q) = (r, τ))) 32 [(0, .ref 0), (1, .int (nI a)), (2, .int (nI q)), (3, .int 0), (4, .int 0)] [] (as_st σ (σ.1 4)) := by
    intro a q ha hq h2 h14 hv
    have n3 := rx_Ni (x := σ.1 4 3) (by have := hv.2.2.2.1; omega)
    have i3 := hv.2.2.2.1
    have loop : ∀ (k : Nat) (i K : Nat) (x s4 : Int32) (u : Nat → Int32), (i + k = q) → (x = nI i) → (K + k < 1000000) → (w_V K u) → (∀ j, 40 ≤ j → u j = σ.1 4 j) → (u 3 = σ.1 4 3) → (w_pass (σ.1 0 6) a (w_could (σ.1 4) a (rx_N (σ.1 4 3))) q 0 (σ.1 4) = w_pass (σ.1 0 6) a (w_could (σ.1 4) a (rx_N (σ.1 4 3))) k s4 u) → rx_J O 7 p l e (rx_lv 6) s m args below meth c (rx_QI O below args s (fun r τ => sp_passed σ (nI a) (nI q) = (r, τ))) 88 [(0, .ref 0), (1, .int (nI a)), (2, .int (nI q)), (3, .int (w_could (σ.1 4) a (rx_N (σ.1 4 3)))), (4, .int s4), (5, .int x)] [] (as_st σ u) := by
      intro k
      induction k with
      | zero =>
        intro i K x s4 u hi9 hx hK hv hi40 h3u hu
        subst hx
        obtain rfl : i = q := by omega
        refine rx_iload (i := 5) X dX8_passed_88 rfl ?_
        refine rx_iload_n (i := 2) X dX8_passed_90 rfl rfl ?_
        refine rx_icmp_ge_t X dX8_passed_91 (Int32.le_refl _) ?_
        refine rx_aload_n (i := 0) X dX8_passed_168 rfl rfl ?_
        refine rx_callVv (ci := 8) X vsX8_takeBack mlX8_196 (kA_take hO hi40) (km_0 hO) rfl rfl (by decide) (by decide) dX8_passed_169 rfl (Nat.le_of_ble_eq_true rfl) (fun t169 h169 => ?_)
        subst h169
        refine rx_iload (i := 4) X dX8_passed_172 rfl ?_
        refine rx_iret X dX8_passed_174 ?_
        rw [sp_passed, if_neg (by omega), rx_Nn (j := a) (by omega), rx_Nn (by omega), hu, w_pass]
      | succ k ih =>
        intro i K x s4 u hi9 hx hK hv hi40 h3u hu
        subst hx
        have inner : ∀ (j : Nat) (j0 : Nat) (sv xp : Int32), (j0 + j = rx_N (σ.1 4 3)) → (xp = nI j0) → (sv = w_ps (w_one (σ.1 0 6) u) a (w_could (σ.1 4) a (rx_N (σ.1 4 3))) j0 s4) → rx_J O 7 p l e (rx_lv 6) s m args below meth c (rx_QI O below args s (fun r τ => sp_passed σ (nI a) (nI q) = (r, τ))) 101 [(0, .ref 0), (1, .int (nI a)), (2, .int (nI q)), (3, .int (w_could (σ.1 4) a (rx_N (σ.1 4 3)))), (4, .int sv), (5, .int (nI i)), (6, .int xp)] [] (as_st σ (w_one (σ.1 0 6) u)) := by
          intro j
          induction j with
          | zero =>
            intro j0 sv xp hj0 hxp hs
            subst hxp
            subst hs
            obtain rfl : j0 = rx_N (σ.1 4 3) := by omega
            refine rx_iload (i := 6) X dX8_passed_101 rfl ?_
            refine rx_aload_n (i := 0) X dX8_passed_103 rfl rfl ?_
            refine rx_getR (ci := 8) (i := 5) X (km_0 hO) rfl rfl (by decide) inX8 flX8_19 dX8_passed_104 ?_
            refine rx_iconst (v := 3) X dX8_passed_107 (by decide) ?_
            refine rx_ialdN (j := 3) X (km_4 hO) hO.2.2.1 rfl (by decide) (by decide) dX8_passed_108 ?_
            refine rx_top ((as_rd _ _ _).trans (w_one_3.trans h3u)) ?_
            refine rx_icmp_ge_t X dX8_passed_109 (by rw [← rx_nN (x := σ.1 4 3) (by omega)]; exact Int32.le_refl _) ?_
            refine rx_iinc (i := 5) (lo2 := [(0, .ref _), (1, .int _), (2, .int _), (3, .int _), (4, .int _), (5, .int _), (6, .int _)]) X dX8_passed_162 rfl (rx_inc1 _) (by decide) rfl ?_
            refine rx_goto X dX8_passed_165 ?_
            refine rx_less [0, 1, 2, 3, 4, 5] rfl ?_
            refine ih (i + 1) (K + 1) _ _ _ (by omega) (nI_1 i) (by omega) (w_V_one (by omega) hv) (fun t ht => (w_hi_one hv ht).trans (hi40 t ht)) (w_one_3.trans h3u) ?_
            rw [hu, w_pass, h3u]
          | succ j ihj =>
            intro j0 sv xp hj0 hxp hs
            subst hxp
            subst hs
            refine rx_iload (i := 6) X dX8_passed_101 rfl ?_
            refine rx_aload_n (i := 0) X dX8_passed_103 rfl rfl ?_
            refine rx_getR (ci := 8) (i := 5) X (km_0 hO) rfl rfl (by decide) inX8 flX8_19 dX8_passed_104 ?_
            refine rx_iconst (v := 3) X dX8_passed_107 (by decide) ?_
            refine rx_ialdN (j := 3) X (km_4 hO) hO.2.2.1 rfl (by decide) (by decide) dX8_passed_108 ?_
            refine rx_top ((as_rd _ _ _).trans (w_one_3.trans h3u)) ?_
            refine rx_icmp_ge_f X dX8_passed_109 (by rw [rx_nN (x := σ.1 4 3) (by omega)]; exact nI_ge (by omega) (by omega)) ?_
            refine rx_iload (i := 4) X dX8_passed_112 rfl ?_
            refine rx_iload_n (i := 3) X dX8_passed_114 rfl rfl ?_
            refine rx_iload (i := 6) X dX8_passed_115 rfl ?_
            refine rx_callTi X vsX8_has mlX8_159 (kX8_has hO) rfl (by decide) (by decide) dX8_passed_117 rfl (Nat.le_of_ble_eq_true rfl) (fun r117 t117 h117 => ?_)
            obtain ⟨rfl, ⟨rfl, h117⟩ | ⟨rfl, h117⟩⟩ := h117
            · refine rx_if_eq_f X dX8_passed_120 (by decide) ?_
              refine rx_aload_n (i := 0) X dX8_passed_123 rfl rfl ?_
              refine rx_getR (ci := 8) (i := 5) X (km_0 hO) rfl rfl (by decide) inX8 flX8_19 dX8_passed_124 ?_
              refine rx_bipush (v := 34) X dX8_passed_127 (by decide) ?_
              refine rx_iload (i := 6) X dX8_passed_129 rfl ?_
              refine rx_iadd X dX8_passed_131 ?_
              refine rx_ialdN (j := 34 + j0) X (km_4 hO) hO.2.2.1 (nI_add 34 j0) (by omega) (by decide) dX8_passed_132 ?_
              refine rx_top (as_rd _ _ _) ?_
              refine rx_aload_n (i := 0) X dX8_passed_133 rfl rfl ?_
              refine rx_getR (ci := 8) (i := 5) X (km_0 hO) rfl rfl (by decide) inX8 flX8_19 dX8_passed_134 ?_
              refine rx_bipush (v := 34) X dX8_passed_137 (by decide) ?_
              refine rx_iload_n (i := 1) X dX8_passed_139 rfl rfl ?_
              refine rx_iadd X dX8_passed_140 ?_
              refine rx_ialdN (j := 34 + a) X (km_4 hO) hO.2.2.1 (nI_add 34 a) (by omega) (by decide) dX8_passed_141 ?_
              refine rx_top (as_rd _ _ _) ?_
              refine rx_icmp_le X dX8_passed_142 (fun h142 => ?_) (fun h142 => ?_)
              · refine rx_iconst (v := 0) X dX8_passed_152 (by decide) ?_
                refine rx_ior X dX8_passed_153 ?_
                refine rx_istore (i := 4) (lo2 := [(0, .ref _), (1, .int _), (2, .int _), (3, .int _), (4, .int _), (5, .int _), (6, .int _)]) X dX8_passed_154 (by decide) rfl ?_
                refine rx_iinc (i := 6) (lo2 := [(0, .ref _), (1, .int _), (2, .int _), (3, .int _), (4, .int _), (5, .int _), (6, .int _)]) X dX8_passed_156 rfl (rx_inc1 _) (by decide) rfl ?_
                refine rx_goto X dX8_passed_159 ?_
                refine ihj (j0 + 1) _ _ (by omega) (nI_1 j0) ?_
                first | rw [w_ps, if_neg (fun z => h117 z.1)] | rw [w_ps, if_neg (fun z => absurd z.2 (Int32.not_lt.mpr h142))] | rw [w_ps, if_pos ⟨h117, Int32.not_le.mp h142⟩] | fail "leaf"
              · refine rx_iconst (v := 1) X dX8_passed_145 (by decide) ?_
                refine rx_iload (i := 6) X dX8_passed_146 rfl ?_
                refine rx_ishl X dX8_passed_148 ?_
                refine rx_goto X dX8_passed_149 ?_
                refine rx_ior X dX8_passed_153 ?_
                refine rx_istore (i := 4) (lo2 := [(0, .ref _), (1, .int _), (2, .int _), (3, .int _), (4, .int _), (5, .int _), (6, .int _)]) X dX8_passed_154 (by decide) rfl ?_
                refine rx_iinc (i := 6) (lo2 := [(0, .ref _), (1, .int _), (2, .int _), (3, .int _), (4, .int _), (5, .int _), (6, .int _)]) X dX8_passed_156 rfl (rx_inc1 _) (by decide) rfl ?_
                refine rx_goto X dX8_passed_159 ?_
                refine ihj (j0 + 1) _ _ (by omega) (nI_1 j0) ?_
                first | rw [w_ps, if_neg (fun z => h117 z.1)] | rw [w_ps, if_neg (fun z => absurd z.2 (Int32.not_lt.mpr h142))] | rw [w_ps, if_pos ⟨h117, Int32.not_le.mp h142⟩] | fail "leaf"
            · refine rx_if_eq_t X dX8_passed_120 (by decide) ?_
              refine rx_iconst (v := 0) X dX8_passed_152 (by decide) ?_
              refine rx_ior X dX8_passed_153 ?_
              refine rx_istore (i := 4) (lo2 := [(0, .ref _), (1, .int _), (2, .int _), (3, .int _), (4, .int _), (5, .int _), (6, .int _)]) X dX8_passed_154 (by decide) rfl ?_
              refine rx_iinc (i := 6) (lo2 := [(0, .ref _), (1, .int _), (2, .int _), (3, .int _), (4, .int _), (5, .int _), (6, .int _)]) X dX8_passed_156 rfl (rx_inc1 _) (by decide) rfl ?_
              refine rx_goto X dX8_passed_159 ?_
              refine ihj (j0 + 1) _ _ (by omega) (nI_1 j0) ?_
              first | rw [w_ps, if_neg (fun z => h117 z.1)] | rw [w_ps, if_neg (fun z => absurd z.2 (Int32.not_lt.mpr h142))] | rw [w_ps, if_pos ⟨h117, Int32.not_le.mp h142⟩] | fail "leaf"
        refine rx_iload (i := 5) X dX8_passed_88 rfl ?_
        refine rx_iload_n (i := 2) X dX8_passed_90 rfl rfl ?_
        refine rx_icmp_ge_f X dX8_passed_91 (nI_ge (b := q) (by omega) (by omega)) ?_
        refine rx_aload_n (i := 0) X dX8_passed_94 rfl rfl ?_
        refine rx_callVv (ci := 8) X vsX8_oneMinute mlX8_170 (kA_one hO hv) (km_0 hO) rfl rfl (by decide) (by decide) dX8_passed_95 rfl (Nat.le_of_ble_eq_true rfl) (fun t95 h95 => ?_)
        subst h95
        refine rx_iconst (v := 0) X dX8_passed_98 (by decide) ?_
        refine rx_istore (i := 6) (lo2 := [(0, .ref _), (1, .int _), (2, .int _), (3, .int _), (4, .int _), (5, .int _), (6, .int _)]) X dX8_passed_99 (by decide) rfl ?_
        exact inner (rx_N (σ.1 4 3)) 0 _ _ (by omega) rfl rfl
    have lp1 : ∀ (k : Nat) (i : Nat) (x s3 : Int32), (i + k = rx_N (σ.1 4 3)) → (x = nI i) → (s3 = w_could (σ.1 4) a i) → rx_J O 7 p l e (rx_lv 6) s m args below meth c (rx_QI O below args s (fun r τ => sp_passed σ (nI a) (nI q) = (r, τ))) 32 [(0, .ref 0), (1, .int (nI a)), (2, .int (nI q)), (3, .int s3), (4, .int x)] [] (as_st σ (σ.1 4)) := by
      intro k
      induction k with
      | zero =>
        intro i x s3 hi9 hx hs
        subst hx
        subst hs
        obtain rfl : i = rx_N (σ.1 4 3) := by omega
        refine rx_iload (i := 4) X dX8_passed_32 rfl ?_
        refine rx_aload_n (i := 0) X dX8_passed_34 rfl rfl ?_
        refine rx_getR (ci := 8) (i := 5) X (km_0 hO) rfl rfl (by decide) inX8 flX8_19 dX8_passed_35 ?_
        refine rx_iconst (v := 3) X dX8_passed_38 (by decide) ?_
        refine rx_ialdN (j := 3) X (km_4 hO) hO.2.2.1 rfl (by decide) (by decide) dX8_passed_39 ?_
        refine rx_top (as_rd _ _ _) ?_
        refine rx_icmp_ge_t X dX8_passed_40 (by rw [← rx_nN (x := σ.1 4 3) (by omega)]; exact Int32.le_refl _) ?_
        refine rx_iconst (v := 0) X dX8_passed_82 (by decide) ?_
        refine rx_istore (i := 4) (lo2 := [(0, .ref _), (1, .int _), (2, .int _), (3, .int _), (4, .int _)]) X dX8_passed_83 (by decide) rfl ?_
        refine rx_iconst (v := 0) X dX8_passed_85 (by decide) ?_
        refine rx_istore (i := 5) (lo2 := [(0, .ref _), (1, .int _), (2, .int _), (3, .int _), (4, .int _), (5, .int _)]) X dX8_passed_86 (by decide) rfl ?_
        exact loop q 0 999 _ _ _ (by omega) rfl (by omega) hv (fun _ _ => rfl) rfl rfl
      | succ k ih =>
        intro i x s3 hi9 hx hs
        subst hx
        subst hs
        refine rx_iload (i := 4) X dX8_passed_32 rfl ?_
        refine rx_aload_n (i := 0) X dX8_passed_34 rfl rfl ?_
        refine rx_getR (ci := 8) (i := 5) X (km_0 hO) rfl rfl (by decide) inX8 flX8_19 dX8_passed_35 ?_
        refine rx_iconst (v := 3) X dX8_passed_38 (by decide) ?_
        refine rx_ialdN (j := 3) X (km_4 hO) hO.2.2.1 rfl (by decide) (by decide) dX8_passed_39 ?_
        refine rx_top (as_rd _ _ _) ?_
        refine rx_icmp_ge_f X dX8_passed_40 (by rw [rx_nN (x := σ.1 4 3) (by omega)]; exact nI_ge (by omega) (by omega)) ?_
        refine rx_iload_n (i := 3) X dX8_passed_43 rfl rfl ?_
        refine rx_aload_n (i := 0) X dX8_passed_44 rfl rfl ?_
        refine rx_getR (ci := 8) (i := 5) X (km_0 hO) rfl rfl (by decide) inX8 flX8_19 dX8_passed_45 ?_
        refine rx_bipush (v := 34) X dX8_passed_48 (by decide) ?_
        refine rx_iload (i := 4) X dX8_passed_50 rfl ?_
        refine rx_iadd X dX8_passed_52 ?_
        refine rx_ialdN (j := 34 + i) X (km_4 hO) hO.2.2.1 (nI_add 34 i) (by omega) (by decide) dX8_passed_53 ?_
        refine rx_top (as_rd _ _ _) ?_
        refine rx_aload_n (i := 0) X dX8_passed_54 rfl rfl ?_
        refine rx_getR (ci := 8) (i := 5) X (km_0 hO) rfl rfl (by decide) inX8 flX8_19 dX8_passed_55 ?_
        refine rx_bipush (v := 34) X dX8_passed_58 (by decide) ?_
        refine rx_iload_n (i := 1) X dX8_passed_60 rfl rfl ?_
        refine rx_iadd X dX8_passed_61 ?_
        refine rx_ialdN (j := 34 + a) X (km_4 hO) hO.2.2.1 (nI_add 34 a) (by omega) (by decide) dX8_passed_62 ?_
        refine rx_top (as_rd _ _ _) ?_
        refine rx_icmp_gt X dX8_passed_63 (fun h63 => ?_) (fun h63 => ?_)
        · refine rx_iconst (v := 0) X dX8_passed_73 (by decide) ?_
          refine rx_ior X dX8_passed_74 ?_
          refine rx_istore_n (i := 3) (lo2 := [(0, .ref _), (1, .int _), (2, .int _), (3, .int _), (4, .int _)]) X dX8_passed_75 rfl (by decide) rfl ?_
          refine rx_iinc (i := 4) (lo2 := [(0, .ref _), (1, .int _), (2, .int _), (3, .int _), (4, .int _)]) X dX8_passed_76 rfl (rx_inc1 _) (by decide) rfl ?_
          refine rx_goto X dX8_passed_79 ?_
          refine ih (i + 1) _ _ (by omega) (nI_1 i) ?_
          first | rw [w_could, if_pos h63] | rw [w_could, if_neg h63] | fail "leaf"
        · refine rx_iconst (v := 1) X dX8_passed_66 (by decide) ?_
          refine rx_iload (i := 4) X dX8_passed_67 rfl ?_
          refine rx_ishl X dX8_passed_69 ?_
          refine rx_goto X dX8_passed_70 ?_
          refine rx_ior X dX8_passed_74 ?_
          refine rx_istore_n (i := 3) (lo2 := [(0, .ref _), (1, .int _), (2, .int _), (3, .int _), (4, .int _)]) X dX8_passed_75 rfl (by decide) rfl ?_
          refine rx_iinc (i := 4) (lo2 := [(0, .ref _), (1, .int _), (2, .int _), (3, .int _), (4, .int _)]) X dX8_passed_76 rfl (rx_inc1 _) (by decide) rfl ?_
          refine rx_goto X dX8_passed_79 ?_
          refine ih (i + 1) _ _ (by omega) (nI_1 i) ?_
          first | rw [w_could, if_pos h63] | rw [w_could, if_neg h63] | fail "leaf"
    exact lp1 (rx_N (σ.1 4 3)) 0 _ _ (by omega) rfl rfl
  refine rx_aload_n (i := 0) X dX8_passed_0 rfl rfl ?_
  refine rx_iload_n (i := 1) X dX8_passed_1 rfl rfl ?_
  refine rx_callVi (ci := 8) X vsX8_isAnt mlX8_184 (kX8_isAnt hO hw.n3.1) (km_0 hO) rfl rfl (by decide) (by decide) dX8_passed_2 rfl (Nat.le_of_ble_eq_true rfl) (fun r2 t2 h2 => ?_)
  obtain ⟨rfl, ⟨rfl, h2⟩ | ⟨rfl, h2⟩⟩ := h2
  · obtain ⟨a, ha, rfl⟩ := rx_sub h2.1 (n := 6) (by have := hw.n3; omega)
    have hv := hw.V (by omega)
    refine rx_if_eq_f X dX8_passed_5 (by decide) ?_
    refine rx_iload_n (i := 2) X dX8_passed_8 rfl rfl ?_
    refine rx_i2l X dX8_passed_9 ?_
    refine rx_lconst (v := 1) X dX8_passed_10 (by decide) ?_
    refine rx_ldc2 X dX8_passed_11 kcX8_179 ?_
    refine rx_callTi X vsX8_in mlX8_63 (kX8_inI hO (A := 1) (B := 99) rfl rfl) rfl (by decide) (by decide) dX8_passed_14 rfl (Nat.le_of_ble_eq_true rfl) (fun r14 t14 h14 => ?_)
    obtain ⟨rfl, ⟨rfl, h14⟩ | ⟨rfl, h14⟩⟩ := h14
    · obtain ⟨q, hq, rfl⟩ := rx_sub (x := n) (n := 100) (by omega) (by omega)
      refine rx_if_ne_t X dX8_passed_17 (by decide) ?_
      refine rx_aload_n (i := 0) X dX8_passed_23 rfl rfl ?_
      refine rx_callVv (ci := 8) X vsX8_putAside mlX8_190 (kX8_putAside hO) (km_0 hO) rfl rfl (by decide) (by decide) dX8_passed_24 rfl (Nat.le_of_ble_eq_true rfl) (fun t24 h24 => ?_)
      subst h24
      refine rx_iconst (v := 0) X dX8_passed_27 (by decide) ?_
      refine rx_istore_n (i := 3) (lo2 := [(0, .ref _), (1, .int _), (2, .int _), (3, .int _)]) X dX8_passed_28 rfl (by decide) rfl ?_
      refine rx_iconst (v := 0) X dX8_passed_29 (by decide) ?_
      refine rx_istore (i := 4) (lo2 := [(0, .ref _), (1, .int _), (2, .int _), (3, .int _), (4, .int _)]) X dX8_passed_30 (by decide) rfl ?_
      exact go a q ha hq h2 h14 hv
    · refine rx_if_ne_f X dX8_passed_17 (by decide) ?_
      refine rx_ldc X dX8_passed_20 kcX8_73 ?_
      refine rx_iret X dX8_passed_22 ?_
      rw [sp_passed, if_pos (by omega)]
  · refine rx_if_eq_t X dX8_passed_5 (by decide) ?_
    refine rx_ldc X dX8_passed_20 kcX8_73 ?_
    refine rx_iret X dX8_passed_22 ?_
    rw [sp_passed, if_pos (by omega)]
