theorem nx_mid_get {x y : va_E} {L T : List va_E} {n : Nat} (h : L.length = n) : (x :: (L ++ y :: T))[n + 1]? = some y := by
  subst h
  simp
theorem nx_mid_set {x y z : va_E} {L T : List va_E} {n : Nat} (h : L.length = n) : (x :: (L ++ y :: T)).set (n + 1) z = x :: (L ++ z :: T) := by
  subst h
  simp
theorem nx_mid_nx {x y : va_E} {L T : List va_E} {n j : Nat} (h : L.length = n) : (x :: (L ++ y :: T))[n + 2 + j]? = T[j]? := by
  subst h
  rw [show L.length + 2 + j = (L.length + 1 + j) + 1 by omega, List.getElem?_cons_succ, List.getElem?_append_right (by omega), show L.length + 1 + j - L.length = j + 1 by omega, List.getElem?_cons_succ]
theorem kN_tape {l : Launch} {O : rx_O} {a : Nat} (hO : cb_O O) (hA : ∀ i, i < 2 → O.2.1 (22 + i) = a + i) : nM l O yX6_init cX6_init 1 1 a (.inr (6, [.null, .int 0, .int 0, .int 0])) (nx_seg O cs0 22 2) 1 120 := by
  refine nx_Met_of (own := RX6) rfl rfl (by decide +kernel) (by decide) ?_
  intro p e s m args below meth c X hin hlocks hr
  refine nx_ald X dX6_init_0 (x := a) (by simp) ?_
  refine nx_obj X noX6 no_i no_c (by decide) dX6_init_1 (Nat.le_of_ble_eq_true rfl) ?_
  refine nx_ald X dX6_init_4 (x := a) (by simp) ?_
  refine nx_bp X dX6_init_5 (v := nI 120) rfl ?_
  refine nx_newi X (t0 := 0) (N := 120) na_int rfl rfl ra_int hO.2.2.1 rfl (by decide) (by decide) (by decide) (by decide) (a := a + 1) (rfl) dX6_init_7 ?_
  refine nx_putF X hin inX6 tyX6 tyX6_ok nmX6 (ci := 6) (k := 0) (i := 0) rfl rfl rfl (by decide) flX6_11 rfl rfl rfl rfl (Nat.le_of_ble_eq_true rfl) dX6_init_9 ?_
  refine nx_es (es2 := nx_seg O cs0 22 2) ?_ ?_
  · refine nx_seg_of rfl (fun i hi => ?_)
    have h2 : i = 0 ∨ i = 1 := by omega
    rcases h2 with rfl | rfl
    · refine ⟨_, kc_22 hO, ?_⟩
      show some (Sum.inr (6, [Value.ref (a + 1), Value.int 0, Value.int 0, Value.int 0])) = some (Sum.inr (6, [Value.ref (O.2.1 (22 + 1)), Value.int 0, Value.int 0, Value.int 0]))
      rw [hA 1 (by decide)]
    · refine ⟨_, kc_23 hO, ?_⟩
      show some (Sum.inl (rx_cA O 0, 120, Sum.inl (fun _ => 0))) = some (Sum.inl (rx_cA O 0, 120, Sum.inl (cs0.1 23)))
      rw [cs0_z (by decide)]
  exact nx_ret X hlocks hr (by decide) (by decide) dX6_init_12
theorem kN_asks {l : Launch} {O : rx_O} {a : Nat} (hO : cb_O O) (hA : ∀ i, i < 2 → O.2.1 (255 + i) = a + i) : nM l O yX2_init cX2_init 1 1 a (.inr (2, [.null, .int 0, .int 0, .int 0, .int 0, .int 0, .int 0])) (nx_seg O cs0 255 2) 1 16 := by
  refine nx_Met_of (own := RX2) rfl rfl (by decide +kernel) (by decide) ?_
  intro p e s m args below meth c X hin hlocks hr
  refine nx_ald X dX2_init_0 (x := a) (by simp) ?_
  refine nx_obj X noX2 no_i no_c (by decide) dX2_init_1 (Nat.le_of_ble_eq_true rfl) ?_
  refine nx_ald X dX2_init_4 (x := a) (by simp) ?_
  refine nx_bp X dX2_init_5 (v := nI 16) rfl ?_
  refine nx_newi X (t0 := 0) (N := 16) na_int rfl rfl ra_int hO.2.2.1 rfl (by decide) (by decide) (by decide) (by decide) (a := a + 1) (rfl) dX2_init_7 ?_
  refine nx_putF X hin inX2 tyX2 tyX2_ok nmX2 (ci := 2) (k := 0) (i := 0) rfl rfl rfl (by decide) flX2_9 rfl rfl rfl rfl (Nat.le_of_ble_eq_true rfl) dX2_init_9 ?_
  refine nx_es (es2 := nx_seg O cs0 255 2) ?_ ?_
  · refine nx_seg_of rfl (fun i hi => ?_)
    have h2 : i = 0 ∨ i = 1 := by omega
    rcases h2 with rfl | rfl
    · refine ⟨_, kc_255 hO, ?_⟩
      show some (Sum.inr (2, [Value.ref (a + 1), Value.int 0, Value.int 0, Value.int 0, Value.int 0, Value.int 0, Value.int 0])) = some (Sum.inr (2, [Value.ref (O.2.1 (255 + 1)), Value.int 0, Value.int 0, Value.int 0, Value.int 0, Value.int 0, Value.int 0]))
      rw [hA 1 (by decide)]
    · refine ⟨_, kc_256 hO, ?_⟩
      show some (Sum.inl (rx_cA O 0, 16, Sum.inl (fun _ => 0))) = some (Sum.inl (rx_cA O 0, 16, Sum.inl (cs0.1 256)))
      rw [cs0_z (by decide)]
  exact nx_ret X hlocks hr (by decide) (by decide) dX2_init_12
theorem kN_fore {l : Launch} {O : rx_O} {a : Nat} (hO : cb_O O) (hA : ∀ i, i < 13 → O.2.1 (242 + i) = a + i) : nM l O yX4_init cX4_init 1 3 a (.inr (4, [.null, .null, .null, .null, .int 0, .long 0, .long 0])) (nx_seg O cs0 242 13) 12 75 := by
  refine nx_Met_of (own := RX4) rfl rfl (by decide +kernel) (by decide) ?_
  intro p e s m args below meth c X hin hlocks hr
  refine nx_ald X dX4_init_0 (x := a) (by simp) ?_
  refine nx_obj X noX4 no_i no_c (by decide) dX4_init_1 (Nat.le_of_ble_eq_true rfl) ?_
  refine nx_ald X dX4_init_4 (x := a) (by simp) ?_
  refine nx_new X inX3 tyX3 tyX3_ok (ci := 3) (fs := [.int 0, .int 0, .int 0, .int 0, .null, .null]) rfl ncX4_9 niX3 nzX3 (cb_six rfl rfl rfl rfl rfl rfl) (by decide) (by decide) (a := a + 1) rfl dX4_init_5 ?_
  refine nx_dup X dX4_init_8 rfl ?_
  refine nx_call X nvX3 mlX4_11 (kN_band (B := 243) (a := a + 1) hO cb_B243 (fun i hi => by rw [show 243 + i = 242 + (1 + i) by omega, hA (1 + i) (by omega)]; omega)) (es0 := [.inr (4, [.null, .null, .null, .null, .int 0, .long 0, .long 0])]) rfl rfl ⟨by decide, by decide⟩ ⟨by decide, by decide⟩ dX4_init_9 (Nat.le_of_ble_eq_true rfl) ?_
  refine nx_putF X hin inX4 tyX4 tyX4_ok nmX4 (ci := 4) (k := 0) (i := 0) rfl rfl rfl (by decide) flX4_12 rfl rfl rfl rfl (Nat.le_of_ble_eq_true rfl) dX4_init_12 ?_
  refine nx_es (es2 := .inr (4, [.ref (a + 1), .null, .null, .null, .int 0, .long 0, .long 0]) :: nx_seg O cs0 243 9) (rfl) ?_
  refine nx_ald X dX4_init_15 (x := a) (by simp) ?_
  refine nx_ic X dX4_init_16 (v := nI 5) rfl ?_
  refine nx_newi X (t0 := 0) (N := 5) na_int rfl rfl ra_int hO.2.2.1 rfl (by decide) (by decide) (by decide) (by decide) (a := a + 10) (by simp [nx_seg_len]) dX4_init_17 ?_
  refine nx_putF X hin inX4 tyX4 tyX4_ok nmX4 (ci := 4) (k := 0) (i := 1) rfl rfl rfl (by decide) flX4_18 rfl rfl rfl rfl (Nat.le_of_ble_eq_true rfl) dX4_init_19 ?_
  refine nx_es (es2 := .inr (4, [.ref (a + 1), .ref (a + 10), .null, .null, .int 0, .long 0, .long 0]) :: (nx_seg O cs0 243 9 ++ [.inl (rx_cA O 0, 5, .inl (fun _ => 0))])) (rfl) ?_
  refine nx_ald X dX4_init_22 (x := a) (by simp) ?_
  refine nx_ic X dX4_init_23 (v := nI 5) rfl ?_
  refine nx_newi X (t0 := 0) (N := 5) na_int rfl rfl ra_int hO.2.2.1 rfl (by decide) (by decide) (by decide) (by decide) (a := a + 11) (by simp [nx_seg_len]) dX4_init_24 ?_
  refine nx_putF X hin inX4 tyX4 tyX4_ok nmX4 (ci := 4) (k := 0) (i := 2) rfl rfl rfl (by decide) flX4_22 rfl rfl rfl rfl (Nat.le_of_ble_eq_true rfl) dX4_init_26 ?_
  refine nx_es (es2 := .inr (4, [.ref (a + 1), .ref (a + 10), .ref (a + 11), .null, .int 0, .long 0, .long 0]) :: ((nx_seg O cs0 243 9 ++ [.inl (rx_cA O 0, 5, .inl (fun _ => 0))]) ++ [.inl (rx_cA O 0, 5, .inl (fun _ => 0))])) (rfl) ?_
  refine nx_ald X dX4_init_29 (x := a) (by simp) ?_
  refine nx_bp X dX4_init_30 (v := nI 12) rfl ?_
  refine nx_newi X (t0 := 0) (N := 12) na_int rfl rfl ra_int hO.2.2.1 rfl (by decide) (by decide) (by decide) (by decide) (a := a + 12) (by simp [nx_seg_len]) dX4_init_32 ?_
  refine nx_putF X hin inX4 tyX4 tyX4_ok nmX4 (ci := 4) (k := 0) (i := 3) rfl rfl rfl (by decide) flX4_25 rfl rfl rfl rfl (Nat.le_of_ble_eq_true rfl) dX4_init_34 ?_
  refine nx_es (es2 := .inr (4, [.ref (a + 1), .ref (a + 10), .ref (a + 11), .ref (a + 12), .int 0, .long 0, .long 0]) :: (((nx_seg O cs0 243 9 ++ [.inl (rx_cA O 0, 5, .inl (fun _ => 0))]) ++ [.inl (rx_cA O 0, 5, .inl (fun _ => 0))]) ++ [.inl (rx_cA O 0, 12, .inl (fun _ => 0))])) (rfl) ?_
  have h1 : [.inr (4, [.ref (a + 1), .ref (a + 10), .ref (a + 11), .ref (a + 12), .int 0, .long 0, .long 0])] = nx_seg O cs0 242 1 := by
    refine nx_seg_of rfl (fun i hi => ?_)
    have h2 : i = 0 := by omega
    subst h2
    refine ⟨_, kc_242 hO, ?_⟩
    show some (Sum.inr (4, [Value.ref (a + 1), Value.ref (a + 10), Value.ref (a + 11), Value.ref (a + 12), Value.int 0, Value.long 0, Value.long 0])) = some (Sum.inr (4, [Value.ref (O.2.1 (242 + 1)), Value.ref (O.2.1 (242 + 10)), Value.ref (O.2.1 (242 + 11)), Value.ref (O.2.1 (242 + 12)), Value.int 0, Value.long 0, Value.long 0]))
    rw [hA 1 (by decide), hA 10 (by decide), hA 11 (by decide), hA 12 (by decide)]
  have h3 : [.inl (rx_cA O 0, 5, .inl (fun _ => 0)), .inl (rx_cA O 0, 5, .inl (fun _ => 0)), .inl (rx_cA O 0, 12, .inl (fun _ => 0))] = nx_seg O cs0 252 3 := by
    refine nx_seg_of rfl (fun i hi => ?_)
    have h2 : i = 0 ∨ i = 1 ∨ i = 2 := by omega
    rcases h2 with rfl | rfl | rfl
    · refine ⟨_, kc_252 hO, ?_⟩
      show some (Sum.inl (rx_cA O 0, 5, Sum.inl (fun _ => 0))) = some (Sum.inl (rx_cA O 0, 5, Sum.inl (cs0.1 252)))
      rw [cs0_z (by decide)]
    · refine ⟨_, kc_253 hO, ?_⟩
      show some (Sum.inl (rx_cA O 0, 5, Sum.inl (fun _ => 0))) = some (Sum.inl (rx_cA O 0, 5, Sum.inl (cs0.1 253)))
      rw [cs0_z (by decide)]
    · refine ⟨_, kc_254 hO, ?_⟩
      show some (Sum.inl (rx_cA O 0, 12, Sum.inl (fun _ => 0))) = some (Sum.inl (rx_cA O 0, 12, Sum.inl (cs0.1 254)))
      rw [cs0_z (by decide)]
  refine nx_es (es2 := nx_seg O cs0 242 13) ?_ ?_
  · rw [show (13 : Nat) = 1 + (9 + 3) from rfl, ← nx_seg_app (a := 242) (m := 1) (k := 243) rfl, ← nx_seg_app (a := 243) (m := 9) (k := 252) rfl, ← h1, ← h3]
    simp only [List.append_assoc]
    rfl
  exact nx_ret X hlocks hr (by decide) (by decide) dX4_init_37
def nb_acts (O : rx_O) (a i : Nat) : va_E := .inl (rx_cA O 2, 24, .inr (.inr (.inr (.inr (fun j => if j < i then some (a + 2 + 9 * j) else none)))))
theorem nb_acts_seg {O : rx_O} {a : Nat} (hO : cb_O O) (hA : ∀ i, i < 218 → O.2.1 (24 + i) = a + i) : [.inr (0, [.ref (a + 1), .int 0, .int 0]), nb_acts O a 24] = nx_seg O cs0 24 2 := by
  refine nx_seg_of rfl (fun i hi => ?_)
  have h2 : i = 0 ∨ i = 1 := by omega
  rcases h2 with rfl | rfl
  · refine ⟨_, kc_24 hO, ?_⟩
    show some (Sum.inr (0, [Value.ref (a + 1), Value.int 0, Value.int 0])) = some (Sum.inr (0, [Value.ref (O.2.1 (24 + 1)), Value.int 0, Value.int 0]))
    rw [hA 1 (by decide)]
  · refine ⟨_, kc_25 hO, ?_⟩
    have hf : (fun j => if j < 24 then some (a + 2 + 9 * j) else none) = fun i => cb_acts[i]?.map O.2.1 := by
      funext j
      by_cases hj : j < 24
      · rw [if_pos hj, cb_acts_el j hj, Option.map_some, show 26 + 9 * j = 24 + (2 + 9 * j) by omega, hA (2 + 9 * j) (by omega)]
        congr 1
        omega
      · rw [if_neg hj, List.getElem?_eq_none (by simp [cb_acts]; omega)]
        rfl
    show some (Sum.inl (rx_cA O 2, 24, Sum.inr (Sum.inr (Sum.inr (Sum.inr (fun j => if j < 24 then some (a + 2 + 9 * j) else none)))))) = some (Sum.inl (rx_cA O 2, 24, Sum.inr (Sum.inr (Sum.inr (Sum.inr (fun i => cb_acts[i]?.map O.2.1))))))
    rw [hf]
theorem kN_acts {l : Launch} {O : rx_O} {a : Nat} (hO : cb_O O) (hA : ∀ i, i < 218 → O.2.1 (24 + i) = a + i) : nM l O yX0_init cX0_init 2 3 a (.inr (0, [.null, .int 0, .int 0])) (nx_seg O cs0 24 218) 217 1296 := by
  refine nx_Met_of (own := RX0) rfl rfl (by decide +kernel) (by decide) ?_
  intro p e s m args below meth c X hin hlocks hr
  have loop : ∀ k i : Nat, i + k = 24 → nJ O 2 p l e (nx_rm 3 217 1296) s m args below meth c (MQ below (nx_Q O a (nx_seg O cs0 24 218)) args s 217 1296 (fun q => a ≤ q)) a 15 [(1, .int (nI i)), (0, .ref a)] [] (.inr (0, [.ref (a + 1), .int 0, .int 0]) :: nb_acts O a i :: nx_seg O cs0 26 (9 * i)) (1 + 9 * i) (24 + 53 * i) := by
    intro k
    induction k with
    | zero =>
      intro i hi
      have hi6 : i = 24 := by omega
      subst hi6
      refine nx_ild X dX0_init_15 (x := nI 24) (by simp) ?_
      refine nx_bp X dX0_init_16 (v := nI 24) rfl ?_
      refine nx_ge X dX0_init_18 (fun _ => ?_) (fun h => absurd (Int32.le_refl _) h)
      refine nx_es (es2 := nx_seg O cs0 24 218) ?_ ?_
      · rw [show (218 : Nat) = 2 + 9 * 24 from rfl, ← nx_seg_app (a := 24) (m := 2) (k := 26) rfl, ← nb_acts_seg hO hA]
        rfl
      exact nx_ret X hlocks hr (by decide) (by decide) dX0_init_40
    | succ k ih =>
      intro i hi
      refine nx_ild X dX0_init_15 (x := nI i) (by simp) ?_
      refine nx_bp X dX0_init_16 (v := nI 24) rfl ?_
      refine nx_ge X dX0_init_18 (fun h => absurd ((nI_leI (by decide) (by omega)).mp h) (by omega)) (fun _ => ?_)
      refine nx_ald X dX0_init_21 (x := a) (by simp) ?_
      refine nx_get X inX0 (ci := 0) (k := 0) (i := 0) rfl rfl rfl (by decide) flX0_11 (v := .ref (a + 1)) rfl dX0_init_22 ?_
      refine nx_ild X dX0_init_25 (x := nI i) (by simp) ?_
      refine nx_new X inX3 tyX3 tyX3_ok (ci := 3) (fs := [.int 0, .int 0, .int 0, .int 0, .null, .null]) rfl ncX0_9 niX3 nzX3 (cb_six rfl rfl rfl rfl rfl rfl) (by show _ ≤ 217; omega) (by show _ ≤ 1296; omega) (a := a + 2 + 9 * i) (by simp [nx_seg_len]; omega) dX0_init_26 ?_
      refine nx_dup X dX0_init_29 rfl ?_
      refine nx_call X nvX3 mlX0_15 (kN_band (B := 26 + 9 * i) (a := a + 2 + 9 * i) hO (cb_Ba0 i (by omega)) (fun j hj => by rw [show 26 + 9 * i + j = 24 + (2 + 9 * i + j) by omega, hA (2 + 9 * i + j) (by omega)]; omega)) rfl (by simp [nx_seg_len]; omega) ⟨by decide, by decide⟩ ⟨by show _ ≤ 217; omega, by show _ ≤ 1296; omega⟩ dX0_init_30 (Nat.le_of_ble_eq_true rfl) ?_
      refine nx_es (es2 := .inr (0, [.ref (a + 1), .int 0, .int 0]) :: nb_acts O a i :: nx_seg O cs0 26 (9 * i + 9)) (by rw [← nx_seg_app (a := 26) (m := 9 * i) (k := 26 + 9 * i) rfl]; rfl) ?_
      refine nx_aast X (k := 1) (t0 := 2) (k2 := 2 + 9 * i) (j := i) (ci := 3) (r := (RX3, TX3, 6)) rfl hO.2.2.2.2.1 (by rw [show 2 + 9 * i = (9 * i) + 1 + 1 by omega, List.getElem?_cons_succ, List.getElem?_cons_succ]; exact nx_seg_at (by omega) (kb_0 hO (cb_Ba0 i (by omega)))) rfl rfl (by omega) rfl (by omega) (by decide) dX0_init_33 ?_
      refine nx_es (es2 := .inr (0, [.ref (a + 1), .int 0, .int 0]) :: nb_acts O a (i + 1) :: nx_seg O cs0 26 (9 * (i + 1))) (by rw [nb_up (a + 2) 9 i]; rfl) ?_
      refine nx_iinc X dX0_init_34 (k := 0) rfl (nI_1 i) (by decide) rfl ?_
      refine nx_goto X dX0_init_37 ?_
      exact nx_wide (by omega) (by omega) (ih (i + 1) (by omega))
  refine nx_ald X dX0_init_0 (x := a) (by simp) ?_
  refine nx_obj X noX0 no_i no_c (by decide) dX0_init_1 (Nat.le_of_ble_eq_true rfl) ?_
  refine nx_ald X dX0_init_4 (x := a) (by simp) ?_
  refine nx_bp X dX0_init_5 (v := nI 24) rfl ?_
  refine nx_newq X (t0 := 2) (N := 24) ncX0_9 X.2.2.2.2.2.2.2.1 hO.2.2.2.2.1 rfl (by decide) (by decide) (by decide) (a := a + 1) rfl dX0_init_7 ?_
  refine nx_putF X hin inX0 tyX0 tyX0_ok nmX0 (ci := 0) (k := 0) (i := 0) rfl rfl rfl (by decide) flX0_11 rfl rfl rfl rfl (Nat.le_of_ble_eq_true rfl) dX0_init_10 ?_
  refine nx_ic X dX0_init_13 (v := nI 0) rfl ?_
  refine nx_ist X dX0_init_14 rfl (by decide) rfl ?_
  refine nx_es (es2 := .inr (0, [.ref (a + 1), .int 0, .int 0]) :: nb_acts O a 0 :: nx_seg O cs0 26 (9 * 0)) ?_ ?_
  · have hf : (fun j => if j < 0 then some (a + 2 + 9 * j) else none) = fun _ : Nat => (none : Option Nat) := by
      funext j
      simp
    unfold nb_acts
    rw [hf]
    rfl
  exact nx_wide (by omega) (by omega) (loop 24 0 rfl)
def nb_rows (O : rx_O) (a i : Nat) : List va_E := .inr (5, [.ref (a + 1), .ref (a + 10), .ref (a + 11)]) :: .inl (rx_cA O 4, 8, .inr (.inr (.inr (.inr (fun j => if j < 8 then some (a + 1 + 1 + j) else none))))) :: (List.replicate 8 (.inl (rx_cA O 0, 40, .inl (fun _ => 0))) ++ [.inl (rx_cA O 0, 8, .inl (fun _ => 0)), .inl (rx_cA O 0, 8, .inl (fun j => if j < i then -1 else 0))])
theorem nb_eight {P : Nat → Prop} (h0 : P 0) (h1 : P 1) (h2 : P 2) (h3 : P 3) (h4 : P 4) (h5 : P 5) (h6 : P 6) (h7 : P 7) : ∀ a, a < 8 → P a := by
  intro a ha
  have : a = 0 ∨ a = 1 ∨ a = 2 ∨ a = 3 ∨ a = 4 ∨ a = 5 ∨ a = 6 ∨ a = 7 := by omega
  rcases this with rfl | rfl | rfl | rfl | rfl | rfl | rfl | rfl <;> assumption
theorem nb_rows_el : ∀ j, j < 8 → ([12, 13, 14, 15, 16, 17, 18, 19] : List Nat)[j]? = some (12 + j) := nb_eight rfl rfl rfl rfl rfl rfl rfl rfl
theorem nb_rows_seg {O : rx_O} {a : Nat} (hO : cb_O O) (hA : ∀ i, i < 12 → O.2.1 (10 + i) = a + i) : nb_rows O a 8 = nx_seg O cs0 10 12 := by
  refine nx_seg_of rfl (fun i hi => ?_)
  have h4 : i = 0 ∨ i = 1 ∨ (∃ q, q < 8 ∧ i = 2 + q) ∨ i = 10 ∨ i = 11 := by
    by_cases h : 2 ≤ i ∧ i < 10
    · exact Or.inr (Or.inr (Or.inl ⟨i - 2, by omega, by omega⟩))
    · omega
  rcases h4 with rfl | rfl | ⟨q, hq, rfl⟩ | rfl | rfl
  · refine ⟨_, kc_10 hO, ?_⟩
    show some (Sum.inr (5, [Value.ref (a + 1), Value.ref (a + 10), Value.ref (a + 11)])) = some (Sum.inr (5, [Value.ref (O.2.1 (10 + 1)), Value.ref (O.2.1 (10 + 10)), Value.ref (O.2.1 (10 + 11))]))
    rw [hA 1 (by decide), hA 10 (by decide), hA 11 (by decide)]
  · refine ⟨_, kc_11 hO, ?_⟩
    have hf : (fun j => if j < 8 then some (a + 1 + 1 + j) else none) = fun i => ([12, 13, 14, 15, 16, 17, 18, 19] : List Nat)[i]?.map O.2.1 := by
      funext j
      by_cases hj : j < 8
      · rw [if_pos hj, nb_rows_el j hj, Option.map_some, show 12 + j = 10 + (2 + j) by omega, hA (2 + j) (by omega)]
        congr 1
        omega
      · rw [if_neg hj, List.getElem?_eq_none (by simp; omega)]
        rfl
    show some (Sum.inl (rx_cA O 4, 8, Sum.inr (Sum.inr (Sum.inr (Sum.inr (fun j => if j < 8 then some (a + 1 + 1 + j) else none)))))) = some (Sum.inl (rx_cA O 4, 8, Sum.inr (Sum.inr (Sum.inr (Sum.inr (fun i => ([12, 13, 14, 15, 16, 17, 18, 19] : List Nat)[i]?.map O.2.1))))))
    rw [hf]
  · refine ⟨_, by rw [← Nat.add_assoc]; exact kc_row hO hq, ?_⟩
    have h1 : (nb_rows O a 8)[2 + q]? = some (.inl (rx_cA O 0, 40, .inl (fun _ => 0))) := nb_eight (P := fun q => (nb_rows O a 8)[2 + q]? = some (.inl (rx_cA O 0, 40, .inl (fun _ => 0)))) rfl rfl rfl rfl rfl rfl rfl rfl q hq
    rw [h1]
    show some (Sum.inl (rx_cA O 0, 40, Sum.inl (fun _ => 0))) = some (Sum.inl (rx_cA O 0, 40, Sum.inl (cs0.1 (10 + (2 + q)))))
    rw [cs0_z (by omega)]
  · refine ⟨_, kc_20 hO, ?_⟩
    show some (Sum.inl (rx_cA O 0, 8, Sum.inl (fun _ => 0))) = some (Sum.inl (rx_cA O 0, 8, Sum.inl (cs0.1 20)))
    rw [cs0_z (by decide)]
  · refine ⟨_, kc_21 hO, ?_⟩
    have hs : cs0.1 21 = fun j => if j < 8 then -1 else 0 := by
      funext j
      show (if 21 = 21 ∧ j < 8 then (-1 : Int32) else 0) = _
      simp
    show some (Sum.inl (rx_cA O 0, 8, Sum.inl (fun j => if j < 8 then -1 else 0))) = some (Sum.inl (rx_cA O 0, 8, Sum.inl (cs0.1 21)))
    rw [hs]
theorem kN_rows {l : Launch} {O : rx_O} {a : Nat} (hO : cb_O O) (hA : ∀ i, i < 12 → O.2.1 (10 + i) = a + i) : nM l O yX5_init cX5_init 2 1 a (.inr (5, [.null, .null, .null])) (nx_seg O cs0 10 12) 11 344 := by
  refine nx_Met_of (own := RX5) rfl rfl (by decide +kernel) (by decide) ?_
  intro p e s m args below meth c X hin hlocks hr
  have loop : ∀ k i : Nat, i + k = 8 → nJ O 2 p l e (nx_rm 1 11 344) s m args below meth c (MQ below (nx_Q O a (nx_seg O cs0 10 12)) args s 11 344 (fun q => a ≤ q)) a 34 [(1, .int (nI i)), (0, .ref a)] [] (nb_rows O a i) 11 344 := by
    intro k
    induction k with
    | zero =>
      intro i hi
      have hi6 : i = 8 := by omega
      subst hi6
      refine nx_ild X dX5_init_34 (x := nI 8) (by simp) ?_
      refine nx_bp X dX5_init_35 (v := nI 8) rfl ?_
      refine nx_ge X dX5_init_37 (fun _ => ?_) (fun h => absurd (Int32.le_refl _) h)
      refine nx_es (nb_rows_seg hO hA) ?_
      exact nx_ret X hlocks hr (by decide) (by decide) dX5_init_53
    | succ k ih =>
      intro i hi
      refine nx_ild X dX5_init_34 (x := nI i) (by simp) ?_
      refine nx_bp X dX5_init_35 (v := nI 8) rfl ?_
      refine nx_ge X dX5_init_37 (fun h => absurd ((nI_leI (by decide) (by omega)).mp h) (by omega)) (fun _ => ?_)
      refine nx_ald X dX5_init_40 (x := a) (by simp) ?_
      refine nx_get X inX5 (ci := 5) (k := 0) (i := 2) rfl rfl rfl (by decide) flX5_18 (v := .ref (a + 11)) rfl dX5_init_41 ?_
      refine nx_ild X dX5_init_44 (x := nI i) (by simp) ?_
      refine nx_ic X dX5_init_45 (v := -1) rfl ?_
      refine nx_iast X (k := 11) (t0 := 0) (j := i) (n := 8) rfl hO.2.2.1 rfl rfl (by omega) (by decide) dX5_init_46 ?_
      refine nx_es (es2 := nb_rows O a (i + 1)) (by rw [nb_neg i]; rfl) ?_
      refine nx_iinc X dX5_init_47 (k := 0) rfl (nI_1 i) (by decide) rfl ?_
      refine nx_goto X dX5_init_50 ?_
      exact ih (i + 1) (by omega)
  refine nx_ald X dX5_init_0 (x := a) (by simp) ?_
  refine nx_obj X noX5 no_i no_c (by decide) dX5_init_1 (Nat.le_of_ble_eq_true rfl) ?_
  refine nx_ald X dX5_init_4 (x := a) (by simp) ?_
  refine nx_bp X dX5_init_5 (v := nI 8) rfl ?_
  refine nx_bp X dX5_init_7 (v := nI 40) rfl ?_
  refine nx_mna X (t0 := 0) (t1 := 4) (N := 8) (K := 40) ncX5_9 na_int hO.2.2.1 hO.2.2.2.2.2.2.1 rfl rfl (by decide) (by decide) (by decide) (by decide) (a := a + 1) rfl dX5_init_9 ?_
  refine nx_putF X hin inX5 tyX5 tyX5_ok nmX5 (ci := 5) (k := 0) (i := 0) rfl rfl rfl (by decide) flX5_11 rfl rfl rfl rfl (Nat.le_of_ble_eq_true rfl) dX5_init_13 ?_
  refine nx_es (es2 := .inr (5, [.ref (a + 1), .null, .null]) :: .inl (rx_cA O 4, 8, .inr (.inr (.inr (.inr (fun j => if j < 8 then some (a + 1 + 1 + j) else none))))) :: List.replicate 8 (.inl (rx_cA O 0, 40, .inl (fun _ => 0)))) (rfl) ?_
  refine nx_ald X dX5_init_16 (x := a) (by simp) ?_
  refine nx_bp X dX5_init_17 (v := nI 8) rfl ?_
  refine nx_newi X (t0 := 0) (N := 8) na_int rfl rfl ra_int hO.2.2.1 rfl (by decide) (by decide) (by decide) (by decide) (a := a + 10) (rfl) dX5_init_19 ?_
  refine nx_putF X hin inX5 tyX5 tyX5_ok nmX5 (ci := 5) (k := 0) (i := 1) rfl rfl rfl (by decide) flX5_14 rfl rfl rfl rfl (Nat.le_of_ble_eq_true rfl) dX5_init_21 ?_
  refine nx_es (es2 := .inr (5, [.ref (a + 1), .ref (a + 10), .null]) :: .inl (rx_cA O 4, 8, .inr (.inr (.inr (.inr (fun j => if j < 8 then some (a + 1 + 1 + j) else none))))) :: (List.replicate 8 (.inl (rx_cA O 0, 40, .inl (fun _ => 0))) ++ [.inl (rx_cA O 0, 8, .inl (fun _ => 0))])) (rfl) ?_
  refine nx_ald X dX5_init_24 (x := a) (by simp) ?_
  refine nx_bp X dX5_init_25 (v := nI 8) rfl ?_
  refine nx_newi X (t0 := 0) (N := 8) na_int rfl rfl ra_int hO.2.2.1 rfl (by decide) (by decide) (by decide) (by decide) (a := a + 11) (rfl) dX5_init_27 ?_
  refine nx_putF X hin inX5 tyX5 tyX5_ok nmX5 (ci := 5) (k := 0) (i := 2) rfl rfl rfl (by decide) flX5_18 rfl rfl rfl rfl (Nat.le_of_ble_eq_true rfl) dX5_init_29 ?_
  refine nx_ic X dX5_init_32 (v := nI 0) rfl ?_
  refine nx_ist X dX5_init_33 rfl (by decide) rfl ?_
  refine nx_es (es2 := nb_rows O a 0) ?_ ?_
  · have hf : (fun j : Nat => if j < 0 then (-1 : Int32) else 0) = fun _ => 0 := by
      funext j
      simp
    unfold nb_rows
    rw [hf]
    rfl
  exact nx_wide (by omega) (by omega) (loop 8 0 rfl)
