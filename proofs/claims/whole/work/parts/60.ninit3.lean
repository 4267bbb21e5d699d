theorem nx_mid_app {x y : va_E} {L T U : List va_E} : (x :: (L ++ y :: T)) ++ U = x :: (L ++ y :: (T ++ U)) := by simp
theorem nb_fin3 {P : Nat → Prop} (h0 : P 0) (h1 : P 1) (h2 : P 2) : ∀ a, a < 3 → P a := by
  intro a ha
  have : a = 0 ∨ a = 1 ∨ a = 2 := by omega
  rcases this with rfl | rfl | rfl <;> assumption
theorem nb_fin4 {P : Nat → Prop} (h0 : P 0) (h1 : P 1) (h2 : P 2) (h3 : P 3) : ∀ a, a < 4 → P a := by
  intro a ha
  have : a = 0 ∨ a = 1 ∨ a = 2 ∨ a = 3 := by omega
  rcases this with rfl | rfl | rfl | rfl <;> assumption
theorem nb_fin7 {P : Nat → Prop} (h0 : P 0) (h1 : P 1) (h2 : P 2) (h3 : P 3) (h4 : P 4) (h5 : P 5) (h6 : P 6) : ∀ a, a < 7 → P a := by
  intro a ha
  have : a = 0 ∨ a = 1 ∨ a = 2 ∨ a = 3 ∨ a = 4 ∨ a = 5 ∨ a = 6 := by omega
  rcases this with rfl | rfl | rfl | rfl | rfl | rfl | rfl <;> assumption
theorem nb_fin10 {P : Nat → Prop} (h0 : P 0) (h1 : P 1) (h2 : P 2) (h3 : P 3) (h4 : P 4) (h5 : P 5) (h6 : P 6) (h7 : P 7) (h8 : P 8) (h9 : P 9) : ∀ a, a < 10 → P a := by
  intro a ha
  have : a = 0 ∨ a = 1 ∨ a = 2 ∨ a = 3 ∨ a = 4 ∨ a = 5 ∨ a = 6 ∨ a = 7 ∨ a = 8 ∨ a = 9 := by omega
  rcases this with rfl | rfl | rfl | rfl | rfl | rfl | rfl | rfl | rfl | rfl <;> assumption
theorem nb_fin26 {P : Nat → Prop} (h0 : P 0) (h1 : P 1) (h2 : P 2) (h3 : P 3) (h4 : P 4) (h5 : P 5) (h6 : P 6) (h7 : P 7) (h8 : P 8) (h9 : P 9) (h10 : P 10) (h11 : P 11) (h12 : P 12) (h13 : P 13) (h14 : P 14) (h15 : P 15) (h16 : P 16) (h17 : P 17) (h18 : P 18) (h19 : P 19) (h20 : P 20) (h21 : P 21) (h22 : P 22) (h23 : P 23) (h24 : P 24) (h25 : P 25) : ∀ a, a < 26 → P a := by
  intro a ha
  have : a = 0 ∨ a = 1 ∨ a = 2 ∨ a = 3 ∨ a = 4 ∨ a = 5 ∨ a = 6 ∨ a = 7 ∨ a = 8 ∨ a = 9 ∨ a = 10 ∨ a = 11 ∨ a = 12 ∨ a = 13 ∨ a = 14 ∨ a = 15 ∨ a = 16 ∨ a = 17 ∨ a = 18 ∨ a = 19 ∨ a = 20 ∨ a = 21 ∨ a = 22 ∨ a = 23 ∨ a = 24 ∨ a = 25 := by omega
  rcases this with rfl | rfl | rfl | rfl | rfl | rfl | rfl | rfl | rfl | rfl | rfl | rfl | rfl | rfl | rfl | rfl | rfl | rfl | rfl | rfl | rfl | rfl | rfl | rfl | rfl | rfl <;> assumption
def nb_imgs (O : rx_O) (a i : Nat) : va_E := .inl (rx_cA O 2, 2, .inr (.inr (.inr (.inr (fun j => if j < i then some (a + 258 + 9 * j) else none)))))
set_option maxHeartbeats 4000000 in
theorem kN_AntBand {l : Launch} {O : rx_O} {a : Nat} (hO : cb_O O) (hA : ∀ i, i < 277 → O.2.1 i = a + i) : nM l O yX7_init cX7_init 2 4 a (.inr (7, [.null, .null, .null, .null, .null, .null, .null, .null, .int 0, .int 0])) (nx_seg O cs0 0 277) 276 2038 := by
  have h1 : [.inr (7, [.ref (a + 1), .ref (a + 10), .ref (a + 22), .ref (a + 24), .ref (a + 242), .ref (a + 255), .ref (a + 257), .ref (a + 276), .int 0, .int 0])] = nx_seg O cs0 0 1 := by
    refine nx_seg_of rfl (fun i hi => ?_)
    have h2 : i = 0 := by omega
    subst h2
    refine ⟨_, kc_0 hO, ?_⟩
    show some (Sum.inr (7, [Value.ref (a + 1), Value.ref (a + 10), Value.ref (a + 22), Value.ref (a + 24), Value.ref (a + 242), Value.ref (a + 255), Value.ref (a + 257), Value.ref (a + 276), Value.int 0, Value.int 0])) = some (Sum.inr (7, [Value.ref (O.2.1 1), Value.ref (O.2.1 10), Value.ref (O.2.1 22), Value.ref (O.2.1 24), Value.ref (O.2.1 242), Value.ref (O.2.1 255), Value.ref (O.2.1 257), Value.ref (O.2.1 276), Value.int 0, Value.int 0]))
    rw [hA 1 (by decide), hA 10 (by decide), hA 22 (by decide), hA 24 (by decide), hA 242 (by decide), hA 255 (by decide), hA 257 (by decide), hA 276 (by decide)]
  have h2 : [nb_imgs O a 2] = nx_seg O cs0 257 1 := by
    refine nx_seg_of rfl (fun i hi => ?_)
    have h2 : i = 0 := by omega
    subst h2
    refine ⟨_, kc_257 hO, ?_⟩
    have hf : (fun j => if j < 2 then some (a + 258 + 9 * j) else none) = fun i => ([258, 267] : List Nat)[i]?.map O.2.1 := by
      funext j
      by_cases hj : j < 2
      · have hj2 : j = 0 ∨ j = 1 := by omega
        rcases hj2 with rfl | rfl
        · show some (a + 258) = some (O.2.1 258)
          rw [hA 258 (by decide)]
        · show some (a + 258 + 9) = some (O.2.1 267)
          rw [hA 267 (by decide)]
      · rw [if_neg hj, List.getElem?_eq_none (by simp; omega)]
        rfl
    show some (Sum.inl (rx_cA O 2, 2, Sum.inr (Sum.inr (Sum.inr (Sum.inr (fun j => if j < 2 then some (a + 258 + 9 * j) else none)))))) = some (Sum.inl (rx_cA O 2, 2, Sum.inr (Sum.inr (Sum.inr (Sum.inr (fun i => ([258, 267] : List Nat)[i]?.map O.2.1))))))
    rw [hf]
  have h3 : [.inl (rx_cA O 1, 2, .inl (fun _ => 0))] = nx_seg O cs0 276 1 := by
    refine nx_seg_of rfl (fun i hi => ?_)
    have h2 : i = 0 := by omega
    subst h2
    refine ⟨_, kc_276 hO, ?_⟩
    show some (Sum.inl (rx_cA O 1, 2, Sum.inl (fun _ => 0))) = some (Sum.inl (rx_cA O 1, 2, Sum.inl (cs0.1 276)))
    rw [cs0_z (by decide)]
  refine nx_Met_of (own := RX7) rfl rfl (by decide +kernel) (by decide) ?_
  intro p e s m args below meth c X hin hlocks hr
  refine nx_ald X dX7_init_0 (x := a) (by simp) ?_
  refine nx_obj X noX7 no_i no_c (by decide) dX7_init_1 (Nat.le_of_ble_eq_true rfl) ?_
  refine nx_ald X dX7_init_4 (x := a) (by simp) ?_
  refine nx_new X inX3 tyX3 tyX3_ok (ci := 3) (fs := [.int 0, .int 0, .int 0, .int 0, .null, .null]) rfl ncX7_7 niX3 nzX3 (cb_six rfl rfl rfl rfl rfl rfl) (by decide) (by decide) (a := a + 1) (rfl) dX7_init_5 ?_
  refine nx_dup X dX7_init_8 rfl ?_
  refine nx_call X nvX3 mlX7_9 (kN_band (B := 1) (a := a + 1) hO cb_B1 (fun i hi => by rw [hA (1 + i) (by omega)]; omega)) (es0 := [.inr (7, [.null, .null, .null, .null, .null, .null, .null, .null, .int 0, .int 0])]) rfl rfl ⟨by decide, by decide⟩ ⟨by decide, by decide⟩ dX7_init_9 (Nat.le_of_ble_eq_true rfl) ?_
  refine nx_putF X hin inX7 tyX7 tyX7_ok nmX7 (ci := 7) (k := 0) (i := 0) rfl rfl rfl (by decide) flX7_10 rfl rfl rfl rfl (Nat.le_of_ble_eq_true rfl) dX7_init_12 ?_
  refine nx_es (es2 := .inr (7, [.ref (a + 1), .null, .null, .null, .null, .null, .null, .null, .int 0, .int 0]) :: nx_seg O cs0 1 9) (rfl) ?_
  refine nx_ald X dX7_init_15 (x := a) (by simp) ?_
  refine nx_new X inX5 tyX5 tyX5_ok (ci := 5) (fs := [.null, .null, .null]) rfl ncX7_16 niX5 nzX5 (nb_fin3 rfl rfl rfl) (by decide) (by decide) (a := a + 10) (by simp [nx_seg_len]) dX7_init_16 ?_
  refine nx_dup X dX7_init_19 rfl ?_
  refine nx_call X nvX5 mlX7_18 (kN_rows (a := a + 10) hO (fun i hi => by rw [hA (10 + i) (by omega)]; omega)) (es0 := .inr (7, [.ref (a + 1), .null, .null, .null, .null, .null, .null, .null, .int 0, .int 0]) :: nx_seg O cs0 1 9) rfl (by simp [nx_seg_len]) ⟨by decide, by decide⟩ ⟨by decide, by decide⟩ dX7_init_20 (Nat.le_of_ble_eq_true rfl) ?_
  refine nx_es (es2 := .inr (7, [.ref (a + 1), .null, .null, .null, .null, .null, .null, .null, .int 0, .int 0]) :: nx_seg O cs0 1 21) (congrArg (List.cons _) (nx_seg_app (m := 9) rfl)) ?_
  refine nx_putF X hin inX7 tyX7 tyX7_ok nmX7 (ci := 7) (k := 0) (i := 1) rfl rfl rfl (by decide) flX7_19 rfl rfl rfl rfl (Nat.le_of_ble_eq_true rfl) dX7_init_23 ?_
  refine nx_es (es2 := .inr (7, [.ref (a + 1), .ref (a + 10), .null, .null, .null, .null, .null, .null, .int 0, .int 0]) :: nx_seg O cs0 1 21) (rfl) ?_
  refine nx_ald X dX7_init_26 (x := a) (by simp) ?_
  refine nx_new X inX6 tyX6 tyX6_ok (ci := 6) (fs := [.null, .int 0, .int 0, .int 0]) rfl ncX7_23 niX6 nzX6 (nb_fin4 rfl rfl rfl rfl) (by decide) (by decide) (a := a + 22) (by simp [nx_seg_len]) dX7_init_27 ?_
  refine nx_dup X dX7_init_30 rfl ?_
  refine nx_call X nvX6 mlX7_25 (kN_tape (a := a + 22) hO (fun i hi => by rw [hA (22 + i) (by omega)]; omega)) (es0 := .inr (7, [.ref (a + 1), .ref (a + 10), .null, .null, .null, .null, .null, .null, .int 0, .int 0]) :: nx_seg O cs0 1 21) rfl (by simp [nx_seg_len]) ⟨by decide, by decide⟩ ⟨by decide, by decide⟩ dX7_init_31 (Nat.le_of_ble_eq_true rfl) ?_
  refine nx_es (es2 := .inr (7, [.ref (a + 1), .ref (a + 10), .null, .null, .null, .null, .null, .null, .int 0, .int 0]) :: nx_seg O cs0 1 23) (congrArg (List.cons _) (nx_seg_app (m := 21) rfl)) ?_
  refine nx_putF X hin inX7 tyX7 tyX7_ok nmX7 (ci := 7) (k := 0) (i := 2) rfl rfl rfl (by decide) flX7_26 rfl rfl rfl rfl (Nat.le_of_ble_eq_true rfl) dX7_init_34 ?_
  refine nx_es (es2 := .inr (7, [.ref (a + 1), .ref (a + 10), .ref (a + 22), .null, .null, .null, .null, .null, .int 0, .int 0]) :: nx_seg O cs0 1 23) (rfl) ?_
  refine nx_ald X dX7_init_37 (x := a) (by simp) ?_
  refine nx_new X inX0 tyX0 tyX0_ok (ci := 0) (fs := [.null, .int 0, .int 0]) rfl ncX7_30 niX0 nzX0 (nb_fin3 rfl rfl rfl) (by decide) (by decide) (a := a + 24) (by simp [nx_seg_len]) dX7_init_38 ?_
  refine nx_dup X dX7_init_41 rfl ?_
  refine nx_call X nvX0 mlX7_32 (kN_acts (a := a + 24) hO (fun i hi => by rw [hA (24 + i) (by omega)]; omega)) (es0 := .inr (7, [.ref (a + 1), .ref (a + 10), .ref (a + 22), .null, .null, .null, .null, .null, .int 0, .int 0]) :: nx_seg O cs0 1 23) rfl (by simp [nx_seg_len]) ⟨by decide, by decide⟩ ⟨by decide, by decide⟩ dX7_init_42 (Nat.le_of_ble_eq_true rfl) ?_
  refine nx_es (es2 := .inr (7, [.ref (a + 1), .ref (a + 10), .ref (a + 22), .null, .null, .null, .null, .null, .int 0, .int 0]) :: nx_seg O cs0 1 241) (congrArg (List.cons _) (nx_seg_app (m := 23) rfl)) ?_
  refine nx_putF X hin inX7 tyX7 tyX7_ok nmX7 (ci := 7) (k := 0) (i := 3) rfl rfl rfl (by decide) flX7_33 rfl rfl rfl rfl (Nat.le_of_ble_eq_true rfl) dX7_init_45 ?_
  refine nx_es (es2 := .inr (7, [.ref (a + 1), .ref (a + 10), .ref (a + 22), .ref (a + 24), .null, .null, .null, .null, .int 0, .int 0]) :: nx_seg O cs0 1 241) (rfl) ?_
  refine nx_ald X dX7_init_48 (x := a) (by simp) ?_
  refine nx_new X inX4 tyX4 tyX4_ok (ci := 4) (fs := [.null, .null, .null, .null, .int 0, .long 0, .long 0]) rfl ncX7_37 niX4 nzX4 (nb_fin7 rfl rfl rfl rfl rfl rfl rfl) (by decide) (by decide) (a := a + 242) (by simp [nx_seg_len]) dX7_init_49 ?_
  refine nx_dup X dX7_init_52 rfl ?_
  refine nx_call X nvX4 mlX7_39 (kN_fore (a := a + 242) hO (fun i hi => by rw [hA (242 + i) (by omega)]; omega)) (es0 := .inr (7, [.ref (a + 1), .ref (a + 10), .ref (a + 22), .ref (a + 24), .null, .null, .null, .null, .int 0, .int 0]) :: nx_seg O cs0 1 241) rfl (by simp [nx_seg_len]) ⟨by decide, by decide⟩ ⟨by decide, by decide⟩ dX7_init_53 (Nat.le_of_ble_eq_true rfl) ?_
  refine nx_es (es2 := .inr (7, [.ref (a + 1), .ref (a + 10), .ref (a + 22), .ref (a + 24), .null, .null, .null, .null, .int 0, .int 0]) :: nx_seg O cs0 1 254) (congrArg (List.cons _) (nx_seg_app (m := 241) rfl)) ?_
  refine nx_putF X hin inX7 tyX7 tyX7_ok nmX7 (ci := 7) (k := 0) (i := 4) rfl rfl rfl (by decide) flX7_40 rfl rfl rfl rfl (Nat.le_of_ble_eq_true rfl) dX7_init_56 ?_
  refine nx_es (es2 := .inr (7, [.ref (a + 1), .ref (a + 10), .ref (a + 22), .ref (a + 24), .ref (a + 242), .null, .null, .null, .int 0, .int 0]) :: nx_seg O cs0 1 254) (rfl) ?_
  refine nx_ald X dX7_init_59 (x := a) (by simp) ?_
  refine nx_new X inX2 tyX2 tyX2_ok (ci := 2) (fs := [.null, .int 0, .int 0, .int 0, .int 0, .int 0, .int 0]) rfl ncX7_44 niX2 nzX2 (nb_fin7 rfl rfl rfl rfl rfl rfl rfl) (by decide) (by decide) (a := a + 255) (by simp [nx_seg_len]) dX7_init_60 ?_
  refine nx_dup X dX7_init_63 rfl ?_
  refine nx_call X nvX2 mlX7_46 (kN_asks (a := a + 255) hO (fun i hi => by rw [hA (255 + i) (by omega)]; omega)) (es0 := .inr (7, [.ref (a + 1), .ref (a + 10), .ref (a + 22), .ref (a + 24), .ref (a + 242), .null, .null, .null, .int 0, .int 0]) :: nx_seg O cs0 1 254) rfl (by simp [nx_seg_len]) ⟨by decide, by decide⟩ ⟨by decide, by decide⟩ dX7_init_64 (Nat.le_of_ble_eq_true rfl) ?_
  refine nx_es (es2 := .inr (7, [.ref (a + 1), .ref (a + 10), .ref (a + 22), .ref (a + 24), .ref (a + 242), .null, .null, .null, .int 0, .int 0]) :: nx_seg O cs0 1 256) (congrArg (List.cons _) (nx_seg_app (m := 254) rfl)) ?_
  refine nx_putF X hin inX7 tyX7 tyX7_ok nmX7 (ci := 7) (k := 0) (i := 5) rfl rfl rfl (by decide) flX7_47 rfl rfl rfl rfl (Nat.le_of_ble_eq_true rfl) dX7_init_67 ?_
  refine nx_es (es2 := .inr (7, [.ref (a + 1), .ref (a + 10), .ref (a + 22), .ref (a + 24), .ref (a + 242), .ref (a + 255), .null, .null, .int 0, .int 0]) :: nx_seg O cs0 1 256) (rfl) ?_
  refine nx_ald X dX7_init_70 (x := a) (by simp) ?_
  refine nx_ic X dX7_init_71 (v := nI 2) rfl ?_
  refine nx_newq X (t0 := 2) (N := 2) ncX7_7 X.2.2.2.2.2.2.2.1 hO.2.2.2.2.1 rfl (by decide) (by decide) (by decide) (a := a + 257) (by simp [nx_seg_len]) dX7_init_72 ?_
  refine nx_putF X hin inX7 tyX7 tyX7_ok nmX7 (ci := 7) (k := 0) (i := 6) rfl rfl rfl (by decide) flX7_51 rfl rfl rfl rfl (Nat.le_of_ble_eq_true rfl) dX7_init_75 ?_
  refine nx_es (es2 := .inr (7, [.ref (a + 1), .ref (a + 10), .ref (a + 22), .ref (a + 24), .ref (a + 242), .ref (a + 255), .ref (a + 257), .null, .int 0, .int 0]) :: (nx_seg O cs0 1 256 ++ nb_imgs O a 0 :: nx_seg O cs0 258 0)) ?_ ?_
  · have hf : (fun j => if j < 0 then some (a + 258 + 9 * j) else none) = fun _ : Nat => (none : Option Nat) := by
      funext j
      simp
    unfold nb_imgs
    rw [hf]
    rfl
  refine nx_ic X dX7_init_78 (v := nI 0) rfl ?_
  refine nx_ist X (lo2 := [(1, .int (nI 0)), (0, .ref a)]) dX7_init_79 rfl (by decide) rfl ?_
  refine nx_ild X dX7_init_80 (x := nI 0) (by simp) ?_
  refine nx_ic X dX7_init_81 (v := nI 2) rfl ?_
  refine nx_ge X dX7_init_82 (fun h => absurd h (by decide)) (fun _ => ?_)
  refine nx_ald X dX7_init_85 (x := a) (by simp) ?_
  refine nx_get X inX7 (ci := 7) (k := 0) (i := 6) rfl rfl rfl (by decide) flX7_51 (v := .ref (a + 257)) rfl dX7_init_86 ?_
  refine nx_ild X dX7_init_89 (x := nI 0) (by simp) ?_
  refine nx_new X inX3 tyX3 tyX3_ok (ci := 3) (fs := [.int 0, .int 0, .int 0, .int 0, .null, .null]) rfl ncX7_7 niX3 nzX3 (cb_six rfl rfl rfl rfl rfl rfl) (by decide) (by decide) (a := a + 258) (by simp [nx_seg_len]) dX7_init_90 ?_
  refine nx_dup X dX7_init_93 rfl ?_
  refine nx_call X nvX3 mlX7_9 (kN_band (B := 258) (a := a + 258) hO (cb_Bi (k := 0) (by decide)) (fun i hi => by rw [hA (258 + i) (by omega)]; omega)) (es0 := .inr (7, [.ref (a + 1), .ref (a + 10), .ref (a + 22), .ref (a + 24), .ref (a + 242), .ref (a + 255), .ref (a + 257), .null, .int 0, .int 0]) :: (nx_seg O cs0 1 256 ++ nb_imgs O a 0 :: nx_seg O cs0 258 0)) rfl (by simp [nx_seg_len]) ⟨by decide, by decide⟩ ⟨by decide, by decide⟩ dX7_init_94 (Nat.le_of_ble_eq_true rfl) ?_
  refine nx_es (es2 := .inr (7, [.ref (a + 1), .ref (a + 10), .ref (a + 22), .ref (a + 24), .ref (a + 242), .ref (a + 255), .ref (a + 257), .null, .int 0, .int 0]) :: (nx_seg O cs0 1 256 ++ nb_imgs O a 0 :: nx_seg O cs0 258 9)) (by rw [nx_mid_app, nx_seg_app (m := 0) rfl]) ?_
  refine nx_aast X (k := 257) (t0 := 2) (k2 := 258) (j := 0) (ci := 3) (r := (RX3, TX3, 6)) (nx_mid_get nx_seg_len) hO.2.2.2.2.1 ((nx_mid_nx (n := 256) (j := 0) nx_seg_len).trans (nx_seg_at (by decide) (kb_0 hO (cb_Bi (k := 0) (by decide))))) rfl rfl rfl rfl (by decide) (by decide) dX7_init_97 ?_
  refine nx_es (es2 := .inr (7, [.ref (a + 1), .ref (a + 10), .ref (a + 22), .ref (a + 24), .ref (a + 242), .ref (a + 255), .ref (a + 257), .null, .int 0, .int 0]) :: (nx_seg O cs0 1 256 ++ nb_imgs O a 1 :: nx_seg O cs0 258 9)) ((nx_mid_set nx_seg_len).trans (by rw [nb_up (a + 258) 9 0]; rfl)) ?_
  refine nx_iinc X (lo2 := [(1, .int (nI 1)), (0, .ref a)]) dX7_init_98 (k := 0) rfl (nI_1 0) (by decide) rfl ?_
  refine nx_goto X dX7_init_101 ?_
  refine nx_ild X dX7_init_80 (x := nI 1) (by simp) ?_
  refine nx_ic X dX7_init_81 (v := nI 2) rfl ?_
  refine nx_ge X dX7_init_82 (fun h => absurd h (by decide)) (fun _ => ?_)
  refine nx_ald X dX7_init_85 (x := a) (by simp) ?_
  refine nx_get X inX7 (ci := 7) (k := 0) (i := 6) rfl rfl rfl (by decide) flX7_51 (v := .ref (a + 257)) rfl dX7_init_86 ?_
  refine nx_ild X dX7_init_89 (x := nI 1) (by simp) ?_
  refine nx_new X inX3 tyX3 tyX3_ok (ci := 3) (fs := [.int 0, .int 0, .int 0, .int 0, .null, .null]) rfl ncX7_7 niX3 nzX3 (cb_six rfl rfl rfl rfl rfl rfl) (by decide) (by decide) (a := a + 267) (by simp [nx_seg_len]) dX7_init_90 ?_
  refine nx_dup X dX7_init_93 rfl ?_
  refine nx_call X nvX3 mlX7_9 (kN_band (B := 267) (a := a + 267) hO (cb_Bi (k := 1) (by decide)) (fun i hi => by rw [hA (267 + i) (by omega)]; omega)) (es0 := .inr (7, [.ref (a + 1), .ref (a + 10), .ref (a + 22), .ref (a + 24), .ref (a + 242), .ref (a + 255), .ref (a + 257), .null, .int 0, .int 0]) :: (nx_seg O cs0 1 256 ++ nb_imgs O a 1 :: nx_seg O cs0 258 9)) rfl (by simp [nx_seg_len]) ⟨by decide, by decide⟩ ⟨by decide, by decide⟩ dX7_init_94 (Nat.le_of_ble_eq_true rfl) ?_
  refine nx_es (es2 := .inr (7, [.ref (a + 1), .ref (a + 10), .ref (a + 22), .ref (a + 24), .ref (a + 242), .ref (a + 255), .ref (a + 257), .null, .int 0, .int 0]) :: (nx_seg O cs0 1 256 ++ nb_imgs O a 1 :: nx_seg O cs0 258 18)) (by rw [nx_mid_app, nx_seg_app (m := 9) rfl]) ?_
  refine nx_aast X (k := 257) (t0 := 2) (k2 := 267) (j := 1) (ci := 3) (r := (RX3, TX3, 6)) (nx_mid_get nx_seg_len) hO.2.2.2.2.1 ((nx_mid_nx (n := 256) (j := 9) nx_seg_len).trans (nx_seg_at (by decide) (kb_0 hO (cb_Bi (k := 1) (by decide))))) rfl rfl rfl rfl (by decide) (by decide) dX7_init_97 ?_
  refine nx_es (es2 := .inr (7, [.ref (a + 1), .ref (a + 10), .ref (a + 22), .ref (a + 24), .ref (a + 242), .ref (a + 255), .ref (a + 257), .null, .int 0, .int 0]) :: (nx_seg O cs0 1 256 ++ nb_imgs O a 2 :: nx_seg O cs0 258 18)) ((nx_mid_set nx_seg_len).trans (by rw [nb_up (a + 258) 9 1]; rfl)) ?_
  refine nx_iinc X (lo2 := [(1, .int (nI 2)), (0, .ref a)]) dX7_init_98 (k := 0) rfl (nI_1 1) (by decide) rfl ?_
  refine nx_goto X dX7_init_101 ?_
  refine nx_ild X dX7_init_80 (x := nI 2) (by simp) ?_
  refine nx_ic X dX7_init_81 (v := nI 2) rfl ?_
  refine nx_ge X dX7_init_82 (fun _ => ?_) (fun h => absurd (Int32.le_refl _) h)
  refine nx_ald X dX7_init_104 (x := a) (by simp) ?_
  refine nx_ic X dX7_init_105 (v := nI 2) rfl ?_
  refine nx_newi X (t0 := 1) (N := 2) na_boolean rfl rfl ra_bool hO.2.2.2.1 rfl (by decide) (by decide) (by decide) (by decide) (a := a + 276) (by simp [nx_seg_len]) dX7_init_106 ?_
  refine nx_putF X hin inX7 tyX7 tyX7_ok nmX7 (ci := 7) (k := 0) (i := 7) rfl rfl rfl (by decide) flX7_55 rfl rfl rfl rfl (Nat.le_of_ble_eq_true rfl) dX7_init_108 ?_
  refine nx_es (es2 := .inr (7, [.ref (a + 1), .ref (a + 10), .ref (a + 22), .ref (a + 24), .ref (a + 242), .ref (a + 255), .ref (a + 257), .ref (a + 276), .int 0, .int 0]) :: ((nx_seg O cs0 1 256 ++ nb_imgs O a 2 :: nx_seg O cs0 258 18) ++ [.inl (rx_cA O 1, 2, .inl (fun _ => 0))])) (rfl) ?_
  refine nx_ald X dX7_init_111 (x := a) (by simp) ?_
  refine nx_ic X dX7_init_112 (v := 0) rfl ?_
  refine nx_putN X inX7 tyX7 tyX7_ok nmX7 (ci := 7) (k := 0) (i := 8) rfl rfl rfl (by decide) flX7_59 rfl rfl rfl (Nat.le_of_ble_eq_true rfl) dX7_init_113 ?_
  refine nx_ald X dX7_init_116 (x := a) (by simp) ?_
  refine nx_ic X dX7_init_117 (v := 0) rfl ?_
  refine nx_putN X inX7 tyX7 tyX7_ok nmX7 (ci := 7) (k := 0) (i := 9) rfl rfl rfl (by decide) flX7_63 rfl rfl rfl (Nat.le_of_ble_eq_true rfl) dX7_init_118 ?_
  refine nx_es (es2 := nx_seg O cs0 0 277) ?_ ?_
  · rw [show (277 : Nat) = 1 + (256 + (1 + (18 + 1))) from rfl, ← nx_seg_app (a := 0) (m := 1) (k := 1) rfl, ← nx_seg_app (a := 1) (m := 256) (k := 257) rfl, ← nx_seg_app (a := 257) (m := 1) (k := 258) rfl, ← nx_seg_app (a := 258) (m := 18) (k := 276) rfl, ← h1, ← h2, ← h3]
    simp only [List.append_assoc, List.cons_append, List.nil_append]
    rfl
  exact nx_ret X hlocks hr (by decide) (by decide) dX7_init_121
/-- the reference's store at its start -/
def ms0 : rx_S := (fun k j => if k = 2 ∧ j < 8 then -1 else if k = 0 ∧ j = 6 then -1 else 0, fun _ _ => 0)
theorem ms0_z {k : Nat} (h : k ≠ 2) (h0 : k ≠ 0) : ms0.1 k = fun _ => 0 := by
  funext j
  show (if k = 2 ∧ j < 8 then (-1 : Int32) else if k = 0 ∧ j = 6 then -1 else 0) = 0
  rw [if_neg (fun q => h q.1), if_neg (fun q => h0 q.1)]
def nb_model (O : rx_O) (a i : Nat) : List va_E := .inr (8, [.ref (a + 1), .ref (a + 2), .ref (a + 3), .int 0, .int 0, .ref (a + 4), .int (-1), .ref (a + 5), .ref (a + 6), .int 0, .int 0, .int 0, .int 0, .int 0, .int 0, .int 0, .ref (a + 7), .ref (a + 8), .int 0, .ref (a + 9), .ref (a + 10), .ref (a + 11), .ref (a + 12), .ref (a + 13), .ref (a + 14), .int 0]) :: [.inl (rx_cA O 0, 8, .inl (fun _ => 0)), .inl (rx_cA O 0, 8, .inl (fun j => if j < i then -1 else 0)), .inl (rx_cA O 0, 320, .inl (fun _ => 0)), .inl (rx_cA O 0, 40, .inl (fun _ => 0)), .inl (rx_cA O 0, 40, .inl (fun _ => 0)), .inl (rx_cA O 0, 120, .inl (fun _ => 0)), .inl (rx_cA O 0, 40, .inl (fun _ => 0)), .inl (rx_cA O 0, 960, .inl (fun _ => 0)), .inl (rx_cA O 0, 40, .inl (fun _ => 0)), .inl (rx_cA O 0, 5, .inl (fun _ => 0)), .inl (rx_cA O 0, 5, .inl (fun _ => 0)), .inl (rx_cA O 1, 2, .inl (fun _ => 0)), .inl (rx_cA O 0, 80, .inl (fun _ => 0)), .inl (rx_cA O 0, 16, .inl (fun _ => 0))]
theorem nb_model_seg {O : rx_O} {a : Nat} (hO : mo_O O) (hA : ∀ i, i < 15 → O.2.1 i = a + i) : nb_model O a 8 = nx_seg O ms0 0 15 := by
  refine nx_seg_of rfl (fun i hi => ?_)
  have h4 : i = 0 ∨ i = 1 ∨ i = 2 ∨ i = 3 ∨ i = 4 ∨ i = 5 ∨ i = 6 ∨ i = 7 ∨ i = 8 ∨ i = 9 ∨ i = 10 ∨ i = 11 ∨ i = 12 ∨ i = 13 ∨ i = 14 := by omega
  rcases h4 with rfl | rfl | rfl | rfl | rfl | rfl | rfl | rfl | rfl | rfl | rfl | rfl | rfl | rfl | rfl
  · refine ⟨_, km_0 hO, ?_⟩
    show some (Sum.inr (8, [Value.ref (a + 1), Value.ref (a + 2), Value.ref (a + 3), Value.int 0, Value.int 0, Value.ref (a + 4), Value.int (-1), Value.ref (a + 5), Value.ref (a + 6), Value.int 0, Value.int 0, Value.int 0, Value.int 0, Value.int 0, Value.int 0, Value.int 0, Value.ref (a + 7), Value.ref (a + 8), Value.int 0, Value.ref (a + 9), Value.ref (a + 10), Value.ref (a + 11), Value.ref (a + 12), Value.ref (a + 13), Value.ref (a + 14), Value.int 0])) = some (Sum.inr (8, [Value.ref (O.2.1 1), Value.ref (O.2.1 2), Value.ref (O.2.1 3), Value.int 0, Value.int 0, Value.ref (O.2.1 4), Value.int (-1), Value.ref (O.2.1 5), Value.ref (O.2.1 6), Value.int 0, Value.int 0, Value.int 0, Value.int 0, Value.int 0, Value.int 0, Value.int 0, Value.ref (O.2.1 7), Value.ref (O.2.1 8), Value.int 0, Value.ref (O.2.1 9), Value.ref (O.2.1 10), Value.ref (O.2.1 11), Value.ref (O.2.1 12), Value.ref (O.2.1 13), Value.ref (O.2.1 14), Value.int 0]))
    rw [hA 1 (by decide), hA 2 (by decide), hA 3 (by decide), hA 4 (by decide), hA 5 (by decide), hA 6 (by decide), hA 7 (by decide), hA 8 (by decide), hA 9 (by decide), hA 10 (by decide), hA 11 (by decide), hA 12 (by decide), hA 13 (by decide), hA 14 (by decide)]
  · refine ⟨_, km_1 hO, ?_⟩
    show some (Sum.inl (rx_cA O 0, 8, Sum.inl (fun _ => 0))) = some (Sum.inl (rx_cA O 0, 8, Sum.inl (ms0.1 1)))
    rw [ms0_z (by decide) (by decide)]
  · refine ⟨_, km_2 hO, ?_⟩
    have hs : ms0.1 2 = fun j => if j < 8 then -1 else 0 := by
      funext j
      show (if 2 = 2 ∧ j < 8 then (-1 : Int32) else if 2 = 0 ∧ j = 6 then -1 else 0) = _
      simp
    show some (Sum.inl (rx_cA O 0, 8, Sum.inl (fun j => if j < 8 then -1 else 0))) = some (Sum.inl (rx_cA O 0, 8, Sum.inl (ms0.1 2)))
    rw [hs]
  · refine ⟨_, km_3 hO, ?_⟩
    show some (Sum.inl (rx_cA O 0, 320, Sum.inl (fun _ => 0))) = some (Sum.inl (rx_cA O 0, 320, Sum.inl (ms0.1 3)))
    rw [ms0_z (by decide) (by decide)]
  · refine ⟨_, km_4 hO, ?_⟩
    show some (Sum.inl (rx_cA O 0, 40, Sum.inl (fun _ => 0))) = some (Sum.inl (rx_cA O 0, 40, Sum.inl (ms0.1 4)))
    rw [ms0_z (by decide) (by decide)]
  · refine ⟨_, km_5 hO, ?_⟩
    show some (Sum.inl (rx_cA O 0, 40, Sum.inl (fun _ => 0))) = some (Sum.inl (rx_cA O 0, 40, Sum.inl (ms0.1 5)))
    rw [ms0_z (by decide) (by decide)]
  · refine ⟨_, km_6 hO, ?_⟩
    show some (Sum.inl (rx_cA O 0, 120, Sum.inl (fun _ => 0))) = some (Sum.inl (rx_cA O 0, 120, Sum.inl (ms0.1 6)))
    rw [ms0_z (by decide) (by decide)]
  · refine ⟨_, km_7 hO, ?_⟩
    show some (Sum.inl (rx_cA O 0, 40, Sum.inl (fun _ => 0))) = some (Sum.inl (rx_cA O 0, 40, Sum.inl (ms0.1 7)))
    rw [ms0_z (by decide) (by decide)]
  · refine ⟨_, km_8 hO, ?_⟩
    show some (Sum.inl (rx_cA O 0, 960, Sum.inl (fun _ => 0))) = some (Sum.inl (rx_cA O 0, 960, Sum.inl (ms0.1 8)))
    rw [ms0_z (by decide) (by decide)]
  · refine ⟨_, km_9 hO, ?_⟩
    show some (Sum.inl (rx_cA O 0, 40, Sum.inl (fun _ => 0))) = some (Sum.inl (rx_cA O 0, 40, Sum.inl (ms0.1 9)))
    rw [ms0_z (by decide) (by decide)]
  · refine ⟨_, km_10 hO, ?_⟩
    show some (Sum.inl (rx_cA O 0, 5, Sum.inl (fun _ => 0))) = some (Sum.inl (rx_cA O 0, 5, Sum.inl (ms0.1 10)))
    rw [ms0_z (by decide) (by decide)]
  · refine ⟨_, km_11 hO, ?_⟩
    show some (Sum.inl (rx_cA O 0, 5, Sum.inl (fun _ => 0))) = some (Sum.inl (rx_cA O 0, 5, Sum.inl (ms0.1 11)))
    rw [ms0_z (by decide) (by decide)]
  · refine ⟨_, km_12 hO, ?_⟩
    show some (Sum.inl (rx_cA O 1, 2, Sum.inl (fun _ => 0))) = some (Sum.inl (rx_cA O 1, 2, Sum.inl (ms0.1 12)))
    rw [ms0_z (by decide) (by decide)]
  · refine ⟨_, km_13 hO, ?_⟩
    show some (Sum.inl (rx_cA O 0, 80, Sum.inl (fun _ => 0))) = some (Sum.inl (rx_cA O 0, 80, Sum.inl (ms0.1 13)))
    rw [ms0_z (by decide) (by decide)]
  · refine ⟨_, km_14 hO, ?_⟩
    show some (Sum.inl (rx_cA O 0, 16, Sum.inl (fun _ => 0))) = some (Sum.inl (rx_cA O 0, 16, Sum.inl (ms0.1 14)))
    rw [ms0_z (by decide) (by decide)]
set_option maxHeartbeats 4000000 in
theorem kN_Model {l : Launch} {O : rx_O} {a : Nat} (hO : mo_O O) (hA : ∀ i, i < 15 → O.2.1 i = a + i) : nM l O yX8_init cX8_init 2 1 a (.inr (8, [.null, .null, .null, .int 0, .int 0, .null, .int 0, .null, .null, .int 0, .int 0, .int 0, .int 0, .int 0, .int 0, .int 0, .null, .null, .int 0, .null, .null, .null, .null, .null, .null, .int 0])) (nx_seg O ms0 0 15) 14 1684 := by
  refine nx_Met_of (own := RX8) rfl rfl (by decide +kernel) (by decide) ?_
  intro p e s m args below meth c X hin hlocks hr
  have loop : ∀ k i : Nat, i + k = 8 → nJ O 2 p l e (nx_rm 1 14 1684) s m args below meth c (MQ below (nx_Q O a (nx_seg O ms0 0 15)) args s 14 1684 (fun q => a ≤ q)) a 122 [(1, .int (nI i)), (0, .ref a)] [] (nb_model O a i) 14 1684 := by
    intro k
    induction k with
    | zero =>
      intro i hi
      have hi6 : i = 8 := by omega
      subst hi6
      refine nx_ild X dX8_init_122 (x := nI 8) (by simp) ?_
      refine nx_bp X dX8_init_123 (v := nI 8) rfl ?_
      refine nx_ge X dX8_init_125 (fun _ => ?_) (fun h => absurd (Int32.le_refl _) h)
      refine nx_es (nb_model_seg hO hA) ?_
      exact nx_ret X hlocks hr (by decide) (by decide) dX8_init_141
    | succ k ih =>
      intro i hi
      refine nx_ild X dX8_init_122 (x := nI i) (by simp) ?_
      refine nx_bp X dX8_init_123 (v := nI 8) rfl ?_
      refine nx_ge X dX8_init_125 (fun h => absurd ((nI_leI (by decide) (by omega)).mp h) (by omega)) (fun _ => ?_)
      refine nx_ald X dX8_init_128 (x := a) (by simp) ?_
      refine nx_get X inX8 (ci := 8) (k := 0) (i := 1) rfl rfl rfl (by decide) flX8_13 (v := .ref (a + 2)) rfl dX8_init_129 ?_
      refine nx_ild X dX8_init_132 (x := nI i) (by simp) ?_
      refine nx_ic X dX8_init_133 (v := -1) rfl ?_
      refine nx_iast X (k := 2) (t0 := 0) (j := i) (n := 8) rfl hO.2.2.1 rfl rfl (by omega) (by decide) dX8_init_134 ?_
      refine nx_es (es2 := nb_model O a (i + 1)) (by rw [nb_neg i]; rfl) ?_
      refine nx_iinc X dX8_init_135 (k := 0) rfl (nI_1 i) (by decide) rfl ?_
      refine nx_goto X dX8_init_138 ?_
      exact ih (i + 1) (by omega)
  refine nx_ald X dX8_init_0 (x := a) (by simp) ?_
  refine nx_obj X noX8 no_i no_c (by decide) dX8_init_1 (Nat.le_of_ble_eq_true rfl) ?_
  refine nx_ald X dX8_init_4 (x := a) (by simp) ?_
  refine nx_bp X dX8_init_5 (v := nI 8) rfl ?_
  refine nx_newi X (t0 := 0) (N := 8) na_int rfl rfl ra_int hO.2.2.1 rfl (by decide) (by decide) (by decide) (by decide) (a := a + 1) (rfl) dX8_init_7 ?_
  refine nx_putF X hin inX8 tyX8 tyX8_ok nmX8 (ci := 8) (k := 0) (i := 0) rfl rfl rfl (by decide) flX8_7 rfl rfl rfl rfl (Nat.le_of_ble_eq_true rfl) dX8_init_9 ?_
  refine nx_es (es2 := .inr (8, [.ref (a + 1), .null, .null, .int 0, .int 0, .null, .int 0, .null, .null, .int 0, .int 0, .int 0, .int 0, .int 0, .int 0, .int 0, .null, .null, .int 0, .null, .null, .null, .null, .null, .null, .int 0]) :: [.inl (rx_cA O 0, 8, .inl (fun _ => 0))]) (rfl) ?_
  refine nx_ald X dX8_init_12 (x := a) (by simp) ?_
  refine nx_bp X dX8_init_13 (v := nI 8) rfl ?_
  refine nx_newi X (t0 := 0) (N := 8) na_int rfl rfl ra_int hO.2.2.1 rfl (by decide) (by decide) (by decide) (by decide) (a := a + 2) (rfl) dX8_init_15 ?_
  refine nx_putF X hin inX8 tyX8 tyX8_ok nmX8 (ci := 8) (k := 0) (i := 1) rfl rfl rfl (by decide) flX8_13 rfl rfl rfl rfl (Nat.le_of_ble_eq_true rfl) dX8_init_17 ?_
  refine nx_es (es2 := .inr (8, [.ref (a + 1), .ref (a + 2), .null, .int 0, .int 0, .null, .int 0, .null, .null, .int 0, .int 0, .int 0, .int 0, .int 0, .int 0, .int 0, .null, .null, .int 0, .null, .null, .null, .null, .null, .null, .int 0]) :: [.inl (rx_cA O 0, 8, .inl (fun _ => 0)), .inl (rx_cA O 0, 8, .inl (fun _ => 0))]) (rfl) ?_
  refine nx_ald X dX8_init_20 (x := a) (by simp) ?_
  refine nx_sp X dX8_init_21 (v := nI 320) rfl ?_
  refine nx_newi X (t0 := 0) (N := 320) na_int rfl rfl ra_int hO.2.2.1 rfl (by decide) (by decide) (by decide) (by decide) (a := a + 3) (rfl) dX8_init_24 ?_
  refine nx_putF X hin inX8 tyX8 tyX8_ok nmX8 (ci := 8) (k := 0) (i := 2) rfl rfl rfl (by decide) flX8_16 rfl rfl rfl rfl (Nat.le_of_ble_eq_true rfl) dX8_init_26 ?_
  refine nx_es (es2 := .inr (8, [.ref (a + 1), .ref (a + 2), .ref (a + 3), .int 0, .int 0, .null, .int 0, .null, .null, .int 0, .int 0, .int 0, .int 0, .int 0, .int 0, .int 0, .null, .null, .int 0, .null, .null, .null, .null, .null, .null, .int 0]) :: [.inl (rx_cA O 0, 8, .inl (fun _ => 0)), .inl (rx_cA O 0, 8, .inl (fun _ => 0)), .inl (rx_cA O 0, 320, .inl (fun _ => 0))]) (rfl) ?_
  refine nx_ald X dX8_init_29 (x := a) (by simp) ?_
  refine nx_bp X dX8_init_30 (v := nI 40) rfl ?_
  refine nx_newi X (t0 := 0) (N := 40) na_int rfl rfl ra_int hO.2.2.1 rfl (by decide) (by decide) (by decide) (by decide) (a := a + 4) (rfl) dX8_init_32 ?_
  refine nx_putF X hin inX8 tyX8 tyX8_ok nmX8 (ci := 8) (k := 0) (i := 5) rfl rfl rfl (by decide) flX8_19 rfl rfl rfl rfl (Nat.le_of_ble_eq_true rfl) dX8_init_34 ?_
  refine nx_es (es2 := .inr (8, [.ref (a + 1), .ref (a + 2), .ref (a + 3), .int 0, .int 0, .ref (a + 4), .int 0, .null, .null, .int 0, .int 0, .int 0, .int 0, .int 0, .int 0, .int 0, .null, .null, .int 0, .null, .null, .null, .null, .null, .null, .int 0]) :: [.inl (rx_cA O 0, 8, .inl (fun _ => 0)), .inl (rx_cA O 0, 8, .inl (fun _ => 0)), .inl (rx_cA O 0, 320, .inl (fun _ => 0)), .inl (rx_cA O 0, 40, .inl (fun _ => 0))]) (rfl) ?_
  refine nx_ald X dX8_init_37 (x := a) (by simp) ?_
  refine nx_ic X dX8_init_38 (v := -1) rfl ?_
  refine nx_putN X inX8 tyX8 tyX8_ok nmX8 (ci := 8) (k := 0) (i := 6) rfl rfl rfl (by decide) flX8_22 rfl rfl rfl (Nat.le_of_ble_eq_true rfl) dX8_init_39 ?_
  refine nx_es (es2 := .inr (8, [.ref (a + 1), .ref (a + 2), .ref (a + 3), .int 0, .int 0, .ref (a + 4), .int (-1), .null, .null, .int 0, .int 0, .int 0, .int 0, .int 0, .int 0, .int 0, .null, .null, .int 0, .null, .null, .null, .null, .null, .null, .int 0]) :: [.inl (rx_cA O 0, 8, .inl (fun _ => 0)), .inl (rx_cA O 0, 8, .inl (fun _ => 0)), .inl (rx_cA O 0, 320, .inl (fun _ => 0)), .inl (rx_cA O 0, 40, .inl (fun _ => 0))]) (rfl) ?_
  refine nx_ald X dX8_init_42 (x := a) (by simp) ?_
  refine nx_bp X dX8_init_43 (v := nI 40) rfl ?_
  refine nx_newi X (t0 := 0) (N := 40) na_int rfl rfl ra_int hO.2.2.1 rfl (by decide) (by decide) (by decide) (by decide) (a := a + 5) (rfl) dX8_init_45 ?_
  refine nx_putF X hin inX8 tyX8 tyX8_ok nmX8 (ci := 8) (k := 0) (i := 7) rfl rfl rfl (by decide) flX8_26 rfl rfl rfl rfl (Nat.le_of_ble_eq_true rfl) dX8_init_47 ?_
  refine nx_es (es2 := .inr (8, [.ref (a + 1), .ref (a + 2), .ref (a + 3), .int 0, .int 0, .ref (a + 4), .int (-1), .ref (a + 5), .null, .int 0, .int 0, .int 0, .int 0, .int 0, .int 0, .int 0, .null, .null, .int 0, .null, .null, .null, .null, .null, .null, .int 0]) :: [.inl (rx_cA O 0, 8, .inl (fun _ => 0)), .inl (rx_cA O 0, 8, .inl (fun _ => 0)), .inl (rx_cA O 0, 320, .inl (fun _ => 0)), .inl (rx_cA O 0, 40, .inl (fun _ => 0)), .inl (rx_cA O 0, 40, .inl (fun _ => 0))]) (rfl) ?_
  refine nx_ald X dX8_init_50 (x := a) (by simp) ?_
  refine nx_bp X dX8_init_51 (v := nI 120) rfl ?_
  refine nx_newi X (t0 := 0) (N := 120) na_int rfl rfl ra_int hO.2.2.1 rfl (by decide) (by decide) (by decide) (by decide) (a := a + 6) (rfl) dX8_init_53 ?_
  refine nx_putF X hin inX8 tyX8 tyX8_ok nmX8 (ci := 8) (k := 0) (i := 8) rfl rfl rfl (by decide) flX8_29 rfl rfl rfl rfl (Nat.le_of_ble_eq_true rfl) dX8_init_55 ?_
  refine nx_es (es2 := .inr (8, [.ref (a + 1), .ref (a + 2), .ref (a + 3), .int 0, .int 0, .ref (a + 4), .int (-1), .ref (a + 5), .ref (a + 6), .int 0, .int 0, .int 0, .int 0, .int 0, .int 0, .int 0, .null, .null, .int 0, .null, .null, .null, .null, .null, .null, .int 0]) :: [.inl (rx_cA O 0, 8, .inl (fun _ => 0)), .inl (rx_cA O 0, 8, .inl (fun _ => 0)), .inl (rx_cA O 0, 320, .inl (fun _ => 0)), .inl (rx_cA O 0, 40, .inl (fun _ => 0)), .inl (rx_cA O 0, 40, .inl (fun _ => 0)), .inl (rx_cA O 0, 120, .inl (fun _ => 0))]) (rfl) ?_
  refine nx_ald X dX8_init_58 (x := a) (by simp) ?_
  refine nx_bp X dX8_init_59 (v := nI 40) rfl ?_
  refine nx_newi X (t0 := 0) (N := 40) na_int rfl rfl ra_int hO.2.2.1 rfl (by decide) (by decide) (by decide) (by decide) (a := a + 7) (rfl) dX8_init_61 ?_
  refine nx_putF X hin inX8 tyX8 tyX8_ok nmX8 (ci := 8) (k := 0) (i := 16) rfl rfl rfl (by decide) flX8_32 rfl rfl rfl rfl (Nat.le_of_ble_eq_true rfl) dX8_init_63 ?_
  refine nx_es (es2 := .inr (8, [.ref (a + 1), .ref (a + 2), .ref (a + 3), .int 0, .int 0, .ref (a + 4), .int (-1), .ref (a + 5), .ref (a + 6), .int 0, .int 0, .int 0, .int 0, .int 0, .int 0, .int 0, .ref (a + 7), .null, .int 0, .null, .null, .null, .null, .null, .null, .int 0]) :: [.inl (rx_cA O 0, 8, .inl (fun _ => 0)), .inl (rx_cA O 0, 8, .inl (fun _ => 0)), .inl (rx_cA O 0, 320, .inl (fun _ => 0)), .inl (rx_cA O 0, 40, .inl (fun _ => 0)), .inl (rx_cA O 0, 40, .inl (fun _ => 0)), .inl (rx_cA O 0, 120, .inl (fun _ => 0)), .inl (rx_cA O 0, 40, .inl (fun _ => 0))]) (rfl) ?_
  refine nx_ald X dX8_init_66 (x := a) (by simp) ?_
  refine nx_sp X dX8_init_67 (v := nI 960) rfl ?_
  refine nx_newi X (t0 := 0) (N := 960) na_int rfl rfl ra_int hO.2.2.1 rfl (by decide) (by decide) (by decide) (by decide) (a := a + 8) (rfl) dX8_init_70 ?_
  refine nx_putF X hin inX8 tyX8 tyX8_ok nmX8 (ci := 8) (k := 0) (i := 17) rfl rfl rfl (by decide) flX8_35 rfl rfl rfl rfl (Nat.le_of_ble_eq_true rfl) dX8_init_72 ?_
  refine nx_es (es2 := .inr (8, [.ref (a + 1), .ref (a + 2), .ref (a + 3), .int 0, .int 0, .ref (a + 4), .int (-1), .ref (a + 5), .ref (a + 6), .int 0, .int 0, .int 0, .int 0, .int 0, .int 0, .int 0, .ref (a + 7), .ref (a + 8), .int 0, .null, .null, .null, .null, .null, .null, .int 0]) :: [.inl (rx_cA O 0, 8, .inl (fun _ => 0)), .inl (rx_cA O 0, 8, .inl (fun _ => 0)), .inl (rx_cA O 0, 320, .inl (fun _ => 0)), .inl (rx_cA O 0, 40, .inl (fun _ => 0)), .inl (rx_cA O 0, 40, .inl (fun _ => 0)), .inl (rx_cA O 0, 120, .inl (fun _ => 0)), .inl (rx_cA O 0, 40, .inl (fun _ => 0)), .inl (rx_cA O 0, 960, .inl (fun _ => 0))]) (rfl) ?_
  refine nx_ald X dX8_init_75 (x := a) (by simp) ?_
  refine nx_bp X dX8_init_76 (v := nI 40) rfl ?_
  refine nx_newi X (t0 := 0) (N := 40) na_int rfl rfl ra_int hO.2.2.1 rfl (by decide) (by decide) (by decide) (by decide) (a := a + 9) (rfl) dX8_init_78 ?_
  refine nx_putF X hin inX8 tyX8 tyX8_ok nmX8 (ci := 8) (k := 0) (i := 19) rfl rfl rfl (by decide) flX8_38 rfl rfl rfl rfl (Nat.le_of_ble_eq_true rfl) dX8_init_80 ?_
  refine nx_es (es2 := .inr (8, [.ref (a + 1), .ref (a + 2), .ref (a + 3), .int 0, .int 0, .ref (a + 4), .int (-1), .ref (a + 5), .ref (a + 6), .int 0, .int 0, .int 0, .int 0, .int 0, .int 0, .int 0, .ref (a + 7), .ref (a + 8), .int 0, .ref (a + 9), .null, .null, .null, .null, .null, .int 0]) :: [.inl (rx_cA O 0, 8, .inl (fun _ => 0)), .inl (rx_cA O 0, 8, .inl (fun _ => 0)), .inl (rx_cA O 0, 320, .inl (fun _ => 0)), .inl (rx_cA O 0, 40, .inl (fun _ => 0)), .inl (rx_cA O 0, 40, .inl (fun _ => 0)), .inl (rx_cA O 0, 120, .inl (fun _ => 0)), .inl (rx_cA O 0, 40, .inl (fun _ => 0)), .inl (rx_cA O 0, 960, .inl (fun _ => 0)), .inl (rx_cA O 0, 40, .inl (fun _ => 0))]) (rfl) ?_
  refine nx_ald X dX8_init_83 (x := a) (by simp) ?_
  refine nx_ic X dX8_init_84 (v := nI 5) rfl ?_
  refine nx_newi X (t0 := 0) (N := 5) na_int rfl rfl ra_int hO.2.2.1 rfl (by decide) (by decide) (by decide) (by decide) (a := a + 10) (rfl) dX8_init_85 ?_
  refine nx_putF X hin inX8 tyX8 tyX8_ok nmX8 (ci := 8) (k := 0) (i := 20) rfl rfl rfl (by decide) flX8_41 rfl rfl rfl rfl (Nat.le_of_ble_eq_true rfl) dX8_init_87 ?_
  refine nx_es (es2 := .inr (8, [.ref (a + 1), .ref (a + 2), .ref (a + 3), .int 0, .int 0, .ref (a + 4), .int (-1), .ref (a + 5), .ref (a + 6), .int 0, .int 0, .int 0, .int 0, .int 0, .int 0, .int 0, .ref (a + 7), .ref (a + 8), .int 0, .ref (a + 9), .ref (a + 10), .null, .null, .null, .null, .int 0]) :: [.inl (rx_cA O 0, 8, .inl (fun _ => 0)), .inl (rx_cA O 0, 8, .inl (fun _ => 0)), .inl (rx_cA O 0, 320, .inl (fun _ => 0)), .inl (rx_cA O 0, 40, .inl (fun _ => 0)), .inl (rx_cA O 0, 40, .inl (fun _ => 0)), .inl (rx_cA O 0, 120, .inl (fun _ => 0)), .inl (rx_cA O 0, 40, .inl (fun _ => 0)), .inl (rx_cA O 0, 960, .inl (fun _ => 0)), .inl (rx_cA O 0, 40, .inl (fun _ => 0)), .inl (rx_cA O 0, 5, .inl (fun _ => 0))]) (rfl) ?_
  refine nx_ald X dX8_init_90 (x := a) (by simp) ?_
  refine nx_ic X dX8_init_91 (v := nI 5) rfl ?_
  refine nx_newi X (t0 := 0) (N := 5) na_int rfl rfl ra_int hO.2.2.1 rfl (by decide) (by decide) (by decide) (by decide) (a := a + 11) (rfl) dX8_init_92 ?_
  refine nx_putF X hin inX8 tyX8 tyX8_ok nmX8 (ci := 8) (k := 0) (i := 21) rfl rfl rfl (by decide) flX8_44 rfl rfl rfl rfl (Nat.le_of_ble_eq_true rfl) dX8_init_94 ?_
  refine nx_es (es2 := .inr (8, [.ref (a + 1), .ref (a + 2), .ref (a + 3), .int 0, .int 0, .ref (a + 4), .int (-1), .ref (a + 5), .ref (a + 6), .int 0, .int 0, .int 0, .int 0, .int 0, .int 0, .int 0, .ref (a + 7), .ref (a + 8), .int 0, .ref (a + 9), .ref (a + 10), .ref (a + 11), .null, .null, .null, .int 0]) :: [.inl (rx_cA O 0, 8, .inl (fun _ => 0)), .inl (rx_cA O 0, 8, .inl (fun _ => 0)), .inl (rx_cA O 0, 320, .inl (fun _ => 0)), .inl (rx_cA O 0, 40, .inl (fun _ => 0)), .inl (rx_cA O 0, 40, .inl (fun _ => 0)), .inl (rx_cA O 0, 120, .inl (fun _ => 0)), .inl (rx_cA O 0, 40, .inl (fun _ => 0)), .inl (rx_cA O 0, 960, .inl (fun _ => 0)), .inl (rx_cA O 0, 40, .inl (fun _ => 0)), .inl (rx_cA O 0, 5, .inl (fun _ => 0)), .inl (rx_cA O 0, 5, .inl (fun _ => 0))]) (rfl) ?_
  refine nx_ald X dX8_init_97 (x := a) (by simp) ?_
  refine nx_ic X dX8_init_98 (v := nI 2) rfl ?_
  refine nx_newi X (t0 := 1) (N := 2) na_boolean rfl rfl ra_bool hO.2.2.2 rfl (by decide) (by decide) (by decide) (by decide) (a := a + 12) (rfl) dX8_init_99 ?_
  refine nx_putF X hin inX8 tyX8 tyX8_ok nmX8 (ci := 8) (k := 0) (i := 22) rfl rfl rfl (by decide) flX8_47 rfl rfl rfl rfl (Nat.le_of_ble_eq_true rfl) dX8_init_101 ?_
  refine nx_es (es2 := .inr (8, [.ref (a + 1), .ref (a + 2), .ref (a + 3), .int 0, .int 0, .ref (a + 4), .int (-1), .ref (a + 5), .ref (a + 6), .int 0, .int 0, .int 0, .int 0, .int 0, .int 0, .int 0, .ref (a + 7), .ref (a + 8), .int 0, .ref (a + 9), .ref (a + 10), .ref (a + 11), .ref (a + 12), .null, .null, .int 0]) :: [.inl (rx_cA O 0, 8, .inl (fun _ => 0)), .inl (rx_cA O 0, 8, .inl (fun _ => 0)), .inl (rx_cA O 0, 320, .inl (fun _ => 0)), .inl (rx_cA O 0, 40, .inl (fun _ => 0)), .inl (rx_cA O 0, 40, .inl (fun _ => 0)), .inl (rx_cA O 0, 120, .inl (fun _ => 0)), .inl (rx_cA O 0, 40, .inl (fun _ => 0)), .inl (rx_cA O 0, 960, .inl (fun _ => 0)), .inl (rx_cA O 0, 40, .inl (fun _ => 0)), .inl (rx_cA O 0, 5, .inl (fun _ => 0)), .inl (rx_cA O 0, 5, .inl (fun _ => 0)), .inl (rx_cA O 1, 2, .inl (fun _ => 0))]) (rfl) ?_
  refine nx_ald X dX8_init_104 (x := a) (by simp) ?_
  refine nx_bp X dX8_init_105 (v := nI 80) rfl ?_
  refine nx_newi X (t0 := 0) (N := 80) na_int rfl rfl ra_int hO.2.2.1 rfl (by decide) (by decide) (by decide) (by decide) (a := a + 13) (rfl) dX8_init_107 ?_
  refine nx_putF X hin inX8 tyX8 tyX8_ok nmX8 (ci := 8) (k := 0) (i := 23) rfl rfl rfl (by decide) flX8_51 rfl rfl rfl rfl (Nat.le_of_ble_eq_true rfl) dX8_init_109 ?_
  refine nx_es (es2 := .inr (8, [.ref (a + 1), .ref (a + 2), .ref (a + 3), .int 0, .int 0, .ref (a + 4), .int (-1), .ref (a + 5), .ref (a + 6), .int 0, .int 0, .int 0, .int 0, .int 0, .int 0, .int 0, .ref (a + 7), .ref (a + 8), .int 0, .ref (a + 9), .ref (a + 10), .ref (a + 11), .ref (a + 12), .ref (a + 13), .null, .int 0]) :: [.inl (rx_cA O 0, 8, .inl (fun _ => 0)), .inl (rx_cA O 0, 8, .inl (fun _ => 0)), .inl (rx_cA O 0, 320, .inl (fun _ => 0)), .inl (rx_cA O 0, 40, .inl (fun _ => 0)), .inl (rx_cA O 0, 40, .inl (fun _ => 0)), .inl (rx_cA O 0, 120, .inl (fun _ => 0)), .inl (rx_cA O 0, 40, .inl (fun _ => 0)), .inl (rx_cA O 0, 960, .inl (fun _ => 0)), .inl (rx_cA O 0, 40, .inl (fun _ => 0)), .inl (rx_cA O 0, 5, .inl (fun _ => 0)), .inl (rx_cA O 0, 5, .inl (fun _ => 0)), .inl (rx_cA O 1, 2, .inl (fun _ => 0)), .inl (rx_cA O 0, 80, .inl (fun _ => 0))]) (rfl) ?_
  refine nx_ald X dX8_init_112 (x := a) (by simp) ?_
  refine nx_bp X dX8_init_113 (v := nI 16) rfl ?_
  refine nx_newi X (t0 := 0) (N := 16) na_int rfl rfl ra_int hO.2.2.1 rfl (by decide) (by decide) (by decide) (by decide) (a := a + 14) (rfl) dX8_init_115 ?_
  refine nx_putF X hin inX8 tyX8 tyX8_ok nmX8 (ci := 8) (k := 0) (i := 24) rfl rfl rfl (by decide) flX8_54 rfl rfl rfl rfl (Nat.le_of_ble_eq_true rfl) dX8_init_117 ?_
  refine nx_es (es2 := .inr (8, [.ref (a + 1), .ref (a + 2), .ref (a + 3), .int 0, .int 0, .ref (a + 4), .int (-1), .ref (a + 5), .ref (a + 6), .int 0, .int 0, .int 0, .int 0, .int 0, .int 0, .int 0, .ref (a + 7), .ref (a + 8), .int 0, .ref (a + 9), .ref (a + 10), .ref (a + 11), .ref (a + 12), .ref (a + 13), .ref (a + 14), .int 0]) :: [.inl (rx_cA O 0, 8, .inl (fun _ => 0)), .inl (rx_cA O 0, 8, .inl (fun _ => 0)), .inl (rx_cA O 0, 320, .inl (fun _ => 0)), .inl (rx_cA O 0, 40, .inl (fun _ => 0)), .inl (rx_cA O 0, 40, .inl (fun _ => 0)), .inl (rx_cA O 0, 120, .inl (fun _ => 0)), .inl (rx_cA O 0, 40, .inl (fun _ => 0)), .inl (rx_cA O 0, 960, .inl (fun _ => 0)), .inl (rx_cA O 0, 40, .inl (fun _ => 0)), .inl (rx_cA O 0, 5, .inl (fun _ => 0)), .inl (rx_cA O 0, 5, .inl (fun _ => 0)), .inl (rx_cA O 1, 2, .inl (fun _ => 0)), .inl (rx_cA O 0, 80, .inl (fun _ => 0)), .inl (rx_cA O 0, 16, .inl (fun _ => 0))]) (rfl) ?_
  refine nx_ic X dX8_init_120 (v := nI 0) rfl ?_
  refine nx_ist X dX8_init_121 rfl (by decide) rfl ?_
  refine nx_es (es2 := nb_model O a 0) ?_ ?_
  · have hf : (fun j : Nat => if j < 0 then (-1 : Int32) else 0) = fun _ => 0 := by
      funext j
      simp
    unfold nb_model
    rw [hf]
  exact nx_wide (by omega) (by omega) (loop 8 0 rfl)
