def cb_cp (σ τ : rx_S) (B C : Nat) : Prop := (∀ j, j < 4 → τ.1 B j = σ.1 C j) ∧ (∀ i, i < 5 → τ.1 (B + 1) i = σ.1 (C + 1) i) ∧ ∀ a, a < 6 → ∀ j, j < 6 → τ.1 (B + 3 + a) j = σ.1 (C + 3 + a) j
theorem a_take_at {α β : Nat → Int32} : ∀ {j : Nat}, j < 6 → a_take α β j = β j := by
  intro j hj
  have : j = 0 ∨ j = 1 ∨ j = 2 ∨ j = 3 ∨ j = 4 ∨ j = 5 := by omega
  rcases this with rfl | rfl | rfl | rfl | rfl | rfl <;> rfl
theorem cb_cp.R {P : Nat → Prop} {σ τ : rx_S} {B C : Nat} {w : Nat → Int32} (h : cb_cp σ τ B C) (hw : cb_R P σ C w) : cb_R P τ B w := by
  refine ⟨fun a ha => ?_, ⟨⟨?_, ?_, ?_, ?_⟩, fun i i5 hi => ?_⟩, fun a h6 ha hp => ?_⟩
  · rw [h.2.2 a ha 5 (by omega)]; exact hw.1 a ha
  · rw [h.1 0 (by omega)]; exact hw.2.1.1.1
  · rw [h.1 1 (by omega)]; exact hw.2.1.1.2.1
  · rw [h.1 2 (by omega)]; exact hw.2.1.1.2.2.1
  · rw [h.1 3 (by omega)]; exact hw.2.1.1.2.2.2
  · rw [h.2.1 i i5]; exact hw.2.1.2 i i5 hi
  · have z := hw.2.2 a h6 ha hp
    unfold cb_an at z ⊢
    rw [h.2.2 a h6 0 (by omega), h.2.2 a h6 1 (by omega), h.2.2 a h6 2 (by omega), h.2.2 a h6 3 (by omega), h.2.2 a h6 4 (by omega), h.2.2 a h6 5 (by omega)]
    exact z
theorem cb_cp.bo {σ τ : rx_S} {B C : Nat} (h : cb_cp σ τ B C) (hw : cb_bo σ C) : cb_bo τ B := fun a ha => by rw [h.2.2 a ha 5 (by omega)]; exact hw a ha
set_option maxHeartbeats 4000000 in
set_option maxRecDepth 100000 in
theorem kX3_takeFrom {l : Launch} {O : rx_O} (hO : cb_O O) {σ : rx_S} {B C : Nat} (hB : cb_B B) (hC : cb_B C) (hd : B + 8 < C ∨ C + 8 < B) (hbo : cb_bo σ C) : rx_MV l O yX3_takeFrom cX3_takeFrom 3 none 1 [.ref B, .ref C] σ (fun τ => cb_fr B σ τ ∧ cb_cp σ τ B C) := by
  refine rx_Met_of (own := RX3) rfl hO.2.1 vsX3_takeFrom.2.2.2.2.2 (Nat.le_of_ble_eq_true rfl) rfl (fun p e s m args below meth c X => ?_)
  have hne : C ≠ B := by omega
  have lp2 : ∀ (k : Nat) (i : Nat) (x : Int32) (τ : rx_S), (i + k = 6) → (x = nI i) → (cb_fr B σ τ) → (∀ j, j < 4 → τ.1 B j = σ.1 C j) → (∀ j, j < 5 → τ.1 (B + 1) j = σ.1 (C + 1) j) → (∀ a, a < i → ∀ j, j < 6 → τ.1 (B + 3 + a) j = σ.1 (C + 3 + a) j) → rx_J O 3 p l e (rx_lv 1) s m args below meth c (rx_QV O below args s (fun τ => cb_fr B σ τ ∧ cb_cp σ τ B C)) 59 [(0, .ref B), (1, .ref C), (2, .int x)] [] τ := by
    intro k
    induction k with
    | zero =>
      intro i x τ hi hx hf h4 h5 h6
      obtain rfl : i = 6 := by omega
      subst hx
      refine rx_iload_n (i := 2) X dX3_takeFrom_59 rfl rfl ?_
      refine rx_bipush (v := 6) X dX3_takeFrom_60 (by decide) ?_
      refine rx_icmp_ge_t X dX3_takeFrom_62 (Int32.le_refl _) ?_
      refine rx_vret X dX3_takeFrom_86 ?_
      exact ⟨hf, h4, h5, h6⟩
    | succ k ih =>
      intro i x τ hi hx hf h4 h5 h6
      subst hx
      refine rx_iload_n (i := 2) X dX3_takeFrom_59 rfl rfl ?_
      refine rx_bipush (v := 6) X dX3_takeFrom_60 (by decide) ?_
      refine rx_icmp_ge_f X dX3_takeFrom_62 (nI_ge (b := 6) (by omega) (by decide)) ?_
      refine rx_aload_n (i := 0) X dX3_takeFrom_65 rfl rfl ?_
      refine rx_getR (ci := 3) (i := 5) X (kb_0 hO hB) rfl rfl (by decide) inX3 flX3_15 dX3_takeFrom_66 ?_
      refine rx_iload_n (i := 2) X dX3_takeFrom_69 rfl rfl ?_
      refine rx_aaldN (j := i) X (kb_2 hO hB) hO.2.2.2.2.2.1 rfl (by omega) (by decide) (kb_el (by omega)) dX3_takeFrom_70 ?_
      refine rx_aload_n (i := 1) X dX3_takeFrom_71 rfl rfl ?_
      refine rx_getR (ci := 3) (i := 5) X (kb_0 hO hC) rfl rfl (by decide) inX3 flX3_15 dX3_takeFrom_72 ?_
      refine rx_iload_n (i := 2) X dX3_takeFrom_75 rfl rfl ?_
      refine rx_aaldN (j := i) X (kb_2 hO hC) hO.2.2.2.2.2.1 rfl (by omega) (by decide) (kb_el (by omega)) dX3_takeFrom_76 ?_
      refine rx_callVv (ci := 1) X vsX1_takeFrom mlX3_37 (kX1_takeFrom hO (kb_a hO hB (a := i) (by omega)) (kb_a hO hC (a := i) (by omega)) (by omega) (by rw [hf.2 _ (by omega)]; exact hbo i (by omega))) (kb_a hO hB (by omega)) rfl rfl (by decide) (by decide) dX3_takeFrom_77 rfl (Nat.le_of_ble_eq_true rfl) (fun t77 h77 => ?_)
      subst h77
      refine rx_iinc (i := 2) (lo2 := [(0, .ref _), (1, .ref _), (2, .int _)]) X dX3_takeFrom_80 rfl (rx_inc1 _) (by decide) rfl ?_
      refine rx_goto X dX3_takeFrom_83 ?_
      refine ih (i + 1) _ _ (by omega) (nI_1 i) (hf.ua (by omega) (by omega)) (fun j hj => ?_) (fun j hj => ?_) (fun a ha j hj => ?_)
      · rw [rx_ua_ne (by omega)]; exact h4 j hj
      · rw [rx_ua_ne (by omega)]; exact h5 j hj
      · by_cases e : a = i
        · subst e
          rw [rx_ua_s, a_take_at hj, hf.2 _ (by omega)]
        · rw [rx_ua_ne (by omega)]; exact h6 a (by omega) j hj
  have lp1 : ∀ (k : Nat) (i : Nat) (x : Int32) (τ : rx_S), (i + k = 5) → (x = nI i) → (cb_fr B σ τ) → (∀ j, j < 4 → τ.1 B j = σ.1 C j) → (∀ j, j < i → τ.1 (B + 1) j = σ.1 (C + 1) j) → rx_J O 3 p l e (rx_lv 1) s m args below meth c (rx_QV O below args s (fun τ => cb_fr B σ τ ∧ cb_cp σ τ B C)) 34 [(0, .ref B), (1, .ref C), (2, .int x)] [] τ := by
    intro k
    induction k with
    | zero =>
      intro i x τ hi hx hf h4 h5
      obtain rfl : i = 5 := by omega
      subst hx
      refine rx_iload_n (i := 2) X dX3_takeFrom_34 rfl rfl ?_
      refine rx_iconst (v := 5) X dX3_takeFrom_35 (by decide) ?_
      refine rx_icmp_ge_t X dX3_takeFrom_36 (Int32.le_refl _) ?_
      refine rx_iconst (v := 0) X dX3_takeFrom_57 (by decide) ?_
      refine rx_istore_n (i := 2) (lo2 := [(0, .ref _), (1, .ref _), (2, .int _)]) X dX3_takeFrom_58 rfl (by decide) rfl ?_
      exact lp2 6 0 _ _ rfl rfl hf h4 h5 (fun a ha => absurd ha (by omega))
    | succ k ih =>
      intro i x τ hi hx hf h4 h5
      subst hx
      refine rx_iload_n (i := 2) X dX3_takeFrom_34 rfl rfl ?_
      refine rx_iconst (v := 5) X dX3_takeFrom_35 (by decide) ?_
      refine rx_icmp_ge_f X dX3_takeFrom_36 (nI_ge (b := 5) (by omega) (by decide)) ?_
      refine rx_aload_n (i := 0) X dX3_takeFrom_39 rfl rfl ?_
      refine rx_getR (ci := 3) (i := 4) X (kb_0 hO hB) rfl rfl (by decide) inX3 flX3_9 dX3_takeFrom_40 ?_
      refine rx_iload_n (i := 2) X dX3_takeFrom_43 rfl rfl ?_
      refine rx_aload_n (i := 1) X dX3_takeFrom_44 rfl rfl ?_
      refine rx_getR (ci := 3) (i := 4) X (kb_0 hO hC) rfl rfl (by decide) inX3 flX3_9 dX3_takeFrom_45 ?_
      refine rx_iload_n (i := 2) X dX3_takeFrom_48 rfl rfl ?_
      refine rx_ialdN (j := i) X (kb_1 hO hC) hO.2.2.1 rfl (by omega) (by decide) dX3_takeFrom_49 ?_
      refine rx_iastN (j := i) X (kb_1 hO hB) hO.2.2.1 rfl (by omega) (by decide) dX3_takeFrom_50 ?_
      refine rx_iinc (i := 2) (lo2 := [(0, .ref _), (1, .ref _), (2, .int _)]) X dX3_takeFrom_51 rfl (rx_inc1 _) (by decide) rfl ?_
      refine rx_goto X dX3_takeFrom_54 ?_
      refine ih (i + 1) _ _ (by omega) (nI_1 i) (hf.u1 (by omega) (by omega)) (fun j hj => ?_) (fun j hj => ?_)
      · rw [rx_u_ne (by omega)]; exact h4 j hj
      · rw [rx_u_s]
        by_cases e : j = i
        · subst e
          rw [upd_s, hf.2 _ (by omega)]
        · rw [upd_n e]; exact h5 j (by omega)
  refine rx_aload_n (i := 0) X dX3_takeFrom_0 rfl rfl ?_
  refine rx_aload_n (i := 1) X dX3_takeFrom_1 rfl rfl ?_
  refine rx_getI (ci := 3) (i := 0) X (kb_0 hO hC) rfl rfl (by decide) inX3 flX3_20 dX3_takeFrom_2 ?_
  refine rx_putI (ci := 3) (i := 0) X (kb_0 hO hB) rfl rfl (by decide) inX3 tyX3 tyX3_ok nmX3 flX3_20 rfl rfl dX3_takeFrom_5 ?_
  refine rx_aload_n (i := 0) X dX3_takeFrom_8 rfl rfl ?_
  refine rx_aload_n (i := 1) X dX3_takeFrom_9 rfl rfl ?_
  refine rx_getI (ci := 3) (i := 1) X (kb_0 hO hC) rfl rfl (by decide) inX3 flX3_24 dX3_takeFrom_10 ?_
  refine rx_top (show _ = σ.1 C 1 by simp only [rx_u_ne hne]) ?_
  refine rx_putI (ci := 3) (i := 1) X (kb_0 hO hB) rfl rfl (by decide) inX3 tyX3 tyX3_ok nmX3 flX3_24 rfl rfl dX3_takeFrom_13 ?_
  refine rx_aload_n (i := 0) X dX3_takeFrom_16 rfl rfl ?_
  refine rx_aload_n (i := 1) X dX3_takeFrom_17 rfl rfl ?_
  refine rx_getI (ci := 3) (i := 2) X (kb_0 hO hC) rfl rfl (by decide) inX3 flX3_27 dX3_takeFrom_18 ?_
  refine rx_top (show _ = σ.1 C 2 by simp only [rx_u_ne hne]) ?_
  refine rx_putI (ci := 3) (i := 2) X (kb_0 hO hB) rfl rfl (by decide) inX3 tyX3 tyX3_ok nmX3 flX3_27 rfl rfl dX3_takeFrom_21 ?_
  refine rx_aload_n (i := 0) X dX3_takeFrom_24 rfl rfl ?_
  refine rx_aload_n (i := 1) X dX3_takeFrom_25 rfl rfl ?_
  refine rx_getI (ci := 3) (i := 3) X (kb_0 hO hC) rfl rfl (by decide) inX3 flX3_30 dX3_takeFrom_26 ?_
  refine rx_top (show _ = σ.1 C 3 by simp only [rx_u_ne hne]) ?_
  refine rx_putI (ci := 3) (i := 3) X (kb_0 hO hB) rfl rfl (by decide) inX3 tyX3 tyX3_ok nmX3 flX3_30 rfl rfl dX3_takeFrom_29 ?_
  refine rx_iconst (v := 0) X dX3_takeFrom_32 (by decide) ?_
  refine rx_istore_n (i := 2) (lo2 := [(0, .ref _), (1, .ref _), (2, .int _)]) X dX3_takeFrom_33 rfl (by decide) rfl ?_
  refine lp1 5 0 _ _ rfl rfl (((((cb_fr.rfl' B σ).u1 (by omega) (by omega)).u1 (by omega) (by omega)).u1 (by omega) (by omega)).u1 (by omega) (by omega)) (fun j hj => ?_) (fun j hj => absurd hj (by omega))
  have : j = 0 ∨ j = 1 ∨ j = 2 ∨ j = 3 := by omega
  simp only [rx_u_s]
  rcases this with rfl | rfl | rfl | rfl <;> rfl
/-- no bit stands but those of the ants that are -/
def w_C (w : Nat → Int32) : Prop := w_B w ∧ ∀ a, rx_N (w 3) ≤ a → a < 6 → ¬ w_has (w 4) a
def bf (x : Int32) : Nat → Int32
  | 0 => 0
  | n + 1 => if w_has x n then bf x n ||| 1 <<< (nI n &&& 31) else bf x n
theorem bf_s (x : Int32) (n : Nat) : bf x (n + 1) = if w_has x n then bf x n ||| 1 <<< (nI n &&& 31) else bf x n := rfl
theorem w_best_s (w : Nat → Int32) (n : Nat) : w_best w (n + 1) = if w (34 + w_best w n) < w (34 + (n + 1)) then n + 1 else w_best w n := rfl
theorem bf_all : ∀ q, q < 64 → bf (nI q) 6 = nI q := by decide +kernel
theorem bf_le {x : Int32} {n : Nat} (h : ∀ a, n ≤ a → a < 6 → ¬ w_has x a) : ∀ m, n + m ≤ 6 → bf x (n + m) = bf x n
  | 0, _ => rfl
  | m + 1, hm => by
    show bf x ((n + m) + 1) = _
    rw [bf_s, if_neg (h _ (by omega) (by omega))]
    exact bf_le h m (by omega)
theorem w_C.bits {w : Nat → Int32} (h : w_C w) (h6 : rx_N (w 3) ≤ 6) : bf (w 4) (rx_N (w 3)) = w 4 := by
  obtain ⟨q, hq, e⟩ := h.1.at
  have := bf_le (x := w 4) (n := rx_N (w 3)) h.2 (6 - rx_N (w 3)) (by omega)
  rw [← this, show rx_N (w 3) + (6 - rx_N (w 3)) = 6 by omega, e]
  exact bf_all q hq
set_option maxHeartbeats 4000000 in
set_option maxRecDepth 100000 in
theorem kX3_arrivedBits {l : Launch} {O : rx_O} (hO : cb_O O) {σ : rx_S} {B : Nat} {w : Nat → Int32} (hB : cb_B B) (h : cb_R cb_T σ B w) (h3 : 0 ≤ (w 3).toInt ∧ (w 3).toInt ≤ 6) (hC : w_C w) : rx_MI l O yX3_arrivedBits cX3_arrivedBits 3 (some .int) 0 [.ref B] σ (fun r τ => w 4 = r ∧ σ = τ) := by
  refine rx_Met_of (own := RX3) rfl hO.2.1 vsX3_arrivedBits.2.2.2.2.2 (Nat.le_of_ble_eq_true rfl) rfl (fun p e s m args below meth c X => ?_)
  have n3 := rx_Ni h3.1
  have loop : ∀ (k : Nat) (i : Nat) (x z : Int32), (i + k = rx_N (w 3)) → (x = nI i) → (z = bf (w 4) i) → rx_J O 3 p l e (rx_lv 0) s m args below meth c (rx_QI O below args s (fun r τ => w 4 = r ∧ σ = τ)) 4 [(0, .ref B), (1, .int z), (2, .int x)] [] σ := by
    intro k
    induction k with
    | zero =>
      intro i x z hi hx hz
      obtain rfl : i = rx_N (w 3) := by omega
      subst hx
      refine rx_iload_n (i := 2) X dX3_arrivedBits_4 rfl rfl ?_
      refine rx_aload_n (i := 0) X dX3_arrivedBits_5 rfl rfl ?_
      refine rx_getI (ci := 3) (i := 3) X (kb_0 hO hB) rfl rfl (by decide) inX3 flX3_30 dX3_arrivedBits_6 ?_
      refine rx_top (h.2.1.1.2.2.2.trans (rx_nN h3.1)) ?_
      refine rx_icmp_ge_t X dX3_arrivedBits_9 (Int32.le_refl _) ?_
      refine rx_iload_n (i := 1) X dX3_arrivedBits_36 rfl rfl ?_
      refine rx_iret X dX3_arrivedBits_37 ?_
      exact ⟨by rw [hz, hC.bits (by omega)], rfl⟩
    | succ k ih =>
      intro i x z hi hx hz
      subst hx
      refine rx_iload_n (i := 2) X dX3_arrivedBits_4 rfl rfl ?_
      refine rx_aload_n (i := 0) X dX3_arrivedBits_5 rfl rfl ?_
      refine rx_getI (ci := 3) (i := 3) X (kb_0 hO hB) rfl rfl (by decide) inX3 flX3_30 dX3_arrivedBits_6 ?_
      refine rx_top (h.2.1.1.2.2.2.trans (rx_nN h3.1)) ?_
      refine rx_icmp_ge_f X dX3_arrivedBits_9 (nI_ge (b := rx_N (w 3)) (by omega) (by omega)) ?_
      refine rx_aload_n (i := 0) X dX3_arrivedBits_12 rfl rfl ?_
      refine rx_getR (ci := 3) (i := 5) X (kb_0 hO hB) rfl rfl (by decide) inX3 flX3_15 dX3_arrivedBits_13 ?_
      refine rx_iload_n (i := 2) X dX3_arrivedBits_16 rfl rfl ?_
      refine rx_aaldN (j := i) X (kb_2 hO hB) hO.2.2.2.2.2.1 rfl (by omega) (by decide) (kb_el (by omega)) dX3_arrivedBits_17 ?_
      refine rx_getZ (ci := 1) (i := 5) X (kb_a hO hB (by omega)) rfl rfl (by decide) inX1 flX3_61 dX3_arrivedBits_18 ?_
      refine rx_if_eq X dX3_arrivedBits_21 (fun h21 => ?_) (fun h21 => ?_)
      · refine rx_iinc (i := 2) (lo2 := [(0, .ref _), (1, .int _), (2, .int _)]) X dX3_arrivedBits_30 rfl (rx_inc1 _) (by decide) rfl ?_
        refine rx_goto X dX3_arrivedBits_33 ?_
        refine ih (i + 1) _ _ (by omega) (nI_1 i) ?_
        rw [hz, bf_s, if_neg (fun q => absurd h21 ((h.2.2 i (by omega) (by omega) trivial).has.mpr q))]
      · refine rx_iload_n (i := 1) X dX3_arrivedBits_24 rfl rfl ?_
        refine rx_iconst (v := 1) X dX3_arrivedBits_25 (by decide) ?_
        refine rx_iload_n (i := 2) X dX3_arrivedBits_26 rfl rfl ?_
        refine rx_ishl X dX3_arrivedBits_27 ?_
        refine rx_ior X dX3_arrivedBits_28 ?_
        refine rx_istore_n (i := 1) (lo2 := [(0, .ref _), (1, .int _), (2, .int _)]) X dX3_arrivedBits_29 rfl (by decide) rfl ?_
        refine rx_iinc (i := 2) (lo2 := [(0, .ref _), (1, .int _), (2, .int _)]) X dX3_arrivedBits_30 rfl (rx_inc1 _) (by decide) rfl ?_
        refine rx_goto X dX3_arrivedBits_33 ?_
        refine ih (i + 1) _ _ (by omega) (nI_1 i) ?_
        rw [hz, bf_s, if_pos ((h.2.2 i (by omega) (by omega) trivial).has.mp h21)]
  refine rx_iconst (v := 0) X dX3_arrivedBits_0 (by decide) ?_
  refine rx_istore_n (i := 1) (lo2 := [(0, .ref _), (1, .int _)]) X dX3_arrivedBits_1 rfl (by decide) rfl ?_
  refine rx_iconst (v := 0) X dX3_arrivedBits_2 (by decide) ?_
  refine rx_istore_n (i := 2) (lo2 := [(0, .ref _), (1, .int _), (2, .int _)]) X dX3_arrivedBits_3 rfl (by decide) rfl ?_
  exact loop (rx_N (w 3)) 0 _ _ (by omega) rfl rfl
set_option maxHeartbeats 4000000 in
set_option maxRecDepth 100000 in
theorem kX3_firstAhead {l : Launch} {O : rx_O} (hO : cb_O O) {σ : rx_S} {B : Nat} {w : Nat → Int32} (hB : cb_B B) (h : cb_R cb_T σ B w) (h3 : 1 ≤ (w 3).toInt ∧ (w 3).toInt ≤ 6) : rx_MI l O yX3_firstAhead cX3_firstAhead 3 (some .int) 0 [.ref B] σ (fun r τ => nI (w_best w (rx_N (w 3) - 1)) = r ∧ σ = τ) := by
  refine rx_Met_of (own := RX3) rfl hO.2.1 vsX3_firstAhead.2.2.2.2.2 (Nat.le_of_ble_eq_true rfl) rfl (fun p e s m args below meth c X => ?_)
  have n3 := rx_Ni (x := w 3) (by omega)
  have loop : ∀ (k : Nat) (i : Nat) (x z : Int32), (i + 1 + k = rx_N (w 3)) → (x = nI (i + 1)) → (z = nI (w_best w i)) → rx_J O 3 p l e (rx_lv 0) s m args below meth c (rx_QI O below args s (fun r τ => nI (w_best w (rx_N (w 3) - 1)) = r ∧ σ = τ)) 4 [(0, .ref B), (1, .int z), (2, .int x)] [] σ := by
    intro k
    induction k with
    | zero =>
      intro i x z hi hx hz
      replace hi : i + 1 = rx_N (w 3) := by omega
      subst hx
      refine rx_iload_n (i := 2) X dX3_firstAhead_4 rfl rfl ?_
      refine rx_aload_n (i := 0) X dX3_firstAhead_5 rfl rfl ?_
      refine rx_getI (ci := 3) (i := 3) X (kb_0 hO hB) rfl rfl (by decide) inX3 flX3_30 dX3_firstAhead_6 ?_
      refine rx_top (h.2.1.1.2.2.2.trans (rx_nN (show 0 ≤ (w 3).toInt by omega))) ?_
      refine rx_icmp_ge_t X dX3_firstAhead_9 (by rw [← hi]; exact Int32.le_refl _) ?_
      refine rx_iload_n (i := 1) X dX3_firstAhead_41 rfl rfl ?_
      refine rx_iret X dX3_firstAhead_42 ?_
      refine ⟨?_, rfl⟩
      rw [hz, ← hi]
      rfl
    | succ k ih =>
      intro i x z hi hx hz
      subst hx
      subst hz
      have hbe := w_best_le w i
      refine rx_iload_n (i := 2) X dX3_firstAhead_4 rfl rfl ?_
      refine rx_aload_n (i := 0) X dX3_firstAhead_5 rfl rfl ?_
      refine rx_getI (ci := 3) (i := 3) X (kb_0 hO hB) rfl rfl (by decide) inX3 flX3_30 dX3_firstAhead_6 ?_
      refine rx_top (h.2.1.1.2.2.2.trans (rx_nN (show 0 ≤ (w 3).toInt by omega))) ?_
      refine rx_icmp_ge_f X dX3_firstAhead_9 (nI_ge (b := rx_N (w 3)) (by omega) (by omega)) ?_
      refine rx_aload_n (i := 0) X dX3_firstAhead_12 rfl rfl ?_
      refine rx_getR (ci := 3) (i := 5) X (kb_0 hO hB) rfl rfl (by decide) inX3 flX3_15 dX3_firstAhead_13 ?_
      refine rx_iload_n (i := 2) X dX3_firstAhead_16 rfl rfl ?_
      refine rx_aaldN (j := i + 1) X (kb_2 hO hB) hO.2.2.2.2.2.1 rfl (by omega) (by decide) (kb_el (by omega)) dX3_firstAhead_17 ?_
      refine rx_getI (ci := 1) (i := 4) X (kb_a hO hB (by omega)) rfl rfl (by decide) inX1 flX3_65 dX3_firstAhead_18 ?_
      refine rx_top (h.2.2 (i + 1) (by omega) (by omega) trivial).2.2.2.2.1 ?_
      refine rx_aload_n (i := 0) X dX3_firstAhead_21 rfl rfl ?_
      refine rx_getR (ci := 3) (i := 5) X (kb_0 hO hB) rfl rfl (by decide) inX3 flX3_15 dX3_firstAhead_22 ?_
      refine rx_iload_n (i := 1) X dX3_firstAhead_25 rfl rfl ?_
      refine rx_aaldN (j := w_best w i) X (kb_2 hO hB) hO.2.2.2.2.2.1 rfl (by omega) (by decide) (kb_el (by omega)) dX3_firstAhead_26 ?_
      refine rx_getI (ci := 1) (i := 4) X (kb_a hO hB (by omega)) rfl rfl (by decide) inX1 flX3_65 dX3_firstAhead_27 ?_
      refine rx_top (h.2.2 (w_best w i) (by omega) (by omega) trivial).2.2.2.2.1 ?_
      refine rx_icmp_le X dX3_firstAhead_30 (fun h30 => ?_) (fun h30 => ?_)
      · refine rx_iinc (i := 2) (lo2 := [(0, .ref _), (1, .int _), (2, .int _)]) X dX3_firstAhead_35 rfl (rx_inc1 _) (by decide) rfl ?_
        refine rx_goto X dX3_firstAhead_38 ?_
        refine ih (i + 1) _ _ (by omega) (nI_1 (i + 1)) ?_
        rw [w_best_s, if_neg (Int32.not_lt.mpr h30)]
      · refine rx_iload_n (i := 2) X dX3_firstAhead_33 rfl rfl ?_
        refine rx_istore_n (i := 1) (lo2 := [(0, .ref _), (1, .int _), (2, .int _)]) X dX3_firstAhead_34 rfl (by decide) rfl ?_
        refine rx_iinc (i := 2) (lo2 := [(0, .ref _), (1, .int _), (2, .int _)]) X dX3_firstAhead_35 rfl (rx_inc1 _) (by decide) rfl ?_
        refine rx_goto X dX3_firstAhead_38 ?_
        refine ih (i + 1) _ _ (by omega) (nI_1 (i + 1)) ?_
        rw [w_best_s, if_pos (Int32.not_le.mp h30)]
  refine rx_iconst (v := 0) X dX3_firstAhead_0 (by decide) ?_
  refine rx_istore_n (i := 1) (lo2 := [(0, .ref _), (1, .int _)]) X dX3_firstAhead_1 rfl (by decide) rfl ?_
  refine rx_iconst (v := 1) X dX3_firstAhead_2 (by decide) ?_
  refine rx_istore_n (i := 2) (lo2 := [(0, .ref _), (1, .int _), (2, .int _)]) X dX3_firstAhead_3 rfl (by decide) rfl ?_
  exact loop (rx_N (w 3) - 1) 0 _ _ (by omega) rfl rfl
set_option maxHeartbeats 4000000 in
set_option maxRecDepth 100000 in
theorem kX3_clear {l : Launch} {O : rx_O} (hO : cb_O O) {σ : rx_S} {B : Nat} {w : Nat → Int32} (hB : cb_B B) (hbo : cb_bo σ B) (h0 : w 0 = 0 ∧ w 1 = 0 ∧ w 2 = 0 ∧ w 3 = 0) : rx_MV l O yX3_clear cX3_clear 1 none 0 [.ref B] σ (fun τ => cb_fr B σ τ ∧ cb_R cb_T τ B w) := by
  refine rx_Met_of (own := RX3) rfl hO.2.1 vsX3_clear.2.2.2.2.2 (Nat.le_of_ble_eq_true rfl) rfl (fun p e s m args below meth c X => ?_)
  refine rx_aload_n (i := 0) X dX3_clear_0 rfl rfl ?_
  refine rx_iconst (v := 0) X dX3_clear_1 (by decide) ?_
  refine rx_putI (ci := 3) (i := 0) X (kb_0 hO hB) rfl rfl (by decide) inX3 tyX3 tyX3_ok nmX3 flX3_20 rfl rfl dX3_clear_2 ?_
  refine rx_aload_n (i := 0) X dX3_clear_5 rfl rfl ?_
  refine rx_iconst (v := 0) X dX3_clear_6 (by decide) ?_
  refine rx_putI (ci := 3) (i := 1) X (kb_0 hO hB) rfl rfl (by decide) inX3 tyX3 tyX3_ok nmX3 flX3_24 rfl rfl dX3_clear_7 ?_
  refine rx_aload_n (i := 0) X dX3_clear_10 rfl rfl ?_
  refine rx_iconst (v := 0) X dX3_clear_11 (by decide) ?_
  refine rx_putI (ci := 3) (i := 2) X (kb_0 hO hB) rfl rfl (by decide) inX3 tyX3 tyX3_ok nmX3 flX3_27 rfl rfl dX3_clear_12 ?_
  refine rx_aload_n (i := 0) X dX3_clear_15 rfl rfl ?_
  refine rx_iconst (v := 0) X dX3_clear_16 (by decide) ?_
  refine rx_putI (ci := 3) (i := 3) X (kb_0 hO hB) rfl rfl (by decide) inX3 tyX3 tyX3_ok nmX3 flX3_30 rfl rfl dX3_clear_17 ?_
  refine rx_vret X dX3_clear_20 ?_
  refine ⟨((((cb_fr.rfl' B σ).u1 (by omega) (by omega)).u1 (by omega) (by omega)).u1 (by omega) (by omega)).u1 (by omega) (by omega), fun a ha => ?_, ⟨?_, fun i i5 hi => ?_⟩, fun a h6 ha hp => ?_⟩
  · simp only [rx_u_ne (show B + 3 + a ≠ B by omega)]; exact hbo a ha
  · simp only [rx_u_s]; exact ⟨h0.1.symm, h0.2.1.symm, h0.2.2.1.symm, h0.2.2.2.symm⟩
  · rw [h0.2.2.1] at hi; exact absurd hi (Nat.not_lt_zero i)
  · rw [h0.2.2.2] at ha; exact absurd ha (Nat.not_lt_zero a)
set_option maxHeartbeats 4000000 in
set_option maxRecDepth 100000 in
theorem kX3_addPull {l : Launch} {O : rx_O} (hO : cb_O O) {σ : rx_S} {B : Nat} {w : Nat → Int32} {v : Int32} (hB : cb_B B) (h : cb_R cb_T σ B w) (h2 : 0 ≤ (w 2).toInt ∧ (w 2).toInt < 5) : rx_MV l O yX3_addPull cX3_addPull 2 none 0 [.ref B, .int v] σ (fun τ => cb_fr B σ τ ∧ cb_R cb_T τ B (upd (upd w 2 (w 2 + 1)) (5 + rx_N (w 2)) v)) := by
  refine rx_Met_of (own := RX3) rfl hO.2.1 vsX3_addPull.2.2.2.2.2 (Nat.le_of_ble_eq_true rfl) rfl (fun p e s m args below meth c X => ?_)
  refine rx_aload_n (i := 0) X dX3_addPull_0 rfl rfl ?_
  refine rx_getI (ci := 3) (i := 2) X (kb_0 hO hB) rfl rfl (by decide) inX3 flX3_27 dX3_addPull_1 ?_
  refine rx_top h.2.1.1.2.2.1 ?_
  refine rx_iconst (v := 5) X dX3_addPull_4 (by decide) ?_
  refine rx_icmp_ge_f X dX3_addPull_5 (by rw [Int32.le_iff_toInt_le]; show ¬ 5 ≤ (w 2).toInt; omega) ?_
  refine rx_aload_n (i := 0) X dX3_addPull_8 rfl rfl ?_
  refine rx_getR (ci := 3) (i := 4) X (kb_0 hO hB) rfl rfl (by decide) inX3 flX3_9 dX3_addPull_9 ?_
  refine rx_aload_n (i := 0) X dX3_addPull_12 rfl rfl ?_
  refine rx_getI (ci := 3) (i := 2) X (kb_0 hO hB) rfl rfl (by decide) inX3 flX3_27 dX3_addPull_13 ?_
  refine rx_top h.2.1.1.2.2.1 ?_
  refine rx_iload_n (i := 1) X dX3_addPull_16 rfl rfl ?_
  refine rx_iastN (j := rx_N (w 2)) X (kb_1 hO hB) hO.2.2.1 (rx_nN h2.1) (rx_Nlt h2.1 (by omega)) (by decide) dX3_addPull_17 ?_
  refine rx_aload_n (i := 0) X dX3_addPull_18 rfl rfl ?_
  refine rx_dup X dX3_addPull_19 rfl ?_
  refine rx_getI (ci := 3) (i := 2) X (kb_0 hO hB) rfl rfl (by decide) inX3 flX3_27 dX3_addPull_20 ?_
  refine rx_top (show _ = w 2 by rw [rx_u_ne (by omega)]; exact h.2.1.1.2.2.1) ?_
  refine rx_iconst (v := 1) X dX3_addPull_23 (by decide) ?_
  refine rx_iadd X dX3_addPull_24 ?_
  refine rx_putI (ci := 3) (i := 2) X (kb_0 hO hB) rfl rfl (by decide) inX3 tyX3 tyX3_ok nmX3 flX3_27 rfl rfl dX3_addPull_25 ?_
  refine rx_vret X dX3_addPull_28 ?_
  have n2 := rx_Ni h2.1
  refine ⟨((cb_fr.rfl' B σ).u1 (by omega) (by omega)).u1 (by omega) (by omega), ?_⟩
  have e2 : rx_N (w 2 + 1) = rx_N (w 2) + 1 := (pz_inc ⟨h2.1, by omega⟩).2
  refine ⟨fun a ha => ?_, ⟨?_, fun i i5 hi => ?_⟩, fun a h6 ha hp => ?_⟩
  · rw [rx_u_ne (by omega), rx_u_ne (by omega)]; exact h.1 a ha
  · rw [rx_u_s, rx_u_ne (by omega)]
    exact ⟨h.2.1.1.1.trans (by rw [upd_n (by omega), upd_n (by omega)]), h.2.1.1.2.1.trans (by rw [upd_n (by omega), upd_n (by omega)]), (show _ = w 2 + 1 from rfl).trans (by rw [upd_n (by omega), upd_s]), h.2.1.1.2.2.2.trans (by rw [upd_n (by omega), upd_n (by omega)])⟩
  · rw [upd_n (by omega), upd_s, e2] at hi
    rw [rx_u_ne (by omega), rx_u_s]
    by_cases e : i = rx_N (w 2)
    · subst e; rw [upd_s, upd_s]
    · rw [upd_n e, upd_n (by omega), upd_n (by omega)]; exact h.2.1.2 i i5 (by omega)
  · rw [upd_n (by omega), upd_n (by omega)] at ha
    rw [rx_u_ne (by omega), rx_u_ne (by omega)]
    exact (h.2.2 a h6 ha hp).sim ⟨by rw [upd_n (by omega), upd_n (by omega)], by rw [upd_n (by omega), upd_n (by omega)], by rw [upd_n (by omega), upd_n (by omega)], by rw [upd_n (by omega), upd_n (by omega)], by rw [upd_n (by omega), upd_n (by omega)], by rw [upd_n (by omega), upd_n (by omega)]⟩
theorem zero_no : ∀ a, a < 6 → ¬ w_has 0 a := by decide +kernel
set_option maxHeartbeats 4000000 in
set_option maxRecDepth 100000 in
theorem kX3_addAnt {l : Launch} {O : rx_O} (hO : cb_O O) {σ : rx_S} {B : Nat} {w : Nat → Int32} {k v1 v2 v3 : Int32} (hB : cb_B B) (h : cb_R cb_T σ B w) (h3 : 0 ≤ (w 3).toInt ∧ (w 3).toInt < 6) (h4 : w 4 = 0) : rx_MV l O yX3_addAnt cX3_addAnt 5 none 1 [.ref B, .int k, .int v1, .int v2, .int v3] σ (fun τ => cb_fr B σ τ ∧ cb_R cb_T τ B (pz_rd w (rx_N (w 3)) k v1 v2 v3)) := by
  refine rx_Met_of (own := RX3) rfl hO.2.1 vsX3_addAnt.2.2.2.2.2 (Nat.le_of_ble_eq_true rfl) rfl (fun p e s m args below meth c X => ?_)
  refine rx_aload_n (i := 0) X dX3_addAnt_0 rfl rfl ?_
  refine rx_getI (ci := 3) (i := 3) X (kb_0 hO hB) rfl rfl (by decide) inX3 flX3_30 dX3_addAnt_1 ?_
  refine rx_top h.2.1.1.2.2.2 ?_
  refine rx_bipush (v := 6) X dX3_addAnt_4 (by decide) ?_
  refine rx_icmp_ge_f X dX3_addAnt_6 (by rw [Int32.le_iff_toInt_le]; show ¬ 6 ≤ (w 3).toInt; omega) ?_
  refine rx_aload_n (i := 0) X dX3_addAnt_9 rfl rfl ?_
  refine rx_getR (ci := 3) (i := 5) X (kb_0 hO hB) rfl rfl (by decide) inX3 flX3_15 dX3_addAnt_10 ?_
  refine rx_aload_n (i := 0) X dX3_addAnt_13 rfl rfl ?_
  refine rx_getI (ci := 3) (i := 3) X (kb_0 hO hB) rfl rfl (by decide) inX3 flX3_30 dX3_addAnt_14 ?_
  refine rx_top h.2.1.1.2.2.2 ?_
  refine rx_aaldN (j := rx_N (w 3)) X (kb_2 hO hB) hO.2.2.2.2.2.1 (rx_nN h3.1) (rx_Nlt h3.1 (by omega)) (by decide) (kb_el (rx_Nlt h3.1 (by omega))) dX3_addAnt_17 ?_
  refine rx_iload_n (i := 1) X dX3_addAnt_18 rfl rfl ?_
  refine rx_iload_n (i := 2) X dX3_addAnt_19 rfl rfl ?_
  refine rx_iload_n (i := 3) X dX3_addAnt_20 rfl rfl ?_
  refine rx_iload (i := 4) X dX3_addAnt_21 rfl ?_
  refine rx_callVv (ci := 1) X vsX1_tell mlX3_33 (kX1_tell hO (kb_a hO hB (rx_Nlt h3.1 (by omega)))) (kb_a hO hB (rx_Nlt h3.1 (by omega))) rfl rfl (by decide) (by decide) dX3_addAnt_23 rfl (Nat.le_of_ble_eq_true rfl) (fun t23 h23 => ?_)
  subst h23
  refine rx_aload_n (i := 0) X dX3_addAnt_26 rfl rfl ?_
  refine rx_dup X dX3_addAnt_27 rfl ?_
  refine rx_getI (ci := 3) (i := 3) X (kb_0 hO hB) rfl rfl (by decide) inX3 flX3_30 dX3_addAnt_28 ?_
  refine rx_top (show _ = w 3 by rw [rx_ua_ne (by omega)]; exact h.2.1.1.2.2.2) ?_
  refine rx_iconst (v := 1) X dX3_addAnt_31 (by decide) ?_
  refine rx_iadd X dX3_addAnt_32 ?_
  refine rx_putI (ci := 3) (i := 3) X (kb_0 hO hB) rfl rfl (by decide) inX3 tyX3 tyX3_ok nmX3 flX3_30 rfl rfl dX3_addAnt_33 ?_
  refine rx_vret X dX3_addAnt_36 ?_
  have n3 := rx_Ni h3.1
  refine ⟨((cb_fr.rfl' B σ).ua (by omega) (by omega)).u1 (by omega) (by omega), ?_⟩
  have e3 : rx_N (w 3 + 1) = rx_N (w 3) + 1 := (pz_inc ⟨h3.1, by omega⟩).2
  obtain ⟨g, g3, g10, g16, g22, g28, g34⟩ := pz_rd_at (rd := w) (a := rx_N (w 3)) (k := k) (v1 := v1) (v2 := v2) (v3 := v3) (by omega)
  have gs : ∀ j, j < 10 → j ≠ 3 → pz_rd w (rx_N (w 3)) k v1 v2 v3 j = w j := fun j h1 h2 => g j h2 (by omega) (by omega) (by omega) (by omega) (by omega)
  refine ⟨fun a ha => ?_, ⟨?_, fun i i5 hi => ?_⟩, fun a h6 ha hp => ?_⟩
  · rw [rx_u_ne (by omega)]
    by_cases e : a = rx_N (w 3)
    · subst e; rw [rx_ua_s]; exact Or.inl rfl
    · rw [rx_ua_ne (by omega)]; exact h.1 a ha
  · rw [rx_u_s, rx_ua_ne (by omega)]
    exact ⟨h.2.1.1.1.trans (gs 0 (by omega) (by omega)).symm, h.2.1.1.2.1.trans (gs 1 (by omega) (by omega)).symm, h.2.1.1.2.2.1.trans (gs 2 (by omega) (by omega)).symm, (show _ = w 3 + 1 from rfl).trans g3.symm⟩
  · rw [gs 2 (by omega) (by omega)] at hi
    rw [rx_u_ne (by omega), rx_ua_ne (by omega), gs _ (by omega) (by omega)]; exact h.2.1.2 i i5 hi
  · rw [g3, e3] at ha
    rw [rx_u_ne (by omega)]
    by_cases e : a = rx_N (w 3)
    · subst e
      rw [rx_ua_s]
      exact ⟨g10.symm, g16.symm, g22.symm, g28.symm, (show a_tell _ k v1 v2 v3 4 = v2 * 10000 from rfl).trans ((Int32.mul_comm _ _).trans g34.symm), Or.inr ⟨rfl, by rw [gs 4 (by omega) (by omega), h4]; exact zero_no _ h6⟩⟩
    · rw [rx_ua_ne (by omega)]
      exact (h.2.2 a h6 (by omega) hp).sim ⟨(g _ (by omega) (by omega) (by omega) (by omega) (by omega) (by omega)).symm, (g _ (by omega) (by omega) (by omega) (by omega) (by omega) (by omega)).symm, (g _ (by omega) (by omega) (by omega) (by omega) (by omega) (by omega)).symm, (g _ (by omega) (by omega) (by omega) (by omega) (by omega) (by omega)).symm, (g _ (by omega) (by omega) (by omega) (by omega) (by omega) (by omega)).symm, by rw [gs 4 (by omega) (by omega)]⟩
