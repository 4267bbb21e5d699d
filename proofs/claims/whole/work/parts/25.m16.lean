/-! ===== orders of the pulls: the next by numbers, over a list of five ===== -/
def nx_i (L : List Int32) : Nat → Option Nat
  | 0 => none
  | m + 1 => if L.getD (m + 1) 0 < L.getD m 0 then nx_i L m else some m
def nx_j (L : List Int32) (v : Int32) : Nat → Nat
  | 0 => 0
  | m + 1 => if L.getD (m + 1) 0 < v then nx_j L v m else m + 1
def nx_sw (L : List Int32) (i j : Nat) : List Int32 := (L.set i (L.getD j 0)).set j (L.getD i 0)
def nx_r : Nat → List Int32 → Nat → Nat → List Int32
  | 0, L, _, _ => L
  | f + 1, L, a, b => if a < b then nx_r f (nx_sw L a b) (a + 1) (b - 1) else L
def nx (c : Nat) (L : List Int32) : Option (List Int32) := match nx_i L (c - 1) with
  | none => none
  | some i => some (nx_r 5 (nx_sw L i (nx_j L (L.getD i 0) (c - 1))) (i + 1) (c - 1))
/-- a row of the heap is a list of c -/
def nx_is (c : Nat) (f : Nat → Int32) (L : List Int32) : Prop := L.length = c ∧ ∀ p, p < c → f p = L.getD p 0
theorem nx_is_sw {c : Nat} {f : Nat → Int32} {L : List Int32} {i j : Nat} (h : nx_is c f L) (hi : i < c) (hj : j < c) : nx_is c (upd (upd f i (f j)) j (f i)) (nx_sw L i j) := by
  obtain ⟨h1, h2⟩ := h
  refine ⟨by simp [nx_sw, h1], fun p hp => ?_⟩
  unfold nx_sw
  rw [List.getD_eq_getElem?_getD]
  by_cases e : p = j
  · subst e
    rw [upd_s, List.getElem?_set_self (by simp [h1]; exact hp), h2 i hi]
    rfl
  · rw [upd_n e, List.getElem?_set_ne (Ne.symm e)]
    by_cases e2 : p = i
    · subst e2
      rw [upd_s, List.getElem?_set_self (by rw [h1]; exact hp), h2 j hj]
      rfl
    · rw [upd_n e2, List.getElem?_set_ne (Ne.symm e2), h2 p hp, List.getD_eq_getElem?_getD]
set_option maxHeartbeats 4000000 in
set_option maxRecDepth 100000 in
theorem kX8_change {l : Launch} {O : rx_O} (hO : mo_O O) {σ : rx_S} {i j : Nat} (hi : i < 5) (hj : j < 5) : rx_MV l O yX8_change cX8_change 4 none 0 [.ref 0, .int (nI i), .int (nI j)] σ (fun τ => rx_ua σ 10 (upd (upd (σ.1 10) i (σ.1 10 j)) j (σ.1 10 i)) = τ) := by
  refine rx_Met_of (own := RX8) rfl hO.2.1 vsX8_change.2.2.2.2.2 (Nat.le_of_ble_eq_true rfl) rfl (fun p e s m args below meth c X => ?_)
  refine rx_aload_n (i := 0) X dX8_change_0 rfl rfl ?_
  refine rx_getR (ci := 8) (i := 20) X (km_0 hO) rfl rfl (by decide) inX8 flX8_41 dX8_change_1 ?_
  refine rx_iload_n (i := 1) X dX8_change_4 rfl rfl ?_
  refine rx_ialdN (j := i) X (km_10 hO) hO.2.2.1 rfl (by omega) (by decide) dX8_change_5 ?_
  refine rx_istore_n (i := 3) (lo2 := [(0, .ref _), (1, .int _), (2, .int _), (3, .int _)]) X dX8_change_6 rfl (by decide) rfl ?_
  refine rx_aload_n (i := 0) X dX8_change_7 rfl rfl ?_
  refine rx_getR (ci := 8) (i := 20) X (km_0 hO) rfl rfl (by decide) inX8 flX8_41 dX8_change_8 ?_
  refine rx_iload_n (i := 1) X dX8_change_11 rfl rfl ?_
  refine rx_aload_n (i := 0) X dX8_change_12 rfl rfl ?_
  refine rx_getR (ci := 8) (i := 20) X (km_0 hO) rfl rfl (by decide) inX8 flX8_41 dX8_change_13 ?_
  refine rx_iload_n (i := 2) X dX8_change_16 rfl rfl ?_
  refine rx_ialdN (j := j) X (km_10 hO) hO.2.2.1 rfl (by omega) (by decide) dX8_change_17 ?_
  refine rx_iastN (j := i) X (km_10 hO) hO.2.2.1 rfl (by omega) (by decide) dX8_change_18 ?_
  refine rx_aload_n (i := 0) X dX8_change_19 rfl rfl ?_
  refine rx_getR (ci := 8) (i := 20) X (km_0 hO) rfl rfl (by decide) inX8 flX8_41 dX8_change_20 ?_
  refine rx_iload_n (i := 2) X dX8_change_23 rfl rfl ?_
  refine rx_iload_n (i := 3) X dX8_change_24 rfl rfl ?_
  refine rx_iastN (j := j) X (km_10 hO) hO.2.2.1 rfl (by omega) (by decide) dX8_change_25 ?_
  refine rx_vret X dX8_change_26 ?_
  simp only [rx_u_eq, rx_ua_s, rx_ua_ua]
theorem nI_2 (n : Nat) : nI (n + 1) - 2 = nI n + (-1) := by
  rw [nI_succ, Int32.sub_eq_add_neg, Int32.add_assoc]
  rfl
set_option maxHeartbeats 4000000 in
set_option maxRecDepth 100000 in
theorem kX8_isNext {l : Launch} {O : rx_O} (hO : mo_O O) {σ : rx_S} {c : Nat} {L : List Int32} (hc : 1 ≤ c ∧ c ≤ 5) (hL : nx_is c (σ.1 10) L) : rx_MI l O yX8_isNext cX8_isNext 6 (some .boolean) 1 [.ref 0, .int (nI c)] σ (fun r τ => (∀ k, k ≠ 10 → τ.1 k = σ.1 k) ∧ τ.2 = σ.2 ∧ ((r = 1 ∧ ∃ M, nx c L = some M ∧ nx_is c (τ.1 10) M) ∨ (r = 0 ∧ nx c L = none ∧ σ = τ))) := by
  refine rx_Met_of (own := RX8) rfl hO.2.1 vsX8_isNext.2.2.2.2.2 (Nat.le_of_ble_eq_true rfl) rfl (fun p e s m args below meth cd X => ?_)
  have rev0 : ∀ (i0 : Nat) (xj : Int32) (R0 : List Int32), nx c L = some R0 → ∀ (k : Nat) (a b : Nat) (xa xb : Int32) (M : List Int32) (τ : rx_S), b < c → (b < a + 1 + k ∧ a < 6) → xa = nI a → xb = nI b → (∀ k, k ≠ 10 → τ.1 k = σ.1 k) → τ.2 = σ.2 → nx_is c (τ.1 10) M → R0 = nx_r k M a b → rx_J O 6 p l e (rx_lv 1) s m args below meth cd (rx_QI O below args s (fun r τ => (∀ k, k ≠ 10 → τ.1 k = σ.1 k) ∧ τ.2 = σ.2 ∧ ((r = 1 ∧ ∃ M, nx c L = some M ∧ nx_is c (τ.1 10) M) ∨ (r = 0 ∧ nx c L = none ∧ σ = τ)))) 78 [(0, .ref 0), (1, .int (nI c)), (2, .int (nI i0)), (3, .int xj), (4, .int xa), (5, .int xb)] [] τ := by
    intro i0 xj R0 hn
    have rev : ∀ (k : Nat) (a b : Nat) (xa xb : Int32) (M : List Int32) (τ : rx_S), (b < c) → (b < a + 1 + k ∧ a < 6) → (xa = nI a) → (xb = nI b) → (∀ k, k ≠ 10 → τ.1 k = σ.1 k) → (τ.2 = σ.2) → (nx_is c (τ.1 10) M) → (R0 = nx_r k M a b) → rx_J O 6 p l e (rx_lv 1) s m args below meth cd (rx_QI O below args s (fun r τ => (∀ k, k ≠ 10 → τ.1 k = σ.1 k) ∧ τ.2 = σ.2 ∧ ((r = 1 ∧ ∃ M, nx c L = some M ∧ nx_is c (τ.1 10) M) ∨ (r = 0 ∧ nx c L = none ∧ σ = τ)))) 78 [(0, .ref 0), (1, .int (nI c)), (2, .int (nI i0)), (3, .int xj), (4, .int xa), (5, .int xb)] [] τ := by
      intro k
      induction k with
      | zero =>
        intro a b xa xb M τ hb hab hxa hxb hk h2 hM hu
        subst hxa
        subst hxb
        refine rx_iload (i := 4) X dX8_isNext_78 rfl ?_
        refine rx_iload (i := 5) X dX8_isNext_80 rfl ?_
        refine rx_icmp_ge_t X dX8_isNext_82 (nI_le (by omega) (by omega)) ?_
        refine rx_iconst (v := 1) X dX8_isNext_102 (by decide) ?_
        refine rx_zret X dX8_isNext_103 rfl ?_
        refine ⟨hk, h2, Or.inl ⟨rfl, M, ?_, hM⟩⟩
        rw [hn, hu]
        rfl
      | succ k ih =>
        intro a b xa xb M τ hb hab hxa hxb hk h2 hM hu
        subst hxa
        subst hxb
        refine rx_iload (i := 4) X dX8_isNext_78 rfl ?_
        refine rx_iload (i := 5) X dX8_isNext_80 rfl ?_
        refine rx_icmp_ge X dX8_isNext_82 (fun h82 => ?_) (fun h82 => ?_)
        · rw [nI_leI (by omega) (by omega)] at h82
          refine rx_iconst (v := 1) X dX8_isNext_102 (by decide) ?_
          refine rx_zret X dX8_isNext_103 rfl ?_
          refine ⟨hk, h2, Or.inl ⟨rfl, M, ?_, hM⟩⟩
          rw [hn, hu, nx_r, if_neg (by omega)]
        · rw [nI_leI (by omega) (by omega)] at h82
          refine rx_aload_n (i := 0) X dX8_isNext_85 rfl rfl ?_
          refine rx_iload (i := 4) X dX8_isNext_86 rfl ?_
          refine rx_iload (i := 5) X dX8_isNext_88 rfl ?_
          refine rx_callVv (ci := 8) X vsX8_change mlX8_208 (kX8_change hO (by omega) (by omega)) (km_0 hO) rfl rfl (by decide) (by decide) dX8_isNext_90 rfl (Nat.le_of_ble_eq_true rfl) (fun t90 h90 => ?_)
          subst h90
          refine rx_iinc (i := 4) (lo2 := [(0, .ref _), (1, .int _), (2, .int _), (3, .int _), (4, .int _), (5, .int _)]) X dX8_isNext_93 rfl (rx_inc1 _) (by decide) rfl ?_
          refine rx_iinc (i := 5) (lo2 := [(0, .ref _), (1, .int _), (2, .int _), (3, .int _), (4, .int _), (5, .int _)]) X dX8_isNext_96 rfl (rx_dec1 _) (by decide) rfl ?_
          refine rx_goto X dX8_isNext_99 ?_
          refine ih (a + 1) (b - 1) _ _ (nx_sw M a b) _ (by omega) (by omega) (nI_1 a) ?_ ?_ ?_ ?_ ?_
          · conv => lhs; rw [show b = (b - 1) + 1 by omega]
            exact pk_m1 (b - 1)
          · intro q hq
            rw [rx_ua_ne hq]
            exact hk q hq
          · exact h2
          · rw [rx_ua_s]
            exact nx_is_sw hM (by omega) (by omega)
          · rw [hu, nx_r, if_pos (by omega)]
    exact rev
  have fj0 : ∀ (i0 : Nat), i0 + 1 < c → ¬ L.getD (i0 + 1) 0 < L.getD i0 0 → nx c L = some (nx_r 5 (nx_sw L i0 (nx_j L (L.getD i0 0) (c - 1))) (i0 + 1) (c - 1)) → rx_J O 6 p l e (rx_lv 1) s m args below meth cd (rx_QI O below args s (fun r τ => (∀ k, k ≠ 10 → τ.1 k = σ.1 k) ∧ τ.2 = σ.2 ∧ ((r = 1 ∧ ∃ M, nx c L = some M ∧ nx_is c (τ.1 10) M) ∨ (r = 0 ∧ nx c L = none ∧ σ = τ)))) 41 [(0, .ref 0), (1, .int (nI c)), (2, .int (nI i0)), (3, .int (nI (c - 1)))] [] σ := by
    intro i0 hi0 hii hn
    have fj : ∀ (k : Nat) (xj : Int32), (i0 < k ∧ k < c) → (xj = nI k) → (nx_r 5 (nx_sw L i0 (nx_j L (L.getD i0 0) (c - 1))) (i0 + 1) (c - 1) = nx_r 5 (nx_sw L i0 (nx_j L (L.getD i0 0) k)) (i0 + 1) (c - 1)) → rx_J O 6 p l e (rx_lv 1) s m args below meth cd (rx_QI O below args s (fun r τ => (∀ k, k ≠ 10 → τ.1 k = σ.1 k) ∧ τ.2 = σ.2 ∧ ((r = 1 ∧ ∃ M, nx c L = some M ∧ nx_is c (τ.1 10) M) ∨ (r = 0 ∧ nx c L = none ∧ σ = τ)))) 41 [(0, .ref 0), (1, .int (nI c)), (2, .int (nI i0)), (3, .int xj)] [] σ := by
      intro k
      induction k with
      | zero =>
        intro xj hj0 hxj hu
        exact absurd hj0 (by omega)
      | succ k ih =>
        intro xj hj0 hxj hu
        subst hxj
        refine rx_aload_n (i := 0) X dX8_isNext_41 rfl rfl ?_
        refine rx_getR (ci := 8) (i := 20) X (km_0 hO) rfl rfl (by decide) inX8 flX8_41 dX8_isNext_42 ?_
        refine rx_iload_n (i := 3) X dX8_isNext_45 rfl rfl ?_
        refine rx_ialdN (j := k + 1) X (km_10 hO) hO.2.2.1 rfl (by omega) (by decide) dX8_isNext_46 ?_
        refine rx_top (hL.2 (k + 1) (by omega)) ?_
        refine rx_aload_n (i := 0) X dX8_isNext_47 rfl rfl ?_
        refine rx_getR (ci := 8) (i := 20) X (km_0 hO) rfl rfl (by decide) inX8 flX8_41 dX8_isNext_48 ?_
        refine rx_iload_n (i := 2) X dX8_isNext_51 rfl rfl ?_
        refine rx_ialdN (j := i0) X (km_10 hO) hO.2.2.1 rfl (by omega) (by decide) dX8_isNext_52 ?_
        refine rx_top (hL.2 i0 (by omega)) ?_
        refine rx_icmp_ge X dX8_isNext_53 (fun h53 => ?_) (fun h53 => ?_)
        · have hsel : nx_j L (L.getD i0 0) (k + 1) = k + 1 := by rw [nx_j, if_neg (Int32.not_lt.mpr h53)]
          refine rx_aload_n (i := 0) X dX8_isNext_62 rfl rfl ?_
          refine rx_iload_n (i := 2) X dX8_isNext_63 rfl rfl ?_
          refine rx_iload_n (i := 3) X dX8_isNext_64 rfl rfl ?_
          refine rx_callVv (ci := 8) X vsX8_change mlX8_208 (kX8_change hO (by omega) (by omega)) (km_0 hO) rfl rfl (by decide) (by decide) dX8_isNext_65 rfl (Nat.le_of_ble_eq_true rfl) (fun t65 h65 => ?_)
          subst h65
          refine rx_iload_n (i := 2) X dX8_isNext_68 rfl rfl ?_
          refine rx_iconst (v := 1) X dX8_isNext_69 (by decide) ?_
          refine rx_iadd X dX8_isNext_70 ?_
          refine rx_istore (i := 4) (lo2 := [(0, .ref _), (1, .int _), (2, .int _), (3, .int _), (4, .int _)]) X dX8_isNext_71 (by decide) rfl ?_
          refine rx_iload_n (i := 1) X dX8_isNext_73 rfl rfl ?_
          refine rx_iconst (v := 1) X dX8_isNext_74 (by decide) ?_
          refine rx_isub X dX8_isNext_75 ?_
          refine rx_istore (i := 5) (lo2 := [(0, .ref _), (1, .int _), (2, .int _), (3, .int _), (4, .int _), (5, .int _)]) X dX8_isNext_76 (by decide) rfl ?_
          refine rev0 i0 _ _ hn 5 (i0 + 1) (c - 1) _ _ (nx_sw L i0 (k + 1)) _ (by omega) (by omega) (nI_1 i0) ?_ ?_ rfl ?_ ?_
          · conv => lhs; rw [show c = (c - 1) + 1 by omega]
            exact nI_pred (c - 1)
          · intro q hq
            rw [rx_ua_ne hq]
          · rw [rx_ua_s]
            exact nx_is_sw hL (by omega) (by omega)
          · rw [hu, hsel]
        · have hne : i0 < k := by
            rcases Nat.lt_or_ge i0 k with z | z
            · exact z
            · obtain rfl : i0 = k := by omega
              exact absurd (Int32.not_le.mp h53) hii
          refine rx_iinc (i := 3) (lo2 := [(0, .ref _), (1, .int _), (2, .int _), (3, .int _)]) X dX8_isNext_56 rfl (rx_dec1 _) (by decide) rfl ?_
          refine rx_goto X dX8_isNext_59 ?_
          refine ih _ (by omega) (pk_m1 k) ?_
          rw [hu, nx_j, if_pos (Int32.not_le.mp h53)]
    exact fj (c - 1) _ (by omega) rfl rfl
  have fi : ∀ (k : Nat) (x : Int32), (k < c) → (x = nI k + (-1)) → (nx_i L (c - 1) = nx_i L k) → rx_J O 6 p l e (rx_lv 1) s m args below meth cd (rx_QI O below args s (fun r τ => (∀ k, k ≠ 10 → τ.1 k = σ.1 k) ∧ τ.2 = σ.2 ∧ ((r = 1 ∧ ∃ M, nx c L = some M ∧ nx_is c (τ.1 10) M) ∨ (r = 0 ∧ nx c L = none ∧ σ = τ)))) 4 [(0, .ref 0), (1, .int (nI c)), (2, .int x)] [] σ := by
    intro k
    induction k with
    | zero =>
      intro x hk hx hu
      subst hx
      refine rx_iload_n (i := 2) X dX8_isNext_4 rfl rfl ?_
      refine rx_if_lt_t X dX8_isNext_5 (by decide) ?_
      refine rx_iload_n (i := 2) X dX8_isNext_31 rfl rfl ?_
      refine rx_if_ge_f X dX8_isNext_32 (by decide) ?_
      refine rx_iconst (v := 0) X dX8_isNext_35 (by decide) ?_
      refine rx_zret X dX8_isNext_36 rfl ?_
      refine ⟨fun _ _ => rfl, rfl, Or.inr ⟨rfl, ?_, rfl⟩⟩
      rw [nx, hu]
      rfl
    | succ k ih =>
      intro x hk hx hu
      rw [pk_m1] at hx
      subst hx
      refine rx_iload_n (i := 2) X dX8_isNext_4 rfl rfl ?_
      refine rx_if_lt_f X dX8_isNext_5 (nI_pos (by omega)) ?_
      refine rx_aload_n (i := 0) X dX8_isNext_8 rfl rfl ?_
      refine rx_getR (ci := 8) (i := 20) X (km_0 hO) rfl rfl (by decide) inX8 flX8_41 dX8_isNext_9 ?_
      refine rx_iload_n (i := 2) X dX8_isNext_12 rfl rfl ?_
      refine rx_ialdN (j := k) X (km_10 hO) hO.2.2.1 rfl (by omega) (by decide) dX8_isNext_13 ?_
      refine rx_top (hL.2 k (by omega)) ?_
      refine rx_aload_n (i := 0) X dX8_isNext_14 rfl rfl ?_
      refine rx_getR (ci := 8) (i := 20) X (km_0 hO) rfl rfl (by decide) inX8 flX8_41 dX8_isNext_15 ?_
      refine rx_iload_n (i := 2) X dX8_isNext_18 rfl rfl ?_
      refine rx_iconst (v := 1) X dX8_isNext_19 (by decide) ?_
      refine rx_iadd X dX8_isNext_20 ?_
      refine rx_ialdN (j := k + 1) X (km_10 hO) hO.2.2.1 (nI_1 k) (by omega) (by decide) dX8_isNext_21 ?_
      refine rx_top (hL.2 (k + 1) (by omega)) ?_
      refine rx_icmp_le X dX8_isNext_22 (fun h22 => ?_) (fun h22 => ?_)
      · refine rx_iload_n (i := 2) X dX8_isNext_31 rfl rfl ?_
        refine rx_if_ge_t X dX8_isNext_32 (nI_pos' (by omega)) ?_
        refine rx_iload_n (i := 1) X dX8_isNext_37 rfl rfl ?_
        refine rx_iconst (v := 1) X dX8_isNext_38 (by decide) ?_
        refine rx_isub X dX8_isNext_39 ?_
        refine rx_istore_n (i := 3) (lo2 := [(0, .ref _), (1, .int _), (2, .int _), (3, .int _)]) X dX8_isNext_40 rfl (by decide) rfl ?_
        have hnx : nx_i L (k + 1) = some k := by rw [nx_i, if_neg (Int32.not_lt.mpr h22)]
        have hn : nx c L = some (nx_r 5 (nx_sw L k (nx_j L (L.getD k 0) (c - 1))) (k + 1) (c - 1)) := by rw [nx, hu, hnx]
        rw [show nI c - 1 = nI (c - 1) by conv => lhs; rw [show c = (c - 1) + 1 by omega]
                                          exact nI_pred (c - 1)]
        exact fj0 k (by omega) (Int32.not_lt.mpr h22) hn
      · refine rx_iinc (i := 2) (lo2 := [(0, .ref _), (1, .int _), (2, .int _)]) X dX8_isNext_25 rfl (rx_dec1 _) (by decide) rfl ?_
        refine rx_goto X dX8_isNext_28 ?_
        refine ih _ (by omega) rfl ?_
        rw [hu, nx_i, if_pos (Int32.not_le.mp h22)]
  refine rx_iload_n (i := 1) X dX8_isNext_0 rfl rfl ?_
  refine rx_iconst (v := 2) X dX8_isNext_1 (by decide) ?_
  refine rx_isub X dX8_isNext_2 ?_
  refine rx_istore_n (i := 2) (lo2 := [(0, .ref _), (1, .int _), (2, .int _)]) X dX8_isNext_3 rfl (by decide) rfl ?_
  refine fi (c - 1) _ (by omega) ?_ rfl
  conv => lhs; rw [show c = (c - 1) + 1 by omega]
  exact nI_2 (c - 1)
