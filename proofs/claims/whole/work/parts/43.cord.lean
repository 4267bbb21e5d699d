set_option maxHeartbeats 1000000 in
set_option maxRecDepth 100000 in
theorem kX4_swap {l : Launch} {O : rx_O} (hO : cb_O O) {σ : rx_S} {i j : Nat} (hi : i < 5) (hj : j < 5) : rx_MV l O yX4_swap cX4_swap 4 none 0 [.ref 242, .int (nI i), .int (nI j)] σ (fun τ => rx_ua σ 252 (upd (upd (σ.1 252) i (σ.1 252 j)) j (σ.1 252 i)) = τ) := by
  refine rx_Met_of (own := RX4) rfl hO.2.1 vsX4_swap.2.2.2.2.2 (Nat.le_of_ble_eq_true rfl) rfl (fun p e s m args below meth c X => ?_)
  refine rx_aload_n (i := 0) X dX4_swap_0 rfl rfl ?_
  refine rx_getR (ci := 4) (i := 1) X (kc_242 hO) rfl rfl (by decide) inX4 flX4_18 dX4_swap_1 ?_
  refine rx_iload_n (i := 1) X dX4_swap_4 rfl rfl ?_
  refine rx_ialdN (j := i) X (kc_252 hO) hO.2.2.1 rfl (by omega) (by decide) dX4_swap_5 ?_
  refine rx_istore_n (i := 3) (lo2 := [(0, .ref _), (1, .int _), (2, .int _), (3, .int _)]) X dX4_swap_6 rfl (by decide) rfl ?_
  refine rx_aload_n (i := 0) X dX4_swap_7 rfl rfl ?_
  refine rx_getR (ci := 4) (i := 1) X (kc_242 hO) rfl rfl (by decide) inX4 flX4_18 dX4_swap_8 ?_
  refine rx_iload_n (i := 1) X dX4_swap_11 rfl rfl ?_
  refine rx_aload_n (i := 0) X dX4_swap_12 rfl rfl ?_
  refine rx_getR (ci := 4) (i := 1) X (kc_242 hO) rfl rfl (by decide) inX4 flX4_18 dX4_swap_13 ?_
  refine rx_iload_n (i := 2) X dX4_swap_16 rfl rfl ?_
  refine rx_ialdN (j := j) X (kc_252 hO) hO.2.2.1 rfl (by omega) (by decide) dX4_swap_17 ?_
  refine rx_iastN (j := i) X (kc_252 hO) hO.2.2.1 rfl (by omega) (by decide) dX4_swap_18 ?_
  refine rx_aload_n (i := 0) X dX4_swap_19 rfl rfl ?_
  refine rx_getR (ci := 4) (i := 1) X (kc_242 hO) rfl rfl (by decide) inX4 flX4_18 dX4_swap_20 ?_
  refine rx_iload_n (i := 2) X dX4_swap_23 rfl rfl ?_
  refine rx_iload_n (i := 3) X dX4_swap_24 rfl rfl ?_
  refine rx_iastN (j := j) X (kc_252 hO) hO.2.2.1 rfl (by omega) (by decide) dX4_swap_25 ?_
  refine rx_vret X dX4_swap_26 ?_
  simp only [rx_u_eq, rx_ua_s, rx_ua_ua]
set_option maxHeartbeats 1000000 in
set_option maxRecDepth 100000 in
theorem kX4_nextOrder {l : Launch} {O : rx_O} (hO : cb_O O) {σ : rx_S} {c : Nat} {L : List Int32} (hc : 1 ≤ c ∧ c ≤ 5) (hL : nx_is c (σ.1 252) L) : rx_MI l O yX4_nextOrder cX4_nextOrder 6 (some .boolean) 1 [.ref 242, .int (nI c)] σ (fun r τ => (∀ k, k ≠ 252 → τ.1 k = σ.1 k) ∧ τ.2 = σ.2 ∧ ((r = 1 ∧ ∃ M, nx c L = some M ∧ nx_is c (τ.1 252) M) ∨ (r = 0 ∧ nx c L = none ∧ σ = τ))) := by
  refine rx_Met_of (own := RX4) rfl hO.2.1 vsX4_nextOrder.2.2.2.2.2 (Nat.le_of_ble_eq_true rfl) rfl (fun p e s m args below meth cd X => ?_)
  have rev0 : ∀ (i0 : Nat) (xj : Int32) (R0 : List Int32), nx c L = some R0 → ∀ (k : Nat) (a b : Nat) (xa xb : Int32) (M : List Int32) (τ : rx_S), b < c → (b < a + 1 + k ∧ a < 6) → xa = nI a → xb = nI b → (∀ k, k ≠ 252 → τ.1 k = σ.1 k) → τ.2 = σ.2 → nx_is c (τ.1 252) M → R0 = nx_r k M a b → rx_J O 6 p l e (rx_lv 1) s m args below meth cd (rx_QI O below args s (fun r τ => (∀ k, k ≠ 252 → τ.1 k = σ.1 k) ∧ τ.2 = σ.2 ∧ ((r = 1 ∧ ∃ M, nx c L = some M ∧ nx_is c (τ.1 252) M) ∨ (r = 0 ∧ nx c L = none ∧ σ = τ)))) 83 [(0, .ref 242), (1, .int (nI c)), (2, .int (nI i0)), (3, .int xj), (4, .int xa), (5, .int xb)] [] τ := by
    intro i0 xj R0 hn
    have rev : ∀ (k : Nat) (a b : Nat) (xa xb : Int32) (M : List Int32) (τ : rx_S), (b < c) → (b < a + 1 + k ∧ a < 6) → (xa = nI a) → (xb = nI b) → (∀ k, k ≠ 252 → τ.1 k = σ.1 k) → (τ.2 = σ.2) → (nx_is c (τ.1 252) M) → (R0 = nx_r k M a b) → rx_J O 6 p l e (rx_lv 1) s m args below meth cd (rx_QI O below args s (fun r τ => (∀ k, k ≠ 252 → τ.1 k = σ.1 k) ∧ τ.2 = σ.2 ∧ ((r = 1 ∧ ∃ M, nx c L = some M ∧ nx_is c (τ.1 252) M) ∨ (r = 0 ∧ nx c L = none ∧ σ = τ)))) 83 [(0, .ref 242), (1, .int (nI c)), (2, .int (nI i0)), (3, .int xj), (4, .int xa), (5, .int xb)] [] τ := by
      intro k
      induction k with
      | zero =>
        intro a b xa xb M τ hb hab hxa hxb hk h2 hM hu
        subst hxa
        subst hxb
        refine rx_iload (i := 5) X dX4_nextOrder_83 rfl ?_
        refine rx_iload (i := 4) X dX4_nextOrder_85 rfl ?_
        refine rx_icmp_le_t X dX4_nextOrder_87 (nI_le (by omega) (by omega)) ?_
        refine rx_iconst (v := 1) X dX4_nextOrder_107 (by decide) ?_
        refine rx_zret X dX4_nextOrder_108 rfl ?_
        refine ⟨hk, h2, Or.inl ⟨rfl, M, ?_, hM⟩⟩
        rw [hn, hu]
        rfl
      | succ k ih =>
        intro a b xa xb M τ hb hab hxa hxb hk h2 hM hu
        subst hxa
        subst hxb
        refine rx_iload (i := 5) X dX4_nextOrder_83 rfl ?_
        refine rx_iload (i := 4) X dX4_nextOrder_85 rfl ?_
        refine rx_icmp_le X dX4_nextOrder_87 (fun h82 => ?_) (fun h82 => ?_)
        · rw [nI_leI (by omega) (by omega)] at h82
          refine rx_iconst (v := 1) X dX4_nextOrder_107 (by decide) ?_
          refine rx_zret X dX4_nextOrder_108 rfl ?_
          refine ⟨hk, h2, Or.inl ⟨rfl, M, ?_, hM⟩⟩
          rw [hn, hu, nx_r, if_neg (by omega)]
        · rw [nI_leI (by omega) (by omega)] at h82
          refine rx_aload_n (i := 0) X dX4_nextOrder_90 rfl rfl ?_
          refine rx_iload (i := 4) X dX4_nextOrder_91 rfl ?_
          refine rx_iload (i := 5) X dX4_nextOrder_93 rfl ?_
          refine rx_callVv (ci := 4) X vsX4_swap mlX4_106 (kX4_swap hO (by omega) (by omega)) (kc_242 hO) rfl rfl (by decide) (by decide) dX4_nextOrder_95 rfl (Nat.le_of_ble_eq_true rfl) (fun t95 h95 => ?_)
          subst h95
          refine rx_iinc (i := 4) (lo2 := [(0, .ref _), (1, .int _), (2, .int _), (3, .int _), (4, .int _), (5, .int _)]) X dX4_nextOrder_98 rfl (rx_inc1 _) (by decide) rfl ?_
          refine rx_iinc (i := 5) (lo2 := [(0, .ref _), (1, .int _), (2, .int _), (3, .int _), (4, .int _), (5, .int _)]) X dX4_nextOrder_101 rfl (rx_dec1 _) (by decide) rfl ?_
          refine rx_goto X dX4_nextOrder_104 ?_
          refine ih (a + 1) (b - 1) _ _ (nx_sw M a b) _ (by omega) (by omega) (nI_1 a) ?_ ?_ ?_ ?_ ?_
          · conv => lhs; rw [show b = (b - 1) + 1 by omega]
            exact pk_m1 (b - 1)
          · intro q hq
            rw [rx_ua_ne hq]
            exact hk q hq
          · exact h2
          · rw [rx_ua_s]
            exact nx_is_sw hM (by omega) (by omega)
          · rw [hu, nx_r, if_pos (by omega)]
    exact rev
  have fj0 : ∀ (i0 : Nat), i0 + 1 < c → ¬ L.getD (i0 + 1) 0 < L.getD i0 0 → nx c L = some (nx_r 5 (nx_sw L i0 (nx_j L (L.getD i0 0) (c - 1))) (i0 + 1) (c - 1)) → rx_J O 6 p l e (rx_lv 1) s m args below meth cd (rx_QI O below args s (fun r τ => (∀ k, k ≠ 252 → τ.1 k = σ.1 k) ∧ τ.2 = σ.2 ∧ ((r = 1 ∧ ∃ M, nx c L = some M ∧ nx_is c (τ.1 252) M) ∨ (r = 0 ∧ nx c L = none ∧ σ = τ)))) 41 [(0, .ref 242), (1, .int (nI c)), (2, .int (nI i0)), (3, .int (nI (c - 1)))] [] σ := by
    intro i0 hi0 hii hn
    have fj : ∀ (k : Nat) (xj : Int32), (i0 < k ∧ k < c) → (xj = nI k) → (nx_r 5 (nx_sw L i0 (nx_j L (L.getD i0 0) (c - 1))) (i0 + 1) (c - 1) = nx_r 5 (nx_sw L i0 (nx_j L (L.getD i0 0) k)) (i0 + 1) (c - 1)) → rx_J O 6 p l e (rx_lv 1) s m args below meth cd (rx_QI O below args s (fun r τ => (∀ k, k ≠ 252 → τ.1 k = σ.1 k) ∧ τ.2 = σ.2 ∧ ((r = 1 ∧ ∃ M, nx c L = some M ∧ nx_is c (τ.1 252) M) ∨ (r = 0 ∧ nx c L = none ∧ σ = τ)))) 41 [(0, .ref 242), (1, .int (nI c)), (2, .int (nI i0)), (3, .int xj)] [] σ := by
      intro k
      induction k with
      | zero =>
        intro xj hj0 hxj hu
        exact absurd hj0 (by omega)
      | succ k ih =>
        intro xj hj0 hxj hu
        subst hxj
        refine rx_iload_n (i := 3) X dX4_nextOrder_41 rfl rfl ?_
        refine rx_iload_n (i := 2) X dX4_nextOrder_42 rfl rfl ?_
        refine rx_icmp_le_f X dX4_nextOrder_43 (nI_ge (by omega) (by omega)) ?_
        refine rx_aload_n (i := 0) X dX4_nextOrder_46 rfl rfl ?_
        refine rx_getR (ci := 4) (i := 1) X (kc_242 hO) rfl rfl (by decide) inX4 flX4_18 dX4_nextOrder_47 ?_
        refine rx_iload_n (i := 3) X dX4_nextOrder_50 rfl rfl ?_
        refine rx_ialdN (j := k + 1) X (kc_252 hO) hO.2.2.1 rfl (by omega) (by decide) dX4_nextOrder_51 ?_
        refine rx_top (hL.2 (k + 1) (by omega)) ?_
        refine rx_aload_n (i := 0) X dX4_nextOrder_52 rfl rfl ?_
        refine rx_getR (ci := 4) (i := 1) X (kc_242 hO) rfl rfl (by decide) inX4 flX4_18 dX4_nextOrder_53 ?_
        refine rx_iload_n (i := 2) X dX4_nextOrder_56 rfl rfl ?_
        refine rx_ialdN (j := i0) X (kc_252 hO) hO.2.2.1 rfl (by omega) (by decide) dX4_nextOrder_57 ?_
        refine rx_top (hL.2 i0 (by omega)) ?_
        refine rx_icmp_ge X dX4_nextOrder_58 (fun h53 => ?_) (fun h53 => ?_)
        · have hsel : nx_j L (L.getD i0 0) (k + 1) = k + 1 := by rw [nx_j, if_neg (Int32.not_lt.mpr h53)]
          refine rx_aload_n (i := 0) X dX4_nextOrder_67 rfl rfl ?_
          refine rx_iload_n (i := 2) X dX4_nextOrder_68 rfl rfl ?_
          refine rx_iload_n (i := 3) X dX4_nextOrder_69 rfl rfl ?_
          refine rx_callVv (ci := 4) X vsX4_swap mlX4_106 (kX4_swap hO (by omega) (by omega)) (kc_242 hO) rfl rfl (by decide) (by decide) dX4_nextOrder_70 rfl (Nat.le_of_ble_eq_true rfl) (fun t70 h70 => ?_)
          subst h70
          refine rx_iload_n (i := 2) X dX4_nextOrder_73 rfl rfl ?_
          refine rx_iconst (v := 1) X dX4_nextOrder_74 (by decide) ?_
          refine rx_iadd X dX4_nextOrder_75 ?_
          refine rx_istore (i := 4) (lo2 := [(0, .ref _), (1, .int _), (2, .int _), (3, .int _), (4, .int _)]) X dX4_nextOrder_76 (by decide) rfl ?_
          refine rx_iload_n (i := 1) X dX4_nextOrder_78 rfl rfl ?_
          refine rx_iconst (v := 1) X dX4_nextOrder_79 (by decide) ?_
          refine rx_isub X dX4_nextOrder_80 ?_
          refine rx_istore (i := 5) (lo2 := [(0, .ref _), (1, .int _), (2, .int _), (3, .int _), (4, .int _), (5, .int _)]) X dX4_nextOrder_81 (by decide) rfl ?_
          refine rev0 i0 _ _ hn 5 (i0 + 1) (c - 1) _ _ (nx_sw L i0 (k + 1)) _ (by omega) (by omega) (nI_1 i0) ?_ ?_ rfl ?_ ?_
          · conv => lhs; rw [show c = (c - 1) + 1 by omega]
            exact nI_pred (c - 1)
          · intro q hq
            rw [rx_ua_ne hq]
          · rw [rx_ua_s]
            exact nx_is_sw hL (by omega) (by omega)
          · rw [hu, hsel]
        · have hne : i0 < k := by
            rcases Nat.lt_or_ge i0 k with z | z
            · exact z
            · obtain rfl : i0 = k := by omega
              exact absurd (Int32.not_le.mp h53) hii
          refine rx_iinc (i := 3) (lo2 := [(0, .ref _), (1, .int _), (2, .int _), (3, .int _)]) X dX4_nextOrder_61 rfl (rx_dec1 _) (by decide) rfl ?_
          refine rx_goto X dX4_nextOrder_64 ?_
          refine ih _ (by omega) (pk_m1 k) ?_
          rw [hu, nx_j, if_pos (Int32.not_le.mp h53)]
    exact fj (c - 1) _ (by omega) rfl rfl
  have fi : ∀ (k : Nat) (x : Int32), (k < c) → (x = nI k + (-1)) → (nx_i L (c - 1) = nx_i L k) → rx_J O 6 p l e (rx_lv 1) s m args below meth cd (rx_QI O below args s (fun r τ => (∀ k, k ≠ 252 → τ.1 k = σ.1 k) ∧ τ.2 = σ.2 ∧ ((r = 1 ∧ ∃ M, nx c L = some M ∧ nx_is c (τ.1 252) M) ∨ (r = 0 ∧ nx c L = none ∧ σ = τ)))) 4 [(0, .ref 242), (1, .int (nI c)), (2, .int x)] [] σ := by
    intro k
    induction k with
    | zero =>
      intro x hk hx hu
      subst hx
      refine rx_iload_n (i := 2) X dX4_nextOrder_4 rfl rfl ?_
      refine rx_if_lt_t X dX4_nextOrder_5 (by decide) ?_
      refine rx_iload_n (i := 2) X dX4_nextOrder_31 rfl rfl ?_
      refine rx_if_ge_f X dX4_nextOrder_32 (by decide) ?_
      refine rx_iconst (v := 0) X dX4_nextOrder_35 (by decide) ?_
      refine rx_zret X dX4_nextOrder_36 rfl ?_
      refine ⟨fun _ _ => rfl, rfl, Or.inr ⟨rfl, ?_, rfl⟩⟩
      rw [nx, hu]
      rfl
    | succ k ih =>
      intro x hk hx hu
      rw [pk_m1] at hx
      subst hx
      refine rx_iload_n (i := 2) X dX4_nextOrder_4 rfl rfl ?_
      refine rx_if_lt_f X dX4_nextOrder_5 (nI_pos (by omega)) ?_
      refine rx_aload_n (i := 0) X dX4_nextOrder_8 rfl rfl ?_
      refine rx_getR (ci := 4) (i := 1) X (kc_242 hO) rfl rfl (by decide) inX4 flX4_18 dX4_nextOrder_9 ?_
      refine rx_iload_n (i := 2) X dX4_nextOrder_12 rfl rfl ?_
      refine rx_ialdN (j := k) X (kc_252 hO) hO.2.2.1 rfl (by omega) (by decide) dX4_nextOrder_13 ?_
      refine rx_top (hL.2 k (by omega)) ?_
      refine rx_aload_n (i := 0) X dX4_nextOrder_14 rfl rfl ?_
      refine rx_getR (ci := 4) (i := 1) X (kc_242 hO) rfl rfl (by decide) inX4 flX4_18 dX4_nextOrder_15 ?_
      refine rx_iload_n (i := 2) X dX4_nextOrder_18 rfl rfl ?_
      refine rx_iconst (v := 1) X dX4_nextOrder_19 (by decide) ?_
      refine rx_iadd X dX4_nextOrder_20 ?_
      refine rx_ialdN (j := k + 1) X (kc_252 hO) hO.2.2.1 (nI_1 k) (by omega) (by decide) dX4_nextOrder_21 ?_
      refine rx_top (hL.2 (k + 1) (by omega)) ?_
      refine rx_icmp_le X dX4_nextOrder_22 (fun h22 => ?_) (fun h22 => ?_)
      · refine rx_iload_n (i := 2) X dX4_nextOrder_31 rfl rfl ?_
        refine rx_if_ge_t X dX4_nextOrder_32 (nI_pos' (by omega)) ?_
        refine rx_iload_n (i := 1) X dX4_nextOrder_37 rfl rfl ?_
        refine rx_iconst (v := 1) X dX4_nextOrder_38 (by decide) ?_
        refine rx_isub X dX4_nextOrder_39 ?_
        refine rx_istore_n (i := 3) (lo2 := [(0, .ref _), (1, .int _), (2, .int _), (3, .int _)]) X dX4_nextOrder_40 rfl (by decide) rfl ?_
        have hnx : nx_i L (k + 1) = some k := by rw [nx_i, if_neg (Int32.not_lt.mpr h22)]
        have hn : nx c L = some (nx_r 5 (nx_sw L k (nx_j L (L.getD k 0) (c - 1))) (k + 1) (c - 1)) := by rw [nx, hu, hnx]
        rw [show nI c - 1 = nI (c - 1) by conv => lhs; rw [show c = (c - 1) + 1 by omega]
                                          exact nI_pred (c - 1)]
        exact fj0 k (by omega) (Int32.not_lt.mpr h22) hn
      · refine rx_iinc (i := 2) (lo2 := [(0, .ref _), (1, .int _), (2, .int _)]) X dX4_nextOrder_25 rfl (rx_dec1 _) (by decide) rfl ?_
        refine rx_goto X dX4_nextOrder_28 ?_
        refine ih _ (by omega) rfl ?_
        rw [hu, nx_i, if_pos (Int32.not_le.mp h22)]
  refine rx_iload_n (i := 1) X dX4_nextOrder_0 rfl rfl ?_
  refine rx_iconst (v := 2) X dX4_nextOrder_1 (by decide) ?_
  refine rx_isub X dX4_nextOrder_2 ?_
  refine rx_istore_n (i := 2) (lo2 := [(0, .ref _), (1, .int _), (2, .int _)]) X dX4_nextOrder_3 rfl (by decide) rfl ?_
  refine fi (c - 1) _ (by omega) ?_ rfl
  conv => lhs; rw [show c = (c - 1) + 1 by omega]
  exact nI_2 (c - 1)
/-- a walk in an order, as the class looks at it -/
def oc (a : Nat) (L : List Int32) (c : Nat) : Nat → Nat → (Nat → Int32) → Int32
  | 0, _, _ => 201
  | k + 1, n, w => if w_has (w_min (-1) (od_in L c n w) w 4) a then nI (n + 1) else oc a L c k (n + 1) (w_min (-1) (od_in L c n w) w)
theorem oc_ab {a c : Nat} {L : List Int32} : ∀ {f n : Nat} {w : Nat → Int32}, ¬ w_has (w 4) a → od_ab (-1) a L c f n w = oc a L c f n w
  | 0, n, w, h => if_neg h
  | f + 1, n, w, h => by
    show (if w_has (w 4) a then nI n else od_ab (-1) a L c f (n + 1) (w_min (-1) (od_in L c n w) w)) = (if w_has (w_min (-1) (od_in L c n w) w 4) a then nI (n + 1) else oc a L c f (n + 1) (w_min (-1) (od_in L c n w) w))
    rw [if_neg h]
    by_cases e : w_has (w_min (-1) (od_in L c n w) w 4) a
    · rw [if_pos e]
      cases f with
      | zero => exact if_pos e
      | succ f => exact if_pos e
    · rw [if_neg e]
      exact oc_ab e
theorem oc_b {a c : Nat} {L : List Int32} : ∀ {f n : Nat} {w : Nat → Int32}, f + n ≤ 200 → (n : Int) < (oc a L c f n w).toInt ∧ (oc a L c f n w).toInt ≤ 201
  | 0, n, w, h => by
    show (n : Int) < (201 : Int32).toInt ∧ (201 : Int32).toInt ≤ 201
    have e : (201 : Int32).toInt = 201 := rfl
    omega
  | f + 1, n, w, h => by
    rw [oc]
    split
    · rw [nI_toInt (by omega)]; omega
    · have := oc_b (a := a) (L := L) (c := c) (f := f) (n := n + 1) (w := w_min (-1) (od_in L c n w) w) (by omega)
      omega
/-- looked at for less long -/
theorem oc_cut {a c : Nat} {L : List Int32} : ∀ {k K n : Nat} {w : Nat → Int32}, k ≤ K → K + n ≤ 200 → oc a L c k n w = if (oc a L c K n w).toInt ≤ n + k then oc a L c K n w else 201
  | 0, K, n, w, hk, h => by
    have := (oc_b (a := a) (L := L) (c := c) (w := w) h).1
    rw [if_neg (by omega)]
    rfl
  | k + 1, 0, n, w, hk, h => absurd hk (by omega)
  | k + 1, K + 1, n, w, hk, h => by
    rw [oc, oc]
    by_cases e : w_has (w_min (-1) (od_in L c n w) w 4) a
    · rw [if_pos e, if_pos e, if_pos (by rw [nI_toInt (by omega)]; omega)]
    · rw [if_neg e, if_neg e, oc_cut (k := k) (K := K) (by omega) (by omega)]
      have e2 : ((n + 1 : Nat) : Int) + (k : Int) = (n : Int) + ((k + 1 : Nat) : Int) := by omega
      simp only [e2]
theorem w_min_has {sp inches : Int32} {w : Nat → Int32} : w_min sp inches w 4 = w_all sp (rx_N (w 3)) w 4 := w_st_hi (by omega)
theorem w_min_3 {sp inches : Int32} {w : Nat → Int32} : w_min sp inches w 3 = w 3 := (w_st_hi (by omega)).trans (w_all_n (by omega) (fun a _ => by omega))
theorem od_m1 {i c : Nat} (h : i % c + 1 < c) : (i + 1) % c = i % c + 1 := by
  rw [Nat.add_mod, Nat.mod_eq_of_lt (show 1 < c by omega)]
  exact Nat.mod_eq_of_lt h
theorem od_m0 {i c : Nat} (h1 : i % c < c) (h : c ≤ i % c + 1) : (i + 1) % c = 0 := by
  have e : i % c + 1 = c := by omega
  rw [← Nat.mod_add_mod, e, Nat.mod_self]
set_option maxHeartbeats 1000000 in
set_option maxRecDepth 100000 in
theorem kX4_arrivalInOrder {l : Launch} {O : rx_O} (hO : cb_O O) {σ : rx_S} {n a c : Nat} {w : Nat → Int32} {L : List Int32} (hw : cb_R cb_T σ 1 w) (hv : w_V 999 w) (hb : w_B w) (hn : n ≤ 200) (ha : a < 6) (ha3 : a < rx_N (w 3)) (hc : 1 ≤ c ∧ c ≤ 5) (hc2 : w 2 = nI c) (hL : nx_is c (σ.1 252) L) (hLv : ∀ p, p < c → 0 ≤ (L.getD p 0).toInt ∧ (L.getD p 0).toInt < c) : rx_MI l O yX4_arrivalInOrder cX4_arrivalInOrder 7 (some .int) 4 [.ref 242, .ref 1, .int (nI a), .int (nI n)] σ (fun r τ => oc a L c n 0 w = r ∧ cb_fr 243 σ τ ∧ cb_bo τ 243) := by
  refine rx_Met_of (own := RX4) rfl hO.2.1 vsX4_arrivalInOrder.2.2.2.2.2 (Nat.le_of_ble_eq_true rfl) rfl (fun p e s m args below meth cd X => ?_)
  have loop : ∀ (k : Nat) (i : Nat) (x : Int32) (τ : rx_S) (u : Nat → Int32), (i + k = n) → (x = nI (i + 1)) → (cb_fr 243 σ τ) → (cb_R (fun b => b = a) τ 243 u) → (w_V (999 + i) u) → (w_B u) → (a < rx_N (u 3)) → (u 2 = nI c) → (oc a L c n 0 w = oc a L c k i u) → rx_J O 7 p l e (rx_lv 4) s m args below meth cd (rx_QI O below args s (fun r τ => oc a L c n 0 w = r ∧ cb_fr 243 σ τ ∧ cb_bo τ 243)) 23 [(0, .ref 242), (1, .ref 1), (2, .int (nI a)), (3, .int (nI n)), (4, .int (nI c)), (5, .int (nI (i % c))), (6, .int x)] [] τ := by
    intro k
    induction k with
    | zero =>
      intro i x τ u hi hx hf hτ hv2 hb2 hu3 hu2 he
      obtain rfl : i = n := by omega
      subst hx
      refine rx_iload (i := 6) X dX4_arrivalInOrder_23 rfl ?_
      refine rx_iload_n (i := 3) X dX4_arrivalInOrder_25 rfl rfl ?_
      refine rx_icmp_gt_t X dX4_arrivalInOrder_26 (nI_lt (by omega) (by omega)) ?_
      refine rx_sipush (v := 201) X dX4_arrivalInOrder_131 (by decide) ?_
      refine rx_iret X dX4_arrivalInOrder_134 ?_
      exact ⟨by rw [he]; rfl, hf, hτ.1⟩
    | succ k ih =>
      intro i x τ u hi hx hf hτ hv2 hb2 hu3 hu2 he
      subst hx
      have hic : i % c < c := Nat.mod_lt _ (by omega)
      have hLv := hLv (i % c) hic
      have hq := rx_Ni hLv.1
      refine rx_iload (i := 6) X dX4_arrivalInOrder_23 rfl ?_
      refine rx_iload_n (i := 3) X dX4_arrivalInOrder_25 rfl rfl ?_
      refine rx_icmp_gt_f X dX4_arrivalInOrder_26 (nI_ngt (by omega) (by omega)) ?_
      refine rx_aload_n (i := 0) X dX4_arrivalInOrder_29 rfl rfl ?_
      refine rx_getR (ci := 4) (i := 0) X (kc_242 hO) rfl rfl (by decide) inX4 flX4_12 dX4_arrivalInOrder_30 ?_
      refine rx_getR (ci := 3) (i := 5) X (kb_0 hO cb_B243) rfl rfl (by decide) inX3 flX4_43 dX4_arrivalInOrder_33 ?_
      refine rx_iload_n (i := 2) X dX4_arrivalInOrder_36 rfl rfl ?_
      refine rx_aaldN (j := a) X (kb_2 hO cb_B243) hO.2.2.2.2.2.1 rfl ha (by decide) (kb_el ha) dX4_arrivalInOrder_37 ?_
      refine rx_aload_n (i := 0) X dX4_arrivalInOrder_38 rfl rfl ?_
      refine rx_getR (ci := 4) (i := 0) X (kc_242 hO) rfl rfl (by decide) inX4 flX4_12 dX4_arrivalInOrder_39 ?_
      refine rx_getI (ci := 3) (i := 1) X (kb_0 hO cb_B243) rfl rfl (by decide) inX3 flX4_66 dX4_arrivalInOrder_42 ?_
      refine rx_top hτ.2.1.1.2.1 ?_
      refine rx_aload_n (i := 0) X dX4_arrivalInOrder_45 rfl rfl ?_
      refine rx_getR (ci := 4) (i := 0) X (kc_242 hO) rfl rfl (by decide) inX4 flX4_12 dX4_arrivalInOrder_46 ?_
      refine rx_getI (ci := 3) (i := 0) X (kb_0 hO cb_B243) rfl rfl (by decide) inX3 flX4_69 dX4_arrivalInOrder_49 ?_
      refine rx_top hτ.2.1.1.1 ?_
      refine rx_callVv (ci := 1) X vsX1_go mlX4_72 (kX1_go hO (kb_a hO cb_B243 ha)) (kb_a hO cb_B243 ha) rfl rfl (by decide) (by decide) dX4_arrivalInOrder_52 rfl (Nat.le_of_ble_eq_true rfl) (fun t52 h52 => ?_)
      subst h52
      have hg := hτ.go ha rfl hu3 (hv2.2.2.2.2.2 a hu3) hv2.1.1 hb2
      refine rx_aload_n (i := 0) X dX4_arrivalInOrder_55 rfl rfl ?_
      refine rx_getR (ci := 4) (i := 0) X (kc_242 hO) rfl rfl (by decide) inX4 flX4_12 dX4_arrivalInOrder_56 ?_
      refine rx_getR (ci := 3) (i := 5) X (kb_0 hO cb_B243) rfl rfl (by decide) inX3 flX4_43 dX4_arrivalInOrder_59 ?_
      refine rx_iload_n (i := 2) X dX4_arrivalInOrder_62 rfl rfl ?_
      refine rx_aaldN (j := a) X (kb_2 hO cb_B243) hO.2.2.2.2.2.1 rfl ha (by decide) (kb_el ha) dX4_arrivalInOrder_63 ?_
      refine rx_getZ (ci := 1) (i := 5) X (kb_a hO cb_B243 ha) rfl rfl (by decide) inX1 flX4_56 dX4_arrivalInOrder_64 ?_
      refine rx_if_eq X dX4_arrivalInOrder_67 (fun h67 => ?_) (fun h67 => ?_)
      · have hna : ¬ w_has (w_g1 u a 4) a := fun q => absurd h67 ((hg.2.2 a ha (by rw [w_g1_n (by omega) (by omega)]; exact hu3) rfl).has.mpr q)
        refine rx_aload_n (i := 0) X dX4_arrivalInOrder_73 rfl rfl ?_
        refine rx_getR (ci := 4) (i := 0) X (kc_242 hO) rfl rfl (by decide) inX4 flX4_12 dX4_arrivalInOrder_74 ?_
        refine rx_iload (i := 5) X dX4_arrivalInOrder_77 rfl ?_
        refine rx_iload (i := 4) X dX4_arrivalInOrder_79 rfl ?_
        refine rx_icmp_ge_f X dX4_arrivalInOrder_81 (nI_ge hic (by omega)) ?_
        refine rx_aload_n (i := 0) X dX4_arrivalInOrder_84 rfl rfl ?_
        refine rx_getR (ci := 4) (i := 0) X (kc_242 hO) rfl rfl (by decide) inX4 flX4_12 dX4_arrivalInOrder_85 ?_
        refine rx_getR (ci := 3) (i := 4) X (kb_0 hO cb_B243) rfl rfl (by decide) inX3 flX4_83 dX4_arrivalInOrder_88 ?_
        refine rx_aload_n (i := 0) X dX4_arrivalInOrder_91 rfl rfl ?_
        refine rx_getR (ci := 4) (i := 1) X (kc_242 hO) rfl rfl (by decide) inX4 flX4_18 dX4_arrivalInOrder_92 ?_
        refine rx_iload (i := 5) X dX4_arrivalInOrder_95 rfl ?_
        refine rx_ialdN (j := i % c) X (kc_252 hO) hO.2.2.1 rfl (by omega) (by decide) dX4_arrivalInOrder_97 ?_
        refine rx_top ((congrFun ((hf.ua (by omega) (by omega)).2 252 (by omega)) (i % c)).trans (hL.2 (i % c) hic)) ?_
        refine rx_ialdN (j := rx_N (L.getD (i % c) 0)) X (kb_1 hO cb_B243) hO.2.2.1 (rx_nN hLv.1) (by omega) (by decide) dX4_arrivalInOrder_98 ?_
        refine rx_top (show _ = od_in L c i u from (hg.2.1.2 _ (by omega) (by rw [w_g1_n (by omega) (by omega), hu2, rx_Nn (by omega)]; omega)).trans (w_g1_n (by omega) (by omega))) ?_
        refine rx_goto X dX4_arrivalInOrder_99 ?_
        refine rx_callVv (ci := 3) X vsX3_stretch mlX4_103 (kX3_stretch hO cb_B243 hg) (kb_0 hO cb_B243) rfl rfl (by decide) (by decide) dX4_arrivalInOrder_103 rfl (Nat.le_of_ble_eq_true rfl) (fun t103 h103 => ?_)
        obtain ⟨h103f, h103⟩ := h103
        refine rx_iload (i := 5) X dX4_arrivalInOrder_106 rfl ?_
        refine rx_iconst (v := 1) X dX4_arrivalInOrder_108 (by decide) ?_
        refine rx_iadd X dX4_arrivalInOrder_109 ?_
        refine rx_iload (i := 4) X dX4_arrivalInOrder_110 rfl ?_
        refine rx_icmp_ge X dX4_arrivalInOrder_112 (fun h112 => ?_) (fun h112 => ?_)
        · refine rx_iconst (v := 0) X dX4_arrivalInOrder_122 (by decide) ?_
          refine rx_istore (i := 5) (lo2 := [(0, .ref _), (1, .ref _), (2, .int _), (3, .int _), (4, .int _), (5, .int _), (6, .int _)]) X dX4_arrivalInOrder_123 (by decide) rfl ?_
          refine rx_iinc (i := 6) (lo2 := [(0, .ref _), (1, .ref _), (2, .int _), (3, .int _), (4, .int _), (5, .int _), (6, .int _)]) X dX4_arrivalInOrder_125 rfl (rx_inc1 _) (by decide) rfl ?_
          refine rx_goto X dX4_arrivalInOrder_128 ?_
          have hme : cb_R (fun b => b = a) t103 243 (w_min (-1) (od_in L c i u) u) := h103.alone ha hu3 hv2.n3.2 hb2 (nI_m1 a ha)
          have hin : 0 ≤ (od_in L c i u).toInt ∧ (od_in L c i u).toInt ≤ 99 := hv2.2.2.2.2.1 _ (by rw [hu2, rx_Nn (by omega)]; omega)
          have hns : ¬ w_has (w_min (-1) (od_in L c i u) u 4) a := by
            rw [w_min_has]
            exact fun q => hna ((w_all_lt hb2 ha (nI_m1 a ha) _ hu3 hv2.n3.2).2.2.2.2.2.mp q)
          have hmod : (i + 1) % c = 0 := od_m0 hic (by rw [nI_1, nI_leI (by omega) (by omega)] at h112; omega)
          rw [show (0 : Int32) = nI ((i + 1) % c) by rw [hmod]; rfl]
          refine ih (i + 1) _ _ _ (by omega) (nI_1 (i + 1)) ((hf.ua (by omega) (by omega)).trans h103f) hme (w_V_min (K := 999 + i) (by omega) hv2 hin) (w_B_min hb2 (by have := hv2.2.2.2.1; omega)) (by rw [w_min_3]; exact hu3) (by rw [w_min_2]; exact hu2) ?_
          rw [he, oc, if_neg hns]
        · refine rx_iload (i := 5) X dX4_arrivalInOrder_115 rfl ?_
          refine rx_iconst (v := 1) X dX4_arrivalInOrder_117 (by decide) ?_
          refine rx_iadd X dX4_arrivalInOrder_118 ?_
          refine rx_goto X dX4_arrivalInOrder_119 ?_
          refine rx_istore (i := 5) (lo2 := [(0, .ref _), (1, .ref _), (2, .int _), (3, .int _), (4, .int _), (5, .int _), (6, .int _)]) X dX4_arrivalInOrder_123 (by decide) rfl ?_
          refine rx_iinc (i := 6) (lo2 := [(0, .ref _), (1, .ref _), (2, .int _), (3, .int _), (4, .int _), (5, .int _), (6, .int _)]) X dX4_arrivalInOrder_125 rfl (rx_inc1 _) (by decide) rfl ?_
          refine rx_goto X dX4_arrivalInOrder_128 ?_
          have hme : cb_R (fun b => b = a) t103 243 (w_min (-1) (od_in L c i u) u) := h103.alone ha hu3 hv2.n3.2 hb2 (nI_m1 a ha)
          have hin : 0 ≤ (od_in L c i u).toInt ∧ (od_in L c i u).toInt ≤ 99 := hv2.2.2.2.2.1 _ (by rw [hu2, rx_Nn (by omega)]; omega)
          have hns : ¬ w_has (w_min (-1) (od_in L c i u) u 4) a := by
            rw [w_min_has]
            exact fun q => hna ((w_all_lt hb2 ha (nI_m1 a ha) _ hu3 hv2.n3.2).2.2.2.2.2.mp q)
          have hmod : (i + 1) % c = i % c + 1 := od_m1 (by rw [nI_1, nI_leI (by omega) (by omega)] at h112; omega)
          rw [show nI (i % c) + 1 = nI ((i + 1) % c) by rw [hmod]; exact nI_1 _]
          refine ih (i + 1) _ _ _ (by omega) (nI_1 (i + 1)) ((hf.ua (by omega) (by omega)).trans h103f) hme (w_V_min (K := 999 + i) (by omega) hv2 hin) (w_B_min hb2 (by have := hv2.2.2.2.1; omega)) (by rw [w_min_3]; exact hu3) (by rw [w_min_2]; exact hu2) ?_
          rw [he, oc, if_neg hns]
      · have hya : w_has (w_g1 u a 4) a := (hg.2.2 a ha (by rw [w_g1_n (by omega) (by omega)]; exact hu3) rfl).has.mp h67
        refine rx_iload (i := 6) X dX4_arrivalInOrder_70 rfl ?_
        refine rx_iret X dX4_arrivalInOrder_72 ?_
        refine ⟨?_, hf.ua (by omega) (by omega), hg.1⟩
        rw [he, oc, if_pos]
        rw [w_min_has]
        exact (w_all_lt hb2 ha (nI_m1 a ha) _ hu3 hv2.n3.2).2.2.2.2.2.mpr hya
  refine rx_aload_n (i := 0) X dX4_arrivalInOrder_0 rfl rfl ?_
  refine rx_getR (ci := 4) (i := 0) X (kc_242 hO) rfl rfl (by decide) inX4 flX4_12 dX4_arrivalInOrder_1 ?_
  refine rx_aload_n (i := 1) X dX4_arrivalInOrder_4 rfl rfl ?_
  refine rx_callVv (ci := 3) X vsX3_takeFrom mlX4_28 (kX3_tf hO hw (cb_fr.rfl' 243 σ)) (kb_0 hO cb_B243) rfl rfl (by decide) (by decide) dX4_arrivalInOrder_5 rfl (Nat.le_of_ble_eq_true rfl) (fun t5 h5 => ?_)
  obtain ⟨h5f, h5⟩ := h5
  refine rx_aload_n (i := 0) X dX4_arrivalInOrder_8 rfl rfl ?_
  refine rx_getR (ci := 4) (i := 0) X (kc_242 hO) rfl rfl (by decide) inX4 flX4_12 dX4_arrivalInOrder_9 ?_
  refine rx_getI (ci := 3) (i := 2) X (kb_0 hO cb_B243) rfl rfl (by decide) inX3 flX4_80 dX4_arrivalInOrder_12 ?_
  refine rx_top (h5.2.1.1.2.2.1.trans hc2) ?_
  refine rx_istore (i := 4) (lo2 := [(0, .ref _), (1, .ref _), (2, .int _), (3, .int _), (4, .int _)]) X dX4_arrivalInOrder_15 (by decide) rfl ?_
  refine rx_iconst (v := 0) X dX4_arrivalInOrder_17 (by decide) ?_
  refine rx_istore (i := 5) (lo2 := [(0, .ref _), (1, .ref _), (2, .int _), (3, .int _), (4, .int _), (5, .int _)]) X dX4_arrivalInOrder_18 (by decide) rfl ?_
  refine rx_iconst (v := 1) X dX4_arrivalInOrder_20 (by decide) ?_
  refine rx_istore (i := 6) (lo2 := [(0, .ref _), (1, .ref _), (2, .int _), (3, .int _), (4, .int _), (5, .int _), (6, .int _)]) X dX4_arrivalInOrder_21 (by decide) rfl ?_
  have e0 : (0 : Int32) = nI (0 % c) := by rw [Nat.zero_mod]; rfl
  rw [e0]
  exact loop n 0 _ _ _ (by omega) rfl h5f (h5.less (fun _ _ => trivial)) hv hb ha3 hc2 rfl
