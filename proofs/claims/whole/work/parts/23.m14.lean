/-- behind wall(): a wall that was read stands; or a fault -/
def sp_wallQ (σ : rx_S) (N : Nat) (r : Int32) (τ : rx_S) : Prop :=
  ((pz_wall (σ.1 6) N (σ.1 7)).1 = 0 ∧ r = (pz_wall (σ.1 6) N (σ.1 7)).2.2 3 ∧ τ.1 4 = cpn 40 (pz_wall (σ.1 6) N (σ.1 7)).2.2 (σ.1 4) ∧ (∀ k, k ≠ 0 → k ≠ 4 → k ≠ 7 → τ.1 k = σ.1 k) ∧ τ.1 0 9 = 0 ∧ τ.1 0 4 = 1 ∧ τ.1 0 18 = 0 ∧ (∀ j, j ≠ 4 → j ≠ 9 → j ≠ 18 → j ≠ 11 → j ≠ 12 → j ≠ 13 → j ≠ 14 → j ≠ 15 → τ.1 0 j = σ.1 0 j)) ∨
  (¬ (pz_wall (σ.1 6) N (σ.1 7)).1 = 0 ∧ r = -1000100 - nI (pz_wall (σ.1 6) N (σ.1 7)).2.1 ∧ (∀ k, k ≠ 0 → k ≠ 7 → τ.1 k = σ.1 k) ∧ τ.1 0 9 = 0 ∧ τ.1 0 10 = (pz_wall (σ.1 6) N (σ.1 7)).1 ∧ (∀ j, j ≠ 9 → j ≠ 10 → j ≠ 11 → j ≠ 12 → j ≠ 13 → j ≠ 14 → j ≠ 15 → τ.1 0 j = σ.1 0 j))
set_option maxHeartbeats 4000000 in
set_option maxRecDepth 100000 in
theorem kX8_wall {l : Launch} {O : rx_O} (hO : mo_O O) {σ : rx_S} {N : Nat} (h9 : σ.1 0 9 = nI N) (hN : N ≤ 120) : rx_MI l O yX8_wall cX8_wall 3 (some .int) 6 [.ref 0] σ (fun r τ => sp_wallQ σ N r τ) := by
  refine rx_Met_of (own := RX8) rfl hO.2.1 vsX8_wall.2.2.2.2.2 (Nat.le_of_ble_eq_true rfl) rfl (fun p e s m args below meth c X => ?_)
  have go : ∀ (t1 : rx_S), pz_ok σ t1 → (pz_wall (σ.1 6) N (σ.1 7)).1 = 0 → t1.1 7 = (pz_wall (σ.1 6) N (σ.1 7)).2.2 → rx_J O 3 p l e (rx_lv 6) s m args below meth c (rx_QI O below args s (fun r τ => sp_wallQ σ N r τ)) 32 [(0, .ref 0), (1, .int 1), (2, .int 0)] [] (rx_u t1 0 9 0) := by
    intro t1 ok1 z1 rd1
    have loop : ∀ (k : Nat) (i : Nat) (x : Int32) (τ : rx_S), (i + k = 40) → (x = nI i) → (τ = rx_ua (rx_u t1 0 9 0) 4 (cpn i (pz_wall (σ.1 6) N (σ.1 7)).2.2 (σ.1 4))) → rx_J O 3 p l e (rx_lv 6) s m args below meth c (rx_QI O below args s (fun r τ => sp_wallQ σ N r τ)) 32 [(0, .ref 0), (1, .int 1), (2, .int x)] [] τ := by
      intro k
      induction k with
      | zero =>
        intro i x τ hi hx hτ
        subst hx
        obtain rfl : i = 40 := by omega
        refine rx_iload_n (i := 2) X dX8_wall_32 rfl rfl ?_
        refine rx_bipush (v := 40) X dX8_wall_33 (by decide) ?_
        refine rx_icmp_ge_t X dX8_wall_35 (by decide) ?_
        refine rx_aload_n (i := 0) X dX8_wall_56 rfl rfl ?_
        refine rx_iconst (v := 1) X dX8_wall_57 (by decide) ?_
        refine rx_putZ (ci := 8) (i := 4) X (km_0 hO) rfl rfl (by decide) inX8 tyX8 tyX8_ok nmX8 flX8_144 rfl rfl rfl rfl dX8_wall_58 ?_
        refine rx_aload_n (i := 0) X dX8_wall_61 rfl rfl ?_
        refine rx_iconst (v := 0) X dX8_wall_62 (by decide) ?_
        refine rx_putI (ci := 8) (i := 18) X (km_0 hO) rfl rfl (by decide) inX8 tyX8 tyX8_ok nmX8 flX8_148 rfl rfl dX8_wall_63 ?_
        refine rx_aload_n (i := 0) X dX8_wall_66 rfl rfl ?_
        refine rx_getR (ci := 8) (i := 5) X (km_0 hO) rfl rfl (by decide) inX8 flX8_19 dX8_wall_67 ?_
        refine rx_iconst (v := 3) X dX8_wall_70 (by decide) ?_
        refine rx_ialdN (j := 3) X (km_4 hO) hO.2.2.1 rfl (by decide) (by decide) dX8_wall_71 ?_
        refine rx_top (congrFun ((rx_u_ne (by decide)).trans ((rx_u_ne (by decide)).trans (hτ ▸ rx_ua_s))) 3) ?_
        refine rx_iret X dX8_wall_72 ?_
        refine Or.inl ⟨z1, ?_, ?_, ?_, ?_, ?_, ?_, ?_⟩
        · rw [cpn_lt (by decide)]
        · rw [rx_u_ne (by decide), rx_u_ne (by decide), hτ, rx_ua_s]
        · intro k a b c
          rw [rx_u_ne a, rx_u_ne a, hτ, rx_ua_ne b, rx_u_ne a]
          exact ok1.1 k a c
        · rw [u0n (by decide), u0n (by decide), hτ, rx_ua_ne (by decide), u0s]
        · rw [u0n (by decide), u0s]
        · rw [u0s]
        · intro j a b c d e f g h
          rw [u0n c, u0n a, hτ, rx_ua_ne (by decide), u0n b]
          exact ok1.2.1 j d e f g h
      | succ k ih =>
        intro i x τ hi hx hτ
        subst hx
        have ea : τ.1 4 = cpn i (pz_wall (σ.1 6) N (σ.1 7)).2.2 (σ.1 4) := by rw [hτ, rx_ua_s]
        have eb : τ.1 7 = (pz_wall (σ.1 6) N (σ.1 7)).2.2 := by rw [hτ, rx_ua_ne (by decide), rx_u_ne (by decide)]; exact rd1
        refine rx_iload_n (i := 2) X dX8_wall_32 rfl rfl ?_
        refine rx_bipush (v := 40) X dX8_wall_33 (by decide) ?_
        refine rx_icmp_ge_f X dX8_wall_35 (nI_ge (b := 40) (by omega) (by decide)) ?_
        refine rx_aload_n (i := 0) X dX8_wall_38 rfl rfl ?_
        refine rx_getR (ci := 8) (i := 5) X (km_0 hO) rfl rfl (by decide) inX8 flX8_19 dX8_wall_39 ?_
        refine rx_iload_n (i := 2) X dX8_wall_42 rfl rfl ?_
        refine rx_aload_n (i := 0) X dX8_wall_43 rfl rfl ?_
        refine rx_getR (ci := 8) (i := 16) X (km_0 hO) rfl rfl (by decide) inX8 flX8_32 dX8_wall_44 ?_
        refine rx_iload_n (i := 2) X dX8_wall_47 rfl rfl ?_
        refine rx_ialdN (j := i) X (km_7 hO) hO.2.2.1 rfl (by omega) (by decide) dX8_wall_48 ?_
        refine rx_iastN (j := i) X (km_4 hO) hO.2.2.1 rfl (by omega) (by decide) dX8_wall_49 ?_
        refine rx_iinc (i := 2) (lo2 := [(0, .ref _), (1, .int _), (2, .int _)]) X dX8_wall_50 rfl (rx_inc1 _) (by decide) rfl ?_
        refine rx_goto X dX8_wall_53 ?_
        refine ih (i + 1) _ _ (by omega) (nI_1 i) ?_
        rw [rx_u_eq, ea, eb, cpn_s, hτ, rx_ua_ua]
    refine loop 40 0 _ _ rfl rfl ?_
    rw [cpn_0, show σ.1 4 = (rx_u t1 0 9 0).1 4 by rw [rx_u_ne (by decide)]; exact (ok1.1 4 (by decide) (by decide)).symm]
    exact (rx_ua_self _ 4).symm
  refine rx_aload_n (i := 0) X dX8_wall_0 rfl rfl ?_
  refine rx_callVi (ci := 8) X vsX8_readWall mlX8_137 (kX8_readWall hO h9 hN) (km_0 hO) rfl rfl (by decide) (by decide) dX8_wall_1 rfl (Nat.le_of_ble_eq_true rfl) (fun r1 t1 h1 => ?_)
  obtain ⟨ok1, ⟨rfl, z1, st1, rd1⟩ | ⟨rfl, z1, w1, b1⟩⟩ := h1
  · refine rx_istore_n (i := 1) (lo2 := [(0, .ref _), (1, .int _)]) X dX8_wall_4 rfl (by decide) rfl ?_
    refine rx_aload_n (i := 0) X dX8_wall_5 rfl rfl ?_
    refine rx_iconst (v := 0) X dX8_wall_6 (by decide) ?_
    refine rx_putI (ci := 8) (i := 9) X (km_0 hO) rfl rfl (by decide) inX8 tyX8 tyX8_ok nmX8 flX8_87 rfl rfl dX8_wall_7 ?_
    refine rx_iload_n (i := 1) X dX8_wall_10 rfl rfl ?_
    refine rx_if_ne_t X dX8_wall_11 (by decide) ?_
    refine rx_iconst (v := 0) X dX8_wall_30 (by decide) ?_
    refine rx_istore_n (i := 2) (lo2 := [(0, .ref _), (1, .int _), (2, .int _)]) X dX8_wall_31 rfl (by decide) rfl ?_
    exact go t1 ok1 z1 rd1
  · refine rx_istore_n (i := 1) (lo2 := [(0, .ref _), (1, .int _)]) X dX8_wall_4 rfl (by decide) rfl ?_
    refine rx_aload_n (i := 0) X dX8_wall_5 rfl rfl ?_
    refine rx_iconst (v := 0) X dX8_wall_6 (by decide) ?_
    refine rx_putI (ci := 8) (i := 9) X (km_0 hO) rfl rfl (by decide) inX8 tyX8 tyX8_ok nmX8 flX8_87 rfl rfl dX8_wall_7 ?_
    refine rx_iload_n (i := 1) X dX8_wall_10 rfl rfl ?_
    refine rx_if_ne_f X dX8_wall_11 (by decide) ?_
    refine rx_aload_n (i := 0) X dX8_wall_14 rfl rfl ?_
    refine rx_aload_n (i := 0) X dX8_wall_15 rfl rfl ?_
    refine rx_getI (ci := 8) (i := 15) X (km_0 hO) rfl rfl (by decide) inX8 flX8_111 dX8_wall_16 ?_
    refine rx_top ((u0n (by decide)).trans w1) ?_
    refine rx_putI (ci := 8) (i := 10) X (km_0 hO) rfl rfl (by decide) inX8 tyX8 tyX8_ok nmX8 flX8_140 rfl rfl dX8_wall_19 ?_
    refine rx_ldc X dX8_wall_22 kcX8_143 ?_
    refine rx_aload_n (i := 0) X dX8_wall_24 rfl rfl ?_
    refine rx_getI (ci := 8) (i := 14) X (km_0 hO) rfl rfl (by decide) inX8 flX8_94 dX8_wall_25 ?_
    refine rx_top ((u0n (by decide)).trans ((u0n (by decide)).trans b1)) ?_
    refine rx_isub X dX8_wall_28 ?_
    refine rx_iret X dX8_wall_29 ?_
    refine Or.inr ⟨z1, rfl, ?_, ?_, ?_, ?_⟩
    · intro k a b
      rw [rx_u_ne a, rx_u_ne a]
      exact ok1.1 k a b
    · rw [u0n (by decide), u0s]
    · rw [u0s]
    · intro j a b c d e f g
      rw [u0n b, u0n a]
      exact ok1.2.1 j c d e f g
def sp_ones : Nat → Int32 → Int32 → Int32
  | 0, _, n => n
  | f + 1, s, n => if s = 0 then n else sp_ones f (s &&& (s - 1)) (n + 1)
def sp_onesS : Nat → Int32 → Int32
  | 0, s => s
  | f + 1, s => if s = 0 then s else sp_onesS f (s &&& (s - 1))
theorem ones_end : ∀ q, q < 64 → sp_onesS 6 (nI q) = 0 := by decide +kernel
set_option maxHeartbeats 4000000 in
set_option maxRecDepth 100000 in
theorem kX8_ones {l : Launch} {O : rx_O} (hO : mo_O O) {σ : rx_S} {q : Nat} (hq : q < 64) : rx_MI l O yX8_ones cX8_ones 3 (some .int) 0 [.int (nI q)] σ (fun r τ => sp_ones 6 (nI q) 0 = r ∧ σ = τ) := by
  refine rx_Met_of (own := RX8) rfl hO.2.1 vsX8_ones.2.2.2.2 (Nat.le_of_ble_eq_true rfl) rfl (fun p e s m args below meth c X => ?_)
  have loop : ∀ (k : Nat) (n sv : Int32), (sp_onesS k sv = 0) → (sp_ones 6 (nI q) 0 = sp_ones k sv n) → rx_J O 3 p l e (rx_lv 0) s m args below meth c (rx_QI O below args s (fun r τ => sp_ones 6 (nI q) 0 = r ∧ σ = τ)) 4 [(0, .int (nI q)), (1, .int n), (2, .int sv)] [] σ := by
    intro k
    induction k with
    | zero =>
      intro n sv he hu
      have hs0 : sv = 0 := by rw [sp_onesS] at he; exact he
      refine rx_iload_n (i := 2) X dX8_ones_4 rfl rfl ?_
      refine rx_if_eq_t X dX8_ones_5 hs0 ?_
      refine rx_iload_n (i := 1) X dX8_ones_20 rfl rfl ?_
      refine rx_iret X dX8_ones_21 ?_
      refine ⟨?_, rfl⟩
      rw [hu]
      rfl
    | succ k ih =>
      intro n sv he hu
      refine rx_iload_n (i := 2) X dX8_ones_4 rfl rfl ?_
      refine rx_if_eq X dX8_ones_5 (fun h5 => ?_) (fun h5 => ?_)
      · refine rx_iload_n (i := 1) X dX8_ones_20 rfl rfl ?_
        refine rx_iret X dX8_ones_21 ?_
        refine ⟨?_, rfl⟩
        rw [hu, sp_ones, if_pos h5]
      · refine rx_iinc (i := 1) (lo2 := [(0, .int _), (1, .int _), (2, .int _)]) X dX8_ones_8 rfl (rx_inc1 _) (by decide) rfl ?_
        refine rx_iload_n (i := 2) X dX8_ones_11 rfl rfl ?_
        refine rx_iload_n (i := 2) X dX8_ones_12 rfl rfl ?_
        refine rx_iconst (v := 1) X dX8_ones_13 (by decide) ?_
        refine rx_isub X dX8_ones_14 ?_
        refine rx_iand X dX8_ones_15 ?_
        refine rx_istore_n (i := 2) (lo2 := [(0, .int _), (1, .int _), (2, .int _)]) X dX8_ones_16 rfl (by decide) rfl ?_
        refine rx_goto X dX8_ones_17 ?_
        refine ih _ _ ?_ ?_
        · rw [sp_onesS, if_neg h5] at he; exact he
        · rw [hu, sp_ones, if_neg h5]
  refine rx_iconst (v := 0) X dX8_ones_0 (by decide) ?_
  refine rx_istore_n (i := 1) (lo2 := [(0, .int _), (1, .int _)]) X dX8_ones_1 rfl (by decide) rfl ?_
  refine rx_iload_n (i := 0) X dX8_ones_2 rfl rfl ?_
  refine rx_istore_n (i := 2) (lo2 := [(0, .int _), (1, .int _), (2, .int _)]) X dX8_ones_3 rfl (by decide) rfl ?_
  exact loop 6 _ _ (ones_end q hq) rfl
def it_cp (n : Nat) (sp dp : Nat) (f g : Nat → Int32) : Nat → Int32 := fun q => if dp ≤ q ∧ q < dp + n then f (sp + (q - dp)) else g q
theorem it_cp_0 (sp dp : Nat) (f g : Nat → Int32) : it_cp 0 sp dp f g = g := by
  funext q
  exact if_neg (by omega)
theorem it_cp_s (n sp dp : Nat) (f g : Nat → Int32) : upd (it_cp n sp dp f g) (dp + n) (f (sp + n)) = it_cp (n + 1) sp dp f g := by
  funext q
  unfold upd it_cp
  by_cases h : q = dp + n
  · rw [if_pos h, if_pos (by omega), h, Nat.add_sub_cancel_left]
  · rw [if_neg h]
    by_cases h2 : dp ≤ q ∧ q < dp + n
    · rw [if_pos h2, if_pos (by omega)]
    · rw [if_neg h2, if_neg (by omega)]
def sp_copy (σ : rx_S) (a i b j n : Int32) : Int32 × (Nat → Int32) × Int32 :=
  if ¬ (0 ≤ a.toInt ∧ a.toInt ≤ 7) ∨ ¬ (0 ≤ b.toInt ∧ b.toInt ≤ 7) then (-1000001, σ.1 3, σ.1 0 3)
  else if (σ.1 2 (rx_N a)).toInt < 0 ∨ (σ.1 2 (rx_N b)).toInt < 0 then (-1000011, σ.1 3, 1)
  else if ¬ σ.1 1 (rx_N a) = σ.1 1 (rx_N b) then (-1000015, σ.1 3, 5)
  else if n.toInt < 0 ∨ ¬ (0 ≤ i.toInt ∧ i.toInt ≤ (σ.1 2 (rx_N a)).toInt - n.toInt) ∨ ¬ (0 ≤ j.toInt ∧ j.toInt ≤ (σ.1 2 (rx_N b)).toInt - n.toInt) then (-1000012, σ.1 3, 2)
  else (n, it_cp (rx_N n) (40 * rx_N a + rx_N i) (40 * rx_N b + rx_N j) (σ.1 3) (σ.1 3), 0)
/-- behind copy: the items, the status; the row moved is nobody's -/
def sp_copyQ (σ : rx_S) (res : Int32 × (Nat → Int32) × Int32) (r : Int32) (τ : rx_S) : Prop := r = res.1 ∧ τ.1 3 = res.2.1 ∧ τ.1 0 = upd (σ.1 0) 3 res.2.2 ∧ (∀ k, k ≠ 0 → k ≠ 3 → k ≠ 5 → τ.1 k = σ.1 k)
theorem sp_copyQ_of {σ τ : rx_S} {res : Int32 × (Nat → Int32) × Int32} {x r : Int32} {f : Nat → Int32} {v : Int32} (e : res = (x, f, v)) (h : r = x ∧ τ.1 3 = f ∧ τ.1 0 = upd (σ.1 0) 3 v ∧ (∀ k, k ≠ 0 → k ≠ 3 → k ≠ 5 → τ.1 k = σ.1 k)) : sp_copyQ σ res r τ := by subst e; exact h
theorem upd_self (f : Nat → Int32) (i : Nat) : upd f i (f i) = f := by
  funext j
  unfold upd
  split
  · rename_i h; rw [h]
  · rfl
set_option maxHeartbeats 4000000 in
set_option maxRecDepth 100000 in
theorem kX8_copy {l : Launch} {O : rx_O} (hO : mo_O O) {σ : rx_S} {a i b j n : Int32} (hs : mo_sz σ) : rx_MI l O yX8_copy cX8_copy 7 (some .int) 2 [.ref 0, .int a, .int i, .int b, .int j, .int n] σ (fun r τ => sp_copyQ σ (sp_copy σ a i b j n) r τ) := by
  refine rx_Met_of (own := RX8) rfl hO.2.1 vsX8_copy.2.2.2.2.2 (Nat.le_of_ble_eq_true rfl) rfl (fun p e s m args below meth c X => ?_)
  have go : ∀ (a i b j n : Nat), a < 8 → b < 8 → n ≤ 40 → i + n ≤ 40 → j + n ≤ 40 → sp_copy σ (nI a) (nI i) (nI b) (nI j) (nI n) = (nI n, it_cp n (40 * a + i) (40 * b + j) (σ.1 3) (σ.1 3), 0) → rx_J O 7 p l e (rx_lv 2) s m args below meth c (rx_QI O below args s (fun r τ => sp_copyQ σ (sp_copy σ (nI a) (nI i) (nI b) (nI j) (nI n)) r τ)) 117 [(0, .ref 0), (1, .int (nI a)), (2, .int (nI i)), (3, .int (nI b)), (4, .int (nI j)), (5, .int (nI n)), (6, .int 0)] [] σ := by
    intro a i b j n ha hb hn hi hj hres
    have lp2 : ∀ (k : Nat) (q : Nat) (x : Int32) (τ : rx_S), (q + k = n) → (x = nI q) → (τ.1 3 = it_cp q (40 * a + i) (40 * b + j) (σ.1 3) (σ.1 3)) → (τ.1 0 = σ.1 0) → (∀ k, k ≠ 0 → k ≠ 3 → k ≠ 5 → τ.1 k = σ.1 k) → (∀ t, t < n → τ.1 5 t = σ.1 3 ((40 * a + i) + t)) → rx_J O 7 p l e (rx_lv 2) s m args below meth c (rx_QI O below args s (fun r τ => sp_copyQ σ (sp_copy σ (nI a) (nI i) (nI b) (nI j) (nI n)) r τ)) 154 [(0, .ref 0), (1, .int (nI a)), (2, .int (nI i)), (3, .int (nI b)), (4, .int (nI j)), (5, .int (nI n)), (6, .int x)] [] τ := by
      intro k
      induction k with
      | zero =>
        intro q x τ hq hx hτ3 hτ0 hτk hm
        subst hx
        obtain rfl : q = n := by omega
        refine rx_iload (i := 6) X dX8_copy_154 rfl ?_
        refine rx_iload (i := 5) X dX8_copy_156 rfl ?_
        refine rx_icmp_ge_t X dX8_copy_158 (Int32.le_refl _) ?_
        refine rx_aload_n (i := 0) X dX8_copy_189 rfl rfl ?_
        refine rx_iload (i := 5) X dX8_copy_190 rfl ?_
        refine rx_callVi (ci := 8) X vsX8_well mlX8_78 (kX8_well hO) (km_0 hO) rfl rfl (by decide) (by decide) dX8_copy_192 rfl (Nat.le_of_ble_eq_true rfl) (fun r192 t192 h192 => ?_)
        obtain ⟨rfl, rfl⟩ := h192
        refine rx_iret X dX8_copy_195 ?_
        refine sp_copyQ_of hres ⟨rfl, ?_, ?_, ?_⟩
        · rw [rx_u_ne (by decide), hτ3]
        · rw [rx_u_s, hτ0]
        · intro k h1 h2 h3
          rw [rx_u_ne h1]
          exact hτk k h1 h2 h3
      | succ k ih =>
        intro q x τ hq hx hτ3 hτ0 hτk hm
        subst hx
        refine rx_iload (i := 6) X dX8_copy_154 rfl ?_
        refine rx_iload (i := 5) X dX8_copy_156 rfl ?_
        refine rx_icmp_ge_f X dX8_copy_158 (nI_ge (b := n) (by omega) (by omega)) ?_
        refine rx_aload_n (i := 0) X dX8_copy_161 rfl rfl ?_
        refine rx_getR (ci := 8) (i := 2) X (km_0 hO) rfl rfl (by decide) inX8 flX8_16 dX8_copy_162 ?_
        refine rx_bipush (v := 40) X dX8_copy_165 (by decide) ?_
        refine rx_iload_n (i := 3) X dX8_copy_167 rfl rfl ?_
        refine rx_imul X dX8_copy_168 ?_
        refine rx_iload (i := 4) X dX8_copy_169 rfl ?_
        refine rx_iadd X dX8_copy_171 ?_
        refine rx_iload (i := 6) X dX8_copy_172 rfl ?_
        refine rx_iadd X dX8_copy_174 ?_
        refine rx_aload_n (i := 0) X dX8_copy_175 rfl rfl ?_
        refine rx_getR (ci := 8) (i := 7) X (km_0 hO) rfl rfl (by decide) inX8 flX8_26 dX8_copy_176 ?_
        refine rx_iload (i := 6) X dX8_copy_179 rfl ?_
        refine rx_ialdN (j := q) X (km_5 hO) hO.2.2.1 rfl (by omega) (by decide) dX8_copy_181 ?_
        refine rx_top (hm q (by omega)) ?_
        refine rx_iastN (j := 40 * b + j + q) X (km_3 hO) hO.2.2.1 (by rw [show (40 : Int32) = nI 40 from rfl, pk_mul, nI_add, nI_add]) (by omega) (by decide) dX8_copy_182 ?_
        refine rx_iinc (i := 6) (lo2 := [(0, .ref _), (1, .int _), (2, .int _), (3, .int _), (4, .int _), (5, .int _), (6, .int _)]) X dX8_copy_183 rfl (rx_inc1 _) (by decide) rfl ?_
        refine rx_goto X dX8_copy_186 ?_
        refine ih (q + 1) _ _ (by omega) (nI_1 q) ?_ ?_ ?_ ?_
        · rw [rx_u_s, hτ3, show 40 * b + j + q = (40 * b + j) + q from rfl]
          exact it_cp_s q (40 * a + i) (40 * b + j) (σ.1 3) (σ.1 3)
        · rw [rx_u_ne (by decide)]; exact hτ0
        · intro k h1 h2 h3
          rw [rx_u_ne h2]
          exact hτk k h1 h2 h3
        · intro t ht
          rw [rx_u_ne (by decide)]
          exact hm t ht
    have lp1 : ∀ (k : Nat) (q : Nat) (x : Int32) (τ : rx_S), (q + k = n) → (x = nI q) → (∀ k, k ≠ 5 → τ.1 k = σ.1 k) → (∀ t, t < q → τ.1 5 t = σ.1 3 ((40 * a + i) + t)) → rx_J O 7 p l e (rx_lv 2) s m args below meth c (rx_QI O below args s (fun r τ => sp_copyQ σ (sp_copy σ (nI a) (nI i) (nI b) (nI j) (nI n)) r τ)) 117 [(0, .ref 0), (1, .int (nI a)), (2, .int (nI i)), (3, .int (nI b)), (4, .int (nI j)), (5, .int (nI n)), (6, .int x)] [] τ := by
      intro k
      induction k with
      | zero =>
        intro q x τ hq hx hτk hm
        subst hx
        obtain rfl : q = n := by omega
        refine rx_iload (i := 6) X dX8_copy_117 rfl ?_
        refine rx_iload (i := 5) X dX8_copy_119 rfl ?_
        refine rx_icmp_ge_t X dX8_copy_121 (Int32.le_refl _) ?_
        refine rx_iconst (v := 0) X dX8_copy_151 (by decide) ?_
        refine rx_istore (i := 6) (lo2 := [(0, .ref _), (1, .int _), (2, .int _), (3, .int _), (4, .int _), (5, .int _), (6, .int _)]) X dX8_copy_152 (by decide) rfl ?_
        exact lp2 q 0 _ τ (by omega) rfl (by rw [it_cp_0]; exact hτk 3 (by decide)) (hτk 0 (by decide)) (fun k h1 h2 h3 => hτk k h3) hm
      | succ k ih =>
        intro q x τ hq hx hτk hm
        subst hx
        refine rx_iload (i := 6) X dX8_copy_117 rfl ?_
        refine rx_iload (i := 5) X dX8_copy_119 rfl ?_
        refine rx_icmp_ge_f X dX8_copy_121 (nI_ge (b := n) (by omega) (by omega)) ?_
        refine rx_aload_n (i := 0) X dX8_copy_124 rfl rfl ?_
        refine rx_getR (ci := 8) (i := 7) X (km_0 hO) rfl rfl (by decide) inX8 flX8_26 dX8_copy_125 ?_
        refine rx_iload (i := 6) X dX8_copy_128 rfl ?_
        refine rx_aload_n (i := 0) X dX8_copy_130 rfl rfl ?_
        refine rx_getR (ci := 8) (i := 2) X (km_0 hO) rfl rfl (by decide) inX8 flX8_16 dX8_copy_131 ?_
        refine rx_bipush (v := 40) X dX8_copy_134 (by decide) ?_
        refine rx_iload_n (i := 1) X dX8_copy_136 rfl rfl ?_
        refine rx_imul X dX8_copy_137 ?_
        refine rx_iload_n (i := 2) X dX8_copy_138 rfl rfl ?_
        refine rx_iadd X dX8_copy_139 ?_
        refine rx_iload (i := 6) X dX8_copy_140 rfl ?_
        refine rx_iadd X dX8_copy_142 ?_
        refine rx_ialdN (j := 40 * a + i + q) X (km_3 hO) hO.2.2.1 (by rw [show (40 : Int32) = nI 40 from rfl, pk_mul, nI_add, nI_add]) (by omega) (by decide) dX8_copy_143 ?_
        refine rx_top (congrFun (hτk 3 (by decide)) _) ?_
        refine rx_iastN (j := q) X (km_5 hO) hO.2.2.1 rfl (by omega) (by decide) dX8_copy_144 ?_
        refine rx_iinc (i := 6) (lo2 := [(0, .ref _), (1, .int _), (2, .int _), (3, .int _), (4, .int _), (5, .int _), (6, .int _)]) X dX8_copy_145 rfl (rx_inc1 _) (by decide) rfl ?_
        refine rx_goto X dX8_copy_148 ?_
        refine ih (q + 1) _ _ (by omega) (nI_1 q) ?_ ?_
        · intro k h
          rw [rx_u_ne h]
          exact hτk k h
        · intro t ht
          rw [rx_u_s]
          by_cases e : t = q
          · subst e
            rw [upd_s]
          · rw [upd_n e]
            exact hm t (by omega)
    exact lp1 n 0 _ σ (by omega) rfl (fun _ _ => rfl) (fun t ht => absurd ht (by omega))
  refine rx_iload_n (i := 1) X dX8_copy_0 rfl rfl ?_
  refine rx_callTi X vsX8_isRow mlX8_67 (kX8_isRow hO) rfl (by decide) (by decide) dX8_copy_1 rfl (Nat.le_of_ble_eq_true rfl) (fun r1 t1 h1 => ?_)
  obtain ⟨rfl, ⟨rfl, h1⟩ | ⟨rfl, h1⟩⟩ := h1
  · refine rx_if_eq_f X dX8_copy_4 (by decide) ?_
    refine rx_iload_n (i := 3) X dX8_copy_7 rfl rfl ?_
    refine rx_callTi X vsX8_isRow mlX8_67 (kX8_isRow hO) rfl (by decide) (by decide) dX8_copy_8 rfl (Nat.le_of_ble_eq_true rfl) (fun r8 t8 h8 => ?_)
    obtain ⟨rfl, ⟨rfl, h8⟩ | ⟨rfl, h8⟩⟩ := h8
    · refine rx_if_ne_t X dX8_copy_11 (by decide) ?_
      refine rx_aload_n (i := 0) X dX8_copy_17 rfl rfl ?_
      refine rx_getR (ci := 8) (i := 1) X (km_0 hO) rfl rfl (by decide) inX8 flX8_13 dX8_copy_18 ?_
      refine rx_iload_n (i := 1) X dX8_copy_21 rfl rfl ?_
      refine rx_ialdN (j := rx_N a) X (km_2 hO) hO.2.2.1 (rx_nN h1.1) (rx_Nlt h1.1 (by omega)) (by decide) dX8_copy_22 ?_
      refine rx_if_lt X dX8_copy_23 (fun h23 => ?_) (fun h23 => ?_)
      · try simp only [Int32.lt_iff_toInt_lt, Int32.le_iff_toInt_le, Int32.reduceToInt] at h23
        refine rx_aload_n (i := 0) X dX8_copy_35 rfl rfl ?_
        refine rx_iconst (v := 1) X dX8_copy_36 (by decide) ?_
        refine rx_callVi (ci := 8) X vsX8_find mlX8_74 (kX8_find hO) (km_0 hO) rfl rfl (by decide) (by decide) dX8_copy_37 rfl (Nat.le_of_ble_eq_true rfl) (fun r37 t37 h37 => ?_)
        obtain ⟨rfl, rfl⟩ := h37
        refine rx_iret X dX8_copy_40 ?_
        have e : sp_copy σ a i b j n = (-1000011, σ.1 3, 1) := by rw [sp_copy, if_neg (by omega), if_pos (by omega)]
        exact sp_copyQ_of e ⟨rfl, rx_u_ne (by decide), rx_u_s, fun k h _ _ => rx_u_ne h⟩
      · try simp only [Int32.lt_iff_toInt_lt, Int32.le_iff_toInt_le, Int32.reduceToInt] at h23
        refine rx_aload_n (i := 0) X dX8_copy_26 rfl rfl ?_
        refine rx_getR (ci := 8) (i := 1) X (km_0 hO) rfl rfl (by decide) inX8 flX8_13 dX8_copy_27 ?_
        refine rx_iload_n (i := 3) X dX8_copy_30 rfl rfl ?_
        refine rx_ialdN (j := rx_N b) X (km_2 hO) hO.2.2.1 (rx_nN h8.1) (rx_Nlt h8.1 (by omega)) (by decide) dX8_copy_31 ?_
        refine rx_if_ge X dX8_copy_32 (fun h32 => ?_) (fun h32 => ?_)
        · try simp only [Int32.lt_iff_toInt_lt, Int32.le_iff_toInt_le, Int32.reduceToInt] at h32
          refine rx_aload_n (i := 0) X dX8_copy_41 rfl rfl ?_
          refine rx_getR (ci := 8) (i := 0) X (km_0 hO) rfl rfl (by decide) inX8 flX8_7 dX8_copy_42 ?_
          refine rx_iload_n (i := 1) X dX8_copy_45 rfl rfl ?_
          refine rx_ialdN (j := rx_N a) X (km_1 hO) hO.2.2.1 (rx_nN h1.1) (rx_Nlt h1.1 (by omega)) (by decide) dX8_copy_46 ?_
          refine rx_aload_n (i := 0) X dX8_copy_47 rfl rfl ?_
          refine rx_getR (ci := 8) (i := 0) X (km_0 hO) rfl rfl (by decide) inX8 flX8_7 dX8_copy_48 ?_
          refine rx_iload_n (i := 3) X dX8_copy_51 rfl rfl ?_
          refine rx_ialdN (j := rx_N b) X (km_1 hO) hO.2.2.1 (rx_nN h8.1) (rx_Nlt h8.1 (by omega)) (by decide) dX8_copy_52 ?_
          refine rx_icmp_eq X dX8_copy_53 (fun h53 => ?_) (fun h53 => ?_)
          · refine rx_iload (i := 5) X dX8_copy_62 rfl ?_
            refine rx_if_lt X dX8_copy_64 (fun h64 => ?_) (fun h64 => ?_)
            · try simp only [Int32.lt_iff_toInt_lt, Int32.le_iff_toInt_le, Int32.reduceToInt] at h64
              refine rx_aload_n (i := 0) X dX8_copy_108 rfl rfl ?_
              refine rx_iconst (v := 2) X dX8_copy_109 (by decide) ?_
              refine rx_callVi (ci := 8) X vsX8_find mlX8_74 (kX8_find hO) (km_0 hO) rfl rfl (by decide) (by decide) dX8_copy_110 rfl (Nat.le_of_ble_eq_true rfl) (fun r110 t110 h110 => ?_)
              obtain ⟨rfl, rfl⟩ := h110
              refine rx_iret X dX8_copy_113 ?_
              have e : sp_copy σ a i b j n = (-1000012, σ.1 3, 2) := by rw [sp_copy, if_neg (by omega), if_neg (by omega), if_neg (fun z => z h53), if_pos (by omega)]
              exact sp_copyQ_of e ⟨rfl, rx_u_ne (by decide), rx_u_s, fun k h _ _ => rx_u_ne h⟩
            · try simp only [Int32.lt_iff_toInt_lt, Int32.le_iff_toInt_le, Int32.reduceToInt] at h64
              refine rx_iload_n (i := 2) X dX8_copy_67 rfl rfl ?_
              refine rx_i2l X dX8_copy_68 ?_
              refine rx_lconst (v := 0) X dX8_copy_69 (by decide) ?_
              refine rx_aload_n (i := 0) X dX8_copy_70 rfl rfl ?_
              refine rx_getR (ci := 8) (i := 1) X (km_0 hO) rfl rfl (by decide) inX8 flX8_13 dX8_copy_71 ?_
              refine rx_iload_n (i := 1) X dX8_copy_74 rfl rfl ?_
              refine rx_ialdN (j := rx_N a) X (km_2 hO) hO.2.2.1 (rx_nN h1.1) (rx_Nlt h1.1 (by omega)) (by decide) dX8_copy_75 ?_
              refine rx_i2l X dX8_copy_76 ?_
              refine rx_iload (i := 5) X dX8_copy_77 rfl ?_
              refine rx_i2l X dX8_copy_79 ?_
              refine rx_lsub X dX8_copy_80 ?_
              refine rx_callTi X vsX8_in mlX8_63 (kX8_inI hO (A := 0) rfl (rx_lsub_toInt rfl)) rfl (by decide) (by decide) dX8_copy_81 rfl (Nat.le_of_ble_eq_true rfl) (fun r81 t81 h81 => ?_)
              obtain ⟨rfl, ⟨rfl, h81⟩ | ⟨rfl, h81⟩⟩ := h81
              · refine rx_if_eq_f X dX8_copy_84 (by decide) ?_
                refine rx_iload (i := 4) X dX8_copy_87 rfl ?_
                refine rx_i2l X dX8_copy_89 ?_
                refine rx_lconst (v := 0) X dX8_copy_90 (by decide) ?_
                refine rx_aload_n (i := 0) X dX8_copy_91 rfl rfl ?_
                refine rx_getR (ci := 8) (i := 1) X (km_0 hO) rfl rfl (by decide) inX8 flX8_13 dX8_copy_92 ?_
                refine rx_iload_n (i := 3) X dX8_copy_95 rfl rfl ?_
                refine rx_ialdN (j := rx_N b) X (km_2 hO) hO.2.2.1 (rx_nN h8.1) (rx_Nlt h8.1 (by omega)) (by decide) dX8_copy_96 ?_
                refine rx_i2l X dX8_copy_97 ?_
                refine rx_iload (i := 5) X dX8_copy_98 rfl ?_
                refine rx_i2l X dX8_copy_100 ?_
                refine rx_lsub X dX8_copy_101 ?_
                refine rx_callTi X vsX8_in mlX8_63 (kX8_inI hO (A := 0) rfl (rx_lsub_toInt rfl)) rfl (by decide) (by decide) dX8_copy_102 rfl (Nat.le_of_ble_eq_true rfl) (fun r102 t102 h102 => ?_)
                obtain ⟨rfl, ⟨rfl, h102⟩ | ⟨rfl, h102⟩⟩ := h102
                · refine rx_if_ne_t X dX8_copy_105 (by decide) ?_
                  refine rx_iconst (v := 0) X dX8_copy_114 (by decide) ?_
                  refine rx_istore (i := 6) (lo2 := [(0, .ref _), (1, .int _), (2, .int _), (3, .int _), (4, .int _), (5, .int _), (6, .int _)]) X dX8_copy_115 (by decide) rfl ?_
                  have sa := hs (rx_N a) (rx_Nlt h1.1 (by omega))
                  have sb := hs (rx_N b) (rx_Nlt h8.1 (by omega))
                  have hres : sp_copy σ a i b j n = (n, it_cp (rx_N n) (40 * rx_N a + rx_N i) (40 * rx_N b + rx_N j) (σ.1 3) (σ.1 3), 0) := by rw [sp_copy, if_neg (by omega), if_neg (by omega), if_neg (fun z => z h53), if_neg (by omega)]
                  obtain ⟨a, ha, rfl⟩ := rx_sub (x := a) (n := 8) h1.1 (by omega)
                  obtain ⟨b, hb, rfl⟩ := rx_sub (x := b) (n := 8) h8.1 (by omega)
                  obtain ⟨i, hi, rfl⟩ := rx_sub (x := i) (n := 41) (by omega) (by omega)
                  obtain ⟨j, hj, rfl⟩ := rx_sub (x := j) (n := 41) (by omega) (by omega)
                  obtain ⟨n, hn, rfl⟩ := rx_sub (x := n) (n := 41) (by omega) (by omega)
                  rw [rx_Nn (by omega), rx_Nn (by omega), rx_Nn (by omega), rx_Nn (by omega), rx_Nn (by omega)] at hres
                  have e1 := nI_toInt (n := i) (by omega)
                  have e2 := nI_toInt (n := j) (by omega)
                  have e3 := nI_toInt (n := n) (by omega)
                  exact go a i b j n ha hb (by omega) (by omega) (by omega) hres
                · refine rx_if_ne_f X dX8_copy_105 (by decide) ?_
                  refine rx_aload_n (i := 0) X dX8_copy_108 rfl rfl ?_
                  refine rx_iconst (v := 2) X dX8_copy_109 (by decide) ?_
                  refine rx_callVi (ci := 8) X vsX8_find mlX8_74 (kX8_find hO) (km_0 hO) rfl rfl (by decide) (by decide) dX8_copy_110 rfl (Nat.le_of_ble_eq_true rfl) (fun r110 t110 h110 => ?_)
                  obtain ⟨rfl, rfl⟩ := h110
                  refine rx_iret X dX8_copy_113 ?_
                  have e : sp_copy σ a i b j n = (-1000012, σ.1 3, 2) := by rw [sp_copy, if_neg (by omega), if_neg (by omega), if_neg (fun z => z h53), if_pos (by omega)]
                  exact sp_copyQ_of e ⟨rfl, rx_u_ne (by decide), rx_u_s, fun k h _ _ => rx_u_ne h⟩
              · refine rx_if_eq_t X dX8_copy_84 (by decide) ?_
                refine rx_aload_n (i := 0) X dX8_copy_108 rfl rfl ?_
                refine rx_iconst (v := 2) X dX8_copy_109 (by decide) ?_
                refine rx_callVi (ci := 8) X vsX8_find mlX8_74 (kX8_find hO) (km_0 hO) rfl rfl (by decide) (by decide) dX8_copy_110 rfl (Nat.le_of_ble_eq_true rfl) (fun r110 t110 h110 => ?_)
                obtain ⟨rfl, rfl⟩ := h110
                refine rx_iret X dX8_copy_113 ?_
                have e : sp_copy σ a i b j n = (-1000012, σ.1 3, 2) := by rw [sp_copy, if_neg (by omega), if_neg (by omega), if_neg (fun z => z h53), if_pos (by omega)]
                exact sp_copyQ_of e ⟨rfl, rx_u_ne (by decide), rx_u_s, fun k h _ _ => rx_u_ne h⟩
          · refine rx_aload_n (i := 0) X dX8_copy_56 rfl rfl ?_
            refine rx_iconst (v := 5) X dX8_copy_57 (by decide) ?_
            refine rx_callVi (ci := 8) X vsX8_find mlX8_74 (kX8_find hO) (km_0 hO) rfl rfl (by decide) (by decide) dX8_copy_58 rfl (Nat.le_of_ble_eq_true rfl) (fun r58 t58 h58 => ?_)
            obtain ⟨rfl, rfl⟩ := h58
            refine rx_iret X dX8_copy_61 ?_
            have e : sp_copy σ a i b j n = (-1000015, σ.1 3, 5) := by rw [sp_copy, if_neg (by omega), if_neg (by omega), if_pos h53]
            exact sp_copyQ_of e ⟨rfl, rx_u_ne (by decide), rx_u_s, fun k h _ _ => rx_u_ne h⟩
        · try simp only [Int32.lt_iff_toInt_lt, Int32.le_iff_toInt_le, Int32.reduceToInt] at h32
          refine rx_aload_n (i := 0) X dX8_copy_35 rfl rfl ?_
          refine rx_iconst (v := 1) X dX8_copy_36 (by decide) ?_
          refine rx_callVi (ci := 8) X vsX8_find mlX8_74 (kX8_find hO) (km_0 hO) rfl rfl (by decide) (by decide) dX8_copy_37 rfl (Nat.le_of_ble_eq_true rfl) (fun r37 t37 h37 => ?_)
          obtain ⟨rfl, rfl⟩ := h37
          refine rx_iret X dX8_copy_40 ?_
          have e : sp_copy σ a i b j n = (-1000011, σ.1 3, 1) := by rw [sp_copy, if_neg (by omega), if_pos (by omega)]
          exact sp_copyQ_of e ⟨rfl, rx_u_ne (by decide), rx_u_s, fun k h _ _ => rx_u_ne h⟩
    · refine rx_if_ne_f X dX8_copy_11 (by decide) ?_
      refine rx_ldc X dX8_copy_14 kcX8_73 ?_
      refine rx_iret X dX8_copy_16 ?_
      have e : sp_copy σ a i b j n = (-1000001, σ.1 3, σ.1 0 3) := by rw [sp_copy, if_pos (Or.inr h8)]
      exact sp_copyQ_of e ⟨rfl, rfl, (upd_self _ _).symm, fun _ _ _ _ => rfl⟩
  · refine rx_if_eq_t X dX8_copy_4 (by decide) ?_
    refine rx_ldc X dX8_copy_14 kcX8_73 ?_
    refine rx_iret X dX8_copy_16 ?_
    have e : sp_copy σ a i b j n = (-1000001, σ.1 3, σ.1 0 3) := by rw [sp_copy, if_pos (Or.inl h1)]
    exact sp_copyQ_of e ⟨rfl, rfl, (upd_self _ _).symm, fun _ _ _ _ => rfl⟩
