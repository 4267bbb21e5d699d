/-! ===== what a minute does to a wall ===== -/
theorem w_kind3 (x : Int32) : x = 2 ∨ x = 3 ∨ (¬ x = 2 ∧ ¬ x = 3) := by
  by_cases h : x = 2
  · exact Or.inl h
  · by_cases h2 : x = 3
    · exact Or.inr (Or.inl h2)
    · exact Or.inr (Or.inr ⟨h, h2⟩)
theorem w_go_A {w : Nat → Int32} {a : Nat} (h : w_nail w a) (h2 : 0 < w_part w a) : w_go w a = upd w (34 + a) (w_part w a) := by
  unfold w_go
  rw [if_neg]
  rintro (⟨-, q⟩ | ⟨q, -⟩)
  · exact absurd h2 (Int32.not_lt.mpr q)
  · exact q h
theorem w_go_B {w : Nat → Int32} {a : Nat} (h : w_nail w a) (h2 : ¬ 0 < w_part w a) : w_go w a = upd (upd w 4 (w 4 ||| 1 <<< (nI a &&& 31))) (34 + a) 0 := by
  unfold w_go
  rw [if_pos (Or.inl ⟨h, Int32.not_lt.mp h2⟩), if_pos h]
theorem w_go_C {w : Nat → Int32} {a : Nat} (h : ¬ w_nail w a) (h2 : w_part w a < 1000000) : w_go w a = upd w (34 + a) (w_part w a) := by
  unfold w_go
  rw [if_neg]
  rintro (⟨q, -⟩ | ⟨-, q⟩)
  · exact h q
  · exact absurd h2 (Int32.not_lt.mpr q)
theorem w_go_D {w : Nat → Int32} {a : Nat} (h : ¬ w_nail w a) (h2 : ¬ w_part w a < 1000000) : w_go w a = upd (upd w 4 (w 4 ||| 1 <<< (nI a &&& 31))) (34 + a) 1000000 := by
  unfold w_go
  rw [if_pos (Or.inr ⟨h, Int32.not_lt.mp h2⟩), if_neg h]
theorem w_ix {w : Nat → Int32} (h1 : 0 ≤ (w 1).toInt) (h2 : 1 ≤ (w 2).toInt) : (5 : Int32) + (w 1 - w 1 / w 2 * w 2) = nI (5 + rx_N (w 1) % rx_N (w 2)) := by
  have a1 := rx_nN h1
  have a2 := rx_nN (x := w 2) (by omega)
  have a3 := rx_Ni (x := w 2) (by omega)
  have a4 := rx_Ni h1
  have a5 := Int32.toInt_lt (w 1)
  have a6 := Int32.toInt_lt (w 2)
  conv => lhs; rw [a1, a2]
  rw [pk_rem (by omega) (by omega) (by omega)]
  exact nI_add 5 _
theorem w_ix_lt {w : Nat → Int32} (h2 : 1 ≤ (w 2).toInt ∧ (w 2).toInt ≤ 5) : rx_N (w 1) % rx_N (w 2) < rx_N (w 2) ∧ rx_N (w 2) ≤ 5 := by
  have a3 := rx_Ni (x := w 2) (by omega)
  exact ⟨Nat.mod_lt _ (by omega), by omega⟩
theorem w_add_toInt {x y : Int32} (h1 : -1000000000 ≤ x.toInt) (h2 : x.toInt ≤ 1000000000) (h3 : -1000000000 ≤ y.toInt) (h4 : y.toInt ≤ 1000000000) : (x + y).toInt = x.toInt + y.toInt := by
  rw [Int32.toInt_add, Int.bmod_eq_of_le] <;> omega
theorem w_neg_toInt {x : Int32} (h1 : -1000000000 ≤ x.toInt) (h2 : x.toInt ≤ 1000000000) : (-x).toInt = -x.toInt := by
  rw [Int32.toInt_neg, Int.bmod_eq_of_le] <;> omega
theorem w_mul_toInt {x : Int32} (h1 : -1000 ≤ x.toInt) (h2 : x.toInt ≤ 1000) : (x * 1000000).toInt = x.toInt * 1000000 := by
  rw [Int32.toInt_mul, show (1000000 : Int32).toInt = 1000000 from rfl, Int.bmod_eq_of_le] <;> omega
theorem w_tdiv_np {x y : Int} (h : x ≤ 0) (h2 : 0 ≤ y) : x.tdiv y ≤ 0 := by
  have a : (-x).tdiv y = -(x.tdiv y) := Int.neg_tdiv x y
  have b : 0 ≤ (-x).tdiv y := Int.tdiv_nonneg (by omega) h2
  omega
theorem w_div_toInt {x y : Int32} (h1 : 1 ≤ y.toInt) : (x / y).toInt = x.toInt.tdiv y.toInt := by
  rw [Int32.toInt_div, Int.bmod_eq_of_le]
  · have a := Int32.le_toInt x
    have b := Int32.toInt_lt x
    have c := Int.natAbs_tdiv_le_natAbs x.toInt y.toInt
    omega
  · have a := Int32.le_toInt x
    have b := Int32.toInt_lt x
    have c := Int.natAbs_tdiv_le_natAbs x.toInt y.toInt
    have d : x.toInt.tdiv y.toInt ≠ 2147483648 := by
      intro q
      rw [q] at c
      have : x.toInt = -2147483648 := by omega
      rw [this] at q
      have e : (-2147483648 : Int).tdiv y.toInt ≤ 0 := w_tdiv_np (by omega) (by omega)
      omega
    omega
/-- how far an ant that stands as it must goes -/
theorem w_gait_b {w : Nat → Int32} {a : Nat} (h : w_A w a) : -20 ≤ (w_gait w a).toInt ∧ (w_gait w a).toInt ≤ 30 ∧ (w_nail w a → (w_gait w a).toInt ≤ 0) ∧ (¬ w_nail w a → 0 ≤ (w_gait w a).toInt) := by
  obtain ⟨h1, h2, h3, h4, h5⟩ := h
  unfold w_gait
  by_cases k2 : w (10 + a) = 2
  · rw [if_pos k2]
    have hn : ¬ w_nail w a := by
      rintro (q | ⟨q, -⟩)
      · rw [k2] at q; exact absurd q (by decide)
      · rw [k2] at q; exact absurd q (by decide)
    split
    · exact ⟨by decide, by decide, fun _ => by decide, fun _ => by decide⟩
    · exact ⟨by omega, by omega, fun q => absurd q hn, fun _ => by omega⟩
  · rw [if_neg k2]
    by_cases k3 : w (10 + a) = 3
    · rw [if_pos k3]
      have hn : ¬ w_nail w a := by
        rintro (q | ⟨q, -⟩)
        · rw [k3] at q; exact absurd q (by decide)
        · rw [k3] at q; exact absurd q (by decide)
      have e : (w (34 + a) / 100000).toInt = (w (34 + a)).toInt.tdiv 100000 := w_div_toInt (by decide)
      have e2 : 0 ≤ (w (34 + a)).toInt.tdiv 100000 := Int.tdiv_nonneg (by omega) (by omega)
      have e3 : (w (34 + a)).toInt.tdiv 100000 ≤ 10 := by
        rw [Int.tdiv_eq_ediv_of_nonneg (by omega)]
        omega
      rw [w_add_toInt (by omega) (by omega) (by omega) (by omega), e]
      exact ⟨by omega, by omega, fun q => absurd q hn, fun _ => by omega⟩
    · rw [if_neg k3]
      split
      · rename_i hn
        rw [w_neg_toInt (by omega) (by omega)]
        exact ⟨by omega, by omega, fun _ => by omega, fun q => absurd hn q⟩
      · rename_i hn
        exact ⟨by omega, by omega, fun q => absurd q hn, fun _ => by omega⟩
theorem w_part_b {w : Nat → Int32} {a : Nat} (h : w_A w a) (h0 : 1 ≤ (w 0).toInt) : (w_nail w a → (w_part w a).toInt ≤ (w (34 + a)).toInt) ∧ (¬ w_nail w a → (w (34 + a)).toInt ≤ (w_part w a).toInt) ∧ -40000000 ≤ (w_part w a).toInt ∧ (w_part w a).toInt ≤ 40000000 := by
  obtain ⟨g1, g2, g3, g4⟩ := w_gait_b h
  have h5 := h.2.2.2.2
  have e1 := w_mul_toInt (x := w_gait w a) (by omega) (by omega)
  have e2 : (w_gait w a * 1000000 / w 0).toInt = (w_gait w a * 1000000).toInt.tdiv (w 0).toInt := w_div_toInt h0
  have e3 := Int.natAbs_tdiv_le_natAbs (w_gait w a * 1000000).toInt (w 0).toInt
  have e4 : (w_gait w a * 1000000 / w 0).toInt ≤ 30000000 ∧ -30000000 ≤ (w_gait w a * 1000000 / w 0).toInt := by
    rw [e2]
    omega
  have e5 : (w_part w a).toInt = (w (34 + a)).toInt + (w_gait w a * 1000000 / w 0).toInt := w_add_toInt (by omega) (by omega) (by omega) (by omega)
  refine ⟨fun q => ?_, fun q => ?_, by omega, by omega⟩
  · have := g3 q
    have e6 : (w_gait w a * 1000000).toInt.tdiv (w 0).toInt ≤ 0 := w_tdiv_np (by omega) (by omega)
    omega
  · have := g4 q
    have e6 : 0 ≤ (w_gait w a * 1000000).toInt.tdiv (w 0).toInt := Int.tdiv_nonneg (by omega) (by omega)
    omega
/-- one ant goes: the others' numbers stay, its own are as they must be -/
theorem w_go_A' {w : Nat → Int32} {a b : Nat} (ha : a < 6) (hb : b < 6) (h : w_A w a) (h0 : 1 ≤ (w 0).toInt) (hB : w_A w b) : w_A (w_go w a) b := by
  have hn : ∀ j, j ≠ 4 → j ≠ 34 + a → w_go w a j = w j := fun j h1 h2 => w_go_n h1 h2
  obtain ⟨b1, b2, b3, b4, b5⟩ := hB
  refine ⟨by rw [hn _ (by omega) (by omega)]; exact b1, by rw [hn _ (by omega) (by omega)]; exact b2, by rw [hn _ (by omega) (by omega)]; exact b3, by rw [hn _ (by omega) (by omega)]; exact b4, ?_⟩
  by_cases e : b = a
  · subst e
    obtain ⟨p1, p2, p3, p4⟩ := w_part_b h h0
    by_cases q : w_nail w b
    · by_cases q2 : 0 < w_part w b
      · rw [w_go_A q q2, upd_s]
        have := p1 q
        have : 0 < (w_part w b).toInt := by
          have := Int32.lt_iff_toInt_lt.mp q2
          simpa using this
        omega
      · rw [w_go_B q q2, upd_s]
        decide
    · by_cases q2 : w_part w b < 1000000
      · rw [w_go_C q q2, upd_s]
        have := p2 q
        have : (w_part w b).toInt < 1000000 := Int32.lt_iff_toInt_lt.mp q2
        omega
      · rw [w_go_D q q2, upd_s]
        decide
  · rw [hn _ (by omega) (by omega)]
    exact b5
theorem w_all_A {sp : Int32} {w : Nat → Int32} {N : Nat} (hN : N ≤ 6) (h0 : 1 ≤ (w 0).toInt) (h : ∀ a, a < N → w_A w a) : ∀ n, n ≤ N → ∀ b, b < N → w_A (w_all sp n w) b
  | 0, _, b, hb => h b hb
  | n + 1, hn, b, hb => by
    have ih := w_all_A (sp := sp) hN h0 h n (by omega)
    have e0 : w_all sp n w 0 = w 0 := w_all_n (by omega) (fun a _ => by omega)
    unfold w_all
    split
    · exact w_go_A' (by omega) (by omega) (ih n (by omega)) (by rw [e0]; exact h0) (ih b hb)
    · exact ih b hb
theorem w_V_min {K : Nat} {sp inches : Int32} {w : Nat → Int32} (hK : K < 1000000) (h : w_V K w) (hi : 0 ≤ inches.toInt ∧ inches.toInt ≤ 99) : w_V (K + 1) (w_min sp inches w) := by
  obtain ⟨h0, h1, h2, h3, h4, h5⟩ := h
  have n3 := rx_Ni (x := w 3) (by omega)
  have hn : ∀ j, j ≠ 4 → j < 34 → w_all sp (rx_N (w 3)) w j = w j := fun j q1 q2 => w_all_n q1 (fun a _ => by omega)
  have e : ∀ j, j ≠ 0 → j ≠ 1 → w_min sp inches w j = w_all sp (rx_N (w 3)) w j := fun j q1 q2 => by unfold w_min; rw [upd_n q2, upd_n q1]
  have e0 : w_min sp inches w 0 = w_len (w_all sp (rx_N (w 3)) w) inches := by unfold w_min; rw [upd_n (by decide), upd_s]
  have e1 : w_min sp inches w 1 = w 1 + 1 := by unfold w_min; rw [upd_s, hn 1 (by decide) (by decide)]
  have el : (w 0 + inches).toInt = (w 0).toInt + inches.toInt := w_add_toInt (by omega) (by omega) (by omega) (by omega)
  have hA := w_all_A (sp := sp) (w := w) (N := rx_N (w 3)) (by omega) h0.1 h5 (rx_N (w 3)) (Nat.le_refl _)
  have e2 : w_min sp inches w 2 = w 2 := by rw [e 2 (by decide) (by decide), hn 2 (by decide) (by decide)]
  have e3 : w_min sp inches w 3 = w 3 := by rw [e 3 (by decide) (by decide), hn 3 (by decide) (by decide)]
  refine ⟨?_, ?_, by rw [e2]; exact h2, by rw [e3]; exact h3, ?_, ?_⟩
  · rw [e0, w_len, hn 0 (by decide) (by decide)]
    split
    · decide
    · rename_i q
      rw [Int32.lt_iff_toInt_lt, show (9999 : Int32).toInt = 9999 from rfl] at q
      omega
  · rw [e1, w_add_toInt (by omega) (by omega) (by decide) (by decide), show (1 : Int32).toInt = 1 from rfl]
    omega
  · intro i hi2
    rw [e2] at hi2
    have n2 := rx_Ni (x := w 2) (by omega)
    rw [e (5 + i) (by omega) (by omega), hn (5 + i) (by omega) (by omega)]
    exact h4 i hi2
  · intro a ha
    rw [e3] at ha
    obtain ⟨a1, a2, a3, a4, a5⟩ := hA a ha
    refine ⟨?_, ?_, ?_, ?_, ?_⟩ <;> rw [e _ (by omega) (by omega)] <;> assumption
theorem w_V_one {K : Nat} {sp : Int32} {w : Nat → Int32} (hK : K < 1000000) (h : w_V K w) : w_V (K + 1) (w_one sp w) :=
  w_V_min hK h (h.2.2.2.2.1 _ (w_ix_lt h.2.2.1).1)
theorem w_V_on {sp : Int32} : ∀ {n K : Nat} {w : Nat → Int32}, K + n < 1000000 → w_V K w → w_V (K + n) (w_on sp n w)
  | 0, _, _, _, h => h
  | n + 1, K, w, hK, h => by
    have := w_V_on (sp := sp) (n := n) (K := K + 1) (w := w_one sp w) (by omega) (w_V_one (by omega) h)
    rw [show K + (n + 1) = K + 1 + n by omega]
    exact this
theorem w_V_mono {K L : Nat} {w : Nat → Int32} (hKL : K ≤ L) (h : w_V K w) : w_V L w := ⟨h.1, ⟨h.2.1.1, by have := h.2.1.2; omega⟩, h.2.2⟩
theorem w_all_h {sp : Int32} {n : Nat} {w : Nat → Int32} (h : w_has (w_all sp n w 4) n) : w_all sp (n + 1) w = w_all sp n w := if_neg (fun q => q.1 h)
theorem w_all_t {sp : Int32} {n : Nat} {w : Nat → Int32} (h : nI n = sp) : w_all sp (n + 1) w = w_all sp n w := if_neg (fun q => q.2 h)
theorem w_all_g {sp : Int32} {n : Nat} {w : Nat → Int32} (h : ¬ w_has (w_all sp n w 4) n) (h2 : ¬ nI n = sp) : w_all sp (n + 1) w = w_go (w_all sp n w) n := if_pos ⟨h, h2⟩
