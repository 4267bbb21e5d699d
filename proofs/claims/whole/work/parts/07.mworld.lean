/-! ===== the reference's world: its object, its arrays ===== -/
def mo_F : List Nat := [4, 5, 6, 0, 1, 7, 0, 8, 9, 0, 0, 0, 0, 0, 0, 0, 10, 11, 0, 12, 13, 14, 15, 16, 17, 0]
def mo_L : List rx_K := [.inl (8, mo_F), .inr (0, 8, none), .inr (0, 8, none), .inr (0, 320, none), .inr (0, 40, none), .inr (0, 40, none), .inr (0, 120, none), .inr (0, 40, none), .inr (0, 960, none), .inr (0, 40, none), .inr (0, 5, none), .inr (0, 5, none), .inr (1, 2, none), .inr (0, 80, none), .inr (0, 16, none)]
def mo_O (O : rx_O) : Prop := O.1 = mo_L ∧ rx_inj O ∧ O.2.2.2.1[0]? = some (rx_cA O 0, .int) ∧ O.2.2.2.1[1]? = some (rx_cA O 1, .boolean)
section MOW
variable {O : rx_O} (h : mo_O O)
theorem km_0 {O : rx_O} (h : mo_O O) : O.1[0]? = some (.inl (8, mo_F)) := by rw [h.1]; rfl
theorem km_1 {O : rx_O} (h : mo_O O) : O.1[1]? = some (.inr (0, 8, none)) := by rw [h.1]; rfl
theorem km_2 {O : rx_O} (h : mo_O O) : O.1[2]? = some (.inr (0, 8, none)) := by rw [h.1]; rfl
theorem km_3 {O : rx_O} (h : mo_O O) : O.1[3]? = some (.inr (0, 320, none)) := by rw [h.1]; rfl
theorem km_4 {O : rx_O} (h : mo_O O) : O.1[4]? = some (.inr (0, 40, none)) := by rw [h.1]; rfl
theorem km_5 {O : rx_O} (h : mo_O O) : O.1[5]? = some (.inr (0, 40, none)) := by rw [h.1]; rfl
theorem km_6 {O : rx_O} (h : mo_O O) : O.1[6]? = some (.inr (0, 120, none)) := by rw [h.1]; rfl
theorem km_7 {O : rx_O} (h : mo_O O) : O.1[7]? = some (.inr (0, 40, none)) := by rw [h.1]; rfl
theorem km_8 {O : rx_O} (h : mo_O O) : O.1[8]? = some (.inr (0, 960, none)) := by rw [h.1]; rfl
theorem km_9 {O : rx_O} (h : mo_O O) : O.1[9]? = some (.inr (0, 40, none)) := by rw [h.1]; rfl
theorem km_10 {O : rx_O} (h : mo_O O) : O.1[10]? = some (.inr (0, 5, none)) := by rw [h.1]; rfl
theorem km_11 {O : rx_O} (h : mo_O O) : O.1[11]? = some (.inr (0, 5, none)) := by rw [h.1]; rfl
theorem km_12 {O : rx_O} (h : mo_O O) : O.1[12]? = some (.inr (1, 2, none)) := by rw [h.1]; rfl
theorem km_13 {O : rx_O} (h : mo_O O) : O.1[13]? = some (.inr (0, 80, none)) := by rw [h.1]; rfl
theorem km_14 {O : rx_O} (h : mo_O O) : O.1[14]? = some (.inr (0, 16, none)) := by rw [h.1]; rfl
end MOW
/-! what stores do to reads -/
theorem rx_u_eq (σ : rx_S) (k i : Nat) (v : Int32) : rx_u σ k i v = rx_ua σ k (upd (σ.1 k) i v) := rfl
theorem rx_ua_ua (σ : rx_S) (k : Nat) (f g : Nat → Int32) : rx_ua (rx_ua σ k f) k g = rx_ua σ k g := by
  refine Prod.ext (funext fun a => ?_) rfl
  show (if a = k then g else if a = k then f else σ.1 a) = if a = k then g else σ.1 a
  by_cases h : a = k
  · rw [if_pos h, if_pos h]
  · rw [if_neg h, if_neg h, if_neg h]
theorem rx_ua_self (σ : rx_S) (k : Nat) : rx_ua σ k (σ.1 k) = σ := by
  refine Prod.ext (funext fun a => ?_) rfl
  show (if a = k then σ.1 k else σ.1 a) = σ.1 a
  by_cases h : a = k
  · rw [if_pos h, h]
  · rw [if_neg h]
theorem rx_ua_comm (σ : rx_S) {k j : Nat} (h : k ≠ j) (f g : Nat → Int32) : rx_ua (rx_ua σ k f) j g = rx_ua (rx_ua σ j g) k f := by
  refine Prod.ext (funext fun a => ?_) rfl
  show (if a = j then g else if a = k then f else σ.1 a) = if a = k then f else if a = j then g else σ.1 a
  by_cases h1 : a = j
  · by_cases h2 : a = k
    · exact absurd (h2.symm.trans h1) h
    · rw [if_pos h1, if_neg h2, if_pos h1]
  · rw [if_neg h1]
    by_cases h2 : a = k
    · rw [if_pos h2, if_pos h2]
    · rw [if_neg h2, if_neg h2, if_neg h1]
/-- a truth as the machine has it -/
def rx_b (P : Prop) (r : Int32) : Prop := (r = 1 ∧ P) ∨ (r = 0 ∧ ¬ P)
/-- the same store, otherwise said -/
theorem rx_sto {O : rx_O} {nL : Nat} {p : Program} {l : Launch} {e : Env} {R : Room} {s : State} {m : MethodId} {args : Array Value} {below : List Frame} {meth : Method} {c : Code} {Q : State → Prop} {pc : Nat} {lo : List (Nat × Value)} {st : List Value} {σ τ : rx_S} (h : σ = τ) (k : rx_J O nL p l e R s m args below meth c Q pc lo st τ) : rx_J O nL p l e R s m args below meth c Q pc lo st σ := h ▸ k
