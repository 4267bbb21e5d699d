/-! ===== what a wall does, over the reference's row of forty ints: 0 LENGTH, 1 MINUTE, 2 PULLS, 3 ANTS, 4 ARRIVED, 5.. INCHES, 10.. KINDS, 16.. STEPS, 22.. FROMS, 28.. RESTS, 34.. PARTS ===== -/
abbrev w_has (x : Int32) (a : Nat) : Prop := (x >>> (nI a &&& 31)) &&& 1 = 1
abbrev w_nail (w : Nat → Int32) (a : Nat) : Prop := w (10 + a) = 4 ∨ (w (10 + a) = 5 ∧ w 1 < 10 * w (28 + a))
def w_gait (w : Nat → Int32) (a : Nat) : Int32 := if w (10 + a) = 2 then (if w 1 - w 1 / w (28 + a) * w (28 + a) = 0 then 0 else w (16 + a)) else if w (10 + a) = 3 then w (16 + a) + w (34 + a) / 100000 else if w_nail w a then -w (16 + a) else w (16 + a)
def w_part (w : Nat → Int32) (a : Nat) : Int32 := w (34 + a) + w_gait w a * 1000000 / w 0
abbrev w_there (w : Nat → Int32) (a : Nat) : Prop := (w_nail w a ∧ w_part w a ≤ 0) ∨ (¬ w_nail w a ∧ 1000000 ≤ w_part w a)
def w_go (w : Nat → Int32) (a : Nat) : Nat → Int32 := if w_there w a then upd (upd w 4 (w 4 ||| 1 <<< (nI a &&& 31))) (34 + a) (if w_nail w a then 0 else 1000000) else upd w (34 + a) (w_part w a)
def w_all (sp : Int32) : Nat → (Nat → Int32) → Nat → Int32
  | 0, w => w
  | n + 1, w => if ¬ w_has (w_all sp n w 4) n ∧ ¬ nI n = sp then w_go (w_all sp n w) n else w_all sp n w
abbrev rx_N (x : Int32) : Nat := x.toNatClampNeg
def w_len (v : Nat → Int32) (inches : Int32) : Int32 := if 9999 < v 0 + inches then 9999 else v 0 + inches
def w_min (sp inches : Int32) (w : Nat → Int32) : Nat → Int32 := upd (upd (w_all sp (rx_N (w 3)) w) 0 (w_len (w_all sp (rx_N (w 3)) w) inches)) 1 (w_all sp (rx_N (w 3)) w 1 + 1)
def w_one (sp : Int32) (w : Nat → Int32) : Nat → Int32 := w_min sp (w (5 + rx_N (w 1) % rx_N (w 2))) w
def w_on (sp : Int32) : Nat → (Nat → Int32) → Nat → Int32
  | 0, w => w
  | n + 1, w => w_on sp n (w_one sp w)
/-- a wall that stands: its numbers are as the document has them; MINUTE is at most K -/
def w_A (w : Nat → Int32) (a : Nat) : Prop := (1 ≤ (w (10 + a)).toInt ∧ (w (10 + a)).toInt ≤ 5) ∧ (1 ≤ (w (16 + a)).toInt ∧ (w (16 + a)).toInt ≤ 20) ∧ (0 ≤ (w (22 + a)).toInt ∧ (w (22 + a)).toInt ≤ 99) ∧ (1 ≤ (w (28 + a)).toInt ∧ (w (28 + a)).toInt ≤ 9) ∧ (0 ≤ (w (34 + a)).toInt ∧ (w (34 + a)).toInt ≤ 1000000)
def w_V (K : Nat) (w : Nat → Int32) : Prop := (1 ≤ (w 0).toInt ∧ (w 0).toInt ≤ 9999) ∧ (0 ≤ (w 1).toInt ∧ (w 1).toInt ≤ K) ∧ (1 ≤ (w 2).toInt ∧ (w 2).toInt ≤ 5) ∧ (1 ≤ (w 3).toInt ∧ (w 3).toInt ≤ 6) ∧ (∀ i, i < rx_N (w 2) → 0 ≤ (w (5 + i)).toInt ∧ (w (5 + i)).toInt ≤ 99) ∧ ∀ a, a < rx_N (w 3) → w_A w a
theorem rx_Nn {j : Nat} (hj : j < 2 ^ 31) : rx_N (nI j) = j := nI_clamp hj
theorem rx_nN {x : Int32} (h : 0 ≤ x.toInt) : x = nI (rx_N x) := by
  obtain ⟨j, hj, rfl⟩ := nI_of (x := x) (by rw [Int32.lt_iff_toInt_lt, Int32.toInt_zero]; omega)
  rw [rx_Nn hj]
theorem rx_Ni {x : Int32} (h : 0 ≤ x.toInt) : ((rx_N x : Nat) : Int) = x.toInt := by
  obtain ⟨j, hj, rfl⟩ := nI_of (x := x) (by rw [Int32.lt_iff_toInt_lt, Int32.toInt_zero]; omega)
  rw [rx_Nn hj, nI_toInt hj]
theorem upd_s {f : Nat → Int32} {k : Nat} {x : Int32} : upd f k x k = x := if_pos rfl
theorem upd_n {f : Nat → Int32} {k j : Nat} {x : Int32} (h : j ≠ k) : upd f k x j = f j := if_neg h
/-- who does not go stays -/
theorem w_go_n {w : Nat → Int32} {a j : Nat} (h1 : j ≠ 4) (h2 : j ≠ 34 + a) : w_go w a j = w j := by
  unfold w_go
  split
  · rw [upd_n h2, upd_n h1]
  · rw [upd_n h2]
theorem w_all_n {sp : Int32} {w : Nat → Int32} {j : Nat} (h1 : j ≠ 4) : ∀ {n : Nat}, (∀ a, a < n → j ≠ 34 + a) → w_all sp n w j = w j
  | 0, _ => rfl
  | n + 1, h => by
    have ih := w_all_n (sp := sp) (w := w) h1 (n := n) (fun a ha => h a (by omega))
    unfold w_all
    split
    · rw [w_go_n h1 (h n (by omega)), ih]
    · exact ih
theorem rx_inc1 (x : Int32) : x + Int32.ofInt 1 = x + 1 := rfl
theorem rx_dec1 (x : Int32) : x + Int32.ofInt (-1) = x + (-1) := rfl
theorem rx_Nlt {x : Int32} {n : Nat} (h : 0 ≤ x.toInt) (h2 : x.toInt < n) : rx_N x < n := by
  have := rx_Ni h
  omega
/-- a number of places times c, and more -/
theorem rx_lin (c : Nat) {x : Int32} (i : Nat) (hx : 0 ≤ x.toInt) : nI c * x + nI i = nI (c * rx_N x + i) := by
  conv => lhs; rw [rx_nN hx]
  rw [pk_mul, nI_add]
theorem rx_lin2 (c : Nat) {x y : Int32} (hx : 0 ≤ x.toInt) (hy : 0 ≤ y.toInt) : nI c * x + y = nI (c * rx_N x + rx_N y) := by
  conv => lhs; rw [rx_nN hx, rx_nN hy]
  rw [pk_mul, nI_add]
theorem rx_add1 (c : Nat) {y : Int32} (hy : 0 ≤ y.toInt) : nI c + y = nI (c + rx_N y) := by
  conv => lhs; rw [rx_nN hy]
  rw [nI_add]
theorem rx_lsub_toInt {x : Int64} {y z : Int32} (h : x = y.toInt64 - z.toInt64) : x.toInt = y.toInt - z.toInt := by
  have h1 := Int32.toInt_lt y
  have h2 := Int32.le_toInt y
  have h3 := Int32.toInt_lt z
  have h4 := Int32.le_toInt z
  rw [h, Int64.toInt_sub, Int32.toInt_toInt64, Int32.toInt_toInt64]
  rw [Int.bmod_eq_of_le] <;> omega
