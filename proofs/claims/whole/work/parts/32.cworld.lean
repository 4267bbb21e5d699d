/-! ===== the class's world ===== -/
def cb_band (B : Nat) : List rx_K := [.inl (3, [0, 0, 0, 0, B + 4, B + 5]), .inr (0, 5, none), .inr (3, 6, some [B + 3, B + 4, B + 5, B + 6, B + 7, B + 8]), .inl (1, [0, 0, 0, 0, 0, 1]), .inl (1, [0, 0, 0, 0, 0, 1]), .inl (1, [0, 0, 0, 0, 0, 1]), .inl (1, [0, 0, 0, 0, 0, 1]), .inl (1, [0, 0, 0, 0, 0, 1]), .inl (1, [0, 0, 0, 0, 0, 1])]
def cb_acts : List Nat := (List.range 24).map (fun j => 26 + 9 * j)
def cb_L : List rx_K := [.inl (7, [4, 13, 25, 27, 245, 258, 260, 279, 1, 0])] ++ cb_band 1 ++ [.inl (5, [14, 23, 24]), .inr (4, 8, some [12, 13, 14, 15, 16, 17, 18, 19])] ++ List.replicate 8 (.inr (0, 40, none)) ++ [.inr (0, 8, none), .inr (0, 8, none), .inl (6, [26, 0, 0, 0]), .inr (0, 120, none), .inl (0, [28, 0, 0]), .inr (2, 24, some cb_acts)] ++ cb_acts.flatMap cb_band ++ [.inl (4, [246, 255, 256, 257, 0, 2, 2])] ++ cb_band 243 ++ [.inr (0, 5, none), .inr (0, 5, none), .inr (0, 12, none), .inl (2, [259, 0, 0, 0, 0, 0, 0]), .inr (0, 16, none), .inr (2, 2, some [258, 267])] ++ cb_band 258 ++ cb_band 267 ++ [.inr (1, 2, none)]
theorem cb_len : cb_L.length = 277 := by decide +kernel
/-- the cells at which bands begin -/
def cb_Bs : List Nat := [1, 243, 258, 267] ++ cb_acts
def cb_zs : List (String × String × Nat × List Int32) := [("AntBand$Ant", "PARENTS", 277, [-1, 0, 1, 1, 0, 4]), ("AntBand$Asks", "SIZE_BODIES", 278, [10, 11, 12, 11, 13, 14]), ("AntBand$Asks", "MARK_BODIES", 279, [20, 21, 24, 22, 23, 23])]
def cb_O (O : rx_O) : Prop := O.1 = cb_L ∧ rx_inj O ∧ O.2.2.2.1[0]? = some (rx_cA O 0, .int) ∧ O.2.2.2.1[1]? = some (rx_cA O 1, .boolean) ∧ O.2.2.2.1[2]? = some (rx_cA O 2, .object "AntBand$Band") ∧ O.2.2.2.1[3]? = some (rx_cA O 3, .object "AntBand$Ant") ∧ O.2.2.2.1[4]? = some (rx_cA O 4, .array .int) ∧ O.2.2.2.2 = cb_zs
abbrev cb_B (B : Nat) : Prop := B ∈ cb_Bs
def cb_P (B : Nat) : Prop := cb_L[B]? = some (.inl (3, [0, 0, 0, 0, B + 4, B + 5])) ∧ cb_L[B + 1]? = some (.inr (0, 5, none)) ∧ cb_L[B + 2]? = some (.inr (3, 6, some [B + 3, B + 4, B + 5, B + 6, B + 7, B + 8])) ∧ ∀ a, a < 6 → cb_L[B + 3 + a]? = some (.inl (1, [0, 0, 0, 0, 0, 1]))
theorem cb_six {P : Nat → Prop} (h0 : P 0) (h1 : P 1) (h2 : P 2) (h3 : P 3) (h4 : P 4) (h5 : P 5) : ∀ a, a < 6 → P a := by
  intro a ha
  have : a = 0 ∨ a = 1 ∨ a = 2 ∨ a = 3 ∨ a = 4 ∨ a = 5 := by omega
  rcases this with rfl | rfl | rfl | rfl | rfl | rfl <;> assumption
theorem cb_at_1 : cb_P 1 := ⟨by decide +kernel, by decide +kernel, by decide +kernel, cb_six (by decide +kernel) (by decide +kernel) (by decide +kernel) (by decide +kernel) (by decide +kernel) (by decide +kernel)⟩
theorem cb_at_243 : cb_P 243 := ⟨by decide +kernel, by decide +kernel, by decide +kernel, cb_six (by decide +kernel) (by decide +kernel) (by decide +kernel) (by decide +kernel) (by decide +kernel) (by decide +kernel)⟩
theorem cb_at_258 : cb_P 258 := ⟨by decide +kernel, by decide +kernel, by decide +kernel, cb_six (by decide +kernel) (by decide +kernel) (by decide +kernel) (by decide +kernel) (by decide +kernel) (by decide +kernel)⟩
theorem cb_at_267 : cb_P 267 := ⟨by decide +kernel, by decide +kernel, by decide +kernel, cb_six (by decide +kernel) (by decide +kernel) (by decide +kernel) (by decide +kernel) (by decide +kernel) (by decide +kernel)⟩
theorem cb_at_26 : cb_P 26 := ⟨by decide +kernel, by decide +kernel, by decide +kernel, cb_six (by decide +kernel) (by decide +kernel) (by decide +kernel) (by decide +kernel) (by decide +kernel) (by decide +kernel)⟩
theorem cb_at_35 : cb_P 35 := ⟨by decide +kernel, by decide +kernel, by decide +kernel, cb_six (by decide +kernel) (by decide +kernel) (by decide +kernel) (by decide +kernel) (by decide +kernel) (by decide +kernel)⟩
theorem cb_at_44 : cb_P 44 := ⟨by decide +kernel, by decide +kernel, by decide +kernel, cb_six (by decide +kernel) (by decide +kernel) (by decide +kernel) (by decide +kernel) (by decide +kernel) (by decide +kernel)⟩
theorem cb_at_53 : cb_P 53 := ⟨by decide +kernel, by decide +kernel, by decide +kernel, cb_six (by decide +kernel) (by decide +kernel) (by decide +kernel) (by decide +kernel) (by decide +kernel) (by decide +kernel)⟩
theorem cb_at_62 : cb_P 62 := ⟨by decide +kernel, by decide +kernel, by decide +kernel, cb_six (by decide +kernel) (by decide +kernel) (by decide +kernel) (by decide +kernel) (by decide +kernel) (by decide +kernel)⟩
theorem cb_at_71 : cb_P 71 := ⟨by decide +kernel, by decide +kernel, by decide +kernel, cb_six (by decide +kernel) (by decide +kernel) (by decide +kernel) (by decide +kernel) (by decide +kernel) (by decide +kernel)⟩
theorem cb_at_80 : cb_P 80 := ⟨by decide +kernel, by decide +kernel, by decide +kernel, cb_six (by decide +kernel) (by decide +kernel) (by decide +kernel) (by decide +kernel) (by decide +kernel) (by decide +kernel)⟩
theorem cb_at_89 : cb_P 89 := ⟨by decide +kernel, by decide +kernel, by decide +kernel, cb_six (by decide +kernel) (by decide +kernel) (by decide +kernel) (by decide +kernel) (by decide +kernel) (by decide +kernel)⟩
theorem cb_at_98 : cb_P 98 := ⟨by decide +kernel, by decide +kernel, by decide +kernel, cb_six (by decide +kernel) (by decide +kernel) (by decide +kernel) (by decide +kernel) (by decide +kernel) (by decide +kernel)⟩
theorem cb_at_107 : cb_P 107 := ⟨by decide +kernel, by decide +kernel, by decide +kernel, cb_six (by decide +kernel) (by decide +kernel) (by decide +kernel) (by decide +kernel) (by decide +kernel) (by decide +kernel)⟩
theorem cb_at_116 : cb_P 116 := ⟨by decide +kernel, by decide +kernel, by decide +kernel, cb_six (by decide +kernel) (by decide +kernel) (by decide +kernel) (by decide +kernel) (by decide +kernel) (by decide +kernel)⟩
theorem cb_at_125 : cb_P 125 := ⟨by decide +kernel, by decide +kernel, by decide +kernel, cb_six (by decide +kernel) (by decide +kernel) (by decide +kernel) (by decide +kernel) (by decide +kernel) (by decide +kernel)⟩
theorem cb_at_134 : cb_P 134 := ⟨by decide +kernel, by decide +kernel, by decide +kernel, cb_six (by decide +kernel) (by decide +kernel) (by decide +kernel) (by decide +kernel) (by decide +kernel) (by decide +kernel)⟩
theorem cb_at_143 : cb_P 143 := ⟨by decide +kernel, by decide +kernel, by decide +kernel, cb_six (by decide +kernel) (by decide +kernel) (by decide +kernel) (by decide +kernel) (by decide +kernel) (by decide +kernel)⟩
theorem cb_at_152 : cb_P 152 := ⟨by decide +kernel, by decide +kernel, by decide +kernel, cb_six (by decide +kernel) (by decide +kernel) (by decide +kernel) (by decide +kernel) (by decide +kernel) (by decide +kernel)⟩
theorem cb_at_161 : cb_P 161 := ⟨by decide +kernel, by decide +kernel, by decide +kernel, cb_six (by decide +kernel) (by decide +kernel) (by decide +kernel) (by decide +kernel) (by decide +kernel) (by decide +kernel)⟩
theorem cb_at_170 : cb_P 170 := ⟨by decide +kernel, by decide +kernel, by decide +kernel, cb_six (by decide +kernel) (by decide +kernel) (by decide +kernel) (by decide +kernel) (by decide +kernel) (by decide +kernel)⟩
theorem cb_at_179 : cb_P 179 := ⟨by decide +kernel, by decide +kernel, by decide +kernel, cb_six (by decide +kernel) (by decide +kernel) (by decide +kernel) (by decide +kernel) (by decide +kernel) (by decide +kernel)⟩
theorem cb_at_188 : cb_P 188 := ⟨by decide +kernel, by decide +kernel, by decide +kernel, cb_six (by decide +kernel) (by decide +kernel) (by decide +kernel) (by decide +kernel) (by decide +kernel) (by decide +kernel)⟩
theorem cb_at_197 : cb_P 197 := ⟨by decide +kernel, by decide +kernel, by decide +kernel, cb_six (by decide +kernel) (by decide +kernel) (by decide +kernel) (by decide +kernel) (by decide +kernel) (by decide +kernel)⟩
theorem cb_at_206 : cb_P 206 := ⟨by decide +kernel, by decide +kernel, by decide +kernel, cb_six (by decide +kernel) (by decide +kernel) (by decide +kernel) (by decide +kernel) (by decide +kernel) (by decide +kernel)⟩
theorem cb_at_215 : cb_P 215 := ⟨by decide +kernel, by decide +kernel, by decide +kernel, cb_six (by decide +kernel) (by decide +kernel) (by decide +kernel) (by decide +kernel) (by decide +kernel) (by decide +kernel)⟩
theorem cb_at_224 : cb_P 224 := ⟨by decide +kernel, by decide +kernel, by decide +kernel, cb_six (by decide +kernel) (by decide +kernel) (by decide +kernel) (by decide +kernel) (by decide +kernel) (by decide +kernel)⟩
theorem cb_at_233 : cb_P 233 := ⟨by decide +kernel, by decide +kernel, by decide +kernel, cb_six (by decide +kernel) (by decide +kernel) (by decide +kernel) (by decide +kernel) (by decide +kernel) (by decide +kernel)⟩
theorem cb_at : ∀ B ∈ cb_Bs, cb_P B := by
  show ∀ B ∈ [1, 243, 258, 267, 26, 35, 44, 53, 62, 71, 80, 89, 98, 107, 116, 125, 134, 143, 152, 161, 170, 179, 188, 197, 206, 215, 224, 233], cb_P B
  exact List.forall_mem_cons.mpr ⟨cb_at_1, List.forall_mem_cons.mpr ⟨cb_at_243, List.forall_mem_cons.mpr ⟨cb_at_258, List.forall_mem_cons.mpr ⟨cb_at_267, List.forall_mem_cons.mpr ⟨cb_at_26, List.forall_mem_cons.mpr ⟨cb_at_35, List.forall_mem_cons.mpr ⟨cb_at_44, List.forall_mem_cons.mpr ⟨cb_at_53, List.forall_mem_cons.mpr ⟨cb_at_62, List.forall_mem_cons.mpr ⟨cb_at_71, List.forall_mem_cons.mpr ⟨cb_at_80, List.forall_mem_cons.mpr ⟨cb_at_89, List.forall_mem_cons.mpr ⟨cb_at_98, List.forall_mem_cons.mpr ⟨cb_at_107, List.forall_mem_cons.mpr ⟨cb_at_116, List.forall_mem_cons.mpr ⟨cb_at_125, List.forall_mem_cons.mpr ⟨cb_at_134, List.forall_mem_cons.mpr ⟨cb_at_143, List.forall_mem_cons.mpr ⟨cb_at_152, List.forall_mem_cons.mpr ⟨cb_at_161, List.forall_mem_cons.mpr ⟨cb_at_170, List.forall_mem_cons.mpr ⟨cb_at_179, List.forall_mem_cons.mpr ⟨cb_at_188, List.forall_mem_cons.mpr ⟨cb_at_197, List.forall_mem_cons.mpr ⟨cb_at_206, List.forall_mem_cons.mpr ⟨cb_at_215, List.forall_mem_cons.mpr ⟨cb_at_224, List.forall_mem_cons.mpr ⟨cb_at_233, fun _ h => absurd h List.not_mem_nil⟩⟩⟩⟩⟩⟩⟩⟩⟩⟩⟩⟩⟩⟩⟩⟩⟩⟩⟩⟩⟩⟩⟩⟩⟩⟩⟩⟩
section CBW
variable {O : rx_O} {B : Nat}
theorem kb_0 (h : cb_O O) (hB : cb_B B) : O.1[B]? = some (.inl (3, [0, 0, 0, 0, (B + 1) + 3, (B + 2) + 3])) := by rw [h.1]; exact (cb_at B hB).1
theorem kb_1 (h : cb_O O) (hB : cb_B B) : O.1[B + 1]? = some (.inr (0, 5, none)) := by rw [h.1]; exact (cb_at B hB).2.1
theorem kb_2 (h : cb_O O) (hB : cb_B B) : O.1[B + 2]? = some (.inr (3, 6, some [B + 3, B + 4, B + 5, B + 6, B + 7, B + 8])) := by rw [h.1]; exact (cb_at B hB).2.2.1
theorem kb_a (h : cb_O O) (hB : cb_B B) {a : Nat} (ha : a < 6) : O.1[B + 3 + a]? = some (.inl (1, [0, 0, 0, 0, 0, 1])) := by rw [h.1]; exact (cb_at B hB).2.2.2 a ha
theorem kb_el {B a : Nat} (ha : a < 6) : [B + 3, B + 4, B + 5, B + 6, B + 7, B + 8][a]? = some (B + 3 + a) := by
  have : a = 0 ∨ a = 1 ∨ a = 2 ∨ a = 3 ∨ a = 4 ∨ a = 5 := by omega
  rcases this with rfl | rfl | rfl | rfl | rfl | rfl <;> rfl
end CBW
theorem kc_0 {O : rx_O} (h : cb_O O) : O.1[0]? = some (.inl (7, [4, 13, 25, 27, 245, 258, 260, 279, 1, 0])) := by rw [h.1]; decide +kernel
theorem kc_10 {O : rx_O} (h : cb_O O) : O.1[10]? = some (.inl (5, [14, 23, 24])) := by rw [h.1]; decide +kernel
theorem kc_11 {O : rx_O} (h : cb_O O) : O.1[11]? = some (.inr (4, 8, some [12, 13, 14, 15, 16, 17, 18, 19])) := by rw [h.1]; decide +kernel
theorem kc_row0 : ∀ r, r < 8 → cb_L[12 + r]? = some (.inr (0, 40, none)) := by
  intro r hr
  have : r = 0 ∨ r = 1 ∨ r = 2 ∨ r = 3 ∨ r = 4 ∨ r = 5 ∨ r = 6 ∨ r = 7 := by omega
  rcases this with rfl | rfl | rfl | rfl | rfl | rfl | rfl | rfl <;> decide +kernel
theorem kc_row {O : rx_O} (h : cb_O O) {r : Nat} (hr : r < 8) : O.1[12 + r]? = some (.inr (0, 40, none)) := by rw [h.1]; exact kc_row0 r hr
theorem kc_20 {O : rx_O} (h : cb_O O) : O.1[20]? = some (.inr (0, 8, none)) := by rw [h.1]; decide +kernel
theorem kc_21 {O : rx_O} (h : cb_O O) : O.1[21]? = some (.inr (0, 8, none)) := by rw [h.1]; decide +kernel
theorem kc_22 {O : rx_O} (h : cb_O O) : O.1[22]? = some (.inl (6, [26, 0, 0, 0])) := by rw [h.1]; decide +kernel
theorem kc_23 {O : rx_O} (h : cb_O O) : O.1[23]? = some (.inr (0, 120, none)) := by rw [h.1]; decide +kernel
theorem kc_24 {O : rx_O} (h : cb_O O) : O.1[24]? = some (.inl (0, [28, 0, 0])) := by rw [h.1]; decide +kernel
theorem kc_25 {O : rx_O} (h : cb_O O) : O.1[25]? = some (.inr (2, 24, some cb_acts)) := by rw [h.1]; decide +kernel
theorem kc_242 {O : rx_O} (h : cb_O O) : O.1[242]? = some (.inl (4, [246, 255, 256, 257, 0, 2, 2])) := by rw [h.1]; decide +kernel
theorem kc_252 {O : rx_O} (h : cb_O O) : O.1[252]? = some (.inr (0, 5, none)) := by rw [h.1]; decide +kernel
theorem kc_253 {O : rx_O} (h : cb_O O) : O.1[253]? = some (.inr (0, 5, none)) := by rw [h.1]; decide +kernel
theorem kc_254 {O : rx_O} (h : cb_O O) : O.1[254]? = some (.inr (0, 12, none)) := by rw [h.1]; decide +kernel
theorem kc_255 {O : rx_O} (h : cb_O O) : O.1[255]? = some (.inl (2, [259, 0, 0, 0, 0, 0, 0])) := by rw [h.1]; decide +kernel
theorem kc_256 {O : rx_O} (h : cb_O O) : O.1[256]? = some (.inr (0, 16, none)) := by rw [h.1]; decide +kernel
theorem kc_257 {O : rx_O} (h : cb_O O) : O.1[257]? = some (.inr (2, 2, some [258, 267])) := by rw [h.1]; decide +kernel
theorem kc_276 {O : rx_O} (h : cb_O O) : O.1[276]? = some (.inr (1, 2, none)) := by rw [h.1]; decide +kernel
theorem cb_B1 : cb_B 1 := by decide +kernel
theorem cb_B243 : cb_B 243 := by decide +kernel
theorem cb_Bi {k : Nat} (h : k < 2) : cb_B (258 + 9 * k) := by
  have : k = 0 ∨ k = 1 := by omega
  rcases this with rfl | rfl <;> decide +kernel
theorem cb_Ba0 : ∀ j, j < 24 → cb_B (26 + 9 * j) := by decide +kernel
theorem cb_acts_el : ∀ j, j < 24 → cb_acts[j]? = some (26 + 9 * j) := by decide +kernel
/-- a row of rows -/
theorem rx_aaldA {O : rx_O} {own : String} {cc : ByteArray} {nL : Nat} {rt : Option FieldType} {p : Program} {l : Launch} {e : Env} {R : Room} {s : State} {m : MethodId} {args : Array Value} {below : List Frame} {meth : Method} {c : Code} {Q : State → Prop} {pc pc2 : Nat} {lo : List (Nat × Value)} {st : List Value} {σ : rx_S} (X : rx_G O own cc nL rt p s m args meth c) {k t0 n j q : Nat} {cA : ClassId} {ty : FieldType} {i : Int32} {rs : List Nat} (hk : O.1[k]? = some (.inr (t0, n, some rs))) (ht : O.2.2.2.1[t0]? = some (cA, ty)) (hty : ty.isReference = true) (hi : i = nI j) (hj : j < n) (hn : n < 2147483648) (hq : rs[j]? = some q) (hd : rx_D cc pc .aaload 1 pc2) (kk : rx_J O nL p l e R s m args below meth c Q pc2 lo (.ref q :: st) σ) : rx_J O nL p l e R s m args below meth c Q pc lo (.int i :: .ref k :: st) σ := by
  obtain ⟨hd, rfl⟩ := hd
  subst hi
  intro H locs ls hP hS hl
  have hcl : (nI j).toNatClampNeg = j := nI_clamp (Nat.lt_trans hj hn)
  have hin : vp_in (nI j) n := vp_in_nI hj hn
  have ha : (rx_w O σ)[k]? = some (O.2.1 k, .inl (cA, n, .inr (.inr (.inr (.inr (fun i => rs[i]?.map O.2.1)))))) := by rw [rx_w_at hk, rx_e, rx_cA_at ht]
  refine W.aald (v := va_rf (rs[j]?.map O.2.1)) (ty := ty) X.1 X.2.1 (hP k _ ha) ((X.2.2.2.2.2.1.2 t0 _ ht).1 n (fun j => va_rf (rs[j]?.map O.2.1))) hty (fun q => by cases q) (by show ¬ (nI j < 0 ∨ (arrV _ _ _).slots.size ≤ _); rw [arrV_size]; exact hin) (by show (arrV _ _ _).slots[_]? = _; rw [hcl, arrV_read _ _ hj]) rfl rfl hd ?_
  rw [hq]
  exact kk H locs ls hP hS hl
