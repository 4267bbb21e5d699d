/-! ===== rx: walks over a world whose shape stays; a store of ints and longs by cell and slot ===== -/
/-- what a cell holds: ints by cell and slot; longs by cell and slot -/
abbrev rx_S : Type := (Nat → Nat → Int32) × (Nat → Nat → Int64)
/-- a cell's shape: an object (number of its class; its fields: 0 an int, 1 a boolean, 2 a long, j + 3 the cell j), or an array (place of its type, length, its cells if it is of references) -/
abbrev rx_K : Type := (Nat × List Nat) ⊕ (Nat × Nat × Option (List Nat))
/-- shapes, addresses, the classes' numbers, the arrays' types; static arrays: class, field, cell, contents -/
abbrev rx_O : Type := List rx_K × (Nat → Nat) × va_G × List (ClassId × FieldType) × List (String × String × Nat × List Int32)
def rx_t (ad : Nat → Nat) (v : Value) : Value := match v with
  | .ref k => .ref (ad k)
  | w => w
theorem rx_t_cat (ad : Nat → Nat) (v : Value) : (rx_t ad v).category = v.category := by cases v <;> rfl
def rx_f (ad : Nat → Nat) (σ : rx_S) (k i t : Nat) : Value := match t with
  | 0 => .int (σ.1 k i)
  | 1 => .int (σ.1 k i)
  | 2 => .long (σ.2 k i)
  | j + 3 => .ref (ad j)
def rx_cA (O : rx_O) (t0 : Nat) : ClassId := (O.2.2.2.1[t0]?.map (fun q => q.1)).getD 0
theorem rx_cA_at {O : rx_O} {t0 : Nat} {q : ClassId × FieldType} (h : O.2.2.2.1[t0]? = some q) : rx_cA O t0 = q.1 := by
  unfold rx_cA
  rw [h]
  rfl
def rx_e (O : rx_O) (σ : rx_S) (k : Nat) (K : rx_K) : va_E := match K with
  | .inl (ci, fs) => .inr (ci, (List.range fs.length).map (fun i => rx_f O.2.1 σ k i (fs.getD i 0)))
  | .inr (t0, n, none) => .inl (rx_cA O t0, n, .inl (σ.1 k))
  | .inr (t0, n, some rs) => .inl (rx_cA O t0, n, .inr (.inr (.inr (.inr (fun i => rs[i]?.map O.2.1)))))
def rx_w (O : rx_O) (σ : rx_S) : va_W := (List.range O.1.length).map (fun k => (O.2.1 k, rx_e O σ k (O.1.getD k (.inl (0, [])))))
theorem rx_w_at {O : rx_O} {k : Nat} {K : rx_K} (h : O.1[k]? = some K) (σ : rx_S) : (rx_w O σ)[k]? = some (O.2.1 k, rx_e O σ k K) := by
  have hl := (List.getElem?_eq_some_iff.mp h).1
  have hd : O.1.getD k (.inl (0, [])) = K := by rw [List.getD_eq_getElem?_getD, h]; rfl
  unfold rx_w
  rw [List.getElem?_map, List.getElem?_range hl, Option.map_some, hd]
theorem rx_w_len (O : rx_O) (σ : rx_S) : (rx_w O σ).length = O.1.length := by simp [rx_w]
theorem rx_e_congr {O : rx_O} {σ σ' : rx_S} {k : Nat} (h1 : σ'.1 k = σ.1 k) (h2 : σ'.2 k = σ.2 k) (K : rx_K) : rx_e O σ' k K = rx_e O σ k K := by
  have hf : ∀ i t, rx_f O.2.1 σ' k i t = rx_f O.2.1 σ k i t := by
    intro i t
    unfold rx_f
    rw [h1, h2]
  rcases K with ⟨ci, fs⟩ | ⟨t0, n, _ | rs⟩
  · simp only [rx_e, hf]
  · simp only [rx_e, h1]
  · rfl
theorem rx_w_set {O : rx_O} {σ σ' : rx_S} {k : Nat} {K : rx_K} (h : O.1[k]? = some K) (h1 : ∀ j, j ≠ k → σ'.1 j = σ.1 j) (h2 : ∀ j, j ≠ k → σ'.2 j = σ.2 j) :
    (rx_w O σ).set k (O.2.1 k, rx_e O σ' k K) = rx_w O σ' := by
  apply List.ext_getElem?
  intro j
  have hl : k < (rx_w O σ).length := by rw [rx_w_len]; exact (List.getElem?_eq_some_iff.mp h).1
  by_cases hj : j = k
  · subst hj
    rw [List.getElem?_set_self hl, rx_w_at h]
  · rw [List.getElem?_set_ne (Ne.symm hj)]
    by_cases hjl : j < O.1.length
    · have hK : O.1[j]? = some O.1[j] := List.getElem?_eq_getElem hjl
      rw [rx_w_at hK, rx_w_at hK, rx_e_congr (h1 j hj) (h2 j hj)]
    · rw [List.getElem?_eq_none (by rw [rx_w_len]; omega), List.getElem?_eq_none (by rw [rx_w_len]; omega)]
/-- an int, a long put into a slot -/
def rx_u (σ : rx_S) (k i : Nat) (v : Int32) : rx_S := (fun a => if a = k then upd (σ.1 k) i v else σ.1 a, σ.2)
def rx_uL (σ : rx_S) (k i : Nat) (v : Int64) : rx_S := (σ.1, fun a => if a = k then vp_updL (σ.2 k) i v else σ.2 a)
/-- an array's whole contents put -/
def rx_ua (σ : rx_S) (k : Nat) (f : Nat → Int32) : rx_S := (fun a => if a = k then f else σ.1 a, σ.2)
theorem rx_u_ne {σ : rx_S} {k i j : Nat} {v : Int32} (h : j ≠ k) : (rx_u σ k i v).1 j = σ.1 j := if_neg h
theorem rx_u_s {σ : rx_S} {k i : Nat} {v : Int32} : (rx_u σ k i v).1 k = upd (σ.1 k) i v := if_pos rfl
theorem rx_ua_ne {σ : rx_S} {k j : Nat} {f : Nat → Int32} (h : j ≠ k) : (rx_ua σ k f).1 j = σ.1 j := if_neg h
theorem rx_ua_s {σ : rx_S} {k : Nat} {f : Nat → Int32} : (rx_ua σ k f).1 k = f := if_pos rfl
theorem rx_u2 {σ : rx_S} {k i : Nat} {v : Int32} : (rx_u σ k i v).2 = σ.2 := rfl
theorem rx_ua2 {σ : rx_S} {k : Nat} {f : Nat → Int32} : (rx_ua σ k f).2 = σ.2 := rfl
theorem rx_uL1 {σ : rx_S} {k i : Nat} {v : Int64} : (rx_uL σ k i v).1 = σ.1 := rfl
theorem rx_uL_ne {σ : rx_S} {k i j : Nat} {v : Int64} (h : j ≠ k) : (rx_uL σ k i v).2 j = σ.2 j := if_neg h
theorem rx_uL_s {σ : rx_S} {k i : Nat} {v : Int64} : (rx_uL σ k i v).2 k = vp_updL (σ.2 k) i v := if_pos rfl
/-- the world's cells -/
def rx_A (O : rx_O) : Nat → Prop := fun q => ∃ k, k < O.1.length ∧ q = O.2.1 k
def rx_inj (O : rx_O) : Prop := ∀ i j, i < O.1.length → j < O.1.length → O.2.1 i = O.2.1 j → i = j
theorem rx_w_D {O : rx_O} (h : rx_inj O) (σ : rx_S) : va_D (rx_A O) (rx_w O σ) := by
  have key : ∀ (i : Nat) (q : Nat × va_E), (rx_w O σ)[i]? = some q → i < O.1.length ∧ q.1 = O.2.1 i := by
    intro i q hq
    have hl : i < O.1.length := by rw [← rx_w_len O σ]; exact (List.getElem?_eq_some_iff.mp hq).1
    rw [rx_w_at (List.getElem?_eq_getElem hl)] at hq
    exact ⟨hl, by rw [← Option.some.inj hq]⟩
  refine ⟨fun i j x y hi hj hxy => ?_, fun k q hk => ?_⟩
  · obtain ⟨a1, a2⟩ := key i x hi
    obtain ⟨b1, b2⟩ := key j y hj
    exact h i j a1 b1 (by rw [← a2, ← b2]; exact hxy)
  · obtain ⟨a1, a2⟩ := key k q hk
    exact ⟨k, a1, a2⟩
/-- the static arrays, which nobody writes -/
def rx_Z (O : rx_O) (U : State) : Prop := ∀ q ∈ O.2.2.2.2, va_Z q.1 q.2.1 "[I" (.ref (O.2.1 q.2.2.1)) (rx_A O) U U.heap ∧ va_X (O.2.1 q.2.2.1) q.2.2.2.length (fun j => q.2.2.2.getD j 0) U U.heap ∧ ¬ rx_A O (O.2.1 q.2.2.1)
theorem va_X_lt {b L : Nat} {xs : Nat → Int32} {U : State} {H : Heap} (h : va_X b L xs U H) : b < H.size := by
  obtain ⟨scr, h1, -⟩ := h
  exact (Array.getElem?_eq_some_iff.mp h1).1
theorem rx_Z.moved {O : rx_O} {s U : State} {H : Heap} {locs : List Loc} (h : rx_Z O s) (hS : va_S (rx_A O) s.heap H locs) (hU : U.heap = H) (hvm : s.vm.Alike U.vm) : rx_Z O U := by
  intro q hq
  obtain ⟨h1, h2, h3⟩ := h q hq
  rw [hU]
  exact ⟨va_Z.moved hvm (h1.kept (fun a ha hn => hS.2.1 a ha hn)), va_X.moved hvm (h2.kept (hS.2.1 _ (va_X_lt h2) h3)), h3⟩
/-- an instruction at a place, and the place behind it -/
def rx_D (cc : ByteArray) (pc : Nat) (op : Instr) (n pc2 : Nat) : Prop := decode cc pc = .ok (op, n) ∧ pc + n = pc2
/-- a branch: the place behind it, the place that it goes to -/
def rx_B (cc : ByteArray) (pc : Nat) (op : Instr) (off : Int) (pc2 tgt : Nat) : Prop := decode cc pc = .ok (op, 3) ∧ pc + 3 = pc2 ∧ (pc : Int) + off = (tgt : Int)
/-- what a walk stands on -/
def rx_G (O : rx_O) (own : String) (cc : ByteArray) (nL : Nat) (rt : Option FieldType) (p : Program) (s : State) (m : MethodId) (args : Array Value) (meth : Method) (c : Code) : Prop :=
  p.tables.exec = Jvm.exec ∧ c.code = cc ∧ c.maxLocals = nL ∧ s.vm.findClass own = some m.cls ∧ (∀ w ∈ rx_tbl, w.before args s = true) ∧ va_K O.2.2.1 rx_cl O.2.2.2.1 s ∧ rx_inj O ∧ meth.locks = false ∧ meth.sig.returnType = rt ∧ rx_Z O s
def rx_t1 (ad : Nat → Nat) (q : Nat × Value) : Nat × Value := (q.1, rx_t ad q.2)
def rx_J (O : rx_O) (nL : Nat) (p : Program) (l : Launch) (e : Env) (R : Room) (s : State) (m : MethodId) (args : Array Value) (below : List Frame) (meth : Method) (c : Code) (Q : State → Prop) (pc : Nat) (lo : List (Nat × Value)) (st : List Value) (σ : rx_S) : Prop :=
  ∀ (H : Heap) (locs : List Loc) (ls : Array Slot), va_P O.2.2.1 rx_cl (rx_w O σ) H → va_S (rx_A O) s.heap H locs → lv_has ls nL (lo.map (rx_t1 O.2.1)) → W p l e R s m args below meth c H locs 0 0 Q (F0 m pc ls (st.map (rx_t O.2.1)))
/-- a local by its number -/
def rx_lk : List (Nat × Value) → Nat → Option Value
  | [], _ => none
  | q :: l, i => if q.1 = i then some q.2 else rx_lk l i
theorem rx_lk_mem : ∀ {lo : List (Nat × Value)} {i : Nat} {v : Value}, rx_lk lo i = some v → (i, v) ∈ lo
  | [], _, _, h => by cases h
  | q :: l, i, v, h => by
    unfold rx_lk at h
    by_cases hq : q.1 = i
    · rw [if_pos hq] at h
      cases h
      subst hq
      exact List.mem_cons_self
    · rw [if_neg hq] at h
      exact List.mem_cons_of_mem _ (rx_lk_mem h)
theorem rx_at {O : rx_O} {ls : Array Slot} {nL : Nat} {lo : List (Nat × Value)} {i : Nat} {v : Value} (hl : lv_has ls nL (lo.map (rx_t1 O.2.1))) (h : rx_lk lo i = some v) : ls[i]? = some (.val (rx_t O.2.1 v)) :=
  hl.2.2 (i, rx_t O.2.1 v) (List.mem_map.mpr ⟨(i, v), rx_lk_mem h, rfl⟩)
def rx_del1 (lo : List (Nat × Value)) (i : Nat) : List (Nat × Value) := lo.filter (fun q => !(q.1 == i) && !(q.1 + 1 == i && q.2.category == 2))
def rx_del2 (lo : List (Nat × Value)) (i : Nat) : List (Nat × Value) := lo.filter (fun q => !(q.1 == i) && (!(q.1 == i + 1) && !(q.1 + 1 == i && q.2.category == 2)))
theorem rx_del1_map (ad : Nat → Nat) (lo : List (Nat × Value)) (i : Nat) : (rx_del1 lo i).map (rx_t1 ad) = (lo.map (rx_t1 ad)).filter (fun q => !(q.1 == i) && !(q.1 + 1 == i && q.2.category == 2)) := by
  unfold rx_del1
  rw [List.filter_map]
  congr 1
  apply List.filter_congr
  intro q _
  simp only [Function.comp, rx_t1, rx_t_cat]
theorem rx_del2_map (ad : Nat → Nat) (lo : List (Nat × Value)) (i : Nat) : (rx_del2 lo i).map (rx_t1 ad) = (lo.map (rx_t1 ad)).filter (fun q => !(q.1 == i) && (!(q.1 == i + 1) && !(q.1 + 1 == i && q.2.category == 2))) := by
  unfold rx_del2
  rw [List.filter_map]
  congr 1
  apply List.filter_congr
  intro q _
  simp only [Function.comp, rx_t1, rx_t_cat]
/-- the same locals in the order of their numbers -/
def rx_ins (q : Nat × Value) : List (Nat × Value) → List (Nat × Value)
  | [] => [q]
  | a :: l => if q.1 < a.1 then q :: a :: l else a :: rx_ins q l
theorem rx_ins_mem {q x : Nat × Value} : ∀ {l : List (Nat × Value)}, x ∈ rx_ins q l → x ∈ q :: l
  | [], h => h
  | a :: l, h => by
    unfold rx_ins at h
    by_cases hq : q.1 < a.1
    · rw [if_pos hq] at h
      exact h
    · rw [if_neg hq] at h
      rcases List.mem_cons.mp h with rfl | h
      · exact List.mem_cons_of_mem _ List.mem_cons_self
      · rcases List.mem_cons.mp (rx_ins_mem h) with rfl | h
        · exact List.mem_cons_self
        · exact List.mem_cons_of_mem _ (List.mem_cons_of_mem _ h)
theorem rx_has_ins {ad : Nat → Nat} {ls : Array Slot} {nL : Nat} {q : Nat × Value} {l lo2 : List (Nat × Value)} (h : lv_has ls nL ((q :: l).map (rx_t1 ad))) (h2 : rx_ins q l = lo2) : lv_has ls nL (lo2.map (rx_t1 ad)) := by
  refine ⟨h.1, h.2.1, fun x hx => ?_⟩
  obtain ⟨y, hy, rfl⟩ := List.mem_map.mp hx
  rw [← h2] at hy
  exact h.2.2 _ (List.mem_map.mpr ⟨y, rx_ins_mem hy, rfl⟩)
section RXR
variable {O : rx_O} {own : String} {cc : ByteArray} {nL : Nat} {rt : Option FieldType} {p : Program} {l : Launch} {e : Env} {R : Room} {s : State} {m : MethodId} {args : Array Value} {below : List Frame} {meth : Method} {c : Code} {Q : State → Prop} {pc pc2 tgt : Nat} {lo lo2 : List (Nat × Value)} {st : List Value} {σ : rx_S}

theorem rx_iconst (X : rx_G O own cc nL rt p s m args meth c) {n : Int} {v : Int32} (hd : rx_D cc pc (.iconst n) 1 pc2) (hv : Int32.ofInt n = v) (k : rx_J O nL p l e R s m args below meth c Q pc2 lo (.int v :: st) σ) : rx_J O nL p l e R s m args below meth c Q pc lo (st) σ := by
  obtain ⟨hd, rfl⟩ := hd
  exact fun H locs ls hP hS hl => lv_iconst X.1 X.2.1 hd hv (k H locs ls hP hS hl)
theorem rx_bipush (X : rx_G O own cc nL rt p s m args meth c) {n : Int} {v : Int32} (hd : rx_D cc pc (.bipush n) 2 pc2) (hv : (Int8.ofInt n).toInt32 = v) (k : rx_J O nL p l e R s m args below meth c Q pc2 lo (.int v :: st) σ) : rx_J O nL p l e R s m args below meth c Q pc lo (st) σ := by
  obtain ⟨hd, rfl⟩ := hd
  exact fun H locs ls hP hS hl => lv_bipush X.1 X.2.1 hd hv (k H locs ls hP hS hl)
theorem rx_sipush (X : rx_G O own cc nL rt p s m args meth c) {n : Int} {v : Int32} (hd : rx_D cc pc (.sipush n) 3 pc2) (hv : (Int16.ofInt n).toInt32 = v) (k : rx_J O nL p l e R s m args below meth c Q pc2 lo (.int v :: st) σ) : rx_J O nL p l e R s m args below meth c Q pc lo (st) σ := by
  obtain ⟨hd, rfl⟩ := hd
  exact fun H locs ls hP hS hl => lv_sipush X.1 X.2.1 hd hv (k H locs ls hP hS hl)
theorem rx_lconst (X : rx_G O own cc nL rt p s m args meth c) {n : Fin 2} {v : Int64} (hd : rx_D cc pc (.lconst n) 1 pc2) (hv : Int64.ofNat (n : Nat) = v) (k : rx_J O nL p l e R s m args below meth c Q pc2 lo (.long v :: st) σ) : rx_J O nL p l e R s m args below meth c Q pc lo (st) σ := by
  obtain ⟨hd, rfl⟩ := hd
  exact fun H locs ls hP hS hl => lv_lconst X.1 X.2.1 hd hv (k H locs ls hP hS hl)
theorem rx_ldc (X : rx_G O own cc nL rt p s m args meth c) {idx : Nat} {v : Int32} (hd : rx_D cc pc (.ldc idx) 2 pc2) (hc : Cond.constant own idx v ∈ rx_tbl) (k : rx_J O nL p l e R s m args below meth c Q pc2 lo (.int v :: st) σ) : rx_J O nL p l e R s m args below meth c Q pc lo (st) σ := by
  obtain ⟨hd, rfl⟩ := hd
  exact fun H locs ls hP hS hl => lv_ldc X.1 X.2.1 X.2.2.2.1 (X.2.2.2.2.1 _ hc) hd (k H locs ls hP hS hl)
theorem rx_ldcw (X : rx_G O own cc nL rt p s m args meth c) {idx : Nat} {v : Int32} (hd : rx_D cc pc (.ldc_w idx) 3 pc2) (hc : Cond.constant own idx v ∈ rx_tbl) (k : rx_J O nL p l e R s m args below meth c Q pc2 lo (.int v :: st) σ) : rx_J O nL p l e R s m args below meth c Q pc lo (st) σ := by
  obtain ⟨hd, rfl⟩ := hd
  exact fun H locs ls hP hS hl => lv_ldcw X.1 X.2.1 X.2.2.2.1 (X.2.2.2.2.1 _ hc) hd (k H locs ls hP hS hl)
theorem rx_ldc2 (X : rx_G O own cc nL rt p s m args meth c) {idx : Nat} {v : Int64} (hd : rx_D cc pc (.ldc2_w idx) 3 pc2) (hc : Cond.constantLong own idx v ∈ rx_tbl) (k : rx_J O nL p l e R s m args below meth c Q pc2 lo (.long v :: st) σ) : rx_J O nL p l e R s m args below meth c Q pc lo (st) σ := by
  obtain ⟨hd, rfl⟩ := hd
  exact fun H locs ls hP hS hl => lv_ldc2 X.1 X.2.1 X.2.2.2.1 (X.2.2.2.2.1 _ hc) hd (k H locs ls hP hS hl)
theorem rx_iload_n (X : rx_G O own cc nL rt p s m args meth c) {k0 : Fin 4} {i : Nat} {x : Int32} (hd : rx_D cc pc (.iload_n k0) 1 pc2) (hi : (k0 : Nat) = i) (hx : rx_lk lo i = some (.int x)) (k : rx_J O nL p l e R s m args below meth c Q pc2 lo (.int x :: st) σ) : rx_J O nL p l e R s m args below meth c Q pc lo (st) σ := by
  obtain ⟨hd, rfl⟩ := hd
  exact fun H locs ls hP hS hl => lv_iload_n X.1 X.2.1 hd hi (rx_at hl hx) (k H locs ls hP hS hl)
theorem rx_iload (X : rx_G O own cc nL rt p s m args meth c) {i : Nat} {x : Int32} (hd : rx_D cc pc (.iload i) 2 pc2) (hx : rx_lk lo i = some (.int x)) (k : rx_J O nL p l e R s m args below meth c Q pc2 lo (.int x :: st) σ) : rx_J O nL p l e R s m args below meth c Q pc lo (st) σ := by
  obtain ⟨hd, rfl⟩ := hd
  exact fun H locs ls hP hS hl => lv_iload X.1 X.2.1 hd (rx_at hl hx) (k H locs ls hP hS hl)
theorem rx_lload_n (X : rx_G O own cc nL rt p s m args meth c) {k0 : Fin 4} {i : Nat} {x : Int64} (hd : rx_D cc pc (.lload_n k0) 1 pc2) (hi : (k0 : Nat) = i) (hx : rx_lk lo i = some (.long x)) (k : rx_J O nL p l e R s m args below meth c Q pc2 lo (.long x :: st) σ) : rx_J O nL p l e R s m args below meth c Q pc lo (st) σ := by
  obtain ⟨hd, rfl⟩ := hd
  exact fun H locs ls hP hS hl => lv_lload_n X.1 X.2.1 hd hi (rx_at hl hx) (k H locs ls hP hS hl)
theorem rx_lload (X : rx_G O own cc nL rt p s m args meth c) {i : Nat} {x : Int64} (hd : rx_D cc pc (.lload i) 2 pc2) (hx : rx_lk lo i = some (.long x)) (k : rx_J O nL p l e R s m args below meth c Q pc2 lo (.long x :: st) σ) : rx_J O nL p l e R s m args below meth c Q pc lo (st) σ := by
  obtain ⟨hd, rfl⟩ := hd
  exact fun H locs ls hP hS hl => lv_lload X.1 X.2.1 hd (rx_at hl hx) (k H locs ls hP hS hl)
theorem rx_aload_n (X : rx_G O own cc nL rt p s m args meth c) {k0 : Fin 4} {i : Nat} {x : Nat} (hd : rx_D cc pc (.aload_n k0) 1 pc2) (hi : (k0 : Nat) = i) (hx : rx_lk lo i = some (.ref x)) (k : rx_J O nL p l e R s m args below meth c Q pc2 lo (.ref x :: st) σ) : rx_J O nL p l e R s m args below meth c Q pc lo (st) σ := by
  obtain ⟨hd, rfl⟩ := hd
  exact fun H locs ls hP hS hl => lv_aload_n X.1 X.2.1 hd hi (rx_at hl hx) (k H locs ls hP hS hl)
theorem rx_aload (X : rx_G O own cc nL rt p s m args meth c) {i : Nat} {x : Nat} (hd : rx_D cc pc (.aload i) 2 pc2) (hx : rx_lk lo i = some (.ref x)) (k : rx_J O nL p l e R s m args below meth c Q pc2 lo (.ref x :: st) σ) : rx_J O nL p l e R s m args below meth c Q pc lo (st) σ := by
  obtain ⟨hd, rfl⟩ := hd
  exact fun H locs ls hP hS hl => lv_aload X.1 X.2.1 hd (rx_at hl hx) (k H locs ls hP hS hl)
theorem rx_istore_n (X : rx_G O own cc nL rt p s m args meth c) {k0 : Fin 4} {i : Nat} {x : Int32} (hd : rx_D cc pc (.istore_n k0) 1 pc2) (hi : (k0 : Nat) = i) (hn : i < nL) (hl2 : rx_ins (i, .int x) (rx_del1 lo i) = lo2) (k : rx_J O nL p l e R s m args below meth c Q pc2 lo2 (st) σ) : rx_J O nL p l e R s m args below meth c Q pc lo (.int x :: st) σ := by
  obtain ⟨hd, rfl⟩ := hd
  exact fun H locs ls hP hS hl => lv_istore_n X.1 X.2.1 hd hi hl hn (by rw [← rx_del1_map]; rfl) (fun ls2 h2 => k H locs ls2 hP hS (rx_has_ins (q := (i, .int x)) (l := rx_del1 lo i) h2 hl2))
theorem rx_istore (X : rx_G O own cc nL rt p s m args meth c) {i : Nat} {x : Int32} (hd : rx_D cc pc (.istore i) 2 pc2) (hn : i < nL) (hl2 : rx_ins (i, .int x) (rx_del1 lo i) = lo2) (k : rx_J O nL p l e R s m args below meth c Q pc2 lo2 (st) σ) : rx_J O nL p l e R s m args below meth c Q pc lo (.int x :: st) σ := by
  obtain ⟨hd, rfl⟩ := hd
  exact fun H locs ls hP hS hl => lv_istore X.1 X.2.1 hd hl hn (by rw [← rx_del1_map]; rfl) (fun ls2 h2 => k H locs ls2 hP hS (rx_has_ins (q := (i, .int x)) (l := rx_del1 lo i) h2 hl2))
theorem rx_lstore_n (X : rx_G O own cc nL rt p s m args meth c) {k0 : Fin 4} {i : Nat} {x : Int64} (hd : rx_D cc pc (.lstore_n k0) 1 pc2) (hi : (k0 : Nat) = i) (hn : i + 1 < nL) (hl2 : rx_ins (i, .long x) (rx_del2 lo i) = lo2) (k : rx_J O nL p l e R s m args below meth c Q pc2 lo2 (st) σ) : rx_J O nL p l e R s m args below meth c Q pc lo (.long x :: st) σ := by
  obtain ⟨hd, rfl⟩ := hd
  exact fun H locs ls hP hS hl => lv_lstore_n X.1 X.2.1 hd hi hl hn (by rw [← rx_del2_map]; rfl) (fun ls2 h2 => k H locs ls2 hP hS (rx_has_ins (q := (i, .long x)) (l := rx_del2 lo i) h2 hl2))
theorem rx_lstore (X : rx_G O own cc nL rt p s m args meth c) {i : Nat} {x : Int64} (hd : rx_D cc pc (.lstore i) 2 pc2) (hn : i + 1 < nL) (hl2 : rx_ins (i, .long x) (rx_del2 lo i) = lo2) (k : rx_J O nL p l e R s m args below meth c Q pc2 lo2 (st) σ) : rx_J O nL p l e R s m args below meth c Q pc lo (.long x :: st) σ := by
  obtain ⟨hd, rfl⟩ := hd
  exact fun H locs ls hP hS hl => lv_lstore X.1 X.2.1 hd hl hn (by rw [← rx_del2_map]; rfl) (fun ls2 h2 => k H locs ls2 hP hS (rx_has_ins (q := (i, .long x)) (l := rx_del2 lo i) h2 hl2))
theorem rx_astore_n (X : rx_G O own cc nL rt p s m args meth c) {k0 : Fin 4} {i : Nat} {x : Nat} (hd : rx_D cc pc (.astore_n k0) 1 pc2) (hi : (k0 : Nat) = i) (hn : i < nL) (hl2 : rx_ins (i, .ref x) (rx_del1 lo i) = lo2) (k : rx_J O nL p l e R s m args below meth c Q pc2 lo2 (st) σ) : rx_J O nL p l e R s m args below meth c Q pc lo (.ref x :: st) σ := by
  obtain ⟨hd, rfl⟩ := hd
  exact fun H locs ls hP hS hl => lv_astore_n X.1 X.2.1 hd hi hl hn (by rw [← rx_del1_map]; rfl) (fun ls2 h2 => k H locs ls2 hP hS (rx_has_ins (q := (i, .ref x)) (l := rx_del1 lo i) h2 hl2))
theorem rx_astore (X : rx_G O own cc nL rt p s m args meth c) {i : Nat} {x : Nat} (hd : rx_D cc pc (.astore i) 2 pc2) (hn : i < nL) (hl2 : rx_ins (i, .ref x) (rx_del1 lo i) = lo2) (k : rx_J O nL p l e R s m args below meth c Q pc2 lo2 (st) σ) : rx_J O nL p l e R s m args below meth c Q pc lo (.ref x :: st) σ := by
  obtain ⟨hd, rfl⟩ := hd
  exact fun H locs ls hP hS hl => lv_astore X.1 X.2.1 hd hl hn (by rw [← rx_del1_map]; rfl) (fun ls2 h2 => k H locs ls2 hP hS (rx_has_ins (q := (i, .ref x)) (l := rx_del1 lo i) h2 hl2))
theorem rx_iinc (X : rx_G O own cc nL rt p s m args meth c) {i : Nat} {n : Int} {x v : Int32} (hd : rx_D cc pc (.iinc i n) 3 pc2) (hx : rx_lk lo i = some (.int x)) (hv : x + Int32.ofInt n = v) (hn : i < nL) (hl2 : rx_ins (i, .int v) (rx_del1 lo i) = lo2) (k : rx_J O nL p l e R s m args below meth c Q pc2 lo2 (st) σ) : rx_J O nL p l e R s m args below meth c Q pc lo (st) σ := by
  obtain ⟨hd, rfl⟩ := hd
  intro H locs ls hP hS hl
  obtain ⟨k0, hk0⟩ := List.getElem?_of_mem (List.mem_map.mpr ⟨(i, Value.int x), rx_lk_mem hx, rfl⟩ : (i, Value.int x) ∈ lo.map (rx_t1 O.2.1))
  exact lv_iinc X.1 X.2.1 hd hl hk0 hv hn (by rw [← rx_del1_map]; rfl) (fun ls2 h2 => k H locs ls2 hP hS (rx_has_ins (q := (i, .int v)) (l := rx_del1 lo i) h2 hl2))
theorem rx_iadd (X : rx_G O own cc nL rt p s m args meth c) {x y : Int32} (hd : rx_D cc pc .iadd 1 pc2) (k : rx_J O nL p l e R s m args below meth c Q pc2 lo (.int (x + y) :: st) σ) : rx_J O nL p l e R s m args below meth c Q pc lo (.int y :: .int x :: st) σ := by
  obtain ⟨hd, rfl⟩ := hd
  exact fun H locs ls hP hS hl => lv_iadd X.1 X.2.1 hd (k H locs ls hP hS hl)
theorem rx_isub (X : rx_G O own cc nL rt p s m args meth c) {x y : Int32} (hd : rx_D cc pc .isub 1 pc2) (k : rx_J O nL p l e R s m args below meth c Q pc2 lo (.int (x - y) :: st) σ) : rx_J O nL p l e R s m args below meth c Q pc lo (.int y :: .int x :: st) σ := by
  obtain ⟨hd, rfl⟩ := hd
  exact fun H locs ls hP hS hl => lv_isub X.1 X.2.1 hd (k H locs ls hP hS hl)
theorem rx_imul (X : rx_G O own cc nL rt p s m args meth c) {x y : Int32} (hd : rx_D cc pc .imul 1 pc2) (k : rx_J O nL p l e R s m args below meth c Q pc2 lo (.int (x * y) :: st) σ) : rx_J O nL p l e R s m args below meth c Q pc lo (.int y :: .int x :: st) σ := by
  obtain ⟨hd, rfl⟩ := hd
  exact fun H locs ls hP hS hl => lv_imul X.1 X.2.1 hd (k H locs ls hP hS hl)
theorem rx_iand (X : rx_G O own cc nL rt p s m args meth c) {x y : Int32} (hd : rx_D cc pc .iand 1 pc2) (k : rx_J O nL p l e R s m args below meth c Q pc2 lo (.int (x &&& y) :: st) σ) : rx_J O nL p l e R s m args below meth c Q pc lo (.int y :: .int x :: st) σ := by
  obtain ⟨hd, rfl⟩ := hd
  exact fun H locs ls hP hS hl => lv_iand X.1 X.2.1 hd (k H locs ls hP hS hl)
theorem rx_ior (X : rx_G O own cc nL rt p s m args meth c) {x y : Int32} (hd : rx_D cc pc .ior 1 pc2) (k : rx_J O nL p l e R s m args below meth c Q pc2 lo (.int (x ||| y) :: st) σ) : rx_J O nL p l e R s m args below meth c Q pc lo (.int y :: .int x :: st) σ := by
  obtain ⟨hd, rfl⟩ := hd
  exact fun H locs ls hP hS hl => lv_ior X.1 X.2.1 hd (k H locs ls hP hS hl)
theorem rx_ixor (X : rx_G O own cc nL rt p s m args meth c) {x y : Int32} (hd : rx_D cc pc .ixor 1 pc2) (k : rx_J O nL p l e R s m args below meth c Q pc2 lo (.int (x ^^^ y) :: st) σ) : rx_J O nL p l e R s m args below meth c Q pc lo (.int y :: .int x :: st) σ := by
  obtain ⟨hd, rfl⟩ := hd
  exact fun H locs ls hP hS hl => lv_ixor X.1 X.2.1 hd (k H locs ls hP hS hl)
theorem rx_ishl (X : rx_G O own cc nL rt p s m args meth c) {x y : Int32} (hd : rx_D cc pc .ishl 1 pc2) (k : rx_J O nL p l e R s m args below meth c Q pc2 lo (.int (x <<< (y &&& 31)) :: st) σ) : rx_J O nL p l e R s m args below meth c Q pc lo (.int y :: .int x :: st) σ := by
  obtain ⟨hd, rfl⟩ := hd
  exact fun H locs ls hP hS hl => lv_ishl X.1 X.2.1 hd (k H locs ls hP hS hl)
theorem rx_ishr (X : rx_G O own cc nL rt p s m args meth c) {x y : Int32} (hd : rx_D cc pc .ishr 1 pc2) (k : rx_J O nL p l e R s m args below meth c Q pc2 lo (.int (x >>> (y &&& 31)) :: st) σ) : rx_J O nL p l e R s m args below meth c Q pc lo (.int y :: .int x :: st) σ := by
  obtain ⟨hd, rfl⟩ := hd
  exact fun H locs ls hP hS hl => lv_ishr X.1 X.2.1 hd (k H locs ls hP hS hl)
theorem rx_idiv (X : rx_G O own cc nL rt p s m args meth c) {x y : Int32} (hd : rx_D cc pc .idiv 1 pc2) (hne : ¬ y = 0) (k : rx_J O nL p l e R s m args below meth c Q pc2 lo (.int (x / y) :: st) σ) : rx_J O nL p l e R s m args below meth c Q pc lo (.int y :: .int x :: st) σ := by
  obtain ⟨hd, rfl⟩ := hd
  exact fun H locs ls hP hS hl => lv_idiv X.1 X.2.1 hd hne (k H locs ls hP hS hl)
theorem rx_irem (X : rx_G O own cc nL rt p s m args meth c) {x y : Int32} (hd : rx_D cc pc .irem 1 pc2) (hne : ¬ y = 0) (k : rx_J O nL p l e R s m args below meth c Q pc2 lo (.int (x - x / y * y) :: st) σ) : rx_J O nL p l e R s m args below meth c Q pc lo (.int y :: .int x :: st) σ := by
  obtain ⟨hd, rfl⟩ := hd
  exact fun H locs ls hP hS hl => lv_irem X.1 X.2.1 hd hne (k H locs ls hP hS hl)
theorem rx_ineg (X : rx_G O own cc nL rt p s m args meth c) {x : Int32} (hd : rx_D cc pc .ineg 1 pc2) (k : rx_J O nL p l e R s m args below meth c Q pc2 lo (.int (-x) :: st) σ) : rx_J O nL p l e R s m args below meth c Q pc lo (.int x :: st) σ := by
  obtain ⟨hd, rfl⟩ := hd
  exact fun H locs ls hP hS hl => lv_ineg X.1 X.2.1 hd (k H locs ls hP hS hl)
theorem rx_ladd (X : rx_G O own cc nL rt p s m args meth c) {x y : Int64} (hd : rx_D cc pc .ladd 1 pc2) (k : rx_J O nL p l e R s m args below meth c Q pc2 lo (.long (x + y) :: st) σ) : rx_J O nL p l e R s m args below meth c Q pc lo (.long y :: .long x :: st) σ := by
  obtain ⟨hd, rfl⟩ := hd
  exact fun H locs ls hP hS hl => lv_ladd X.1 X.2.1 hd (k H locs ls hP hS hl)
theorem rx_lsub (X : rx_G O own cc nL rt p s m args meth c) {x y : Int64} (hd : rx_D cc pc .lsub 1 pc2) (k : rx_J O nL p l e R s m args below meth c Q pc2 lo (.long (x - y) :: st) σ) : rx_J O nL p l e R s m args below meth c Q pc lo (.long y :: .long x :: st) σ := by
  obtain ⟨hd, rfl⟩ := hd
  exact fun H locs ls hP hS hl => lv_lsub X.1 X.2.1 hd (k H locs ls hP hS hl)
theorem rx_lmul (X : rx_G O own cc nL rt p s m args meth c) {x y : Int64} (hd : rx_D cc pc .lmul 1 pc2) (k : rx_J O nL p l e R s m args below meth c Q pc2 lo (.long (x * y) :: st) σ) : rx_J O nL p l e R s m args below meth c Q pc lo (.long y :: .long x :: st) σ := by
  obtain ⟨hd, rfl⟩ := hd
  exact fun H locs ls hP hS hl => lv_lmul X.1 X.2.1 hd (k H locs ls hP hS hl)
theorem rx_ldiv (X : rx_G O own cc nL rt p s m args meth c) {x y : Int64} (hd : rx_D cc pc .ldiv 1 pc2) (hne : ¬ y = 0) (k : rx_J O nL p l e R s m args below meth c Q pc2 lo (.long (x / y) :: st) σ) : rx_J O nL p l e R s m args below meth c Q pc lo (.long y :: .long x :: st) σ := by
  obtain ⟨hd, rfl⟩ := hd
  exact fun H locs ls hP hS hl => lv_ldiv X.1 X.2.1 hd hne (k H locs ls hP hS hl)
theorem rx_lrem (X : rx_G O own cc nL rt p s m args meth c) {x y : Int64} (hd : rx_D cc pc .lrem 1 pc2) (hne : ¬ y = 0) (k : rx_J O nL p l e R s m args below meth c Q pc2 lo (.long (x - x / y * y) :: st) σ) : rx_J O nL p l e R s m args below meth c Q pc lo (.long y :: .long x :: st) σ := by
  obtain ⟨hd, rfl⟩ := hd
  exact fun H locs ls hP hS hl => lv_lrem X.1 X.2.1 hd hne (k H locs ls hP hS hl)
theorem rx_i2l (X : rx_G O own cc nL rt p s m args meth c) {x : Int32} (hd : rx_D cc pc .i2l 1 pc2) (k : rx_J O nL p l e R s m args below meth c Q pc2 lo (.long x.toInt64 :: st) σ) : rx_J O nL p l e R s m args below meth c Q pc lo (.int x :: st) σ := by
  obtain ⟨hd, rfl⟩ := hd
  exact fun H locs ls hP hS hl => lv_i2l X.1 X.2.1 hd rfl (k H locs ls hP hS hl)
theorem rx_l2i (X : rx_G O own cc nL rt p s m args meth c) {x : Int64} (hd : rx_D cc pc .l2i 1 pc2) (k : rx_J O nL p l e R s m args below meth c Q pc2 lo (.int x.toInt32 :: st) σ) : rx_J O nL p l e R s m args below meth c Q pc lo (.long x :: st) σ := by
  obtain ⟨hd, rfl⟩ := hd
  exact fun H locs ls hP hS hl => lv_l2i X.1 X.2.1 hd rfl (k H locs ls hP hS hl)
theorem rx_i2b (X : rx_G O own cc nL rt p s m args meth c) {x : Int32} (hd : rx_D cc pc .i2b 1 pc2) (k : rx_J O nL p l e R s m args below meth c Q pc2 lo (.int x.toInt8.toInt32 :: st) σ) : rx_J O nL p l e R s m args below meth c Q pc lo (.int x :: st) σ := by
  obtain ⟨hd, rfl⟩ := hd
  exact fun H locs ls hP hS hl => lv_i2b X.1 X.2.1 hd rfl (k H locs ls hP hS hl)
theorem rx_i2s (X : rx_G O own cc nL rt p s m args meth c) {x : Int32} (hd : rx_D cc pc .i2s 1 pc2) (k : rx_J O nL p l e R s m args below meth c Q pc2 lo (.int x.toInt16.toInt32 :: st) σ) : rx_J O nL p l e R s m args below meth c Q pc lo (.int x :: st) σ := by
  obtain ⟨hd, rfl⟩ := hd
  exact fun H locs ls hP hS hl => lv_i2s X.1 X.2.1 hd rfl (k H locs ls hP hS hl)
theorem rx_lcmp (X : rx_G O own cc nL rt p s m args meth c) {x y : Int64} (hd : rx_D cc pc .lcmp 1 pc2) (k : rx_J O nL p l e R s m args below meth c Q pc2 lo (.int (lg_cmp x y) :: st) σ) : rx_J O nL p l e R s m args below meth c Q pc lo (.long y :: .long x :: st) σ := by
  obtain ⟨hd, rfl⟩ := hd
  exact fun H locs ls hP hS hl => W.lcmp X.1 X.2.1 hd (k H locs ls hP hS hl)
theorem rx_dup (X : rx_G O own cc nL rt p s m args meth c) {v : Value} (hd : rx_D cc pc .dup 1 pc2) (hv : v.category = 1) (k : rx_J O nL p l e R s m args below meth c Q pc2 lo (v :: v :: st) σ) : rx_J O nL p l e R s m args below meth c Q pc lo (v :: st) σ := by
  obtain ⟨hd, rfl⟩ := hd
  exact fun H locs ls hP hS hl => lv_dup X.1 X.2.1 hd (by rw [rx_t_cat]; exact hv) (k H locs ls hP hS hl)
theorem rx_pop (X : rx_G O own cc nL rt p s m args meth c) {v : Value} (hd : rx_D cc pc .pop 1 pc2) (hv : v.category = 1) (k : rx_J O nL p l e R s m args below meth c Q pc2 lo (st) σ) : rx_J O nL p l e R s m args below meth c Q pc lo (v :: st) σ := by
  obtain ⟨hd, rfl⟩ := hd
  exact fun H locs ls hP hS hl => lv_pop X.1 X.2.1 hd (by rw [rx_t_cat]; exact hv) (k H locs ls hP hS hl)
theorem rx_dup2 (X : rx_G O own cc nL rt p s m args meth c) {v w : Value} (hd : rx_D cc pc .dup2 1 pc2) (hv : v.category = 1) (hw : w.category = 1) (k : rx_J O nL p l e R s m args below meth c Q pc2 lo (v :: w :: v :: w :: st) σ) : rx_J O nL p l e R s m args below meth c Q pc lo (v :: w :: st) σ := by
  obtain ⟨hd, rfl⟩ := hd
  exact fun H locs ls hP hS hl => lv_dup2_11 X.1 X.2.1 hd (by rw [rx_t_cat]; exact hv) (by rw [rx_t_cat]; exact hw) (k H locs ls hP hS hl)
theorem rx_if_eq (X : rx_G O own cc nL rt p s m args meth c) {x : Int32} {off : Int} (hd : rx_B cc pc (.ifCond .eq off) off pc2 tgt) (kt : x = 0 → rx_J O nL p l e R s m args below meth c Q tgt lo (st) σ) (kf : ¬ x = 0 → rx_J O nL p l e R s m args below meth c Q pc2 lo (st) σ) : rx_J O nL p l e R s m args below meth c Q pc lo (.int x :: st) σ := by
  obtain ⟨hd, rfl, ht⟩ := hd
  exact fun H locs ls hP hS hl => lv_if_eq X.1 X.2.1 hd ht (fun h => kt h H locs ls hP hS hl) (fun h => kf h H locs ls hP hS hl)
theorem rx_if_eq_t (X : rx_G O own cc nL rt p s m args meth c) {x : Int32} {off : Int} (hd : rx_B cc pc (.ifCond .eq off) off pc2 tgt) (hc : x = 0) (kt : rx_J O nL p l e R s m args below meth c Q tgt lo (st) σ) : rx_J O nL p l e R s m args below meth c Q pc lo (.int x :: st) σ := rx_if_eq X hd (fun _ => kt) (fun h => absurd hc h)
theorem rx_if_eq_f (X : rx_G O own cc nL rt p s m args meth c) {x : Int32} {off : Int} (hd : rx_B cc pc (.ifCond .eq off) off pc2 tgt) (hc : ¬ x = 0) (kf : rx_J O nL p l e R s m args below meth c Q pc2 lo (st) σ) : rx_J O nL p l e R s m args below meth c Q pc lo (.int x :: st) σ := rx_if_eq X hd (fun h => absurd h hc) (fun _ => kf)
theorem rx_if_ne (X : rx_G O own cc nL rt p s m args meth c) {x : Int32} {off : Int} (hd : rx_B cc pc (.ifCond .ne off) off pc2 tgt) (kt : ¬ x = 0 → rx_J O nL p l e R s m args below meth c Q tgt lo (st) σ) (kf : x = 0 → rx_J O nL p l e R s m args below meth c Q pc2 lo (st) σ) : rx_J O nL p l e R s m args below meth c Q pc lo (.int x :: st) σ := by
  obtain ⟨hd, rfl, ht⟩ := hd
  exact fun H locs ls hP hS hl => lv_if_ne X.1 X.2.1 hd ht (fun h => kt h H locs ls hP hS hl) (fun h => kf h H locs ls hP hS hl)
theorem rx_if_ne_t (X : rx_G O own cc nL rt p s m args meth c) {x : Int32} {off : Int} (hd : rx_B cc pc (.ifCond .ne off) off pc2 tgt) (hc : ¬ x = 0) (kt : rx_J O nL p l e R s m args below meth c Q tgt lo (st) σ) : rx_J O nL p l e R s m args below meth c Q pc lo (.int x :: st) σ := rx_if_ne X hd (fun _ => kt) (fun h => absurd hc (fun q => q h))
theorem rx_if_ne_f (X : rx_G O own cc nL rt p s m args meth c) {x : Int32} {off : Int} (hd : rx_B cc pc (.ifCond .ne off) off pc2 tgt) (hc : x = 0) (kf : rx_J O nL p l e R s m args below meth c Q pc2 lo (st) σ) : rx_J O nL p l e R s m args below meth c Q pc lo (.int x :: st) σ := rx_if_ne X hd (fun h => absurd hc h) (fun _ => kf)
theorem rx_if_lt (X : rx_G O own cc nL rt p s m args meth c) {x : Int32} {off : Int} (hd : rx_B cc pc (.ifCond .lt off) off pc2 tgt) (kt : x < 0 → rx_J O nL p l e R s m args below meth c Q tgt lo (st) σ) (kf : ¬ x < 0 → rx_J O nL p l e R s m args below meth c Q pc2 lo (st) σ) : rx_J O nL p l e R s m args below meth c Q pc lo (.int x :: st) σ := by
  obtain ⟨hd, rfl, ht⟩ := hd
  exact fun H locs ls hP hS hl => lv_if_lt X.1 X.2.1 hd ht (fun h => kt h H locs ls hP hS hl) (fun h => kf h H locs ls hP hS hl)
theorem rx_if_lt_t (X : rx_G O own cc nL rt p s m args meth c) {x : Int32} {off : Int} (hd : rx_B cc pc (.ifCond .lt off) off pc2 tgt) (hc : x < 0) (kt : rx_J O nL p l e R s m args below meth c Q tgt lo (st) σ) : rx_J O nL p l e R s m args below meth c Q pc lo (.int x :: st) σ := rx_if_lt X hd (fun _ => kt) (fun h => absurd hc h)
theorem rx_if_lt_f (X : rx_G O own cc nL rt p s m args meth c) {x : Int32} {off : Int} (hd : rx_B cc pc (.ifCond .lt off) off pc2 tgt) (hc : ¬ x < 0) (kf : rx_J O nL p l e R s m args below meth c Q pc2 lo (st) σ) : rx_J O nL p l e R s m args below meth c Q pc lo (.int x :: st) σ := rx_if_lt X hd (fun h => absurd h hc) (fun _ => kf)
theorem rx_if_ge (X : rx_G O own cc nL rt p s m args meth c) {x : Int32} {off : Int} (hd : rx_B cc pc (.ifCond .ge off) off pc2 tgt) (kt : 0 ≤ x → rx_J O nL p l e R s m args below meth c Q tgt lo (st) σ) (kf : ¬ 0 ≤ x → rx_J O nL p l e R s m args below meth c Q pc2 lo (st) σ) : rx_J O nL p l e R s m args below meth c Q pc lo (.int x :: st) σ := by
  obtain ⟨hd, rfl, ht⟩ := hd
  exact fun H locs ls hP hS hl => lv_if_ge X.1 X.2.1 hd ht (fun h => kt h H locs ls hP hS hl) (fun h => kf h H locs ls hP hS hl)
theorem rx_if_ge_t (X : rx_G O own cc nL rt p s m args meth c) {x : Int32} {off : Int} (hd : rx_B cc pc (.ifCond .ge off) off pc2 tgt) (hc : 0 ≤ x) (kt : rx_J O nL p l e R s m args below meth c Q tgt lo (st) σ) : rx_J O nL p l e R s m args below meth c Q pc lo (.int x :: st) σ := rx_if_ge X hd (fun _ => kt) (fun h => absurd hc h)
theorem rx_if_ge_f (X : rx_G O own cc nL rt p s m args meth c) {x : Int32} {off : Int} (hd : rx_B cc pc (.ifCond .ge off) off pc2 tgt) (hc : ¬ 0 ≤ x) (kf : rx_J O nL p l e R s m args below meth c Q pc2 lo (st) σ) : rx_J O nL p l e R s m args below meth c Q pc lo (.int x :: st) σ := rx_if_ge X hd (fun h => absurd h hc) (fun _ => kf)
theorem rx_if_gt (X : rx_G O own cc nL rt p s m args meth c) {x : Int32} {off : Int} (hd : rx_B cc pc (.ifCond .gt off) off pc2 tgt) (kt : 0 < x → rx_J O nL p l e R s m args below meth c Q tgt lo (st) σ) (kf : ¬ 0 < x → rx_J O nL p l e R s m args below meth c Q pc2 lo (st) σ) : rx_J O nL p l e R s m args below meth c Q pc lo (.int x :: st) σ := by
  obtain ⟨hd, rfl, ht⟩ := hd
  exact fun H locs ls hP hS hl => lv_if_gt X.1 X.2.1 hd ht (fun h => kt h H locs ls hP hS hl) (fun h => kf h H locs ls hP hS hl)
theorem rx_if_gt_t (X : rx_G O own cc nL rt p s m args meth c) {x : Int32} {off : Int} (hd : rx_B cc pc (.ifCond .gt off) off pc2 tgt) (hc : 0 < x) (kt : rx_J O nL p l e R s m args below meth c Q tgt lo (st) σ) : rx_J O nL p l e R s m args below meth c Q pc lo (.int x :: st) σ := rx_if_gt X hd (fun _ => kt) (fun h => absurd hc h)
theorem rx_if_gt_f (X : rx_G O own cc nL rt p s m args meth c) {x : Int32} {off : Int} (hd : rx_B cc pc (.ifCond .gt off) off pc2 tgt) (hc : ¬ 0 < x) (kf : rx_J O nL p l e R s m args below meth c Q pc2 lo (st) σ) : rx_J O nL p l e R s m args below meth c Q pc lo (.int x :: st) σ := rx_if_gt X hd (fun h => absurd h hc) (fun _ => kf)
theorem rx_if_le (X : rx_G O own cc nL rt p s m args meth c) {x : Int32} {off : Int} (hd : rx_B cc pc (.ifCond .le off) off pc2 tgt) (kt : x ≤ 0 → rx_J O nL p l e R s m args below meth c Q tgt lo (st) σ) (kf : ¬ x ≤ 0 → rx_J O nL p l e R s m args below meth c Q pc2 lo (st) σ) : rx_J O nL p l e R s m args below meth c Q pc lo (.int x :: st) σ := by
  obtain ⟨hd, rfl, ht⟩ := hd
  exact fun H locs ls hP hS hl => lv_if_le X.1 X.2.1 hd ht (fun h => kt h H locs ls hP hS hl) (fun h => kf h H locs ls hP hS hl)
theorem rx_if_le_t (X : rx_G O own cc nL rt p s m args meth c) {x : Int32} {off : Int} (hd : rx_B cc pc (.ifCond .le off) off pc2 tgt) (hc : x ≤ 0) (kt : rx_J O nL p l e R s m args below meth c Q tgt lo (st) σ) : rx_J O nL p l e R s m args below meth c Q pc lo (.int x :: st) σ := rx_if_le X hd (fun _ => kt) (fun h => absurd hc h)
theorem rx_if_le_f (X : rx_G O own cc nL rt p s m args meth c) {x : Int32} {off : Int} (hd : rx_B cc pc (.ifCond .le off) off pc2 tgt) (hc : ¬ x ≤ 0) (kf : rx_J O nL p l e R s m args below meth c Q pc2 lo (st) σ) : rx_J O nL p l e R s m args below meth c Q pc lo (.int x :: st) σ := rx_if_le X hd (fun h => absurd h hc) (fun _ => kf)
theorem rx_icmp_eq (X : rx_G O own cc nL rt p s m args meth c) {x y : Int32} {off : Int} (hd : rx_B cc pc (.if_icmp .eq off) off pc2 tgt) (kt : x = y → rx_J O nL p l e R s m args below meth c Q tgt lo (st) σ) (kf : ¬ x = y → rx_J O nL p l e R s m args below meth c Q pc2 lo (st) σ) : rx_J O nL p l e R s m args below meth c Q pc lo (.int y :: .int x :: st) σ := by
  obtain ⟨hd, rfl, ht⟩ := hd
  exact fun H locs ls hP hS hl => lv_icmp_eq X.1 X.2.1 hd ht (fun h => kt h H locs ls hP hS hl) (fun h => kf h H locs ls hP hS hl)
theorem rx_icmp_eq_t (X : rx_G O own cc nL rt p s m args meth c) {x y : Int32} {off : Int} (hd : rx_B cc pc (.if_icmp .eq off) off pc2 tgt) (hc : x = y) (kt : rx_J O nL p l e R s m args below meth c Q tgt lo (st) σ) : rx_J O nL p l e R s m args below meth c Q pc lo (.int y :: .int x :: st) σ := rx_icmp_eq X hd (fun _ => kt) (fun h => absurd hc h)
theorem rx_icmp_eq_f (X : rx_G O own cc nL rt p s m args meth c) {x y : Int32} {off : Int} (hd : rx_B cc pc (.if_icmp .eq off) off pc2 tgt) (hc : ¬ x = y) (kf : rx_J O nL p l e R s m args below meth c Q pc2 lo (st) σ) : rx_J O nL p l e R s m args below meth c Q pc lo (.int y :: .int x :: st) σ := rx_icmp_eq X hd (fun h => absurd h hc) (fun _ => kf)
theorem rx_icmp_ne (X : rx_G O own cc nL rt p s m args meth c) {x y : Int32} {off : Int} (hd : rx_B cc pc (.if_icmp .ne off) off pc2 tgt) (kt : ¬ x = y → rx_J O nL p l e R s m args below meth c Q tgt lo (st) σ) (kf : x = y → rx_J O nL p l e R s m args below meth c Q pc2 lo (st) σ) : rx_J O nL p l e R s m args below meth c Q pc lo (.int y :: .int x :: st) σ := by
  obtain ⟨hd, rfl, ht⟩ := hd
  exact fun H locs ls hP hS hl => lv_icmp_ne X.1 X.2.1 hd ht (fun h => kt h H locs ls hP hS hl) (fun h => kf h H locs ls hP hS hl)
theorem rx_icmp_ne_t (X : rx_G O own cc nL rt p s m args meth c) {x y : Int32} {off : Int} (hd : rx_B cc pc (.if_icmp .ne off) off pc2 tgt) (hc : ¬ x = y) (kt : rx_J O nL p l e R s m args below meth c Q tgt lo (st) σ) : rx_J O nL p l e R s m args below meth c Q pc lo (.int y :: .int x :: st) σ := rx_icmp_ne X hd (fun _ => kt) (fun h => absurd hc (fun q => q h))
theorem rx_icmp_ne_f (X : rx_G O own cc nL rt p s m args meth c) {x y : Int32} {off : Int} (hd : rx_B cc pc (.if_icmp .ne off) off pc2 tgt) (hc : x = y) (kf : rx_J O nL p l e R s m args below meth c Q pc2 lo (st) σ) : rx_J O nL p l e R s m args below meth c Q pc lo (.int y :: .int x :: st) σ := rx_icmp_ne X hd (fun h => absurd hc h) (fun _ => kf)
theorem rx_icmp_lt (X : rx_G O own cc nL rt p s m args meth c) {x y : Int32} {off : Int} (hd : rx_B cc pc (.if_icmp .lt off) off pc2 tgt) (kt : x < y → rx_J O nL p l e R s m args below meth c Q tgt lo (st) σ) (kf : ¬ x < y → rx_J O nL p l e R s m args below meth c Q pc2 lo (st) σ) : rx_J O nL p l e R s m args below meth c Q pc lo (.int y :: .int x :: st) σ := by
  obtain ⟨hd, rfl, ht⟩ := hd
  exact fun H locs ls hP hS hl => lv_icmp_lt X.1 X.2.1 hd ht (fun h => kt h H locs ls hP hS hl) (fun h => kf h H locs ls hP hS hl)
theorem rx_icmp_lt_t (X : rx_G O own cc nL rt p s m args meth c) {x y : Int32} {off : Int} (hd : rx_B cc pc (.if_icmp .lt off) off pc2 tgt) (hc : x < y) (kt : rx_J O nL p l e R s m args below meth c Q tgt lo (st) σ) : rx_J O nL p l e R s m args below meth c Q pc lo (.int y :: .int x :: st) σ := rx_icmp_lt X hd (fun _ => kt) (fun h => absurd hc h)
theorem rx_icmp_lt_f (X : rx_G O own cc nL rt p s m args meth c) {x y : Int32} {off : Int} (hd : rx_B cc pc (.if_icmp .lt off) off pc2 tgt) (hc : ¬ x < y) (kf : rx_J O nL p l e R s m args below meth c Q pc2 lo (st) σ) : rx_J O nL p l e R s m args below meth c Q pc lo (.int y :: .int x :: st) σ := rx_icmp_lt X hd (fun h => absurd h hc) (fun _ => kf)
theorem rx_icmp_ge (X : rx_G O own cc nL rt p s m args meth c) {x y : Int32} {off : Int} (hd : rx_B cc pc (.if_icmp .ge off) off pc2 tgt) (kt : y ≤ x → rx_J O nL p l e R s m args below meth c Q tgt lo (st) σ) (kf : ¬ y ≤ x → rx_J O nL p l e R s m args below meth c Q pc2 lo (st) σ) : rx_J O nL p l e R s m args below meth c Q pc lo (.int y :: .int x :: st) σ := by
  obtain ⟨hd, rfl, ht⟩ := hd
  exact fun H locs ls hP hS hl => lv_icmp_ge X.1 X.2.1 hd ht (fun h => kt h H locs ls hP hS hl) (fun h => kf h H locs ls hP hS hl)
theorem rx_icmp_ge_t (X : rx_G O own cc nL rt p s m args meth c) {x y : Int32} {off : Int} (hd : rx_B cc pc (.if_icmp .ge off) off pc2 tgt) (hc : y ≤ x) (kt : rx_J O nL p l e R s m args below meth c Q tgt lo (st) σ) : rx_J O nL p l e R s m args below meth c Q pc lo (.int y :: .int x :: st) σ := rx_icmp_ge X hd (fun _ => kt) (fun h => absurd hc h)
theorem rx_icmp_ge_f (X : rx_G O own cc nL rt p s m args meth c) {x y : Int32} {off : Int} (hd : rx_B cc pc (.if_icmp .ge off) off pc2 tgt) (hc : ¬ y ≤ x) (kf : rx_J O nL p l e R s m args below meth c Q pc2 lo (st) σ) : rx_J O nL p l e R s m args below meth c Q pc lo (.int y :: .int x :: st) σ := rx_icmp_ge X hd (fun h => absurd h hc) (fun _ => kf)
theorem rx_icmp_gt (X : rx_G O own cc nL rt p s m args meth c) {x y : Int32} {off : Int} (hd : rx_B cc pc (.if_icmp .gt off) off pc2 tgt) (kt : y < x → rx_J O nL p l e R s m args below meth c Q tgt lo (st) σ) (kf : ¬ y < x → rx_J O nL p l e R s m args below meth c Q pc2 lo (st) σ) : rx_J O nL p l e R s m args below meth c Q pc lo (.int y :: .int x :: st) σ := by
  obtain ⟨hd, rfl, ht⟩ := hd
  exact fun H locs ls hP hS hl => lv_icmp_gt X.1 X.2.1 hd ht (fun h => kt h H locs ls hP hS hl) (fun h => kf h H locs ls hP hS hl)
theorem rx_icmp_gt_t (X : rx_G O own cc nL rt p s m args meth c) {x y : Int32} {off : Int} (hd : rx_B cc pc (.if_icmp .gt off) off pc2 tgt) (hc : y < x) (kt : rx_J O nL p l e R s m args below meth c Q tgt lo (st) σ) : rx_J O nL p l e R s m args below meth c Q pc lo (.int y :: .int x :: st) σ := rx_icmp_gt X hd (fun _ => kt) (fun h => absurd hc h)
theorem rx_icmp_gt_f (X : rx_G O own cc nL rt p s m args meth c) {x y : Int32} {off : Int} (hd : rx_B cc pc (.if_icmp .gt off) off pc2 tgt) (hc : ¬ y < x) (kf : rx_J O nL p l e R s m args below meth c Q pc2 lo (st) σ) : rx_J O nL p l e R s m args below meth c Q pc lo (.int y :: .int x :: st) σ := rx_icmp_gt X hd (fun h => absurd h hc) (fun _ => kf)
theorem rx_icmp_le (X : rx_G O own cc nL rt p s m args meth c) {x y : Int32} {off : Int} (hd : rx_B cc pc (.if_icmp .le off) off pc2 tgt) (kt : x ≤ y → rx_J O nL p l e R s m args below meth c Q tgt lo (st) σ) (kf : ¬ x ≤ y → rx_J O nL p l e R s m args below meth c Q pc2 lo (st) σ) : rx_J O nL p l e R s m args below meth c Q pc lo (.int y :: .int x :: st) σ := by
  obtain ⟨hd, rfl, ht⟩ := hd
  exact fun H locs ls hP hS hl => lv_icmp_le X.1 X.2.1 hd ht (fun h => kt h H locs ls hP hS hl) (fun h => kf h H locs ls hP hS hl)
theorem rx_icmp_le_t (X : rx_G O own cc nL rt p s m args meth c) {x y : Int32} {off : Int} (hd : rx_B cc pc (.if_icmp .le off) off pc2 tgt) (hc : x ≤ y) (kt : rx_J O nL p l e R s m args below meth c Q tgt lo (st) σ) : rx_J O nL p l e R s m args below meth c Q pc lo (.int y :: .int x :: st) σ := rx_icmp_le X hd (fun _ => kt) (fun h => absurd hc h)
theorem rx_icmp_le_f (X : rx_G O own cc nL rt p s m args meth c) {x y : Int32} {off : Int} (hd : rx_B cc pc (.if_icmp .le off) off pc2 tgt) (hc : ¬ x ≤ y) (kf : rx_J O nL p l e R s m args below meth c Q pc2 lo (st) σ) : rx_J O nL p l e R s m args below meth c Q pc lo (.int y :: .int x :: st) σ := rx_icmp_le X hd (fun h => absurd h hc) (fun _ => kf)
theorem rx_goto (X : rx_G O own cc nL rt p s m args meth c) {off : Int} (hd : rx_B cc pc (.goto off) off pc2 tgt) (k : rx_J O nL p l e R s m args below meth c Q tgt lo (st) σ) : rx_J O nL p l e R s m args below meth c Q pc lo (st) σ := by
  obtain ⟨hd, rfl, ht⟩ := hd
  exact fun H locs ls hP hS hl => lv_goto X.1 X.2.1 hd ht (k H locs ls hP hS hl)
theorem rx_tableIn (X : rx_G O own cc nL rt p s m args meth c) {dflt lo0 hi0 : Int} {offs : Array Int} {n : Nat} {x : Int32} {off : Int} (hd : rx_D cc pc (.tableswitch dflt lo0 hi0 offs) n pc2) (h1 : ¬ x.toInt < lo0) (h2 : ¬ hi0 < x.toInt) (ho : offs[(x.toInt - lo0).toNat]? = some off) (ht : (pc : Int) + off = (tgt : Int)) (k : rx_J O nL p l e R s m args below meth c Q tgt lo (st) σ) : rx_J O nL p l e R s m args below meth c Q pc lo (.int x :: st) σ := fun H locs ls hP hS hl => lv_tableIn X.1 X.2.1 hd.1 h1 h2 ho ht (k H locs ls hP hS hl)
theorem rx_tableOut (X : rx_G O own cc nL rt p s m args meth c) {dflt lo0 hi0 : Int} {offs : Array Int} {n : Nat} {x : Int32} (hd : rx_D cc pc (.tableswitch dflt lo0 hi0 offs) n pc2) (h : x.toInt < lo0 ∨ hi0 < x.toInt) (ht : (pc : Int) + dflt = (tgt : Int)) (k : rx_J O nL p l e R s m args below meth c Q tgt lo (st) σ) : rx_J O nL p l e R s m args below meth c Q pc lo (.int x :: st) σ := fun H locs ls hP hS hl => lv_tableOut X.1 X.2.1 hd.1 h ht (k H locs ls hP hS hl)
theorem rx_lookup (X : rx_G O own cc nL rt p s m args meth c) {dflt : Int} {ps : Array (Int × Int)} {n : Nat} {x : Int32} {off : Int} (hd : rx_D cc pc (.lookupswitch dflt ps) n pc2) (hp : (ps.toList.zip (ps.toList.drop 1)).all (fun (a, next) => a.1 < next.1) = true) (ho : Op.lookupswitch.offset ps.toList dflt x.toInt = off) (ht : (pc : Int) + off = (tgt : Int)) (k : rx_J O nL p l e R s m args below meth c Q tgt lo (st) σ) : rx_J O nL p l e R s m args below meth c Q pc lo (.int x :: st) σ := fun H locs ls hP hS hl => lv_lookup X.1 X.2.1 hd.1 hp ho ht (k H locs ls hP hS hl)
/-- a name for what lies on top -/
theorem rx_topi {x : Int32} (k : ∀ y : Int32, y = x → rx_J O nL p l e R s m args below meth c Q pc lo (.int y :: st) σ) : rx_J O nL p l e R s m args below meth c Q pc lo (.int x :: st) σ := k x rfl
theorem rx_topl {x : Int64} (k : ∀ y : Int64, y = x → rx_J O nL p l e R s m args below meth c Q pc lo (.long y :: st) σ) : rx_J O nL p l e R s m args below meth c Q pc lo (.long x :: st) σ := k x rfl
theorem rx_top {x y : Int32} (h : x = y) (k : rx_J O nL p l e R s m args below meth c Q pc lo (.int y :: st) σ) : rx_J O nL p l e R s m args below meth c Q pc lo (.int x :: st) σ := h ▸ k
/-! fields -/
theorem rx_fs_get {fs : List Nat} {i t : Nat} (h : fs[i]? = some t) (ad : Nat → Nat) (σ : rx_S) (k : Nat) : ((List.range fs.length).map (fun i => rx_f ad σ k i (fs.getD i 0)))[i]? = some (rx_f ad σ k i t) := by
  have hl := (List.getElem?_eq_some_iff.mp h).1
  rw [List.getElem?_map, List.getElem?_range hl, Option.map_some, List.getD_eq_getElem?_getD, h]
  rfl
theorem rx_get (X : rx_G O own cc nL rt p s m args meth c) {ci i k idx N t : Nat} {C : String} {T : u_T} {fs : List Nat} (hk : O.1[k]? = some (.inl (ci, fs))) (hc : rx_cl[ci]? = some (C, T, N)) (ht : fs[i]? = some t) (hi : i < N) (hw : ∀ w ∈ u_ws C T N, w ∈ rx_tbl) (hlk : Cond.fieldLink own idx (T i).1 (T i).2.1 (T i).2.2.1 ∈ rx_tbl) (hd : rx_D cc pc (.getfield idx) 3 pc2) {v : Value} (hv : rx_f O.2.1 σ k i t = rx_t O.2.1 v) (kk : rx_J O nL p l e R s m args below meth c Q pc2 lo (v :: st) σ) : rx_J O nL p l e R s m args below meth c Q pc lo (.ref k :: st) σ := by
  obtain ⟨hd, rfl⟩ := hd
  intro H locs ls hP hS hl
  exact va_get (D := O.2.2.1) (cl := rx_cl) (ci := ci) X.1 X.2.1 X.2.2.2.2.1 hw X.2.2.2.1 X.2.2.2.2.2.1 hP k (rx_w_at hk σ) hc i hi (X.2.2.2.2.1 _ hlk) (fun _ h => h) (rx_fs_get ht O.2.1 σ k) hd (by rw [hv]; exact kk H locs ls hP hS hl)
theorem rx_getI (X : rx_G O own cc nL rt p s m args meth c) {ci i k idx N : Nat} {C : String} {T : u_T} {fs : List Nat} (hk : O.1[k]? = some (.inl (ci, fs))) (hc : rx_cl[ci]? = some (C, T, N)) (ht : fs[i]? = some 0) (hi : i < N) (hw : ∀ w ∈ u_ws C T N, w ∈ rx_tbl) (hlk : Cond.fieldLink own idx (T i).1 (T i).2.1 (T i).2.2.1 ∈ rx_tbl) (hd : rx_D cc pc (.getfield idx) 3 pc2) (kk : rx_J O nL p l e R s m args below meth c Q pc2 lo (.int (σ.1 k i) :: st) σ) : rx_J O nL p l e R s m args below meth c Q pc lo (.ref k :: st) σ := rx_get X hk hc ht hi hw hlk hd rfl kk
theorem rx_getZ (X : rx_G O own cc nL rt p s m args meth c) {ci i k idx N : Nat} {C : String} {T : u_T} {fs : List Nat} (hk : O.1[k]? = some (.inl (ci, fs))) (hc : rx_cl[ci]? = some (C, T, N)) (ht : fs[i]? = some 1) (hi : i < N) (hw : ∀ w ∈ u_ws C T N, w ∈ rx_tbl) (hlk : Cond.fieldLink own idx (T i).1 (T i).2.1 (T i).2.2.1 ∈ rx_tbl) (hd : rx_D cc pc (.getfield idx) 3 pc2) (kk : rx_J O nL p l e R s m args below meth c Q pc2 lo (.int (σ.1 k i) :: st) σ) : rx_J O nL p l e R s m args below meth c Q pc lo (.ref k :: st) σ := rx_get X hk hc ht hi hw hlk hd rfl kk
theorem rx_getL (X : rx_G O own cc nL rt p s m args meth c) {ci i k idx N : Nat} {C : String} {T : u_T} {fs : List Nat} (hk : O.1[k]? = some (.inl (ci, fs))) (hc : rx_cl[ci]? = some (C, T, N)) (ht : fs[i]? = some 2) (hi : i < N) (hw : ∀ w ∈ u_ws C T N, w ∈ rx_tbl) (hlk : Cond.fieldLink own idx (T i).1 (T i).2.1 (T i).2.2.1 ∈ rx_tbl) (hd : rx_D cc pc (.getfield idx) 3 pc2) (kk : rx_J O nL p l e R s m args below meth c Q pc2 lo (.long (σ.2 k i) :: st) σ) : rx_J O nL p l e R s m args below meth c Q pc lo (.ref k :: st) σ := rx_get X hk hc ht hi hw hlk hd rfl kk
theorem rx_getR (X : rx_G O own cc nL rt p s m args meth c) {ci i k idx N j : Nat} {C : String} {T : u_T} {fs : List Nat} (hk : O.1[k]? = some (.inl (ci, fs))) (hc : rx_cl[ci]? = some (C, T, N)) (ht : fs[i]? = some (j + 3)) (hi : i < N) (hw : ∀ w ∈ u_ws C T N, w ∈ rx_tbl) (hlk : Cond.fieldLink own idx (T i).1 (T i).2.1 (T i).2.2.1 ∈ rx_tbl) (hd : rx_D cc pc (.getfield idx) 3 pc2) (kk : rx_J O nL p l e R s m args below meth c Q pc2 lo (.ref j :: st) σ) : rx_J O nL p l e R s m args below meth c Q pc lo (.ref k :: st) σ := rx_get X hk hc ht hi hw hlk hd rfl kk
theorem rx_fs_put {fs : List Nat} {i t : Nat} (h : fs[i]? = some t) (ad : Nat → Nat) {σ σ' : rx_S} {k : Nat} {v : Value} (hv : rx_f ad σ' k i t = v) (ho : ∀ j t', j ≠ i → rx_f ad σ' k j t' = rx_f ad σ k j t') :
    ((List.range fs.length).map (fun i => rx_f ad σ k i (fs.getD i 0))).set i v = (List.range fs.length).map (fun i => rx_f ad σ' k i (fs.getD i 0)) := by
  have hl := (List.getElem?_eq_some_iff.mp h).1
  apply List.ext_getElem?
  intro j
  by_cases hj : j = i
  · subst hj
    rw [List.getElem?_set_self (by simpa using hl), List.getElem?_map, List.getElem?_range hl, Option.map_some, List.getD_eq_getElem?_getD, h, ← hv]
    rfl
  · rw [List.getElem?_set_ne (Ne.symm hj), List.getElem?_map, List.getElem?_map]
    cases hr : (List.range fs.length)[j]? with
    | none => rfl
    | some a =>
      have ha : a = j := by
        have h1 := (List.getElem?_eq_some_iff.mp hr).1
        rw [List.getElem?_range (by simpa using h1)] at hr
        exact (Option.some.inj hr).symm
      subst ha
      rw [Option.map_some, Option.map_some, ho _ _ hj]
theorem rx_f_u {ad : Nat → Nat} {σ : rx_S} {k i j t : Nat} {v : Int32} (h : j ≠ i) : rx_f ad (rx_u σ k i v) k j t = rx_f ad σ k j t := by
  have h1 : (rx_u σ k i v).1 k j = σ.1 k j := by rw [rx_u_s]; exact if_neg h
  unfold rx_f
  rw [h1]
  rfl
theorem rx_f_uL {ad : Nat → Nat} {σ : rx_S} {k i j t : Nat} {v : Int64} (h : j ≠ i) : rx_f ad (rx_uL σ k i v) k j t = rx_f ad σ k j t := by
  have h1 : (rx_uL σ k i v).2 k j = σ.2 k j := by rw [rx_uL_s]; exact if_neg h
  unfold rx_f
  rw [h1]
  rfl
theorem rx_put (X : rx_G O own cc nL rt p s m args meth c) {ci i k idx N t : Nat} {C : String} {T : u_T} {fs : List Nat} {ty : FieldType} {v : Value} {σ' : rx_S} (hk : O.1[k]? = some (.inl (ci, fs))) (hc : rx_cl[ci]? = some (C, T, N)) (ht : fs[i]? = some t) (hi : i < N) (hw : ∀ w ∈ u_ws C T N, w ∈ rx_tbl) (ty0 : Nat → FieldType) (hty : ∀ k, k < N → parseFieldDescriptor (T k).2.2.1 = some (ty0 k)) (hnm : ∀ a, a < N → ∀ b, b < N → a ≠ b → (T a).2.1 ≠ (T b).2.1) (hlk : Cond.fieldLink own idx (T i).1 (T i).2.1 (T i).2.2.1 ∈ rx_tbl) (hfin : (T i).2.2.2 = false) (hty1 : ty0 i = ty) (hn : narrow ty (rx_t O.2.1 v) = rx_t O.2.1 v) (hfit : fits ty (rx_t O.2.1 v) = true)
    (h1 : ∀ j, j ≠ k → σ'.1 j = σ.1 j) (h2 : ∀ j, j ≠ k → σ'.2 j = σ.2 j) (hv : rx_f O.2.1 σ' k i t = rx_t O.2.1 v) (ho : ∀ j t', j ≠ i → rx_f O.2.1 σ' k j t' = rx_f O.2.1 σ k j t') (hd : rx_D cc pc (.putfield idx) 3 pc2) (kk : rx_J O nL p l e R s m args below meth c Q pc2 lo (st) σ') : rx_J O nL p l e R s m args below meth c Q pc lo (v :: .ref k :: st) σ := by
  obtain ⟨hd, rfl⟩ := hd
  intro H locs ls hP hS hl
  have hl2 := (List.getElem?_eq_some_iff.mp ht).1
  refine va_put (D := O.2.2.1) (cl := rx_cl) (ci := ci) (ty := ty) X.1 X.2.1 X.2.2.2.2.1 hw ty0 hty hnm X.2.2.2.1 X.2.2.2.2.2.1 hP (rx_w_D X.2.2.2.2.2.2.1 σ) hS k (rx_w_at hk σ) hc i hi (X.2.2.2.2.1 _ hlk) (fun _ h => h) hfin (by rw [hty i hi, hty1]) hn hfit (by simpa using hl2) hd (fun H1 locs1 hP1 _ hS1 => ?_)
  have e : (rx_w O σ).set k (O.2.1 k, .inr (ci, ((List.range fs.length).map (fun i => rx_f O.2.1 σ k i (fs.getD i 0))).set i (rx_t O.2.1 v))) = rx_w O σ' := by
    rw [rx_fs_put ht O.2.1 hv ho]
    exact rx_w_set hk h1 h2
  rw [e] at hP1
  exact kk H1 locs1 ls hP1 hS1 hl
theorem rx_putI (X : rx_G O own cc nL rt p s m args meth c) {ci i k idx N : Nat} {C : String} {T : u_T} {fs : List Nat} {v : Int32} (hk : O.1[k]? = some (.inl (ci, fs))) (hc : rx_cl[ci]? = some (C, T, N)) (ht : fs[i]? = some 0) (hi : i < N) (hw : ∀ w ∈ u_ws C T N, w ∈ rx_tbl) (ty0 : Nat → FieldType) (hty : ∀ k, k < N → parseFieldDescriptor (T k).2.2.1 = some (ty0 k)) (hnm : ∀ a, a < N → ∀ b, b < N → a ≠ b → (T a).2.1 ≠ (T b).2.1) (hlk : Cond.fieldLink own idx (T i).1 (T i).2.1 (T i).2.2.1 ∈ rx_tbl) (hfin : (T i).2.2.2 = false) (hty1 : ty0 i = .int) (hd : rx_D cc pc (.putfield idx) 3 pc2) (kk : rx_J O nL p l e R s m args below meth c Q pc2 lo (st) (rx_u σ k i v)) : rx_J O nL p l e R s m args below meth c Q pc lo (.int v :: .ref k :: st) σ :=
  rx_put X hk hc ht hi hw ty0 hty hnm hlk hfin hty1 rfl rfl (fun j h => rx_u_ne h) (fun j _ => rfl) (by show Value.int ((rx_u σ k i v).1 k i) = Value.int v; rw [rx_u_s]; simp [upd]) (fun j t' h => rx_f_u h) hd kk
theorem rx_putZ (X : rx_G O own cc nL rt p s m args meth c) {ci i k idx N : Nat} {C : String} {T : u_T} {fs : List Nat} {v : Int32} (hk : O.1[k]? = some (.inl (ci, fs))) (hc : rx_cl[ci]? = some (C, T, N)) (ht : fs[i]? = some 1) (hi : i < N) (hw : ∀ w ∈ u_ws C T N, w ∈ rx_tbl) (ty0 : Nat → FieldType) (hty : ∀ k, k < N → parseFieldDescriptor (T k).2.2.1 = some (ty0 k)) (hnm : ∀ a, a < N → ∀ b, b < N → a ≠ b → (T a).2.1 ≠ (T b).2.1) (hlk : Cond.fieldLink own idx (T i).1 (T i).2.1 (T i).2.2.1 ∈ rx_tbl) (hfin : (T i).2.2.2 = false) (hty1 : ty0 i = .boolean) (hn : narrow .boolean (.int v) = .int v) (hfi : fits .boolean (.int v) = true) (hd : rx_D cc pc (.putfield idx) 3 pc2) (kk : rx_J O nL p l e R s m args below meth c Q pc2 lo (st) (rx_u σ k i v)) : rx_J O nL p l e R s m args below meth c Q pc lo (.int v :: .ref k :: st) σ :=
  rx_put X hk hc ht hi hw ty0 hty hnm hlk hfin hty1 hn hfi (fun j h => rx_u_ne h) (fun j _ => rfl) (by show Value.int ((rx_u σ k i v).1 k i) = Value.int v; rw [rx_u_s]; simp [upd]) (fun j t' h => rx_f_u h) hd kk
theorem rx_putL (X : rx_G O own cc nL rt p s m args meth c) {ci i k idx N : Nat} {C : String} {T : u_T} {fs : List Nat} {v : Int64} (hk : O.1[k]? = some (.inl (ci, fs))) (hc : rx_cl[ci]? = some (C, T, N)) (ht : fs[i]? = some 2) (hi : i < N) (hw : ∀ w ∈ u_ws C T N, w ∈ rx_tbl) (ty0 : Nat → FieldType) (hty : ∀ k, k < N → parseFieldDescriptor (T k).2.2.1 = some (ty0 k)) (hnm : ∀ a, a < N → ∀ b, b < N → a ≠ b → (T a).2.1 ≠ (T b).2.1) (hlk : Cond.fieldLink own idx (T i).1 (T i).2.1 (T i).2.2.1 ∈ rx_tbl) (hfin : (T i).2.2.2 = false) (hty1 : ty0 i = .long) (hd : rx_D cc pc (.putfield idx) 3 pc2) (kk : rx_J O nL p l e R s m args below meth c Q pc2 lo (st) (rx_uL σ k i v)) : rx_J O nL p l e R s m args below meth c Q pc lo (.long v :: .ref k :: st) σ :=
  rx_put (σ' := rx_uL σ k i v) X hk hc ht hi hw ty0 hty hnm hlk hfin hty1 rfl rfl (fun j _ => rfl) (fun j h => rx_uL_ne h) (by show Value.long ((rx_uL σ k i v).2 k i) = Value.long v; rw [rx_uL_s]; simp [vp_updL]) (fun j t' h => rx_f_uL h) hd kk
/-! arrays -/
theorem rx_iald (X : rx_G O own cc nL rt p s m args meth c) {k t0 n : Nat} {cA : ClassId} {i : Int32} (hk : O.1[k]? = some (.inr (t0, n, none))) (ht : O.2.2.2.1[t0]? = some (cA, .int)) (hin : vp_in i n) (hd : rx_D cc pc .iaload 1 pc2) (kk : rx_J O nL p l e R s m args below meth c Q pc2 lo (.int (σ.1 k i.toNatClampNeg) :: st) σ) : rx_J O nL p l e R s m args below meth c Q pc lo (.int i :: .ref k :: st) σ := by
  obtain ⟨hd, rfl⟩ := hd
  intro H locs ls hP hS hl
  exact va_iald (D := O.2.2.1) (cl := rx_cl) X.1 X.2.1 X.2.2.2.2.2.1 hP k t0 (cA := cA) (n := n) (f := σ.1 k) (by rw [rx_w_at hk, rx_e, rx_cA_at ht]) ht hin hd (kk H locs ls hP hS hl)
theorem rx_zald (X : rx_G O own cc nL rt p s m args meth c) {k t0 n : Nat} {cA : ClassId} {i : Int32} (hk : O.1[k]? = some (.inr (t0, n, none))) (ht : O.2.2.2.1[t0]? = some (cA, .boolean)) (hin : vp_in i n) (hd : rx_D cc pc .baload 1 pc2) (kk : rx_J O nL p l e R s m args below meth c Q pc2 lo (.int (σ.1 k i.toNatClampNeg) :: st) σ) : rx_J O nL p l e R s m args below meth c Q pc lo (.int i :: .ref k :: st) σ := by
  obtain ⟨hd, rfl⟩ := hd
  intro H locs ls hP hS hl
  exact va_zald (D := O.2.2.1) (cl := rx_cl) X.1 X.2.1 X.2.2.2.2.2.1 hP k t0 (cA := cA) (n := n) (f := σ.1 k) (by rw [rx_w_at hk, rx_e, rx_cA_at ht]) ht hin hd (kk H locs ls hP hS hl)
theorem rx_aald (X : rx_G O own cc nL rt p s m args meth c) {k t0 n j : Nat} {cA : ClassId} {C : String} {i : Int32} {rs : List Nat} (hk : O.1[k]? = some (.inr (t0, n, some rs))) (ht : O.2.2.2.1[t0]? = some (cA, .object C)) (hin : vp_in i n) (hj : rs[i.toNatClampNeg]? = some j) (hd : rx_D cc pc .aaload 1 pc2) (kk : rx_J O nL p l e R s m args below meth c Q pc2 lo (.ref j :: st) σ) : rx_J O nL p l e R s m args below meth c Q pc lo (.int i :: .ref k :: st) σ := by
  obtain ⟨hd, rfl⟩ := hd
  intro H locs ls hP hS hl
  refine va_aldq (D := O.2.2.1) (cl := rx_cl) X.1 X.2.1 X.2.2.2.2.2.1 hP k t0 (cA := cA) (C := C) (n := n) (f := fun i => rs[i]?.map O.2.1) (by rw [rx_w_at hk, rx_e, rx_cA_at ht]) ht hin hd ?_
  rw [hj]
  exact kk H locs ls hP hS hl
theorem rx_iast (X : rx_G O own cc nL rt p s m args meth c) {k t0 n : Nat} {cA : ClassId} {i v : Int32} (hk : O.1[k]? = some (.inr (t0, n, none))) (ht : O.2.2.2.1[t0]? = some (cA, .int)) (hin : vp_in i n) (hd : rx_D cc pc .iastore 1 pc2) (kk : rx_J O nL p l e R s m args below meth c Q pc2 lo (st) (rx_u σ k i.toNatClampNeg v)) : rx_J O nL p l e R s m args below meth c Q pc lo (.int v :: .int i :: .ref k :: st) σ := by
  obtain ⟨hd, rfl⟩ := hd
  intro H locs ls hP hS hl
  refine va_iast (D := O.2.2.1) (cl := rx_cl) X.1 X.2.1 X.2.2.2.2.2.1 hP (rx_w_D X.2.2.2.2.2.2.1 σ) hS k t0 (cA := cA) (n := n) (f := σ.1 k) (by rw [rx_w_at hk, rx_e, rx_cA_at ht]) ht hin hd (fun H1 locs1 hP1 _ hS1 => ?_)
  have e : (rx_w O σ).set k (O.2.1 k, .inl (cA, n, .inl (upd (σ.1 k) i.toNatClampNeg v))) = rx_w O (rx_u σ k i.toNatClampNeg v) := by
    rw [← rx_w_set (σ := σ) (σ' := rx_u σ k i.toNatClampNeg v) hk (fun j h => rx_u_ne h) (fun j _ => rfl), rx_e, rx_u_s, rx_cA_at ht]
  rw [e] at hP1
  exact kk H1 locs1 ls hP1 hS1 hl
theorem rx_zast (X : rx_G O own cc nL rt p s m args meth c) {k t0 n : Nat} {cA : ClassId} {i v : Int32} (hk : O.1[k]? = some (.inr (t0, n, none))) (ht : O.2.2.2.1[t0]? = some (cA, .boolean)) (hin : vp_in i n) (hv : vp_nar .boolean v = v) (hd : rx_D cc pc .bastore 1 pc2) (kk : rx_J O nL p l e R s m args below meth c Q pc2 lo (st) (rx_u σ k i.toNatClampNeg v)) : rx_J O nL p l e R s m args below meth c Q pc lo (.int v :: .int i :: .ref k :: st) σ := by
  obtain ⟨hd, rfl⟩ := hd
  intro H locs ls hP hS hl
  refine va_zast (D := O.2.2.1) (cl := rx_cl) X.1 X.2.1 X.2.2.2.2.2.1 hP (rx_w_D X.2.2.2.2.2.2.1 σ) hS k t0 (cA := cA) (n := n) (f := σ.1 k) (by rw [rx_w_at hk, rx_e, rx_cA_at ht]) ht hin hd (fun H1 locs1 hP1 _ hS1 => ?_)
  rw [hv] at hP1
  have e : (rx_w O σ).set k (O.2.1 k, .inl (cA, n, .inl (upd (σ.1 k) i.toNatClampNeg v))) = rx_w O (rx_u σ k i.toNatClampNeg v) := by
    rw [← rx_w_set (σ := σ) (σ' := rx_u σ k i.toNatClampNeg v) hk (fun j h => rx_u_ne h) (fun j _ => rfl), rx_e, rx_u_s, rx_cA_at ht]
  rw [e] at hP1
  exact kk H1 locs1 ls hP1 hS1 hl
theorem rx_ialdN (X : rx_G O own cc nL rt p s m args meth c) {k t0 n j : Nat} {cA : ClassId} {i : Int32} (hk : O.1[k]? = some (.inr (t0, n, none))) (ht : O.2.2.2.1[t0]? = some (cA, .int)) (hi : i = nI j) (hj : j < n) (hn : n < 2147483648) (hd : rx_D cc pc .iaload 1 pc2) (kk : rx_J O nL p l e R s m args below meth c Q pc2 lo (.int (σ.1 k j) :: st) σ) : rx_J O nL p l e R s m args below meth c Q pc lo (.int i :: .ref k :: st) σ := by
  subst hi
  exact rx_iald X hk ht (vp_in_nI hj hn) hd (by rw [nI_clamp (Nat.lt_trans hj hn)]; exact kk)
theorem rx_zaldN (X : rx_G O own cc nL rt p s m args meth c) {k t0 n j : Nat} {cA : ClassId} {i : Int32} (hk : O.1[k]? = some (.inr (t0, n, none))) (ht : O.2.2.2.1[t0]? = some (cA, .boolean)) (hi : i = nI j) (hj : j < n) (hn : n < 2147483648) (hd : rx_D cc pc .baload 1 pc2) (kk : rx_J O nL p l e R s m args below meth c Q pc2 lo (.int (σ.1 k j) :: st) σ) : rx_J O nL p l e R s m args below meth c Q pc lo (.int i :: .ref k :: st) σ := by
  subst hi
  exact rx_zald X hk ht (vp_in_nI hj hn) hd (by rw [nI_clamp (Nat.lt_trans hj hn)]; exact kk)
theorem rx_aaldN (X : rx_G O own cc nL rt p s m args meth c) {k t0 n j q : Nat} {cA : ClassId} {C : String} {i : Int32} {rs : List Nat} (hk : O.1[k]? = some (.inr (t0, n, some rs))) (ht : O.2.2.2.1[t0]? = some (cA, .object C)) (hi : i = nI j) (hj : j < n) (hn : n < 2147483648) (hq : rs[j]? = some q) (hd : rx_D cc pc .aaload 1 pc2) (kk : rx_J O nL p l e R s m args below meth c Q pc2 lo (.ref q :: st) σ) : rx_J O nL p l e R s m args below meth c Q pc lo (.int i :: .ref k :: st) σ := by
  subst hi
  exact rx_aald X hk ht (vp_in_nI hj hn) (by rw [nI_clamp (Nat.lt_trans hj hn)]; exact hq) hd kk
theorem rx_iastN (X : rx_G O own cc nL rt p s m args meth c) {k t0 n j : Nat} {cA : ClassId} {i v : Int32} (hk : O.1[k]? = some (.inr (t0, n, none))) (ht : O.2.2.2.1[t0]? = some (cA, .int)) (hi : i = nI j) (hj : j < n) (hn : n < 2147483648) (hd : rx_D cc pc .iastore 1 pc2) (kk : rx_J O nL p l e R s m args below meth c Q pc2 lo (st) (rx_u σ k j v)) : rx_J O nL p l e R s m args below meth c Q pc lo (.int v :: .int i :: .ref k :: st) σ := by
  subst hi
  exact rx_iast X hk ht (vp_in_nI hj hn) hd (by rw [nI_clamp (Nat.lt_trans hj hn)]; exact kk)
theorem rx_zastN (X : rx_G O own cc nL rt p s m args meth c) {k t0 n j : Nat} {cA : ClassId} {i v : Int32} (hk : O.1[k]? = some (.inr (t0, n, none))) (ht : O.2.2.2.1[t0]? = some (cA, .boolean)) (hi : i = nI j) (hj : j < n) (hn : n < 2147483648) (hv : vp_nar .boolean v = v) (hd : rx_D cc pc .bastore 1 pc2) (kk : rx_J O nL p l e R s m args below meth c Q pc2 lo (st) (rx_u σ k j v)) : rx_J O nL p l e R s m args below meth c Q pc lo (.int v :: .int i :: .ref k :: st) σ := by
  subst hi
  exact rx_zast X hk ht (vp_in_nI hj hn) hv hd (by rw [nI_clamp (Nat.lt_trans hj hn)]; exact kk)
end RXR
