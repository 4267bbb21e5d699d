/-! ===== nx: constructors. What is made lies in a row, cell behind cell, from the address b on ===== -/
/-- words of the tables that are not handed on by themselves: arrays over classes, the private constructor of Ant -/
def nx_AA (U : State) : Prop := (Cond.arrayOver (.array .int)).before #[] U = true
theorem nx_AA.moved {u U : State} (hvm : u.vm.Alike U.vm) (h : nx_AA u) : nx_AA U := by
  obtain ⟨comp, c, k, h1, h2, h3, h4, h5⟩ := arrayOverA_spec (t := .int) h
  obtain ⟨k', hk', he⟩ := hvm.2.2 _ _ h3
  have hi : (U.vm.classes.findIdx? fun (x : Class) => match x.kind with | .array component _ => component == comp | _ => false) = some c := by
    rw [hvm.findIdx?_eq _ (fun _ => rfl)]
    exact h2
  have hkind : k'.kind = .array comp (.array .int) := by rw [he]; exact h4
  have f1 : U.vm.findClass (FieldType.array .int).toString = some comp := by rw [hvm.findClass]; exact h1
  have f2 : U.vm.findClass ("[" ++ (FieldType.array .int).toString) = some c := by rw [hvm.findClass]; exact h5
  unfold nx_AA Cond.before Cond.holds
  simp only [Cond.value]
  rw [f1, Option.bind_some]
  refine (congrArg (fun o : Option Nat => (o.bind (fun c => (U.vm.classes[c]?).map fun (k : Class) => match k.kind with | .array _ ty => decide (ty = FieldType.array .int) && decide (U.vm.findClass ("[" ++ (FieldType.array .int).toString) = some c) | _ => false) == some true)) hi).trans ?_
  simp [hk', hkind, f2]
def nx_E (U : State) : Prop := va_AO "AntBand$Ant" U ∧ va_AO "AntBand$Band" U ∧ nx_AA U ∧ va_Nw (.methodLinkNest RX3 19 yX1_init "AntBand") U
theorem nx_E.warm {s U : State} (hW : s.WarmedH U.vm) (h : nx_E s) : nx_E U := ⟨va_AO.moved hW.alike h.1, va_AO.moved hW.alike h.2.1, nx_AA.moved hW.alike h.2.2.1, va_Nw.warmM hW h.2.2.2⟩
theorem nx_E.same {s U : State} (hW : s.vm = U.vm) (h : nx_E s) : nx_E U := ⟨va_AO.moved (hW ▸ Vm.Alike.refl s.vm) h.1, va_AO.moved (hW ▸ Vm.Alike.refl s.vm) h.2.1, nx_AA.moved (hW ▸ Vm.Alike.refl s.vm) h.2.2.1, va_Nw.same rfl hW h.2.2.2⟩
/-- the heap ends with the cells es, the first of them at b -/
def nx_H (O : rx_O) (b : Nat) (es : List va_E) (H : Heap) : Prop := H.size = b + es.length ∧ ∀ (k : Nat) (x : va_E), es[k]? = some x → va_at O.2.2.1 rx_cl (b + k, x) H
theorem nx_one {D : va_G} {q : Nat × va_E} {H : Heap} (h : va_at D rx_cl q H) : va_P D rx_cl [q] H := by
  intro k x hx
  have hz : k < 1 := (List.getElem?_eq_some_iff.mp hx).1
  rw [show k = 0 by omega] at hx
  cases hx
  exact h
theorem nx_H.set {O : rx_O} {b k : Nat} {es : List va_E} {H H1 : Heap} {x : va_E} (h : nx_H O b es H) (hz : H1.size = H.size) (ho : ∀ q : Nat, q ≠ b + k → H1[q]? = H[q]?) (hx : va_at O.2.2.1 rx_cl (b + k, x) H1) : nx_H O b (es.set k x) H1 := by
  refine ⟨by rw [hz, h.1, List.length_set], fun j y hy => ?_⟩
  by_cases hj : j = k
  · subst hj
    have hl : j < es.length := by
      have := (List.getElem?_eq_some_iff.mp hy).1
      rw [List.length_set] at this
      exact this
    rw [List.getElem?_set_self hl] at hy
    cases hy
    exact hx
  · rw [List.getElem?_set_ne (Ne.symm hj)] at hy
    exact (h.2 j y hy).kept (ho _ (by show b + j ≠ b + k; omega))
theorem nx_H.app {O : rx_O} {b : Nat} {es fs : List va_E} {H H1 : Heap} (h : ∀ (k : Nat) (x : va_E), es[k]? = some x → va_at O.2.2.1 rx_cl (b + k, x) H) (ho : ∀ q : Nat, q < b + es.length → H1[q]? = H[q]?) (h1 : nx_H O (b + es.length) fs H1) : nx_H O b (es ++ fs) H1 := by
  refine ⟨by rw [h1.1, List.length_append]; omega, fun j y hy => ?_⟩
  by_cases hj : j < es.length
  · rw [List.getElem?_append_left hj] at hy
    exact (h j y hy).kept (ho _ (by show b + j < b + es.length; omega))
  · rw [List.getElem?_append_right (by omega)] at hy
    have := h1.2 _ y hy
    rw [show b + es.length + (j - es.length) = b + j by omega] at this
    exact this
theorem nx_H.one {O : rx_O} {b : Nat} {x : va_E} {H : Heap} (hz : H.size = b + 1) (h : va_at O.2.2.1 rx_cl (b, x) H) : nx_H O b [x] H := by
  refine ⟨hz, fun k y hy => ?_⟩
  have hk : k < 1 := (List.getElem?_eq_some_iff.mp hy).1
  rw [show k = 0 by omega] at hy
  cases hy
  rw [show k = 0 by omega]
  exact h
theorem nx_H.left {O : rx_O} {b : Nat} {es fs : List va_E} {H : Heap} (h : nx_H O b (es ++ fs) H) : ∀ (k : Nat) (x : va_E), es[k]? = some x → va_at O.2.2.1 rx_cl (b + k, x) H := fun k x hx => h.2 k x (by rw [List.getElem?_append_left (List.getElem?_eq_some_iff.mp hx).1]; exact hx)
/-- what a constructor's walk stands on -/
def nx_G (O : rx_O) (own : String) (cc : ByteArray) (nL : Nat) (p : Program) (s : State) (m : MethodId) (args : Array Value) (c : Code) : Prop :=
  p.tables.exec = Jvm.exec ∧ c.code = cc ∧ c.maxLocals = nL ∧ s.vm.findClass own = some m.cls ∧ (∀ w ∈ rx_tbl, w.before args s = true) ∧ va_K O.2.2.1 rx_cl O.2.2.2.1 s ∧ nx_E s
def nJ (O : rx_O) (nL : Nat) (p : Program) (l : Launch) (e : Env) (R : Room) (s : State) (m : MethodId) (args : Array Value) (below : List Frame) (meth : Method) (c : Code) (Q : State → Prop) (b pc : Nat) (lo : List (Nat × Value)) (st : List Value) (es : List va_E) (cn sn : Nat) : Prop :=
  ∀ (H : Heap) (locs : List Loc) (ls : Array Slot), nx_H O b es H → va_S (fun q => b ≤ q) s.heap H locs → lv_has ls nL lo → W p l e R s m args below meth c H locs cn sn Q (F0 m pc ls st)
def nx_rm (n mc ms : Nat) : Room := { frames := n, cells := mc, slots := ms, locals := 60 * n }
def nx_Pc (O : rx_O) (b : Nat) (ob : va_E) : Array Value → State → Prop := va_Pc [.ref b] (fun U => U.heap.size = b + 1 ∧ va_at O.2.2.1 rx_cl (b, ob) U.heap ∧ va_K O.2.2.1 rx_cl O.2.2.2.1 U ∧ nx_E U)
def nx_Q (O : rx_O) (b : Nat) (es : List va_E) : Array Value → State → Outcome → State → Prop := va_Qv (fun _ : Unit => True) (fun _ t => nx_H O b es t.heap) (fun q => b ≤ q)
/-- a constructor's contract: its object at b, the heap's last cell; behind it the cells es from b on -/
def nM (l : Launch) (O : rx_O) (y : MethodName) (bytes : ByteArray) (maxL n b : Nat) (ob : va_E) (es : List va_E) (mc ms : Nat) : Prop := Met l y (rx_ws y bytes maxL none) (nx_rm n mc ms) (nx_Pc O b ob) (nx_Q O b es) mc ms (fun q => b ≤ q)
theorem nx_blind (O : rx_O) (b : Nat) (ob : va_E) : FrameBlind (nx_Pc O b ob) := by
  intro a U g mk q
  obtain ⟨q0, q1, q2, q3, q4⟩ := q
  exact ⟨q0, q1, q2, va_K.moved (u := U) (U := U.calling g mk a) (Vm.Alike.refl U.vm) q3, nx_E.same (s := U) (U := U.calling g mk a) rfl q4⟩
theorem nx_Met_of {l : Launch} {O : rx_O} {y : MethodName} {bytes : ByteArray} {maxL n b mc ms : Nat} {ob : va_E} {es : List va_E} {own : String} (hown : y.cls = own) (hname : y.name = "<init>") (hy : plainName y.cls = true) (hm : 1 ≤ maxL)
    (body : ∀ p e s m args below meth c, nx_G O own bytes maxL p s m args c → meth.name = "<init>" → meth.locks = false → meth.sig.returnType = none → nJ O maxL p l e (nx_rm n mc ms) s m args below meth c (MQ below (nx_Q O b es) args s mc ms (fun q => b ≤ q)) b 0 [(0, .ref b)] [] [ob] 0 0) : nM l O y bytes maxL n b ob es mc ms := by
  subst hown
  refine Met.ofW (cc := bytes) (maxL := maxL) (ret := none) hy rfl ?_
  intro p e s m args below meth c s₁ B hml hv
  obtain ⟨rfl, hz, hP, hK, hE⟩ := hv
  have hts : ∀ w ∈ rx_tbl, w.before ([.ref b] : List Value).toArray s = true := fun w hw => atoms_spec (ws := rx_ws y bytes maxL none) B.pre w (List.mem_cons_of_mem _ hw)
  have hl := lv_entry ([.ref b]) (n := maxL) hm
  rw [lg_entry_eq]
  exact body p e s m _ below meth c ⟨B.exec, B.bytes, hml, findClass_of_methodNamed B.named, hts, hK, hE⟩ (by rw [(name_of_methodNamed B.named B.method).1, hname]) B.notSynchronized B.returns s.heap [] _ (nx_H.one hz hP) va_S.rf hl
section NXR
variable {O : rx_O} {own : String} {cc : ByteArray} {nL : Nat} {p : Program} {l : Launch} {e : Env} {R : Room} {s : State} {m : MethodId} {args : Array Value} {below : List Frame} {meth : Method} {c : Code} {Q : State → Prop} {b pc pc2 tgt cn sn : Nat} {lo lo2 : List (Nat × Value)} {st : List Value} {es : List va_E}
theorem nx_ald (X : nx_G O own cc nL p s m args c) {k0 : Fin 4} {x : Nat} (hd : rx_D cc pc (.aload_n k0) 1 pc2) (hx : ((k0 : Nat), Value.ref x) ∈ lo) (kk : nJ O nL p l e R s m args below meth c Q b pc2 lo (.ref x :: st) es cn sn) : nJ O nL p l e R s m args below meth c Q b pc lo st es cn sn := by
  obtain ⟨hd, rfl⟩ := hd
  exact fun H locs ls hP hS hl => lv_aload_n X.1 X.2.1 hd rfl (hl.2.2 _ hx) (kk H locs ls hP hS hl)
theorem nx_ild (X : nx_G O own cc nL p s m args c) {k0 : Fin 4} {x : Int32} (hd : rx_D cc pc (.iload_n k0) 1 pc2) (hx : ((k0 : Nat), Value.int x) ∈ lo) (kk : nJ O nL p l e R s m args below meth c Q b pc2 lo (.int x :: st) es cn sn) : nJ O nL p l e R s m args below meth c Q b pc lo st es cn sn := by
  obtain ⟨hd, rfl⟩ := hd
  exact fun H locs ls hP hS hl => lv_iload_n X.1 X.2.1 hd rfl (hl.2.2 _ hx) (kk H locs ls hP hS hl)
theorem nx_ic (X : nx_G O own cc nL p s m args c) {n : Int} {v : Int32} (hd : rx_D cc pc (.iconst n) 1 pc2) (hv : Int32.ofInt n = v) (kk : nJ O nL p l e R s m args below meth c Q b pc2 lo (.int v :: st) es cn sn) : nJ O nL p l e R s m args below meth c Q b pc lo st es cn sn := by
  obtain ⟨hd, rfl⟩ := hd
  exact fun H locs ls hP hS hl => lv_iconst X.1 X.2.1 hd hv (kk H locs ls hP hS hl)
theorem nx_bp (X : nx_G O own cc nL p s m args c) {n : Int} {v : Int32} (hd : rx_D cc pc (.bipush n) 2 pc2) (hv : (Int8.ofInt n).toInt32 = v) (kk : nJ O nL p l e R s m args below meth c Q b pc2 lo (.int v :: st) es cn sn) : nJ O nL p l e R s m args below meth c Q b pc lo st es cn sn := by
  obtain ⟨hd, rfl⟩ := hd
  exact fun H locs ls hP hS hl => lv_bipush X.1 X.2.1 hd hv (kk H locs ls hP hS hl)
theorem nx_sp (X : nx_G O own cc nL p s m args c) {n : Int} {v : Int32} (hd : rx_D cc pc (.sipush n) 3 pc2) (hv : (Int16.ofInt n).toInt32 = v) (kk : nJ O nL p l e R s m args below meth c Q b pc2 lo (.int v :: st) es cn sn) : nJ O nL p l e R s m args below meth c Q b pc lo st es cn sn := by
  obtain ⟨hd, rfl⟩ := hd
  exact fun H locs ls hP hS hl => lv_sipush X.1 X.2.1 hd hv (kk H locs ls hP hS hl)
theorem nx_dup (X : nx_G O own cc nL p s m args c) {v : Value} (hd : rx_D cc pc .dup 1 pc2) (hv : v.category = 1) (kk : nJ O nL p l e R s m args below meth c Q b pc2 lo (v :: v :: st) es cn sn) : nJ O nL p l e R s m args below meth c Q b pc lo (v :: st) es cn sn := by
  obtain ⟨hd, rfl⟩ := hd
  exact fun H locs ls hP hS hl => lv_dup X.1 X.2.1 hd hv (kk H locs ls hP hS hl)
theorem nx_ist (X : nx_G O own cc nL p s m args c) {k0 : Fin 4} {i : Nat} {x : Int32} (hd : rx_D cc pc (.istore_n k0) 1 pc2) (hi : (k0 : Nat) = i) (hn : i < nL) (hl2 : (i, Value.int x) :: lo.filter (fun q => !(q.1 == i) && !(q.1 + 1 == i && q.2.category == 2)) = lo2) (kk : nJ O nL p l e R s m args below meth c Q b pc2 lo2 st es cn sn) : nJ O nL p l e R s m args below meth c Q b pc lo (.int x :: st) es cn sn := by
  obtain ⟨hd, rfl⟩ := hd
  exact fun H locs ls hP hS hl => lv_istore_n X.1 X.2.1 hd hi hl hn hl2 (fun ls2 h2 => kk H locs ls2 hP hS h2)
theorem nx_ast (X : nx_G O own cc nL p s m args c) {k0 : Fin 4} {i x : Nat} (hd : rx_D cc pc (.astore_n k0) 1 pc2) (hi : (k0 : Nat) = i) (hn : i < nL) (hl2 : (i, Value.ref x) :: lo.filter (fun q => !(q.1 == i) && !(q.1 + 1 == i && q.2.category == 2)) = lo2) (kk : nJ O nL p l e R s m args below meth c Q b pc2 lo2 st es cn sn) : nJ O nL p l e R s m args below meth c Q b pc lo (.ref x :: st) es cn sn := by
  obtain ⟨hd, rfl⟩ := hd
  exact fun H locs ls hP hS hl => lv_astore_n X.1 X.2.1 hd hi hl hn hl2 (fun ls2 h2 => kk H locs ls2 hP hS h2)
theorem nx_iinc (X : nx_G O own cc nL p s m args c) {i k : Nat} {n : Int} {x v : Int32} (hd : rx_D cc pc (.iinc i n) 3 pc2) (hk : lo[k]? = some (i, .int x)) (hv : x + Int32.ofInt n = v) (hn : i < nL) (hl2 : (i, Value.int v) :: lo.filter (fun q => !(q.1 == i) && !(q.1 + 1 == i && q.2.category == 2)) = lo2) (kk : nJ O nL p l e R s m args below meth c Q b pc2 lo2 st es cn sn) : nJ O nL p l e R s m args below meth c Q b pc lo st es cn sn := by
  obtain ⟨hd, rfl⟩ := hd
  exact fun H locs ls hP hS hl => lv_iinc X.1 X.2.1 hd hl hk hv hn hl2 (fun ls2 h2 => kk H locs ls2 hP hS h2)
theorem nx_ge (X : nx_G O own cc nL p s m args c) {x y : Int32} {off : Int} (hd : rx_B cc pc (.if_icmp .ge off) off pc2 tgt) (kt : y ≤ x → nJ O nL p l e R s m args below meth c Q b tgt lo st es cn sn) (kf : ¬ y ≤ x → nJ O nL p l e R s m args below meth c Q b pc2 lo st es cn sn) : nJ O nL p l e R s m args below meth c Q b pc lo (.int y :: .int x :: st) es cn sn := by
  obtain ⟨hd, rfl, ht⟩ := hd
  exact fun H locs ls hP hS hl => lv_icmp_ge X.1 X.2.1 hd ht (fun h => kt h H locs ls hP hS hl) (fun h => kf h H locs ls hP hS hl)
theorem nx_goto (X : nx_G O own cc nL p s m args c) {off : Int} (hd : rx_B cc pc (.goto off) off pc2 tgt) (kk : nJ O nL p l e R s m args below meth c Q b tgt lo st es cn sn) : nJ O nL p l e R s m args below meth c Q b pc lo st es cn sn := by
  obtain ⟨hd, -, ht⟩ := hd
  exact fun H locs ls hP hS hl => lv_goto X.1 X.2.1 hd ht (kk H locs ls hP hS hl)
theorem nx_obj {n mc ms idx a : Nat} (X : nx_G O own cc nL p s m args c) (hl1 : Cond.methodLink own idx objectInit ∈ rx_tbl) (h1 : Cond.instanceMethod objectInit ∈ rx_tbl) (h2 : Cond.code objectInit ⟨#[0xb1]⟩ 1 none ∈ rx_tbl) (hn : 1 ≤ n) (hd : rx_D cc pc (.invokespecial idx) 3 pc2) (hst : (st.map fun v => v.category).sum ≤ 8) (kk : nJ O nL p l e (nx_rm n mc ms) s m args below meth c Q b pc2 lo st es cn sn) : nJ O nL p l e (nx_rm n mc ms) s m args below meth c Q b pc lo (.ref a :: st) es cn sn := by
  obtain ⟨hd, rfl⟩ := hd
  have hts := X.2.2.2.2.1
  intro H locs ls hP hS hl
  refine W.objInit X.1 X.2.1 X.2.2.2.1 (hts _ hl1) (hts _ h1) (hts _ h2) rfl (by rw [X.2.2.1]; exact hl.1) rfl hd hn ?_ (kk H locs ls hP hS hl)
  have := lv_room (m := m) (pc := pc) (ls := ls) (rest := st) hst
  show _ + 12 ≤ 60 * n
  have h0 : 2 * (F0 m pc ls (.ref a :: st)).monitorRoom = 0 := rfl
  omega
/-- an array field, read -/
theorem nx_get (X : nx_G O own cc nL p s m args c) {C : String} {T : u_T} {N ci index k i a : Nat} {fs : List Value} {v : Value} (hw : ∀ w ∈ u_ws C T N, w ∈ rx_tbl) (hc : rx_cl[ci]? = some (C, T, N)) (he : es[k]? = some (.inr (ci, fs))) (ha : a = b + k) (hi : i < N) (hlk : Cond.fieldLink own index (T i).1 (T i).2.1 (T i).2.2.1 ∈ rx_tbl) (hv : fs[i]? = some v) (hd : rx_D cc pc (.getfield index) 3 pc2) (kk : nJ O nL p l e R s m args below meth c Q b pc2 lo (v :: st) es cn sn) : nJ O nL p l e R s m args below meth c Q b pc lo (.ref a :: st) es cn sn := by
  obtain ⟨hd, rfl⟩ := hd
  subst ha
  exact fun H locs ls hP hS hl => va_get (D := O.2.2.1) (cl := rx_cl) (ci := ci) X.1 X.2.1 X.2.2.2.2.1 hw X.2.2.2.1 X.2.2.2.2.2.1 (nx_one (hP.2 k _ he)) 0 rfl hc i hi (X.2.2.2.2.1 _ hlk) (fun _ h => h) hv hd (kk H locs ls hP hS hl)
/-- a final field, put in a constructor -/
theorem nx_putF (X : nx_G O own cc nL p s m args c) (hin2 : meth.name = "<init>") {C : String} {T : u_T} {N ci index k i a : Nat} {fs : List Value} {v : Value} (hw : ∀ w ∈ u_ws C T N, w ∈ rx_tbl) (ty0 : Nat → FieldType) (hty : ∀ k, k < N → parseFieldDescriptor (T k).2.2.1 = some (ty0 k)) (hnm : ∀ a, a < N → ∀ b, b < N → a ≠ b → (T a).2.1 ≠ (T b).2.1) (hc : rx_cl[ci]? = some (C, T, N)) (he : es[k]? = some (.inr (ci, fs))) (ha : a = b + k) (hi : i < N) (hlk : Cond.fieldLink own index (T i).1 (T i).2.1 (T i).2.2.1 ∈ rx_tbl) (hfin : (T i).2.2.2 = true) (hdecl : (T i).1 = own) (hn : narrow (ty0 i) v = v) (hfit : fits (ty0 i) v = true) (hl : i < fs.length) (hd : rx_D cc pc (.putfield index) 3 pc2) (kk : nJ O nL p l e R s m args below meth c Q b pc2 lo st (es.set k (.inr (ci, fs.set i v))) cn sn) : nJ O nL p l e R s m args below meth c Q b pc lo (v :: .ref a :: st) es cn sn := by
  obtain ⟨hd, rfl⟩ := hd
  subst ha
  obtain ⟨hx, hb, -, hown, hts, hK, -⟩ := X
  intro H locs ls hP hS hl0
  have hap := va_apart (own := own) hts hw ty0 hty hnm hK hc
  obtain ⟨r, h1, cell, q1, q2, q3, q4⟩ := hP.2 k _ he
  have hr : r = (C, T, N) := Option.some.inj (h1.symm.trans hc)
  subst hr
  obtain ⟨hSl, hfc, kC, hkC, hkind⟩ := hK.1 ci _ hc
  obtain ⟨cf, kf, fi, f, hf, hsl⟩ := hSl i hi
  have hlay := hts _ (hw _ (u_in_lay hi))
  unfold u_lay at hlay
  rw [if_pos hfin] at hlay
  have hst := (u_facts hfc hkC (u_lays hts hw hi) hf).1
  have hcf : m.cls = cf := by
    obtain ⟨_, _, c', _, _, _, -, -, hf', -, -, -, hown2, -⟩ := Cond.laysFinal_spec hlay
    have e1 : c' = cf := by
      have := hf.symm.trans hf'
      simp at this
      exact this.1.symm
    rw [hdecl] at hown2
    rw [← e1]
    exact Option.some.inj (hown.symm.trans hown2)
  have h6 := u_fits hfc hkC hkind (Or.inr hlay) hf (hty i hi) hn hfit
  refine W.putFinK hx hb hown (hts _ hlk) hf hst hcf hin2 (by rw [q2]; exact h6) q1 q3 (by rw [hsl]; exact k2_hasslot (q4 i hi)) rfl rfl hd fun H' e1 e2 e3 => ?_
  rw [hsl] at e1 ⊢
  exact kk H' _ ls (hP.set e2 e3 ⟨_, hc, t_OB.to (V := updV (vp_V fs) i v) ⟨_, e1, q2, q3, t_set q4 hap hi v⟩ (fun j _ => vp_updV_set hl v j)⟩) (hS.put e2 e3 (Nat.le_add_right b k)) hl0
/-- another field, put -/
theorem nx_putN (X : nx_G O own cc nL p s m args c) {C : String} {T : u_T} {N ci index k i a : Nat} {fs : List Value} {v : Value} (hw : ∀ w ∈ u_ws C T N, w ∈ rx_tbl) (ty0 : Nat → FieldType) (hty : ∀ k, k < N → parseFieldDescriptor (T k).2.2.1 = some (ty0 k)) (hnm : ∀ a, a < N → ∀ b, b < N → a ≠ b → (T a).2.1 ≠ (T b).2.1) (hc : rx_cl[ci]? = some (C, T, N)) (he : es[k]? = some (.inr (ci, fs))) (ha : a = b + k) (hi : i < N) (hlk : Cond.fieldLink own index (T i).1 (T i).2.1 (T i).2.2.1 ∈ rx_tbl) (hfin : (T i).2.2.2 = false) (hn : narrow (ty0 i) v = v) (hfit : fits (ty0 i) v = true) (hl : i < fs.length) (hd : rx_D cc pc (.putfield index) 3 pc2) (kk : nJ O nL p l e R s m args below meth c Q b pc2 lo st (es.set k (.inr (ci, fs.set i v))) cn sn) : nJ O nL p l e R s m args below meth c Q b pc lo (v :: .ref a :: st) es cn sn := by
  obtain ⟨hd, rfl⟩ := hd
  subst ha
  obtain ⟨hx, hb, -, hown, hts, hK, -⟩ := X
  intro H locs ls hP hS hl0
  have hap := va_apart (own := own) hts hw ty0 hty hnm hK hc
  obtain ⟨r, h1, cell, q1, q2, q3, q4⟩ := hP.2 k _ he
  have hr : r = (C, T, N) := Option.some.inj (h1.symm.trans hc)
  subst hr
  obtain ⟨hSl, hfc, kC, hkC, hkind⟩ := hK.1 ci _ hc
  obtain ⟨cf, kf, fi, f, hf, hsl⟩ := hSl i hi
  have hlay := hts _ (hw _ (u_in_lay hi))
  unfold u_lay at hlay
  rw [if_neg (by rw [hfin]; decide)] at hlay
  have hst := (u_facts hfc hkC (u_lays hts hw hi) hf).1
  have h6 := u_store hfc hkC hkind hlay hf (hty i hi) hn hfit
  refine W.putK hx hb (f := f) ⟨hown, hts _ hlk, ⟨_, _, _, hf⟩, hst⟩ (by rw [q2]; exact h6) q1 q3 (by rw [hsl]; exact k2_hasslot (q4 i hi)) rfl rfl hd fun H' e1 e2 e3 => ?_
  rw [hsl] at e1 ⊢
  exact kk H' _ ls (hP.set e2 e3 ⟨_, hc, t_OB.to (V := updV (vp_V fs) i v) ⟨_, e1, q2, q3, t_set q4 hap hi v⟩ (fun j _ => vp_updV_set hl v j)⟩) (hS.put e2 e3 (Nat.le_add_right b k)) hl0
/-- an int of a row, put -/
theorem nx_iast (X : nx_G O own cc nL p s m args c) {k t0 n a j : Nat} {cA : ClassId} {f : Nat → Int32} {i x : Int32} (he : es[k]? = some (.inl (cA, n, .inl f))) (ht : O.2.2.2.1[t0]? = some (cA, .int)) (ha : a = b + k) (hi : i = nI j) (hj : j < n) (hn : n < 2147483648) (hd : rx_D cc pc .iastore 1 pc2) (kk : nJ O nL p l e R s m args below meth c Q b pc2 lo st (es.set k (.inl (cA, n, .inl (upd f j x)))) cn sn) : nJ O nL p l e R s m args below meth c Q b pc lo (.int x :: .int i :: .ref a :: st) es cn sn := by
  obtain ⟨hd, rfl⟩ := hd
  subst ha
  subst hi
  intro H locs ls hP hS hl0
  have hcl : (nI j).toNatClampNeg = j := nI_clamp (Nat.lt_trans hj hn)
  have hin : vp_in (nI j) n := vp_in_nI hj hn
  refine W.iast X.1 X.2.1 (hP.2 k _ he) ((X.2.2.2.2.2.1.2 t0 _ ht).1 n (fun j => .int (f j))) (fun q => by cases q) (by show ¬ (nI j < 0 ∨ (arrV _ _ _).slots.size ≤ _); rw [arrV_size]; exact hin) rfl rfl hd fun H1 e1 z oq => ?_
  refine kk H1 _ ls (hP.set z oq ?_) (hS.put z oq (Nat.le_add_right b k)) hl0
  show H1[b + k]? = some (vp_cell _ _)
  rw [e1, vp_cell_i, vp_cell_i, arrV_store, hcl]
  congr 2
  funext q
  by_cases hq : q = j
  · subst hq
    simp [updV, upd]
  · simp [updV, upd, hq]
/-- an object of a row, put -/
theorem nx_aast (X : nx_G O own cc nL p s m args c) {k t0 n a j k2 ci v : Nat} {cA : ClassId} {f : Nat → Option Nat} {i : Int32} {vs : List Value} {r : vw_C} (he : es[k]? = some (.inl (cA, n, .inr (.inr (.inr (.inr f)))))) (ht : O.2.2.2.1[t0]? = some (cA, .object r.1)) (hv : es[k2]? = some (.inr (ci, vs))) (hc : rx_cl[ci]? = some r) (ha : a = b + k) (hv2 : v = b + k2) (hi : i = nI j) (hj : j < n) (hn : n < 2147483648) (hd : rx_D cc pc .aastore 1 pc2) (kk : nJ O nL p l e R s m args below meth c Q b pc2 lo st (es.set k (.inl (cA, n, .inr (.inr (.inr (.inr (va_up f j (some v)))))))) cn sn) : nJ O nL p l e R s m args below meth c Q b pc lo (.ref v :: .int i :: .ref a :: st) es cn sn := by
  obtain ⟨hd, rfl⟩ := hd
  subst ha
  subst hi
  subst hv2
  intro H locs ls hP hS hl0
  have hcl : (nI j).toNatClampNeg = j := nI_clamp (Nat.lt_trans hj hn)
  have hin : vp_in (nI j) n := vp_in_nI hj hn
  have h0 : ¬ nI j < 0 := fun q => hin (Or.inl q)
  have hK := X.2.2.2.2.2.1
  obtain ⟨r', hr', cellV, g1, g2, g3, -⟩ := hP.2 k2 _ hv
  have hcls := (hK.1 ci r hc).2
  obtain ⟨kA, comp, k1, k2, k3, -⟩ := (hK.2 t0 _ ht).2
  have hcomp : comp = O.2.2.1.1 ci := Option.some.inj (k3.symm.trans hcls.1)
  subst hcomp
  obtain ⟨kC, hkC, -⟩ := hcls.2
  refine W.aast X.1 X.2.1 (hP.2 k _ he) (fun q h => by cases h) (fun h => by cases h) k1 k2 rfl hkC ⟨h0, by show _ < (arrV _ _ _).slots.size; rw [arrV_size, hcl]; exact hj⟩ g1 (fun q h => by rw [g3] at h; cases h) (by rw [g2]; exact hkC) (by rw [g2]; exact va_assign hcls) rfl rfl hd fun H1 e1 z oq => ?_
  refine kk H1 _ ls (hP.set z oq ?_) (hS.put z oq (Nat.le_add_right b k)) hl0
  show H1[b + k]? = some (vp_cell _ _)
  rw [e1, vp_cell_q, vp_cell_q, arrV_store, hcl]
  congr 2
  funext q
  by_cases hq : q = j
  · subst hq
    simp [updV, va_up, va_rf]
  · simp [updV, va_up, hq]
theorem nx_S.grow {A : Nat → Prop} {H0 H H1 : Heap} {locs : List Loc} (hS : va_S A H0 H locs) (hz : H.size ≤ H1.size) (o1 : ∀ q : Nat, q < H.size → H1[q]? = H[q]?) : va_S A H0 H1 locs := ⟨Nat.le_trans hS.1 hz, fun x h1 h2 => (o1 x (Nat.lt_of_lt_of_le h1 hS.1)).trans (hS.2.1 x h1 h2), hS.2.2⟩
/-- a new object -/
theorem nx_new (X : nx_G O own cc nL p s m args c) {C : String} {T : u_T} {N ci index : Nat} {fs : List Value} (hw : ∀ w ∈ u_ws C T N, w ∈ rx_tbl) (ty : Nat → FieldType) (hty : ∀ k, k < N → parseFieldDescriptor (T k).2.2.1 = some (ty k)) (hc : rx_cl[ci]? = some (C, T, N)) (hcl : Cond.classLink own index C ∈ rx_tbl) (hinst : Cond.instantiable C N ∈ rx_tbl) (hini : Cond.initialized C ∈ rx_tbl) (hfs : ∀ j, j < N → defaultValue (ty j) = vp_V fs j) (hcells : cn + 1 ≤ R.cells) (hslots : sn + N ≤ R.slots) {a : Nat} (ha : a = b + es.length) (hd : rx_D cc pc (.new index) 3 pc2) (kk : nJ O nL p l e R s m args below meth c Q b pc2 lo (.ref a :: st) (es ++ [.inr (ci, fs)]) (cn + 1) (sn + N)) : nJ O nL p l e R s m args below meth c Q b pc lo st es cn sn := by
  obtain ⟨hd, rfl⟩ := hd
  subst ha
  have hts := X.2.2.2.2.1
  have hKn := X.2.2.2.2.2.1.1 ci _ hc
  intro H locs ls hP hS hl
  refine W.newcK X.1 X.2.1 X.2.2.2.1 (hts _ hcl) (hts _ hinst) (hts _ hini) rfl hd hcells hslots hKn.2.1 hP.1 fun H1 kC hkC e1 z1 o1 => ?_
  exact kk H1 locs ls (nx_H.app hP.2 o1 (nx_H.one z1 ⟨_, hc, (u_born ty hts hw hKn hkC e1 hty).to hfs⟩)) (nx_S.grow hS (by rw [z1, hP.1]; omega) (fun q hq => o1 q (by rw [← hP.1]; exact hq))) hl
/-- a new row of ints -/
theorem nx_newi (X : nx_G O own cc nL p s m args c) {t0 N : Nat} {atype : ArrayType} {ty : FieldType} {cA : ClassId} {n : Int32} (harr : Cond.arrayClass (newarray.typeOf atype) ∈ rx_tbl) (hty : newarray.typeOf atype = ty) (hdv : defaultValue ty = .int 0) (hra : ∀ (U : State) (x : ClassId), va_RA U x ty → U.vm.findClass ("[" ++ ty.toString) = some x) (ht : O.2.2.2.1[t0]? = some (cA, ty)) (hn : n = nI N) (hN : N < 100000) (hbytes : N * componentBytes ty ≤ 536870912) (hcells : cn + 1 ≤ R.cells) (hslots : sn + N ≤ R.slots) {a : Nat} (ha : a = b + es.length) (hd : rx_D cc pc (.newarray atype) 2 pc2) (kk : nJ O nL p l e R s m args below meth c Q b pc2 lo (.ref a :: st) (es ++ [.inl (cA, N, .inl (fun _ => 0))]) (cn + 1) (sn + N)) : nJ O nL p l e R s m args below meth c Q b pc lo (.int n :: st) es cn sn := by
  obtain ⟨hd, rfl⟩ := hd
  subst ha
  subst hn
  subst hty
  have hts := X.2.2.2.2.1
  have hcl : (nI N).toNatClampNeg = N := nI_clamp (by omega)
  intro H locs ls hP hS hl
  refine va_newaK X.1 X.2.1 (hts _ harr) rfl hd rfl (fun h => (vp_in_nI (n := N) (N := N + 1) (by omega) (by omega)) (Or.inl h)) hcl hbytes hcells hslots hP.1 fun H1 cA' e1 z1 o1 hAr hNm => ?_
  have hc : cA' = cA := Option.some.inj (hNm.symm.trans (hra s cA (X.2.2.2.2.2.1.2 t0 _ ht).2))
  subst hc
  refine kk H1 locs ls (nx_H.app hP.2 o1 (nx_H.one z1 ?_)) (nx_S.grow hS (by rw [z1, hP.1]; omega) (fun q hq => o1 q (by rw [← hP.1]; exact hq))) hl
  show H1[b + es.length]? = some (vp_cell _ _)
  rw [e1, vp_cell_i, hdv]
/-- a new row of objects -/
theorem nx_newq (X : nx_G O own cc nL p s m args c) {t0 N index : Nat} {C : String} {cA : ClassId} {n : Int32} (hcl0 : Cond.classLink own index C ∈ rx_tbl) (hover : va_AO C s) (ht : O.2.2.2.1[t0]? = some (cA, .object C)) (hn : n = nI N) (hN : N < 100000) (hcells : cn + 1 ≤ R.cells) (hslots : sn + N ≤ R.slots) {a : Nat} (ha : a = b + es.length) (hd : rx_D cc pc (.anewarray index) 3 pc2) (kk : nJ O nL p l e R s m args below meth c Q b pc2 lo (.ref a :: st) (es ++ [.inl (cA, N, .inr (.inr (.inr (.inr (fun _ => none)))))]) (cn + 1) (sn + N)) : nJ O nL p l e R s m args below meth c Q b pc lo (.int n :: st) es cn sn := by
  obtain ⟨hd, rfl⟩ := hd
  subst ha
  subst hn
  have hts := X.2.2.2.2.1
  have hcl : (nI N).toNatClampNeg = N := nI_clamp (by omega)
  intro H locs ls hP hS hl
  refine W.anew X.1 X.2.1 X.2.2.2.1 (hts _ hcl0) (va_AO.use hover) rfl hd rfl (fun h => (vp_in_nI (n := N) (N := N + 1) (by omega) (by omega)) (Or.inl h)) (by rw [hcl]; omega) hcells (by rw [hcl]; exact hslots) fun cA' kA comp f1 f2 f3 f4 => ?_
  have hc : cA' = cA := by
    obtain ⟨_, _, -, -, -, h4⟩ := (X.2.2.2.2.2.1.2 t0 _ ht).2
    exact Option.some.inj (f1.symm.trans h4)
  subst hc
  rw [hcl]
  generalize hH1 : H.push ({ cls := cA', slots := Array.replicate N .null, vm := .none } : Cell) = H1
  have z1 : H1.size = H.size + 1 := by rw [← hH1, Array.size_push]
  have e1 : H1[H.size]? = some (arrV cA' N (fun _ => .null)) := by rw [← hH1, Array.getElem?_push_size, ← arrV_new]
  have o1 : ∀ q : Nat, q < H.size → H1[q]? = H[q]? := fun q hq => by rw [← hH1, Array.getElem?_push, if_neg (Nat.ne_of_lt hq)]
  rw [hP.1]
  refine kk H1 locs ls (nx_H.app hP.2 (fun q hq => o1 q (by rw [hP.1]; exact hq)) (nx_H.one (by rw [z1, hP.1]) ?_)) (nx_S.grow hS (by omega) o1) hl
  show H1[b + es.length]? = some (vp_cell _ _)
  rw [← hP.1, e1, vp_cell_q]
  rfl
theorem nx_ret {mc ms : Nat} (X : nx_G O own cc nL p s m args c) (hlocks : meth.locks = false) (hr : meth.sig.returnType = none) (h1 : cn ≤ mc) (h2 : sn ≤ ms) (hd : rx_D cc pc .return_ 1 pc2) : nJ O nL p l e R s m args below meth c (MQ below (nx_Q O b es) args s mc ms (fun q => b ≤ q)) b pc lo [] es cn sn := by
  intro H locs ls hP hS hl
  refine W.widen h1 h2 ?_
  exact W.vret X.1 X.2.1 hr (fun t ht hW => ⟨⟨(), rfl, trivial, by show nx_H O b es t.heap; rw [ht]; exact hP⟩, hS.F ht⟩) hS.2.2 hd.1
/-- what the tables say of a constructor -/
def nx_V (y : MethodName) (bytes : ByteArray) (maxL : Nat) : Prop := Cond.code y bytes maxL none ∈ rx_tbl ∧ Cond.instanceMethod y ∈ rx_tbl ∧ Cond.initialized y.cls ∈ rx_tbl ∧ (y.cls ≠ "java/lang/invoke/MethodHandle" ∧ y.cls ≠ "java/lang/invoke/VarHandle" ∧ (parseMethodDescriptor y.desc).map (fun d => d.parameters.length) = some 0) ∧ y.name = "<init>"
theorem nx_call {n0 mc0 ms0 maxL idx ci a : Nat} {y : MethodName} {bytes : ByteArray} {fs : List Value} {es0 es1 : List va_E} (X : nx_G O own cc nL p s m args c) (hv : nx_V y bytes maxL) (hl : Cond.methodLink own idx y ∈ rx_tbl) (hM : nM l O y bytes maxL n0 a (.inr (ci, fs)) es1 mc0 ms0) (hes : es = es0 ++ [.inr (ci, fs)]) (ha : a = b + es0.length) (hR : n0 + 1 ≤ R.frames ∧ 8 + (maxL + 11) + 60 * n0 ≤ R.locals) (hf : cn + mc0 ≤ R.cells ∧ sn + ms0 ≤ R.slots) (hd : rx_D cc pc (.invokespecial idx) 3 pc2) (hW : (st.map fun v => v.category).sum ≤ 8)
    (kk : nJ O nL p l e R s m args below meth c Q b pc2 lo st (es0 ++ es1) (cn + mc0) (sn + ms0)) : nJ O nL p l e R s m args below meth c Q b pc lo (.ref a :: st) es cn sn := by
  obtain ⟨hd, rfl⟩ := hd
  subst ha
  subst hes
  obtain ⟨v1, v2, v3, v4, v5⟩ := hv
  have hts := X.2.2.2.2.1
  intro H locs ls hP hS hlv
  have hob : va_at O.2.2.1 rx_cl (b + es0.length, .inr (ci, fs)) H := hP.2 es0.length _ (by simp)
  have hz : H.size = b + es0.length + 1 := by rw [hP.1, List.length_append]; rfl
  refine va_callv (va_runI (As := []) (rest := st) ⟨X.1, X.2.1, X.2.2.1, X.2.2.2.1, hts⟩ hM ⟨callB_of 0 hts (rx_ws_good v1) rfl rfl rfl (hts _ v3) (hts _ hl) v4 hR, v5, hts _ v2⟩ ⟨nx_blind O _ _, fun U hU hW => ⟨rfl, by rw [hU]; exact hz, by rw [hU]; exact hob, va_K.moved hW.alike X.2.2.2.2.2.1, nx_E.warm hW X.2.2.2.2.2.2⟩⟩ rfl rfl hlv.1 rfl (lv_room hW) hd hf) hS (fun q _ h => Nat.le_trans (Nat.le_add_right b es0.length) h) (fun q h => Nat.le_trans (Nat.le_add_right b es0.length) h) (fun u t H1 locs1 ht hvm hp hB hz1 hk1 hS1 => kk H1 locs1 ls ?_ hS1 hlv)
  have hB' : nx_H O (b + es0.length) es1 H1 := by rw [← ht]; exact hB
  exact nx_H.app hP.left (fun q hq => hk1 q (by omega) (Nat.not_le.mpr hq)) hB'
theorem nx_callN {n0 mc0 ms0 maxL idx ci a : Nat} {host : String} {y : MethodName} {bytes : ByteArray} {fs : List Value} {es0 es1 : List va_E} (X : nx_G O own cc nL p s m args c) (hv : nx_V y bytes maxL) (hl : va_Nw (.methodLinkNest own idx y host) s) (hM : nM l O y bytes maxL n0 a (.inr (ci, fs)) es1 mc0 ms0) (hes : es = es0 ++ [.inr (ci, fs)]) (ha : a = b + es0.length) (hR : n0 + 1 ≤ R.frames ∧ 8 + (maxL + 11) + 60 * n0 ≤ R.locals) (hf : cn + mc0 ≤ R.cells ∧ sn + ms0 ≤ R.slots) (hd : rx_D cc pc (.invokespecial idx) 3 pc2) (hW : (st.map fun v => v.category).sum ≤ 8)
    (kk : nJ O nL p l e R s m args below meth c Q b pc2 lo st (es0 ++ es1) (cn + mc0) (sn + ms0)) : nJ O nL p l e R s m args below meth c Q b pc lo (.ref a :: st) es cn sn := by
  obtain ⟨hd, rfl⟩ := hd
  subst ha
  subst hes
  obtain ⟨v1, v2, v3, v4, v5⟩ := hv
  have hts := X.2.2.2.2.1
  intro H locs ls hP hS hlv
  have hob : va_at O.2.2.1 rx_cl (b + es0.length, .inr (ci, fs)) H := hP.2 es0.length _ (by simp)
  have hz : H.size = b + es0.length + 1 := by rw [hP.1, List.length_append]; rfl
  refine va_callv (va_runIN (As := []) (rest := st) ⟨X.1, X.2.1, X.2.2.1, X.2.2.2.1, hts⟩ hM ⟨va_cnB 0 hts (rx_ws_good v1) rfl rfl rfl hl (hts _ v3) v4 hR, v5, hts _ v2⟩ ⟨nx_blind O _ _, fun U hU hW => ⟨rfl, by rw [hU]; exact hz, by rw [hU]; exact hob, va_K.moved hW.alike X.2.2.2.2.2.1, nx_E.warm hW X.2.2.2.2.2.2⟩⟩ rfl rfl hlv.1 rfl (lv_room hW) hd hf) hS (fun q _ h => Nat.le_trans (Nat.le_add_right b es0.length) h) (fun q h => Nat.le_trans (Nat.le_add_right b es0.length) h) (fun u t H1 locs1 ht hvm hp hB hz1 hk1 hS1 => kk H1 locs1 ls ?_ hS1 hlv)
  have hB' : nx_H O (b + es0.length) es1 H1 := by rw [← ht]; exact hB
  exact nx_H.app hP.left (fun q hq => hk1 q (by omega) (Nat.not_le.mpr hq)) hB'
/-- the same cells, otherwise said -/
theorem nx_es {es2 : List va_E} (h : es = es2) (kk : nJ O nL p l e R s m args below meth c Q b pc lo st es2 cn sn) : nJ O nL p l e R s m args below meth c Q b pc lo st es cn sn := h ▸ kk
theorem nx_wide {cn2 sn2 : Nat} (h1 : cn ≤ cn2) (h2 : sn ≤ sn2) (kk : nJ O nL p l e R s m args below meth c Q b pc lo st es cn2 sn2) : nJ O nL p l e R s m args below meth c Q b pc lo st es cn sn := fun H locs ls hP hS hl => W.widen h1 h2 (kk H locs ls hP hS hl)
theorem nx_sub (h : ∀ q ∈ lo2, q ∈ lo) (kk : nJ O nL p l e R s m args below meth c Q b pc lo2 st es cn sn) : nJ O nL p l e R s m args below meth c Q b pc lo st es cn sn := fun H locs ls hP hS hl => kk H locs ls hP hS ⟨hl.1, hl.2.1, fun q hq => hl.2.2 q (h q hq)⟩
end NXR
