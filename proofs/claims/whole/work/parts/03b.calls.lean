/-! ===== rx: contracts, calls, returns ===== -/
def rx_ws (y : MethodName) (bytes : ByteArray) (maxL : Nat) (rt : Option FieldType) : List Cond := .code y bytes maxL rt :: rx_tbl
theorem rx_ws_good {y : MethodName} {bytes : ByteArray} {maxL : Nat} {rt : Option FieldType} (h : Cond.code y bytes maxL rt ∈ rx_tbl) : GoodIn rx_tbl (rx_ws y bytes maxL rt) := by
  intro w hw
  have hm : w ∈ rx_tbl := by
    rcases List.mem_cons.mp hw with rfl | hw
    · exact h
    · exact hw
  exact ⟨hm, good_of_word (rx_tbl_good w hm)⟩
def rx_lv (n : Nat) : Room := { frames := n, cells := 0, slots := 0, locals := 60 * n }
def rx_Pc (O : rx_O) (As : List Value) (σ : rx_S) : Array Value → State → Prop := va_Pc (As.map (rx_t O.2.1)) (fun U => va_P O.2.2.1 rx_cl (rx_w O σ) U.heap ∧ va_K O.2.2.1 rx_cl O.2.2.2.1 U ∧ rx_Z O U)
theorem rx_blind (O : rx_O) (As : List Value) (σ : rx_S) : FrameBlind (rx_Pc O As σ) := by
  intro a U g mk q
  obtain ⟨q0, qP, qK, qZ⟩ := q
  exact ⟨q0, qP, va_K.moved (u := U) (U := U.calling g mk a) (Vm.Alike.refl U.vm) qK, fun x hx => ⟨va_Z.moved (u := U) (U := U.calling g mk a) (Vm.Alike.refl U.vm) (qZ x hx).1, va_X.moved (u := U) (U := U.calling g mk a) (Vm.Alike.refl U.vm) (qZ x hx).2.1, (qZ x hx).2.2⟩⟩
abbrev rx_At (O : rx_O) (u : rx_S) (t : State) : Prop := va_P O.2.2.1 rx_cl (rx_w O u) t.heap
def rx_MI (l : Launch) (O : rx_O) (y : MethodName) (bytes : ByteArray) (maxL : Nat) (rt : Option FieldType) (n : Nat) (As : List Value) (σ : rx_S) (Post : Int32 → rx_S → Prop) : Prop := Met l y (rx_ws y bytes maxL rt) (rx_lv n) (rx_Pc O As σ) (va_Qi Post (rx_At O) (rx_A O)) 0 0 (rx_A O)
def rx_ML (l : Launch) (O : rx_O) (y : MethodName) (bytes : ByteArray) (maxL : Nat) (rt : Option FieldType) (n : Nat) (As : List Value) (σ : rx_S) (Post : Int64 → rx_S → Prop) : Prop := Met l y (rx_ws y bytes maxL rt) (rx_lv n) (rx_Pc O As σ) (va_Ql Post (rx_At O) (rx_A O)) 0 0 (rx_A O)
def rx_MV (l : Launch) (O : rx_O) (y : MethodName) (bytes : ByteArray) (maxL : Nat) (rt : Option FieldType) (n : Nat) (As : List Value) (σ : rx_S) (Post : rx_S → Prop) : Prop := Met l y (rx_ws y bytes maxL rt) (rx_lv n) (rx_Pc O As σ) (va_Qv Post (rx_At O) (rx_A O)) 0 0 (rx_A O)
theorem rx_args_map (ad : Nat → Nat) : ∀ (As : List Value) (i : Nat), lv_args i (As.map (rx_t ad)) = (lv_args i As).map (rx_t1 ad)
  | [], _ => rfl
  | v :: As, i => by
    show (i, rx_t ad v) :: lv_args (if (rx_t ad v).category = 2 then i + 2 else i + 1) (As.map (rx_t ad)) = (i, rx_t ad v) :: (lv_args (if v.category = 2 then i + 2 else i + 1) As).map (rx_t1 ad)
    rw [rx_t_cat, rx_args_map ad As]
theorem rx_Met_of {l : Launch} {O : rx_O} {y : MethodName} {bytes : ByteArray} {maxL : Nat} {rt : Option FieldType} {n : Nat} {As : List Value} {σ : rx_S} {Qc : Array Value → State → Outcome → State → Prop} {lo : List (Nat × Value)} {own : String} (hown : y.cls = own) (hO : rx_inj O) (hy : plainName y.cls = true) (hlen : (lg_sl (As.map (rx_t O.2.1))).length ≤ maxL) (hlo : lv_args 0 As = lo)
    (body : ∀ p e s m args below meth c, rx_G O own bytes maxL rt p s m args meth c → rx_J O maxL p l e (rx_lv n) s m args below meth c (MQ below Qc args s 0 0 (rx_A O)) 0 lo [] σ) : Met l y (rx_ws y bytes maxL rt) (rx_lv n) (rx_Pc O As σ) Qc 0 0 (rx_A O) := by
  subst hown
  refine Met.ofW (cc := bytes) (maxL := maxL) (ret := rt) hy rfl ?_
  intro p e s m args below meth c s₁ B hml hv
  obtain ⟨rfl, hP, hK, hZ⟩ := hv
  have hts : ∀ w ∈ rx_tbl, w.before (As.map (rx_t O.2.1)).toArray s = true := fun w hw => atoms_spec (ws := rx_ws y bytes maxL rt) B.pre w (List.mem_cons_of_mem _ hw)
  have hl := lv_entry (As.map (rx_t O.2.1)) hlen
  rw [lg_entry_eq]
  rw [rx_args_map, hlo] at hl
  exact body p e s m _ below meth c ⟨B.exec, B.bytes, hml, findClass_of_methodNamed B.named, hts, hK, hO, B.notSynchronized, B.returns, hZ⟩ s.heap [] _ hP va_S.rf hl
abbrev rx_QI (O : rx_O) (below : List Frame) (args : Array Value) (s : State) (Post : Int32 → rx_S → Prop) : State → Prop := MQ below (va_Qi Post (rx_At O) (rx_A O)) args s 0 0 (rx_A O)
abbrev rx_QL (O : rx_O) (below : List Frame) (args : Array Value) (s : State) (Post : Int64 → rx_S → Prop) : State → Prop := MQ below (va_Ql Post (rx_At O) (rx_A O)) args s 0 0 (rx_A O)
abbrev rx_QV (O : rx_O) (below : List Frame) (args : Array Value) (s : State) (Post : rx_S → Prop) : State → Prop := MQ below (va_Qv Post (rx_At O) (rx_A O)) args s 0 0 (rx_A O)
section RXC
variable {O : rx_O} {own : String} {cc : ByteArray} {nL : Nat} {rt : Option FieldType} {p : Program} {l : Launch} {e : Env} {R : Room} {s : State} {m : MethodId} {args : Array Value} {below : List Frame} {meth : Method} {c : Code} {Q : State → Prop} {pc pc2 tgt : Nat} {lo lo2 : List (Nat × Value)} {st : List Value} {σ : rx_S}
theorem rx_iret (X : rx_G O own cc nL (some .int) p s m args meth c) {Post : Int32 → rx_S → Prop} {v : Int32} (hd : rx_D cc pc .ireturn 1 pc2) (hp : Post v σ) : rx_J O nL p l e R s m args below meth c (MQ below (va_Qi Post (rx_At O) (rx_A O)) args s 0 0 (rx_A O)) pc lo [.int v] σ := by
  obtain ⟨hx, hb, -, -, -, -, -, hlocks, hr, -⟩ := X
  exact fun H locs ls hP hS hl => W.iret hx hb hr (fun t ht hW => ⟨⟨v, σ, rfl, hp, by show va_P _ _ _ _; rw [ht]; exact hP⟩, hS.F ht⟩) hS.2.2 hd.1
theorem rx_zret (X : rx_G O own cc nL (some .boolean) p s m args meth c) {Post : Int32 → rx_S → Prop} {v : Int32} (hd : rx_D cc pc .ireturn 1 pc2) (hn : narrow .boolean (.int v) = .int v) (hp : Post v σ) : rx_J O nL p l e R s m args below meth c (MQ below (va_Qi Post (rx_At O) (rx_A O)) args s 0 0 (rx_A O)) pc lo [.int v] σ := by
  obtain ⟨hx, hb, -, -, -, -, -, hlocks, hr, -⟩ := X
  exact fun H locs ls hP hS hl => W.zret hx hb hr hn (fun t ht hW => ⟨⟨v, σ, rfl, hp, by show va_P _ _ _ _; rw [ht]; exact hP⟩, hS.F ht⟩) hS.2.2 hd.1
theorem rx_vret (X : rx_G O own cc nL none p s m args meth c) {Post : rx_S → Prop} (hd : rx_D cc pc .return_ 1 pc2) (hp : Post σ) : rx_J O nL p l e R s m args below meth c (MQ below (va_Qv Post (rx_At O) (rx_A O)) args s 0 0 (rx_A O)) pc lo [] σ := by
  obtain ⟨hx, hb, -, -, -, -, -, hlocks, hr, -⟩ := X
  exact fun H locs ls hP hS hl => W.vret hx hb hr (fun t ht hW => ⟨⟨σ, rfl, hp, by show va_P _ _ _ _; rw [ht]; exact hP⟩, hS.F ht⟩) hS.2.2 hd.1
theorem rx_lret (X : rx_G O own cc nL (some .long) p s m args meth c) {Post : Int64 → rx_S → Prop} {v : Int64} (hd : rx_D cc pc .lreturn 1 pc2) (hp : Post v σ) : rx_J O nL p l e R s m args below meth c (MQ below (va_Ql Post (rx_At O) (rx_A O)) args s 0 0 (rx_A O)) pc lo [.long v] σ := by
  obtain ⟨hx, hb, -, -, -, -, -, hlocks, hr, -⟩ := X
  exact fun H locs ls hP hS hl => W.lret hx hb hr (fun t ht hW => ⟨⟨v, σ, rfl, hp, by show va_P _ _ _ _; rw [ht]; exact hP⟩, hS.F ht⟩) hS.2.2 hd.1
theorem rx_room {n0 n maxL : Nat} (h : n0 < n) (h2 : maxL ≤ 41) : (rx_lv n0).frames + 1 ≤ (rx_lv n).frames ∧ 8 + (maxL + 11) + (rx_lv n0).locals ≤ (rx_lv n).locals := by
  refine ⟨h, ?_⟩
  show 8 + (maxL + 11) + 60 * n0 ≤ 60 * n
  omega
theorem rx_sum {ad : Nat → Nat} {rest : List Value} : ((rest.map (rx_t ad)).map fun v => v.category).sum = (rest.map fun v => v.category).sum := by
  rw [List.map_map]
  congr 2
  funext v
  exact rx_t_cat ad v
theorem rx_cat {ad : Nat → Nat} {rest : List Value} (h : (rest.map fun v => v.category).sum ≤ 8) : ((rest.map (rx_t ad)).map fun v => v.category).sum ≤ 8 := by rw [rx_sum]; exact h
theorem rx_pre {U : State} {H : Heap} {locs : List Loc} {As : List Value} (X : rx_G O own cc nL rt p s m args meth c) (hP : va_P O.2.2.1 rx_cl (rx_w O σ) H) (hS : va_S (rx_A O) s.heap H locs) (hU : U.heap = H) (hW : s.WarmedH U.vm) : rx_Pc O As σ (As.map (rx_t O.2.1)).toArray U :=
  ⟨rfl, by rw [hU]; exact hP, va_K.moved hW.alike X.2.2.2.2.2.1, X.2.2.2.2.2.2.2.2.2.moved hS hU hW.alike⟩
theorem rx_runV {n n0 maxL ar idx k ci N : Nat} {y : MethodName} {bytes : ByteArray} {rty : Option FieldType} {T : u_T} {fs : List Nat} {As rest : List Value} {Qc : Array Value → State → Outcome → State → Prop} {H : Heap} {locs : List Loc} {ls : Array Slot} (X : rx_G O own cc nL rt p s m args meth c) (hv : rx_V y bytes maxL rty ar) (hl : Cond.methodLink own idx y ∈ rx_tbl)
    (hM : Met l y (rx_ws y bytes maxL rty) (rx_lv n0) (rx_Pc O (.ref k :: As) σ) Qc 0 0 (rx_A O)) (hk : O.1[k]? = some (.inl (ci, fs))) (hc : rx_cl[ci]? = some (y.cls, T, N)) (hn : As.length = ar) (hR : n0 < n) (hR2 : maxL ≤ 41) (hd : decode cc pc = .ok (.invokevirtual idx, 3)) (hst : As.reverse ++ .ref k :: rest = st) (hW : (rest.map fun v => v.category).sum ≤ 8)
    (hP : va_P O.2.2.1 rx_cl (rx_w O σ) H) (hS : va_S (rx_A O) s.heap H locs) (hlv : lv_has ls nL (lo.map (rx_t1 O.2.1))) :
    va_Run p l e (rx_lv n) s m args below meth c H locs 0 0 0 0 (F0 m pc ls (st.map (rx_t O.2.1))) (rest.map (rx_t O.2.1)) (Qc (Value.ref (O.2.1 k) :: As.map (rx_t O.2.1)).toArray) (rx_A O) := by
  obtain ⟨v1, v2, v3, v4, v5, v6⟩ := hv
  obtain ⟨r1, r2⟩ := rx_room hR hR2
  have hts := X.2.2.2.2.1
  refine va_runV (As := As.map (rx_t O.2.1)) (rest := rest.map (rx_t O.2.1)) (C := y.cls) ⟨X.1, X.2.1, X.2.2.1, X.2.2.2.1, X.2.2.2.2.1⟩ hM ⟨callB_of ar hts (rx_ws_good v1) rfl rfl rfl (hts _ v4) (hts _ hl) v5 ⟨r1, r2⟩, hts _ v2, hts _ v3⟩
    ⟨rx_blind O _ σ, va_recv X.2.2.2.2.2.1 hP hc (rx_w_at hk σ), fun U hU hW => rx_pre (As := .ref k :: As) X hP hS hU hW⟩ rfl (by rw [List.length_map]; exact hn) hlv.1 ?_ (lv_room (rx_cat hW)) hd ⟨Nat.zero_le _, Nat.zero_le _⟩
  show st.map (rx_t O.2.1) = _
  rw [← hst, List.map_append, List.map_reverse]
  rfl
theorem rx_runT {n n0 maxL ar idx : Nat} {y : MethodName} {bytes : ByteArray} {rty : Option FieldType} {As rest : List Value} {Qc : Array Value → State → Outcome → State → Prop} {H : Heap} {locs : List Loc} {ls : Array Slot} (X : rx_G O own cc nL rt p s m args meth c) (hv : rx_T y bytes maxL rty ar) (hl : Cond.methodLink own idx y ∈ rx_tbl)
    (hM : Met l y (rx_ws y bytes maxL rty) (rx_lv n0) (rx_Pc O As σ) Qc 0 0 (rx_A O)) (hn : As.length = ar) (hR : n0 < n) (hR2 : maxL ≤ 41) (hd : decode cc pc = .ok (.invokestatic idx, 3)) (hst : As.reverse ++ rest = st) (hW : (rest.map fun v => v.category).sum ≤ 8)
    (hP : va_P O.2.2.1 rx_cl (rx_w O σ) H) (hS : va_S (rx_A O) s.heap H locs) (hlv : lv_has ls nL (lo.map (rx_t1 O.2.1))) :
    va_Run p l e (rx_lv n) s m args below meth c H locs 0 0 0 0 (F0 m pc ls (st.map (rx_t O.2.1))) (rest.map (rx_t O.2.1)) (Qc (As.map (rx_t O.2.1)).toArray) (rx_A O) := by
  obtain ⟨v1, v2, v4, v5, v6⟩ := hv
  obtain ⟨r1, r2⟩ := rx_room hR hR2
  have hts := X.2.2.2.2.1
  refine va_runS (As := As.map (rx_t O.2.1)) (rest := rest.map (rx_t O.2.1)) ⟨X.1, X.2.1, X.2.2.1, X.2.2.2.1, X.2.2.2.2.1⟩ hM ⟨callB_of ar hts (rx_ws_good v1) rfl rfl rfl (hts _ v4) (hts _ hl) v5 ⟨r1, r2⟩, hts _ v2⟩
    ⟨rx_blind O _ σ, fun U hU hW => rx_pre X hP hS hU hW⟩ rfl (by rw [List.length_map]; exact hn) hlv.1 ?_ (lv_room (rx_cat hW)) hd ⟨Nat.zero_le _, Nat.zero_le _⟩
  show st.map (rx_t O.2.1) = _
  rw [← hst, List.map_append, List.map_reverse]
theorem rx_callVi {n n0 maxL ar idx k ci N : Nat} {y : MethodName} {bytes : ByteArray} {rty : Option FieldType} {T : u_T} {fs : List Nat} {As rest : List Value} {Post : Int32 → rx_S → Prop} (X : rx_G O own cc nL rt p s m args meth c) (hv : rx_V y bytes maxL rty ar) (hl : Cond.methodLink own idx y ∈ rx_tbl) (hM : rx_MI l O y bytes maxL rty n0 (.ref k :: As) σ Post) (hk : O.1[k]? = some (.inl (ci, fs))) (hc : rx_cl[ci]? = some (y.cls, T, N)) (hn : As.length = ar) (hR : n0 < n) (hR2 : maxL ≤ 41) (hd : rx_D cc pc (.invokevirtual idx) 3 pc2) (hst : As.reverse ++ .ref k :: rest = st) (hW : (rest.map fun v => v.category).sum ≤ 8)
    (kk : ∀ (r : Int32) (τ : rx_S), Post r τ → rx_J O nL p l e (rx_lv n) s m args below meth c Q pc2 lo (.int r :: rest) τ) : rx_J O nL p l e (rx_lv n) s m args below meth c Q pc lo (st) σ := by
  obtain ⟨hd, rfl⟩ := hd
  exact fun H locs ls hP hS hlv => va_calli (rx_runV X hv hl hM hk hc hn hR hR2 hd hst hW hP hS hlv) hS (fun q _ h => h) (fun q h => h) (fun r u t H1 locs1 ht hvm hp hB hz hk1 hS1 => kk r u hp H1 locs1 ls (by rw [← ht]; exact hB) hS1 hlv)
theorem rx_callTi {n n0 maxL ar idx : Nat} {y : MethodName} {bytes : ByteArray} {rty : Option FieldType} {As rest : List Value} {Post : Int32 → rx_S → Prop} (X : rx_G O own cc nL rt p s m args meth c) (hv : rx_T y bytes maxL rty ar) (hl : Cond.methodLink own idx y ∈ rx_tbl) (hM : rx_MI l O y bytes maxL rty n0 As σ Post) (hn : As.length = ar) (hR : n0 < n) (hR2 : maxL ≤ 41) (hd : rx_D cc pc (.invokestatic idx) 3 pc2) (hst : As.reverse ++ rest = st) (hW : (rest.map fun v => v.category).sum ≤ 8)
    (kk : ∀ (r : Int32) (τ : rx_S), Post r τ → rx_J O nL p l e (rx_lv n) s m args below meth c Q pc2 lo (.int r :: rest) τ) : rx_J O nL p l e (rx_lv n) s m args below meth c Q pc lo (st) σ := by
  obtain ⟨hd, rfl⟩ := hd
  exact fun H locs ls hP hS hlv => va_calli (rx_runT X hv hl hM hn hR hR2 hd hst hW hP hS hlv) hS (fun q _ h => h) (fun q h => h) (fun r u t H1 locs1 ht hvm hp hB hz hk1 hS1 => kk r u hp H1 locs1 ls (by rw [← ht]; exact hB) hS1 hlv)
theorem rx_callVl {n n0 maxL ar idx k ci N : Nat} {y : MethodName} {bytes : ByteArray} {rty : Option FieldType} {T : u_T} {fs : List Nat} {As rest : List Value} {Post : Int64 → rx_S → Prop} (X : rx_G O own cc nL rt p s m args meth c) (hv : rx_V y bytes maxL rty ar) (hl : Cond.methodLink own idx y ∈ rx_tbl) (hM : rx_ML l O y bytes maxL rty n0 (.ref k :: As) σ Post) (hk : O.1[k]? = some (.inl (ci, fs))) (hc : rx_cl[ci]? = some (y.cls, T, N)) (hn : As.length = ar) (hR : n0 < n) (hR2 : maxL ≤ 41) (hd : rx_D cc pc (.invokevirtual idx) 3 pc2) (hst : As.reverse ++ .ref k :: rest = st) (hW : (rest.map fun v => v.category).sum ≤ 8)
    (kk : ∀ (r : Int64) (τ : rx_S), Post r τ → rx_J O nL p l e (rx_lv n) s m args below meth c Q pc2 lo (.long r :: rest) τ) : rx_J O nL p l e (rx_lv n) s m args below meth c Q pc lo (st) σ := by
  obtain ⟨hd, rfl⟩ := hd
  exact fun H locs ls hP hS hlv => va_calll (rx_runV X hv hl hM hk hc hn hR hR2 hd hst hW hP hS hlv) hS (fun q _ h => h) (fun q h => h) (fun r u t H1 locs1 ht hvm hp hB hz hk1 hS1 => kk r u hp H1 locs1 ls (by rw [← ht]; exact hB) hS1 hlv)
theorem rx_callTl {n n0 maxL ar idx : Nat} {y : MethodName} {bytes : ByteArray} {rty : Option FieldType} {As rest : List Value} {Post : Int64 → rx_S → Prop} (X : rx_G O own cc nL rt p s m args meth c) (hv : rx_T y bytes maxL rty ar) (hl : Cond.methodLink own idx y ∈ rx_tbl) (hM : rx_ML l O y bytes maxL rty n0 As σ Post) (hn : As.length = ar) (hR : n0 < n) (hR2 : maxL ≤ 41) (hd : rx_D cc pc (.invokestatic idx) 3 pc2) (hst : As.reverse ++ rest = st) (hW : (rest.map fun v => v.category).sum ≤ 8)
    (kk : ∀ (r : Int64) (τ : rx_S), Post r τ → rx_J O nL p l e (rx_lv n) s m args below meth c Q pc2 lo (.long r :: rest) τ) : rx_J O nL p l e (rx_lv n) s m args below meth c Q pc lo (st) σ := by
  obtain ⟨hd, rfl⟩ := hd
  exact fun H locs ls hP hS hlv => va_calll (rx_runT X hv hl hM hn hR hR2 hd hst hW hP hS hlv) hS (fun q _ h => h) (fun q h => h) (fun r u t H1 locs1 ht hvm hp hB hz hk1 hS1 => kk r u hp H1 locs1 ls (by rw [← ht]; exact hB) hS1 hlv)
theorem rx_callVv {n n0 maxL ar idx k ci N : Nat} {y : MethodName} {bytes : ByteArray} {rty : Option FieldType} {T : u_T} {fs : List Nat} {As rest : List Value} {Post : rx_S → Prop} (X : rx_G O own cc nL rt p s m args meth c) (hv : rx_V y bytes maxL rty ar) (hl : Cond.methodLink own idx y ∈ rx_tbl) (hM : rx_MV l O y bytes maxL rty n0 (.ref k :: As) σ Post) (hk : O.1[k]? = some (.inl (ci, fs))) (hc : rx_cl[ci]? = some (y.cls, T, N)) (hn : As.length = ar) (hR : n0 < n) (hR2 : maxL ≤ 41) (hd : rx_D cc pc (.invokevirtual idx) 3 pc2) (hst : As.reverse ++ .ref k :: rest = st) (hW : (rest.map fun v => v.category).sum ≤ 8)
    (kk : ∀ (τ : rx_S), Post τ → rx_J O nL p l e (rx_lv n) s m args below meth c Q pc2 lo (rest) τ) : rx_J O nL p l e (rx_lv n) s m args below meth c Q pc lo (st) σ := by
  obtain ⟨hd, rfl⟩ := hd
  exact fun H locs ls hP hS hlv => va_callv (rx_runV X hv hl hM hk hc hn hR hR2 hd hst hW hP hS hlv) hS (fun q _ h => h) (fun q h => h) (fun u t H1 locs1 ht hvm hp hB hz hk1 hS1 => kk u hp H1 locs1 ls (by rw [← ht]; exact hB) hS1 hlv)
theorem rx_callTv {n n0 maxL ar idx : Nat} {y : MethodName} {bytes : ByteArray} {rty : Option FieldType} {As rest : List Value} {Post : rx_S → Prop} (X : rx_G O own cc nL rt p s m args meth c) (hv : rx_T y bytes maxL rty ar) (hl : Cond.methodLink own idx y ∈ rx_tbl) (hM : rx_MV l O y bytes maxL rty n0 As σ Post) (hn : As.length = ar) (hR : n0 < n) (hR2 : maxL ≤ 41) (hd : rx_D cc pc (.invokestatic idx) 3 pc2) (hst : As.reverse ++ rest = st) (hW : (rest.map fun v => v.category).sum ≤ 8)
    (kk : ∀ (τ : rx_S), Post τ → rx_J O nL p l e (rx_lv n) s m args below meth c Q pc2 lo (rest) τ) : rx_J O nL p l e (rx_lv n) s m args below meth c Q pc lo (st) σ := by
  obtain ⟨hd, rfl⟩ := hd
  exact fun H locs ls hP hS hlv => va_callv (rx_runT X hv hl hM hn hR hR2 hd hst hW hP hS hlv) hS (fun q _ h => h) (fun q h => h) (fun u t H1 locs1 ht hvm hp hB hz hk1 hS1 => kk u hp H1 locs1 ls (by rw [← ht]; exact hB) hS1 hlv)
theorem rx_min {n idx : Nat} {x y : Int32} (X : rx_G O own cc nL rt p s m args meth c) (hl : Cond.methodLink own idx Lib.Math.min.name ∈ rx_tbl) (h1 : Cond.static Lib.Math.min.name ∈ rx_tbl) (h2 : Cond.initialized "java/lang/Math" ∈ rx_tbl) (h3 : Cond.code Lib.Math.min.name Lib.Math.min.code 2 (some .int) ∈ rx_tbl) (hR : 0 < n) (hW : (st.map fun v => v.category).sum ≤ 8) (hd : rx_D cc pc (.invokestatic idx) 3 pc2) (kk : rx_J O nL p l e (rx_lv n) s m args below meth c Q pc2 lo (.int (if y < x then y else x) :: st) σ) : rx_J O nL p l e (rx_lv n) s m args below meth c Q pc lo (.int y :: .int x :: st) σ := by
  obtain ⟨hd, rfl⟩ := hd
  intro H locs ls hP hS hlv
  have hts := X.2.2.2.2.1
  refine va_mmin (R := rx_lv n) X.1 X.2.1 (by rw [X.2.2.1, hlv.1]) X.2.2.2.1 (hts _ hl) (hts _ h1) (hts _ h2) (hts _ h3) hR ?_ (Nat.zero_le _) (Nat.zero_le _) hd (kk H locs ls hP hS hlv)
  rw [rx_sum]
  show _ + 13 ≤ 60 * n
  omega
theorem rx_max {n idx : Nat} {x y : Int32} (X : rx_G O own cc nL rt p s m args meth c) (hl : Cond.methodLink own idx Lib.Math.max.name ∈ rx_tbl) (h1 : Cond.static Lib.Math.max.name ∈ rx_tbl) (h2 : Cond.initialized "java/lang/Math" ∈ rx_tbl) (h3 : Cond.code Lib.Math.max.name Lib.Math.max.code 2 (some .int) ∈ rx_tbl) (hR : 0 < n) (hW : (st.map fun v => v.category).sum ≤ 8) (hd : rx_D cc pc (.invokestatic idx) 3 pc2) (kk : rx_J O nL p l e (rx_lv n) s m args below meth c Q pc2 lo (.int (if x < y then y else x) :: st) σ) : rx_J O nL p l e (rx_lv n) s m args below meth c Q pc lo (.int y :: .int x :: st) σ := by
  obtain ⟨hd, rfl⟩ := hd
  intro H locs ls hP hS hlv
  have hts := X.2.2.2.2.1
  refine va_mmax (R := rx_lv n) X.1 X.2.1 (by rw [X.2.2.1, hlv.1]) X.2.2.2.1 (hts _ hl) (hts _ h1) (hts _ h2) (hts _ h3) hR ?_ (Nat.zero_le _) (Nat.zero_le _) hd (kk H locs ls hP hS hlv)
  rw [rx_sum]
  show _ + 13 ≤ 60 * n
  omega
/-- an array's copy into an array of the world -/
theorem rx_copy {n idx k0 k t0 t1 n0 n1 : Nat} {c0 c1 : ClassId} {sp dp q : Int32} (X : rx_G O own cc nL rt p s m args meth c) (hl : Cond.methodLink own idx arraycopyName ∈ rx_tbl) (h1 : Cond.native arraycopyName ∈ rx_tbl) (h2 : Cond.static arraycopyName ∈ rx_tbl) (h3 : Cond.initialized "java/lang/System" ∈ rx_tbl) (hk0 : O.1[k0]? = some (.inr (t0, n0, none))) (hk : O.1[k]? = some (.inr (t1, n1, none))) (ht0 : O.2.2.2.1[t0]? = some (c0, .int)) (ht1 : O.2.2.2.1[t1]? = some (c1, .int))
    (g1 : ¬ sp < 0) (g2 : ¬ dp < 0) (g3 : ¬ q < 0) (g4 : sp.toNatClampNeg + q.toNatClampNeg ≤ n0) (g5 : dp.toNatClampNeg + q.toNatClampNeg ≤ n1) (hR : 0 < n) (hW : (st.map fun v => v.category).sum ≤ 8) (hd : rx_D cc pc (.invokestatic idx) 3 pc2)
    (kk : rx_J O nL p l e (rx_lv n) s m args below meth c Q pc2 lo (st) (rx_ua σ k (va_cpy (σ.1 k0) (σ.1 k) sp.toNatClampNeg dp.toNatClampNeg q.toNatClampNeg))) : rx_J O nL p l e (rx_lv n) s m args below meth c Q pc lo (.int q :: .int dp :: .ref k :: .int sp :: .ref k0 :: st) σ := by
  obtain ⟨hd, rfl⟩ := hd
  intro H locs ls hP hS hlv
  have hts := X.2.2.2.2.1
  refine va_copyi (D := O.2.2.1) (cl := rx_cl) X.1 X.2.1 (by rw [X.2.2.1, hlv.1]) X.2.2.2.1 (hts _ hl) (hts _ h1) (hts _ h2) (hts _ h3) X.2.2.2.2.2.1 hP (rx_w_D X.2.2.2.2.2.2.1 σ) hS k0 k t0 t1 (c0 := c0) (c1 := c1) (n0 := n0) (n1 := n1) (f := σ.1 k0) (g := σ.1 k) (by rw [rx_w_at hk0, rx_e, rx_cA_at ht0]) (by rw [rx_w_at hk, rx_e, rx_cA_at ht1]) ht0 ht1 rfl g1 g2 g3 g4 g5 (fun i _ => rfl) hR ?_ hd (fun H1 locs1 hP1 _ hS1 => ?_)
  · rw [rx_sum]
    have h9 : nativeFrameWords "java/lang/System" "arraycopy" 5 + 11 ≤ 52 := by decide
    show _ + (nativeFrameWords "java/lang/System" "arraycopy" 5 + 11) ≤ 60 * n
    omega
  · have e : (rx_w O σ).set k (O.2.1 k, .inl (c1, n1, .inl (va_cpy (σ.1 k0) (σ.1 k) sp.toNatClampNeg dp.toNatClampNeg q.toNatClampNeg))) = rx_w O (rx_ua σ k (va_cpy (σ.1 k0) (σ.1 k) sp.toNatClampNeg dp.toNatClampNeg q.toNatClampNeg)) := by
      rw [← rx_w_set (σ := σ) (σ' := rx_ua σ k (va_cpy (σ.1 k0) (σ.1 k) sp.toNatClampNeg dp.toNatClampNeg q.toNatClampNeg)) hk (fun j h => rx_ua_ne h) (fun j _ => rfl), rx_e, rx_ua_s, rx_cA_at ht1]
    rw [e] at hP1
    exact kk H1 locs1 ls hP1 hS1 hlv
/-- a static array, and a read of it -/
theorem rx_gets {idx kz : Nat} {Cz nz : String} {xs : List Int32} (X : rx_G O own cc nL rt p s m args meth c) (hz : (Cz, nz, kz, xs) ∈ O.2.2.2.2) (hl : Cond.fieldLink own idx Cz nz "[I" ∈ rx_tbl) (hd : rx_D cc pc (.getstatic idx) 3 pc2) (kk : rx_J O nL p l e R s m args below meth c Q pc2 lo (.ref kz :: st) σ) : rx_J O nL p l e R s m args below meth c Q pc lo (st) σ := by
  obtain ⟨hd, rfl⟩ := hd
  exact fun H locs ls hP hS hlv => va_gets X.1 X.2.1 (X.2.2.2.2.2.2.2.2.2 _ hz).1 hS X.2.2.2.1 (X.2.2.2.2.1 _ hl) (fun _ h => h) hd (kk H locs ls hP hS hlv)
theorem rx_zld {kz : Nat} {Cz nz : String} {xs : List Int32} {i : Int32} (X : rx_G O own cc nL rt p s m args meth c) (hz : (Cz, nz, kz, xs) ∈ O.2.2.2.2) (hin : vp_in i xs.length) (hd : rx_D cc pc .iaload 1 pc2) (kk : rx_J O nL p l e R s m args below meth c Q pc2 lo (.int (xs.getD i.toNatClampNeg 0) :: st) σ) : rx_J O nL p l e R s m args below meth c Q pc lo (.int i :: .ref kz :: st) σ := by
  obtain ⟨hd, rfl⟩ := hd
  obtain ⟨z1, z2, z3⟩ := X.2.2.2.2.2.2.2.2.2 _ hz
  exact fun H locs ls hP hS hlv => va_sld X.1 X.2.1 z2 (va_X_lt z2) z3 hS hin hd (kk H locs ls hP hS hlv)
end RXC
