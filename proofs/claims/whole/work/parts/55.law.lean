/-! ===== the law: both worlds in one heap ===== -/
def lG (Oc Om : rx_O) (p : Program) (s : State) (m : MethodId) (args : Array Value) (meth : Method) (c : Code) (b L : Nat) (xs : Nat → Int32) (NC NS : Nat) : Prop :=
  (p.tables.exec = Jvm.exec ∧ c.code = code ∧ c.maxLocals = 4 ∧ s.vm.findClass RL = some m.cls ∧ ∀ w ∈ rx_tbl, w.before args s = true) ∧ (cb_O Oc ∧ mo_O Om) ∧ (va_K Oc.2.2.1 rx_cl Oc.2.2.2.1 s ∧ va_K Om.2.2.1 rx_cl Om.2.2.2.1 s) ∧ (rx_Z Oc s ∧ rx_Z Om s) ∧ ((∀ q, rx_A Oc q → s.heap.size ≤ q) ∧ ∀ q, rx_A Om q → s.heap.size ≤ q) ∧ (∀ q, rx_A Oc q → ¬ rx_A Om q) ∧ (va_X b L xs s s.heap ∧ b < s.heap.size) ∧ NC ≤ 600000 ∧ NS ≤ 7302250 ∧ L ≤ 3072
def lJ (Oc Om : rx_O) (p : Program) (l : Launch) (e : Env) (s : State) (m : MethodId) (args : Array Value) (below : List Frame) (meth : Method) (c : Code) (Q : State → Prop) (NC NS : Nat) (pc : Nat) (lo : List (Nat × Value)) (st : List Value) (σ ρ : rx_S) : Prop :=
  ∀ (H : Heap) (locs : List Loc) (ls : Array Slot), va_P Oc.2.2.1 rx_cl (rx_w Oc σ) H → va_P Om.2.2.1 rx_cl (rx_w Om ρ) H → va_S (fun q => s.heap.size ≤ q) s.heap H locs → lv_has ls 4 lo → W p l e room_1 s m args below meth c H locs NC NS Q (F0 m pc ls st)
theorem lw_runV {O : rx_O} {n0 maxL ar idx ci N pc NC NS : Nat} {y : MethodName} {bytes : ByteArray} {rty : Option FieldType} {T : u_T} {fs : List Nat} {As st rest : List Value} {Qc : Array Value → State → Outcome → State → Prop} {H : Heap} {locs : List Loc} {ls : Array Slot} {p : Program} {l : Launch} {e : Env} {s : State} {m : MethodId} {args : Array Value} {below : List Frame} {meth : Method} {c : Code} {σ : rx_S} (G : p.tables.exec = Jvm.exec ∧ c.code = code ∧ c.maxLocals = 4 ∧ s.vm.findClass RL = some m.cls ∧ ∀ w ∈ rx_tbl, w.before args s = true) (hN : NC ≤ 600000 ∧ NS ≤ 7302250) (hK : va_K O.2.2.1 rx_cl O.2.2.2.1 s) (hZ : rx_Z O s) (hv : rx_V y bytes maxL rty ar) (hl : Cond.methodLink RL idx y ∈ rx_tbl)
    (hM : Met l y (rx_ws y bytes maxL rty) (rx_lv n0) (rx_Pc O (.ref 0 :: As) σ) Qc 0 0 (rx_A O)) (hk : O.1[0]? = some (.inl (ci, fs))) (hc : rx_cl[ci]? = some (y.cls, T, N)) (hn : As.length = ar) (hR : n0 < 100) (hR2 : maxL ≤ 41) (hd : decode code pc = .ok (.invokevirtual idx, 3)) (hst : As.reverse.map (rx_t O.2.1) ++ .ref (O.2.1 0) :: rest = st) (hW : (rest.map fun v => v.category).sum ≤ 8)
    (hP : va_P O.2.2.1 rx_cl (rx_w O σ) H) (hS : va_S (fun q => s.heap.size ≤ q) s.heap H locs) (hlv : ls.size = 4) :
    va_Run p l e room_1 s m args below meth c H locs NC NS 0 0 (F0 m pc ls st) rest (Qc (Value.ref (O.2.1 0) :: As.map (rx_t O.2.1)).toArray) (rx_A O) := by
  obtain ⟨v1, v2, v3, v4, v5, v6⟩ := hv
  obtain ⟨g1, g2, g3, g4, hts⟩ := G
  have hS' : va_S (rx_A O) s.heap H [] := ⟨hS.1, fun q h1 _ => hS.2.1 q h1 (Nat.not_le.mpr h1), fun _ h => by cases h⟩
  refine va_runV (As := As.map (rx_t O.2.1)) (rest := rest) (C := y.cls) ⟨g1, g2, g3, g4, hts⟩ hM ⟨callB_of ar hts (rx_ws_good v1) rfl rfl rfl (hts _ v4) (hts _ hl) v5 ⟨?_, ?_⟩, hts _ v2, hts _ v3⟩
    ⟨rx_blind O _ σ, va_recv hK hP hc (rx_w_at hk σ), fun U hU hW => ⟨rfl, by rw [hU]; exact hP, va_K.moved hW.alike hK, hZ.moved hS' hU hW.alike⟩⟩ rfl (by rw [List.length_map]; exact hn) hlv ?_ (lv_room hW) hd ⟨hN.1, hN.2⟩
  · show n0 + 1 ≤ 2048
    omega
  · show 8 + (maxL + 11) + 60 * n0 ≤ 84000
    omega
  · show st = _
    rw [← hst, List.map_reverse]
theorem rx_w_A {O : rx_O} {σ : rx_S} {k : Nat} {q : Nat × va_E} (h : (rx_w O σ)[k]? = some q) : rx_A O q.1 := by
  have hl : k < O.1.length := by rw [← rx_w_len O σ]; exact (List.getElem?_eq_some_iff.mp h).1
  rw [rx_w_at (List.getElem?_eq_getElem hl)] at h
  exact ⟨k, hl, by rw [← Option.some.inj h]⟩
section
variable {Oc Om : rx_O} {p : Program} {l : Launch} {e : Env} {s : State} {m : MethodId} {args : Array Value} {below : List Frame} {meth : Method} {c : Code} {Q : State → Prop} {b L NC NS : Nat} {xs : Nat → Int32} {pc pc2 tgt : Nat} {lo : List (Nat × Value)} {st : List Value} {σ ρ : rx_S}
theorem lj_xi (G : lG Oc Om p s m args meth c b L xs NC NS) {n0 maxL ar idx ci N : Nat} {y : MethodName} {bytes : ByteArray} {rty : Option FieldType} {T : u_T} {fs : List Nat} {As rest : List Value} {Post : Int32 → rx_S → Prop} (hv : rx_V y bytes maxL rty ar) (hl : Cond.methodLink RL idx y ∈ rx_tbl) (hM : rx_MI l Oc y bytes maxL rty n0 (.ref 0 :: As) σ Post) (hk : Oc.1[0]? = some (.inl (ci, fs))) (hc : rx_cl[ci]? = some (y.cls, T, N)) (hn : As.length = ar) (hR : n0 < 100) (hR2 : maxL ≤ 41) (hd : rx_D code pc (.invokevirtual idx) 3 pc2) (hst : As.reverse.map (rx_t Oc.2.1) ++ .ref (Oc.2.1 0) :: rest = st) (hW : (rest.map fun v => v.category).sum ≤ 8)
    (kk : ∀ (r : Int32) (τ : rx_S), Post r τ → lJ Oc Om p l e s m args below meth c Q NC NS pc2 lo (.int r :: rest) τ ρ) : lJ Oc Om p l e s m args below meth c Q NC NS pc lo st σ ρ := by
  obtain ⟨hd, rfl⟩ := hd
  exact fun H locs ls hPc hPm hS hl0 => va_calli (lw_runV G.1 ⟨G.2.2.2.2.2.2.2.1, G.2.2.2.2.2.2.2.2.1⟩ G.2.2.1.1 G.2.2.2.1.1 hv hl hM hk hc hn hR hR2 hd hst hW hPc hS hl0.1) hS (fun q _ h => G.2.2.2.2.1.1 q h) (fun q h => G.2.2.2.2.1.1 q h) (fun r u t H1 locs1 ht hvm hp hB hz hk1 hS1 => kk r u hp H1 locs1 ls (by rw [← ht]; exact hB) (hPm.kept (fun k q hq => hk1 q.1 (hPm k q hq).lt (fun z => G.2.2.2.2.2.1 _ z (rx_w_A hq)))) hS1 hl0)
theorem lj_mi (G : lG Oc Om p s m args meth c b L xs NC NS) {n0 maxL ar idx ci N : Nat} {y : MethodName} {bytes : ByteArray} {rty : Option FieldType} {T : u_T} {fs : List Nat} {As rest : List Value} {Post : Int32 → rx_S → Prop} (hv : rx_V y bytes maxL rty ar) (hl : Cond.methodLink RL idx y ∈ rx_tbl) (hM : rx_MI l Om y bytes maxL rty n0 (.ref 0 :: As) ρ Post) (hk : Om.1[0]? = some (.inl (ci, fs))) (hc : rx_cl[ci]? = some (y.cls, T, N)) (hn : As.length = ar) (hR : n0 < 100) (hR2 : maxL ≤ 41) (hd : rx_D code pc (.invokevirtual idx) 3 pc2) (hst : As.reverse.map (rx_t Om.2.1) ++ .ref (Om.2.1 0) :: rest = st) (hW : (rest.map fun v => v.category).sum ≤ 8)
    (kk : ∀ (r : Int32) (τ : rx_S), Post r τ → lJ Oc Om p l e s m args below meth c Q NC NS pc2 lo (.int r :: rest) σ τ) : lJ Oc Om p l e s m args below meth c Q NC NS pc lo st σ ρ := by
  obtain ⟨hd, rfl⟩ := hd
  exact fun H locs ls hPc hPm hS hl0 => va_calli (lw_runV G.1 ⟨G.2.2.2.2.2.2.2.1, G.2.2.2.2.2.2.2.2.1⟩ G.2.2.1.2 G.2.2.2.1.2 hv hl hM hk hc hn hR hR2 hd hst hW hPm hS hl0.1) hS (fun q _ h => G.2.2.2.2.1.2 q h) (fun q h => G.2.2.2.2.1.2 q h) (fun r u t H1 locs1 ht hvm hp hB hz hk1 hS1 => kk r u hp H1 locs1 ls (hPc.kept (fun k q hq => hk1 q.1 (hPc k q hq).lt (fun z => G.2.2.2.2.2.1 _ (rx_w_A hq) z))) (by rw [← ht]; exact hB) hS1 hl0)
theorem lj_xl (G : lG Oc Om p s m args meth c b L xs NC NS) {n0 maxL ar idx ci N : Nat} {y : MethodName} {bytes : ByteArray} {rty : Option FieldType} {T : u_T} {fs : List Nat} {As rest : List Value} {Post : Int64 → rx_S → Prop} (hv : rx_V y bytes maxL rty ar) (hl : Cond.methodLink RL idx y ∈ rx_tbl) (hM : rx_ML l Oc y bytes maxL rty n0 (.ref 0 :: As) σ Post) (hk : Oc.1[0]? = some (.inl (ci, fs))) (hc : rx_cl[ci]? = some (y.cls, T, N)) (hn : As.length = ar) (hR : n0 < 100) (hR2 : maxL ≤ 41) (hd : rx_D code pc (.invokevirtual idx) 3 pc2) (hst : As.reverse.map (rx_t Oc.2.1) ++ .ref (Oc.2.1 0) :: rest = st) (hW : (rest.map fun v => v.category).sum ≤ 8)
    (kk : ∀ (r : Int64) (τ : rx_S), Post r τ → lJ Oc Om p l e s m args below meth c Q NC NS pc2 lo (.long r :: rest) τ ρ) : lJ Oc Om p l e s m args below meth c Q NC NS pc lo st σ ρ := by
  obtain ⟨hd, rfl⟩ := hd
  exact fun H locs ls hPc hPm hS hl0 => va_calll (lw_runV G.1 ⟨G.2.2.2.2.2.2.2.1, G.2.2.2.2.2.2.2.2.1⟩ G.2.2.1.1 G.2.2.2.1.1 hv hl hM hk hc hn hR hR2 hd hst hW hPc hS hl0.1) hS (fun q _ h => G.2.2.2.2.1.1 q h) (fun q h => G.2.2.2.2.1.1 q h) (fun r u t H1 locs1 ht hvm hp hB hz hk1 hS1 => kk r u hp H1 locs1 ls (by rw [← ht]; exact hB) (hPm.kept (fun k q hq => hk1 q.1 (hPm k q hq).lt (fun z => G.2.2.2.2.2.1 _ z (rx_w_A hq)))) hS1 hl0)
theorem lj_ml (G : lG Oc Om p s m args meth c b L xs NC NS) {n0 maxL ar idx ci N : Nat} {y : MethodName} {bytes : ByteArray} {rty : Option FieldType} {T : u_T} {fs : List Nat} {As rest : List Value} {Post : Int64 → rx_S → Prop} (hv : rx_V y bytes maxL rty ar) (hl : Cond.methodLink RL idx y ∈ rx_tbl) (hM : rx_ML l Om y bytes maxL rty n0 (.ref 0 :: As) ρ Post) (hk : Om.1[0]? = some (.inl (ci, fs))) (hc : rx_cl[ci]? = some (y.cls, T, N)) (hn : As.length = ar) (hR : n0 < 100) (hR2 : maxL ≤ 41) (hd : rx_D code pc (.invokevirtual idx) 3 pc2) (hst : As.reverse.map (rx_t Om.2.1) ++ .ref (Om.2.1 0) :: rest = st) (hW : (rest.map fun v => v.category).sum ≤ 8)
    (kk : ∀ (r : Int64) (τ : rx_S), Post r τ → lJ Oc Om p l e s m args below meth c Q NC NS pc2 lo (.long r :: rest) σ τ) : lJ Oc Om p l e s m args below meth c Q NC NS pc lo st σ ρ := by
  obtain ⟨hd, rfl⟩ := hd
  exact fun H locs ls hPc hPm hS hl0 => va_calll (lw_runV G.1 ⟨G.2.2.2.2.2.2.2.1, G.2.2.2.2.2.2.2.2.1⟩ G.2.2.1.2 G.2.2.2.1.2 hv hl hM hk hc hn hR hR2 hd hst hW hPm hS hl0.1) hS (fun q _ h => G.2.2.2.2.1.2 q h) (fun q h => G.2.2.2.2.1.2 q h) (fun r u t H1 locs1 ht hvm hp hB hz hk1 hS1 => kk r u hp H1 locs1 ls (hPc.kept (fun k q hq => hk1 q.1 (hPc k q hq).lt (fun z => G.2.2.2.2.2.1 _ (rx_w_A hq) z))) (by rw [← ht]; exact hB) hS1 hl0)
theorem lj_ld (G : lG Oc Om p s m args meth c b L xs NC NS) {k0 : Fin 4} {x : Nat} (hd : rx_D code pc (.aload_n k0) 1 pc2) (hx : ((k0 : Nat), Value.ref x) ∈ lo) (kk : lJ Oc Om p l e s m args below meth c Q NC NS pc2 lo (.ref x :: st) σ ρ) : lJ Oc Om p l e s m args below meth c Q NC NS pc lo st σ ρ := by
  obtain ⟨hd, rfl⟩ := hd
  exact fun H locs ls hPc hPm hS hl => lv_aload_n G.1.1 G.1.2.1 hd rfl (hl.2.2 _ hx) (kk H locs ls hPc hPm hS hl)
theorem lj_il (G : lG Oc Om p s m args meth c b L xs NC NS) {x : Int32} (hd : rx_D code pc (.iload_n 3) 1 pc2) (hx : (3, Value.int x) ∈ lo) (kk : lJ Oc Om p l e s m args below meth c Q NC NS pc2 lo (.int x :: st) σ ρ) : lJ Oc Om p l e s m args below meth c Q NC NS pc lo st σ ρ := by
  obtain ⟨hd, rfl⟩ := hd
  exact fun H locs ls hPc hPm hS hl => lv_iload_n G.1.1 G.1.2.1 hd rfl (hl.2.2 _ hx) (kk H locs ls hPc hPm hS hl)
theorem lj_sld (G : lG Oc Om p s m args meth c b L xs NC NS) {i : Nat} {v : Int32} (hi : v = nI i) (hL : i < L) (hd : rx_D code pc .iaload 1 pc2) (kk : lJ Oc Om p l e s m args below meth c Q NC NS pc2 lo (.int (xs i) :: st) σ ρ) : lJ Oc Om p l e s m args below meth c Q NC NS pc lo (.int v :: .ref b :: st) σ ρ := by
  obtain ⟨hd, rfl⟩ := hd
  subst hi
  have h9 := G.2.2.2.2.2.2.2.2.2
  refine fun H locs ls hPc hPm hS hl => va_sld G.1.1 G.1.2.1 G.2.2.2.2.2.2.1.1 G.2.2.2.2.2.2.1.2 (Nat.not_le.mpr G.2.2.2.2.2.2.1.2) hS (vp_in_nI hL (by omega)) hd ?_
  rw [nI_clamp (by omega)]
  exact kk H locs ls hPc hPm hS hl
theorem lj_arg (G : lG Oc Om p s m args meth c b L xs NC NS) {i k p1 p2 p3 p4 : Nat} {kn : Int} (h0 : (0, Value.ref b) ∈ lo) (h3 : (3, Value.int (nI i)) ∈ lo) (hk : Int32.ofInt kn = nI k) (hi : i + k < L) (d1 : rx_D code pc (.aload_n 0) 1 p1) (d2 : rx_D code p1 (.iload_n 3) 1 p2) (d3 : rx_D code p2 (.iconst kn) 1 p3) (d4 : rx_D code p3 .iadd 1 p4) (d5 : rx_D code p4 .iaload 1 pc2) (kk : lJ Oc Om p l e s m args below meth c Q NC NS pc2 lo (.int (xs (i + k)) :: st) σ ρ) : lJ Oc Om p l e s m args below meth c Q NC NS pc lo st σ ρ := by
  refine lj_ld G d1 h0 ?_
  refine lj_il G d2 h3 ?_
  obtain ⟨d3, rfl⟩ := d3
  obtain ⟨d4, rfl⟩ := d4
  refine fun H locs ls hPc hPm hS hl => lv_iconst G.1.1 G.1.2.1 d3 hk ?_
  refine lv_iadd G.1.1 G.1.2.1 d4 ?_
  exact lj_sld G (nI_add i k) hi d5 kk H locs ls hPc hPm hS hl
theorem lj_eq (G : lG Oc Om p s m args meth c b L xs NC NS) {x : Int32} {off : Int} (hd : rx_B code pc (.if_icmp .eq off) off pc2 tgt) (kk : lJ Oc Om p l e s m args below meth c Q NC NS tgt lo st σ ρ) : lJ Oc Om p l e s m args below meth c Q NC NS pc lo (.int x :: .int x :: st) σ ρ := by
  obtain ⟨hd, rfl, ht⟩ := hd
  exact fun H locs ls hPc hPm hS hl => lv_icmp_eq G.1.1 G.1.2.1 hd ht (fun _ => kk H locs ls hPc hPm hS hl) (fun h => absurd rfl h)
theorem lj_leq (G : lG Oc Om p s m args meth c b L xs NC NS) {x : Int64} {off : Int} {pc1 : Nat} (h1 : rx_D code pc .lcmp 1 pc1) (hd : rx_B code pc1 (.ifCond .eq off) off pc2 tgt) (kk : lJ Oc Om p l e s m args below meth c Q NC NS tgt lo st σ ρ) : lJ Oc Om p l e s m args below meth c Q NC NS pc lo (.long x :: .long x :: st) σ ρ := by
  obtain ⟨h1, rfl⟩ := h1
  obtain ⟨hd, rfl, ht⟩ := hd
  refine fun H locs ls hPc hPm hS hl => W.lcmp G.1.1 G.1.2.1 h1 ?_
  exact lv_if_eq G.1.1 G.1.2.1 hd ht (fun _ => kk H locs ls hPc hPm hS hl) (fun h => absurd ((lg_cmp_eq x x).mpr rfl) h)
end
section
variable {σ ρ : rx_S}
theorem cR.h18 (h : cR σ ρ) : 0 ≤ (ρ.1 0 18).toInt ∧ (ρ.1 0 18).toInt ≤ 24 := by
  obtain ⟨od, kn, a1, a2, a3, a4, a5, a6, a7⟩ := h.2.2.2.2.1
  rw [a5, nI_toInt (by omega)]
  omega
theorem cR.h9 (h : cR σ ρ) : 0 ≤ (ρ.1 0 9).toInt ∧ (ρ.1 0 9).toInt ≤ 120 := by
  obtain ⟨N, t1, t2, t3, t4, t5⟩ := h.2.2.2.1
  rw [t3, nI_toInt (by omega)]
  omega
theorem cR.h25 (h : cR σ ρ) : 0 ≤ (ρ.1 0 25).toInt ∧ (ρ.1 0 25).toInt ≤ 16 := by
  obtain ⟨n, k1, k2, k3, k4⟩ := h.2.2.2.2.2.2
  rw [k3, nI_toInt (by omega)]
  omega
end
set_option maxHeartbeats 1000000 in
theorem lc_row {Oc Om : rx_O} {p : Program} {l : Launch} {e : Env} {s : State} {m : MethodId} {args : Array Value} {below : List Frame} {meth : Method} {c : Code} {Q : State → Prop} {b L NC NS : Nat} {xs : Nat → Int32} {σ ρ : rx_S} (G : lG Oc Om p s m args meth c b L xs NC NS) {i : Nat} (hi : i + 6 ≤ L) (h : cR σ ρ) (hk : ∀ τ ρ2, cR τ ρ2 → lJ Oc Om p l e s m args below meth c Q NC NS 1392 [(0, .ref b), (1, .ref (Oc.2.1 0)), (2, .ref (Om.2.1 0)), (3, .int (nI i))] [] τ ρ2) : lJ Oc Om p l e s m args below meth c Q NC NS 204 [(0, .ref b), (1, .ref (Oc.2.1 0)), (2, .ref (Om.2.1 0)), (3, .int (nI i))] [] σ ρ := by
  refine lj_ld G dL_law_204 (x := Oc.2.1 0) (by simp) ?_
  refine lj_arg G (i := i) (k := 1) (by simp) (by simp) rfl (by omega) dL_law_205 dL_law_206 dL_law_207 dL_law_208 dL_law_209 ?_
  refine lj_arg G (i := i) (k := 2) (by simp) (by simp) rfl (by omega) dL_law_210 dL_law_211 dL_law_212 dL_law_213 dL_law_214 ?_
  refine lj_arg G (i := i) (k := 3) (by simp) (by simp) rfl (by omega) dL_law_215 dL_law_216 dL_law_217 dL_law_218 dL_law_219 ?_
  refine lj_xi G vsX7_row mlL_13 (kX7_row G.2.1.1 h) (kc_0 G.2.1.1) rfl rfl (by decide) (by decide) dL_law_220 rfl (Nat.zero_le _) (fun r τ hr => ?_)
  refine lj_ld G dL_law_223 (x := Om.2.1 0) (by simp) ?_
  refine lj_arg G (i := i) (k := 1) (by simp) (by simp) rfl (by omega) dL_law_224 dL_law_225 dL_law_226 dL_law_227 dL_law_228 ?_
  refine lj_arg G (i := i) (k := 2) (by simp) (by simp) rfl (by omega) dL_law_229 dL_law_230 dL_law_231 dL_law_232 dL_law_233 ?_
  refine lj_arg G (i := i) (k := 3) (by simp) (by simp) rfl (by omega) dL_law_234 dL_law_235 dL_law_236 dL_law_237 dL_law_238 ?_
  refine lj_mi G vsX8_row mlL_17 (kX8_row G.2.1.2) (km_0 G.2.1.2) rfl rfl (by decide) (by decide) dL_law_239 rfl (Nat.le_of_ble_eq_true rfl) (fun r2 ρ2 hq => ?_)
  obtain ⟨rfl, hc⟩ := hr r2 ρ2 hq
  refine lj_eq G dL_law_242 ?_
  exact hk τ ρ2 hc
set_option maxHeartbeats 1000000 in
theorem lc_set {Oc Om : rx_O} {p : Program} {l : Launch} {e : Env} {s : State} {m : MethodId} {args : Array Value} {below : List Frame} {meth : Method} {c : Code} {Q : State → Prop} {b L NC NS : Nat} {xs : Nat → Int32} {σ ρ : rx_S} (G : lG Oc Om p s m args meth c b L xs NC NS) {i : Nat} (hi : i + 6 ≤ L) (h : cR σ ρ) (hk : ∀ τ ρ2, cR τ ρ2 → lJ Oc Om p l e s m args below meth c Q NC NS 1392 [(0, .ref b), (1, .ref (Oc.2.1 0)), (2, .ref (Om.2.1 0)), (3, .int (nI i))] [] τ ρ2) : lJ Oc Om p l e s m args below meth c Q NC NS 247 [(0, .ref b), (1, .ref (Oc.2.1 0)), (2, .ref (Om.2.1 0)), (3, .int (nI i))] [] σ ρ := by
  refine lj_ld G dL_law_247 (x := Oc.2.1 0) (by simp) ?_
  refine lj_arg G (i := i) (k := 1) (by simp) (by simp) rfl (by omega) dL_law_248 dL_law_249 dL_law_250 dL_law_251 dL_law_252 ?_
  refine lj_arg G (i := i) (k := 2) (by simp) (by simp) rfl (by omega) dL_law_253 dL_law_254 dL_law_255 dL_law_256 dL_law_257 ?_
  refine lj_arg G (i := i) (k := 3) (by simp) (by simp) rfl (by omega) dL_law_258 dL_law_259 dL_law_260 dL_law_261 dL_law_262 ?_
  refine lj_xi G vsX7_set mlL_18 (kX7_set G.2.1.1 h) (kc_0 G.2.1.1) rfl rfl (by decide) (by decide) dL_law_263 rfl (Nat.zero_le _) (fun r τ hr => ?_)
  refine lj_ld G dL_law_266 (x := Om.2.1 0) (by simp) ?_
  refine lj_arg G (i := i) (k := 1) (by simp) (by simp) rfl (by omega) dL_law_267 dL_law_268 dL_law_269 dL_law_270 dL_law_271 ?_
  refine lj_arg G (i := i) (k := 2) (by simp) (by simp) rfl (by omega) dL_law_272 dL_law_273 dL_law_274 dL_law_275 dL_law_276 ?_
  refine lj_arg G (i := i) (k := 3) (by simp) (by simp) rfl (by omega) dL_law_277 dL_law_278 dL_law_279 dL_law_280 dL_law_281 ?_
  refine lj_mi G vsX8_set mlL_21 (kX8_set G.2.1.2 h.2.2.1.1) (km_0 G.2.1.2) rfl rfl (by decide) (by decide) dL_law_282 rfl (Nat.le_of_ble_eq_true rfl) (fun r2 ρ2 hq => ?_)
  obtain ⟨rfl, hc⟩ := hr r2 ρ2 hq
  refine lj_eq G dL_law_285 ?_
  exact hk τ ρ2 hc
set_option maxHeartbeats 1000000 in
theorem lc_copy {Oc Om : rx_O} {p : Program} {l : Launch} {e : Env} {s : State} {m : MethodId} {args : Array Value} {below : List Frame} {meth : Method} {c : Code} {Q : State → Prop} {b L NC NS : Nat} {xs : Nat → Int32} {σ ρ : rx_S} (G : lG Oc Om p s m args meth c b L xs NC NS) {i : Nat} (hi : i + 6 ≤ L) (h : cR σ ρ) (hk : ∀ τ ρ2, cR τ ρ2 → lJ Oc Om p l e s m args below meth c Q NC NS 1392 [(0, .ref b), (1, .ref (Oc.2.1 0)), (2, .ref (Om.2.1 0)), (3, .int (nI i))] [] τ ρ2) : lJ Oc Om p l e s m args below meth c Q NC NS 290 [(0, .ref b), (1, .ref (Oc.2.1 0)), (2, .ref (Om.2.1 0)), (3, .int (nI i))] [] σ ρ := by
  refine lj_ld G dL_law_290 (x := Oc.2.1 0) (by simp) ?_
  refine lj_arg G (i := i) (k := 1) (by simp) (by simp) rfl (by omega) dL_law_291 dL_law_292 dL_law_293 dL_law_294 dL_law_295 ?_
  refine lj_arg G (i := i) (k := 2) (by simp) (by simp) rfl (by omega) dL_law_296 dL_law_297 dL_law_298 dL_law_299 dL_law_300 ?_
  refine lj_arg G (i := i) (k := 3) (by simp) (by simp) rfl (by omega) dL_law_301 dL_law_302 dL_law_303 dL_law_304 dL_law_305 ?_
  refine lj_arg G (i := i) (k := 4) (by simp) (by simp) rfl (by omega) dL_law_306 dL_law_307 dL_law_308 dL_law_309 dL_law_310 ?_
  refine lj_arg G (i := i) (k := 5) (by simp) (by simp) rfl (by omega) dL_law_311 dL_law_312 dL_law_313 dL_law_314 dL_law_315 ?_
  refine lj_xi G vsX7_copy mlL_22 (kX7_copy G.2.1.1 h) (kc_0 G.2.1.1) rfl rfl (by decide) (by decide) dL_law_316 rfl (Nat.zero_le _) (fun r τ hr => ?_)
  refine lj_ld G dL_law_319 (x := Om.2.1 0) (by simp) ?_
  refine lj_arg G (i := i) (k := 1) (by simp) (by simp) rfl (by omega) dL_law_320 dL_law_321 dL_law_322 dL_law_323 dL_law_324 ?_
  refine lj_arg G (i := i) (k := 2) (by simp) (by simp) rfl (by omega) dL_law_325 dL_law_326 dL_law_327 dL_law_328 dL_law_329 ?_
  refine lj_arg G (i := i) (k := 3) (by simp) (by simp) rfl (by omega) dL_law_330 dL_law_331 dL_law_332 dL_law_333 dL_law_334 ?_
  refine lj_arg G (i := i) (k := 4) (by simp) (by simp) rfl (by omega) dL_law_335 dL_law_336 dL_law_337 dL_law_338 dL_law_339 ?_
  refine lj_arg G (i := i) (k := 5) (by simp) (by simp) rfl (by omega) dL_law_340 dL_law_341 dL_law_342 dL_law_343 dL_law_344 ?_
  refine lj_mi G vsX8_copy mlL_26 (kX8_copy G.2.1.2 h.2.2.1.1) (km_0 G.2.1.2) rfl rfl (by decide) (by decide) dL_law_345 rfl (Nat.le_of_ble_eq_true rfl) (fun r2 ρ2 hq => ?_)
  obtain ⟨rfl, hc⟩ := hr r2 ρ2 hq
  refine lj_eq G dL_law_348 ?_
  exact hk τ ρ2 hc
set_option maxHeartbeats 1000000 in
theorem lc_drop {Oc Om : rx_O} {p : Program} {l : Launch} {e : Env} {s : State} {m : MethodId} {args : Array Value} {below : List Frame} {meth : Method} {c : Code} {Q : State → Prop} {b L NC NS : Nat} {xs : Nat → Int32} {σ ρ : rx_S} (G : lG Oc Om p s m args meth c b L xs NC NS) {i : Nat} (hi : i + 6 ≤ L) (h : cR σ ρ) (hk : ∀ τ ρ2, cR τ ρ2 → lJ Oc Om p l e s m args below meth c Q NC NS 1392 [(0, .ref b), (1, .ref (Oc.2.1 0)), (2, .ref (Om.2.1 0)), (3, .int (nI i))] [] τ ρ2) : lJ Oc Om p l e s m args below meth c Q NC NS 353 [(0, .ref b), (1, .ref (Oc.2.1 0)), (2, .ref (Om.2.1 0)), (3, .int (nI i))] [] σ ρ := by
  refine lj_ld G dL_law_353 (x := Oc.2.1 0) (by simp) ?_
  refine lj_arg G (i := i) (k := 1) (by simp) (by simp) rfl (by omega) dL_law_354 dL_law_355 dL_law_356 dL_law_357 dL_law_358 ?_
  refine lj_xi G vsX7_drop mlL_27 (kX7_drop G.2.1.1 h) (kc_0 G.2.1.1) rfl rfl (by decide) (by decide) dL_law_359 rfl (Nat.zero_le _) (fun r τ hr => ?_)
  refine lj_ld G dL_law_362 (x := Om.2.1 0) (by simp) ?_
  refine lj_arg G (i := i) (k := 1) (by simp) (by simp) rfl (by omega) dL_law_363 dL_law_364 dL_law_365 dL_law_366 dL_law_367 ?_
  refine lj_mi G vsX8_drop mlL_31 (kX8_drop G.2.1.2) (km_0 G.2.1.2) rfl rfl (by decide) (by decide) dL_law_368 rfl (Nat.le_of_ble_eq_true rfl) (fun r2 ρ2 hq => ?_)
  obtain ⟨rfl, hc⟩ := hr r2 ρ2 hq
  refine lj_eq G dL_law_371 ?_
  exact hk τ ρ2 hc
set_option maxHeartbeats 1000000 in
theorem lc_feed {Oc Om : rx_O} {p : Program} {l : Launch} {e : Env} {s : State} {m : MethodId} {args : Array Value} {below : List Frame} {meth : Method} {c : Code} {Q : State → Prop} {b L NC NS : Nat} {xs : Nat → Int32} {σ ρ : rx_S} (G : lG Oc Om p s m args meth c b L xs NC NS) {i : Nat} (hi : i + 6 ≤ L) (h : cR σ ρ) (hk : ∀ τ ρ2, cR τ ρ2 → lJ Oc Om p l e s m args below meth c Q NC NS 1392 [(0, .ref b), (1, .ref (Oc.2.1 0)), (2, .ref (Om.2.1 0)), (3, .int (nI i))] [] τ ρ2) : lJ Oc Om p l e s m args below meth c Q NC NS 376 [(0, .ref b), (1, .ref (Oc.2.1 0)), (2, .ref (Om.2.1 0)), (3, .int (nI i))] [] σ ρ := by
  refine lj_ld G dL_law_376 (x := Oc.2.1 0) (by simp) ?_
  refine lj_arg G (i := i) (k := 1) (by simp) (by simp) rfl (by omega) dL_law_377 dL_law_378 dL_law_379 dL_law_380 dL_law_381 ?_
  refine lj_xi G vsX7_feed mlL_32 (kX7_feed G.2.1.1 h) (kc_0 G.2.1.1) rfl rfl (by decide) (by decide) dL_law_382 rfl (Nat.zero_le _) (fun r τ hr => ?_)
  refine lj_ld G dL_law_385 (x := Om.2.1 0) (by simp) ?_
  refine lj_arg G (i := i) (k := 1) (by simp) (by simp) rfl (by omega) dL_law_386 dL_law_387 dL_law_388 dL_law_389 dL_law_390 ?_
  refine lj_mi G vsX8_feed mlL_35 (kX8_feed G.2.1.2 h.h9) (km_0 G.2.1.2) rfl rfl (by decide) (by decide) dL_law_391 rfl (Nat.le_of_ble_eq_true rfl) (fun r2 ρ2 hq => ?_)
  obtain ⟨rfl, hc⟩ := hr r2 ρ2 hq
  refine lj_eq G dL_law_394 ?_
  exact hk τ ρ2 hc
set_option maxHeartbeats 1000000 in
theorem lc_wall {Oc Om : rx_O} {p : Program} {l : Launch} {e : Env} {s : State} {m : MethodId} {args : Array Value} {below : List Frame} {meth : Method} {c : Code} {Q : State → Prop} {b L NC NS : Nat} {xs : Nat → Int32} {σ ρ : rx_S} (G : lG Oc Om p s m args meth c b L xs NC NS) {i : Nat} (hi : i + 6 ≤ L) (h : cR σ ρ) (hk : ∀ τ ρ2, cR τ ρ2 → lJ Oc Om p l e s m args below meth c Q NC NS 1392 [(0, .ref b), (1, .ref (Oc.2.1 0)), (2, .ref (Om.2.1 0)), (3, .int (nI i))] [] τ ρ2) : lJ Oc Om p l e s m args below meth c Q NC NS 399 [(0, .ref b), (1, .ref (Oc.2.1 0)), (2, .ref (Om.2.1 0)), (3, .int (nI i))] [] σ ρ := by
  refine lj_ld G dL_law_399 (x := Oc.2.1 0) (by simp) ?_
  refine lj_xi G vsX7_wall mlL_36 (kX7_wall G.2.1.1 h) (kc_0 G.2.1.1) rfl rfl (by decide) (by decide) dL_law_400 rfl (Nat.zero_le _) (fun r τ hr => ?_)
  refine lj_ld G dL_law_403 (x := Om.2.1 0) (by simp) ?_
  obtain ⟨N, t1, t2, t3, t4, t5⟩ := id h.2.2.2.1
  refine lj_mi G vsX8_wall mlL_40 (kX8_wall G.2.1.2 t3 t1) (km_0 G.2.1.2) rfl rfl (by decide) (by decide) dL_law_404 rfl (Nat.le_of_ble_eq_true rfl) (fun r2 ρ2 hq => ?_)
  obtain ⟨rfl, hc⟩ := hr r2 ρ2 ⟨N, t3, t1, hq⟩
  refine lj_eq G dL_law_407 ?_
  exact hk τ ρ2 hc
set_option maxHeartbeats 1000000 in
theorem lc_fault {Oc Om : rx_O} {p : Program} {l : Launch} {e : Env} {s : State} {m : MethodId} {args : Array Value} {below : List Frame} {meth : Method} {c : Code} {Q : State → Prop} {b L NC NS : Nat} {xs : Nat → Int32} {σ ρ : rx_S} (G : lG Oc Om p s m args meth c b L xs NC NS) {i : Nat} (hi : i + 6 ≤ L) (h : cR σ ρ) (hk : ∀ τ ρ2, cR τ ρ2 → lJ Oc Om p l e s m args below meth c Q NC NS 1392 [(0, .ref b), (1, .ref (Oc.2.1 0)), (2, .ref (Om.2.1 0)), (3, .int (nI i))] [] τ ρ2) : lJ Oc Om p l e s m args below meth c Q NC NS 412 [(0, .ref b), (1, .ref (Oc.2.1 0)), (2, .ref (Om.2.1 0)), (3, .int (nI i))] [] σ ρ := by
  refine lj_ld G dL_law_412 (x := Oc.2.1 0) (by simp) ?_
  refine lj_xi G vsX7_fault mlL_41 (kX7_fault G.2.1.1 h) (kc_0 G.2.1.1) rfl rfl (by decide) (by decide) dL_law_413 rfl (Nat.zero_le _) (fun r τ hr => ?_)
  refine lj_ld G dL_law_416 (x := Om.2.1 0) (by simp) ?_
  refine lj_mi G vsX8_fault mlL_44 (kX8_fault G.2.1.2) (km_0 G.2.1.2) rfl rfl (by decide) (by decide) dL_law_417 rfl (Nat.le_of_ble_eq_true rfl) (fun r2 ρ2 hq => ?_)
  obtain ⟨rfl, hc⟩ := hr r2 ρ2 hq
  refine lj_eq G dL_law_420 ?_
  exact hk τ ρ2 hc
set_option maxHeartbeats 1000000 in
theorem lc_undo {Oc Om : rx_O} {p : Program} {l : Launch} {e : Env} {s : State} {m : MethodId} {args : Array Value} {below : List Frame} {meth : Method} {c : Code} {Q : State → Prop} {b L NC NS : Nat} {xs : Nat → Int32} {σ ρ : rx_S} (G : lG Oc Om p s m args meth c b L xs NC NS) {i : Nat} (hi : i + 6 ≤ L) (h : cR σ ρ) (hk : ∀ τ ρ2, cR τ ρ2 → lJ Oc Om p l e s m args below meth c Q NC NS 1392 [(0, .ref b), (1, .ref (Oc.2.1 0)), (2, .ref (Om.2.1 0)), (3, .int (nI i))] [] τ ρ2) : lJ Oc Om p l e s m args below meth c Q NC NS 425 [(0, .ref b), (1, .ref (Oc.2.1 0)), (2, .ref (Om.2.1 0)), (3, .int (nI i))] [] σ ρ := by
  refine lj_ld G dL_law_425 (x := Oc.2.1 0) (by simp) ?_
  refine lj_xi G vsX7_undo mlL_45 (kX7_undo G.2.1.1 h) (kc_0 G.2.1.1) rfl rfl (by decide) (by decide) dL_law_426 rfl (Nat.zero_le _) (fun r τ hr => ?_)
  refine lj_ld G dL_law_429 (x := Om.2.1 0) (by simp) ?_
  refine lj_mi G vsX8_undo mlL_48 (kX8_undo G.2.1.2 h.h18) (km_0 G.2.1.2) rfl rfl (by decide) (by decide) dL_law_430 rfl (Nat.le_of_ble_eq_true rfl) (fun r2 ρ2 hq => ?_)
  obtain ⟨rfl, hc⟩ := hr r2 ρ2 hq
  refine lj_eq G dL_law_433 ?_
  exact hk τ ρ2 hc
set_option maxHeartbeats 1000000 in
theorem lc_minutes {Oc Om : rx_O} {p : Program} {l : Launch} {e : Env} {s : State} {m : MethodId} {args : Array Value} {below : List Frame} {meth : Method} {c : Code} {Q : State → Prop} {b L NC NS : Nat} {xs : Nat → Int32} {σ ρ : rx_S} (G : lG Oc Om p s m args meth c b L xs NC NS) {i : Nat} (hi : i + 6 ≤ L) (h : cR σ ρ) (hk : ∀ τ ρ2, cR τ ρ2 → lJ Oc Om p l e s m args below meth c Q NC NS 1392 [(0, .ref b), (1, .ref (Oc.2.1 0)), (2, .ref (Om.2.1 0)), (3, .int (nI i))] [] τ ρ2) : lJ Oc Om p l e s m args below meth c Q NC NS 438 [(0, .ref b), (1, .ref (Oc.2.1 0)), (2, .ref (Om.2.1 0)), (3, .int (nI i))] [] σ ρ := by
  refine lj_ld G dL_law_438 (x := Oc.2.1 0) (by simp) ?_
  refine lj_arg G (i := i) (k := 1) (by simp) (by simp) rfl (by omega) dL_law_439 dL_law_440 dL_law_441 dL_law_442 dL_law_443 ?_
  refine lj_xi G vsX7_minutes mlL_49 (kX7_minutes G.2.1.1 h) (kc_0 G.2.1.1) rfl rfl (by decide) (by decide) dL_law_444 rfl (Nat.zero_le _) (fun r τ hr => ?_)
  refine lj_ld G dL_law_447 (x := Om.2.1 0) (by simp) ?_
  refine lj_arg G (i := i) (k := 1) (by simp) (by simp) rfl (by omega) dL_law_448 dL_law_449 dL_law_450 dL_law_451 dL_law_452 ?_
  refine lj_mi G vsX8_minutes mlL_52 (kX8_minutes G.2.1.2 h.1.2.2.2 h.h18) (km_0 G.2.1.2) rfl rfl (by decide) (by decide) dL_law_453 rfl (Nat.le_of_ble_eq_true rfl) (fun r2 ρ2 hq => ?_)
  obtain ⟨rfl, hc⟩ := hr r2 ρ2 hq
  refine lj_eq G dL_law_456 ?_
  exact hk τ ρ2 hc
set_option maxHeartbeats 1000000 in
theorem lc_pull {Oc Om : rx_O} {p : Program} {l : Launch} {e : Env} {s : State} {m : MethodId} {args : Array Value} {below : List Frame} {meth : Method} {c : Code} {Q : State → Prop} {b L NC NS : Nat} {xs : Nat → Int32} {σ ρ : rx_S} (G : lG Oc Om p s m args meth c b L xs NC NS) {i : Nat} (hi : i + 6 ≤ L) (h : cR σ ρ) (hk : ∀ τ ρ2, cR τ ρ2 → lJ Oc Om p l e s m args below meth c Q NC NS 1392 [(0, .ref b), (1, .ref (Oc.2.1 0)), (2, .ref (Om.2.1 0)), (3, .int (nI i))] [] τ ρ2) : lJ Oc Om p l e s m args below meth c Q NC NS 461 [(0, .ref b), (1, .ref (Oc.2.1 0)), (2, .ref (Om.2.1 0)), (3, .int (nI i))] [] σ ρ := by
  refine lj_ld G dL_law_461 (x := Oc.2.1 0) (by simp) ?_
  refine lj_arg G (i := i) (k := 1) (by simp) (by simp) rfl (by omega) dL_law_462 dL_law_463 dL_law_464 dL_law_465 dL_law_466 ?_
  refine lj_arg G (i := i) (k := 2) (by simp) (by simp) rfl (by omega) dL_law_467 dL_law_468 dL_law_469 dL_law_470 dL_law_471 ?_
  refine lj_xi G vsX7_pull mlL_53 (kX7_pull G.2.1.1 h) (kc_0 G.2.1.1) rfl rfl (by decide) (by decide) dL_law_472 rfl (Nat.zero_le _) (fun r τ hr => ?_)
  refine lj_ld G dL_law_475 (x := Om.2.1 0) (by simp) ?_
  refine lj_arg G (i := i) (k := 1) (by simp) (by simp) rfl (by omega) dL_law_476 dL_law_477 dL_law_478 dL_law_479 dL_law_480 ?_
  refine lj_arg G (i := i) (k := 2) (by simp) (by simp) rfl (by omega) dL_law_481 dL_law_482 dL_law_483 dL_law_484 dL_law_485 ?_
  refine lj_mi G vsX8_pull mlL_57 (kX8_pull G.2.1.2 h.1.2.2.2 h.h18) (km_0 G.2.1.2) rfl rfl (by decide) (by decide) dL_law_486 rfl (Nat.le_of_ble_eq_true rfl) (fun r2 ρ2 hq => ?_)
  obtain ⟨rfl, hc⟩ := hr r2 ρ2 hq
  refine lj_eq G dL_law_489 ?_
  exact hk τ ρ2 hc
set_option maxHeartbeats 1000000 in
theorem lc_letGo {Oc Om : rx_O} {p : Program} {l : Launch} {e : Env} {s : State} {m : MethodId} {args : Array Value} {below : List Frame} {meth : Method} {c : Code} {Q : State → Prop} {b L NC NS : Nat} {xs : Nat → Int32} {σ ρ : rx_S} (G : lG Oc Om p s m args meth c b L xs NC NS) {i : Nat} (hi : i + 6 ≤ L) (h : cR σ ρ) (hk : ∀ τ ρ2, cR τ ρ2 → lJ Oc Om p l e s m args below meth c Q NC NS 1392 [(0, .ref b), (1, .ref (Oc.2.1 0)), (2, .ref (Om.2.1 0)), (3, .int (nI i))] [] τ ρ2) : lJ Oc Om p l e s m args below meth c Q NC NS 494 [(0, .ref b), (1, .ref (Oc.2.1 0)), (2, .ref (Om.2.1 0)), (3, .int (nI i))] [] σ ρ := by
  refine lj_ld G dL_law_494 (x := Oc.2.1 0) (by simp) ?_
  refine lj_xi G vsX7_letGo mlL_58 (kX7_letGo G.2.1.1 h) (kc_0 G.2.1.1) rfl rfl (by decide) (by decide) dL_law_495 rfl (Nat.zero_le _) (fun r τ hr => ?_)
  refine lj_ld G dL_law_498 (x := Om.2.1 0) (by simp) ?_
  refine lj_mi G vsX8_letGo mlL_61 (kX8_letGo G.2.1.2 h.h18) (km_0 G.2.1.2) rfl rfl (by decide) (by decide) dL_law_499 rfl (Nat.le_of_ble_eq_true rfl) (fun r2 ρ2 hq => ?_)
  obtain ⟨rfl, hc⟩ := hr r2 ρ2 hq
  refine lj_eq G dL_law_502 ?_
  exact hk τ ρ2 hc
set_option maxHeartbeats 1000000 in
theorem lc_place {Oc Om : rx_O} {p : Program} {l : Launch} {e : Env} {s : State} {m : MethodId} {args : Array Value} {below : List Frame} {meth : Method} {c : Code} {Q : State → Prop} {b L NC NS : Nat} {xs : Nat → Int32} {σ ρ : rx_S} (G : lG Oc Om p s m args meth c b L xs NC NS) {i : Nat} (hi : i + 6 ≤ L) (h : cR σ ρ) (hk : ∀ τ ρ2, cR τ ρ2 → lJ Oc Om p l e s m args below meth c Q NC NS 1392 [(0, .ref b), (1, .ref (Oc.2.1 0)), (2, .ref (Om.2.1 0)), (3, .int (nI i))] [] τ ρ2) : lJ Oc Om p l e s m args below meth c Q NC NS 507 [(0, .ref b), (1, .ref (Oc.2.1 0)), (2, .ref (Om.2.1 0)), (3, .int (nI i))] [] σ ρ := by
  refine lj_ld G dL_law_507 (x := Oc.2.1 0) (by simp) ?_
  refine lj_arg G (i := i) (k := 1) (by simp) (by simp) rfl (by omega) dL_law_508 dL_law_509 dL_law_510 dL_law_511 dL_law_512 ?_
  refine lj_arg G (i := i) (k := 2) (by simp) (by simp) rfl (by omega) dL_law_513 dL_law_514 dL_law_515 dL_law_516 dL_law_517 ?_
  refine lj_xi G vsX7_place mlL_62 (kX7_place G.2.1.1 h) (kc_0 G.2.1.1) rfl rfl (by decide) (by decide) dL_law_518 rfl (Nat.zero_le _) (fun r τ hr => ?_)
  refine lj_ld G dL_law_521 (x := Om.2.1 0) (by simp) ?_
  refine lj_arg G (i := i) (k := 1) (by simp) (by simp) rfl (by omega) dL_law_522 dL_law_523 dL_law_524 dL_law_525 dL_law_526 ?_
  refine lj_arg G (i := i) (k := 2) (by simp) (by simp) rfl (by omega) dL_law_527 dL_law_528 dL_law_529 dL_law_530 dL_law_531 ?_
  refine lj_mi G vsX8_place mlL_65 (kX8_place G.2.1.2 h.1.2.2.2 h.h18) (km_0 G.2.1.2) rfl rfl (by decide) (by decide) dL_law_532 rfl (Nat.le_of_ble_eq_true rfl) (fun r2 ρ2 hq => ?_)
  obtain ⟨rfl, hc⟩ := hr r2 ρ2 hq
  refine lj_eq G dL_law_535 ?_
  exact hk τ ρ2 hc
set_option maxHeartbeats 1000000 in
theorem lc_step {Oc Om : rx_O} {p : Program} {l : Launch} {e : Env} {s : State} {m : MethodId} {args : Array Value} {below : List Frame} {meth : Method} {c : Code} {Q : State → Prop} {b L NC NS : Nat} {xs : Nat → Int32} {σ ρ : rx_S} (G : lG Oc Om p s m args meth c b L xs NC NS) {i : Nat} (hi : i + 6 ≤ L) (h : cR σ ρ) (hk : ∀ τ ρ2, cR τ ρ2 → lJ Oc Om p l e s m args below meth c Q NC NS 1392 [(0, .ref b), (1, .ref (Oc.2.1 0)), (2, .ref (Om.2.1 0)), (3, .int (nI i))] [] τ ρ2) : lJ Oc Om p l e s m args below meth c Q NC NS 540 [(0, .ref b), (1, .ref (Oc.2.1 0)), (2, .ref (Om.2.1 0)), (3, .int (nI i))] [] σ ρ := by
  refine lj_ld G dL_law_540 (x := Oc.2.1 0) (by simp) ?_
  refine lj_arg G (i := i) (k := 1) (by simp) (by simp) rfl (by omega) dL_law_541 dL_law_542 dL_law_543 dL_law_544 dL_law_545 ?_
  refine lj_arg G (i := i) (k := 2) (by simp) (by simp) rfl (by omega) dL_law_546 dL_law_547 dL_law_548 dL_law_549 dL_law_550 ?_
  refine lj_xi G vsX7_step mlL_66 (kX7_step G.2.1.1 h) (kc_0 G.2.1.1) rfl rfl (by decide) (by decide) dL_law_551 rfl (Nat.zero_le _) (fun r τ hr => ?_)
  refine lj_ld G dL_law_554 (x := Om.2.1 0) (by simp) ?_
  refine lj_arg G (i := i) (k := 1) (by simp) (by simp) rfl (by omega) dL_law_555 dL_law_556 dL_law_557 dL_law_558 dL_law_559 ?_
  refine lj_arg G (i := i) (k := 2) (by simp) (by simp) rfl (by omega) dL_law_560 dL_law_561 dL_law_562 dL_law_563 dL_law_564 ?_
  refine lj_mi G vsX8_step mlL_69 (kX8_step G.2.1.2 h.1.2.2.2 h.h18) (km_0 G.2.1.2) rfl rfl (by decide) (by decide) dL_law_565 rfl (Nat.le_of_ble_eq_true rfl) (fun r2 ρ2 hq => ?_)
  obtain ⟨rfl, hc⟩ := hr r2 ρ2 hq
  refine lj_eq G dL_law_568 ?_
  exact hk τ ρ2 hc
set_option maxHeartbeats 1000000 in
theorem lc_ant {Oc Om : rx_O} {p : Program} {l : Launch} {e : Env} {s : State} {m : MethodId} {args : Array Value} {below : List Frame} {meth : Method} {c : Code} {Q : State → Prop} {b L NC NS : Nat} {xs : Nat → Int32} {σ ρ : rx_S} (G : lG Oc Om p s m args meth c b L xs NC NS) {i : Nat} (hi : i + 6 ≤ L) (h : cR σ ρ) (hk : ∀ τ ρ2, cR τ ρ2 → lJ Oc Om p l e s m args below meth c Q NC NS 1392 [(0, .ref b), (1, .ref (Oc.2.1 0)), (2, .ref (Om.2.1 0)), (3, .int (nI i))] [] τ ρ2) : lJ Oc Om p l e s m args below meth c Q NC NS 573 [(0, .ref b), (1, .ref (Oc.2.1 0)), (2, .ref (Om.2.1 0)), (3, .int (nI i))] [] σ ρ := by
  refine lj_ld G dL_law_573 (x := Oc.2.1 0) (by simp) ?_
  refine lj_arg G (i := i) (k := 1) (by simp) (by simp) rfl (by omega) dL_law_574 dL_law_575 dL_law_576 dL_law_577 dL_law_578 ?_
  refine lj_arg G (i := i) (k := 2) (by simp) (by simp) rfl (by omega) dL_law_579 dL_law_580 dL_law_581 dL_law_582 dL_law_583 ?_
  refine lj_xi G vsX7_ant mlL_70 (kX7_ant G.2.1.1 h) (kc_0 G.2.1.1) rfl rfl (by decide) (by decide) dL_law_584 rfl (Nat.zero_le _) (fun r τ hr => ?_)
  refine lj_ld G dL_law_587 (x := Om.2.1 0) (by simp) ?_
  refine lj_arg G (i := i) (k := 1) (by simp) (by simp) rfl (by omega) dL_law_588 dL_law_589 dL_law_590 dL_law_591 dL_law_592 ?_
  refine lj_arg G (i := i) (k := 2) (by simp) (by simp) rfl (by omega) dL_law_593 dL_law_594 dL_law_595 dL_law_596 dL_law_597 ?_
  refine lj_mi G vsX8_ant mlL_73 (kX8_ant G.2.1.2 h.1.2.2.2) (km_0 G.2.1.2) rfl rfl (by decide) (by decide) dL_law_598 rfl (Nat.le_of_ble_eq_true rfl) (fun r2 ρ2 hq => ?_)
  obtain ⟨rfl, hc⟩ := hr r2 ρ2 hq
  refine lj_eq G dL_law_601 ?_
  exact hk τ ρ2 hc
set_option maxHeartbeats 1000000 in
theorem lc_pulls {Oc Om : rx_O} {p : Program} {l : Launch} {e : Env} {s : State} {m : MethodId} {args : Array Value} {below : List Frame} {meth : Method} {c : Code} {Q : State → Prop} {b L NC NS : Nat} {xs : Nat → Int32} {σ ρ : rx_S} (G : lG Oc Om p s m args meth c b L xs NC NS) {i : Nat} (hi : i + 6 ≤ L) (h : cR σ ρ) (hk : ∀ τ ρ2, cR τ ρ2 → lJ Oc Om p l e s m args below meth c Q NC NS 1392 [(0, .ref b), (1, .ref (Oc.2.1 0)), (2, .ref (Om.2.1 0)), (3, .int (nI i))] [] τ ρ2) : lJ Oc Om p l e s m args below meth c Q NC NS 606 [(0, .ref b), (1, .ref (Oc.2.1 0)), (2, .ref (Om.2.1 0)), (3, .int (nI i))] [] σ ρ := by
  refine lj_ld G dL_law_606 (x := Oc.2.1 0) (by simp) ?_
  refine lj_arg G (i := i) (k := 1) (by simp) (by simp) rfl (by omega) dL_law_607 dL_law_608 dL_law_609 dL_law_610 dL_law_611 ?_
  refine lj_xi G vsX7_pulls mlL_74 (kX7_pulls G.2.1.1 h) (kc_0 G.2.1.1) rfl rfl (by decide) (by decide) dL_law_612 rfl (Nat.zero_le _) (fun r τ hr => ?_)
  refine lj_ld G dL_law_615 (x := Om.2.1 0) (by simp) ?_
  refine lj_arg G (i := i) (k := 1) (by simp) (by simp) rfl (by omega) dL_law_616 dL_law_617 dL_law_618 dL_law_619 dL_law_620 ?_
  refine lj_mi G vsX8_pulls mlL_77 (kX8_pulls G.2.1.2 h.1.2.2.2) (km_0 G.2.1.2) rfl rfl (by decide) (by decide) dL_law_621 rfl (Nat.le_of_ble_eq_true rfl) (fun r2 ρ2 hq => ?_)
  obtain ⟨rfl, hc⟩ := hr r2 ρ2 hq
  refine lj_eq G dL_law_624 ?_
  exact hk τ ρ2 hc
set_option maxHeartbeats 1000000 in
theorem lc_ahead {Oc Om : rx_O} {p : Program} {l : Launch} {e : Env} {s : State} {m : MethodId} {args : Array Value} {below : List Frame} {meth : Method} {c : Code} {Q : State → Prop} {b L NC NS : Nat} {xs : Nat → Int32} {σ ρ : rx_S} (G : lG Oc Om p s m args meth c b L xs NC NS) {i : Nat} (hi : i + 6 ≤ L) (h : cR σ ρ) (hk : ∀ τ ρ2, cR τ ρ2 → lJ Oc Om p l e s m args below meth c Q NC NS 1392 [(0, .ref b), (1, .ref (Oc.2.1 0)), (2, .ref (Om.2.1 0)), (3, .int (nI i))] [] τ ρ2) : lJ Oc Om p l e s m args below meth c Q NC NS 629 [(0, .ref b), (1, .ref (Oc.2.1 0)), (2, .ref (Om.2.1 0)), (3, .int (nI i))] [] σ ρ := by
  refine lj_ld G dL_law_629 (x := Oc.2.1 0) (by simp) ?_
  refine lj_arg G (i := i) (k := 1) (by simp) (by simp) rfl (by omega) dL_law_630 dL_law_631 dL_law_632 dL_law_633 dL_law_634 ?_
  refine lj_arg G (i := i) (k := 2) (by simp) (by simp) rfl (by omega) dL_law_635 dL_law_636 dL_law_637 dL_law_638 dL_law_639 ?_
  refine lj_xi G vsX7_ahead mlL_78 (kX7_ahead G.2.1.1 h) (kc_0 G.2.1.1) rfl rfl (by decide) (by decide) dL_law_640 rfl (Nat.zero_le _) (fun r τ hr => ?_)
  refine lj_ld G dL_law_643 (x := Om.2.1 0) (by simp) ?_
  refine lj_arg G (i := i) (k := 1) (by simp) (by simp) rfl (by omega) dL_law_644 dL_law_645 dL_law_646 dL_law_647 dL_law_648 ?_
  refine lj_arg G (i := i) (k := 2) (by simp) (by simp) rfl (by omega) dL_law_649 dL_law_650 dL_law_651 dL_law_652 dL_law_653 ?_
  refine lj_mi G vsX8_ahead mlL_81 (kX8_ahead G.2.1.2 h.1.2.2.2) (km_0 G.2.1.2) rfl rfl (by decide) (by decide) dL_law_654 rfl (Nat.le_of_ble_eq_true rfl) (fun r2 ρ2 hq => ?_)
  obtain ⟨rfl, hc⟩ := hr r2 ρ2 hq
  refine lj_eq G dL_law_657 ?_
  exact hk τ ρ2 hc
set_option maxHeartbeats 1000000 in
theorem lc_band {Oc Om : rx_O} {p : Program} {l : Launch} {e : Env} {s : State} {m : MethodId} {args : Array Value} {below : List Frame} {meth : Method} {c : Code} {Q : State → Prop} {b L NC NS : Nat} {xs : Nat → Int32} {σ ρ : rx_S} (G : lG Oc Om p s m args meth c b L xs NC NS) {i : Nat} (hi : i + 6 ≤ L) (h : cR σ ρ) (hk : ∀ τ ρ2, cR τ ρ2 → lJ Oc Om p l e s m args below meth c Q NC NS 1392 [(0, .ref b), (1, .ref (Oc.2.1 0)), (2, .ref (Om.2.1 0)), (3, .int (nI i))] [] τ ρ2) : lJ Oc Om p l e s m args below meth c Q NC NS 662 [(0, .ref b), (1, .ref (Oc.2.1 0)), (2, .ref (Om.2.1 0)), (3, .int (nI i))] [] σ ρ := by
  refine lj_ld G dL_law_662 (x := Oc.2.1 0) (by simp) ?_
  refine lj_arg G (i := i) (k := 1) (by simp) (by simp) rfl (by omega) dL_law_663 dL_law_664 dL_law_665 dL_law_666 dL_law_667 ?_
  refine lj_arg G (i := i) (k := 2) (by simp) (by simp) rfl (by omega) dL_law_668 dL_law_669 dL_law_670 dL_law_671 dL_law_672 ?_
  refine lj_xi G vsX7_band mlL_82 (kX7_band G.2.1.1 h) (kc_0 G.2.1.1) rfl rfl (by decide) (by decide) dL_law_673 rfl (Nat.zero_le _) (fun r τ hr => ?_)
  refine lj_ld G dL_law_676 (x := Om.2.1 0) (by simp) ?_
  refine lj_arg G (i := i) (k := 1) (by simp) (by simp) rfl (by omega) dL_law_677 dL_law_678 dL_law_679 dL_law_680 dL_law_681 ?_
  refine lj_arg G (i := i) (k := 2) (by simp) (by simp) rfl (by omega) dL_law_682 dL_law_683 dL_law_684 dL_law_685 dL_law_686 ?_
  refine lj_mi G vsX8_band mlL_85 (kX8_band G.2.1.2 h.1.2.2.2) (km_0 G.2.1.2) rfl rfl (by decide) (by decide) dL_law_687 rfl (Nat.le_of_ble_eq_true rfl) (fun r2 ρ2 hq => ?_)
  obtain ⟨rfl, hc⟩ := hr r2 ρ2 hq
  refine lj_eq G dL_law_690 ?_
  exact hk τ ρ2 hc
set_option maxHeartbeats 1000000 in
theorem lc_arrives {Oc Om : rx_O} {p : Program} {l : Launch} {e : Env} {s : State} {m : MethodId} {args : Array Value} {below : List Frame} {meth : Method} {c : Code} {Q : State → Prop} {b L NC NS : Nat} {xs : Nat → Int32} {σ ρ : rx_S} (G : lG Oc Om p s m args meth c b L xs NC NS) {i : Nat} (hi : i + 6 ≤ L) (h : cR σ ρ) (hk : ∀ τ ρ2, cR τ ρ2 → lJ Oc Om p l e s m args below meth c Q NC NS 1392 [(0, .ref b), (1, .ref (Oc.2.1 0)), (2, .ref (Om.2.1 0)), (3, .int (nI i))] [] τ ρ2) : lJ Oc Om p l e s m args below meth c Q NC NS 695 [(0, .ref b), (1, .ref (Oc.2.1 0)), (2, .ref (Om.2.1 0)), (3, .int (nI i))] [] σ ρ := by
  refine lj_ld G dL_law_695 (x := Oc.2.1 0) (by simp) ?_
  refine lj_arg G (i := i) (k := 1) (by simp) (by simp) rfl (by omega) dL_law_696 dL_law_697 dL_law_698 dL_law_699 dL_law_700 ?_
  refine lj_xi G vsX7_arrives mlL_86 (kX7_arrives G.2.1.1 h) (kc_0 G.2.1.1) rfl rfl (by decide) (by decide) dL_law_701 rfl (Nat.zero_le _) (fun r τ hr => ?_)
  refine lj_ld G dL_law_704 (x := Om.2.1 0) (by simp) ?_
  refine lj_arg G (i := i) (k := 1) (by simp) (by simp) rfl (by omega) dL_law_705 dL_law_706 dL_law_707 dL_law_708 dL_law_709 ?_
  refine lj_mi G vsX8_arrives mlL_89 (kX8_arrives G.2.1.2 h.1.2.2.2) (km_0 G.2.1.2) rfl rfl (by decide) (by decide) dL_law_710 rfl (Nat.le_of_ble_eq_true rfl) (fun r2 ρ2 hq => ?_)
  obtain ⟨rfl, hc⟩ := hr r2 ρ2 hq
  refine lj_eq G dL_law_713 ?_
  exact hk τ ρ2 hc
set_option maxHeartbeats 1000000 in
theorem lc_leads {Oc Om : rx_O} {p : Program} {l : Launch} {e : Env} {s : State} {m : MethodId} {args : Array Value} {below : List Frame} {meth : Method} {c : Code} {Q : State → Prop} {b L NC NS : Nat} {xs : Nat → Int32} {σ ρ : rx_S} (G : lG Oc Om p s m args meth c b L xs NC NS) {i : Nat} (hi : i + 6 ≤ L) (h : cR σ ρ) (hk : ∀ τ ρ2, cR τ ρ2 → lJ Oc Om p l e s m args below meth c Q NC NS 1392 [(0, .ref b), (1, .ref (Oc.2.1 0)), (2, .ref (Om.2.1 0)), (3, .int (nI i))] [] τ ρ2) : lJ Oc Om p l e s m args below meth c Q NC NS 718 [(0, .ref b), (1, .ref (Oc.2.1 0)), (2, .ref (Om.2.1 0)), (3, .int (nI i))] [] σ ρ := by
  refine lj_ld G dL_law_718 (x := Oc.2.1 0) (by simp) ?_
  refine lj_arg G (i := i) (k := 1) (by simp) (by simp) rfl (by omega) dL_law_719 dL_law_720 dL_law_721 dL_law_722 dL_law_723 ?_
  refine lj_xi G vsX7_leads mlL_90 (kX7_leads G.2.1.1 h) (kc_0 G.2.1.1) rfl rfl (by decide) (by decide) dL_law_724 rfl (Nat.zero_le _) (fun r τ hr => ?_)
  refine lj_ld G dL_law_727 (x := Om.2.1 0) (by simp) ?_
  refine lj_arg G (i := i) (k := 1) (by simp) (by simp) rfl (by omega) dL_law_728 dL_law_729 dL_law_730 dL_law_731 dL_law_732 ?_
  refine lj_mi G vsX8_leads mlL_93 (kX8_leads G.2.1.2 h.1.2.2.2) (km_0 G.2.1.2) rfl rfl (by decide) (by decide) dL_law_733 rfl (Nat.le_of_ble_eq_true rfl) (fun r2 ρ2 hq => ?_)
  obtain ⟨rfl, hc⟩ := hr r2 ρ2 hq
  refine lj_eq G dL_law_736 ?_
  exact hk τ ρ2 hc
set_option maxHeartbeats 1000000 in
theorem lc_meet {Oc Om : rx_O} {p : Program} {l : Launch} {e : Env} {s : State} {m : MethodId} {args : Array Value} {below : List Frame} {meth : Method} {c : Code} {Q : State → Prop} {b L NC NS : Nat} {xs : Nat → Int32} {σ ρ : rx_S} (G : lG Oc Om p s m args meth c b L xs NC NS) {i : Nat} (hi : i + 6 ≤ L) (h : cR σ ρ) (hk : ∀ τ ρ2, cR τ ρ2 → lJ Oc Om p l e s m args below meth c Q NC NS 1392 [(0, .ref b), (1, .ref (Oc.2.1 0)), (2, .ref (Om.2.1 0)), (3, .int (nI i))] [] τ ρ2) : lJ Oc Om p l e s m args below meth c Q NC NS 741 [(0, .ref b), (1, .ref (Oc.2.1 0)), (2, .ref (Om.2.1 0)), (3, .int (nI i))] [] σ ρ := by
  refine lj_ld G dL_law_741 (x := Oc.2.1 0) (by simp) ?_
  refine lj_arg G (i := i) (k := 1) (by simp) (by simp) rfl (by omega) dL_law_742 dL_law_743 dL_law_744 dL_law_745 dL_law_746 ?_
  refine lj_arg G (i := i) (k := 2) (by simp) (by simp) rfl (by omega) dL_law_747 dL_law_748 dL_law_749 dL_law_750 dL_law_751 ?_
  refine lj_xi G vsX7_meet mlL_94 (kX7_meet G.2.1.1 h) (kc_0 G.2.1.1) rfl rfl (by decide) (by decide) dL_law_752 rfl (Nat.zero_le _) (fun r τ hr => ?_)
  refine lj_ld G dL_law_755 (x := Om.2.1 0) (by simp) ?_
  refine lj_arg G (i := i) (k := 1) (by simp) (by simp) rfl (by omega) dL_law_756 dL_law_757 dL_law_758 dL_law_759 dL_law_760 ?_
  refine lj_arg G (i := i) (k := 2) (by simp) (by simp) rfl (by omega) dL_law_761 dL_law_762 dL_law_763 dL_law_764 dL_law_765 ?_
  refine lj_mi G vsX8_meet mlL_97 (kX8_meet G.2.1.2 h.1.2.2.2) (km_0 G.2.1.2) rfl rfl (by decide) (by decide) dL_law_766 rfl (Nat.le_of_ble_eq_true rfl) (fun r2 ρ2 hq => ?_)
  obtain ⟨rfl, hc⟩ := hr r2 ρ2 hq
  refine lj_eq G dL_law_769 ?_
  exact hk τ ρ2 hc
set_option maxHeartbeats 1000000 in
theorem lc_fast {Oc Om : rx_O} {p : Program} {l : Launch} {e : Env} {s : State} {m : MethodId} {args : Array Value} {below : List Frame} {meth : Method} {c : Code} {Q : State → Prop} {b L NC NS : Nat} {xs : Nat → Int32} {σ ρ : rx_S} (G : lG Oc Om p s m args meth c b L xs NC NS) {i : Nat} (hi : i + 6 ≤ L) (h : cR σ ρ) (hk : ∀ τ ρ2, cR τ ρ2 → lJ Oc Om p l e s m args below meth c Q NC NS 1392 [(0, .ref b), (1, .ref (Oc.2.1 0)), (2, .ref (Om.2.1 0)), (3, .int (nI i))] [] τ ρ2) : lJ Oc Om p l e s m args below meth c Q NC NS 774 [(0, .ref b), (1, .ref (Oc.2.1 0)), (2, .ref (Om.2.1 0)), (3, .int (nI i))] [] σ ρ := by
  refine lj_ld G dL_law_774 (x := Oc.2.1 0) (by simp) ?_
  refine lj_arg G (i := i) (k := 1) (by simp) (by simp) rfl (by omega) dL_law_775 dL_law_776 dL_law_777 dL_law_778 dL_law_779 ?_
  refine lj_arg G (i := i) (k := 2) (by simp) (by simp) rfl (by omega) dL_law_780 dL_law_781 dL_law_782 dL_law_783 dL_law_784 ?_
  refine lj_xi G vsX7_fast mlL_98 (kX7_fast G.2.1.1 h) (kc_0 G.2.1.1) rfl rfl (by decide) (by decide) dL_law_785 rfl (Nat.zero_le _) (fun r τ hr => ?_)
  refine lj_ld G dL_law_788 (x := Om.2.1 0) (by simp) ?_
  refine lj_arg G (i := i) (k := 1) (by simp) (by simp) rfl (by omega) dL_law_789 dL_law_790 dL_law_791 dL_law_792 dL_law_793 ?_
  refine lj_arg G (i := i) (k := 2) (by simp) (by simp) rfl (by omega) dL_law_794 dL_law_795 dL_law_796 dL_law_797 dL_law_798 ?_
  refine lj_mi G vsX8_fast mlL_101 (kX8_fast G.2.1.2 h.1.2.2.2) (km_0 G.2.1.2) rfl rfl (by decide) (by decide) dL_law_799 rfl (Nat.le_of_ble_eq_true rfl) (fun r2 ρ2 hq => ?_)
  obtain ⟨rfl, hc⟩ := hr r2 ρ2 hq
  refine lj_eq G dL_law_802 ?_
  exact hk τ ρ2 hc
set_option maxHeartbeats 1000000 in
theorem lc_pullFor {Oc Om : rx_O} {p : Program} {l : Launch} {e : Env} {s : State} {m : MethodId} {args : Array Value} {below : List Frame} {meth : Method} {c : Code} {Q : State → Prop} {b L NC NS : Nat} {xs : Nat → Int32} {σ ρ : rx_S} (G : lG Oc Om p s m args meth c b L xs NC NS) {i : Nat} (hi : i + 6 ≤ L) (h : cR σ ρ) (hk : ∀ τ ρ2, cR τ ρ2 → lJ Oc Om p l e s m args below meth c Q NC NS 1392 [(0, .ref b), (1, .ref (Oc.2.1 0)), (2, .ref (Om.2.1 0)), (3, .int (nI i))] [] τ ρ2) : lJ Oc Om p l e s m args below meth c Q NC NS 807 [(0, .ref b), (1, .ref (Oc.2.1 0)), (2, .ref (Om.2.1 0)), (3, .int (nI i))] [] σ ρ := by
  refine lj_ld G dL_law_807 (x := Oc.2.1 0) (by simp) ?_
  refine lj_arg G (i := i) (k := 1) (by simp) (by simp) rfl (by omega) dL_law_808 dL_law_809 dL_law_810 dL_law_811 dL_law_812 ?_
  refine lj_arg G (i := i) (k := 2) (by simp) (by simp) rfl (by omega) dL_law_813 dL_law_814 dL_law_815 dL_law_816 dL_law_817 ?_
  refine lj_xi G vsX7_pullFor mlL_102 (kX7_pullFor G.2.1.1 h) (kc_0 G.2.1.1) rfl rfl (by decide) (by decide) dL_law_818 rfl (Nat.zero_le _) (fun r τ hr => ?_)
  refine lj_ld G dL_law_821 (x := Om.2.1 0) (by simp) ?_
  refine lj_arg G (i := i) (k := 1) (by simp) (by simp) rfl (by omega) dL_law_822 dL_law_823 dL_law_824 dL_law_825 dL_law_826 ?_
  refine lj_arg G (i := i) (k := 2) (by simp) (by simp) rfl (by omega) dL_law_827 dL_law_828 dL_law_829 dL_law_830 dL_law_831 ?_
  refine lj_mi G vsX8_pullFor mlL_105 (kX8_pullFor G.2.1.2 h.1.2.2.2) (km_0 G.2.1.2) rfl rfl (by decide) (by decide) dL_law_832 rfl (Nat.le_of_ble_eq_true rfl) (fun r2 ρ2 hq => ?_)
  obtain ⟨rfl, hc⟩ := hr r2 ρ2 hq
  refine lj_eq G dL_law_835 ?_
  exact hk τ ρ2 hc
set_option maxHeartbeats 1000000 in
theorem lc_order {Oc Om : rx_O} {p : Program} {l : Launch} {e : Env} {s : State} {m : MethodId} {args : Array Value} {below : List Frame} {meth : Method} {c : Code} {Q : State → Prop} {b L NC NS : Nat} {xs : Nat → Int32} {σ ρ : rx_S} (G : lG Oc Om p s m args meth c b L xs NC NS) {i : Nat} (hi : i + 6 ≤ L) (h : cR σ ρ) (hk : ∀ τ ρ2, cR τ ρ2 → lJ Oc Om p l e s m args below meth c Q NC NS 1392 [(0, .ref b), (1, .ref (Oc.2.1 0)), (2, .ref (Om.2.1 0)), (3, .int (nI i))] [] τ ρ2) : lJ Oc Om p l e s m args below meth c Q NC NS 840 [(0, .ref b), (1, .ref (Oc.2.1 0)), (2, .ref (Om.2.1 0)), (3, .int (nI i))] [] σ ρ := by
  refine lj_ld G dL_law_840 (x := Oc.2.1 0) (by simp) ?_
  refine lj_arg G (i := i) (k := 1) (by simp) (by simp) rfl (by omega) dL_law_841 dL_law_842 dL_law_843 dL_law_844 dL_law_845 ?_
  refine lj_arg G (i := i) (k := 2) (by simp) (by simp) rfl (by omega) dL_law_846 dL_law_847 dL_law_848 dL_law_849 dL_law_850 ?_
  refine lj_arg G (i := i) (k := 3) (by simp) (by simp) rfl (by omega) dL_law_851 dL_law_852 dL_law_853 dL_law_854 dL_law_855 ?_
  refine lj_xi G vsX7_order mlL_106 (kX7_order G.2.1.1 h) (kc_0 G.2.1.1) rfl rfl (by decide) (by decide) dL_law_856 rfl (Nat.zero_le _) (fun r τ hr => ?_)
  refine lj_ld G dL_law_859 (x := Om.2.1 0) (by simp) ?_
  refine lj_arg G (i := i) (k := 1) (by simp) (by simp) rfl (by omega) dL_law_860 dL_law_861 dL_law_862 dL_law_863 dL_law_864 ?_
  refine lj_arg G (i := i) (k := 2) (by simp) (by simp) rfl (by omega) dL_law_865 dL_law_866 dL_law_867 dL_law_868 dL_law_869 ?_
  refine lj_arg G (i := i) (k := 3) (by simp) (by simp) rfl (by omega) dL_law_870 dL_law_871 dL_law_872 dL_law_873 dL_law_874 ?_
  refine lj_mi G vsX8_order mlL_109 (kX8_order G.2.1.2 h.1.2.2.2) (km_0 G.2.1.2) rfl rfl (by decide) (by decide) dL_law_875 rfl (Nat.le_of_ble_eq_true rfl) (fun r2 ρ2 hq => ?_)
  obtain ⟨rfl, hc⟩ := hr r2 ρ2 hq
  refine lj_eq G dL_law_878 ?_
  exact hk τ ρ2 hc
set_option maxHeartbeats 1000000 in
theorem lc_half {Oc Om : rx_O} {p : Program} {l : Launch} {e : Env} {s : State} {m : MethodId} {args : Array Value} {below : List Frame} {meth : Method} {c : Code} {Q : State → Prop} {b L NC NS : Nat} {xs : Nat → Int32} {σ ρ : rx_S} (G : lG Oc Om p s m args meth c b L xs NC NS) {i : Nat} (hi : i + 6 ≤ L) (h : cR σ ρ) (hk : ∀ τ ρ2, cR τ ρ2 → lJ Oc Om p l e s m args below meth c Q NC NS 1392 [(0, .ref b), (1, .ref (Oc.2.1 0)), (2, .ref (Om.2.1 0)), (3, .int (nI i))] [] τ ρ2) : lJ Oc Om p l e s m args below meth c Q NC NS 883 [(0, .ref b), (1, .ref (Oc.2.1 0)), (2, .ref (Om.2.1 0)), (3, .int (nI i))] [] σ ρ := by
  refine lj_ld G dL_law_883 (x := Oc.2.1 0) (by simp) ?_
  refine lj_arg G (i := i) (k := 1) (by simp) (by simp) rfl (by omega) dL_law_884 dL_law_885 dL_law_886 dL_law_887 dL_law_888 ?_
  refine lj_xi G vsX7_half mlL_110 (kX7_half G.2.1.1 h) (kc_0 G.2.1.1) rfl rfl (by decide) (by decide) dL_law_889 rfl (Nat.zero_le _) (fun r τ hr => ?_)
  refine lj_ld G dL_law_892 (x := Om.2.1 0) (by simp) ?_
  refine lj_arg G (i := i) (k := 1) (by simp) (by simp) rfl (by omega) dL_law_893 dL_law_894 dL_law_895 dL_law_896 dL_law_897 ?_
  refine lj_mi G vsX8_half mlL_113 (kX8_half G.2.1.2 h.1.2.2.2) (km_0 G.2.1.2) rfl rfl (by decide) (by decide) dL_law_898 rfl (Nat.le_of_ble_eq_true rfl) (fun r2 ρ2 hq => ?_)
  obtain ⟨rfl, hc⟩ := hr r2 ρ2 hq
  refine lj_eq G dL_law_901 ?_
  exact hk τ ρ2 hc
set_option maxHeartbeats 1000000 in
theorem lc_rest {Oc Om : rx_O} {p : Program} {l : Launch} {e : Env} {s : State} {m : MethodId} {args : Array Value} {below : List Frame} {meth : Method} {c : Code} {Q : State → Prop} {b L NC NS : Nat} {xs : Nat → Int32} {σ ρ : rx_S} (G : lG Oc Om p s m args meth c b L xs NC NS) {i : Nat} (hi : i + 6 ≤ L) (h : cR σ ρ) (hk : ∀ τ ρ2, cR τ ρ2 → lJ Oc Om p l e s m args below meth c Q NC NS 1392 [(0, .ref b), (1, .ref (Oc.2.1 0)), (2, .ref (Om.2.1 0)), (3, .int (nI i))] [] τ ρ2) : lJ Oc Om p l e s m args below meth c Q NC NS 906 [(0, .ref b), (1, .ref (Oc.2.1 0)), (2, .ref (Om.2.1 0)), (3, .int (nI i))] [] σ ρ := by
  refine lj_ld G dL_law_906 (x := Oc.2.1 0) (by simp) ?_
  refine lj_arg G (i := i) (k := 1) (by simp) (by simp) rfl (by omega) dL_law_907 dL_law_908 dL_law_909 dL_law_910 dL_law_911 ?_
  refine lj_arg G (i := i) (k := 2) (by simp) (by simp) rfl (by omega) dL_law_912 dL_law_913 dL_law_914 dL_law_915 dL_law_916 ?_
  refine lj_xi G vsX7_rest mlL_114 (kX7_rest G.2.1.1 h) (kc_0 G.2.1.1) rfl rfl (by decide) (by decide) dL_law_917 rfl (Nat.zero_le _) (fun r τ hr => ?_)
  refine lj_ld G dL_law_920 (x := Om.2.1 0) (by simp) ?_
  refine lj_arg G (i := i) (k := 1) (by simp) (by simp) rfl (by omega) dL_law_921 dL_law_922 dL_law_923 dL_law_924 dL_law_925 ?_
  refine lj_arg G (i := i) (k := 2) (by simp) (by simp) rfl (by omega) dL_law_926 dL_law_927 dL_law_928 dL_law_929 dL_law_930 ?_
  refine lj_mi G vsX8_rest mlL_117 (kX8_rest G.2.1.2 h.1.2.2.2) (km_0 G.2.1.2) rfl rfl (by decide) (by decide) dL_law_931 rfl (Nat.le_of_ble_eq_true rfl) (fun r2 ρ2 hq => ?_)
  obtain ⟨rfl, hc⟩ := hr r2 ρ2 hq
  refine lj_eq G dL_law_934 ?_
  exact hk τ ρ2 hc
set_option maxHeartbeats 1000000 in
theorem lc_passed {Oc Om : rx_O} {p : Program} {l : Launch} {e : Env} {s : State} {m : MethodId} {args : Array Value} {below : List Frame} {meth : Method} {c : Code} {Q : State → Prop} {b L NC NS : Nat} {xs : Nat → Int32} {σ ρ : rx_S} (G : lG Oc Om p s m args meth c b L xs NC NS) {i : Nat} (hi : i + 6 ≤ L) (h : cR σ ρ) (hk : ∀ τ ρ2, cR τ ρ2 → lJ Oc Om p l e s m args below meth c Q NC NS 1392 [(0, .ref b), (1, .ref (Oc.2.1 0)), (2, .ref (Om.2.1 0)), (3, .int (nI i))] [] τ ρ2) : lJ Oc Om p l e s m args below meth c Q NC NS 939 [(0, .ref b), (1, .ref (Oc.2.1 0)), (2, .ref (Om.2.1 0)), (3, .int (nI i))] [] σ ρ := by
  refine lj_ld G dL_law_939 (x := Oc.2.1 0) (by simp) ?_
  refine lj_arg G (i := i) (k := 1) (by simp) (by simp) rfl (by omega) dL_law_940 dL_law_941 dL_law_942 dL_law_943 dL_law_944 ?_
  refine lj_arg G (i := i) (k := 2) (by simp) (by simp) rfl (by omega) dL_law_945 dL_law_946 dL_law_947 dL_law_948 dL_law_949 ?_
  refine lj_xi G vsX7_passed mlL_118 (kX7_passed G.2.1.1 h) (kc_0 G.2.1.1) rfl rfl (by decide) (by decide) dL_law_950 rfl (Nat.zero_le _) (fun r τ hr => ?_)
  refine lj_ld G dL_law_953 (x := Om.2.1 0) (by simp) ?_
  refine lj_arg G (i := i) (k := 1) (by simp) (by simp) rfl (by omega) dL_law_954 dL_law_955 dL_law_956 dL_law_957 dL_law_958 ?_
  refine lj_arg G (i := i) (k := 2) (by simp) (by simp) rfl (by omega) dL_law_959 dL_law_960 dL_law_961 dL_law_962 dL_law_963 ?_
  refine lj_mi G vsX8_passed mlL_121 (kX8_passed G.2.1.2 h.1.2.2.2) (km_0 G.2.1.2) rfl rfl (by decide) (by decide) dL_law_964 rfl (Nat.le_of_ble_eq_true rfl) (fun r2 ρ2 hq => ?_)
  obtain ⟨rfl, hc⟩ := hr r2 ρ2 hq
  refine lj_eq G dL_law_967 ?_
  exact hk τ ρ2 hc
set_option maxHeartbeats 1000000 in
theorem lc_who {Oc Om : rx_O} {p : Program} {l : Launch} {e : Env} {s : State} {m : MethodId} {args : Array Value} {below : List Frame} {meth : Method} {c : Code} {Q : State → Prop} {b L NC NS : Nat} {xs : Nat → Int32} {σ ρ : rx_S} (G : lG Oc Om p s m args meth c b L xs NC NS) {i : Nat} (hi : i + 6 ≤ L) (h : cR σ ρ) (hk : ∀ τ ρ2, cR τ ρ2 → lJ Oc Om p l e s m args below meth c Q NC NS 1392 [(0, .ref b), (1, .ref (Oc.2.1 0)), (2, .ref (Om.2.1 0)), (3, .int (nI i))] [] τ ρ2) : lJ Oc Om p l e s m args below meth c Q NC NS 972 [(0, .ref b), (1, .ref (Oc.2.1 0)), (2, .ref (Om.2.1 0)), (3, .int (nI i))] [] σ ρ := by
  refine lj_ld G dL_law_972 (x := Oc.2.1 0) (by simp) ?_
  refine lj_arg G (i := i) (k := 1) (by simp) (by simp) rfl (by omega) dL_law_973 dL_law_974 dL_law_975 dL_law_976 dL_law_977 ?_
  refine lj_arg G (i := i) (k := 2) (by simp) (by simp) rfl (by omega) dL_law_978 dL_law_979 dL_law_980 dL_law_981 dL_law_982 ?_
  refine lj_arg G (i := i) (k := 3) (by simp) (by simp) rfl (by omega) dL_law_983 dL_law_984 dL_law_985 dL_law_986 dL_law_987 ?_
  refine lj_arg G (i := i) (k := 4) (by simp) (by simp) rfl (by omega) dL_law_988 dL_law_989 dL_law_990 dL_law_991 dL_law_992 ?_
  refine lj_arg G (i := i) (k := 5) (by simp) (by simp) rfl (by omega) dL_law_993 dL_law_994 dL_law_995 dL_law_996 dL_law_997 ?_
  refine lj_xi G vsX7_who mlL_122 (kX7_who G.2.1.1 h) (kc_0 G.2.1.1) rfl rfl (by decide) (by decide) dL_law_998 rfl (Nat.zero_le _) (fun r τ hr => ?_)
  refine lj_ld G dL_law_1001 (x := Om.2.1 0) (by simp) ?_
  refine lj_arg G (i := i) (k := 1) (by simp) (by simp) rfl (by omega) dL_law_1002 dL_law_1003 dL_law_1004 dL_law_1005 dL_law_1006 ?_
  refine lj_arg G (i := i) (k := 2) (by simp) (by simp) rfl (by omega) dL_law_1007 dL_law_1008 dL_law_1009 dL_law_1010 dL_law_1011 ?_
  refine lj_arg G (i := i) (k := 3) (by simp) (by simp) rfl (by omega) dL_law_1012 dL_law_1013 dL_law_1014 dL_law_1015 dL_law_1016 ?_
  refine lj_arg G (i := i) (k := 4) (by simp) (by simp) rfl (by omega) dL_law_1017 dL_law_1018 dL_law_1019 dL_law_1020 dL_law_1021 ?_
  refine lj_arg G (i := i) (k := 5) (by simp) (by simp) rfl (by omega) dL_law_1022 dL_law_1023 dL_law_1024 dL_law_1025 dL_law_1026 ?_
  refine lj_mi G vsX8_who mlL_125 (kX8_who G.2.1.2 h.1.2.2.2 h.2.2.1.1) (km_0 G.2.1.2) rfl rfl (by decide) (by decide) dL_law_1027 rfl (Nat.le_of_ble_eq_true rfl) (fun r2 ρ2 hq => ?_)
  obtain ⟨rfl, hc⟩ := hr r2 ρ2 hq
  refine lj_eq G dL_law_1030 ?_
  exact hk τ ρ2 hc
set_option maxHeartbeats 1000000 in
theorem lc_which {Oc Om : rx_O} {p : Program} {l : Launch} {e : Env} {s : State} {m : MethodId} {args : Array Value} {below : List Frame} {meth : Method} {c : Code} {Q : State → Prop} {b L NC NS : Nat} {xs : Nat → Int32} {σ ρ : rx_S} (G : lG Oc Om p s m args meth c b L xs NC NS) {i : Nat} (hi : i + 6 ≤ L) (h : cR σ ρ) (hk : ∀ τ ρ2, cR τ ρ2 → lJ Oc Om p l e s m args below meth c Q NC NS 1392 [(0, .ref b), (1, .ref (Oc.2.1 0)), (2, .ref (Om.2.1 0)), (3, .int (nI i))] [] τ ρ2) : lJ Oc Om p l e s m args below meth c Q NC NS 1035 [(0, .ref b), (1, .ref (Oc.2.1 0)), (2, .ref (Om.2.1 0)), (3, .int (nI i))] [] σ ρ := by
  refine lj_ld G dL_law_1035 (x := Oc.2.1 0) (by simp) ?_
  refine lj_arg G (i := i) (k := 1) (by simp) (by simp) rfl (by omega) dL_law_1036 dL_law_1037 dL_law_1038 dL_law_1039 dL_law_1040 ?_
  refine lj_arg G (i := i) (k := 2) (by simp) (by simp) rfl (by omega) dL_law_1041 dL_law_1042 dL_law_1043 dL_law_1044 dL_law_1045 ?_
  refine lj_arg G (i := i) (k := 3) (by simp) (by simp) rfl (by omega) dL_law_1046 dL_law_1047 dL_law_1048 dL_law_1049 dL_law_1050 ?_
  refine lj_xi G vsX7_which mlL_126 (kX7_which G.2.1.1 h) (kc_0 G.2.1.1) rfl rfl (by decide) (by decide) dL_law_1051 rfl (Nat.zero_le _) (fun r τ hr => ?_)
  refine lj_ld G dL_law_1054 (x := Om.2.1 0) (by simp) ?_
  refine lj_arg G (i := i) (k := 1) (by simp) (by simp) rfl (by omega) dL_law_1055 dL_law_1056 dL_law_1057 dL_law_1058 dL_law_1059 ?_
  refine lj_arg G (i := i) (k := 2) (by simp) (by simp) rfl (by omega) dL_law_1060 dL_law_1061 dL_law_1062 dL_law_1063 dL_law_1064 ?_
  refine lj_arg G (i := i) (k := 3) (by simp) (by simp) rfl (by omega) dL_law_1065 dL_law_1066 dL_law_1067 dL_law_1068 dL_law_1069 ?_
  refine lj_mi G vsX8_which mlL_129 (kX8_which G.2.1.2 h.1.2.2.2 h.2.2.1.1) (km_0 G.2.1.2) rfl rfl (by decide) (by decide) dL_law_1070 rfl (Nat.le_of_ble_eq_true rfl) (fun r2 ρ2 hq => ?_)
  obtain ⟨rfl, hc⟩ := hr r2 ρ2 hq
  refine lj_eq G dL_law_1073 ?_
  exact hk τ ρ2 hc
set_option maxHeartbeats 1000000 in
theorem lc_inches {Oc Om : rx_O} {p : Program} {l : Launch} {e : Env} {s : State} {m : MethodId} {args : Array Value} {below : List Frame} {meth : Method} {c : Code} {Q : State → Prop} {b L NC NS : Nat} {xs : Nat → Int32} {σ ρ : rx_S} (G : lG Oc Om p s m args meth c b L xs NC NS) {i : Nat} (hi : i + 6 ≤ L) (h : cR σ ρ) (hk : ∀ τ ρ2, cR τ ρ2 → lJ Oc Om p l e s m args below meth c Q NC NS 1392 [(0, .ref b), (1, .ref (Oc.2.1 0)), (2, .ref (Om.2.1 0)), (3, .int (nI i))] [] τ ρ2) : lJ Oc Om p l e s m args below meth c Q NC NS 1078 [(0, .ref b), (1, .ref (Oc.2.1 0)), (2, .ref (Om.2.1 0)), (3, .int (nI i))] [] σ ρ := by
  refine lj_ld G dL_law_1078 (x := Oc.2.1 0) (by simp) ?_
  refine lj_arg G (i := i) (k := 1) (by simp) (by simp) rfl (by omega) dL_law_1079 dL_law_1080 dL_law_1081 dL_law_1082 dL_law_1083 ?_
  refine lj_xi G vsX7_inches mlL_130 (kX7_inches G.2.1.1 h) (kc_0 G.2.1.1) rfl rfl (by decide) (by decide) dL_law_1084 rfl (Nat.zero_le _) (fun r τ hr => ?_)
  refine lj_ld G dL_law_1087 (x := Om.2.1 0) (by simp) ?_
  refine lj_arg G (i := i) (k := 1) (by simp) (by simp) rfl (by omega) dL_law_1088 dL_law_1089 dL_law_1090 dL_law_1091 dL_law_1092 ?_
  refine lj_mi G vsX8_inches mlL_133 (kX8_inches G.2.1.2 h.1.2.2.2) (km_0 G.2.1.2) rfl rfl (by decide) (by decide) dL_law_1093 rfl (Nat.le_of_ble_eq_true rfl) (fun r2 ρ2 hq => ?_)
  obtain ⟨rfl, hc⟩ := hr r2 ρ2 hq
  refine lj_eq G dL_law_1096 ?_
  exact hk τ ρ2 hc
set_option maxHeartbeats 1000000 in
theorem lc_wind {Oc Om : rx_O} {p : Program} {l : Launch} {e : Env} {s : State} {m : MethodId} {args : Array Value} {below : List Frame} {meth : Method} {c : Code} {Q : State → Prop} {b L NC NS : Nat} {xs : Nat → Int32} {σ ρ : rx_S} (G : lG Oc Om p s m args meth c b L xs NC NS) {i : Nat} (hi : i + 6 ≤ L) (h : cR σ ρ) (hk : ∀ τ ρ2, cR τ ρ2 → lJ Oc Om p l e s m args below meth c Q NC NS 1392 [(0, .ref b), (1, .ref (Oc.2.1 0)), (2, .ref (Om.2.1 0)), (3, .int (nI i))] [] τ ρ2) : lJ Oc Om p l e s m args below meth c Q NC NS 1101 [(0, .ref b), (1, .ref (Oc.2.1 0)), (2, .ref (Om.2.1 0)), (3, .int (nI i))] [] σ ρ := by
  refine lj_ld G dL_law_1101 (x := Oc.2.1 0) (by simp) ?_
  refine lj_arg G (i := i) (k := 1) (by simp) (by simp) rfl (by omega) dL_law_1102 dL_law_1103 dL_law_1104 dL_law_1105 dL_law_1106 ?_
  refine lj_arg G (i := i) (k := 2) (by simp) (by simp) rfl (by omega) dL_law_1107 dL_law_1108 dL_law_1109 dL_law_1110 dL_law_1111 ?_
  refine lj_arg G (i := i) (k := 3) (by simp) (by simp) rfl (by omega) dL_law_1112 dL_law_1113 dL_law_1114 dL_law_1115 dL_law_1116 ?_
  refine lj_arg G (i := i) (k := 4) (by simp) (by simp) rfl (by omega) dL_law_1117 dL_law_1118 dL_law_1119 dL_law_1120 dL_law_1121 ?_
  refine lj_xl G vsX7_wind mlL_134 (kX7_wind G.2.1.1 h) (kc_0 G.2.1.1) rfl rfl (by decide) (by decide) dL_law_1122 rfl (Nat.zero_le _) (fun r τ hr => ?_)
  refine lj_ld G dL_law_1125 (x := Om.2.1 0) (by simp) ?_
  refine lj_arg G (i := i) (k := 1) (by simp) (by simp) rfl (by omega) dL_law_1126 dL_law_1127 dL_law_1128 dL_law_1129 dL_law_1130 ?_
  refine lj_arg G (i := i) (k := 2) (by simp) (by simp) rfl (by omega) dL_law_1131 dL_law_1132 dL_law_1133 dL_law_1134 dL_law_1135 ?_
  refine lj_arg G (i := i) (k := 3) (by simp) (by simp) rfl (by omega) dL_law_1136 dL_law_1137 dL_law_1138 dL_law_1139 dL_law_1140 ?_
  refine lj_arg G (i := i) (k := 4) (by simp) (by simp) rfl (by omega) dL_law_1141 dL_law_1142 dL_law_1143 dL_law_1144 dL_law_1145 ?_
  refine lj_ml G vsX8_wind mlL_138 (kX8_wind G.2.1.2 h.1.2.2.2 h.2.1.2.1) (km_0 G.2.1.2) rfl rfl (by decide) (by decide) dL_law_1146 rfl (Nat.le_of_ble_eq_true rfl) (fun r2 ρ2 hq => ?_)
  obtain ⟨rfl, hc⟩ := hr r2 ρ2 hq
  refine lj_leq G dL_law_1149 dL_law_1150 ?_
  exact hk τ ρ2 hc
set_option maxHeartbeats 1000000 in
theorem lc_drawn {Oc Om : rx_O} {p : Program} {l : Launch} {e : Env} {s : State} {m : MethodId} {args : Array Value} {below : List Frame} {meth : Method} {c : Code} {Q : State → Prop} {b L NC NS : Nat} {xs : Nat → Int32} {σ ρ : rx_S} (G : lG Oc Om p s m args meth c b L xs NC NS) {i : Nat} (hi : i + 6 ≤ L) (h : cR σ ρ) (hk : ∀ τ ρ2, cR τ ρ2 → lJ Oc Om p l e s m args below meth c Q NC NS 1392 [(0, .ref b), (1, .ref (Oc.2.1 0)), (2, .ref (Om.2.1 0)), (3, .int (nI i))] [] τ ρ2) : lJ Oc Om p l e s m args below meth c Q NC NS 1155 [(0, .ref b), (1, .ref (Oc.2.1 0)), (2, .ref (Om.2.1 0)), (3, .int (nI i))] [] σ ρ := by
  refine lj_ld G dL_law_1155 (x := Oc.2.1 0) (by simp) ?_
  refine lj_arg G (i := i) (k := 1) (by simp) (by simp) rfl (by omega) dL_law_1156 dL_law_1157 dL_law_1158 dL_law_1159 dL_law_1160 ?_
  refine lj_arg G (i := i) (k := 2) (by simp) (by simp) rfl (by omega) dL_law_1161 dL_law_1162 dL_law_1163 dL_law_1164 dL_law_1165 ?_
  refine lj_arg G (i := i) (k := 3) (by simp) (by simp) rfl (by omega) dL_law_1166 dL_law_1167 dL_law_1168 dL_law_1169 dL_law_1170 ?_
  refine lj_xi G vsX7_drawn mlL_139 (kX7_drawn G.2.1.1 h) (kc_0 G.2.1.1) rfl rfl (by decide) (by decide) dL_law_1171 rfl (Nat.zero_le _) (fun r τ hr => ?_)
  refine lj_ld G dL_law_1174 (x := Om.2.1 0) (by simp) ?_
  refine lj_arg G (i := i) (k := 1) (by simp) (by simp) rfl (by omega) dL_law_1175 dL_law_1176 dL_law_1177 dL_law_1178 dL_law_1179 ?_
  refine lj_arg G (i := i) (k := 2) (by simp) (by simp) rfl (by omega) dL_law_1180 dL_law_1181 dL_law_1182 dL_law_1183 dL_law_1184 ?_
  refine lj_arg G (i := i) (k := 3) (by simp) (by simp) rfl (by omega) dL_law_1185 dL_law_1186 dL_law_1187 dL_law_1188 dL_law_1189 ?_
  refine lj_mi G vsX8_drawn mlL_142 (kX8_drawn G.2.1.2 h.1.2.2.2 h.1.2.1.1 h.2.1.2.1) (km_0 G.2.1.2) rfl rfl (by decide) (by decide) dL_law_1190 rfl (Nat.le_of_ble_eq_true rfl) (fun r2 ρ2 hq => ?_)
  obtain ⟨rfl, hc⟩ := hr r2 ρ2 hq
  refine lj_eq G dL_law_1193 ?_
  exact hk τ ρ2 hc
set_option maxHeartbeats 1000000 in
theorem lc_image {Oc Om : rx_O} {p : Program} {l : Launch} {e : Env} {s : State} {m : MethodId} {args : Array Value} {below : List Frame} {meth : Method} {c : Code} {Q : State → Prop} {b L NC NS : Nat} {xs : Nat → Int32} {σ ρ : rx_S} (G : lG Oc Om p s m args meth c b L xs NC NS) {i : Nat} (hi : i + 6 ≤ L) (h : cR σ ρ) (hk : ∀ τ ρ2, cR τ ρ2 → lJ Oc Om p l e s m args below meth c Q NC NS 1392 [(0, .ref b), (1, .ref (Oc.2.1 0)), (2, .ref (Om.2.1 0)), (3, .int (nI i))] [] τ ρ2) : lJ Oc Om p l e s m args below meth c Q NC NS 1198 [(0, .ref b), (1, .ref (Oc.2.1 0)), (2, .ref (Om.2.1 0)), (3, .int (nI i))] [] σ ρ := by
  refine lj_ld G dL_law_1198 (x := Oc.2.1 0) (by simp) ?_
  refine lj_arg G (i := i) (k := 1) (by simp) (by simp) rfl (by omega) dL_law_1199 dL_law_1200 dL_law_1201 dL_law_1202 dL_law_1203 ?_
  refine lj_xi G vsX7_image mlL_143 (kX7_image G.2.1.1 h) (kc_0 G.2.1.1) rfl rfl (by decide) (by decide) dL_law_1204 rfl (Nat.zero_le _) (fun r τ hr => ?_)
  refine lj_ld G dL_law_1207 (x := Om.2.1 0) (by simp) ?_
  refine lj_arg G (i := i) (k := 1) (by simp) (by simp) rfl (by omega) dL_law_1208 dL_law_1209 dL_law_1210 dL_law_1211 dL_law_1212 ?_
  refine lj_mi G vsX8_image mlL_146 (kX8_image G.2.1.2) (km_0 G.2.1.2) rfl rfl (by decide) (by decide) dL_law_1213 rfl (Nat.le_of_ble_eq_true rfl) (fun r2 ρ2 hq => ?_)
  obtain ⟨rfl, hc⟩ := hr r2 ρ2 hq
  refine lj_eq G dL_law_1216 ?_
  exact hk τ ρ2 hc
set_option maxHeartbeats 1000000 in
theorem lc_restore {Oc Om : rx_O} {p : Program} {l : Launch} {e : Env} {s : State} {m : MethodId} {args : Array Value} {below : List Frame} {meth : Method} {c : Code} {Q : State → Prop} {b L NC NS : Nat} {xs : Nat → Int32} {σ ρ : rx_S} (G : lG Oc Om p s m args meth c b L xs NC NS) {i : Nat} (hi : i + 6 ≤ L) (h : cR σ ρ) (hk : ∀ τ ρ2, cR τ ρ2 → lJ Oc Om p l e s m args below meth c Q NC NS 1392 [(0, .ref b), (1, .ref (Oc.2.1 0)), (2, .ref (Om.2.1 0)), (3, .int (nI i))] [] τ ρ2) : lJ Oc Om p l e s m args below meth c Q NC NS 1221 [(0, .ref b), (1, .ref (Oc.2.1 0)), (2, .ref (Om.2.1 0)), (3, .int (nI i))] [] σ ρ := by
  refine lj_ld G dL_law_1221 (x := Oc.2.1 0) (by simp) ?_
  refine lj_arg G (i := i) (k := 1) (by simp) (by simp) rfl (by omega) dL_law_1222 dL_law_1223 dL_law_1224 dL_law_1225 dL_law_1226 ?_
  refine lj_xi G vsX7_restore mlL_147 (kX7_restore G.2.1.1 h) (kc_0 G.2.1.1) rfl rfl (by decide) (by decide) dL_law_1227 rfl (Nat.zero_le _) (fun r τ hr => ?_)
  refine lj_ld G dL_law_1230 (x := Om.2.1 0) (by simp) ?_
  refine lj_arg G (i := i) (k := 1) (by simp) (by simp) rfl (by omega) dL_law_1231 dL_law_1232 dL_law_1233 dL_law_1234 dL_law_1235 ?_
  refine lj_mi G vsX8_restore mlL_150 (kX8_restore G.2.1.2) (km_0 G.2.1.2) rfl rfl (by decide) (by decide) dL_law_1236 rfl (Nat.le_of_ble_eq_true rfl) (fun r2 ρ2 hq => ?_)
  obtain ⟨rfl, hc⟩ := hr r2 ρ2 hq
  refine lj_eq G dL_law_1239 ?_
  exact hk τ ρ2 hc
set_option maxHeartbeats 1000000 in
theorem lc_kind {Oc Om : rx_O} {p : Program} {l : Launch} {e : Env} {s : State} {m : MethodId} {args : Array Value} {below : List Frame} {meth : Method} {c : Code} {Q : State → Prop} {b L NC NS : Nat} {xs : Nat → Int32} {σ ρ : rx_S} (G : lG Oc Om p s m args meth c b L xs NC NS) {i : Nat} (hi : i + 6 ≤ L) (h : cR σ ρ) (hk : ∀ τ ρ2, cR τ ρ2 → lJ Oc Om p l e s m args below meth c Q NC NS 1392 [(0, .ref b), (1, .ref (Oc.2.1 0)), (2, .ref (Om.2.1 0)), (3, .int (nI i))] [] τ ρ2) : lJ Oc Om p l e s m args below meth c Q NC NS 1244 [(0, .ref b), (1, .ref (Oc.2.1 0)), (2, .ref (Om.2.1 0)), (3, .int (nI i))] [] σ ρ := by
  refine lj_ld G dL_law_1244 (x := Oc.2.1 0) (by simp) ?_
  refine lj_arg G (i := i) (k := 1) (by simp) (by simp) rfl (by omega) dL_law_1245 dL_law_1246 dL_law_1247 dL_law_1248 dL_law_1249 ?_
  refine lj_xi G vsX7_kind mlL_151 (kX7_kind G.2.1.1 h) (kc_0 G.2.1.1) rfl rfl (by decide) (by decide) dL_law_1250 rfl (Nat.zero_le _) (fun r τ hr => ?_)
  refine lj_ld G dL_law_1253 (x := Om.2.1 0) (by simp) ?_
  refine lj_arg G (i := i) (k := 1) (by simp) (by simp) rfl (by omega) dL_law_1254 dL_law_1255 dL_law_1256 dL_law_1257 dL_law_1258 ?_
  refine lj_mi G vsX8_kind mlL_154 (kX8_kind G.2.1.2 h.1.2.2.2) (km_0 G.2.1.2) rfl rfl (by decide) (by decide) dL_law_1259 rfl (Nat.le_of_ble_eq_true rfl) (fun r2 ρ2 hq => ?_)
  obtain ⟨rfl, hc⟩ := hr r2 ρ2 hq
  refine lj_eq G dL_law_1262 ?_
  exact hk τ ρ2 hc
set_option maxHeartbeats 1000000 in
theorem lc_as {Oc Om : rx_O} {p : Program} {l : Launch} {e : Env} {s : State} {m : MethodId} {args : Array Value} {below : List Frame} {meth : Method} {c : Code} {Q : State → Prop} {b L NC NS : Nat} {xs : Nat → Int32} {σ ρ : rx_S} (G : lG Oc Om p s m args meth c b L xs NC NS) {i : Nat} (hi : i + 6 ≤ L) (h : cR σ ρ) (hk : ∀ τ ρ2, cR τ ρ2 → lJ Oc Om p l e s m args below meth c Q NC NS 1392 [(0, .ref b), (1, .ref (Oc.2.1 0)), (2, .ref (Om.2.1 0)), (3, .int (nI i))] [] τ ρ2) : lJ Oc Om p l e s m args below meth c Q NC NS 1267 [(0, .ref b), (1, .ref (Oc.2.1 0)), (2, .ref (Om.2.1 0)), (3, .int (nI i))] [] σ ρ := by
  refine lj_ld G dL_law_1267 (x := Oc.2.1 0) (by simp) ?_
  refine lj_arg G (i := i) (k := 1) (by simp) (by simp) rfl (by omega) dL_law_1268 dL_law_1269 dL_law_1270 dL_law_1271 dL_law_1272 ?_
  refine lj_arg G (i := i) (k := 2) (by simp) (by simp) rfl (by omega) dL_law_1273 dL_law_1274 dL_law_1275 dL_law_1276 dL_law_1277 ?_
  refine lj_xi G vsX7_as mlL_155 (kX7_as G.2.1.1 h) (kc_0 G.2.1.1) rfl rfl (by decide) (by decide) dL_law_1278 rfl (Nat.zero_le _) (fun r τ hr => ?_)
  refine lj_ld G dL_law_1281 (x := Om.2.1 0) (by simp) ?_
  refine lj_arg G (i := i) (k := 1) (by simp) (by simp) rfl (by omega) dL_law_1282 dL_law_1283 dL_law_1284 dL_law_1285 dL_law_1286 ?_
  refine lj_arg G (i := i) (k := 2) (by simp) (by simp) rfl (by omega) dL_law_1287 dL_law_1288 dL_law_1289 dL_law_1290 dL_law_1291 ?_
  refine lj_mi G vsX8_as mlL_158 (kX8_as G.2.1.2 h.1.2.2.2) (km_0 G.2.1.2) rfl rfl (by decide) (by decide) dL_law_1292 rfl (Nat.le_of_ble_eq_true rfl) (fun r2 ρ2 hq => ?_)
  obtain ⟨rfl, hc⟩ := hr r2 ρ2 hq
  refine lj_eq G dL_law_1295 ?_
  exact hk τ ρ2 hc
set_option maxHeartbeats 1000000 in
theorem lc_ask {Oc Om : rx_O} {p : Program} {l : Launch} {e : Env} {s : State} {m : MethodId} {args : Array Value} {below : List Frame} {meth : Method} {c : Code} {Q : State → Prop} {b L NC NS : Nat} {xs : Nat → Int32} {σ ρ : rx_S} (G : lG Oc Om p s m args meth c b L xs NC NS) {i : Nat} (hi : i + 6 ≤ L) (h : cR σ ρ) (hk : ∀ τ ρ2, cR τ ρ2 → lJ Oc Om p l e s m args below meth c Q NC NS 1392 [(0, .ref b), (1, .ref (Oc.2.1 0)), (2, .ref (Om.2.1 0)), (3, .int (nI i))] [] τ ρ2) : lJ Oc Om p l e s m args below meth c Q NC NS 1300 [(0, .ref b), (1, .ref (Oc.2.1 0)), (2, .ref (Om.2.1 0)), (3, .int (nI i))] [] σ ρ := by
  refine lj_ld G dL_law_1300 (x := Oc.2.1 0) (by simp) ?_
  refine lj_arg G (i := i) (k := 1) (by simp) (by simp) rfl (by omega) dL_law_1301 dL_law_1302 dL_law_1303 dL_law_1304 dL_law_1305 ?_
  refine lj_arg G (i := i) (k := 2) (by simp) (by simp) rfl (by omega) dL_law_1306 dL_law_1307 dL_law_1308 dL_law_1309 dL_law_1310 ?_
  refine lj_xi G vsX7_ask mlL_159 (kX7_ask G.2.1.1 h) (kc_0 G.2.1.1) rfl rfl (by decide) (by decide) dL_law_1311 rfl (Nat.zero_le _) (fun r τ hr => ?_)
  refine lj_ld G dL_law_1314 (x := Om.2.1 0) (by simp) ?_
  refine lj_arg G (i := i) (k := 1) (by simp) (by simp) rfl (by omega) dL_law_1315 dL_law_1316 dL_law_1317 dL_law_1318 dL_law_1319 ?_
  refine lj_arg G (i := i) (k := 2) (by simp) (by simp) rfl (by omega) dL_law_1320 dL_law_1321 dL_law_1322 dL_law_1323 dL_law_1324 ?_
  refine lj_mi G vsX8_ask mlL_162 (kX8_ask G.2.1.2 h.1.2.2.2) (km_0 G.2.1.2) rfl rfl (by decide) (by decide) dL_law_1325 rfl (Nat.le_of_ble_eq_true rfl) (fun r2 ρ2 hq => ?_)
  obtain ⟨rfl, hc⟩ := hr r2 ρ2 hq
  refine lj_eq G dL_law_1328 ?_
  exact hk τ ρ2 hc
set_option maxHeartbeats 1000000 in
theorem lc_trace {Oc Om : rx_O} {p : Program} {l : Launch} {e : Env} {s : State} {m : MethodId} {args : Array Value} {below : List Frame} {meth : Method} {c : Code} {Q : State → Prop} {b L NC NS : Nat} {xs : Nat → Int32} {σ ρ : rx_S} (G : lG Oc Om p s m args meth c b L xs NC NS) {i : Nat} (hi : i + 6 ≤ L) (h : cR σ ρ) (hk : ∀ τ ρ2, cR τ ρ2 → lJ Oc Om p l e s m args below meth c Q NC NS 1392 [(0, .ref b), (1, .ref (Oc.2.1 0)), (2, .ref (Om.2.1 0)), (3, .int (nI i))] [] τ ρ2) : lJ Oc Om p l e s m args below meth c Q NC NS 1333 [(0, .ref b), (1, .ref (Oc.2.1 0)), (2, .ref (Om.2.1 0)), (3, .int (nI i))] [] σ ρ := by
  refine lj_ld G dL_law_1333 (x := Oc.2.1 0) (by simp) ?_
  refine lj_arg G (i := i) (k := 1) (by simp) (by simp) rfl (by omega) dL_law_1334 dL_law_1335 dL_law_1336 dL_law_1337 dL_law_1338 ?_
  refine lj_xi G vsX7_trace mlL_163 (kX7_trace G.2.1.1 h) (kc_0 G.2.1.1) rfl rfl (by decide) (by decide) dL_law_1339 rfl (Nat.zero_le _) (fun r τ hr => ?_)
  refine lj_ld G dL_law_1342 (x := Om.2.1 0) (by simp) ?_
  refine lj_arg G (i := i) (k := 1) (by simp) (by simp) rfl (by omega) dL_law_1343 dL_law_1344 dL_law_1345 dL_law_1346 dL_law_1347 ?_
  refine lj_mi G vsX8_trace mlL_166 (kX8_trace G.2.1.2 h.h25) (km_0 G.2.1.2) rfl rfl (by decide) (by decide) dL_law_1348 rfl (Nat.le_of_ble_eq_true rfl) (fun r2 ρ2 hq => ?_)
  obtain ⟨rfl, hc⟩ := hr r2 ρ2 hq
  refine lj_eq G dL_law_1351 ?_
  exact hk τ ρ2 hc
set_option maxHeartbeats 1000000 in
theorem lc_count {Oc Om : rx_O} {p : Program} {l : Launch} {e : Env} {s : State} {m : MethodId} {args : Array Value} {below : List Frame} {meth : Method} {c : Code} {Q : State → Prop} {b L NC NS : Nat} {xs : Nat → Int32} {σ ρ : rx_S} (G : lG Oc Om p s m args meth c b L xs NC NS) {i : Nat} (hi : i + 6 ≤ L) (h : cR σ ρ) (hk : ∀ τ ρ2, cR τ ρ2 → lJ Oc Om p l e s m args below meth c Q NC NS 1392 [(0, .ref b), (1, .ref (Oc.2.1 0)), (2, .ref (Om.2.1 0)), (3, .int (nI i))] [] τ ρ2) : lJ Oc Om p l e s m args below meth c Q NC NS 1356 [(0, .ref b), (1, .ref (Oc.2.1 0)), (2, .ref (Om.2.1 0)), (3, .int (nI i))] [] σ ρ := by
  refine lj_ld G dL_law_1356 (x := Oc.2.1 0) (by simp) ?_
  refine lj_arg G (i := i) (k := 1) (by simp) (by simp) rfl (by omega) dL_law_1357 dL_law_1358 dL_law_1359 dL_law_1360 dL_law_1361 ?_
  refine lj_xi G vsX7_count mlL_167 (kX7_count G.2.1.1 h) (kc_0 G.2.1.1) rfl rfl (by decide) (by decide) dL_law_1362 rfl (Nat.zero_le _) (fun r τ hr => ?_)
  refine lj_ld G dL_law_1365 (x := Om.2.1 0) (by simp) ?_
  refine lj_arg G (i := i) (k := 1) (by simp) (by simp) rfl (by omega) dL_law_1366 dL_law_1367 dL_law_1368 dL_law_1369 dL_law_1370 ?_
  refine lj_mi G vsX8_count mlL_170 (kX8_count G.2.1.2) (km_0 G.2.1.2) rfl rfl (by decide) (by decide) dL_law_1371 rfl (Nat.le_of_ble_eq_true rfl) (fun r2 ρ2 hq => ?_)
  obtain ⟨rfl, hc⟩ := hr r2 ρ2 hq
  refine lj_eq G dL_law_1374 ?_
  exact hk τ ρ2 hc
set_option maxHeartbeats 1000000 in
theorem lc_status {Oc Om : rx_O} {p : Program} {l : Launch} {e : Env} {s : State} {m : MethodId} {args : Array Value} {below : List Frame} {meth : Method} {c : Code} {Q : State → Prop} {b L NC NS : Nat} {xs : Nat → Int32} {σ ρ : rx_S} (G : lG Oc Om p s m args meth c b L xs NC NS) {i : Nat} (hi : i + 6 ≤ L) (h : cR σ ρ) (hk : ∀ τ ρ2, cR τ ρ2 → lJ Oc Om p l e s m args below meth c Q NC NS 1392 [(0, .ref b), (1, .ref (Oc.2.1 0)), (2, .ref (Om.2.1 0)), (3, .int (nI i))] [] τ ρ2) : lJ Oc Om p l e s m args below meth c Q NC NS 1379 [(0, .ref b), (1, .ref (Oc.2.1 0)), (2, .ref (Om.2.1 0)), (3, .int (nI i))] [] σ ρ := by
  refine lj_ld G dL_law_1379 (x := Oc.2.1 0) (by simp) ?_
  refine lj_xi G vsX7_status mlL_171 (kX7_status G.2.1.1 h) (kc_0 G.2.1.1) rfl rfl (by decide) (by decide) dL_law_1380 rfl (Nat.zero_le _) (fun r τ hr => ?_)
  refine lj_ld G dL_law_1383 (x := Om.2.1 0) (by simp) ?_
  refine lj_mi G vsX8_status mlL_174 (kX8_status G.2.1.2) (km_0 G.2.1.2) rfl rfl (by decide) (by decide) dL_law_1384 rfl (Nat.le_of_ble_eq_true rfl) (fun r2 ρ2 hq => ?_)
  obtain ⟨rfl, hc⟩ := hr r2 ρ2 hq
  refine lj_eq G dL_law_1387 ?_
  exact hk τ ρ2 hc
set_option maxHeartbeats 2000000 in
theorem lc_any {Oc Om : rx_O} {p : Program} {l : Launch} {e : Env} {s : State} {m : MethodId} {args : Array Value} {below : List Frame} {meth : Method} {c : Code} {Q : State → Prop} {b L NC NS : Nat} {xs : Nat → Int32} {σ ρ : rx_S} (G : lG Oc Om p s m args meth c b L xs NC NS) {i j : Nat} (hi : i + 6 ≤ L) (h : cR σ ρ) (hj : j < 64) (hk : ∀ τ ρ2, cR τ ρ2 → lJ Oc Om p l e s m args below meth c Q NC NS 1392 [(0, .ref b), (1, .ref (Oc.2.1 0)), (2, .ref (Om.2.1 0)), (3, .int (nI i))] [] τ ρ2) : lJ Oc Om p l e s m args below meth c Q NC NS 33 [(0, .ref b), (1, .ref (Oc.2.1 0)), (2, .ref (Om.2.1 0)), (3, .int (nI i))] [.int (nI j)] σ ρ := by
  have hd : decode code 33 = .ok (.tableswitch 1359 0 38 #[171, 214, 257, 320, 343, 366, 379, 392, 405, 428, 461, 474, 507, 540, 573, 596, 629, 662, 685, 708, 741, 774, 807, 850, 873, 906, 939, 1002, 1045, 1068, 1122, 1165, 1188, 1211, 1234, 1267, 1300, 1323, 1346], 171) := dL_law_33.1
  by_cases h39 : j < 39
  · have hjj : j = 0 ∨ j = 1 ∨ j = 2 ∨ j = 3 ∨ j = 4 ∨ j = 5 ∨ j = 6 ∨ j = 7 ∨ j = 8 ∨ j = 9 ∨ j = 10 ∨ j = 11 ∨ j = 12 ∨ j = 13 ∨ j = 14 ∨ j = 15 ∨ j = 16 ∨ j = 17 ∨ j = 18 ∨ j = 19 ∨ j = 20 ∨ j = 21 ∨ j = 22 ∨ j = 23 ∨ j = 24 ∨ j = 25 ∨ j = 26 ∨ j = 27 ∨ j = 28 ∨ j = 29 ∨ j = 30 ∨ j = 31 ∨ j = 32 ∨ j = 33 ∨ j = 34 ∨ j = 35 ∨ j = 36 ∨ j = 37 ∨ j = 38 := by omega
    rcases hjj with rfl | rfl | rfl | rfl | rfl | rfl | rfl | rfl | rfl | rfl | rfl | rfl | rfl | rfl | rfl | rfl | rfl | rfl | rfl | rfl | rfl | rfl | rfl | rfl | rfl | rfl | rfl | rfl | rfl | rfl | rfl | rfl | rfl | rfl | rfl | rfl | rfl | rfl | rfl
    · exact fun H locs ls hPc hPm hS hl => lv_tableIn (tgt := 204) G.1.1 G.1.2.1 hd (by decide) (by decide) rfl rfl (lc_row G hi h hk H locs ls hPc hPm hS hl)
    · exact fun H locs ls hPc hPm hS hl => lv_tableIn (tgt := 247) G.1.1 G.1.2.1 hd (by decide) (by decide) rfl rfl (lc_set G hi h hk H locs ls hPc hPm hS hl)
    · exact fun H locs ls hPc hPm hS hl => lv_tableIn (tgt := 290) G.1.1 G.1.2.1 hd (by decide) (by decide) rfl rfl (lc_copy G hi h hk H locs ls hPc hPm hS hl)
    · exact fun H locs ls hPc hPm hS hl => lv_tableIn (tgt := 353) G.1.1 G.1.2.1 hd (by decide) (by decide) rfl rfl (lc_drop G hi h hk H locs ls hPc hPm hS hl)
    · exact fun H locs ls hPc hPm hS hl => lv_tableIn (tgt := 376) G.1.1 G.1.2.1 hd (by decide) (by decide) rfl rfl (lc_feed G hi h hk H locs ls hPc hPm hS hl)
    · exact fun H locs ls hPc hPm hS hl => lv_tableIn (tgt := 399) G.1.1 G.1.2.1 hd (by decide) (by decide) rfl rfl (lc_wall G hi h hk H locs ls hPc hPm hS hl)
    · exact fun H locs ls hPc hPm hS hl => lv_tableIn (tgt := 412) G.1.1 G.1.2.1 hd (by decide) (by decide) rfl rfl (lc_fault G hi h hk H locs ls hPc hPm hS hl)
    · exact fun H locs ls hPc hPm hS hl => lv_tableIn (tgt := 425) G.1.1 G.1.2.1 hd (by decide) (by decide) rfl rfl (lc_undo G hi h hk H locs ls hPc hPm hS hl)
    · exact fun H locs ls hPc hPm hS hl => lv_tableIn (tgt := 438) G.1.1 G.1.2.1 hd (by decide) (by decide) rfl rfl (lc_minutes G hi h hk H locs ls hPc hPm hS hl)
    · exact fun H locs ls hPc hPm hS hl => lv_tableIn (tgt := 461) G.1.1 G.1.2.1 hd (by decide) (by decide) rfl rfl (lc_pull G hi h hk H locs ls hPc hPm hS hl)
    · exact fun H locs ls hPc hPm hS hl => lv_tableIn (tgt := 494) G.1.1 G.1.2.1 hd (by decide) (by decide) rfl rfl (lc_letGo G hi h hk H locs ls hPc hPm hS hl)
    · exact fun H locs ls hPc hPm hS hl => lv_tableIn (tgt := 507) G.1.1 G.1.2.1 hd (by decide) (by decide) rfl rfl (lc_place G hi h hk H locs ls hPc hPm hS hl)
    · exact fun H locs ls hPc hPm hS hl => lv_tableIn (tgt := 540) G.1.1 G.1.2.1 hd (by decide) (by decide) rfl rfl (lc_step G hi h hk H locs ls hPc hPm hS hl)
    · exact fun H locs ls hPc hPm hS hl => lv_tableIn (tgt := 573) G.1.1 G.1.2.1 hd (by decide) (by decide) rfl rfl (lc_ant G hi h hk H locs ls hPc hPm hS hl)
    · exact fun H locs ls hPc hPm hS hl => lv_tableIn (tgt := 606) G.1.1 G.1.2.1 hd (by decide) (by decide) rfl rfl (lc_pulls G hi h hk H locs ls hPc hPm hS hl)
    · exact fun H locs ls hPc hPm hS hl => lv_tableIn (tgt := 629) G.1.1 G.1.2.1 hd (by decide) (by decide) rfl rfl (lc_ahead G hi h hk H locs ls hPc hPm hS hl)
    · exact fun H locs ls hPc hPm hS hl => lv_tableIn (tgt := 662) G.1.1 G.1.2.1 hd (by decide) (by decide) rfl rfl (lc_band G hi h hk H locs ls hPc hPm hS hl)
    · exact fun H locs ls hPc hPm hS hl => lv_tableIn (tgt := 695) G.1.1 G.1.2.1 hd (by decide) (by decide) rfl rfl (lc_arrives G hi h hk H locs ls hPc hPm hS hl)
    · exact fun H locs ls hPc hPm hS hl => lv_tableIn (tgt := 718) G.1.1 G.1.2.1 hd (by decide) (by decide) rfl rfl (lc_leads G hi h hk H locs ls hPc hPm hS hl)
    · exact fun H locs ls hPc hPm hS hl => lv_tableIn (tgt := 741) G.1.1 G.1.2.1 hd (by decide) (by decide) rfl rfl (lc_meet G hi h hk H locs ls hPc hPm hS hl)
    · exact fun H locs ls hPc hPm hS hl => lv_tableIn (tgt := 774) G.1.1 G.1.2.1 hd (by decide) (by decide) rfl rfl (lc_fast G hi h hk H locs ls hPc hPm hS hl)
    · exact fun H locs ls hPc hPm hS hl => lv_tableIn (tgt := 807) G.1.1 G.1.2.1 hd (by decide) (by decide) rfl rfl (lc_pullFor G hi h hk H locs ls hPc hPm hS hl)
    · exact fun H locs ls hPc hPm hS hl => lv_tableIn (tgt := 840) G.1.1 G.1.2.1 hd (by decide) (by decide) rfl rfl (lc_order G hi h hk H locs ls hPc hPm hS hl)
    · exact fun H locs ls hPc hPm hS hl => lv_tableIn (tgt := 883) G.1.1 G.1.2.1 hd (by decide) (by decide) rfl rfl (lc_half G hi h hk H locs ls hPc hPm hS hl)
    · exact fun H locs ls hPc hPm hS hl => lv_tableIn (tgt := 906) G.1.1 G.1.2.1 hd (by decide) (by decide) rfl rfl (lc_rest G hi h hk H locs ls hPc hPm hS hl)
    · exact fun H locs ls hPc hPm hS hl => lv_tableIn (tgt := 939) G.1.1 G.1.2.1 hd (by decide) (by decide) rfl rfl (lc_passed G hi h hk H locs ls hPc hPm hS hl)
    · exact fun H locs ls hPc hPm hS hl => lv_tableIn (tgt := 972) G.1.1 G.1.2.1 hd (by decide) (by decide) rfl rfl (lc_who G hi h hk H locs ls hPc hPm hS hl)
    · exact fun H locs ls hPc hPm hS hl => lv_tableIn (tgt := 1035) G.1.1 G.1.2.1 hd (by decide) (by decide) rfl rfl (lc_which G hi h hk H locs ls hPc hPm hS hl)
    · exact fun H locs ls hPc hPm hS hl => lv_tableIn (tgt := 1078) G.1.1 G.1.2.1 hd (by decide) (by decide) rfl rfl (lc_inches G hi h hk H locs ls hPc hPm hS hl)
    · exact fun H locs ls hPc hPm hS hl => lv_tableIn (tgt := 1101) G.1.1 G.1.2.1 hd (by decide) (by decide) rfl rfl (lc_wind G hi h hk H locs ls hPc hPm hS hl)
    · exact fun H locs ls hPc hPm hS hl => lv_tableIn (tgt := 1155) G.1.1 G.1.2.1 hd (by decide) (by decide) rfl rfl (lc_drawn G hi h hk H locs ls hPc hPm hS hl)
    · exact fun H locs ls hPc hPm hS hl => lv_tableIn (tgt := 1198) G.1.1 G.1.2.1 hd (by decide) (by decide) rfl rfl (lc_image G hi h hk H locs ls hPc hPm hS hl)
    · exact fun H locs ls hPc hPm hS hl => lv_tableIn (tgt := 1221) G.1.1 G.1.2.1 hd (by decide) (by decide) rfl rfl (lc_restore G hi h hk H locs ls hPc hPm hS hl)
    · exact fun H locs ls hPc hPm hS hl => lv_tableIn (tgt := 1244) G.1.1 G.1.2.1 hd (by decide) (by decide) rfl rfl (lc_kind G hi h hk H locs ls hPc hPm hS hl)
    · exact fun H locs ls hPc hPm hS hl => lv_tableIn (tgt := 1267) G.1.1 G.1.2.1 hd (by decide) (by decide) rfl rfl (lc_as G hi h hk H locs ls hPc hPm hS hl)
    · exact fun H locs ls hPc hPm hS hl => lv_tableIn (tgt := 1300) G.1.1 G.1.2.1 hd (by decide) (by decide) rfl rfl (lc_ask G hi h hk H locs ls hPc hPm hS hl)
    · exact fun H locs ls hPc hPm hS hl => lv_tableIn (tgt := 1333) G.1.1 G.1.2.1 hd (by decide) (by decide) rfl rfl (lc_trace G hi h hk H locs ls hPc hPm hS hl)
    · exact fun H locs ls hPc hPm hS hl => lv_tableIn (tgt := 1356) G.1.1 G.1.2.1 hd (by decide) (by decide) rfl rfl (lc_count G hi h hk H locs ls hPc hPm hS hl)
    · exact fun H locs ls hPc hPm hS hl => lv_tableIn (tgt := 1379) G.1.1 G.1.2.1 hd (by decide) (by decide) rfl rfl (lc_status G hi h hk H locs ls hPc hPm hS hl)
  · exact fun H locs ls hPc hPm hS hl => lv_tableOut (tgt := 1392) G.1.1 G.1.2.1 hd (Or.inr (by rw [nI_toInt (by omega)]; omega)) rfl (hk σ ρ h H locs ls hPc hPm hS hl)
theorem law_loop {Oc Om : rx_O} {p : Program} {l : Launch} {e : Env} {s : State} {m : MethodId} {args : Array Value} {below : List Frame} {meth : Method} {c : Code} {Q : State → Prop} {b L NC NS : Nat} {xs : Nat → Int32} (G : lG Oc Om p s m args meth c b L xs NC NS) (hend : ∀ σ ρ i, lJ Oc Om p l e s m args below meth c Q NC NS 1398 [(0, .ref b), (1, .ref (Oc.2.1 0)), (2, .ref (Om.2.1 0)), (3, .int (nI i))] [] σ ρ) : ∀ (k i : Nat) (σ ρ : rx_S), L + 6 < i + k → i ≤ L + 5 → cR σ ρ → lJ Oc Om p l e s m args below meth c Q NC NS 18 [(0, .ref b), (1, .ref (Oc.2.1 0)), (2, .ref (Om.2.1 0)), (3, .int (nI i))] [] σ ρ := by
  intro k
  induction k with
  | zero => intro i σ ρ h1 h2; omega
  | succ k ih =>
    intro i σ ρ h1 h2 h
    have hL := G.2.2.2.2.2.2.2.2.2
    have hx := G.1.1
    have hb := G.1.2.1
    refine lj_il G dL_law_18 (x := nI i) (by simp) ?_
    refine lj_ld G dL_law_19 (x := b) (by simp) ?_
    intro H locs ls hPc hPm hS hl
    refine va_slen hx hb G.2.2.2.2.2.2.1.1 G.2.2.2.2.2.2.1.2 (Nat.not_le.mpr G.2.2.2.2.2.2.1.2) hS dL_law_20.1 ?_
    refine lv_bipush (v := 6) hx hb dL_law_21.1 (by decide) ?_
    refine lv_isub hx hb dL_law_23.1 ?_
    have hs : (Int32.ofNat L - 6).toInt = (L : Int) - 6 := by
      have e : (Int32.ofNat L).toInt = (L : Int) := nI_toInt (show L < 2 ^ 31 by omega)
      have e6 : (6 : Int32).toInt = 6 := rfl
      rw [Int32.toInt_sub, e, e6, Int.bmod_eq_of_le] <;> omega
    refine lv_icmp_gt (tgt := 1398) hx hb dL_law_24.1 rfl (fun hc => ?_) (fun hc => ?_)
    · exact hend σ ρ i H locs ls hPc hPm hS hl
    · rw [Int32.lt_iff_toInt_lt, hs, nI_toInt (by omega)] at hc
      have hi : i + 6 ≤ L := by omega
      revert H locs ls hPc hPm hS hl
      show lJ Oc Om p l e s m args below meth c Q NC NS 27 [(0, .ref b), (1, .ref (Oc.2.1 0)), (2, .ref (Om.2.1 0)), (3, .int (nI i))] [] σ ρ
      refine lj_ld G dL_law_27 (x := b) (by simp) ?_
      refine lj_il G dL_law_28 (x := nI i) (by simp) ?_
      refine lj_sld G rfl (by omega) dL_law_29 ?_
      intro H locs ls hPc hPm hS hl
      refine lv_bipush (v := 63) hx hb dL_law_30.1 (by decide) ?_
      refine lv_iand hx hb dL_law_32.1 ?_
      obtain ⟨j, hj, ej⟩ := pk_andE (xs i) (m := 63) 6 (by decide)
      rw [ej]
      refine lc_any G hi h hj (fun τ ρ2 hc2 => ?_) H locs ls hPc hPm hS hl
      intro H locs ls hPc hPm hS hl
      refine lv_iinc (v := nI (i + 6)) (lv' := [(3, .int (nI (i + 6))), (0, .ref b), (1, .ref (Oc.2.1 0)), (2, .ref (Om.2.1 0))]) hx hb dL_law_1392.1 hl (k := 3) rfl (nI_add i 6) (by decide) rfl (fun ls hl => ?_)
      refine lv_goto (tgt := 18) hx hb dL_law_1395.1 rfl ?_
      exact ih (i + 6) τ ρ2 (by omega) (by omega) hc2 H locs ls hPc hPm hS (lv_sub hl [1, 2, 3, 0] rfl)
