/-! ===== new int[n][k]: the outer row, then the inner ones, cell behind cell ===== -/
/-- F lies behind T: a row of N places, of which the first i name rows of K zeros; these lie behind it, one by one -/
def nx_mk (T F : State) (cA cI : ClassId) (N K i : Nat) : Prop :=
  (∃ (H : Heap) (u : Nat), F = { T with heap := H, slotsUsed := u }) ∧ F.slotsUsed = T.slotsUsed + N + i * K ∧ F.heap.size = T.heap.size + 1 + i ∧ F.heap[T.heap.size]? = some (arrV cA N (fun j => va_rf (if j < i then some (T.heap.size + 1 + j) else none))) ∧ (∀ x : Nat, x < T.heap.size → F.heap[x]? = T.heap[x]?) ∧ ∀ j : Nat, j < i → F.heap[T.heap.size + 1 + j]? = some (arrV cI K (fun _ => .int 0))
theorem nx_mk_none {T : State} {cA cI : ClassId} {N K : Nat} : nx_mk T (T.pushCell (arrV cA N (fun _ => .null))) cA cI N K 0 := by
  refine ⟨⟨_, _, rfl⟩, ?_, ?_, ?_, fun x hx => State.heap_pushCell_of_lt _ _ hx, fun j hj => absurd hj (Nat.not_lt_zero j)⟩
  · rw [State.slotsUsed_pushCell, arrV_size, Nat.zero_mul, Nat.add_zero]
  · rw [State.heap_size_pushCell]
  · rw [State.heap_pushCell_size]
    refine congrArg (fun f => some (arrV cA N f)) (funext fun j => ?_)
    rw [if_neg (Nat.not_lt_zero j)]
    rfl
theorem nx_mk_upd (b i : Nat) : updV (fun j => va_rf (if j < i then some (b + j) else none)) i (.ref (b + i)) = fun j => va_rf (if j < i + 1 then some (b + j) else none) := by
  funext j
  unfold updV
  by_cases h : j = i
  · rw [if_pos h, h, if_pos (Nat.lt_succ_self i)]
    rfl
  · rw [if_neg h]
    show va_rf (if j < i then some (b + j) else none) = va_rf (if j < i + 1 then some (b + j) else none)
    by_cases q : j < i
    · rw [if_pos q, if_pos (Nat.lt_succ_of_lt q)]
    · rw [if_neg q, if_neg (by omega)]
theorem nx_mk_more {T F : State} {cA cI : ClassId} {N K i : Nat} (h : nx_mk T F cA cI N K i) : nx_mk T ((F.pushCell (arrV cI K (fun _ => .int 0))).setCell T.heap.size (arrV cA N (fun j => va_rf (if j < i + 1 then some (T.heap.size + 1 + j) else none)))) cA cI N K (i + 1) := by
  obtain ⟨h1, h2, h3, h4, h5, h6⟩ := h
  have hb : T.heap.size < F.heap.size := by omega
  have hc : (F.pushCell (arrV cI K (fun _ => .int 0))).heap[T.heap.size]? = some (arrV cA N (fun j => va_rf (if j < i then some (T.heap.size + 1 + j) else none))) := (State.heap_pushCell_of_lt _ _ hb).trans h4
  refine ⟨?_, ?_, ?_, State.heap_setCell_self hc, fun x hx => ?_, fun j hj => ?_⟩
  · obtain ⟨H, u, rfl⟩ := h1
    exact ⟨_, _, rfl⟩
  · rw [State.slotsUsed_setCell, State.slotsUsed_pushCell, arrV_size, h2, Nat.succ_mul]
    omega
  · show ((F.pushCell (arrV cI K (fun _ => .int 0))).heap.setIfInBounds _ _).size = _
    rw [Array.size_setIfInBounds, State.heap_size_pushCell, h3]
    omega
  · rw [State.heap_setCell_other (show T.heap.size ≠ x by omega), State.heap_pushCell_of_lt _ _ (show x < F.heap.size by omega)]
    exact h5 x hx
  · rw [State.heap_setCell_other (show T.heap.size ≠ T.heap.size + 1 + j by omega)]
    by_cases q : j < i
    · rw [State.heap_pushCell_of_lt _ _ (show T.heap.size + 1 + j < F.heap.size by omega)]
      exact h6 j q
    · rw [show T.heap.size + 1 + j = F.heap.size by omega]
      exact State.heap_pushCell_size _ _
/-- there is but one such F -/
theorem nx_mk_one {T F G : State} {cA cI : ClassId} {N K i : Nat} (h : nx_mk T F cA cI N K i) (q : nx_mk T G cA cI N K i) : F = G := by
  obtain ⟨⟨H, u, rfl⟩, h2, h3, h4, h5, h6⟩ := h
  obtain ⟨⟨J, v, rfl⟩, q2, q3, q4, q5, q6⟩ := q
  have eu : u = v := h2.trans q2.symm
  have eH : H = J := by
    apply Array.ext_getElem?
    intro x
    rcases Nat.lt_trichotomy x T.heap.size with w | w | w
    · exact (h5 x w).trans (q5 x w).symm
    · rw [w]
      exact h4.trans q4.symm
    · obtain ⟨j, rfl⟩ : ∃ j, x = T.heap.size + 1 + j := ⟨x - T.heap.size - 1, by omega⟩
      by_cases hj : j < i
      · exact (h6 j hj).trans (q6 j hj).symm
      · rw [Array.getElem?_eq_none (show H.size ≤ _ by rw [show H.size = T.heap.size + 1 + i from h3]; omega), Array.getElem?_eq_none (show J.size ≤ _ by rw [show J.size = T.heap.size + 1 + i from q3]; omega)]
  rw [eu, eH]
section
variable {p : Program} {l : Launch} {e : Env} {R : Room} {s : State} {m : MethodId} {args : Array Value} {below : List Frame} {meth : Method} {c : Code} {T : State} {locs : List Loc} {cells slots : Nat}
/-- the walk stands on where an inner row is made and named -/
theorem nx_mk_stand {F : State} {cA cI : ClassId} {N K i : Nat} (X : Stand p l e R s m args below meth c T locs cells slots) (Y : Stand p l e R s m args below meth c F locs (cells + 1 + i) (slots + N + i * K)) (h : nx_mk T F cA cI N K i) : Stand p l e R s m args below meth c ((F.pushCell (arrV cI K (fun _ => .int 0))).setCell T.heap.size (arrV cA N (fun j => va_rf (if j < i + 1 then some (T.heap.size + 1 + j) else none)))) locs (cells + 1 + (i + 1)) (slots + N + (i + 1) * K) := by
  have hb : T.heap.size < F.heap.size := by rw [h.2.2.1]; omega
  have hc : (F.pushCell (arrV cI K (fun _ => .int 0))).heap[T.heap.size]? = some (arrV cA N (fun j => va_rf (if j < i then some (T.heap.size + 1 + j) else none))) := (State.heap_pushCell_of_lt _ _ hb).trans h.2.2.2.1
  have Z := (Y.pushed (arrV cI K (fun _ => .int 0))).stored hc i (.ref (T.heap.size + 1 + i))
  rw [arrV_store, nx_mk_upd, arrV_size] at Z
  have Z2 := Z.dropFresh (fun x hx => by
    rw [List.mem_singleton.mp hx]
    exact X.heapGrown)
  rw [Nat.succ_mul, ← Nat.add_assoc, ← Nat.add_assoc]
  exact Z2
theorem nx_mk_is {cA cI : ClassId} {N K : Nat} (X : Stand p l e R s m args below meth c T locs cells slots) : ∀ i : Nat, ∃ F, nx_mk T F cA cI N K i ∧ Stand p l e R s m args below meth c F locs (cells + 1 + i) (slots + N + i * K)
  | 0 => ⟨T.pushCell (arrV cA N (fun _ => .null)), nx_mk_none, by
    have Z := X.pushed (arrV cA N (fun _ => .null))
    rw [arrV_size] at Z
    rw [Nat.zero_mul, Nat.add_zero, Nat.add_zero]
    exact Z⟩
  | i + 1 => by
    obtain ⟨F, a, b⟩ := nx_mk_is X i
    exact ⟨_, nx_mk_more a, nx_mk_stand X b a⟩
/-- the whole of it: the outer row, and in it the inner ones -/
theorem nx_make {E : CtlPost} {d : Bool} {acts : List Action} {cA cI cc : ClassId} {kA kI : Class} {n k : Int32} {N K : Nat} {g : JFrame} (X : Stand p l e R s m args below meth c T locs cells slots) (hkA : T.vm.classes[cA]? = some kA) (hA : kA.kind = .array cI (.array .int)) (hkI : T.vm.classes[cI]? = some kI) (hI : kI.kind = .array cc .int) (hn : ¬ n < 0) (hk : ¬ k < 0) (eN : n.toNatClampNeg = N) (eK : k.toNatClampNeg = K) (hN : N < 100000) (hK : K < 100000) (hcells : cells + (1 + N) ≤ R.cells) (hslots : slots + (N + N * K) ≤ R.slots)
    {Q : Addr → Pre} (hq : ∀ F d' acts', nx_mk T F cA cI N K N → Stand p l e R s m args below meth c F locs (cells + 1 + N) (slots + N + N * K) → Q T.heap.size d' acts' (F.setTop g)) : wp (multianewarray.make cA [n, k]) Q E e d acts (T.setTop g) := by
  obtain ⟨r1, r2⟩ := X.roomAbove hcells hslots
  have lim : e.platform.arrayLengthLimit = 2147483645 := Launch.admits_arrayLengthLimit X.admits
  have mem : e.platform.maxHeapBytes = 536870912 := Launch.admits_maxHeapBytes X.admits
  have hno : ([k].find? (· < 0)) = none := by simp [hk]
  rw [multianewarray.make]
  simp only [wp_bind', W.ite, hn, if_false, wp_pure', W.theClass, State.vm_setTop, hkA, hA, Option.some.injEq, exists_eq_left', eN]
  refine W.newArray_of (s := T.setTop g) hkA hA (by rw [lim]; omega) (by rw [mem]; show ¬ N * 4 > _; omega) (by show T.heap.size < _; omega) (by show T.slotsUsed + N ≤ _; omega) rfl (fun acts1 => ?_)
  simp only [hno]
  rw [ite_self, wp_bind', Std.Legacy.Range.forIn_eq_forIn_range', show ([:N] : Std.Legacy.Range).size = N by simp [Std.Legacy.Range.size]]
  refine wp_forIn_inv (fun todo S => ∃ i F, todo = List.range' i todo.length ∧ i + todo.length = N ∧ S = F.setTop g ∧ nx_mk T F cA cI N K i ∧ Stand p l e R s m args below meth c F locs (cells + 1 + i) (slots + N + i * K)) _ _ ?_ ?_ ?_
  · refine ⟨0, T.pushCell (arrV cA N (fun _ => .null)), by rw [List.length_range'], by rw [List.length_range', Nat.zero_add], ?_, nx_mk_none, ?_⟩
    · rw [← arrV_new]
      rfl
    · have Z := X.pushed (arrV cA N (fun _ => .null))
      rw [arrV_size] at Z
      rw [Nat.zero_mul, Nat.add_zero, Nat.add_zero]
      exact Z
  · rintro j todo S d1 acts2 Q1 ⟨i, F, a1, a2, rfl, a4, a5⟩ next
    rw [List.length_cons] at a1 a2
    rw [List.range'_succ] at a1
    obtain ⟨rfl, a6⟩ := List.cons.inj a1
    obtain ⟨b0, b2, b3, b4, -, -⟩ := id a4
    have b1 : F.vm = T.vm := by
      obtain ⟨H, u, rfl⟩ := b0
      rfl
    have hm : j * K + K ≤ N * K := by
      rw [← Nat.succ_mul]
      exact Nat.mul_le_mul_right K (by omega)
    have hb : T.heap.size < F.heap.size := by omega
    rw [wp_bind', multianewarray.make]
    simp only [wp_bind', W.ite, hk, if_false, wp_pure', W.theClass, State.vm_setTop, b1, hkI, hI, Option.some.injEq, exists_eq_left', eK]
    refine W.newArray_of (s := F.setTop g) (by rw [State.vm_setTop, b1]; exact hkI) hI (by rw [lim]; omega) (by rw [mem]; show ¬ K * 4 > _; omega) (by show F.heap.size < _; omega) (by show F.slotsUsed + K ≤ _; omega) rfl (fun acts3 => ?_)
    simp only [wp_bind', W.writeLoc, wp_pure']
    refine ⟨arrV cA N (fun q => va_rf (if q < j then some (T.heap.size + 1 + q) else none)), ?_, ?_, ?_, ?_, next _ _ _ ⟨j + 1, _, a6, by omega, ?_, nx_mk_more a4, nx_mk_stand X a5 a4⟩⟩
    · exact (State.heap_pushCell_of_lt _ _ hb).trans b4
    · exact fun q => by cases q
    · rw [arrV_size]
      omega
    · show State.fitsSlot (F.setTop g) cA .none j _ = true
      simp [State.fitsSlot, State.slotType?, b1, hkA, hA, fits]
    · rw [arrV_store, ← arrV_new, show (F.setTop g).heap.size = T.heap.size + 1 + j from b3, nx_mk_upd]
      rfl
  · rintro S d1 acts2 ⟨i, F, -, a2, rfl, a4, a5⟩
    have hi : i = N := a2
    subst hi
    rw [wp_pure']
    exact hq F d1 acts2 a4 a5
end
theorem nx_mna {O : rx_O} {own : String} {cc : ByteArray} {nL : Nat} {p : Program} {l : Launch} {e : Env} {R : Room} {s : State} {m : MethodId} {args : Array Value} {below : List Frame} {meth : Method} {c : Code} {Q : State → Prop} {b pc pc2 cn sn : Nat} {lo : List (Nat × Value)} {st : List Value} {es : List va_E} (X : nx_G O own cc nL p s m args c) {t0 t1 N K index a : Nat} {cA cI : ClassId} {n k : Int32} (hcl : Cond.classLink own index ("[" ++ (FieldType.array .int).toString) ∈ rx_tbl) (harr : Cond.arrayClass .int ∈ rx_tbl) (ht0 : O.2.2.2.1[t0]? = some (cI, .int)) (ht1 : O.2.2.2.1[t1]? = some (cA, .array .int)) (hn : n = nI N) (hk : k = nI K) (hN : N < 100000) (hK : K < 100000) (hcells : cn + (1 + N) ≤ R.cells) (hslots : sn + (N + N * K) ≤ R.slots) (ha : a = b + es.length) (hd : rx_D cc pc (.multianewarray index 2) 4 pc2)
    (kk : nJ O nL p l e R s m args below meth c Q b pc2 lo (.ref a :: st) (es ++ (.inl (cA, N, .inr (.inr (.inr (.inr (fun i => if i < N then some (a + 1 + i) else none))))) :: List.replicate N (.inl (cI, K, .inl (fun _ => 0))))) (cn + 1 + N) (sn + N + N * K)) : nJ O nL p l e R s m args below meth c Q b pc lo (.int k :: .int n :: st) es cn sn := by
  obtain ⟨hd, rfl⟩ := hd
  subst ha
  subst hn
  subst hk
  have hts := X.2.2.2.2.1
  have hcN : (nI N).toNatClampNeg = N := nI_clamp (by omega)
  have hcK : (nI K).toNatClampNeg = K := nI_clamp (by omega)
  have n0 : ¬ nI N < 0 := fun h => (vp_in_nI (n := N) (N := N + 1) (by omega) (by omega)) (Or.inl h)
  have k0 : ¬ nI K < 0 := fun h => (vp_in_nI (n := K) (N := K + 1) (by omega) (by omega)) (Or.inl h)
  intro H locs ls hP hS hl T hT Xs
  have hpl : e.platform.magicAccessors = ({} : Platform).magicAccessors := by rw [Xs.admits.platform]
  obtain ⟨comp, cB, kA, fI, -, gA, gB, fA⟩ := arrayOverA_spec (t := .int) X.2.2.2.2.2.2.2.2.1
  obtain ⟨comp2, kI, cc0, fI2, gI, gJ⟩ := Cond.arrayClass_spec (hts _ harr)
  have ec : cB = cA := Option.some.inj (fA.symm.trans (X.2.2.2.2.2.1.2 t1 _ ht1).2)
  have ei : comp = cI := Option.some.inj (fI.symm.trans (X.2.2.2.2.2.1.2 t0 _ ht0).2)
  have ej : comp2 = cI := Option.some.inj (fI2.symm.trans (X.2.2.2.2.2.1.2 t0 _ ht0).2)
  rw [ec] at gA fA
  rw [ei] at gB
  rw [ej] at gI
  obtain ⟨c1, fc, link⟩ := Cond.classLink_spec X.2.2.2.1 (hts _ hcl) e.platform hpl
  have e1 : c1 = cA := Option.some.inj (fc.symm.trans fA)
  rw [e1] at link
  obtain ⟨gives, warm, -⟩ := State.classEntry (e := e) Xs.warmed link
  generalize T.vm.noted m.cls index (.cls cA) = vm1 at gives warm
  obtain ⟨kA1, gA1, sA⟩ := warm.alike.2.2 _ _ gA
  obtain ⟨kI1, gI1, sI⟩ := warm.alike.2.2 _ _ gI
  have Y := Xs.noted warm
  have fin : ∀ F : State, nx_mk (T.setVm vm1) F cA cI N K N → Stand p l e R s m args below meth c F locs (cn + 1 + N) (sn + N + N * K) → ∃ t, Steps p.tables e below (F.setTop (F0 m (pc + 4) ls (.ref (b + es.length) :: st))) t ∧ Q t := by
    intro F hF YF
    obtain ⟨-, -, f1, f2, f3, f4⟩ := hF
    have hz : H.size = b + es.length := hP.1
    have hs : (T.setVm vm1).heap = H := hT
    rw [hs, hz] at f1 f2
    rw [hs] at f3
    rw [hs, hz] at f4
    refine kk F.heap locs ls (nx_H.app hP.2 (fun q hq => f3 q (by rw [hz]; exact hq)) ⟨?_, fun j x hx => ?_⟩) (nx_S.grow hS (by omega) f3) hl F rfl YF
    · rw [f1, List.length_cons, List.length_replicate]
      omega
    · cases j with
      | zero =>
        cases hx
        show F.heap[b + es.length + 0]? = some (vp_cell _ _)
        rw [Nat.add_zero, f2, vp_cell_q]
      | succ j =>
        rw [List.getElem?_cons_succ] at hx
        have hj : j < N := by
          have := (List.getElem?_eq_some_iff.mp hx).1
          rw [List.length_replicate] at this
          exact this
        rw [List.getElem?_replicate, if_pos hj] at hx
        cases hx
        show F.heap[b + es.length + (j + 1)]? = some (vp_cell _ _)
        rw [show b + es.length + (j + 1) = b + es.length + 1 + j by omega, f4 j hj, vp_cell_i]
  obtain ⟨F, hF, YF⟩ := nx_mk_is (cA := cA) (cI := cI) (N := N) (K := K) Y N
  obtain ⟨t, go, ht⟩ := fin F hF YF
  refine ⟨t, ?_, ht⟩
  have hdg : decode c.code pc = .ok (.multianewarray index 2, 4) := by rw [X.2.1]; exact hd
  have top : ((T.setVm vm1).setTop (F0 m pc ls (.int (nI K) :: .int (nI N) :: st))).topJava? = some (F0 m pc ls (.int (nI K) :: .int (nI N) :: st)) := State.topJava?_setTop' _ Xs.here.top
  jvm_step Xs.here [X.1, hdg]
  simp only [multianewarray.sem, wp_bind', W.resolveClassAt_links (State.method?_setTop (F0 m pc ls (.int (nI K) :: .int (nI N) :: st)) Xs.here.top) gives]
  rw [W.popN, if_neg (by decide)]
  refine ⟨_, top, [.int (nI N), .int (nI K)], st, rfl, rfl, ?_⟩
  simp only [List.mapM_cons, List.mapM_nil, wp_bind', wp_pure']
  rw [show ((T.setTop (F0 m pc ls (.int (nI K) :: .int (nI N) :: st))).setVm vm1).setTop (F0 m pc ls st) = (T.setVm vm1).setTop (F0 m pc ls st) from State.setTop_setTop (T.setVm vm1) _ _]
  refine nx_make Y gA1 (by rw [sA]; exact gB) gI1 (by rw [sI]; exact gJ) n0 k0 hcN hcK hN hK hcells hslots (fun G d1 acts1 hG YG => ?_)
  rw [nx_mk_one hG hF]
  have hz : (T.setVm vm1).heap.size = b + es.length := by rw [show (T.setVm vm1).heap = H from hT, hP.1]
  simp only [wp_bind', W.mark, W.pushRef, State.topJava?_setTop' _ YF.here.top, Option.some.injEq, exists_eq_left', State.setTop_setTop, hz]
  intro acts2
  simp [jvm, YF.here.top]
  exact go
