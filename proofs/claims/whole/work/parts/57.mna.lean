/-! ===== new int[n][k]: the outer row, then the inner ones, cell behind cell ===== -/
theorem nx_outer (c : ClassId) (N h : Nat) : ∀ i : Nat, Jvm.Free.Multi.outerC c N h i = arrV c N (fun j => va_rf (if j < i then some (h + 1 + j) else none)) := by
  intro i
  induction i with
  | zero =>
    show ({ cls := c, slots := Array.replicate N .null, vm := .none } : Cell) = _
    rw [arrV_new]
    congr 1
  | succ i ih =>
    show (Jvm.Free.Multi.outerC c N h i).setSlot i (.ref (h + 1 + i)) = _
    rw [ih, arrV_store]
    congr 1
    funext j
    by_cases e : j = i
    · subst e
      simp [updV, va_rf]
    · by_cases q : j < i
      · simp [updV, e, q, Nat.lt_succ_of_lt q]
      · simp [updV, e, q, show ¬ j < i + 1 by omega]
theorem nx_mna {O : rx_O} {own : String} {cc : ByteArray} {nL : Nat} {p : Program} {l : Launch} {e : Env} {R : Room} {s : State} {m : MethodId} {args : Array Value} {below : List Frame} {meth : Method} {c : Code} {Q : State → Prop} {b pc pc2 cn sn : Nat} {lo : List (Nat × Value)} {st : List Value} {es : List va_E} (X : nx_G O own cc nL p s m args c) {t0 t1 N K index a : Nat} {cA cI : ClassId} {n k : Int32} (hcl : Cond.classLink own index ("[" ++ (FieldType.array .int).toString) ∈ rx_tbl) (harr : Cond.arrayClass .int ∈ rx_tbl) (ht0 : O.2.2.2.1[t0]? = some (cI, .int)) (ht1 : O.2.2.2.1[t1]? = some (cA, .array .int)) (hn : n = nI N) (hk : k = nI K) (hN : N < 100000) (hK : K < 100000) (hcells : cn + (1 + N) ≤ R.cells) (hslots : sn + (N + N * K) ≤ R.slots) (ha : a = b + es.length) (hd : rx_D cc pc (.multianewarray index 2) 4 pc2)
    (kk : nJ O nL p l e R s m args below meth c Q b pc2 lo (.ref a :: st) (es ++ (.inl (cA, N, .inr (.inr (.inr (.inr (fun i => if i < N then some (a + 1 + i) else none))))) :: List.replicate N (.inl (cI, K, .inl (fun _ => 0))))) (cn + 1 + N) (sn + N + N * K)) : nJ O nL p l e R s m args below meth c Q b pc lo (.int k :: .int n :: st) es cn sn := by
  obtain ⟨hd, rfl⟩ := hd
  subst ha
  subst hn
  subst hk
  have hts := X.2.2.2.2.1
  have hcN : (nI N).toNatClampNeg = N := nI_clamp (by omega)
  have hcK : (nI K).toNatClampNeg = K := nI_clamp (by omega)
  have n0 : ¬ nI N < 0 := fun h => (vp_in_nI (n := N) (N := N + 1) (by omega) (by omega)) (Or.inl h)
  have k0 : ¬ nI K < 0 := fun h => (vp_in_nI (n := K) (N := K + 1) (by omega) (by omega)) (Or.inl h)
  intro H locs ls hP hS hl T hT Xs
  obtain ⟨vm₁, cA', comp, -, fA, fC, -, -, X', step⟩ := Jvm.Stand.multianewarray2F Xs X.1 X.2.2.2.1 (hts _ hcl) X.2.2.2.2.2.2.2.2.1 (hts _ harr) (g := F0 m pc ls (.int (nI K) :: .int (nI N) :: st)) rfl (by rw [X.2.1]; exact hd) rfl n0 k0 (by rw [hcN]; omega) (by rw [hcK]; show K * 4 ≤ _; omega) (by rw [hcK]; omega) rfl rfl (by rw [hcN]; exact hcells) (by rw [hcN, hcK]; exact hslots)
  rw [hcN, hcK] at X' step
  have ec : cA' = cA := Option.some.inj (fA.symm.trans (X.2.2.2.2.2.1.2 t1 _ ht1).2)
  have ei : comp = cI := Option.some.inj (fC.symm.trans (X.2.2.2.2.2.1.2 t0 _ ht0).2)
  rw [ec, ei] at X' step
  have hTh : (T.setVm vm₁).heap = H := hT
  obtain ⟨f1, f2, -, -⟩ := Jvm.Free.Multi.fill_facts (T.setVm vm₁) cA cI N K (defaultValue .int) N
  have hold : ∀ x : Nat, x < H.size → (Jvm.Free.Multi.fill (T.setVm vm₁) cA cI N K (defaultValue .int) N).heap[x]? = H[x]? := fun x hx => by
    have h1 := Jvm.Free.Multi.fill_old (T.setVm vm₁) cA cI N K (defaultValue .int) (a := x) (by rw [hTh]; exact hx) N
    rw [hTh] at h1
    exact h1
  have hrow : ∀ j : Nat, j < N → (Jvm.Free.Multi.fill (T.setVm vm₁) cA cI N K (defaultValue .int) N).heap[H.size + 1 + j]? = some (Jvm.Free.Multi.innerC cI K (defaultValue .int)) := fun j hj => by
    have h1 := Jvm.Free.Multi.fill_inner (T.setVm vm₁) cA cI N K (defaultValue .int) N j hj
    rw [hTh] at h1
    exact h1
  rw [hTh] at f1 f2
  generalize Jvm.Free.Multi.fill (T.setVm vm₁) cA cI N K (defaultValue .int) N = F at X' step f1 f2 hold hrow
  have hsz : T.heap.size = b + es.length := by rw [hT, hP.1]
  have hz := hP.1
  have hF : nx_H O b (es ++ (.inl (cA, N, .inr (.inr (.inr (.inr (fun i => if i < N then some (b + es.length + 1 + i) else none))))) :: List.replicate N (.inl (cI, K, .inl (fun _ => 0))))) F.heap := by
    refine nx_H.app hP.2 (fun q hq => hold q (by rw [hz]; exact hq)) ⟨?_, fun j x hx => ?_⟩
    · rw [f1, hz, List.length_cons, List.length_replicate]
      omega
    · cases j with
      | zero =>
        cases hx
        show F.heap[b + es.length + 0]? = some (vp_cell _ _)
        rw [Nat.add_zero, ← hz, f2, nx_outer, vp_cell_q]
      | succ j =>
        rw [List.getElem?_cons_succ] at hx
        have hj : j < N := by
          have := (List.getElem?_eq_some_iff.mp hx).1
          rw [List.length_replicate] at this
          exact this
        rw [List.getElem?_replicate, if_pos hj] at hx
        cases hx
        show F.heap[b + es.length + (j + 1)]? = some (vp_cell _ _)
        rw [show b + es.length + (j + 1) = H.size + 1 + j by omega, hrow j hj, vp_cell_i]
        exact congrArg some (arrV_new _ _ _)
  obtain ⟨t, a1, b1⟩ := kk F.heap locs ls hF (nx_S.grow hS (by omega) hold) hl F rfl X'
  rw [hsz] at step
  exact ⟨t, step t a1, b1⟩
