/-! ===== the start of the law ===== -/
theorem cR_start : cR cs0 ms0 := by
  have w0 : ms0.1 4 = fun _ => 0 := ms0_z (by decide) (by decide)
  have s0 : ∀ r, r < 8 → ms0.1 2 r = -1 := fun r hr => by
    show (if 2 = 2 ∧ r < 8 then (-1 : Int32) else if 2 = 0 ∧ r = 6 then -1 else 0) = -1
    rw [if_pos ⟨rfl, hr⟩]
  have c0 : ∀ r, r < 8 → cs0.1 21 r = -1 := fun r hr => by
    show (if 21 = 21 ∧ r < 8 then (-1 : Int32) else 0) = -1
    rw [if_pos ⟨rfl, hr⟩]
  refine ⟨⟨rfl, ?_, ?_, Or.inr ⟨rfl, fun i _ => by rw [w0]⟩⟩, ⟨rfl, rfl, fun a ha => Or.inl (by rw [cs0_z (by omega)])⟩, ⟨fun r hr => ?_, fun r hr => ⟨?_, ?_⟩, fun r hr i hi hs => ?_⟩, ⟨0, by decide, rfl, rfl, ?_, rfl⟩, ⟨0, 0, by decide, by decide, rfl, rfl, rfl, fun h => absurd h (by decide), fun j hj => absurd hj (by omega)⟩, fun k hk => ⟨?_, Or.inl ?_⟩, ⟨0, by decide, rfl, rfl, ?_⟩⟩
  · rw [w0]
    exact ⟨⟨by decide, by decide⟩, fun a _ ha => cb_six (P := fun a => ¬ w_has 0 a) (by decide) (by decide) (by decide) (by decide) (by decide) (by decide) a ha⟩
  · rw [w0]
    exact ⟨fun a ha => Or.inl (by rw [cs0_z (by omega)]), ⟨⟨rfl, rfl, rfl, rfl⟩, fun i _ h => absurd h (Nat.not_lt_zero i)⟩, fun a _ h => absurd h (Nat.not_lt_zero a)⟩
  · rw [s0 r hr]
    decide
  · rw [cs0_z (by decide), ms0_z (by decide) (by decide)]
  · rw [c0 r hr, s0 r hr]
  · rw [s0 r hr] at hs
    have h1 : ((-1 : Int32)).toInt = -1 := rfl
    omega
  · rw [cs0_z (by decide), ms0_z (by decide) (by decide)]
  · rw [cs0_z (by decide), ms0_z (by decide) (by decide)]
  · rw [ms0_z (by decide) (by decide)]
  · rw [cs0_z (by decide), ms0_z (by decide) (by decide)]
/-- a static row of six ints, as the Statement gives it -/
theorem st_arr {args : Array Value} {s : State} {C n : String} {ys : List Int32} {A : Nat → Prop} (hl : (Cond.laysStatic C n "[I").before args s = true) (hini : (Cond.initialized C).before args s = true) (harr : (Cond.arrayOf (.static C n "[I") .int).before args s = true) (hlen : (Cond.eq (.length (.static C n "[I")) (.int 6)).before args s = true) (hel : ∀ j : Nat, j < 6 → (Cond.eq (.elem (.static C n "[I") (.int (Int32.ofNat j))) (.int (ys.getD j 0))).before args s = true) (hys : ys.length = 6) (hA : ∀ a : Nat, a < s.heap.size → ¬ A a) :
    ∃ t : Nat, t < s.heap.size ∧ va_Z C n "[I" (.ref t) A s s.heap ∧ va_X t ys.length (fun j => ys.getD j 0) s s.heap := by
  have e1 := va_eqt hlen
  obtain ⟨t, ht, hT⟩ := va_Tof (N := 6) (f := fun j => .int (ys.getD j 0)) (A := A) (by decide) harr e1 (fun j hj => va_eqt (hel j hj)) hA
  obtain ⟨t', cell', ht', hat, hsm, -⟩ := Jvm.Lib.length_spec e1
  obtain ⟨cell, h1, h2, h3, h4, h5, h6, h7⟩ := hT
  cases ht.symm.trans ht'
  have hcc : cell' = cell := Option.some.inj ((State.arrayAt?_spec hat).1.symm.trans h1)
  rw [hcc] at hsm
  have hsz : cell.slots.size = 6 := by
    have e2 : (nI cell.slots.size).toInt = (nI 6).toInt := congrArg Int32.toInt h5
    rw [nI_toInt hsm, nI_toInt (by decide)] at e2
    omega
  exact ⟨t, (Array.getElem?_eq_some_iff.mp h1).1, va_Zof hl hini ht hA, cell, h1, h2, h3, by rw [hys]; exact hsz, fun j hj => h6 j (by omega)⟩
abbrev law_tys (cI cZ cB cA cII : ClassId) : List (ClassId × FieldType) := [(cI, .int), (cZ, .boolean), (cB, .object "AntBand$Band"), (cA, .object "AntBand$Ant"), (cII, .array .int)]
/-- the classes' numbers, the rows' classes -/
theorem law_world {args : Array Value} {s : State} (hts : ∀ w ∈ lw_tbl, w.before args s = true) : ∃ (D : va_G) (cI cZ cB cA cII : ClassId), va_K D rx_cl (law_tys cI cZ cB cA cII) s ∧ nx_E s := by
  have htr : ∀ w ∈ rx_tbl, w.before args s = true := fun w hw => hts w (List.mem_filter.mp hw).1
  obtain ⟨c0, i0, k0⟩ := u_known (C := RX0) (T := TX0) (N := 3) (n := 3) htr inX0 (htr _ niX0)
  obtain ⟨c1, i1, k1⟩ := u_known (C := RX1) (T := TX1) (N := 6) (n := 6) htr inX1 (htr _ niX1)
  obtain ⟨c2, i2, k2⟩ := u_known (C := RX2) (T := TX2) (N := 7) (n := 7) htr inX2 (htr _ niX2)
  obtain ⟨c3, i3, k3⟩ := u_known (C := RX3) (T := TX3) (N := 6) (n := 6) htr inX3 (htr _ niX3)
  obtain ⟨c4, i4, k4⟩ := u_known (C := RX4) (T := TX4) (N := 7) (n := 7) htr inX4 (htr _ niX4)
  obtain ⟨c5, i5, k5⟩ := u_known (C := RX5) (T := TX5) (N := 3) (n := 3) htr inX5 (htr _ niX5)
  obtain ⟨c6, i6, k6⟩ := u_known (C := RX6) (T := TX6) (N := 4) (n := 4) htr inX6 (htr _ niX6)
  obtain ⟨c7, i7, k7⟩ := u_known (C := RX7) (T := TX7) (N := 10) (n := 10) htr inX7 (htr _ niX7)
  obtain ⟨c8, i8, k8⟩ := u_known (C := RX8) (T := TX8) (N := 26) (n := 26) htr inX8 (htr _ niX8)
  obtain ⟨cI, kI, pI, a1, a2, a3⟩ := Cond.arrayClass_spec (htr _ na_int)
  obtain ⟨cZ, kZ, pZ, z1, z2, z3⟩ := Cond.arrayClass_spec (htr _ na_boolean)
  have oB : (Cond.arrayOver (.object "AntBand$Band")).before args s = true := hts _ (List.mem_of_getElem? (i := 213) (by decide +kernel))
  have oA : (Cond.arrayOver (.object "AntBand$Ant")).before args s = true := hts _ (List.mem_of_getElem? (i := 91) (by decide +kernel))
  have oI : (Cond.arrayOver (.array .int)).before args s = true := hts _ (List.mem_of_getElem? (i := 171) (by decide +kernel))
  have oN : (Cond.methodLinkNest RX3 19 yX1_init "AntBand").before args s = true := hts _ (List.mem_of_getElem? (i := 93) (by decide +kernel))
  obtain ⟨pB, cB, kB, b1, -, b2, b3, b4⟩ := Cond.arrayOver_spec oB
  obtain ⟨pA, cA, kA, d1, -, d2, d3, d4⟩ := Cond.arrayOver_spec oA
  obtain ⟨pII, cII, kII, e1, -, e2, e3, e4⟩ := arrayOverA_spec (t := .int) oI
  refine ⟨(fun k => ([c0, c1, c2, c3, c4, c5, c6, c7, c8] : List ClassId).getD k 0, fun k => ([i0, i1, i2, i3, i4, i5, i6, i7, i8] : List (Nat → Nat)).getD k (fun _ => 0)), cI, cZ, cB, cA, cII, ⟨?_, ?_⟩, va_AO.of oA, va_AO.of oB, oI, va_Nw.of rfl oN⟩
  · intro k q hq
    match k, hq with
    | 0, hq => cases hq; exact k0
    | 1, hq => cases hq; exact k1
    | 2, hq => cases hq; exact k2
    | 3, hq => cases hq; exact k3
    | 4, hq => cases hq; exact k4
    | 5, hq => cases hq; exact k5
    | 6, hq => cases hq; exact k6
    | 7, hq => cases hq; exact k7
    | 8, hq => cases hq; exact k8
    | k + 9, hq => cases hq
  · intro k q hq
    match k, hq with
    | 0, hq => cases hq; exact ⟨fun N z => ⟨(fun k h => by cases h), kI, a2, pI, a3⟩, a1⟩
    | 1, hq => cases hq; exact ⟨fun N z => ⟨(fun k h => by cases h), kZ, z2, pZ, z3⟩, z1⟩
    | 2, hq => cases hq; exact ⟨fun N z => ⟨(fun k h => by cases h), kB, b2, pB, b3⟩, kB, pB, b2, b3, b1, b4⟩
    | 3, hq => cases hq; exact ⟨fun N z => ⟨(fun k h => by cases h), kA, d2, pA, d3⟩, kA, pA, d2, d3, d1, d4⟩
    | 4, hq => cases hq; exact ⟨fun N z => ⟨(fun k h => by cases h), kII, e2, pII, e3⟩, e4⟩
    | k + 5, hq => cases hq
/-! both worlds -/
def law_oc (D : va_G) (tys : List (ClassId × FieldType)) (h z0 z1 z2 : Nat) : rx_O := (cb_L, fun k => if k < 277 then h + k else if k = 277 then z0 else if k = 278 then z1 else z2, D, tys, cb_zs)
def law_om (D : va_G) (tys : List (ClassId × FieldType)) (h : Nat) : rx_O := (mo_L, fun k => h + 277 + k, D, tys, [])
section
variable {D : va_G} {tys : List (ClassId × FieldType)} {h z0 z1 z2 : Nat} {cI cZ cB cA cII : ClassId}
theorem law_oc_ad {k : Nat} (hk : k < 277) : (law_oc D tys h z0 z1 z2).2.1 k = h + k := if_pos hk
theorem law_oc_len : (law_oc D tys h z0 z1 z2).1.length = 277 := cb_len
theorem law_oc_O : cb_O (law_oc D (law_tys cI cZ cB cA cII) h z0 z1 z2) := by
  refine ⟨rfl, fun i j hi hj e => ?_, rfl, rfl, rfl, rfl, rfl, rfl⟩
  rw [law_oc_len] at hi hj
  rw [law_oc_ad hi, law_oc_ad hj] at e
  omega
theorem law_om_O : mo_O (law_om D (law_tys cI cZ cB cA cII) h) := by
  refine ⟨rfl, fun i j hi hj e => ?_, rfl, rfl⟩
  have e2 : h + 277 + i = h + 277 + j := e
  omega
theorem law_oc_A {q : Nat} (hq : rx_A (law_oc D tys h z0 z1 z2) q) : h ≤ q ∧ q < h + 277 := by
  obtain ⟨k, hk, rfl⟩ := hq
  rw [law_oc_len] at hk
  rw [law_oc_ad hk]
  omega
theorem law_om_A {q : Nat} (hq : rx_A (law_om D tys h) q) : h + 277 ≤ q := by
  obtain ⟨k, hk, rfl⟩ := hq
  show h + 277 ≤ h + 277 + k
  omega
end
/-- all the world's cells stand in a row: the world holds -/
theorem nx_world {O : rx_O} {σ : rx_S} {b n : Nat} {H : Heap} (hn : O.1.length = n) (hA : ∀ k, k < n → O.2.1 k = b + k) (h : ∀ (k : Nat) (x : va_E), (nx_seg O σ 0 n)[k]? = some x → va_at O.2.2.1 rx_cl (b + k, x) H) : va_P O.2.2.1 rx_cl (rx_w O σ) H := by
  intro k q hq
  have hl : k < n := by rw [← hn, ← rx_w_len O σ]; exact (List.getElem?_eq_some_iff.mp hq).1
  have hK : O.1[k]? = some O.1[k] := List.getElem?_eq_getElem (by omega)
  rw [rx_w_at hK] at hq
  cases hq
  have h2 := h k _ (nx_seg_at (a := 0) hl (by rw [Nat.zero_add]; exact hK))
  rw [Nat.zero_add] at h2
  rw [hA k hl]
  exact h2

