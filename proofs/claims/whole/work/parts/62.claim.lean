/-! THE CLAIM OUT OF ONE WALK OF THE LAW'S BODY. Your part is whole_start (and what it stands on); all else here is the same for every law, but numbers. -/
def R_law : String := "AntBandLaw"
def lw_P (b : Addr) (xs : List Int32) (args : Array Value) (s : State) : Prop := args = #[.ref b] ∧ s.IntsAt b xs ∧ xs.length ≤ 3072 ∧ (Jvm.Cond.and given_1 narrow_1).before args s = true
def lw_Q (_ : Array Value) (s : State) (o : Outcome) (t : State) : Prop := o = .returned (some (.int 1)) ∧ Framed s o t [] 600000 7302250
def lw_Z (below : List Frame) (a : Array Value) (s : State) : State → Prop := fun t => ∃ o, t.status = .running ∧ Ended t below o ∧ lw_Q a s o t
/-- the law's own end, with 1 on the stack, nothing written that was there before, its room as the claim has it -/
theorem lw_ret {p : Program} {l : Launch} {e : Env} {s : State} {m : MethodId} {below : List Frame} {meth : Method} {c : Code} {b : Nat} (hx : p.tables.exec = Jvm.exec) (hb : c.code = code) (hr : meth.sig.returnType = ret) (hlocks : meth.locks = false) {pc : Nat} {H : Heap} {ls : Array Slot} (hdg : decode code pc = .ok (.ireturn, 1)) : W p l e room_1 s m #[Value.ref b] below meth c H [] 600000 7302250 (lw_Z below #[Value.ref b] s) (F0 m pc ls [.int 1]) := by
  intro T hT X
  obtain ⟨fs, hret, hrun, hended, hW, hframe⟩ := X.leave (v := some (.int 1)) (hlocks := hlocks) (fun h => by rw [hr] at h; cases h)
  have hmeth' : T.vm.method? m = some meth := X.method'
  refine ⟨T.setFrames fs, ?_, .returned (some (.int 1)), hrun, hended, rfl, ⟨_, rfl⟩, hW, hframe⟩
  jvm_step X.here [X.here.top, hx, hb, hdg, hmeth', hr, ret, narrow_b1]
  (try refine ⟨rfl, ?_⟩); (try refine ⟨rfl, ?_⟩)
  first | (intro acts; rw [hret _ acts rfl rfl rfl]) | rw [hret _ _ rfl rfl rfl]
  exact Steps.refl _
/-- what holds at the law's entry: the machine, the code, the tables' words (any of lw_tbl by 'hts w (by decide +kernel)'), the script of L ints xs at the cell b, what the Statement gives of the start (any of its parts by flat_of_before) -/
def lw_At (p : Program) (s : State) (m : MethodId) (meth : Method) (c : Code) (b L : Nat) (xs : Nat → Int32) : Prop :=
  p.tables.exec = Jvm.exec ∧ c.code = code ∧ meth.sig.returnType = ret ∧ c.maxLocals = 4 ∧ s.vm.findClass R_law = some m.cls ∧ (∀ w ∈ lw_tbl, w.before #[Value.ref b] s = true) ∧ va_X b L xs s s.heap ∧ b < s.heap.size ∧ meth.locks = false ∧ (Jvm.Cond.and given_1 narrow_1).before #[Value.ref b] s = true
-- ===== YOUR PART BEGINS =====
set_option maxHeartbeats 4000000 in
set_option maxRecDepth 100000 in
/-- YOUR PART: from the entry, for every script of at most 3072 ints, the law comes to its end with true -/
theorem whole_start {p : Program} {e : Env} {s : State} {m : MethodId} {below : List Frame} {meth : Method} {c : Code} (l : Launch) {b L : Nat} {xs : Nat → Int32} (hL : L ≤ 3072) (C0 : lw_At p s m meth c b L xs) : W p l e room_1 s m #[Value.ref b] below meth c s.heap [] 0 0 (lw_Z below #[Value.ref b] s) (entryFrame m ([Value.ref b] : List Value).toArray 4) := by
  obtain ⟨hx, hb, hr, hml, hown, hts, hX, hbl, hlocks, hgv⟩ := C0
  have hs := flat_of_before _ hgv
  have htr : ∀ w ∈ rx_tbl, w.before #[Value.ref b] s = true := fun w hw => hts w (List.mem_filter.mp hw).1
  obtain ⟨D, cI, cZ, cB, cA, cII, hK, hE⟩ := law_world hts
  obtain ⟨z0, y0, hz0, hx0⟩ := (st_arr (C := "AntBand$Ant") (n := "PARENTS") (ys := [-1, 0, 1, 1, 0, 4]) (A := fun q => s.heap.size ≤ q) (hts _ (List.mem_of_getElem? (i := 790) (by decide +kernel))) (hts _ (List.mem_of_getElem? (i := 66) (by decide +kernel))) (hs _ (by decide +kernel)) (hs _ (by decide +kernel)) (cb_six (hs _ (by decide +kernel)) (hs _ (by decide +kernel)) (hs _ (by decide +kernel)) (hs _ (by decide +kernel)) (hs _ (by decide +kernel)) (hs _ (by decide +kernel))) rfl (fun a ha => Nat.not_le.mpr ha))
  obtain ⟨z1, y1, hz1, hx1⟩ := (st_arr (C := "AntBand$Asks") (n := "SIZE_BODIES") (ys := [10, 11, 12, 11, 13, 14]) (A := fun q => s.heap.size ≤ q) (hts _ (List.mem_of_getElem? (i := 801) (by decide +kernel))) (hts _ (List.mem_of_getElem? (i := 71) (by decide +kernel))) (hs _ (by decide +kernel)) (hs _ (by decide +kernel)) (cb_six (hs _ (by decide +kernel)) (hs _ (by decide +kernel)) (hs _ (by decide +kernel)) (hs _ (by decide +kernel)) (hs _ (by decide +kernel)) (hs _ (by decide +kernel))) rfl (fun a ha => Nat.not_le.mpr ha))
  obtain ⟨z2, y2, hz2, hx2⟩ := (st_arr (C := "AntBand$Asks") (n := "MARK_BODIES") (ys := [20, 21, 24, 22, 23, 23]) (A := fun q => s.heap.size ≤ q) (hts _ (List.mem_of_getElem? (i := 803) (by decide +kernel))) (hts _ (List.mem_of_getElem? (i := 71) (by decide +kernel))) (hs _ (by decide +kernel)) (hs _ (by decide +kernel)) (cb_six (hs _ (by decide +kernel)) (hs _ (by decide +kernel)) (hs _ (by decide +kernel)) (hs _ (by decide +kernel)) (hs _ (by decide +kernel)) (hs _ (by decide +kernel))) rfl (fun a ha => Nat.not_le.mpr ha))
  have hOc : cb_O (law_oc D (law_tys cI cZ cB cA cII) s.heap.size z0 z1 z2) := law_oc_O
  have hOm : mo_O (law_om D (law_tys cI cZ cB cA cII) s.heap.size) := law_om_O
  have hZc : rx_Z (law_oc D (law_tys cI cZ cB cA cII) s.heap.size z0 z1 z2) s := by
    have hn : ∀ z, z < s.heap.size → ¬ rx_A (law_oc D (law_tys cI cZ cB cA cII) s.heap.size z0 z1 z2) z := fun z hz h => by
      have := (law_oc_A h).1
      omega
    refine List.forall_mem_cons.mpr ⟨?_, List.forall_mem_cons.mpr ⟨?_, List.forall_mem_cons.mpr ⟨?_, fun _ h => absurd h List.not_mem_nil⟩⟩⟩
    · exact ⟨hz0.narrow (fun q h => (law_oc_A h).1), hx0, hn z0 y0⟩
    · exact ⟨hz1.narrow (fun q h => (law_oc_A h).1), hx1, hn z1 y1⟩
    · exact ⟨hz2.narrow (fun q h => (law_oc_A h).1), hx2, hn z2 y2⟩
  have hZm : rx_Z (law_om D (law_tys cI cZ cB cA cII) s.heap.size) s := fun _ h => absurd h List.not_mem_nil
  generalize hoc : law_oc D (law_tys cI cZ cB cA cII) s.heap.size z0 z1 z2 = Oc at hOc hZc
  generalize hom : law_om D (law_tys cI cZ cB cA cII) s.heap.size = Om at hOm hZm
  have dc : Oc.2.2.1 = D := by rw [← hoc]; rfl
  have dm : Om.2.2.1 = D := by rw [← hom]; rfl
  have tc : Oc.2.2.2.1 = law_tys cI cZ cB cA cII := by rw [← hoc]; rfl
  have tm : Om.2.2.2.1 = law_tys cI cZ cB cA cII := by rw [← hom]; rfl
  have ac : ∀ k, k < 277 → Oc.2.1 k = s.heap.size + k := fun k hk => by rw [← hoc]; exact law_oc_ad hk
  have am : ∀ k, k < 15 → Om.2.1 k = s.heap.size + 277 + k := fun k hk => by rw [← hom]; rfl
  have Ac : ∀ q, rx_A Oc q → s.heap.size ≤ q ∧ q < s.heap.size + 277 := fun q hq => by rw [← hoc] at hq; exact law_oc_A hq
  have Am : ∀ q, rx_A Om q → s.heap.size + 277 ≤ q := fun q hq => by rw [← hom] at hq; exact law_om_A hq
  have G : lG Oc Om p s m #[Value.ref b] meth c b L xs 600000 7302250 := by
    refine ⟨⟨hx, hb, hml, hown, htr⟩, ⟨hOc, hOm⟩, ⟨by rw [dc, tc]; exact hK, by rw [dm, tm]; exact hK⟩, ⟨hZc, hZm⟩, ⟨fun q h => (Ac q h).1, fun q h => Nat.le_trans (Nat.le_add_right _ _) (Am q h)⟩, fun q h h2 => ?_, ⟨hX, hbl⟩, Nat.le_refl _, Nat.le_refl _, hL⟩
    have := (Ac q h).2
    have := Am q h2
    omega
  have X : nx_G Oc RL code 4 p s m #[Value.ref b] c := ⟨hx, hb, hml, hown, htr, by rw [dc, tc]; exact hK, hE⟩
  have hM : nM l Oc yX8_init cX8_init 2 1 (s.heap.size + 277) (.inr (8, [.null, .null, .null, .int 0, .int 0, .null, .int 0, .null, .null, .int 0, .int 0, .int 0, .int 0, .int 0, .int 0, .int 0, .null, .null, .int 0, .null, .null, .null, .null, .null, .null, .int 0])) (nx_seg Om ms0 0 15) 14 1684 := by
    have h0 := kN_Model (l := l) hOm am
    unfold nM nx_Pc nx_Q nx_H at h0 ⊢
    rw [dm, tm] at h0
    rw [dc, tc]
    exact h0
  have hend : ∀ (σ ρ : rx_S) (i : Nat), lJ Oc Om p l e s m #[Value.ref b] below meth c (lw_Z below #[Value.ref b] s) 600000 7302250 1398 [(0, .ref b), (1, .ref (Oc.2.1 0)), (2, .ref (Om.2.1 0)), (3, .int (nI i))] [] σ ρ := by
    intro σ ρ i H locs ls hPc hPm hS hl
    refine lv_iconst (v := 1) hx hb dL_law_1398.1 rfl ?_
    refine va_forget (fun q hq => hS.2.2 q hq) ?_
    exact lw_ret hx hb hr hlocks dL_law_1399.1
  have J : nJ Oc 4 p l e room_1 s m #[Value.ref b] below meth c (lw_Z below #[Value.ref b] s) s.heap.size 0 [(0, .ref b)] [] [] 0 0 := by
    refine nx_new X inX7 tyX7 tyX7_ok (ci := 7) (fs := [.null, .null, .null, .null, .null, .null, .null, .null, .int 0, .int 0]) rfl ncL_7 niX7 nzX7 (nb_fin10 rfl rfl rfl rfl rfl rfl rfl rfl rfl rfl) (by decide) (by decide) (a := s.heap.size) rfl dL_law_0 ?_
    refine nx_dup X dL_law_3 rfl ?_
    refine nx_call X nvX7 mlL_9 (kN_AntBand (a := s.heap.size) hOc ac) (es0 := []) rfl rfl ⟨by decide, by decide⟩ ⟨by decide, by decide⟩ dL_law_4 (Nat.le_of_ble_eq_true rfl) ?_
    refine nx_ast X (lo2 := [(1, .ref s.heap.size), (0, .ref b)]) dL_law_7 rfl (by decide) rfl ?_
    refine nx_new X inX8 tyX8 tyX8_ok (ci := 8) (fs := [.null, .null, .null, .int 0, .int 0, .null, .int 0, .null, .null, .int 0, .int 0, .int 0, .int 0, .int 0, .int 0, .int 0, .null, .null, .int 0, .null, .null, .null, .null, .null, .null, .int 0]) rfl ncL_10 niX8 nzX8 (nb_fin26 rfl rfl rfl rfl rfl rfl rfl rfl rfl rfl rfl rfl rfl rfl rfl rfl rfl rfl rfl rfl rfl rfl rfl rfl rfl rfl) (by decide) (by decide) (a := s.heap.size + 277) (by simp [nx_seg_len]) dL_law_8 ?_
    refine nx_dup X dL_law_11 rfl ?_
    refine nx_call X nvX8 mlL_12 hM rfl (by simp [nx_seg_len]) ⟨by decide, by decide⟩ ⟨by decide, by decide⟩ dL_law_12 (Nat.le_of_ble_eq_true rfl) ?_
    refine nx_ast X (lo2 := [(2, .ref (s.heap.size + 277)), (1, .ref s.heap.size), (0, .ref b)]) dL_law_15 rfl (by decide) rfl ?_
    refine nx_ic X dL_law_16 (v := nI 0) rfl ?_
    refine nx_ist X (lo2 := [(3, .int (nI 0)), (2, .ref (s.heap.size + 277)), (1, .ref s.heap.size), (0, .ref b)]) dL_law_17 rfl (by decide) rfl ?_
    refine nx_wide (cn2 := 600000) (sn2 := 7302250) (by decide) (by decide) ?_
    intro H locs ls hP hS hl
    have hPc : va_P Oc.2.2.1 rx_cl (rx_w Oc cs0) H := nx_world (by rw [hOc.1]; exact cb_len) ac hP.left
    have hPm : va_P Om.2.2.1 rx_cl (rx_w Om ms0) H := by
      refine nx_world (n := 15) (by rw [hOm.1]; rfl) am (fun k x hk => ?_)
      have h1 := hP.2 (277 + k) x (by
        rw [List.nil_append, List.getElem?_append_right (by rw [nx_seg_len]; omega), nx_seg_len, Nat.add_sub_cancel_left]
        exact hk)
      rw [dm, ← dc, Nat.add_assoc]
      exact h1
    refine law_loop G hend (L + 7) 0 cs0 ms0 (by omega) (by omega) cR_start H locs ls hPc hPm hS ?_
    rw [ac 0 (by decide), am 0 (by decide)]
    exact lv_sub hl [3, 2, 1, 0] rfl
  have hl := lv_entry ([.ref b]) (n := 4) (Nat.le_of_ble_eq_true rfl)
  rw [lg_entry_eq]
  exact J s.heap [] _ ⟨rfl, fun k x hk => by cases hk⟩ va_S.rf hl
-- ===== YOUR PART ENDS =====
set_option maxHeartbeats 4000000 in
theorem lw_walk (l : Launch) (b : Addr) (xs : List Int32) : MetFree l x (headSpec (Jvm.Cond.code x code maxLocals ret :: tables_1) room_1) (lw_P b xs) (fun _ _ _ _ _ => True) lw_Q := by
  refine MetFree.of_bodyS (code := code) (maxLocals := maxLocals) (ret := ret) (by decide) ?_ ?_
  · intro args s m h hn
    obtain ⟨meth, c, h1, h2, h3, h4, h5, h6, -, -⟩ := Cond.code_spec hn (atoms_spec (ws := Jvm.Cond.code x code maxLocals ret :: tables_1) h _ List.mem_cons_self)
    exact ⟨meth, c, h1, h2, h3, h4, h5, h6⟩
  · intro p e s m args below meth c s₁ B hml0 hP _
    obtain ⟨rfl, hx, hbd, hgv⟩ := hP
    obtain ⟨scr, harrAt, hlist, hof, hsmall⟩ := hx
    obtain ⟨hcb, hkn, -, -⟩ := State.arrayAt?_spec harrAt
    have hown : s.vm.findClass R_law = some m.cls := findClass_of_methodNamed B.named
    have hts0 : ∀ c ∈ (Jvm.Cond.code x code maxLocals ret :: tables_1), c.before #[Value.ref b] s = true := atoms_spec (ws := Jvm.Cond.code x code maxLocals ret :: tables_1) B.pre
    have hts : ∀ w ∈ lw_tbl, w.before #[Value.ref b] s = true := k2_hts_sels lw_privs (fun w hw => hts0 w (List.mem_cons_of_mem _ hw)) lw_privs_ok
    have hml : c.maxLocals = 4 := B.maxLocals_eq (hts0 _ List.mem_cons_self)
    have X₀ : Stand p l e room_1 s m #[Value.ref b] below meth c s₁ [] 0 0 := Stand.of_body B
    have hh0 : s₁.heap = s.heap := by rw [B.state]; rfl
    have hsz : scr.slots.size = xs.length := by rw [← Array.length_toList, hlist, List.length_map]
    have hval : ∀ j : Nat, j < xs.length → scr.slots[j]? = some (.int (xs.getD j 0)) := fun j hj => by
      rw [← Array.getElem?_toList, hlist]
      simp [hj]
    have hbl : b < s.heap.size := (Array.getElem?_eq_some_iff.mp hcb).1
    have hX : va_X b xs.length (fun j => xs.getD j 0) s s.heap := ⟨scr, hcb, hof, hkn, hsz, hval⟩
    have K : W p l e room_1 s m #[Value.ref b] below meth c s₁.heap [] 0 0 (lw_Z below #[Value.ref b] s) (entryFrame m ([Value.ref b] : List Value).toArray 4) := by
      rw [hh0]
      exact whole_start l hbd ⟨B.exec, B.bytes, B.returns, hml, hown, hts, hX, hbl, B.notSynchronized, hgv⟩
    obtain ⟨t, a1, o, b1, b2, b3⟩ := K s₁ rfl X₀
    exact ⟨t, o, a1, b1, b2, b3⟩
theorem lw_pre_spec {args : Array Value} {s : State} (h : (Jvm.Cond.and given_1 narrow_1).before args s = true) (hr : rest_1_c.before args s = true) : ∃ (b : Addr) (xs : List Int32), lw_P b xs args s := by
  have hs := flat_of_before _ h
  have hq := flat_of_before _ hr
  have hc : (Cond.count 1).before args s = true := hs _ (by decide +kernel)
  have harr : (Cond.arrayOf (.arg 0) .int).before args s = true := hs _ (by decide +kernel)
  have hle : (Cond.le (.length (.arg 0)) (.int 3072)).before args s = true := hs _ (by decide +kernel)
  have hlen : (Cond.isInt (.length (.arg 0))).before args s = true := hq _ (by decide +kernel)
  have hall : (Cond.all (.arg 0) (.isInt (.elem (.arg 0) (.index 0)))).before args s = true := hq _ (by decide +kernel)
  obtain ⟨b, xs, hb, hx⟩ := State.ints_of_pre rfl harr hlen hall
  have hsm : xs.length < 2 ^ 31 := hx.choose_spec.2.2.2
  have hev : (Term.length (.arg 0)).eval args s none [] s = some (.int xs.length.toInt32) := hx.length_eval hb
  have hv := Cond.le_ints hev (show (Term.int 3072).eval args s none [] s = some (.int 3072) from rfl)
  have hd : xs.length.toInt32 ≤ 3072 := by
    simpa [Cond.before, Cond.holds, hv] using hle
  have hN : xs.length ≤ 3072 := (Int32.ofNat_le_ofNat hsm (by decide)).mp (show Int32.ofNat xs.length ≤ Int32.ofNat 3072 from hd)
  exact ⟨b, xs, Cond.one_arg hc (show args[0]? = some (.ref b) from hb), hx, hN, h⟩
theorem lw_comes (l : Launch) : Comes l x (Jvm.Cond.code x code maxLocals ret :: tables_1) room_1 (fun tb e args s => Calls_1 tb e args s ∧ rest_1 tb e args s ∧ Pre_1 tb e args s)
    (fun _ _ args s o t => lw_Q args s o t) := by
  intro p e ha hc hk s m args below hf hfit hheap happ hpre
  obtain ⟨b, xs, hP⟩ := lw_pre_spec hpre.2.2 hpre.2.1
  obtain ⟨k, o, h1, h2, h3, hQ⟩ := lw_walk l b xs p e ha hc hk s m args below hf ((Spec.applies_iff_loose hf).mp happ).1 hP trivial
  exact ⟨k, o, h1, h2, h3, hQ⟩
theorem lw_frame {s t : State} {o : Outcome} {args : Array Value} (h : Framed s o t [] 600000 7302250) :
    Framed s o t (fieldLocs frame_1_writes args s ++ arrayLocs frame_1_arrays args s ++ staticLocs frame_1_statics s) 600000 7302250 := h
theorem lw_limb (L : Cond) (hL : ∀ (args : Array Value) (s t : State), L.after args s (.returned (some (.int 1))) t = true) :
    ArmFor flags0 classFile x code maxLocals ret World_1 tables_1 room_1 Calls_1 rest_1 Pre_1
      (fun tb e a s o t => postC L tb e a s o t ∧ Framed s o t (fieldLocs frame_1_writes a s ++ arrayLocs frame_1_arrays a s ++ staticLocs frame_1_statics s) 600000 7302250) := by
  intro l _ _ _ p e ha hc hk s m args below hf hfit hheap happ hpre
  obtain ⟨k, o, h1, h2, h3, rfl, hF⟩ := lw_comes l p e ha hc hk s m args below hf hfit hheap happ hpre
  exact ⟨k, _, h1, h2, h3, hL args s _, lw_frame hF⟩
theorem i_vc : Claimed_1_1 ∧ Claimed_1_2 := ⟨lw_limb limb_1_1 (fun args s t => by simp [limb_1_1, Cond.after, Cond.holds, Cond.value]), lw_limb limb_1_2 (fun args s t => Cond.after_iff.mpr (by
  first | (rw [show limb_1_2 = Cond.eq .result (.int 1) from rfl, Cond.eq_ints (x := 1) (y := 1) rfl rfl]; simp; done) | (simp [limb_1_2, Cond.value, Term.eval]; done)))⟩
