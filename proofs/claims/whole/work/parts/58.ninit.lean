theorem niX0 : Cond.instantiable RX0 3 ∈ rx_tbl := rx_in (i := 207) (by decide +kernel) rfl
theorem nzX0 : Cond.initialized RX0 ∈ rx_tbl := rx_in (i := 69) (by decide +kernel) rfl
theorem nvX0 : nx_V yX0_init cX0_init 2 := ⟨rx_in (i := 210) (by decide +kernel) rfl, rx_in (i := 209) (by decide +kernel) rfl, nzX0, by decide +kernel, rfl⟩
theorem noX0 : Cond.methodLink RX0 1 objectInit ∈ rx_tbl := rx_in (i := 211) (by decide +kernel) rfl
theorem niX1 : Cond.instantiable RX1 6 ∈ rx_tbl := rx_in (i := 92) (by decide +kernel) rfl
theorem nzX1 : Cond.initialized RX1 ∈ rx_tbl := rx_in (i := 66) (by decide +kernel) rfl
theorem nvX1 : nx_V yX1_init cX1_init 1 := ⟨rx_in (i := 95) (by decide +kernel) rfl, rx_in (i := 94) (by decide +kernel) rfl, nzX1, by decide +kernel, rfl⟩
theorem noX1 : Cond.methodLink RX1 1 objectInit ∈ rx_tbl := rx_in (i := 96) (by decide +kernel) rfl
theorem niX2 : Cond.instantiable RX2 7 ∈ rx_tbl := rx_in (i := 261) (by decide +kernel) rfl
theorem nzX2 : Cond.initialized RX2 ∈ rx_tbl := rx_in (i := 71) (by decide +kernel) rfl
theorem nvX2 : nx_V yX2_init cX2_init 1 := ⟨rx_in (i := 264) (by decide +kernel) rfl, rx_in (i := 263) (by decide +kernel) rfl, nzX2, by decide +kernel, rfl⟩
theorem noX2 : Cond.methodLink RX2 1 objectInit ∈ rx_tbl := rx_in (i := 265) (by decide +kernel) rfl
theorem niX3 : Cond.instantiable RX3 6 ∈ rx_tbl := rx_in (i := 85) (by decide +kernel) rfl
theorem nzX3 : Cond.initialized RX3 ∈ rx_tbl := rx_in (i := 65) (by decide +kernel) rfl
theorem nvX3 : nx_V yX3_init cX3_init 2 := ⟨rx_in (i := 88) (by decide +kernel) rfl, rx_in (i := 87) (by decide +kernel) rfl, nzX3, by decide +kernel, rfl⟩
theorem noX3 : Cond.methodLink RX3 1 objectInit ∈ rx_tbl := rx_in (i := 89) (by decide +kernel) rfl
theorem niX4 : Cond.instantiable RX4 7 ∈ rx_tbl := rx_in (i := 227) (by decide +kernel) rfl
theorem nzX4 : Cond.initialized RX4 ∈ rx_tbl := rx_in (i := 70) (by decide +kernel) rfl
theorem nvX4 : nx_V yX4_init cX4_init 1 := ⟨rx_in (i := 230) (by decide +kernel) rfl, rx_in (i := 229) (by decide +kernel) rfl, nzX4, by decide +kernel, rfl⟩
theorem noX4 : Cond.methodLink RX4 3 objectInit ∈ rx_tbl := rx_in (i := 231) (by decide +kernel) rfl
theorem niX5 : Cond.instantiable RX5 3 ∈ rx_tbl := rx_in (i := 165) (by decide +kernel) rfl
theorem nzX5 : Cond.initialized RX5 ∈ rx_tbl := rx_in (i := 67) (by decide +kernel) rfl
theorem nvX5 : nx_V yX5_init cX5_init 2 := ⟨rx_in (i := 168) (by decide +kernel) rfl, rx_in (i := 167) (by decide +kernel) rfl, nzX5, by decide +kernel, rfl⟩
theorem noX5 : Cond.methodLink RX5 1 objectInit ∈ rx_tbl := rx_in (i := 169) (by decide +kernel) rfl
theorem niX6 : Cond.instantiable RX6 4 ∈ rx_tbl := rx_in (i := 185) (by decide +kernel) rfl
theorem nzX6 : Cond.initialized RX6 ∈ rx_tbl := rx_in (i := 68) (by decide +kernel) rfl
theorem nvX6 : nx_V yX6_init cX6_init 1 := ⟨rx_in (i := 188) (by decide +kernel) rfl, rx_in (i := 187) (by decide +kernel) rfl, nzX6, by decide +kernel, rfl⟩
theorem noX6 : Cond.methodLink RX6 3 objectInit ∈ rx_tbl := rx_in (i := 189) (by decide +kernel) rfl
theorem niX7 : Cond.instantiable RX7 10 ∈ rx_tbl := rx_in (i := 77) (by decide +kernel) rfl
theorem nzX7 : Cond.initialized RX7 ∈ rx_tbl := rx_in (i := 64) (by decide +kernel) rfl
theorem nvX7 : nx_V yX7_init cX7_init 2 := ⟨rx_in (i := 80) (by decide +kernel) rfl, rx_in (i := 79) (by decide +kernel) rfl, nzX7, by decide +kernel, rfl⟩
theorem noX7 : Cond.methodLink RX7 1 objectInit ∈ rx_tbl := rx_in (i := 81) (by decide +kernel) rfl
theorem niX8 : Cond.instantiable RX8 26 ∈ rx_tbl := rx_in (i := 829) (by decide +kernel) rfl
theorem nzX8 : Cond.initialized RX8 ∈ rx_tbl := rx_in (i := 72) (by decide +kernel) rfl
theorem nvX8 : nx_V yX8_init cX8_init 2 := ⟨rx_in (i := 832) (by decide +kernel) rfl, rx_in (i := 831) (by decide +kernel) rfl, nzX8, by decide +kernel, rfl⟩
theorem noX8 : Cond.methodLink RX8 1 objectInit ∈ rx_tbl := rx_in (i := 833) (by decide +kernel) rfl
theorem ncL_7 : Cond.classLink RL 7 RX7 ∈ rx_tbl := rx_in (i := 76) (by decide +kernel) rfl
theorem no_i : Cond.instanceMethod objectInit ∈ rx_tbl := rx_in (i := 82) (by decide +kernel) rfl
theorem no_c : Cond.code objectInit ⟨#[0xb1]⟩ 1 none ∈ rx_tbl := rx_in (i := 83) (by decide +kernel) rfl
theorem ncX7_7 : Cond.classLink RX7 7 RX3 ∈ rx_tbl := rx_in (i := 84) (by decide +kernel) rfl
theorem ncX3_13 : Cond.classLink RX3 13 RX1 ∈ rx_tbl := rx_in (i := 90) (by decide +kernel) rfl
theorem na_int : Cond.arrayClass (newarray.typeOf .int) ∈ rx_tbl := rx_in (i := 131) (by decide +kernel) rfl
theorem ncX7_16 : Cond.classLink RX7 16 RX5 ∈ rx_tbl := rx_in (i := 164) (by decide +kernel) rfl
theorem ncX5_9 : Cond.classLink RX5 9 ("[" ++ (FieldType.array .int).toString) ∈ rx_tbl := rx_in (i := 170) (by decide +kernel) rfl
theorem ncX7_23 : Cond.classLink RX7 23 RX6 ∈ rx_tbl := rx_in (i := 184) (by decide +kernel) rfl
theorem ncX7_30 : Cond.classLink RX7 30 RX0 ∈ rx_tbl := rx_in (i := 206) (by decide +kernel) rfl
theorem ncX0_9 : Cond.classLink RX0 9 RX3 ∈ rx_tbl := rx_in (i := 212) (by decide +kernel) rfl
theorem ncX7_37 : Cond.classLink RX7 37 RX4 ∈ rx_tbl := rx_in (i := 226) (by decide +kernel) rfl
theorem ncX4_9 : Cond.classLink RX4 9 RX3 ∈ rx_tbl := rx_in (i := 232) (by decide +kernel) rfl
theorem ncX7_44 : Cond.classLink RX7 44 RX2 ∈ rx_tbl := rx_in (i := 260) (by decide +kernel) rfl
theorem na_boolean : Cond.arrayClass (newarray.typeOf .boolean) ∈ rx_tbl := rx_in (i := 321) (by decide +kernel) rfl
theorem ncL_10 : Cond.classLink RL 10 RX8 ∈ rx_tbl := rx_in (i := 828) (by decide +kernel) rfl
/-! what is made: cells a, a + 1 .. of the world, as the store σ has them -/
def nx_seg (O : rx_O) (σ : rx_S) (a n : Nat) : List va_E := (List.range n).map (fun i => rx_e O σ (a + i) (O.1.getD (a + i) (.inl (0, []))))
section
variable {O : rx_O} {σ : rx_S} {a n : Nat}
theorem nx_seg_len : (nx_seg O σ a n).length = n := by simp [nx_seg]
theorem nx_seg_app {m k : Nat} (hk : k = a + m) : nx_seg O σ a m ++ nx_seg O σ k n = nx_seg O σ a (m + n) := by
  subst hk
  unfold nx_seg
  rw [List.range_add, List.map_append, List.map_map]
  congr 1
  apply List.map_congr_left
  intro i _
  show _ = rx_e O σ (a + (m + i)) (O.1.getD (a + (m + i)) _)
  rw [Nat.add_assoc]
theorem nx_seg_at {i : Nat} {K : rx_K} (hi : i < n) (h : O.1[a + i]? = some K) : (nx_seg O σ a n)[i]? = some (rx_e O σ (a + i) K) := by
  have hd : O.1.getD (a + i) (.inl (0, [])) = K := by rw [List.getD_eq_getElem?_getD, h]; rfl
  unfold nx_seg
  rw [List.getElem?_map, List.getElem?_range hi, Option.map_some, hd]
theorem nx_seg_of {es : List va_E} (hl : es.length = n) (h : ∀ i, i < n → ∃ K, O.1[a + i]? = some K ∧ es[i]? = some (rx_e O σ (a + i) K)) : es = nx_seg O σ a n := by
  apply List.ext_getElem?
  intro i
  by_cases hi : i < n
  · obtain ⟨K, h1, h2⟩ := h i hi
    rw [h2, nx_seg_at hi h1]
  · rw [List.getElem?_eq_none (by omega), List.getElem?_eq_none (by rw [nx_seg_len]; omega)]
end
/-- the class's store at its start -/
def cs0 : rx_S := (fun k j => if k = 21 ∧ j < 8 then -1 else 0, fun _ _ => 0)
theorem cs0_z {k : Nat} (h : k ≠ 21) : cs0.1 k = fun _ => 0 := by
  funext j
  show (if k = 21 ∧ j < 8 then (-1 : Int32) else 0) = 0
  rw [if_neg (fun q => h q.1)]
theorem cb_off : ∀ B ∈ cb_Bs, B + 8 < 21 ∨ 21 < B := by decide +kernel
theorem ra_int (U : State) (x : ClassId) (h : va_RA U x .int) : U.vm.findClass ("[" ++ (FieldType.int).toString) = some x := h
theorem ra_bool (U : State) (x : ClassId) (h : va_RA U x .boolean) : U.vm.findClass ("[" ++ (FieldType.boolean).toString) = some x := h
def nb_ant : va_E := .inr (1, [.int 0, .int 0, .int 0, .int 0, .int 0, .int 0])
def nb_band : va_E := .inr (3, [.int 0, .int 0, .int 0, .int 0, .null, .null])
/-- Ant() -/
theorem kN_ant (l : Launch) (O : rx_O) (a : Nat) : nM l O yX1_init cX1_init 1 1 a nb_ant [nb_ant] 0 0 := by
  refine nx_Met_of (own := RX1) rfl rfl (by decide +kernel) (by decide) ?_
  intro p e s m args below meth c X hin hlocks hr
  refine nx_ald X dX1_init_0 (x := a) (by simp) ?_
  refine nx_obj X noX1 no_i no_c (by decide) dX1_init_1 (Nat.le_of_ble_eq_true rfl) ?_
  exact nx_ret X hlocks hr (Nat.le_refl _) (Nat.le_refl _) dX1_init_4
def nb_ants (O : rx_O) (a i : Nat) : va_E := .inl (rx_cA O 3, 6, .inr (.inr (.inr (.inr (fun j => if j < i then some (a + 3 + j) else none)))))
def nb_bandE (O : rx_O) (a i : Nat) : List va_E := [.inr (3, [.int 0, .int 0, .int 0, .int 0, .ref (a + 1), .ref (a + 2)]), .inl (rx_cA O 0, 5, .inl (fun _ => 0)), nb_ants O a i] ++ List.replicate i nb_ant
/-- a row of references, one more put -/
theorem nb_up (a n i : Nat) : va_up (fun j => if j < i then some (a + n * j) else none) i (some (a + n * i)) = fun j => if j < i + 1 then some (a + n * j) else none := by
  funext j
  by_cases h : j = i
  · subst h
    simp [va_up]
  · by_cases h2 : j < i
    · simp [va_up, h, h2, Nat.lt_succ_of_lt h2]
    · simp [va_up, h, h2, show ¬ j < i + 1 by omega]
theorem nb_up1 (a i : Nat) : va_up (fun j => if j < i then some (a + j) else none) i (some (a + i)) = fun j => if j < i + 1 then some (a + j) else none := by
  have := nb_up a 1 i
  simp only [Nat.one_mul] at this
  exact this
theorem nb_neg (i : Nat) : upd (fun j => if j < i then (-1 : Int32) else 0) i (-1) = fun j => if j < i + 1 then -1 else 0 := by
  funext j
  by_cases h : j = i
  · subst h
    simp [upd]
  · by_cases h2 : j < i
    · simp [upd, h, h2, Nat.lt_succ_of_lt h2]
    · simp [upd, h, h2, show ¬ j < i + 1 by omega]
theorem nb_band_seg {O : rx_O} {B a : Nat} (hO : cb_O O) (hB : cb_B B) (hA : ∀ i, i < 9 → O.2.1 (B + i) = a + i) : nb_bandE O a 6 = nx_seg O cs0 B 9 := by
  have hz : ∀ i, i < 9 → cs0.1 (B + i) = fun _ => 0 := fun i hi => cs0_z (by have := cb_off B hB; omega)
  refine nx_seg_of (by simp [nb_bandE]) (fun i hi => ?_)
  have h4 : i = 0 ∨ i = 1 ∨ i = 2 ∨ ∃ q, q < 6 ∧ i = 3 + q := by
    by_cases h : i < 3
    · omega
    · exact Or.inr (Or.inr (Or.inr ⟨i - 3, by omega, by omega⟩))
  rcases h4 with rfl | rfl | rfl | ⟨q, hq, rfl⟩
  · refine ⟨_, kb_0 hO hB, ?_⟩
    show some (Sum.inr (3, [Value.int 0, Value.int 0, Value.int 0, Value.int 0, Value.ref (a + 1), Value.ref (a + 2)])) = some (Sum.inr (3, [Value.int (cs0.1 (B + 0) 0), Value.int (cs0.1 (B + 0) 1), Value.int (cs0.1 (B + 0) 2), Value.int (cs0.1 (B + 0) 3), Value.ref (O.2.1 (B + 1)), Value.ref (O.2.1 (B + 2))]))
    rw [hz 0 (by decide), hA 1 (by decide), hA 2 (by decide)]
  · refine ⟨_, kb_1 hO hB, ?_⟩
    show some (Sum.inl (rx_cA O 0, 5, Sum.inl (fun _ => 0))) = some (Sum.inl (rx_cA O 0, 5, Sum.inl (cs0.1 (B + 1))))
    rw [hz 1 (by decide)]
  · refine ⟨_, kb_2 hO hB, ?_⟩
    have hf : (fun j => if j < 6 then some (a + 3 + j) else none) = fun i => ([B + 3, B + 4, B + 5, B + 6, B + 7, B + 8] : List Nat)[i]?.map O.2.1 := by
      funext j
      by_cases hj : j < 6
      · rw [if_pos hj, kb_el hj, Option.map_some, show B + 3 + j = B + (3 + j) by omega, hA (3 + j) (by omega)]
        congr 1
        omega
      · rw [if_neg hj, List.getElem?_eq_none (by simp; omega)]
        rfl
    show some (Sum.inl (rx_cA O 3, 6, Sum.inr (Sum.inr (Sum.inr (Sum.inr (fun j => if j < 6 then some (a + 3 + j) else none)))))) = some (Sum.inl (rx_cA O 3, 6, Sum.inr (Sum.inr (Sum.inr (Sum.inr (fun i => ([B + 3, B + 4, B + 5, B + 6, B + 7, B + 8] : List Nat)[i]?.map O.2.1))))))
    rw [hf]
  · refine ⟨_, by rw [← Nat.add_assoc]; exact kb_a hO hB hq, ?_⟩
    have h1 : (nb_bandE O a 6)[3 + q]? = some nb_ant := cb_six (P := fun q => (nb_bandE O a 6)[3 + q]? = some nb_ant) rfl rfl rfl rfl rfl rfl q hq
    rw [h1]
    show some (Sum.inr (1, [Value.int 0, Value.int 0, Value.int 0, Value.int 0, Value.int 0, Value.int 0])) = some (Sum.inr (1, [Value.int (cs0.1 (B + (3 + q)) 0), Value.int (cs0.1 (B + (3 + q)) 1), Value.int (cs0.1 (B + (3 + q)) 2), Value.int (cs0.1 (B + (3 + q)) 3), Value.int (cs0.1 (B + (3 + q)) 4), Value.int (cs0.1 (B + (3 + q)) 5)]))
    rw [hz (3 + q) (by omega)]
/-- Band() -/
theorem kN_band {l : Launch} {O : rx_O} {B a : Nat} (hO : cb_O O) (hB : cb_B B) (hA : ∀ i, i < 9 → O.2.1 (B + i) = a + i) : nM l O yX3_init cX3_init 2 2 a nb_band (nx_seg O cs0 B 9) 8 47 := by
  refine nx_Met_of (own := RX3) rfl rfl (by decide +kernel) (by decide) ?_
  intro p e s m args below meth c X hin hlocks hr
  have loop : ∀ k i : Nat, i + k = 6 → nJ O 2 p l e (nx_rm 2 8 47) s m args below meth c (MQ below (nx_Q O a (nx_seg O cs0 B 9)) args s 8 47 (fun q => a ≤ q)) a 22 [(1, .int (nI i)), (0, .ref a)] [] (nb_bandE O a i) (2 + i) (11 + 6 * i) := by
    intro k
    induction k with
    | zero =>
      intro i hi
      have hi6 : i = 6 := by omega
      subst hi6
      refine nx_ild X dX3_init_22 (x := nI 6) (by simp) ?_
      refine nx_bp X dX3_init_23 (v := nI 6) rfl ?_
      refine nx_ge X dX3_init_25 (fun _ => ?_) (fun h => absurd (Int32.le_refl _) h)
      refine nx_es (nb_band_seg hO hB hA) ?_
      exact nx_ret X hlocks hr (by decide) (by decide) dX3_init_47
    | succ k ih =>
      intro i hi
      refine nx_ild X dX3_init_22 (x := nI i) (by simp) ?_
      refine nx_bp X dX3_init_23 (v := nI 6) rfl ?_
      refine nx_ge X dX3_init_25 (fun h => absurd ((nI_leI (by decide) (by omega)).mp h) (by omega)) (fun _ => ?_)
      refine nx_ald X dX3_init_28 (x := a) (by simp) ?_
      refine nx_get X inX3 (ci := 3) (k := 0) (i := 5) rfl rfl rfl (by decide) flX3_15 (v := .ref (a + 2)) rfl dX3_init_29 ?_
      refine nx_ild X dX3_init_32 (x := nI i) (by simp) ?_
      refine nx_new X inX1 tyX1 tyX1_ok (ci := 1) (fs := [.int 0, .int 0, .int 0, .int 0, .int 0, .int 0]) rfl ncX3_13 niX1 nzX1 (cb_six rfl rfl rfl rfl rfl rfl) (by show _ ≤ 8; omega) (by show _ ≤ 47; omega) (a := a + 3 + i) (by simp [nb_bandE]; omega) dX3_init_33 ?_
      refine nx_dup X dX3_init_36 rfl ?_
      refine nx_callN X nvX1 X.2.2.2.2.2.2.2.2.2 (kN_ant l O (a + 3 + i)) rfl (by simp [nb_bandE]; omega) ⟨by decide, by decide⟩ ⟨by show _ ≤ 8; omega, by show _ ≤ 47; omega⟩ dX3_init_37 (Nat.le_of_ble_eq_true rfl) ?_
      refine nx_es (es2 := [.inr (3, [.int 0, .int 0, .int 0, .int 0, .ref (a + 1), .ref (a + 2)]), .inl (rx_cA O 0, 5, .inl (fun _ => 0)), nb_ants O a i] ++ List.replicate (i + 1) nb_ant) (by unfold nb_bandE; rw [List.append_assoc, List.replicate_succ']) ?_
      refine nx_aast X (k := 2) (t0 := 3) (k2 := 3 + i) (j := i) (ci := 1) (r := (RX1, TX1, 6)) rfl hO.2.2.2.2.2.1 (by rw [List.getElem?_append_right (by simp)]; simp; rfl) rfl rfl (Nat.add_assoc a 3 i) rfl (by omega) (by decide) dX3_init_40 ?_
      refine nx_es (es2 := nb_bandE O a (i + 1)) (by rw [nb_up1 (a + 3) i]; rfl) ?_
      refine nx_iinc X dX3_init_41 (k := 0) rfl (nI_1 i) (by decide) rfl ?_
      refine nx_goto X dX3_init_44 ?_
      exact nx_wide (by omega) (by omega) (ih (i + 1) (by omega))
  refine nx_ald X dX3_init_0 (x := a) (by simp) ?_
  refine nx_obj X noX3 no_i no_c (by decide) dX3_init_1 (Nat.le_of_ble_eq_true rfl) ?_
  refine nx_ald X dX3_init_4 (x := a) (by simp) ?_
  refine nx_ic X dX3_init_5 (v := nI 5) rfl ?_
  refine nx_newi X (t0 := 0) (N := 5) na_int rfl rfl ra_int hO.2.2.1 rfl (by decide) (by decide) (by decide) (by decide) (a := a + 1) rfl dX3_init_6 ?_
  refine nx_putF X hin inX3 tyX3 tyX3_ok nmX3 (ci := 3) (k := 0) (i := 4) rfl rfl rfl (by decide) flX3_9 rfl rfl rfl rfl (by decide) dX3_init_8 ?_
  refine nx_ald X dX3_init_11 (x := a) (by simp) ?_
  refine nx_bp X dX3_init_12 (v := nI 6) rfl ?_
  refine nx_newq X (t0 := 3) (N := 6) ncX3_13 X.2.2.2.2.2.2.1 hO.2.2.2.2.2.1 rfl (by decide) (by decide) (by decide) (a := a + 2) rfl dX3_init_14 ?_
  refine nx_putF X hin inX3 tyX3 tyX3_ok nmX3 (ci := 3) (k := 0) (i := 5) rfl rfl rfl (by decide) flX3_15 rfl rfl rfl rfl (Nat.le_of_ble_eq_true rfl) dX3_init_17 ?_
  refine nx_ic X dX3_init_20 (v := nI 0) rfl ?_
  refine nx_ist X dX3_init_21 rfl (by decide) rfl ?_
  refine nx_es (es2 := nb_bandE O a 0) ?_ ?_
  · have hf : (fun j => if j < 0 then some (a + 3 + j) else none) = fun _ : Nat => (none : Option Nat) := by
      funext j
      simp
    unfold nb_bandE nb_ants
    rw [hf]
    rfl
  exact nx_wide (by omega) (by omega) (loop 6 0 rfl)

