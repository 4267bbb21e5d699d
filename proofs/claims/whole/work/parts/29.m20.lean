/-! ===== the wind: fractions over Nat ===== -/
theorem lN_t {n : Nat} (h : n < 2 ^ 62) : (lN n).toInt = (n : Int) := by
  show (Int64.ofNat n).toInt = n
  exact Int64.toInt_ofNat_of_lt (by omega)
theorem lN_e {x : Int64} {n : Nat} (h : n < 2 ^ 62) (hx : x.toInt = (n : Int)) : x = lN n := Int64.toInt_inj.mp (by rw [hx, lN_t h])
theorem lN_dv {a b : Nat} (ha : a < 2 ^ 62) (hb : b < 2 ^ 62) (h0 : 0 < b) : lN a / lN b = lN (a / b) := by
  have hle : a / b ≤ a := Nat.div_le_self a b
  refine lN_e (by omega) ?_
  have key : (a : Int).tdiv (b : Int) = ((a / b : Nat) : Int) := by
    rw [Int.tdiv_eq_ediv_of_nonneg (by omega)]
    rfl
  rw [Int64.toInt_div, lN_t ha, lN_t hb, key]
  generalize a / b = c at hle ⊢
  rw [Int.bmod_eq_of_le] <;> omega
theorem lN_rm {a b : Nat} (ha : a < 2 ^ 62) (hb : b < 2 ^ 62) (h0 : 0 < b) : lN a - lN a / lN b * lN b = lN (a % b) := by
  rw [lN_dv ha hb h0, lN_mul, lN_sub (by exact Nat.div_mul_le_self a b)]
  congr 1
  have := Nat.div_add_mod a b
  rw [Nat.mul_comm] at this
  omega
theorem lN_0 {n : Nat} (h : n < 2 ^ 62) : lN n = 0 ↔ n = 0 := by
  constructor
  · intro q
    have e := lN_t h
    rw [q, show (0 : Int64).toInt = 0 from rfl] at e
    omega
  · rintro rfl
    rfl
def wd_f (s q k : Nat) : Nat := if w_has (nI s) k then q else 10 - q
def wd_p (s q : Nat) : Nat → Nat
  | 0 => 1
  | k + 1 => wd_p s q k * wd_f s q k
def wd_w (a s : Nat) : Nat → (Nat → Int32) → Nat → Int32
  | 0, w => w
  | k + 1, w => w_one (if w_has (nI s) k then nI a else -1) (wd_w a s k w)
def wd_A (a n q : Nat) (w : Nat → Int32) : Nat → Nat
  | 0 => 0
  | s + 1 => wd_A a n q w s + (if w_has (wd_w a s n w 4) a then wd_p s q n else 0)
theorem wd_p_le {s q : Nat} (hq : q ≤ 10) : ∀ k, wd_p s q k ≤ 10 ^ k
  | 0 => Nat.le_refl _
  | k + 1 => by
    have h1 := wd_p_le (s := s) hq k
    have h2 : wd_f s q k ≤ 10 := by
      unfold wd_f
      split <;> omega
    rw [wd_p, Nat.pow_succ]
    exact Nat.mul_le_mul h1 h2
theorem wd_A_le {a n q : Nat} {w : Nat → Int32} (hq : q ≤ 10) : ∀ s, wd_A a n q w s ≤ s * 10 ^ n
  | 0 => by simp [wd_A]
  | s + 1 => by
    have h1 := wd_A_le (a := a) (n := n) (w := w) hq s
    have h2 := wd_p_le (s := s) hq n
    rw [wd_A, Nat.succ_mul]
    split <;> omega
theorem wd_pow : ∀ n, n < 9 → 10 ^ n ≤ 100000000 ∧ 2 ^ n ≤ 256 := by decide
theorem wd_sh : ∀ n, n < 9 → (1 : Int32) <<< (nI n &&& 31) = nI (2 ^ n) := by decide +kernel
theorem wd_w_V {a s : Nat} {w : Nat → Int32} (hv : w_V 999 w) : ∀ k, k < 1000 → w_V (999 + k) (wd_w a s k w)
  | 0, _ => hv
  | k + 1, hk => w_V_one (K := 999 + k) (by omega) (wd_w_V hv k (by omega))
theorem wd_w_hi {a s : Nat} {w : Nat → Int32} (hv : w_V 999 w) {i : Nat} (hi : 40 ≤ i) : ∀ k, k < 1000 → wd_w a s k w i = w i
  | 0, _ => rfl
  | k + 1, hk => (w_hi_one (wd_w_V hv k (by omega)) hi).trans (wd_w_hi hv hi k (by omega))
def sp_windV (σ : rx_S) (x n q v : Int32) : Int64 :=
  if ¬ mo_ant σ x ∨ ¬ (0 ≤ n.toInt ∧ n.toInt ≤ 8) ∨ ¬ (0 ≤ q.toInt ∧ q.toInt ≤ 10) ∨ ¬ (0 ≤ v.toInt ∧ v.toInt ≤ 1) then -1000001
  else if v = 0 then lN (wd_A (rx_N x) (rx_N n) (rx_N q) (σ.1 4) (2 ^ rx_N n) / Nat.gcd (wd_A (rx_N x) (rx_N n) (rx_N q) (σ.1 4) (2 ^ rx_N n)) (10 ^ rx_N n))
  else lN (10 ^ rx_N n / Nat.gcd (wd_A (rx_N x) (rx_N n) (rx_N q) (σ.1 4) (2 ^ rx_N n)) (10 ^ rx_N n))
set_option maxHeartbeats 400000 in
set_option maxRecDepth 100000 in
theorem kX8_wind {l : Launch} {O : rx_O} (hO : mo_O O) {σ : rx_S} {x n q v : Int32} (hw : mo_W σ) (h6 : σ.1 0 6 = -1) : rx_ML l O yX8_wind cX8_wind 15 (some .long) 6 [.ref 0, .int x, .int n, .int q, .int v] σ (fun r τ => r = sp_windV σ x n q v ∧ mo_sam σ τ) := by
  refine rx_Met_of (own := RX8) rfl hO.2.1 vsX8_wind.2.2.2.2.2 (Nat.le_of_ble_eq_true rfl) rfl (fun p e s m args below meth c X => ?_)
  have go : ∀ (a n q : Nat), a < 6 → n < 9 → q ≤ 10 → w_V 999 (σ.1 4) → ¬ (¬ mo_ant σ (nI a) ∨ ¬ (0 ≤ (nI n).toInt ∧ (nI n).toInt ≤ 8) ∨ ¬ (0 ≤ (nI q).toInt ∧ (nI q).toInt ≤ 10) ∨ ¬ (0 ≤ v.toInt ∧ v.toInt ≤ 1)) → rx_J O 15 p l e (rx_lv 6) s m args below meth c (rx_QL O below args s (fun r τ => r = sp_windV σ (nI a) (nI n) (nI q) v ∧ mo_sam σ τ)) 57 [(0, .ref 0), (1, .int (nI a)), (2, .int (nI n)), (3, .int (nI q)), (4, .int v), (5, .long 0), (7, .long 1), (9, .int 0)] [] (as_st σ (σ.1 4)) := by
    intro a n q ha hn hq hv hno
    have hp10 := (wd_pow n hn).1
    have hp0 : 0 < 10 ^ n := Nat.pow_pos (by decide)
    have gcd0 : ∀ (A0 : Nat) (TS : rx_S), A0 = (wd_A a n q (σ.1 4) (2 ^ n)) → A0 < 2 ^ 40 → mo_sam σ TS → rx_J O 15 p l e (rx_lv 6) s m args below meth c (rx_QL O below args s (fun r τ => r = sp_windV σ (nI a) (nI n) (nI q) v ∧ mo_sam σ τ)) 201 [(0, .ref 0), (1, .int (nI a)), (2, .int (nI n)), (3, .int (nI q)), (4, .int v), (5, .long (lN A0)), (7, .long (lN (10 ^ n))), (9, .long (lN A0)), (11, .long (lN (10 ^ n)))] [] TS := by
      intro A0 TS hA hA40 hsam
      have gcdl : ∀ (gb : Nat), ∀ (ga : Nat), (ga < 2 ^ 40 ∧ gb < 2 ^ 40) → Nat.gcd ga gb = (Nat.gcd A0 (10 ^ n)) → rx_J O 15 p l e (rx_lv 6) s m args below meth c (rx_QL O below args s (fun r τ => r = sp_windV σ (nI a) (nI n) (nI q) v ∧ mo_sam σ τ)) 201 [(0, .ref 0), (1, .int (nI a)), (2, .int (nI n)), (3, .int (nI q)), (4, .int v), (5, .long (lN A0)), (7, .long (lN (10 ^ n))), (9, .long (lN ga)), (11, .long (lN gb))] [] TS := by
        intro gb
        induction gb using Nat.strongRecOn with
        | ind gb ihb =>
          intro ga hab hgc
          by_cases hb0 : gb = 0
          · subst hb0
            rw [Nat.gcd_zero_right] at hgc
            have hg0 : 0 < (Nat.gcd A0 (10 ^ n)) := Nat.gcd_pos_of_pos_right _ (Nat.pow_pos (by decide))
            subst hgc
            refine rx_lload (i := 11) X dX8_wind_201 rfl ?_
            refine rx_lconst (v := 0) X dX8_wind_203 (by decide) ?_
            refine rx_lcmp X dX8_wind_204 ?_
            refine rx_if_eq_t X dX8_wind_205 ((lg_cmp_eq _ _).mpr rfl) ?_
            refine rx_iload (i := 4) X dX8_wind_226 rfl ?_
            refine rx_if_ne X dX8_wind_228 (fun h228 => ?_) (fun h228 => ?_)
            · refine rx_lload (i := 7) X dX8_wind_239 rfl ?_
              refine rx_lload (i := 9) X dX8_wind_241 rfl ?_
              refine rx_ldiv X dX8_wind_243 (fun z => by rw [lN_0 (by omega)] at z; omega) ?_
              refine rx_lret X dX8_wind_244 ?_
              refine ⟨?_, hsam⟩
              rw [sp_windV, if_neg hno, rx_Nn (j := a) (by omega), rx_Nn (j := n) (by omega), rx_Nn (j := q) (by omega)]
              rw [if_neg h228, ← hA, lN_dv (by omega) (by omega) hg0]
            · refine rx_lload (i := 5) X dX8_wind_231 rfl ?_
              refine rx_lload (i := 9) X dX8_wind_233 rfl ?_
              refine rx_ldiv X dX8_wind_235 (fun z => by rw [lN_0 (by omega)] at z; omega) ?_
              refine rx_goto X dX8_wind_236 ?_
              refine rx_lret X dX8_wind_244 ?_
              refine ⟨?_, hsam⟩
              rw [sp_windV, if_neg hno, rx_Nn (j := a) (by omega), rx_Nn (j := n) (by omega), rx_Nn (j := q) (by omega)]
              rw [if_pos h228, ← hA, lN_dv (by omega) (by omega) hg0]
          · refine rx_lload (i := 11) X dX8_wind_201 rfl ?_
            refine rx_lconst (v := 0) X dX8_wind_203 (by decide) ?_
            refine rx_lcmp X dX8_wind_204 ?_
            refine rx_if_eq_f X dX8_wind_205 (fun z => hb0 (by rw [lg_cmp_eq] at z; exact (lN_0 (by omega)).mp z)) ?_
            refine rx_lload (i := 9) X dX8_wind_208 rfl ?_
            refine rx_lload (i := 11) X dX8_wind_210 rfl ?_
            refine rx_lrem X dX8_wind_212 (fun z => hb0 ((lN_0 (by omega)).mp z)) ?_
            refine rx_lstore (i := 13) (lo2 := [(0, .ref _), (1, .int _), (2, .int _), (3, .int _), (4, .int _), (5, .long _), (7, .long _), (9, .long _), (11, .long _), (13, .long _)]) X dX8_wind_213 (by decide) rfl ?_
            refine rx_lload (i := 11) X dX8_wind_215 rfl ?_
            refine rx_lstore (i := 9) (lo2 := [(0, .ref _), (1, .int _), (2, .int _), (3, .int _), (4, .int _), (5, .long _), (7, .long _), (9, .long _), (11, .long _), (13, .long _)]) X dX8_wind_217 (by decide) rfl ?_
            refine rx_lload (i := 13) X dX8_wind_219 rfl ?_
            refine rx_lstore (i := 11) (lo2 := [(0, .ref _), (1, .int _), (2, .int _), (3, .int _), (4, .int _), (5, .long _), (7, .long _), (9, .long _), (11, .long _), (13, .long _)]) X dX8_wind_221 (by decide) rfl ?_
            refine rx_goto X dX8_wind_223 ?_
            rw [lN_rm (by omega) (by omega) (by omega)]
            refine rx_less [0, 1, 2, 3, 4, 5, 6, 7, 8] rfl ?_
            exact ihb (ga % gb) (Nat.mod_lt _ (by omega)) gb (by have := Nat.mod_lt ga (show 0 < gb by omega); omega) (by rw [← hgc, Nat.gcd_comm gb, ← Nat.gcd_rec, Nat.gcd_comm])

      exact gcdl (10 ^ n) A0 ⟨hA40, by omega⟩ rfl

    have sets : ∀ (k : Nat) (s0 : Nat) (x : Int32) (ab : Int64) (ρ : rx_S), (s0 + k = 2 ^ n) → (x = nI s0) → (ab = lN (wd_A a n q (σ.1 4) s0)) → ((∀ k, k ≠ 0 → ρ.1 k = σ.1 k) ∧ ρ.2 = σ.2) → (∀ j, j ≠ 6 → ρ.1 0 j = σ.1 0 j) → rx_J O 15 p l e (rx_lv 6) s m args below meth c (rx_QL O below args s (fun r τ => r = sp_windV σ (nI a) (nI n) (nI q) v ∧ mo_sam σ τ)) 80 [(0, .ref 0), (1, .int (nI a)), (2, .int (nI n)), (3, .int (nI q)), (4, .int v), (5, .long ab), (7, .long (lN (10 ^ n))), (9, .int x)] [] (as_st ρ (σ.1 4)) := by
      intro k
      induction k with
      | zero =>
        intro s0 x ab ρ hs0 hx hab hρ h0ρ
        subst hx
        subst hab
        obtain rfl : s0 = 2 ^ n := by omega
        refine rx_iload (i := 9) X dX8_wind_80 rfl ?_
        refine rx_iconst (v := 1) X dX8_wind_82 (by decide) ?_
        refine rx_iload_n (i := 2) X dX8_wind_83 rfl rfl ?_
        refine rx_ishl X dX8_wind_84 ?_
        refine rx_icmp_ge_t X dX8_wind_85 (by rw [wd_sh n hn]; exact Int32.le_refl _) ?_
        refine rx_aload_n (i := 0) X dX8_wind_188 rfl rfl ?_
        refine rx_iconst (v := -1) X dX8_wind_189 (by decide) ?_
        refine rx_putI (ci := 8) (i := 6) X (km_0 hO) rfl rfl (by decide) inX8 tyX8 tyX8_ok nmX8 flX8_22 rfl rfl dX8_wind_190 ?_
        refine rx_sto (as_uk (by decide) (by decide)) ?_
        refine rx_lload (i := 5) X dX8_wind_193 rfl ?_
        refine rx_lstore (i := 9) (lo2 := [(0, .ref _), (1, .int _), (2, .int _), (3, .int _), (4, .int _), (5, .long _), (7, .long _), (9, .long _)]) X dX8_wind_195 (by decide) rfl ?_
        refine rx_lload (i := 7) X dX8_wind_197 rfl ?_
        refine rx_lstore (i := 11) (lo2 := [(0, .ref _), (1, .int _), (2, .int _), (3, .int _), (4, .int _), (5, .long _), (7, .long _), (9, .long _), (11, .long _)]) X dX8_wind_199 (by decide) rfl ?_
        have hAl := wd_A_le (a := a) (n := n) (w := σ.1 4) hq (2 ^ n)
        refine rx_sto (τ := sp_aside (rx_u ρ 0 6 (-1))) (by rw [show σ.1 4 = (rx_u ρ 0 6 (-1)).1 4 by rw [rx_u_ne (by decide), hρ.1 4 (by decide)]]; exact as_self _) ?_
        have hAm : 2 ^ n * 10 ^ n ≤ 256 * 100000000 := Nat.mul_le_mul (wd_pow n hn).2 (wd_pow n hn).1
        exact gcd0 _ _ rfl (by omega) (dr_sam hρ h0ρ h6)
      | succ k ih =>
        intro s0 x ab ρ hs0 hx hab hρ h0ρ
        subst hx
        subst hab
        have inner : ∀ (j : Nat) (k0 : Nat) (x : Int32) (pp : Int64) (ρ : rx_S), (k0 + j = n) → (x = nI k0) → (pp = lN (wd_p s0 q k0)) → ((∀ k, k ≠ 0 → ρ.1 k = σ.1 k) ∧ ρ.2 = σ.2) → (∀ j, j ≠ 6 → ρ.1 0 j = σ.1 0 j) → rx_J O 15 p l e (rx_lv 6) s m args below meth c (rx_QL O below args s (fun r τ => r = sp_windV σ (nI a) (nI n) (nI q) v ∧ mo_sam σ τ)) 94 [(0, .ref 0), (1, .int (nI a)), (2, .int (nI n)), (3, .int (nI q)), (4, .int v), (5, .long (lN (wd_A a n q (σ.1 4) s0))), (7, .long (lN (10 ^ n))), (9, .int (nI s0)), (10, .long pp), (12, .int x)] [] (as_st ρ (wd_w a s0 k0 (σ.1 4))) := by
          intro j
          induction j with
          | zero =>
            intro k0 x pp ρ hk0 hx hpp hρ h0ρ
            subst hx
            subst hpp
            obtain rfl : k0 = n := by omega
            refine rx_iload (i := 12) X dX8_wind_94 rfl ?_
            refine rx_iload_n (i := 2) X dX8_wind_96 rfl rfl ?_
            refine rx_icmp_ge_t X dX8_wind_97 (Int32.le_refl _) ?_
            refine rx_lload (i := 5) X dX8_wind_154 rfl ?_
            refine rx_aload_n (i := 0) X dX8_wind_156 rfl rfl ?_
            refine rx_getR (ci := 8) (i := 5) X (km_0 hO) rfl rfl (by decide) inX8 flX8_19 dX8_wind_157 ?_
            refine rx_iconst (v := 4) X dX8_wind_160 (by decide) ?_
            refine rx_ialdN (j := 4) X (km_4 hO) hO.2.2.1 rfl (by decide) (by decide) dX8_wind_161 ?_
            refine rx_top (as_rd _ _ _) ?_
            refine rx_iload_n (i := 1) X dX8_wind_162 rfl rfl ?_
            refine rx_callTi X vsX8_has mlX8_159 (kX8_has hO) rfl (by decide) (by decide) dX8_wind_163 rfl (Nat.le_of_ble_eq_true rfl) (fun r163 t163 h163 => ?_)
            obtain ⟨rfl, ⟨rfl, h163⟩ | ⟨rfl, h163⟩⟩ := h163
            · refine rx_if_eq_f X dX8_wind_166 (by decide) ?_
              refine rx_lload (i := 10) X dX8_wind_169 rfl ?_
              refine rx_goto X dX8_wind_171 ?_
              refine rx_ladd X dX8_wind_175 ?_
              refine rx_lstore (i := 5) (lo2 := [(0, .ref _), (1, .int _), (2, .int _), (3, .int _), (4, .int _), (5, .long _), (7, .long _), (9, .int _), (10, .long _), (12, .int _)]) X dX8_wind_176 (by decide) rfl ?_
              refine rx_aload_n (i := 0) X dX8_wind_178 rfl rfl ?_
              refine rx_callVv (ci := 8) X vsX8_takeBack mlX8_196 (kA_take hO (fun j hj => (wd_w_hi hv hj k0 (by omega)).trans (by rw [hρ.1 4 (by decide)]))) (km_0 hO) rfl rfl (by decide) (by decide) dX8_wind_179 rfl (Nat.le_of_ble_eq_true rfl) (fun t179 h179 => ?_)
              subst h179
              refine rx_iinc (i := 9) (lo2 := [(0, .ref _), (1, .int _), (2, .int _), (3, .int _), (4, .int _), (5, .long _), (7, .long _), (9, .int _), (10, .long _), (12, .int _)]) X dX8_wind_182 rfl (rx_inc1 _) (by decide) rfl ?_
              refine rx_goto X dX8_wind_185 ?_
              refine rx_sto (τ := as_st ρ (σ.1 4)) (by rw [← hρ.1 4 (by decide)]; exact (as_self ρ).symm) ?_
              refine rx_less [0, 1, 2, 3, 4, 5, 6, 7] rfl ?_
              refine ih (s0 + 1) _ _ ρ (by omega) (nI_1 s0) ?_ hρ h0ρ
              first | (rw [wd_A, if_pos h163, lN_add]; done) | (rw [wd_A, if_neg h163, Nat.add_zero]; exact Int64.add_zero _) | fail "leaf"
            · refine rx_if_eq_t X dX8_wind_166 (by decide) ?_
              refine rx_lconst (v := 0) X dX8_wind_174 (by decide) ?_
              refine rx_ladd X dX8_wind_175 ?_
              refine rx_lstore (i := 5) (lo2 := [(0, .ref _), (1, .int _), (2, .int _), (3, .int _), (4, .int _), (5, .long _), (7, .long _), (9, .int _), (10, .long _), (12, .int _)]) X dX8_wind_176 (by decide) rfl ?_
              refine rx_aload_n (i := 0) X dX8_wind_178 rfl rfl ?_
              refine rx_callVv (ci := 8) X vsX8_takeBack mlX8_196 (kA_take hO (fun j hj => (wd_w_hi hv hj k0 (by omega)).trans (by rw [hρ.1 4 (by decide)]))) (km_0 hO) rfl rfl (by decide) (by decide) dX8_wind_179 rfl (Nat.le_of_ble_eq_true rfl) (fun t179 h179 => ?_)
              subst h179
              refine rx_iinc (i := 9) (lo2 := [(0, .ref _), (1, .int _), (2, .int _), (3, .int _), (4, .int _), (5, .long _), (7, .long _), (9, .int _), (10, .long _), (12, .int _)]) X dX8_wind_182 rfl (rx_inc1 _) (by decide) rfl ?_
              refine rx_goto X dX8_wind_185 ?_
              refine rx_sto (τ := as_st ρ (σ.1 4)) (by rw [← hρ.1 4 (by decide)]; exact (as_self ρ).symm) ?_
              refine rx_less [0, 1, 2, 3, 4, 5, 6, 7] rfl ?_
              refine ih (s0 + 1) _ _ ρ (by omega) (nI_1 s0) ?_ hρ h0ρ
              first | (rw [wd_A, if_pos h163, lN_add]; done) | (rw [wd_A, if_neg h163, Nat.add_zero]; exact Int64.add_zero _) | fail "leaf"
          | succ j ihj =>
            intro k0 x pp ρ hk0 hx hpp hρ h0ρ
            subst hx
            subst hpp
            refine rx_iload (i := 12) X dX8_wind_94 rfl ?_
            refine rx_iload_n (i := 2) X dX8_wind_96 rfl rfl ?_
            refine rx_icmp_ge_f X dX8_wind_97 (nI_ge (b := n) (by omega) (by omega)) ?_
            refine rx_aload_n (i := 0) X dX8_wind_100 rfl rfl ?_
            refine rx_iload (i := 9) X dX8_wind_101 rfl ?_
            refine rx_iload (i := 12) X dX8_wind_103 rfl ?_
            refine rx_callTi X vsX8_has mlX8_159 (kX8_has hO) rfl (by decide) (by decide) dX8_wind_105 rfl (Nat.le_of_ble_eq_true rfl) (fun r105 t105 h105 => ?_)
            obtain ⟨rfl, ⟨rfl, h105⟩ | ⟨rfl, h105⟩⟩ := h105
            · refine rx_if_eq_f X dX8_wind_108 (by decide) ?_
              refine rx_iload_n (i := 1) X dX8_wind_111 rfl rfl ?_
              refine rx_goto X dX8_wind_112 ?_
              refine rx_putI (ci := 8) (i := 6) X (km_0 hO) rfl rfl (by decide) inX8 tyX8 tyX8_ok nmX8 flX8_22 rfl rfl dX8_wind_116 ?_
              refine rx_sto (as_uk (by decide) (by decide)) ?_
              refine rx_aload_n (i := 0) X dX8_wind_119 rfl rfl ?_
              refine rx_callVv (ci := 8) X vsX8_oneMinute mlX8_170 (kA_one hO (wd_w_V hv k0 (by omega))) (km_0 hO) rfl rfl (by decide) (by decide) dX8_wind_120 rfl (Nat.le_of_ble_eq_true rfl) (fun t120 h120 => ?_)
              rw [u0s] at h120
              subst h120
              refine rx_lload (i := 10) X dX8_wind_123 rfl ?_
              refine rx_iload (i := 9) X dX8_wind_125 rfl ?_
              refine rx_iload (i := 12) X dX8_wind_127 rfl ?_
              refine rx_callTi X vsX8_has mlX8_159 (kX8_has hO) rfl (by decide) (by decide) dX8_wind_129 rfl (Nat.le_of_ble_eq_true rfl) (fun r129 t129 h129 => ?_)
              obtain ⟨rfl, ⟨rfl, h129⟩ | ⟨rfl, h129⟩⟩ := h129
              · refine rx_if_eq_f X dX8_wind_132 (by decide) ?_
                refine rx_iload_n (i := 3) X dX8_wind_135 rfl rfl ?_
                refine rx_i2l X dX8_wind_136 ?_
                refine rx_goto X dX8_wind_137 ?_
                refine rx_lmul X dX8_wind_145 ?_
                refine rx_topL (y := lN (wd_p s0 q k0 * wd_f s0 q k0)) (by first | rw [wd_f, if_pos h105, nI_l (by omega), lN_mul] | rw [wd_f, if_neg h105, show (10 : Int32) = nI 10 from rfl, pk_sub (by omega), nI_l (by omega), lN_mul] | fail "leaf") ?_
                refine rx_lstore (i := 10) (lo2 := [(0, .ref _), (1, .int _), (2, .int _), (3, .int _), (4, .int _), (5, .long _), (7, .long _), (9, .int _), (10, .long _), (12, .int _)]) X dX8_wind_146 (by decide) rfl ?_
                refine rx_iinc (i := 12) (lo2 := [(0, .ref _), (1, .int _), (2, .int _), (3, .int _), (4, .int _), (5, .long _), (7, .long _), (9, .int _), (10, .long _), (12, .int _)]) X dX8_wind_148 rfl (rx_inc1 _) (by decide) rfl ?_
                refine rx_goto X dX8_wind_151 ?_
                refine rx_sto (τ := as_st (rx_u ρ 0 6 (nI a)) (wd_w a s0 (k0 + 1) (σ.1 4))) (by rw [wd_w, if_pos h105]) ?_
                refine ihj (k0 + 1) _ _ _ (by omega) (nI_1 k0) ?_ ⟨fun t ht => by rw [rx_u_ne ht]; exact hρ.1 t ht, hρ.2⟩ (fun t ht => by rw [u0n ht]; exact h0ρ t ht)
                rfl
              · exact absurd h105 h129
            · refine rx_if_eq_t X dX8_wind_108 (by decide) ?_
              refine rx_iconst (v := -1) X dX8_wind_115 (by decide) ?_
              refine rx_putI (ci := 8) (i := 6) X (km_0 hO) rfl rfl (by decide) inX8 tyX8 tyX8_ok nmX8 flX8_22 rfl rfl dX8_wind_116 ?_
              refine rx_sto (as_uk (by decide) (by decide)) ?_
              refine rx_aload_n (i := 0) X dX8_wind_119 rfl rfl ?_
              refine rx_callVv (ci := 8) X vsX8_oneMinute mlX8_170 (kA_one hO (wd_w_V hv k0 (by omega))) (km_0 hO) rfl rfl (by decide) (by decide) dX8_wind_120 rfl (Nat.le_of_ble_eq_true rfl) (fun t120 h120 => ?_)
              rw [u0s] at h120
              subst h120
              refine rx_lload (i := 10) X dX8_wind_123 rfl ?_
              refine rx_iload (i := 9) X dX8_wind_125 rfl ?_
              refine rx_iload (i := 12) X dX8_wind_127 rfl ?_
              refine rx_callTi X vsX8_has mlX8_159 (kX8_has hO) rfl (by decide) (by decide) dX8_wind_129 rfl (Nat.le_of_ble_eq_true rfl) (fun r129 t129 h129 => ?_)
              obtain ⟨rfl, ⟨rfl, h129⟩ | ⟨rfl, h129⟩⟩ := h129
              · exact absurd h129 h105
              · refine rx_if_eq_t X dX8_wind_132 (by decide) ?_
                refine rx_bipush (v := 10) X dX8_wind_140 (by decide) ?_
                refine rx_iload_n (i := 3) X dX8_wind_142 rfl rfl ?_
                refine rx_isub X dX8_wind_143 ?_
                refine rx_i2l X dX8_wind_144 ?_
                refine rx_lmul X dX8_wind_145 ?_
                refine rx_topL (y := lN (wd_p s0 q k0 * wd_f s0 q k0)) (by first | rw [wd_f, if_pos h105, nI_l (by omega), lN_mul] | rw [wd_f, if_neg h105, show (10 : Int32) = nI 10 from rfl, pk_sub (by omega), nI_l (by omega), lN_mul] | fail "leaf") ?_
                refine rx_lstore (i := 10) (lo2 := [(0, .ref _), (1, .int _), (2, .int _), (3, .int _), (4, .int _), (5, .long _), (7, .long _), (9, .int _), (10, .long _), (12, .int _)]) X dX8_wind_146 (by decide) rfl ?_
                refine rx_iinc (i := 12) (lo2 := [(0, .ref _), (1, .int _), (2, .int _), (3, .int _), (4, .int _), (5, .long _), (7, .long _), (9, .int _), (10, .long _), (12, .int _)]) X dX8_wind_148 rfl (rx_inc1 _) (by decide) rfl ?_
                refine rx_goto X dX8_wind_151 ?_
                refine rx_sto (τ := as_st (rx_u ρ 0 6 (-1)) (wd_w a s0 (k0 + 1) (σ.1 4))) (by rw [wd_w, if_neg h105]) ?_
                refine ihj (k0 + 1) _ _ _ (by omega) (nI_1 k0) ?_ ⟨fun t ht => by rw [rx_u_ne ht]; exact hρ.1 t ht, hρ.2⟩ (fun t ht => by rw [u0n ht]; exact h0ρ t ht)
                rfl
        refine rx_iload (i := 9) X dX8_wind_80 rfl ?_
        refine rx_iconst (v := 1) X dX8_wind_82 (by decide) ?_
        refine rx_iload_n (i := 2) X dX8_wind_83 rfl rfl ?_
        refine rx_ishl X dX8_wind_84 ?_
        refine rx_icmp_ge_f X dX8_wind_85 (by rw [wd_sh n hn]; exact nI_ge (by omega) (by have := (wd_pow n hn).2; omega)) ?_
        refine rx_lconst (v := 1) X dX8_wind_88 (by decide) ?_
        refine rx_lstore (i := 10) (lo2 := [(0, .ref _), (1, .int _), (2, .int _), (3, .int _), (4, .int _), (5, .long _), (7, .long _), (9, .int _), (10, .long _)]) X dX8_wind_89 (by decide) rfl ?_
        refine rx_iconst (v := 0) X dX8_wind_91 (by decide) ?_
        refine rx_istore (i := 12) (lo2 := [(0, .ref _), (1, .int _), (2, .int _), (3, .int _), (4, .int _), (5, .long _), (7, .long _), (9, .int _), (10, .long _), (12, .int _)]) X dX8_wind_92 (by decide) rfl ?_
        exact inner n 0 _ _ ρ (by omega) rfl rfl hρ h0ρ
    have bel : ∀ (k : Nat) (i : Nat) (x : Int32) (bw : Int64), (i + k = n) → (x = nI i) → (bw = lN (10 ^ i)) → rx_J O 15 p l e (rx_lv 6) s m args below meth c (rx_QL O below args s (fun r τ => r = sp_windV σ (nI a) (nI n) (nI q) v ∧ mo_sam σ τ)) 57 [(0, .ref 0), (1, .int (nI a)), (2, .int (nI n)), (3, .int (nI q)), (4, .int v), (5, .long 0), (7, .long bw), (9, .int x)] [] (as_st σ (σ.1 4)) := by
      intro k
      induction k with
      | zero =>
        intro i x bw hi9 hx hbw
        subst hx
        subst hbw
        obtain rfl : i = n := by omega
        refine rx_iload (i := 9) X dX8_wind_57 rfl ?_
        refine rx_iload_n (i := 2) X dX8_wind_59 rfl rfl ?_
        refine rx_icmp_ge_t X dX8_wind_60 (Int32.le_refl _) ?_
        refine rx_iconst (v := 0) X dX8_wind_77 (by decide) ?_
        refine rx_istore (i := 9) (lo2 := [(0, .ref _), (1, .int _), (2, .int _), (3, .int _), (4, .int _), (5, .long _), (7, .long _), (9, .int _)]) X dX8_wind_78 (by decide) rfl ?_
        exact sets (2 ^ i) 0 _ _ σ (by omega) rfl rfl ⟨fun _ _ => rfl, rfl⟩ (fun _ _ => rfl)
      | succ k ih =>
        intro i x bw hi9 hx hbw
        subst hx
        subst hbw
        refine rx_iload (i := 9) X dX8_wind_57 rfl ?_
        refine rx_iload_n (i := 2) X dX8_wind_59 rfl rfl ?_
        refine rx_icmp_ge_f X dX8_wind_60 (nI_ge (b := n) (by omega) (by omega)) ?_
        refine rx_lload (i := 7) X dX8_wind_63 rfl ?_
        refine rx_ldc2 X dX8_wind_65 kcX8_233 ?_
        refine rx_lmul X dX8_wind_68 ?_
        refine rx_lstore (i := 7) (lo2 := [(0, .ref _), (1, .int _), (2, .int _), (3, .int _), (4, .int _), (5, .long _), (7, .long _), (9, .int _)]) X dX8_wind_69 (by decide) rfl ?_
        refine rx_iinc (i := 9) (lo2 := [(0, .ref _), (1, .int _), (2, .int _), (3, .int _), (4, .int _), (5, .long _), (7, .long _), (9, .int _)]) X dX8_wind_71 rfl (rx_inc1 _) (by decide) rfl ?_
        refine rx_goto X dX8_wind_74 ?_
        exact ih (i + 1) _ _ (by omega) (nI_1 i) (by rw [show (10 : Int64) = lN 10 from rfl, lN_mul, Nat.pow_succ])
    exact bel n 0 _ _ (by omega) rfl rfl
  refine rx_aload_n (i := 0) X dX8_wind_0 rfl rfl ?_
  refine rx_iload_n (i := 1) X dX8_wind_1 rfl rfl ?_
  refine rx_callVi (ci := 8) X vsX8_isAnt mlX8_184 (kX8_isAnt hO hw.n3.1) (km_0 hO) rfl rfl (by decide) (by decide) dX8_wind_2 rfl (Nat.le_of_ble_eq_true rfl) (fun r2 t2 h2 => ?_)
  obtain ⟨rfl, ⟨rfl, h2⟩ | ⟨rfl, h2⟩⟩ := h2
  · obtain ⟨a, ha, rfl⟩ := rx_sub h2.1 (n := 6) (by have := hw.n3; omega)
    have hv := hw.V (by omega)
    refine rx_if_eq_f X dX8_wind_5 (by decide) ?_
    refine rx_iload_n (i := 2) X dX8_wind_8 rfl rfl ?_
    refine rx_i2l X dX8_wind_9 ?_
    refine rx_lconst (v := 0) X dX8_wind_10 (by decide) ?_
    refine rx_ldc2 X dX8_wind_11 kcX8_231 ?_
    refine rx_callTi X vsX8_in mlX8_63 (kX8_inI hO (A := 0) (B := 8) rfl rfl) rfl (by decide) (by decide) dX8_wind_14 rfl (Nat.le_of_ble_eq_true rfl) (fun r14 t14 h14 => ?_)
    obtain ⟨rfl, ⟨rfl, h14⟩ | ⟨rfl, h14⟩⟩ := h14
    · obtain ⟨n, hn, rfl⟩ := rx_sub (x := n) (n := 9) (by omega) (by omega)
      refine rx_if_eq_f X dX8_wind_17 (by decide) ?_
      refine rx_iload_n (i := 3) X dX8_wind_20 rfl rfl ?_
      refine rx_i2l X dX8_wind_21 ?_
      refine rx_lconst (v := 0) X dX8_wind_22 (by decide) ?_
      refine rx_ldc2 X dX8_wind_23 kcX8_233 ?_
      refine rx_callTi X vsX8_in mlX8_63 (kX8_inI hO (A := 0) (B := 10) rfl rfl) rfl (by decide) (by decide) dX8_wind_26 rfl (Nat.le_of_ble_eq_true rfl) (fun r26 t26 h26 => ?_)
      obtain ⟨rfl, ⟨rfl, h26⟩ | ⟨rfl, h26⟩⟩ := h26
      · obtain ⟨q, hq, rfl⟩ := rx_sub (x := q) (n := 11) (by omega) (by omega)
        refine rx_if_eq_f X dX8_wind_29 (by decide) ?_
        refine rx_iload (i := 4) X dX8_wind_32 rfl ?_
        refine rx_callTi X vsX8_isWhat mlX8_199 (kX8_isWhat hO) rfl (by decide) (by decide) dX8_wind_34 rfl (Nat.le_of_ble_eq_true rfl) (fun r34 t34 h34 => ?_)
        obtain ⟨rfl, ⟨rfl, h34⟩ | ⟨rfl, h34⟩⟩ := h34
        · refine rx_if_ne_t X dX8_wind_37 (by decide) ?_
          refine rx_aload_n (i := 0) X dX8_wind_44 rfl rfl ?_
          refine rx_callVv (ci := 8) X vsX8_putAside mlX8_190 (kX8_putAside hO) (km_0 hO) rfl rfl (by decide) (by decide) dX8_wind_45 rfl (Nat.le_of_ble_eq_true rfl) (fun t45 h45 => ?_)
          subst h45
          refine rx_lconst (v := 0) X dX8_wind_48 (by decide) ?_
          refine rx_lstore (i := 5) (lo2 := [(0, .ref _), (1, .int _), (2, .int _), (3, .int _), (4, .int _), (5, .long _)]) X dX8_wind_49 (by decide) rfl ?_
          refine rx_lconst (v := 1) X dX8_wind_51 (by decide) ?_
          refine rx_lstore (i := 7) (lo2 := [(0, .ref _), (1, .int _), (2, .int _), (3, .int _), (4, .int _), (5, .long _), (7, .long _)]) X dX8_wind_52 (by decide) rfl ?_
          refine rx_iconst (v := 0) X dX8_wind_54 (by decide) ?_
          refine rx_istore (i := 9) (lo2 := [(0, .ref _), (1, .int _), (2, .int _), (3, .int _), (4, .int _), (5, .long _), (7, .long _), (9, .int _)]) X dX8_wind_55 (by decide) rfl ?_
          exact go a n q ha hn (by omega) hv (by omega)
        · refine rx_if_ne_f X dX8_wind_37 (by decide) ?_
          refine rx_ldc2 X dX8_wind_40 kcX8_235 ?_
          refine rx_lret X dX8_wind_43 ?_
          refine ⟨?_, fun _ _ _ _ => rfl, rfl⟩
          rw [sp_windV, if_pos (by omega)]
      · refine rx_if_eq_t X dX8_wind_29 (by decide) ?_
        refine rx_ldc2 X dX8_wind_40 kcX8_235 ?_
        refine rx_lret X dX8_wind_43 ?_
        refine ⟨?_, fun _ _ _ _ => rfl, rfl⟩
        rw [sp_windV, if_pos (by omega)]
    · refine rx_if_eq_t X dX8_wind_17 (by decide) ?_
      refine rx_ldc2 X dX8_wind_40 kcX8_235 ?_
      refine rx_lret X dX8_wind_43 ?_
      refine ⟨?_, fun _ _ _ _ => rfl, rfl⟩
      rw [sp_windV, if_pos (by omega)]
  · refine rx_if_eq_t X dX8_wind_5 (by decide) ?_
    refine rx_ldc2 X dX8_wind_40 kcX8_235 ?_
    refine rx_lret X dX8_wind_43 ?_
    refine ⟨?_, fun _ _ _ _ => rfl, rfl⟩
    rw [sp_windV, if_pos (by omega)]
