/-! ===== the tape: bytes T, N of them; tokens by their first byte ===== -/
abbrev pz_dig (x : Int32) : Prop := 48 ≤ x.toInt ∧ x.toInt ≤ 57
abbrev pz_let (x : Int32) : Prop := (97 ≤ x.toInt ∧ x.toInt ≤ 122) ∨ x = 44 ∨ x = 59
def pz_run (T : Nat → Int32) (N : Nat) : Nat → Nat → Nat
  | 0, p => p
  | f + 1, p => if p < N ∧ pz_dig (T p) then pz_run T N f (p + 1) else p
/-- where the figures from p on end -/
def pz_e (T : Nat → Int32) (N p : Nat) : Nat := pz_run T N (N - p) p
def pz_mv (T : Nat → Int32) (p : Nat) : Nat → Int32
  | 0 => 0
  | n + 1 => if 99 < pz_mv T p n then pz_mv T p n else 10 * pz_mv T p n + T (p + n) - 48
def pz_tok (T : Nat → Int32) (N p : Nat) : Int32 := if p < pz_e T N p then (if 2 < pz_e T N p - p then 0 else 2) else if p = N then 3 else if pz_let (T p) then 1 else 0
def pz_val (T : Nat → Int32) (N p : Nat) : Int32 := if p < pz_e T N p then pz_mv T p (pz_e T N p - p) else if p = N then 0 else T p
def pz_nx (T : Nat → Int32) (N p : Nat) : Nat := if p < pz_e T N p then pz_e T N p else if p = N then p else p + 1
theorem pz_run_le (T : Nat → Int32) (N : Nat) : ∀ f p, p ≤ N → p ≤ pz_run T N f p ∧ pz_run T N f p ≤ N
  | 0, p, h => ⟨Nat.le_refl _, h⟩
  | f + 1, p, h => by
    unfold pz_run
    split
    · rename_i q
      have := pz_run_le T N f (p + 1) (by omega)
      omega
    · exact ⟨Nat.le_refl _, h⟩
theorem pz_e_le {T : Nat → Int32} {N p : Nat} (h : p ≤ N) : p ≤ pz_e T N p ∧ pz_e T N p ≤ N := pz_run_le T N _ p h
theorem pz_e_s {T : Nat → Int32} {N p : Nat} (h : p < N) (hd : pz_dig (T p)) : pz_e T N p = pz_e T N (p + 1) := by
  unfold pz_e
  rw [show N - p = (N - (p + 1)) + 1 by omega]
  conv => lhs; rw [pz_run, if_pos ⟨h, hd⟩]
theorem pz_e_n {T : Nat → Int32} {N p : Nat} (h : ¬ (p < N ∧ pz_dig (T p))) : pz_e T N p = p := by
  unfold pz_e
  cases hf : N - p with
  | zero => rfl
  | succ f => rw [pz_run, if_neg h]
theorem pz_nx_le {T : Nat → Int32} {N p : Nat} (h : p ≤ N) : pz_nx T N p ≤ N := by
  have := pz_e_le (T := T) h
  unfold pz_nx
  split
  · omega
  · split
    · omega
    · omega
/-- the reference stands at the token that begins at p; g: the object's other numbers -/
def pz_at (T : Nat → Int32) (N p : Nat) (f : Nat → Int32) : Prop := f 14 = nI p ∧ f 12 = pz_tok T N p ∧ f 13 = pz_val T N p ∧ f 11 = nI (pz_nx T N p)
abbrev pz_oth (f g : Nat → Int32) : Prop := ∀ j, j ≠ 11 → j ≠ 12 → j ≠ 13 → j ≠ 14 → j ≠ 15 → f j = g j
/-- only the object's reading numbers and the row read have changed -/
def pz_ok (σ τ : rx_S) : Prop := (∀ k, k ≠ 0 → k ≠ 7 → τ.1 k = σ.1 k) ∧ pz_oth (τ.1 0) (σ.1 0) ∧ τ.2 = σ.2
theorem pz_ok.rf (σ : rx_S) : pz_ok σ σ := ⟨fun _ _ _ => rfl, fun _ _ _ _ _ _ => rfl, rfl⟩
theorem pz_ok.tr {σ τ ρ : rx_S} (h : pz_ok σ τ) (h2 : pz_ok τ ρ) : pz_ok σ ρ := ⟨fun k a b => (h2.1 k a b).trans (h.1 k a b), fun j a b c d e => (h2.2.1 j a b c d e).trans (h.2.1 j a b c d e), h2.2.2.trans h.2.2⟩
theorem pz_ok.u0 {σ τ : rx_S} {j : Nat} {v : Int32} (h : pz_ok σ τ) (hj : j = 11 ∨ j = 12 ∨ j = 13 ∨ j = 14 ∨ j = 15) : pz_ok σ (rx_u τ 0 j v) :=
  ⟨fun k a b => (rx_u_ne a).trans (h.1 k a b), fun i a b c d e => by rw [rx_u_s, upd_n (by omega)]; exact h.2.1 i a b c d e, h.2.2⟩
theorem pz_ok.u7 {σ τ : rx_S} {j : Nat} {v : Int32} (h : pz_ok σ τ) : pz_ok σ (rx_u τ 7 j v) :=
  ⟨fun k a b => (rx_u_ne b).trans (h.1 k a b), fun i a b c d e => by rw [rx_u_ne (by decide)]; exact h.2.1 i a b c d e, h.2.2⟩
theorem u0s {τ : rx_S} {j : Nat} {v : Int32} : (rx_u τ 0 j v).1 0 j = v := by rw [rx_u_s, upd_s]
theorem u0n {τ : rx_S} {i j : Nat} {v : Int32} (h : i ≠ j) : (rx_u τ 0 j v).1 0 i = τ.1 0 i := by rw [rx_u_s, upd_n h]
set_option maxHeartbeats 4000000 in
set_option maxRecDepth 100000 in
theorem kX8_nextToken {l : Launch} {O : rx_O} (hO : mo_O O) {σ : rx_S} {p0 N : Nat} (hp : σ.1 0 11 = nI p0) (hN : σ.1 0 9 = nI N) (hpN : p0 ≤ N) (hN2 : N ≤ 120) : rx_MV l O yX8_nextToken cX8_nextToken 1 none 1 [.ref 0] σ (fun τ => pz_ok σ τ ∧ pz_at (σ.1 6) N p0 (τ.1 0) ∧ τ.1 0 15 = σ.1 0 15 ∧ τ.1 7 = σ.1 7) := by
  refine rx_Met_of (own := RX8) rfl hO.2.1 vsX8_nextToken.2.2.2.2.2 (Nat.le_of_ble_eq_true rfl) rfl (fun p e s m args below meth c X => ?_)
  have tail : ∀ (i : Nat) (τ : rx_S) (hok : pz_ok σ τ) (e11 : τ.1 0 11 = nI (p0 + i)) (e14 : τ.1 0 14 = nI p0) (e13 : τ.1 0 13 = pz_mv (σ.1 6) p0 i) (e12 : τ.1 0 12 = if p0 = N then 3 else 0) (e15 : τ.1 0 15 = σ.1 0 15) (e7 : τ.1 7 = σ.1 7) (hle : p0 + i ≤ N) (hmid : pz_e (σ.1 6) N p0 = pz_e (σ.1 6) N (p0 + i)) (hno : ¬ (p0 + i < N ∧ pz_dig (σ.1 6 (p0 + i)))), rx_J O 1 p l e (rx_lv 1) s m args below meth c (rx_QV O below args s (fun τ => pz_ok σ τ ∧ pz_at (σ.1 6) N p0 (τ.1 0) ∧ τ.1 0 15 = σ.1 0 15 ∧ τ.1 7 = σ.1 7)) 119 [(0, .ref 0)] [] τ := by
    intro i τ hok e11 e14 e13 e12 e15 e7 hle hmid hno
    have hend : pz_e (σ.1 6) N p0 = p0 + i := by rw [hmid, pz_e_n hno]
    have e6 : τ.1 6 = σ.1 6 := hok.1 6 (by decide) (by decide)
    by_cases hi0 : i = 0
    · subst hi0
      rw [Nat.add_zero] at *
      by_cases hpN : p0 = N
      · rw [if_pos hpN] at e12
        subst hpN
        refine rx_aload_n (i := 0) X dX8_nextToken_119 rfl rfl ?_
        refine rx_getI (ci := 8) (i := 11) X (km_0 hO) rfl rfl (by decide) inX8 flX8_91 dX8_nextToken_120 ?_
        refine rx_top e11 ?_
        refine rx_aload_n (i := 0) X dX8_nextToken_123 rfl rfl ?_
        refine rx_getI (ci := 8) (i := 14) X (km_0 hO) rfl rfl (by decide) inX8 flX8_94 dX8_nextToken_124 ?_
        refine rx_top e14 ?_
        refine rx_icmp_le_t X dX8_nextToken_127 (Int32.le_refl _) ?_
        refine rx_aload_n (i := 0) X dX8_nextToken_155 rfl rfl ?_
        refine rx_getI (ci := 8) (i := 12) X (km_0 hO) rfl rfl (by decide) inX8 flX8_97 dX8_nextToken_156 ?_
        refine rx_top e12 ?_
        refine rx_if_ne_t X dX8_nextToken_159 (by decide) ?_
        refine rx_vret X dX8_nextToken_229 ?_
        refine ⟨hok, ⟨e14, ?_, ?_, ?_⟩, e15, e7⟩
        · rw [e12, pz_tok, if_neg (by omega), if_pos rfl]
        · rw [e13, pz_val, if_neg (by omega), if_pos rfl]
          rfl
        · rw [e11, pz_nx, if_neg (by omega), if_pos rfl]
      · rw [if_neg hpN] at e12
        refine rx_aload_n (i := 0) X dX8_nextToken_119 rfl rfl ?_
        refine rx_getI (ci := 8) (i := 11) X (km_0 hO) rfl rfl (by decide) inX8 flX8_91 dX8_nextToken_120 ?_
        refine rx_top e11 ?_
        refine rx_aload_n (i := 0) X dX8_nextToken_123 rfl rfl ?_
        refine rx_getI (ci := 8) (i := 14) X (km_0 hO) rfl rfl (by decide) inX8 flX8_94 dX8_nextToken_124 ?_
        refine rx_top e14 ?_
        refine rx_icmp_le_t X dX8_nextToken_127 (Int32.le_refl _) ?_
        refine rx_aload_n (i := 0) X dX8_nextToken_155 rfl rfl ?_
        refine rx_getI (ci := 8) (i := 12) X (km_0 hO) rfl rfl (by decide) inX8 flX8_97 dX8_nextToken_156 ?_
        refine rx_top e12 ?_
        refine rx_if_ne_f X dX8_nextToken_159 rfl ?_
        refine rx_aload_n (i := 0) X dX8_nextToken_162 rfl rfl ?_
        refine rx_aload_n (i := 0) X dX8_nextToken_163 rfl rfl ?_
        refine rx_getR (ci := 8) (i := 8) X (km_0 hO) rfl rfl (by decide) inX8 flX8_29 dX8_nextToken_164 ?_
        refine rx_aload_n (i := 0) X dX8_nextToken_167 rfl rfl ?_
        refine rx_getI (ci := 8) (i := 11) X (km_0 hO) rfl rfl (by decide) inX8 flX8_91 dX8_nextToken_168 ?_
        refine rx_top e11 ?_
        refine rx_ialdN (j := p0) X (km_6 hO) hO.2.2.1 rfl (by omega) (by decide) dX8_nextToken_171 ?_
        refine rx_top (congrFun e6 _) ?_
        refine rx_putI (ci := 8) (i := 13) X (km_0 hO) rfl rfl (by decide) inX8 tyX8 tyX8_ok nmX8 flX8_100 rfl rfl dX8_nextToken_172 ?_
        refine rx_aload_n (i := 0) X dX8_nextToken_175 rfl rfl ?_
        refine rx_aload_n (i := 0) X dX8_nextToken_176 rfl rfl ?_
        refine rx_getI (ci := 8) (i := 13) X (km_0 hO) rfl rfl (by decide) inX8 flX8_100 dX8_nextToken_177 ?_
        refine rx_top u0s ?_
        refine rx_i2l X dX8_nextToken_180 ?_
        refine rx_ldc2 X dX8_nextToken_181 kcX8_107 ?_
        refine rx_ldc2 X dX8_nextToken_184 kcX8_109 ?_
        refine rx_callTi X vsX8_in mlX8_63 (kX8_inI hO (A := 97) (B := 122) rfl rfl) rfl (by decide) (by decide) dX8_nextToken_187 rfl (Nat.le_of_ble_eq_true rfl) (fun r187 t187 h187 => ?_)
        obtain ⟨rfl, ⟨rfl, h187⟩ | ⟨rfl, h187⟩⟩ := h187
        · refine rx_if_ne_t X dX8_nextToken_190 (by decide) ?_
          refine rx_iconst (v := 1) X dX8_nextToken_211 (by decide) ?_
          refine rx_goto X dX8_nextToken_212 ?_
          refine rx_putI (ci := 8) (i := 12) X (km_0 hO) rfl rfl (by decide) inX8 tyX8 tyX8_ok nmX8 flX8_97 rfl rfl dX8_nextToken_216 ?_
          refine rx_aload_n (i := 0) X dX8_nextToken_219 rfl rfl ?_
          refine rx_dup X dX8_nextToken_220 rfl ?_
          refine rx_getI (ci := 8) (i := 11) X (km_0 hO) rfl rfl (by decide) inX8 flX8_91 dX8_nextToken_221 ?_
          refine rx_top ((u0n (by decide)).trans ((u0n (by decide)).trans e11)) ?_
          refine rx_iconst (v := 1) X dX8_nextToken_224 (by decide) ?_
          refine rx_iadd X dX8_nextToken_225 ?_
          refine rx_putI (ci := 8) (i := 11) X (km_0 hO) rfl rfl (by decide) inX8 tyX8 tyX8_ok nmX8 flX8_91 rfl rfl dX8_nextToken_226 ?_
          refine rx_vret X dX8_nextToken_229 ?_
          refine ⟨((hok.u0 (by decide)).u0 (by decide)).u0 (by decide), ⟨?_, ?_, ?_, ?_⟩, by rw [u0n (by decide), u0n (by decide), u0n (by decide)]; exact e15, by rw [rx_u_ne (by decide), rx_u_ne (by decide), rx_u_ne (by decide)]; exact e7⟩
          · rw [u0n (by decide), u0n (by decide), u0n (by decide)]; exact e14
          · rw [u0n (by decide), u0s, pz_tok, if_neg (by omega), if_neg (by omega)]
            first | (rw [if_pos (Or.inl h187)]; done) | (rw [if_pos (Or.inr (Or.inl h199))]; done) | (rw [if_pos (Or.inr (Or.inr h208))]; done) | (rw [if_neg (fun z => z.elim h187 (fun z => z.elim h199 h208))]; done) | fail "leaf"
          · rw [u0n (by decide), u0n (by decide), u0s, pz_val, if_neg (by omega), if_neg (by omega)]
          · rw [u0s, pz_nx, if_neg (by omega), if_neg (by omega)]
            exact nI_1 p0
        · refine rx_if_ne_f X dX8_nextToken_190 (by decide) ?_
          refine rx_aload_n (i := 0) X dX8_nextToken_193 rfl rfl ?_
          refine rx_getI (ci := 8) (i := 13) X (km_0 hO) rfl rfl (by decide) inX8 flX8_100 dX8_nextToken_194 ?_
          refine rx_top u0s ?_
          refine rx_bipush (v := 44) X dX8_nextToken_197 (by decide) ?_
          refine rx_icmp_eq X dX8_nextToken_199 (fun h199 => ?_) (fun h199 => ?_)
          · refine rx_iconst (v := 1) X dX8_nextToken_211 (by decide) ?_
            refine rx_goto X dX8_nextToken_212 ?_
            refine rx_putI (ci := 8) (i := 12) X (km_0 hO) rfl rfl (by decide) inX8 tyX8 tyX8_ok nmX8 flX8_97 rfl rfl dX8_nextToken_216 ?_
            refine rx_aload_n (i := 0) X dX8_nextToken_219 rfl rfl ?_
            refine rx_dup X dX8_nextToken_220 rfl ?_
            refine rx_getI (ci := 8) (i := 11) X (km_0 hO) rfl rfl (by decide) inX8 flX8_91 dX8_nextToken_221 ?_
            refine rx_top ((u0n (by decide)).trans ((u0n (by decide)).trans e11)) ?_
            refine rx_iconst (v := 1) X dX8_nextToken_224 (by decide) ?_
            refine rx_iadd X dX8_nextToken_225 ?_
            refine rx_putI (ci := 8) (i := 11) X (km_0 hO) rfl rfl (by decide) inX8 tyX8 tyX8_ok nmX8 flX8_91 rfl rfl dX8_nextToken_226 ?_
            refine rx_vret X dX8_nextToken_229 ?_
            refine ⟨((hok.u0 (by decide)).u0 (by decide)).u0 (by decide), ⟨?_, ?_, ?_, ?_⟩, by rw [u0n (by decide), u0n (by decide), u0n (by decide)]; exact e15, by rw [rx_u_ne (by decide), rx_u_ne (by decide), rx_u_ne (by decide)]; exact e7⟩
            · rw [u0n (by decide), u0n (by decide), u0n (by decide)]; exact e14
            · rw [u0n (by decide), u0s, pz_tok, if_neg (by omega), if_neg (by omega)]
              first | (rw [if_pos (Or.inl h187)]; done) | (rw [if_pos (Or.inr (Or.inl h199))]; done) | (rw [if_pos (Or.inr (Or.inr h208))]; done) | (rw [if_neg (fun z => z.elim h187 (fun z => z.elim h199 h208))]; done) | fail "leaf"
            · rw [u0n (by decide), u0n (by decide), u0s, pz_val, if_neg (by omega), if_neg (by omega)]
            · rw [u0s, pz_nx, if_neg (by omega), if_neg (by omega)]
              exact nI_1 p0
          · refine rx_aload_n (i := 0) X dX8_nextToken_202 rfl rfl ?_
            refine rx_getI (ci := 8) (i := 13) X (km_0 hO) rfl rfl (by decide) inX8 flX8_100 dX8_nextToken_203 ?_
            refine rx_top u0s ?_
            refine rx_bipush (v := 59) X dX8_nextToken_206 (by decide) ?_
            refine rx_icmp_ne X dX8_nextToken_208 (fun h208 => ?_) (fun h208 => ?_)
            · refine rx_iconst (v := 0) X dX8_nextToken_215 (by decide) ?_
              refine rx_putI (ci := 8) (i := 12) X (km_0 hO) rfl rfl (by decide) inX8 tyX8 tyX8_ok nmX8 flX8_97 rfl rfl dX8_nextToken_216 ?_
              refine rx_aload_n (i := 0) X dX8_nextToken_219 rfl rfl ?_
              refine rx_dup X dX8_nextToken_220 rfl ?_
              refine rx_getI (ci := 8) (i := 11) X (km_0 hO) rfl rfl (by decide) inX8 flX8_91 dX8_nextToken_221 ?_
              refine rx_top ((u0n (by decide)).trans ((u0n (by decide)).trans e11)) ?_
              refine rx_iconst (v := 1) X dX8_nextToken_224 (by decide) ?_
              refine rx_iadd X dX8_nextToken_225 ?_
              refine rx_putI (ci := 8) (i := 11) X (km_0 hO) rfl rfl (by decide) inX8 tyX8 tyX8_ok nmX8 flX8_91 rfl rfl dX8_nextToken_226 ?_
              refine rx_vret X dX8_nextToken_229 ?_
              refine ⟨((hok.u0 (by decide)).u0 (by decide)).u0 (by decide), ⟨?_, ?_, ?_, ?_⟩, by rw [u0n (by decide), u0n (by decide), u0n (by decide)]; exact e15, by rw [rx_u_ne (by decide), rx_u_ne (by decide), rx_u_ne (by decide)]; exact e7⟩
              · rw [u0n (by decide), u0n (by decide), u0n (by decide)]; exact e14
              · rw [u0n (by decide), u0s, pz_tok, if_neg (by omega), if_neg (by omega)]
                first | (rw [if_pos (Or.inl h187)]; done) | (rw [if_pos (Or.inr (Or.inl h199))]; done) | (rw [if_pos (Or.inr (Or.inr h208))]; done) | (rw [if_neg (fun z => z.elim h187 (fun z => z.elim h199 h208))]; done) | fail "leaf"
              · rw [u0n (by decide), u0n (by decide), u0s, pz_val, if_neg (by omega), if_neg (by omega)]
              · rw [u0s, pz_nx, if_neg (by omega), if_neg (by omega)]
                exact nI_1 p0
            · refine rx_iconst (v := 1) X dX8_nextToken_211 (by decide) ?_
              refine rx_goto X dX8_nextToken_212 ?_
              refine rx_putI (ci := 8) (i := 12) X (km_0 hO) rfl rfl (by decide) inX8 tyX8 tyX8_ok nmX8 flX8_97 rfl rfl dX8_nextToken_216 ?_
              refine rx_aload_n (i := 0) X dX8_nextToken_219 rfl rfl ?_
              refine rx_dup X dX8_nextToken_220 rfl ?_
              refine rx_getI (ci := 8) (i := 11) X (km_0 hO) rfl rfl (by decide) inX8 flX8_91 dX8_nextToken_221 ?_
              refine rx_top ((u0n (by decide)).trans ((u0n (by decide)).trans e11)) ?_
              refine rx_iconst (v := 1) X dX8_nextToken_224 (by decide) ?_
              refine rx_iadd X dX8_nextToken_225 ?_
              refine rx_putI (ci := 8) (i := 11) X (km_0 hO) rfl rfl (by decide) inX8 tyX8 tyX8_ok nmX8 flX8_91 rfl rfl dX8_nextToken_226 ?_
              refine rx_vret X dX8_nextToken_229 ?_
              refine ⟨((hok.u0 (by decide)).u0 (by decide)).u0 (by decide), ⟨?_, ?_, ?_, ?_⟩, by rw [u0n (by decide), u0n (by decide), u0n (by decide)]; exact e15, by rw [rx_u_ne (by decide), rx_u_ne (by decide), rx_u_ne (by decide)]; exact e7⟩
              · rw [u0n (by decide), u0n (by decide), u0n (by decide)]; exact e14
              · rw [u0n (by decide), u0s, pz_tok, if_neg (by omega), if_neg (by omega)]
                first | (rw [if_pos (Or.inl h187)]; done) | (rw [if_pos (Or.inr (Or.inl h199))]; done) | (rw [if_pos (Or.inr (Or.inr h208))]; done) | (rw [if_neg (fun z => z.elim h187 (fun z => z.elim h199 h208))]; done) | fail "leaf"
              · rw [u0n (by decide), u0n (by decide), u0s, pz_val, if_neg (by omega), if_neg (by omega)]
              · rw [u0s, pz_nx, if_neg (by omega), if_neg (by omega)]
                exact nI_1 p0
    · refine rx_aload_n (i := 0) X dX8_nextToken_119 rfl rfl ?_
      refine rx_getI (ci := 8) (i := 11) X (km_0 hO) rfl rfl (by decide) inX8 flX8_91 dX8_nextToken_120 ?_
      refine rx_top e11 ?_
      refine rx_aload_n (i := 0) X dX8_nextToken_123 rfl rfl ?_
      refine rx_getI (ci := 8) (i := 14) X (km_0 hO) rfl rfl (by decide) inX8 flX8_94 dX8_nextToken_124 ?_
      refine rx_top e14 ?_
      refine rx_icmp_le_f X dX8_nextToken_127 (by rw [← Int32.not_lt, Decidable.not_not]; exact nI_lt (by omega) (by omega)) ?_
      refine rx_aload_n (i := 0) X dX8_nextToken_130 rfl rfl ?_
      refine rx_aload_n (i := 0) X dX8_nextToken_131 rfl rfl ?_
      refine rx_getI (ci := 8) (i := 11) X (km_0 hO) rfl rfl (by decide) inX8 flX8_91 dX8_nextToken_132 ?_
      refine rx_top e11 ?_
      refine rx_aload_n (i := 0) X dX8_nextToken_135 rfl rfl ?_
      refine rx_getI (ci := 8) (i := 14) X (km_0 hO) rfl rfl (by decide) inX8 flX8_94 dX8_nextToken_136 ?_
      refine rx_top e14 ?_
      refine rx_isub X dX8_nextToken_139 ?_
      refine rx_iconst (v := 2) X dX8_nextToken_140 (by decide) ?_
      refine rx_icmp_le X dX8_nextToken_141 (fun h141 => ?_) (fun h141 => ?_)
      · refine rx_iconst (v := 2) X dX8_nextToken_148 (by decide) ?_
        refine rx_putI (ci := 8) (i := 12) X (km_0 hO) rfl rfl (by decide) inX8 tyX8 tyX8_ok nmX8 flX8_97 rfl rfl dX8_nextToken_149 ?_
        refine rx_goto X dX8_nextToken_152 ?_
        refine rx_vret X dX8_nextToken_229 ?_
        refine ⟨hok.u0 (by decide), ⟨by rw [u0n (by decide)]; exact e14, ?_, ?_, ?_⟩, by rw [u0n (by decide)]; exact e15, by rw [rx_u_ne (by decide)]; exact e7⟩
        · rw [u0s, pz_tok, if_pos (by omega)]
          first | (rw [if_neg (by rw [pk_sub (by omega), show (2 : Int32) = nI 2 from rfl, nI_leI (by omega) (by omega)] at h141; omega)]; done) | (rw [if_pos (by rw [pk_sub (by omega), show (2 : Int32) = nI 2 from rfl, nI_leI (by omega) (by omega)] at h141; omega)]; done) | fail "leaf"
        · rw [u0n (by decide), e13, pz_val, if_pos (by omega), hend, Nat.add_sub_cancel_left]
        · rw [u0n (by decide), e11, pz_nx, if_pos (by omega), hend]
      · refine rx_iconst (v := 0) X dX8_nextToken_144 (by decide) ?_
        refine rx_goto X dX8_nextToken_145 ?_
        refine rx_putI (ci := 8) (i := 12) X (km_0 hO) rfl rfl (by decide) inX8 tyX8 tyX8_ok nmX8 flX8_97 rfl rfl dX8_nextToken_149 ?_
        refine rx_goto X dX8_nextToken_152 ?_
        refine rx_vret X dX8_nextToken_229 ?_
        refine ⟨hok.u0 (by decide), ⟨by rw [u0n (by decide)]; exact e14, ?_, ?_, ?_⟩, by rw [u0n (by decide)]; exact e15, by rw [rx_u_ne (by decide)]; exact e7⟩
        · rw [u0s, pz_tok, if_pos (by omega)]
          first | (rw [if_neg (by rw [pk_sub (by omega), show (2 : Int32) = nI 2 from rfl, nI_leI (by omega) (by omega)] at h141; omega)]; done) | (rw [if_pos (by rw [pk_sub (by omega), show (2 : Int32) = nI 2 from rfl, nI_leI (by omega) (by omega)] at h141; omega)]; done) | fail "leaf"
        · rw [u0n (by decide), e13, pz_val, if_pos (by omega), hend, Nat.add_sub_cancel_left]
        · rw [u0n (by decide), e11, pz_nx, if_pos (by omega), hend]
  have loop : ∀ (k : Nat) (i : Nat) (τ : rx_S), (N - (p0 + i) = k) → (pz_ok σ τ) → (τ.1 0 11 = nI (p0 + i)) → (τ.1 0 14 = nI p0) → (τ.1 0 13 = pz_mv (σ.1 6) p0 i) → (τ.1 0 12 = if p0 = N then 3 else 0) → (τ.1 0 15 = σ.1 0 15) → (τ.1 7 = σ.1 7) → (p0 + i ≤ N) → (pz_e (σ.1 6) N p0 = pz_e (σ.1 6) N (p0 + i)) → rx_J O 1 p l e (rx_lv 1) s m args below meth c (rx_QV O below args s (fun τ => pz_ok σ τ ∧ pz_at (σ.1 6) N p0 (τ.1 0) ∧ τ.1 0 15 = σ.1 0 15 ∧ τ.1 7 = σ.1 7)) 33 [(0, .ref 0)] [] τ := by
    intro k
    induction k with
    | zero =>
      intro i τ hf hok e11 e14 e13 e12 e15 e7 hle hmid
      have e9 : τ.1 0 9 = nI N := by rw [hok.2.1 9 (by decide) (by decide) (by decide) (by decide) (by decide)]; exact hN
      refine rx_aload_n (i := 0) X dX8_nextToken_33 rfl rfl ?_
      refine rx_getI (ci := 8) (i := 11) X (km_0 hO) rfl rfl (by decide) inX8 flX8_91 dX8_nextToken_34 ?_
      refine rx_top e11 ?_
      refine rx_aload_n (i := 0) X dX8_nextToken_37 rfl rfl ?_
      refine rx_getI (ci := 8) (i := 9) X (km_0 hO) rfl rfl (by decide) inX8 flX8_87 dX8_nextToken_38 ?_
      refine rx_top e9 ?_
      refine rx_icmp_ge_t X dX8_nextToken_41 (nI_le (by omega) (by omega)) ?_
      exact tail i τ hok e11 e14 e13 e12 e15 e7 hle hmid (fun z => by omega)
    | succ k ih =>
      intro i τ hf hok e11 e14 e13 e12 e15 e7 hle hmid
      have e9 : τ.1 0 9 = nI N := by rw [hok.2.1 9 (by decide) (by decide) (by decide) (by decide) (by decide)]; exact hN
      have e6 : τ.1 6 = σ.1 6 := hok.1 6 (by decide) (by decide)
      refine rx_aload_n (i := 0) X dX8_nextToken_33 rfl rfl ?_
      refine rx_getI (ci := 8) (i := 11) X (km_0 hO) rfl rfl (by decide) inX8 flX8_91 dX8_nextToken_34 ?_
      refine rx_top e11 ?_
      refine rx_aload_n (i := 0) X dX8_nextToken_37 rfl rfl ?_
      refine rx_getI (ci := 8) (i := 9) X (km_0 hO) rfl rfl (by decide) inX8 flX8_87 dX8_nextToken_38 ?_
      refine rx_top e9 ?_
      refine rx_icmp_ge_f X dX8_nextToken_41 (nI_ge (by omega) (by omega)) ?_
      refine rx_aload_n (i := 0) X dX8_nextToken_44 rfl rfl ?_
      refine rx_getR (ci := 8) (i := 8) X (km_0 hO) rfl rfl (by decide) inX8 flX8_29 dX8_nextToken_45 ?_
      refine rx_aload_n (i := 0) X dX8_nextToken_48 rfl rfl ?_
      refine rx_getI (ci := 8) (i := 11) X (km_0 hO) rfl rfl (by decide) inX8 flX8_91 dX8_nextToken_49 ?_
      refine rx_top e11 ?_
      refine rx_ialdN (j := p0 + i) X (km_6 hO) hO.2.2.1 rfl (by omega) (by decide) dX8_nextToken_52 ?_
      refine rx_top (congrFun e6 _) ?_
      refine rx_i2l X dX8_nextToken_53 ?_
      refine rx_ldc2 X dX8_nextToken_54 kcX8_103 ?_
      refine rx_ldc2 X dX8_nextToken_57 kcX8_105 ?_
      refine rx_callTi X vsX8_in mlX8_63 (kX8_inI hO (A := 48) (B := 57) rfl rfl) rfl (by decide) (by decide) dX8_nextToken_60 rfl (Nat.le_of_ble_eq_true rfl) (fun r60 t60 h60 => ?_)
      obtain ⟨rfl, ⟨rfl, h60⟩ | ⟨rfl, h60⟩⟩ := h60
      · refine rx_if_eq_f X dX8_nextToken_63 (by decide) ?_
        refine rx_aload_n (i := 0) X dX8_nextToken_66 rfl rfl ?_
        refine rx_aload_n (i := 0) X dX8_nextToken_67 rfl rfl ?_
        refine rx_getI (ci := 8) (i := 13) X (km_0 hO) rfl rfl (by decide) inX8 flX8_100 dX8_nextToken_68 ?_
        refine rx_top e13 ?_
        refine rx_bipush (v := 99) X dX8_nextToken_71 (by decide) ?_
        refine rx_icmp_le X dX8_nextToken_73 (fun h73 => ?_) (fun h73 => ?_)
        · refine rx_bipush (v := 10) X dX8_nextToken_83 (by decide) ?_
          refine rx_aload_n (i := 0) X dX8_nextToken_85 rfl rfl ?_
          refine rx_getI (ci := 8) (i := 13) X (km_0 hO) rfl rfl (by decide) inX8 flX8_100 dX8_nextToken_86 ?_
          refine rx_top e13 ?_
          refine rx_imul X dX8_nextToken_89 ?_
          refine rx_aload_n (i := 0) X dX8_nextToken_90 rfl rfl ?_
          refine rx_getR (ci := 8) (i := 8) X (km_0 hO) rfl rfl (by decide) inX8 flX8_29 dX8_nextToken_91 ?_
          refine rx_aload_n (i := 0) X dX8_nextToken_94 rfl rfl ?_
          refine rx_getI (ci := 8) (i := 11) X (km_0 hO) rfl rfl (by decide) inX8 flX8_91 dX8_nextToken_95 ?_
          refine rx_top e11 ?_
          refine rx_ialdN (j := p0 + i) X (km_6 hO) hO.2.2.1 rfl (by omega) (by decide) dX8_nextToken_98 ?_
          refine rx_top (congrFun e6 _) ?_
          refine rx_iadd X dX8_nextToken_99 ?_
          refine rx_bipush (v := 48) X dX8_nextToken_100 (by decide) ?_
          refine rx_isub X dX8_nextToken_102 ?_
          refine rx_putI (ci := 8) (i := 13) X (km_0 hO) rfl rfl (by decide) inX8 tyX8 tyX8_ok nmX8 flX8_100 rfl rfl dX8_nextToken_103 ?_
          refine rx_aload_n (i := 0) X dX8_nextToken_106 rfl rfl ?_
          refine rx_dup X dX8_nextToken_107 rfl ?_
          refine rx_getI (ci := 8) (i := 11) X (km_0 hO) rfl rfl (by decide) inX8 flX8_91 dX8_nextToken_108 ?_
          refine rx_top ((u0n (by decide)).trans e11) ?_
          refine rx_iconst (v := 1) X dX8_nextToken_111 (by decide) ?_
          refine rx_iadd X dX8_nextToken_112 ?_
          refine rx_putI (ci := 8) (i := 11) X (km_0 hO) rfl rfl (by decide) inX8 tyX8 tyX8_ok nmX8 flX8_91 rfl rfl dX8_nextToken_113 ?_
          refine rx_goto X dX8_nextToken_116 ?_
          refine ih (i + 1) _ (by omega) ((hok.u0 (by decide)).u0 (by decide)) ?_ ?_ ?_ ?_ ?_ ?_ (by omega) ?_
          · rw [u0s]; exact nI_1 (p0 + i)
          · rw [u0n (by decide), u0n (by decide)]; exact e14
          · rw [u0n (by decide), u0s]
            first | rw [pz_mv, if_neg (Int32.not_lt.mpr h73)] | rw [pz_mv, if_pos (Int32.not_le.mp h73)] | fail "leaf"
          · rw [u0n (by decide), u0n (by decide)]; exact e12
          · rw [u0n (by decide), u0n (by decide)]; exact e15
          · rw [rx_u_ne (by decide), rx_u_ne (by decide)]; exact e7
          · rw [hmid]; exact pz_e_s (by omega) h60
        · refine rx_aload_n (i := 0) X dX8_nextToken_76 rfl rfl ?_
          refine rx_getI (ci := 8) (i := 13) X (km_0 hO) rfl rfl (by decide) inX8 flX8_100 dX8_nextToken_77 ?_
          refine rx_top e13 ?_
          refine rx_goto X dX8_nextToken_80 ?_
          refine rx_putI (ci := 8) (i := 13) X (km_0 hO) rfl rfl (by decide) inX8 tyX8 tyX8_ok nmX8 flX8_100 rfl rfl dX8_nextToken_103 ?_
          refine rx_aload_n (i := 0) X dX8_nextToken_106 rfl rfl ?_
          refine rx_dup X dX8_nextToken_107 rfl ?_
          refine rx_getI (ci := 8) (i := 11) X (km_0 hO) rfl rfl (by decide) inX8 flX8_91 dX8_nextToken_108 ?_
          refine rx_top ((u0n (by decide)).trans e11) ?_
          refine rx_iconst (v := 1) X dX8_nextToken_111 (by decide) ?_
          refine rx_iadd X dX8_nextToken_112 ?_
          refine rx_putI (ci := 8) (i := 11) X (km_0 hO) rfl rfl (by decide) inX8 tyX8 tyX8_ok nmX8 flX8_91 rfl rfl dX8_nextToken_113 ?_
          refine rx_goto X dX8_nextToken_116 ?_
          refine ih (i + 1) _ (by omega) ((hok.u0 (by decide)).u0 (by decide)) ?_ ?_ ?_ ?_ ?_ ?_ (by omega) ?_
          · rw [u0s]; exact nI_1 (p0 + i)
          · rw [u0n (by decide), u0n (by decide)]; exact e14
          · rw [u0n (by decide), u0s]
            first | rw [pz_mv, if_neg (Int32.not_lt.mpr h73)] | rw [pz_mv, if_pos (Int32.not_le.mp h73)] | fail "leaf"
          · rw [u0n (by decide), u0n (by decide)]; exact e12
          · rw [u0n (by decide), u0n (by decide)]; exact e15
          · rw [rx_u_ne (by decide), rx_u_ne (by decide)]; exact e7
          · rw [hmid]; exact pz_e_s (by omega) h60
      · refine rx_if_eq_t X dX8_nextToken_63 (by decide) ?_
        exact tail i τ hok e11 e14 e13 e12 e15 e7 hle hmid (fun z => h60 z.2)
  refine rx_aload_n (i := 0) X dX8_nextToken_0 rfl rfl ?_
  refine rx_aload_n (i := 0) X dX8_nextToken_1 rfl rfl ?_
  refine rx_getI (ci := 8) (i := 11) X (km_0 hO) rfl rfl (by decide) inX8 flX8_91 dX8_nextToken_2 ?_
  refine rx_putI (ci := 8) (i := 14) X (km_0 hO) rfl rfl (by decide) inX8 tyX8 tyX8_ok nmX8 flX8_94 rfl rfl dX8_nextToken_5 ?_
  refine rx_aload_n (i := 0) X dX8_nextToken_8 rfl rfl ?_
  refine rx_aload_n (i := 0) X dX8_nextToken_9 rfl rfl ?_
  refine rx_getI (ci := 8) (i := 11) X (km_0 hO) rfl rfl (by decide) inX8 flX8_91 dX8_nextToken_10 ?_
  refine rx_aload_n (i := 0) X dX8_nextToken_13 rfl rfl ?_
  refine rx_getI (ci := 8) (i := 9) X (km_0 hO) rfl rfl (by decide) inX8 flX8_87 dX8_nextToken_14 ?_
  refine rx_icmp_ne X dX8_nextToken_17 (fun h17 => ?_) (fun h17 => ?_)
  · refine rx_iconst (v := 0) X dX8_nextToken_24 (by decide) ?_
    refine rx_putI (ci := 8) (i := 12) X (km_0 hO) rfl rfl (by decide) inX8 tyX8 tyX8_ok nmX8 flX8_97 rfl rfl dX8_nextToken_25 ?_
    refine rx_aload_n (i := 0) X dX8_nextToken_28 rfl rfl ?_
    refine rx_iconst (v := 0) X dX8_nextToken_29 (by decide) ?_
    refine rx_putI (ci := 8) (i := 13) X (km_0 hO) rfl rfl (by decide) inX8 tyX8 tyX8_ok nmX8 flX8_100 rfl rfl dX8_nextToken_30 ?_
    exact loop (N - p0) 0 _ rfl (((pz_ok.rf σ).u0 (by decide)).u0 (by decide) |>.u0 (by decide)) (by rw [u0n (by decide), u0n (by decide), u0n (by decide)]; exact hp) (by rw [u0n (by decide), u0n (by decide), u0s]; exact hp) (by rw [u0s]; rfl) (by rw [u0n (by decide), u0s]; first | rw [if_pos (by rw [u0n (by decide), u0n (by decide), hp, hN, nI_eq (by omega) (by omega)] at h17; exact h17)] | rw [if_neg (by rw [u0n (by decide), u0n (by decide), hp, hN, nI_eq (by omega) (by omega)] at h17; exact h17)] | fail "leaf") (by rw [u0n (by decide), u0n (by decide), u0n (by decide)]) (by rw [rx_u_ne (by decide), rx_u_ne (by decide), rx_u_ne (by decide)]) hpN rfl
  · refine rx_iconst (v := 3) X dX8_nextToken_20 (by decide) ?_
    refine rx_goto X dX8_nextToken_21 ?_
    refine rx_putI (ci := 8) (i := 12) X (km_0 hO) rfl rfl (by decide) inX8 tyX8 tyX8_ok nmX8 flX8_97 rfl rfl dX8_nextToken_25 ?_
    refine rx_aload_n (i := 0) X dX8_nextToken_28 rfl rfl ?_
    refine rx_iconst (v := 0) X dX8_nextToken_29 (by decide) ?_
    refine rx_putI (ci := 8) (i := 13) X (km_0 hO) rfl rfl (by decide) inX8 tyX8 tyX8_ok nmX8 flX8_100 rfl rfl dX8_nextToken_30 ?_
    exact loop (N - p0) 0 _ rfl (((pz_ok.rf σ).u0 (by decide)).u0 (by decide) |>.u0 (by decide)) (by rw [u0n (by decide), u0n (by decide), u0n (by decide)]; exact hp) (by rw [u0n (by decide), u0n (by decide), u0s]; exact hp) (by rw [u0s]; rfl) (by rw [u0n (by decide), u0s]; first | rw [if_pos (by rw [u0n (by decide), u0n (by decide), hp, hN, nI_eq (by omega) (by omega)] at h17; exact h17)] | rw [if_neg (by rw [u0n (by decide), u0n (by decide), hp, hN, nI_eq (by omega) (by omega)] at h17; exact h17)] | fail "leaf") (by rw [u0n (by decide), u0n (by decide), u0n (by decide)]) (by rw [rx_u_ne (by decide), rx_u_ne (by decide), rx_u_ne (by decide)]) hpN rfl
