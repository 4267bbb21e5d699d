/-- the class's asks: what has been traced since ρ -/
def ck (ρ τ : rx_S) (bs : List Int32) : Prop := (∀ k, k ≠ 255 → k ≠ 256 → τ.1 k = ρ.1 k) ∧ τ.2 = ρ.2 ∧ (∀ j, j ≠ 1 → τ.1 255 j = ρ.1 255 j) ∧ τ.1 255 1 = nI bs.length ∧ τ.1 256 = tr_f (ρ.1 256) bs
theorem ck.c {ρ τ : rx_S} {bs cs : List Int32} (h : ck ρ τ bs) (e : bs = cs) : ck ρ τ cs := e ▸ h
set_option maxHeartbeats 1000000 in
set_option maxRecDepth 100000 in
theorem kX2_leave {l : Launch} {O : rx_O} (hO : cb_O O) {σ : rx_S} {ρ : rx_S} {bs : List Int32} {b : Int32} (h : ck ρ σ bs) (hb : bs.length < 16) : rx_MV l O yX2_leave cX2_leave 2 none 0 [.ref 255, .int b] σ (fun τ => ck ρ τ (bs ++ [b])) := by
  refine rx_Met_of (own := RX2) rfl hO.2.1 vsX2_leave.2.2.2.2.2 (Nat.le_of_ble_eq_true rfl) rfl (fun p e s m args below meth c X => ?_)
  refine rx_aload_n (i := 0) X dX2_leave_0 rfl rfl ?_
  refine rx_getI (ci := 2) (i := 1) X (kc_255 hO) rfl rfl (by decide) inX2 flX2_47 dX2_leave_1 ?_
  refine rx_top h.2.2.2.1 ?_
  refine rx_bipush (v := 16) X dX2_leave_4 (by decide) ?_
  refine rx_icmp_ge_f X dX2_leave_6 (nI_ge (b := 16) hb (by decide)) ?_
  refine rx_aload_n (i := 0) X dX2_leave_9 rfl rfl ?_
  refine rx_getR (ci := 2) (i := 0) X (kc_255 hO) rfl rfl (by decide) inX2 flX2_9 dX2_leave_10 ?_
  refine rx_aload_n (i := 0) X dX2_leave_13 rfl rfl ?_
  refine rx_getI (ci := 2) (i := 1) X (kc_255 hO) rfl rfl (by decide) inX2 flX2_47 dX2_leave_14 ?_
  refine rx_top h.2.2.2.1 ?_
  refine rx_iload_n (i := 1) X dX2_leave_17 rfl rfl ?_
  refine rx_iastN (j := bs.length) X (kc_256 hO) hO.2.2.1 rfl hb (by decide) dX2_leave_18 ?_
  refine rx_aload_n (i := 0) X dX2_leave_19 rfl rfl ?_
  refine rx_dup X dX2_leave_20 rfl ?_
  refine rx_getI (ci := 2) (i := 1) X (kc_255 hO) rfl rfl (by decide) inX2 flX2_47 dX2_leave_21 ?_
  refine rx_top (show _ = nI bs.length by rw [rx_u_ne (by decide)]; exact h.2.2.2.1) ?_
  refine rx_iconst (v := 1) X dX2_leave_24 (by decide) ?_
  refine rx_iadd X dX2_leave_25 ?_
  refine rx_putI (ci := 2) (i := 1) X (kc_255 hO) rfl rfl (by decide) inX2 tyX2 tyX2_ok nmX2 flX2_47 rfl rfl dX2_leave_26 ?_
  refine rx_vret X dX2_leave_29 ?_
  refine ⟨fun k a b => by rw [rx_u_ne a, rx_u_ne b]; exact h.1 k a b, h.2.1, fun j hj => by rw [rx_u_s, upd_n hj, rx_u_ne (by decide)]; exact h.2.2.1 j hj, ?_, by rw [rx_u_ne (by decide), rx_u_s, h.2.2.2.2, tr_f_s]⟩
  rw [rx_u_s, upd_s, List.length_append]
  exact nI_1 _
set_option maxHeartbeats 1000000 in
set_option maxRecDepth 100000 in
theorem kX2_b10 {l : Launch} {O : rx_O} (hO : cb_O O) {σ : rx_S} {ρ : rx_S} {bs : List Int32} {d : Nat} (h : ck ρ σ bs) (hb : bs.length + 1 ≤ 16) (hd : d + 1 ≤ 13) : rx_MI l O yX2_begin cX2_begin 3 (some .int) 1 [.ref 255, .int 10, .int (nI d)] σ (fun r τ => r = ρ.1 255 3 ∧ ck ρ τ (bs ++ [10])) := by
  refine rx_Met_of (own := RX2) rfl hO.2.1 vsX2_begin.2.2.2.2.2 (Nat.le_of_ble_eq_true rfl) rfl (fun p e s m args below meth c X => ?_)
  refine rx_iload_n (i := 2) X dX2_begin_0 rfl rfl ?_
  refine rx_bipush (v := 12) X dX2_begin_1 (by decide) ?_
  refine rx_icmp_le_t X dX2_begin_3 (nI_le (b := 12) (by omega) (by decide)) ?_
  refine rx_aload_n (i := 0) X dX2_begin_8 rfl rfl ?_
  refine rx_iload_n (i := 1) X dX2_begin_9 rfl rfl ?_
  refine rx_callVv (ci := 2) X vsX2_leave mlX2_54 (kX2_leave hO h (by omega)) (kc_255 hO) rfl rfl (by decide) (by decide) dX2_begin_10 rfl (Nat.le_of_ble_eq_true rfl) (fun t10 h10 => ?_)
  refine rx_iload_n (i := 1) X dX2_begin_13 rfl rfl ?_
  refine rx_tableIn (tgt := 88) X dX2_begin_14 (by decide) (by decide) rfl rfl ?_
  refine rx_aload_n (i := 0) X dX2_begin_88 rfl rfl ?_
  refine rx_getI (ci := 2) (i := 3) X (kc_255 hO) rfl rfl (by decide) inX2 flX2_22 dX2_begin_89 ?_
  refine rx_top (h10.2.2.1 3 (by decide)) ?_
  refine rx_iret X dX2_begin_92 ?_
  exact ⟨rfl, h10.c (by simp only [List.append_assoc, List.cons_append, List.nil_append])⟩
set_option maxHeartbeats 1000000 in
set_option maxRecDepth 100000 in
theorem kX2_b20 {l : Launch} {O : rx_O} (hO : cb_O O) {σ : rx_S} {ρ : rx_S} {bs : List Int32} {d : Nat} (h : ck ρ σ bs) (hb : bs.length + 1 ≤ 16) (hd : d + 1 ≤ 13) : rx_MI l O yX2_begin cX2_begin 3 (some .int) 1 [.ref 255, .int 20, .int (nI d)] σ (fun r τ => r = ρ.1 255 2 ∧ ck ρ τ (bs ++ [20])) := by
  refine rx_Met_of (own := RX2) rfl hO.2.1 vsX2_begin.2.2.2.2.2 (Nat.le_of_ble_eq_true rfl) rfl (fun p e s m args below meth c X => ?_)
  refine rx_iload_n (i := 2) X dX2_begin_0 rfl rfl ?_
  refine rx_bipush (v := 12) X dX2_begin_1 (by decide) ?_
  refine rx_icmp_le_t X dX2_begin_3 (nI_le (b := 12) (by omega) (by decide)) ?_
  refine rx_aload_n (i := 0) X dX2_begin_8 rfl rfl ?_
  refine rx_iload_n (i := 1) X dX2_begin_9 rfl rfl ?_
  refine rx_callVv (ci := 2) X vsX2_leave mlX2_54 (kX2_leave hO h (by omega)) (kc_255 hO) rfl rfl (by decide) (by decide) dX2_begin_10 rfl (Nat.le_of_ble_eq_true rfl) (fun t10 h10 => ?_)
  refine rx_iload_n (i := 1) X dX2_begin_13 rfl rfl ?_
  refine rx_tableIn (tgt := 151) X dX2_begin_14 (by decide) (by decide) rfl rfl ?_
  refine rx_aload_n (i := 0) X dX2_begin_151 rfl rfl ?_
  refine rx_getI (ci := 2) (i := 2) X (kc_255 hO) rfl rfl (by decide) inX2 flX2_13 dX2_begin_152 ?_
  refine rx_top (h10.2.2.1 2 (by decide)) ?_
  refine rx_iret X dX2_begin_155 ?_
  exact ⟨rfl, h10.c (by simp only [List.append_assoc, List.cons_append, List.nil_append])⟩
set_option maxHeartbeats 1000000 in
set_option maxRecDepth 100000 in
theorem kX2_b13 {l : Launch} {O : rx_O} (hO : cb_O O) {σ : rx_S} {ρ : rx_S} {bs : List Int32} {d : Nat} (h : ck ρ σ bs) (hb : bs.length + 2 ≤ 16) (hd : d + 2 ≤ 13) : rx_MI l O yX2_begin cX2_begin 3 (some .int) 2 [.ref 255, .int 13, .int (nI d)] σ (fun r τ => r = (ρ.1 255 3 - 100) ∧ ck ρ τ (bs ++ [13, 10])) := by
  refine rx_Met_of (own := RX2) rfl hO.2.1 vsX2_begin.2.2.2.2.2 (Nat.le_of_ble_eq_true rfl) rfl (fun p e s m args below meth c X => ?_)
  refine rx_iload_n (i := 2) X dX2_begin_0 rfl rfl ?_
  refine rx_bipush (v := 12) X dX2_begin_1 (by decide) ?_
  refine rx_icmp_le_t X dX2_begin_3 (nI_le (b := 12) (by omega) (by decide)) ?_
  refine rx_aload_n (i := 0) X dX2_begin_8 rfl rfl ?_
  refine rx_iload_n (i := 1) X dX2_begin_9 rfl rfl ?_
  refine rx_callVv (ci := 2) X vsX2_leave mlX2_54 (kX2_leave hO h (by omega)) (kc_255 hO) rfl rfl (by decide) (by decide) dX2_begin_10 rfl (Nat.le_of_ble_eq_true rfl) (fun t10 h10 => ?_)
  refine rx_iload_n (i := 1) X dX2_begin_13 rfl rfl ?_
  refine rx_tableIn (tgt := 126) X dX2_begin_14 (by decide) (by decide) rfl rfl ?_
  refine rx_aload_n (i := 0) X dX2_begin_126 rfl rfl ?_
  refine rx_bipush (v := 10) X dX2_begin_127 (by decide) ?_
  refine rx_iload_n (i := 2) X dX2_begin_129 rfl rfl ?_
  refine rx_iconst (v := 1) X dX2_begin_130 (by decide) ?_
  refine rx_iadd X dX2_begin_131 ?_
  refine rx_top (nI_1 d) ?_
  refine rx_callVi (ci := 2) X vsX2_begin mlX2_50 (kX2_b10 hO h10 (by simp only [List.length_append, List.length_cons, List.length_nil]; omega) (by omega)) (kc_255 hO) rfl rfl (by decide) (by decide) dX2_begin_132 rfl (Nat.le_of_ble_eq_true rfl) (fun r132 t132 h132 => ?_)
  obtain ⟨rfl, h132⟩ := h132
  refine rx_bipush (v := 100) X dX2_begin_135 (by decide) ?_
  refine rx_isub X dX2_begin_137 ?_
  refine rx_iret X dX2_begin_138 ?_
  exact ⟨rfl, h132.c (by simp only [List.append_assoc, List.cons_append, List.nil_append])⟩
set_option maxHeartbeats 1000000 in
set_option maxRecDepth 100000 in
theorem kX2_b21 {l : Launch} {O : rx_O} (hO : cb_O O) {σ : rx_S} {ρ : rx_S} {bs : List Int32} {d : Nat} (h : ck ρ σ bs) (hb : bs.length + 2 ≤ 16) (hd : d + 2 ≤ 13) : rx_MI l O yX2_begin cX2_begin 3 (some .int) 2 [.ref 255, .int 21, .int (nI d)] σ (fun r τ => r = (ρ.1 255 2 + ρ.1 255 4) ∧ ck ρ τ (bs ++ [21, 20])) := by
  refine rx_Met_of (own := RX2) rfl hO.2.1 vsX2_begin.2.2.2.2.2 (Nat.le_of_ble_eq_true rfl) rfl (fun p e s m args below meth c X => ?_)
  refine rx_iload_n (i := 2) X dX2_begin_0 rfl rfl ?_
  refine rx_bipush (v := 12) X dX2_begin_1 (by decide) ?_
  refine rx_icmp_le_t X dX2_begin_3 (nI_le (b := 12) (by omega) (by decide)) ?_
  refine rx_aload_n (i := 0) X dX2_begin_8 rfl rfl ?_
  refine rx_iload_n (i := 1) X dX2_begin_9 rfl rfl ?_
  refine rx_callVv (ci := 2) X vsX2_leave mlX2_54 (kX2_leave hO h (by omega)) (kc_255 hO) rfl rfl (by decide) (by decide) dX2_begin_10 rfl (Nat.le_of_ble_eq_true rfl) (fun t10 h10 => ?_)
  refine rx_iload_n (i := 1) X dX2_begin_13 rfl rfl ?_
  refine rx_tableIn (tgt := 156) X dX2_begin_14 (by decide) (by decide) rfl rfl ?_
  refine rx_aload_n (i := 0) X dX2_begin_156 rfl rfl ?_
  refine rx_bipush (v := 20) X dX2_begin_157 (by decide) ?_
  refine rx_iload_n (i := 2) X dX2_begin_159 rfl rfl ?_
  refine rx_iconst (v := 1) X dX2_begin_160 (by decide) ?_
  refine rx_iadd X dX2_begin_161 ?_
  refine rx_top (nI_1 d) ?_
  refine rx_callVi (ci := 2) X vsX2_begin mlX2_50 (kX2_b20 hO h10 (by simp only [List.length_append, List.length_cons, List.length_nil]; omega) (by omega)) (kc_255 hO) rfl rfl (by decide) (by decide) dX2_begin_162 rfl (Nat.le_of_ble_eq_true rfl) (fun r162 t162 h162 => ?_)
  obtain ⟨rfl, h162⟩ := h162
  refine rx_aload_n (i := 0) X dX2_begin_165 rfl rfl ?_
  refine rx_getI (ci := 2) (i := 4) X (kc_255 hO) rfl rfl (by decide) inX2 flX2_29 dX2_begin_166 ?_
  refine rx_top (h162.2.2.1 4 (by decide)) ?_
  refine rx_iadd X dX2_begin_169 ?_
  refine rx_iret X dX2_begin_170 ?_
  exact ⟨rfl, h162.c (by simp only [List.append_assoc, List.cons_append, List.nil_append])⟩
set_option maxHeartbeats 1000000 in
set_option maxRecDepth 100000 in
theorem kX2_b14 {l : Launch} {O : rx_O} (hO : cb_O O) {σ : rx_S} {ρ : rx_S} {bs : List Int32} {d : Nat} (h : ck ρ σ bs) (hb : bs.length + 3 ≤ 16) (hd : d + 3 ≤ 13) : rx_MI l O yX2_begin cX2_begin 3 (some .int) 3 [.ref 255, .int 14, .int (nI d)] σ (fun r τ => r = ((ρ.1 255 3 - 100) * 2) ∧ ck ρ τ (bs ++ [14, 13, 10])) := by
  refine rx_Met_of (own := RX2) rfl hO.2.1 vsX2_begin.2.2.2.2.2 (Nat.le_of_ble_eq_true rfl) rfl (fun p e s m args below meth c X => ?_)
  refine rx_iload_n (i := 2) X dX2_begin_0 rfl rfl ?_
  refine rx_bipush (v := 12) X dX2_begin_1 (by decide) ?_
  refine rx_icmp_le_t X dX2_begin_3 (nI_le (b := 12) (by omega) (by decide)) ?_
  refine rx_aload_n (i := 0) X dX2_begin_8 rfl rfl ?_
  refine rx_iload_n (i := 1) X dX2_begin_9 rfl rfl ?_
  refine rx_callVv (ci := 2) X vsX2_leave mlX2_54 (kX2_leave hO h (by omega)) (kc_255 hO) rfl rfl (by decide) (by decide) dX2_begin_10 rfl (Nat.le_of_ble_eq_true rfl) (fun t10 h10 => ?_)
  refine rx_iload_n (i := 1) X dX2_begin_13 rfl rfl ?_
  refine rx_tableIn (tgt := 139) X dX2_begin_14 (by decide) (by decide) rfl rfl ?_
  refine rx_aload_n (i := 0) X dX2_begin_139 rfl rfl ?_
  refine rx_bipush (v := 13) X dX2_begin_140 (by decide) ?_
  refine rx_iload_n (i := 2) X dX2_begin_142 rfl rfl ?_
  refine rx_iconst (v := 1) X dX2_begin_143 (by decide) ?_
  refine rx_iadd X dX2_begin_144 ?_
  refine rx_top (nI_1 d) ?_
  refine rx_callVi (ci := 2) X vsX2_begin mlX2_50 (kX2_b13 hO h10 (by simp only [List.length_append, List.length_cons, List.length_nil]; omega) (by omega)) (kc_255 hO) rfl rfl (by decide) (by decide) dX2_begin_145 rfl (Nat.le_of_ble_eq_true rfl) (fun r145 t145 h145 => ?_)
  obtain ⟨rfl, h145⟩ := h145
  refine rx_iconst (v := 2) X dX2_begin_148 (by decide) ?_
  refine rx_imul X dX2_begin_149 ?_
  refine rx_iret X dX2_begin_150 ?_
  exact ⟨rfl, h145.c (by simp only [List.append_assoc, List.cons_append, List.nil_append])⟩
set_option maxHeartbeats 1000000 in
set_option maxRecDepth 100000 in
theorem kX2_b22 {l : Launch} {O : rx_O} (hO : cb_O O) {σ : rx_S} {ρ : rx_S} {bs : List Int32} {d : Nat} (h : ck ρ σ bs) (hb : bs.length + 3 ≤ 16) (hd : d + 3 ≤ 13) : rx_MI l O yX2_begin cX2_begin 3 (some .int) 3 [.ref 255, .int 22, .int (nI d)] σ (fun r τ => r = ((ρ.1 255 2 + ρ.1 255 4) - 1000) ∧ ck ρ τ (bs ++ [22, 21, 20])) := by
  refine rx_Met_of (own := RX2) rfl hO.2.1 vsX2_begin.2.2.2.2.2 (Nat.le_of_ble_eq_true rfl) rfl (fun p e s m args below meth c X => ?_)
  refine rx_iload_n (i := 2) X dX2_begin_0 rfl rfl ?_
  refine rx_bipush (v := 12) X dX2_begin_1 (by decide) ?_
  refine rx_icmp_le_t X dX2_begin_3 (nI_le (b := 12) (by omega) (by decide)) ?_
  refine rx_aload_n (i := 0) X dX2_begin_8 rfl rfl ?_
  refine rx_iload_n (i := 1) X dX2_begin_9 rfl rfl ?_
  refine rx_callVv (ci := 2) X vsX2_leave mlX2_54 (kX2_leave hO h (by omega)) (kc_255 hO) rfl rfl (by decide) (by decide) dX2_begin_10 rfl (Nat.le_of_ble_eq_true rfl) (fun t10 h10 => ?_)
  refine rx_iload_n (i := 1) X dX2_begin_13 rfl rfl ?_
  refine rx_tableIn (tgt := 171) X dX2_begin_14 (by decide) (by decide) rfl rfl ?_
  refine rx_aload_n (i := 0) X dX2_begin_171 rfl rfl ?_
  refine rx_bipush (v := 21) X dX2_begin_172 (by decide) ?_
  refine rx_iload_n (i := 2) X dX2_begin_174 rfl rfl ?_
  refine rx_iconst (v := 1) X dX2_begin_175 (by decide) ?_
  refine rx_iadd X dX2_begin_176 ?_
  refine rx_top (nI_1 d) ?_
  refine rx_callVi (ci := 2) X vsX2_begin mlX2_50 (kX2_b21 hO h10 (by simp only [List.length_append, List.length_cons, List.length_nil]; omega) (by omega)) (kc_255 hO) rfl rfl (by decide) (by decide) dX2_begin_177 rfl (Nat.le_of_ble_eq_true rfl) (fun r177 t177 h177 => ?_)
  obtain ⟨rfl, h177⟩ := h177
  refine rx_sipush (v := 1000) X dX2_begin_180 (by decide) ?_
  refine rx_isub X dX2_begin_183 ?_
  refine rx_iret X dX2_begin_184 ?_
  exact ⟨rfl, h177.c (by simp only [List.append_assoc, List.cons_append, List.nil_append])⟩
set_option maxHeartbeats 1000000 in
set_option maxRecDepth 100000 in
theorem kX2_b24 {l : Launch} {O : rx_O} (hO : cb_O O) {σ : rx_S} {ρ : rx_S} {bs : List Int32} {d : Nat} (h : ck ρ σ bs) (hb : bs.length + 3 ≤ 16) (hd : d + 3 ≤ 13) : rx_MI l O yX2_begin cX2_begin 3 (some .int) 3 [.ref 255, .int 24, .int (nI d)] σ (fun r τ => r = ((ρ.1 255 2 + ρ.1 255 4) * 2) ∧ ck ρ τ (bs ++ [24, 21, 20])) := by
  refine rx_Met_of (own := RX2) rfl hO.2.1 vsX2_begin.2.2.2.2.2 (Nat.le_of_ble_eq_true rfl) rfl (fun p e s m args below meth c X => ?_)
  refine rx_iload_n (i := 2) X dX2_begin_0 rfl rfl ?_
  refine rx_bipush (v := 12) X dX2_begin_1 (by decide) ?_
  refine rx_icmp_le_t X dX2_begin_3 (nI_le (b := 12) (by omega) (by decide)) ?_
  refine rx_aload_n (i := 0) X dX2_begin_8 rfl rfl ?_
  refine rx_iload_n (i := 1) X dX2_begin_9 rfl rfl ?_
  refine rx_callVv (ci := 2) X vsX2_leave mlX2_54 (kX2_leave hO h (by omega)) (kc_255 hO) rfl rfl (by decide) (by decide) dX2_begin_10 rfl (Nat.le_of_ble_eq_true rfl) (fun t10 h10 => ?_)
  refine rx_iload_n (i := 1) X dX2_begin_13 rfl rfl ?_
  refine rx_tableIn (tgt := 207) X dX2_begin_14 (by decide) (by decide) rfl rfl ?_
  refine rx_aload_n (i := 0) X dX2_begin_207 rfl rfl ?_
  refine rx_bipush (v := 21) X dX2_begin_208 (by decide) ?_
  refine rx_iload_n (i := 2) X dX2_begin_210 rfl rfl ?_
  refine rx_iconst (v := 1) X dX2_begin_211 (by decide) ?_
  refine rx_iadd X dX2_begin_212 ?_
  refine rx_top (nI_1 d) ?_
  refine rx_callVi (ci := 2) X vsX2_begin mlX2_50 (kX2_b21 hO h10 (by simp only [List.length_append, List.length_cons, List.length_nil]; omega) (by omega)) (kc_255 hO) rfl rfl (by decide) (by decide) dX2_begin_213 rfl (Nat.le_of_ble_eq_true rfl) (fun r213 t213 h213 => ?_)
  obtain ⟨rfl, h213⟩ := h213
  refine rx_iconst (v := 2) X dX2_begin_216 (by decide) ?_
  refine rx_imul X dX2_begin_217 ?_
  refine rx_iret X dX2_begin_218 ?_
  exact ⟨rfl, h213.c (by simp only [List.append_assoc, List.cons_append, List.nil_append])⟩
set_option maxHeartbeats 1000000 in
set_option maxRecDepth 100000 in
theorem kX2_b23_13 {l : Launch} {O : rx_O} (hO : cb_O O) {σ : rx_S} {ρ : rx_S} {bs : List Int32} {d : Nat} (h : ck ρ σ bs) (hb : bs.length + 4 ≤ 16) (hd : d + 3 ≤ 13) (hsb : ρ.1 255 5 = 13) : rx_MI l O yX2_begin cX2_begin 3 (some .int) 3 [.ref 255, .int 23, .int (nI d)] σ (fun r τ => r = (ρ.1 255 2 - (ρ.1 255 3 - 100)) ∧ ck ρ τ (bs ++ [23, 20, 13, 10])) := by
  refine rx_Met_of (own := RX2) rfl hO.2.1 vsX2_begin.2.2.2.2.2 (Nat.le_of_ble_eq_true rfl) rfl (fun p e s m args below meth c X => ?_)
  refine rx_iload_n (i := 2) X dX2_begin_0 rfl rfl ?_
  refine rx_bipush (v := 12) X dX2_begin_1 (by decide) ?_
  refine rx_icmp_le_t X dX2_begin_3 (nI_le (b := 12) (by omega) (by decide)) ?_
  refine rx_aload_n (i := 0) X dX2_begin_8 rfl rfl ?_
  refine rx_iload_n (i := 1) X dX2_begin_9 rfl rfl ?_
  refine rx_callVv (ci := 2) X vsX2_leave mlX2_54 (kX2_leave hO h (by omega)) (kc_255 hO) rfl rfl (by decide) (by decide) dX2_begin_10 rfl (Nat.le_of_ble_eq_true rfl) (fun t10 h10 => ?_)
  refine rx_iload_n (i := 1) X dX2_begin_13 rfl rfl ?_
  refine rx_tableIn (tgt := 185) X dX2_begin_14 (by decide) (by decide) rfl rfl ?_
  refine rx_aload_n (i := 0) X dX2_begin_185 rfl rfl ?_
  refine rx_bipush (v := 20) X dX2_begin_186 (by decide) ?_
  refine rx_iload_n (i := 2) X dX2_begin_188 rfl rfl ?_
  refine rx_iconst (v := 1) X dX2_begin_189 (by decide) ?_
  refine rx_iadd X dX2_begin_190 ?_
  refine rx_top (nI_1 d) ?_
  refine rx_callVi (ci := 2) X vsX2_begin mlX2_50 (kX2_b20 hO h10 (by simp only [List.length_append, List.length_cons, List.length_nil]; omega) (by omega)) (kc_255 hO) rfl rfl (by decide) (by decide) dX2_begin_191 rfl (Nat.le_of_ble_eq_true rfl) (fun r191 t191 h191 => ?_)
  obtain ⟨rfl, h191⟩ := h191
  refine rx_aload_n (i := 0) X dX2_begin_194 rfl rfl ?_
  refine rx_aload_n (i := 0) X dX2_begin_195 rfl rfl ?_
  refine rx_getI (ci := 2) (i := 5) X (kc_255 hO) rfl rfl (by decide) inX2 flX2_38 dX2_begin_196 ?_
  refine rx_top ((h191.2.2.1 5 (by decide)).trans hsb) ?_
  refine rx_iload_n (i := 2) X dX2_begin_199 rfl rfl ?_
  refine rx_iconst (v := 1) X dX2_begin_200 (by decide) ?_
  refine rx_iadd X dX2_begin_201 ?_
  refine rx_top (nI_1 d) ?_
  refine rx_callVi (ci := 2) X vsX2_begin mlX2_50 (kX2_b13 hO h191 (by simp only [List.length_append, List.length_cons, List.length_nil]; omega) (by omega)) (kc_255 hO) rfl rfl (by decide) (by decide) dX2_begin_202 rfl (Nat.le_of_ble_eq_true rfl) (fun r202 t202 h202 => ?_)
  obtain ⟨rfl, h202⟩ := h202
  refine rx_isub X dX2_begin_205 ?_
  refine rx_iret X dX2_begin_206 ?_
  exact ⟨rfl, h202.c (by simp only [List.append_assoc, List.cons_append, List.nil_append])⟩
set_option maxHeartbeats 1000000 in
set_option maxRecDepth 100000 in
theorem kX2_b23_14 {l : Launch} {O : rx_O} (hO : cb_O O) {σ : rx_S} {ρ : rx_S} {bs : List Int32} {d : Nat} (h : ck ρ σ bs) (hb : bs.length + 5 ≤ 16) (hd : d + 4 ≤ 13) (hsb : ρ.1 255 5 = 14) : rx_MI l O yX2_begin cX2_begin 3 (some .int) 4 [.ref 255, .int 23, .int (nI d)] σ (fun r τ => r = (ρ.1 255 2 - ((ρ.1 255 3 - 100) * 2)) ∧ ck ρ τ (bs ++ [23, 20, 14, 13, 10])) := by
  refine rx_Met_of (own := RX2) rfl hO.2.1 vsX2_begin.2.2.2.2.2 (Nat.le_of_ble_eq_true rfl) rfl (fun p e s m args below meth c X => ?_)
  refine rx_iload_n (i := 2) X dX2_begin_0 rfl rfl ?_
  refine rx_bipush (v := 12) X dX2_begin_1 (by decide) ?_
  refine rx_icmp_le_t X dX2_begin_3 (nI_le (b := 12) (by omega) (by decide)) ?_
  refine rx_aload_n (i := 0) X dX2_begin_8 rfl rfl ?_
  refine rx_iload_n (i := 1) X dX2_begin_9 rfl rfl ?_
  refine rx_callVv (ci := 2) X vsX2_leave mlX2_54 (kX2_leave hO h (by omega)) (kc_255 hO) rfl rfl (by decide) (by decide) dX2_begin_10 rfl (Nat.le_of_ble_eq_true rfl) (fun t10 h10 => ?_)
  refine rx_iload_n (i := 1) X dX2_begin_13 rfl rfl ?_
  refine rx_tableIn (tgt := 185) X dX2_begin_14 (by decide) (by decide) rfl rfl ?_
  refine rx_aload_n (i := 0) X dX2_begin_185 rfl rfl ?_
  refine rx_bipush (v := 20) X dX2_begin_186 (by decide) ?_
  refine rx_iload_n (i := 2) X dX2_begin_188 rfl rfl ?_
  refine rx_iconst (v := 1) X dX2_begin_189 (by decide) ?_
  refine rx_iadd X dX2_begin_190 ?_
  refine rx_top (nI_1 d) ?_
  refine rx_callVi (ci := 2) X vsX2_begin mlX2_50 (kX2_b20 hO h10 (by simp only [List.length_append, List.length_cons, List.length_nil]; omega) (by omega)) (kc_255 hO) rfl rfl (by decide) (by decide) dX2_begin_191 rfl (Nat.le_of_ble_eq_true rfl) (fun r191 t191 h191 => ?_)
  obtain ⟨rfl, h191⟩ := h191
  refine rx_aload_n (i := 0) X dX2_begin_194 rfl rfl ?_
  refine rx_aload_n (i := 0) X dX2_begin_195 rfl rfl ?_
  refine rx_getI (ci := 2) (i := 5) X (kc_255 hO) rfl rfl (by decide) inX2 flX2_38 dX2_begin_196 ?_
  refine rx_top ((h191.2.2.1 5 (by decide)).trans hsb) ?_
  refine rx_iload_n (i := 2) X dX2_begin_199 rfl rfl ?_
  refine rx_iconst (v := 1) X dX2_begin_200 (by decide) ?_
  refine rx_iadd X dX2_begin_201 ?_
  refine rx_top (nI_1 d) ?_
  refine rx_callVi (ci := 2) X vsX2_begin mlX2_50 (kX2_b14 hO h191 (by simp only [List.length_append, List.length_cons, List.length_nil]; omega) (by omega)) (kc_255 hO) rfl rfl (by decide) (by decide) dX2_begin_202 rfl (Nat.le_of_ble_eq_true rfl) (fun r202 t202 h202 => ?_)
  obtain ⟨rfl, h202⟩ := h202
  refine rx_isub X dX2_begin_205 ?_
  refine rx_iret X dX2_begin_206 ?_
  exact ⟨rfl, h202.c (by simp only [List.append_assoc, List.cons_append, List.nil_append])⟩
set_option maxHeartbeats 1000000 in
set_option maxRecDepth 100000 in
theorem kX2_b11_21 {l : Launch} {O : rx_O} (hO : cb_O O) {σ : rx_S} {ρ : rx_S} {bs : List Int32} {d : Nat} (h : ck ρ σ bs) (hb : bs.length + 4 ≤ 16) (hd : d + 3 ≤ 13) (hmb : ρ.1 255 6 = 21) : rx_MI l O yX2_begin cX2_begin 3 (some .int) 3 [.ref 255, .int 11, .int (nI d)] σ (fun r τ => r = (ρ.1 255 3 + (ρ.1 255 2 + ρ.1 255 4)) ∧ ck ρ τ (bs ++ [11, 10, 21, 20])) := by
  refine rx_Met_of (own := RX2) rfl hO.2.1 vsX2_begin.2.2.2.2.2 (Nat.le_of_ble_eq_true rfl) rfl (fun p e s m args below meth c X => ?_)
  refine rx_iload_n (i := 2) X dX2_begin_0 rfl rfl ?_
  refine rx_bipush (v := 12) X dX2_begin_1 (by decide) ?_
  refine rx_icmp_le_t X dX2_begin_3 (nI_le (b := 12) (by omega) (by decide)) ?_
  refine rx_aload_n (i := 0) X dX2_begin_8 rfl rfl ?_
  refine rx_iload_n (i := 1) X dX2_begin_9 rfl rfl ?_
  refine rx_callVv (ci := 2) X vsX2_leave mlX2_54 (kX2_leave hO h (by omega)) (kc_255 hO) rfl rfl (by decide) (by decide) dX2_begin_10 rfl (Nat.le_of_ble_eq_true rfl) (fun t10 h10 => ?_)
  refine rx_iload_n (i := 1) X dX2_begin_13 rfl rfl ?_
  refine rx_tableIn (tgt := 93) X dX2_begin_14 (by decide) (by decide) rfl rfl ?_
  refine rx_aload_n (i := 0) X dX2_begin_93 rfl rfl ?_
  refine rx_bipush (v := 10) X dX2_begin_94 (by decide) ?_
  refine rx_iload_n (i := 2) X dX2_begin_96 rfl rfl ?_
  refine rx_iconst (v := 1) X dX2_begin_97 (by decide) ?_
  refine rx_iadd X dX2_begin_98 ?_
  refine rx_top (nI_1 d) ?_
  refine rx_callVi (ci := 2) X vsX2_begin mlX2_50 (kX2_b10 hO h10 (by simp only [List.length_append, List.length_cons, List.length_nil]; omega) (by omega)) (kc_255 hO) rfl rfl (by decide) (by decide) dX2_begin_99 rfl (Nat.le_of_ble_eq_true rfl) (fun r99 t99 h99 => ?_)
  obtain ⟨rfl, h99⟩ := h99
  refine rx_aload_n (i := 0) X dX2_begin_102 rfl rfl ?_
  refine rx_aload_n (i := 0) X dX2_begin_103 rfl rfl ?_
  refine rx_getI (ci := 2) (i := 6) X (kc_255 hO) rfl rfl (by decide) inX2 flX2_44 dX2_begin_104 ?_
  refine rx_top ((h99.2.2.1 6 (by decide)).trans hmb) ?_
  refine rx_iload_n (i := 2) X dX2_begin_107 rfl rfl ?_
  refine rx_iconst (v := 1) X dX2_begin_108 (by decide) ?_
  refine rx_iadd X dX2_begin_109 ?_
  refine rx_top (nI_1 d) ?_
  refine rx_callVi (ci := 2) X vsX2_begin mlX2_50 (kX2_b21 hO h99 (by simp only [List.length_append, List.length_cons, List.length_nil]; omega) (by omega)) (kc_255 hO) rfl rfl (by decide) (by decide) dX2_begin_110 rfl (Nat.le_of_ble_eq_true rfl) (fun r110 t110 h110 => ?_)
  obtain ⟨rfl, h110⟩ := h110
  refine rx_iadd X dX2_begin_113 ?_
  refine rx_iret X dX2_begin_114 ?_
  exact ⟨rfl, h110.c (by simp only [List.append_assoc, List.cons_append, List.nil_append])⟩
set_option maxHeartbeats 1000000 in
set_option maxRecDepth 100000 in
theorem kX2_b11_24 {l : Launch} {O : rx_O} (hO : cb_O O) {σ : rx_S} {ρ : rx_S} {bs : List Int32} {d : Nat} (h : ck ρ σ bs) (hb : bs.length + 5 ≤ 16) (hd : d + 4 ≤ 13) (hmb : ρ.1 255 6 = 24) : rx_MI l O yX2_begin cX2_begin 3 (some .int) 4 [.ref 255, .int 11, .int (nI d)] σ (fun r τ => r = (ρ.1 255 3 + ((ρ.1 255 2 + ρ.1 255 4) * 2)) ∧ ck ρ τ (bs ++ [11, 10, 24, 21, 20])) := by
  refine rx_Met_of (own := RX2) rfl hO.2.1 vsX2_begin.2.2.2.2.2 (Nat.le_of_ble_eq_true rfl) rfl (fun p e s m args below meth c X => ?_)
  refine rx_iload_n (i := 2) X dX2_begin_0 rfl rfl ?_
  refine rx_bipush (v := 12) X dX2_begin_1 (by decide) ?_
  refine rx_icmp_le_t X dX2_begin_3 (nI_le (b := 12) (by omega) (by decide)) ?_
  refine rx_aload_n (i := 0) X dX2_begin_8 rfl rfl ?_
  refine rx_iload_n (i := 1) X dX2_begin_9 rfl rfl ?_
  refine rx_callVv (ci := 2) X vsX2_leave mlX2_54 (kX2_leave hO h (by omega)) (kc_255 hO) rfl rfl (by decide) (by decide) dX2_begin_10 rfl (Nat.le_of_ble_eq_true rfl) (fun t10 h10 => ?_)
  refine rx_iload_n (i := 1) X dX2_begin_13 rfl rfl ?_
  refine rx_tableIn (tgt := 93) X dX2_begin_14 (by decide) (by decide) rfl rfl ?_
  refine rx_aload_n (i := 0) X dX2_begin_93 rfl rfl ?_
  refine rx_bipush (v := 10) X dX2_begin_94 (by decide) ?_
  refine rx_iload_n (i := 2) X dX2_begin_96 rfl rfl ?_
  refine rx_iconst (v := 1) X dX2_begin_97 (by decide) ?_
  refine rx_iadd X dX2_begin_98 ?_
  refine rx_top (nI_1 d) ?_
  refine rx_callVi (ci := 2) X vsX2_begin mlX2_50 (kX2_b10 hO h10 (by simp only [List.length_append, List.length_cons, List.length_nil]; omega) (by omega)) (kc_255 hO) rfl rfl (by decide) (by decide) dX2_begin_99 rfl (Nat.le_of_ble_eq_true rfl) (fun r99 t99 h99 => ?_)
  obtain ⟨rfl, h99⟩ := h99
  refine rx_aload_n (i := 0) X dX2_begin_102 rfl rfl ?_
  refine rx_aload_n (i := 0) X dX2_begin_103 rfl rfl ?_
  refine rx_getI (ci := 2) (i := 6) X (kc_255 hO) rfl rfl (by decide) inX2 flX2_44 dX2_begin_104 ?_
  refine rx_top ((h99.2.2.1 6 (by decide)).trans hmb) ?_
  refine rx_iload_n (i := 2) X dX2_begin_107 rfl rfl ?_
  refine rx_iconst (v := 1) X dX2_begin_108 (by decide) ?_
  refine rx_iadd X dX2_begin_109 ?_
  refine rx_top (nI_1 d) ?_
  refine rx_callVi (ci := 2) X vsX2_begin mlX2_50 (kX2_b24 hO h99 (by simp only [List.length_append, List.length_cons, List.length_nil]; omega) (by omega)) (kc_255 hO) rfl rfl (by decide) (by decide) dX2_begin_110 rfl (Nat.le_of_ble_eq_true rfl) (fun r110 t110 h110 => ?_)
  obtain ⟨rfl, h110⟩ := h110
  refine rx_iadd X dX2_begin_113 ?_
  refine rx_iret X dX2_begin_114 ?_
  exact ⟨rfl, h110.c (by simp only [List.append_assoc, List.cons_append, List.nil_append])⟩
set_option maxHeartbeats 1000000 in
set_option maxRecDepth 100000 in
theorem kX2_b11_22 {l : Launch} {O : rx_O} (hO : cb_O O) {σ : rx_S} {ρ : rx_S} {bs : List Int32} {d : Nat} (h : ck ρ σ bs) (hb : bs.length + 5 ≤ 16) (hd : d + 4 ≤ 13) (hmb : ρ.1 255 6 = 22) : rx_MI l O yX2_begin cX2_begin 3 (some .int) 4 [.ref 255, .int 11, .int (nI d)] σ (fun r τ => r = (ρ.1 255 3 + ((ρ.1 255 2 + ρ.1 255 4) - 1000)) ∧ ck ρ τ (bs ++ [11, 10, 22, 21, 20])) := by
  refine rx_Met_of (own := RX2) rfl hO.2.1 vsX2_begin.2.2.2.2.2 (Nat.le_of_ble_eq_true rfl) rfl (fun p e s m args below meth c X => ?_)
  refine rx_iload_n (i := 2) X dX2_begin_0 rfl rfl ?_
  refine rx_bipush (v := 12) X dX2_begin_1 (by decide) ?_
  refine rx_icmp_le_t X dX2_begin_3 (nI_le (b := 12) (by omega) (by decide)) ?_
  refine rx_aload_n (i := 0) X dX2_begin_8 rfl rfl ?_
  refine rx_iload_n (i := 1) X dX2_begin_9 rfl rfl ?_
  refine rx_callVv (ci := 2) X vsX2_leave mlX2_54 (kX2_leave hO h (by omega)) (kc_255 hO) rfl rfl (by decide) (by decide) dX2_begin_10 rfl (Nat.le_of_ble_eq_true rfl) (fun t10 h10 => ?_)
  refine rx_iload_n (i := 1) X dX2_begin_13 rfl rfl ?_
  refine rx_tableIn (tgt := 93) X dX2_begin_14 (by decide) (by decide) rfl rfl ?_
  refine rx_aload_n (i := 0) X dX2_begin_93 rfl rfl ?_
  refine rx_bipush (v := 10) X dX2_begin_94 (by decide) ?_
  refine rx_iload_n (i := 2) X dX2_begin_96 rfl rfl ?_
  refine rx_iconst (v := 1) X dX2_begin_97 (by decide) ?_
  refine rx_iadd X dX2_begin_98 ?_
  refine rx_top (nI_1 d) ?_
  refine rx_callVi (ci := 2) X vsX2_begin mlX2_50 (kX2_b10 hO h10 (by simp only [List.length_append, List.length_cons, List.length_nil]; omega) (by omega)) (kc_255 hO) rfl rfl (by decide) (by decide) dX2_begin_99 rfl (Nat.le_of_ble_eq_true rfl) (fun r99 t99 h99 => ?_)
  obtain ⟨rfl, h99⟩ := h99
  refine rx_aload_n (i := 0) X dX2_begin_102 rfl rfl ?_
  refine rx_aload_n (i := 0) X dX2_begin_103 rfl rfl ?_
  refine rx_getI (ci := 2) (i := 6) X (kc_255 hO) rfl rfl (by decide) inX2 flX2_44 dX2_begin_104 ?_
  refine rx_top ((h99.2.2.1 6 (by decide)).trans hmb) ?_
  refine rx_iload_n (i := 2) X dX2_begin_107 rfl rfl ?_
  refine rx_iconst (v := 1) X dX2_begin_108 (by decide) ?_
  refine rx_iadd X dX2_begin_109 ?_
  refine rx_top (nI_1 d) ?_
  refine rx_callVi (ci := 2) X vsX2_begin mlX2_50 (kX2_b22 hO h99 (by simp only [List.length_append, List.length_cons, List.length_nil]; omega) (by omega)) (kc_255 hO) rfl rfl (by decide) (by decide) dX2_begin_110 rfl (Nat.le_of_ble_eq_true rfl) (fun r110 t110 h110 => ?_)
  obtain ⟨rfl, h110⟩ := h110
  refine rx_iadd X dX2_begin_113 ?_
  refine rx_iret X dX2_begin_114 ?_
  exact ⟨rfl, h110.c (by simp only [List.append_assoc, List.cons_append, List.nil_append])⟩
set_option maxHeartbeats 1000000 in
set_option maxRecDepth 100000 in
theorem kX2_b12 {l : Launch} {O : rx_O} (hO : cb_O O) {σ : rx_S} {ρ : rx_S} {bs : List Int32} {d : Nat} (h : ck ρ σ bs) (hb : bs.length + 6 ≤ 16) (hd : d + 5 ≤ 13) (hmb : ρ.1 255 6 = 24) : rx_MI l O yX2_begin cX2_begin 3 (some .int) 5 [.ref 255, .int 12, .int (nI d)] σ (fun r τ => r = (-(ρ.1 255 3 + ((ρ.1 255 2 + ρ.1 255 4) * 2))) ∧ ck ρ τ (bs ++ [12, 11, 10, 24, 21, 20])) := by
  refine rx_Met_of (own := RX2) rfl hO.2.1 vsX2_begin.2.2.2.2.2 (Nat.le_of_ble_eq_true rfl) rfl (fun p e s m args below meth c X => ?_)
  refine rx_iload_n (i := 2) X dX2_begin_0 rfl rfl ?_
  refine rx_bipush (v := 12) X dX2_begin_1 (by decide) ?_
  refine rx_icmp_le_t X dX2_begin_3 (nI_le (b := 12) (by omega) (by decide)) ?_
  refine rx_aload_n (i := 0) X dX2_begin_8 rfl rfl ?_
  refine rx_iload_n (i := 1) X dX2_begin_9 rfl rfl ?_
  refine rx_callVv (ci := 2) X vsX2_leave mlX2_54 (kX2_leave hO h (by omega)) (kc_255 hO) rfl rfl (by decide) (by decide) dX2_begin_10 rfl (Nat.le_of_ble_eq_true rfl) (fun t10 h10 => ?_)
  refine rx_iload_n (i := 1) X dX2_begin_13 rfl rfl ?_
  refine rx_tableIn (tgt := 115) X dX2_begin_14 (by decide) (by decide) rfl rfl ?_
  refine rx_aload_n (i := 0) X dX2_begin_115 rfl rfl ?_
  refine rx_bipush (v := 11) X dX2_begin_116 (by decide) ?_
  refine rx_iload_n (i := 2) X dX2_begin_118 rfl rfl ?_
  refine rx_iconst (v := 1) X dX2_begin_119 (by decide) ?_
  refine rx_iadd X dX2_begin_120 ?_
  refine rx_top (nI_1 d) ?_
  refine rx_callVi (ci := 2) X vsX2_begin mlX2_50 (kX2_b11_24 hO h10 (by simp only [List.length_append, List.length_cons, List.length_nil]; omega) (by omega) hmb) (kc_255 hO) rfl rfl (by decide) (by decide) dX2_begin_121 rfl (Nat.le_of_ble_eq_true rfl) (fun r121 t121 h121 => ?_)
  obtain ⟨rfl, h121⟩ := h121
  refine rx_ineg X dX2_begin_124 ?_
  refine rx_iret X dX2_begin_125 ?_
  exact ⟨rfl, h121.c (by simp only [List.append_assoc, List.cons_append, List.nil_append])⟩
theorem flX2_35z : Cond.fieldLink RX2 35 "AntBand$Asks" "SIZE_BODIES" "[I" ∈ rx_tbl := rx_in (i := 800) (by decide +kernel) rfl
theorem flX2_41z : Cond.fieldLink RX2 41 "AntBand$Asks" "MARK_BODIES" "[I" ∈ rx_tbl := rx_in (i := 802) (by decide +kernel) rfl
theorem cb_zS {O : rx_O} (h : cb_O O) : ("AntBand$Asks", "SIZE_BODIES", 278, [10, 11, 12, 11, 13, 14]) ∈ O.2.2.2.2 := by
  rw [h.2.2.2.2.2.2.2]
  exact List.mem_cons_of_mem _ List.mem_cons_self
theorem cb_zM {O : rx_O} (h : cb_O O) : ("AntBand$Asks", "MARK_BODIES", 279, [20, 21, 24, 22, 23, 23]) ∈ O.2.2.2.2 := by
  rw [h.2.2.2.2.2.2.2]
  exact List.mem_cons_of_mem _ (List.mem_cons_of_mem _ List.mem_cons_self)
theorem ck_0 {ρ : rx_S} (h : ρ.1 255 1 = 0) : ck ρ ρ [] := ⟨fun _ _ _ => rfl, rfl, fun _ _ => rfl, h, rfl⟩
section
variable {w : Nat → Int32} {a : Nat}
theorem ak1 (h : w (10 + a) = 1) : ak_sz w a = (w (16 + a) + (nI a + w (34 + a) / 10000), [11, 10, 21, 20]) ∧ ak_mk w a = (nI a + w (34 + a) / 10000, [21, 20]) := by
  unfold ak_sz ak_ps ak_mk ak_sb ak_pm ak_bs
  rw [h]
  exact ⟨rfl, rfl⟩
theorem ak2 (h : w (10 + a) = 2) : ak_sz w a = (-(w (16 + a) + (nI a + w (34 + a) / 10000) * 2), [12, 11, 10, 24, 21, 20]) ∧ ak_mk w a = ((nI a + w (34 + a) / 10000) * 2, [24, 21, 20]) := by
  unfold ak_sz ak_ps ak_mk ak_sb ak_pm ak_bs
  rw [h, Int32.mul_comm _ 2]
  exact ⟨rfl, rfl⟩
theorem ak3 (h : w (10 + a) = 3) : ak_sz w a = (w (16 + a) + (nI a + w (34 + a) / 10000 - 1000), [11, 10, 22, 21, 20]) ∧ ak_mk w a = (nI a + w (34 + a) / 10000 - 1000, [22, 21, 20]) := by
  unfold ak_sz ak_ps ak_mk ak_sb ak_pm ak_bs
  rw [h]
  exact ⟨rfl, rfl⟩
theorem ak4 (h : w (10 + a) = 4) : ak_sz w a = (w (16 + a) - 100, [13, 10]) ∧ ak_mk w a = (nI a - (w (16 + a) - 100), [23, 20, 13, 10]) := by
  unfold ak_sz ak_ps ak_mk ak_sb ak_pm ak_bs
  rw [h]
  exact ⟨rfl, rfl⟩
theorem ak5 (h : w (10 + a) = 5) : ak_sz w a = ((w (16 + a) - 100) * 2, [14, 13, 10]) ∧ ak_mk w a = (nI a - (w (16 + a) - 100) * 2, [23, 20, 14, 13, 10]) := by
  unfold ak_sz ak_ps ak_mk ak_sb ak_pm ak_bs
  rw [h, Int32.mul_comm _ 2]
  exact ⟨rfl, rfl⟩
end
set_option maxHeartbeats 1000000 in
set_option maxRecDepth 100000 in
theorem kX2_an11 {l : Launch} {O : rx_O} (hO : cb_O O) {σ : rx_S} {a : Nat} {w : Nat → Int32} (ha : a < 6) (hz : cb_an (σ.1 (1 + 3 + a)) w a) (hk : w (10 + a) = 1) : rx_MI l O yX2_answer cX2_answer 4 (some .int) 6 [.ref 255, .ref (1 + 3 + a), .int (nI a), .int 1] σ (fun r τ => r = (ak_sz w a).1 ∧ (∀ k, k ≠ 255 → k ≠ 256 → τ.1 k = σ.1 k) ∧ τ.2 = σ.2 ∧ τ.1 255 1 = nI (ak_sz w a).2.length ∧ τ.1 256 = tr_f (σ.1 256) (ak_sz w a).2) := by
  refine rx_Met_of (own := RX2) rfl hO.2.1 vsX2_answer.2.2.2.2.2 (Nat.le_of_ble_eq_true rfl) rfl (fun p e s m args below meth c X => ?_)
  refine rx_aload_n (i := 0) X dX2_answer_0 rfl rfl ?_
  refine rx_iload_n (i := 2) X dX2_answer_1 rfl rfl ?_
  refine rx_putI (ci := 2) (i := 2) X (kc_255 hO) rfl rfl (by decide) inX2 tyX2 tyX2_ok nmX2 flX2_13 rfl rfl dX2_answer_2 ?_
  refine rx_aload_n (i := 0) X dX2_answer_5 rfl rfl ?_
  refine rx_aload_n (i := 1) X dX2_answer_6 rfl rfl ?_
  refine rx_getI (ci := 1) (i := 1) X (kb_a hO cb_B1 ha) rfl rfl (by decide) inX1 flX2_17 dX2_answer_7 ?_
  refine rx_top (show _ = w (16 + a) by rw [rx_u_ne (by omega)]; exact hz.2.1) ?_
  refine rx_putI (ci := 2) (i := 3) X (kc_255 hO) rfl rfl (by decide) inX2 tyX2 tyX2_ok nmX2 flX2_22 rfl rfl dX2_answer_10 ?_
  refine rx_aload_n (i := 0) X dX2_answer_13 rfl rfl ?_
  refine rx_aload_n (i := 1) X dX2_answer_14 rfl rfl ?_
  refine rx_callVi (ci := 1) X vsX1_hundredth mlX2_25 (kX1_hundredth hO (kb_a hO cb_B1 ha)) (kb_a hO cb_B1 ha) rfl rfl (by decide) (by decide) dX2_answer_15 rfl (Nat.le_of_ble_eq_true rfl) (fun r15 t15 h15 => ?_)
  obtain ⟨rfl, rfl⟩ := h15
  refine rx_top (show _ = w (34 + a) / 10000 by rw [rx_u_ne (by omega), rx_u_ne (by omega), hz.2.2.2.2.1]) ?_
  refine rx_putI (ci := 2) (i := 4) X (kc_255 hO) rfl rfl (by decide) inX2 tyX2 tyX2_ok nmX2 flX2_29 rfl rfl dX2_answer_18 ?_
  refine rx_aload_n (i := 0) X dX2_answer_21 rfl rfl ?_
  refine rx_aload_n (i := 1) X dX2_answer_22 rfl rfl ?_
  refine rx_getI (ci := 1) (i := 0) X (kb_a hO cb_B1 ha) rfl rfl (by decide) inX1 flX2_32 dX2_answer_23 ?_
  refine rx_top (show _ = 1 by rw [rx_u_ne (by omega), rx_u_ne (by omega), rx_u_ne (by omega)]; exact hz.1.trans hk) ?_
  refine rx_if_lt_f X dX2_answer_26 (by decide) ?_
  refine rx_aload_n (i := 1) X dX2_answer_29 rfl rfl ?_
  refine rx_getI (ci := 1) (i := 0) X (kb_a hO cb_B1 ha) rfl rfl (by decide) inX1 flX2_32 dX2_answer_30 ?_
  refine rx_top (show _ = 1 by rw [rx_u_ne (by omega), rx_u_ne (by omega), rx_u_ne (by omega)]; exact hz.1.trans hk) ?_
  refine rx_iconst (v := 5) X dX2_answer_33 (by decide) ?_
  refine rx_icmp_gt_f X dX2_answer_34 (by decide) ?_
  refine rx_gets (xs := [10, 11, 12, 11, 13, 14]) X (cb_zS hO) flX2_35z dX2_answer_37 ?_
  refine rx_aload_n (i := 1) X dX2_answer_40 rfl rfl ?_
  refine rx_getI (ci := 1) (i := 0) X (kb_a hO cb_B1 ha) rfl rfl (by decide) inX1 flX2_32 dX2_answer_41 ?_
  refine rx_top (show _ = 1 by rw [rx_u_ne (by omega), rx_u_ne (by omega), rx_u_ne (by omega)]; exact hz.1.trans hk) ?_
  refine rx_zld X (cb_zS hO) (a_in (by decide) (by decide)) dX2_answer_44 ?_
  refine rx_top (y := 11) rfl ?_
  refine rx_goto X dX2_answer_45 ?_
  refine rx_putI (ci := 2) (i := 5) X (kc_255 hO) rfl rfl (by decide) inX2 tyX2 tyX2_ok nmX2 flX2_38 rfl rfl dX2_answer_50 ?_
  refine rx_aload_n (i := 0) X dX2_answer_53 rfl rfl ?_
  refine rx_aload_n (i := 1) X dX2_answer_54 rfl rfl ?_
  refine rx_getI (ci := 1) (i := 0) X (kb_a hO cb_B1 ha) rfl rfl (by decide) inX1 flX2_32 dX2_answer_55 ?_
  refine rx_top (show _ = 1 by rw [rx_u_ne (by omega), rx_u_ne (by omega), rx_u_ne (by omega), rx_u_ne (by omega)]; exact hz.1.trans hk) ?_
  refine rx_if_lt_f X dX2_answer_58 (by decide) ?_
  refine rx_aload_n (i := 1) X dX2_answer_61 rfl rfl ?_
  refine rx_getI (ci := 1) (i := 0) X (kb_a hO cb_B1 ha) rfl rfl (by decide) inX1 flX2_32 dX2_answer_62 ?_
  refine rx_top (show _ = 1 by rw [rx_u_ne (by omega), rx_u_ne (by omega), rx_u_ne (by omega), rx_u_ne (by omega)]; exact hz.1.trans hk) ?_
  refine rx_iconst (v := 5) X dX2_answer_65 (by decide) ?_
  refine rx_icmp_gt_f X dX2_answer_66 (by decide) ?_
  refine rx_gets (xs := [20, 21, 24, 22, 23, 23]) X (cb_zM hO) flX2_41z dX2_answer_69 ?_
  refine rx_aload_n (i := 1) X dX2_answer_72 rfl rfl ?_
  refine rx_getI (ci := 1) (i := 0) X (kb_a hO cb_B1 ha) rfl rfl (by decide) inX1 flX2_32 dX2_answer_73 ?_
  refine rx_top (show _ = 1 by rw [rx_u_ne (by omega), rx_u_ne (by omega), rx_u_ne (by omega), rx_u_ne (by omega)]; exact hz.1.trans hk) ?_
  refine rx_zld X (cb_zM hO) (a_in (by decide) (by decide)) dX2_answer_76 ?_
  refine rx_top (y := 21) rfl ?_
  refine rx_goto X dX2_answer_77 ?_
  refine rx_putI (ci := 2) (i := 6) X (kc_255 hO) rfl rfl (by decide) inX2 tyX2 tyX2_ok nmX2 flX2_44 rfl rfl dX2_answer_82 ?_
  refine rx_aload_n (i := 0) X dX2_answer_85 rfl rfl ?_
  refine rx_iconst (v := 0) X dX2_answer_86 (by decide) ?_
  refine rx_putI (ci := 2) (i := 1) X (kc_255 hO) rfl rfl (by decide) inX2 tyX2 tyX2_ok nmX2 flX2_47 rfl rfl dX2_answer_87 ?_
  refine rx_aload_n (i := 0) X dX2_answer_90 rfl rfl ?_
  refine rx_iload_n (i := 3) X dX2_answer_91 rfl rfl ?_
  refine rx_if_eq_f X dX2_answer_92 (by decide) ?_
  refine rx_aload_n (i := 0) X dX2_answer_95 rfl rfl ?_
  refine rx_getI (ci := 2) (i := 5) X (kc_255 hO) rfl rfl (by decide) inX2 flX2_38 dX2_answer_96 ?_
  refine rx_top (show _ = 11 by simp only [rx_u_s]; rfl) ?_
  refine rx_goto X dX2_answer_99 ?_
  refine rx_iconst (v := 1) X dX2_answer_106 (by decide) ?_
  refine rx_callVi (ci := 2) X vsX2_begin mlX2_50 (kX2_b11_21 hO (bs := []) (d := 1) (ck_0 (by rw [rx_u_s]; rfl)) (by decide) (by decide) (by simp only [rx_u_s]; rfl)) (kc_255 hO) rfl rfl (by decide) (by decide) dX2_answer_107 rfl (Nat.le_of_ble_eq_true rfl) (fun r107 t107 h107 => ?_)
  obtain ⟨rfl, h107⟩ := h107
  refine rx_iret X dX2_answer_110 ?_
  rw [(ak1 hk).1]
  refine ⟨?_, fun k q1 q2 => ?_, h107.2.1, h107.2.2.2.1, ?_⟩
  · simp only [rx_u_s]
    rfl
  · rw [h107.1 k q1 q2]
    simp only [rx_u_ne q1]
  · rw [h107.2.2.2.2]
    simp only [rx_u_ne (show (256 : Nat) ≠ 255 by decide)]
    rfl
set_option maxHeartbeats 1000000 in
set_option maxRecDepth 100000 in
theorem kX2_an10 {l : Launch} {O : rx_O} (hO : cb_O O) {σ : rx_S} {a : Nat} {w : Nat → Int32} (ha : a < 6) (hz : cb_an (σ.1 (1 + 3 + a)) w a) (hk : w (10 + a) = 1) : rx_MI l O yX2_answer cX2_answer 4 (some .int) 6 [.ref 255, .ref (1 + 3 + a), .int (nI a), .int 0] σ (fun r τ => r = (ak_mk w a).1 ∧ (∀ k, k ≠ 255 → k ≠ 256 → τ.1 k = σ.1 k) ∧ τ.2 = σ.2 ∧ τ.1 255 1 = nI (ak_mk w a).2.length ∧ τ.1 256 = tr_f (σ.1 256) (ak_mk w a).2) := by
  refine rx_Met_of (own := RX2) rfl hO.2.1 vsX2_answer.2.2.2.2.2 (Nat.le_of_ble_eq_true rfl) rfl (fun p e s m args below meth c X => ?_)
  refine rx_aload_n (i := 0) X dX2_answer_0 rfl rfl ?_
  refine rx_iload_n (i := 2) X dX2_answer_1 rfl rfl ?_
  refine rx_putI (ci := 2) (i := 2) X (kc_255 hO) rfl rfl (by decide) inX2 tyX2 tyX2_ok nmX2 flX2_13 rfl rfl dX2_answer_2 ?_
  refine rx_aload_n (i := 0) X dX2_answer_5 rfl rfl ?_
  refine rx_aload_n (i := 1) X dX2_answer_6 rfl rfl ?_
  refine rx_getI (ci := 1) (i := 1) X (kb_a hO cb_B1 ha) rfl rfl (by decide) inX1 flX2_17 dX2_answer_7 ?_
  refine rx_top (show _ = w (16 + a) by rw [rx_u_ne (by omega)]; exact hz.2.1) ?_
  refine rx_putI (ci := 2) (i := 3) X (kc_255 hO) rfl rfl (by decide) inX2 tyX2 tyX2_ok nmX2 flX2_22 rfl rfl dX2_answer_10 ?_
  refine rx_aload_n (i := 0) X dX2_answer_13 rfl rfl ?_
  refine rx_aload_n (i := 1) X dX2_answer_14 rfl rfl ?_
  refine rx_callVi (ci := 1) X vsX1_hundredth mlX2_25 (kX1_hundredth hO (kb_a hO cb_B1 ha)) (kb_a hO cb_B1 ha) rfl rfl (by decide) (by decide) dX2_answer_15 rfl (Nat.le_of_ble_eq_true rfl) (fun r15 t15 h15 => ?_)
  obtain ⟨rfl, rfl⟩ := h15
  refine rx_top (show _ = w (34 + a) / 10000 by rw [rx_u_ne (by omega), rx_u_ne (by omega), hz.2.2.2.2.1]) ?_
  refine rx_putI (ci := 2) (i := 4) X (kc_255 hO) rfl rfl (by decide) inX2 tyX2 tyX2_ok nmX2 flX2_29 rfl rfl dX2_answer_18 ?_
  refine rx_aload_n (i := 0) X dX2_answer_21 rfl rfl ?_
  refine rx_aload_n (i := 1) X dX2_answer_22 rfl rfl ?_
  refine rx_getI (ci := 1) (i := 0) X (kb_a hO cb_B1 ha) rfl rfl (by decide) inX1 flX2_32 dX2_answer_23 ?_
  refine rx_top (show _ = 1 by rw [rx_u_ne (by omega), rx_u_ne (by omega), rx_u_ne (by omega)]; exact hz.1.trans hk) ?_
  refine rx_if_lt_f X dX2_answer_26 (by decide) ?_
  refine rx_aload_n (i := 1) X dX2_answer_29 rfl rfl ?_
  refine rx_getI (ci := 1) (i := 0) X (kb_a hO cb_B1 ha) rfl rfl (by decide) inX1 flX2_32 dX2_answer_30 ?_
  refine rx_top (show _ = 1 by rw [rx_u_ne (by omega), rx_u_ne (by omega), rx_u_ne (by omega)]; exact hz.1.trans hk) ?_
  refine rx_iconst (v := 5) X dX2_answer_33 (by decide) ?_
  refine rx_icmp_gt_f X dX2_answer_34 (by decide) ?_
  refine rx_gets (xs := [10, 11, 12, 11, 13, 14]) X (cb_zS hO) flX2_35z dX2_answer_37 ?_
  refine rx_aload_n (i := 1) X dX2_answer_40 rfl rfl ?_
  refine rx_getI (ci := 1) (i := 0) X (kb_a hO cb_B1 ha) rfl rfl (by decide) inX1 flX2_32 dX2_answer_41 ?_
  refine rx_top (show _ = 1 by rw [rx_u_ne (by omega), rx_u_ne (by omega), rx_u_ne (by omega)]; exact hz.1.trans hk) ?_
  refine rx_zld X (cb_zS hO) (a_in (by decide) (by decide)) dX2_answer_44 ?_
  refine rx_top (y := 11) rfl ?_
  refine rx_goto X dX2_answer_45 ?_
  refine rx_putI (ci := 2) (i := 5) X (kc_255 hO) rfl rfl (by decide) inX2 tyX2 tyX2_ok nmX2 flX2_38 rfl rfl dX2_answer_50 ?_
  refine rx_aload_n (i := 0) X dX2_answer_53 rfl rfl ?_
  refine rx_aload_n (i := 1) X dX2_answer_54 rfl rfl ?_
  refine rx_getI (ci := 1) (i := 0) X (kb_a hO cb_B1 ha) rfl rfl (by decide) inX1 flX2_32 dX2_answer_55 ?_
  refine rx_top (show _ = 1 by rw [rx_u_ne (by omega), rx_u_ne (by omega), rx_u_ne (by omega), rx_u_ne (by omega)]; exact hz.1.trans hk) ?_
  refine rx_if_lt_f X dX2_answer_58 (by decide) ?_
  refine rx_aload_n (i := 1) X dX2_answer_61 rfl rfl ?_
  refine rx_getI (ci := 1) (i := 0) X (kb_a hO cb_B1 ha) rfl rfl (by decide) inX1 flX2_32 dX2_answer_62 ?_
  refine rx_top (show _ = 1 by rw [rx_u_ne (by omega), rx_u_ne (by omega), rx_u_ne (by omega), rx_u_ne (by omega)]; exact hz.1.trans hk) ?_
  refine rx_iconst (v := 5) X dX2_answer_65 (by decide) ?_
  refine rx_icmp_gt_f X dX2_answer_66 (by decide) ?_
  refine rx_gets (xs := [20, 21, 24, 22, 23, 23]) X (cb_zM hO) flX2_41z dX2_answer_69 ?_
  refine rx_aload_n (i := 1) X dX2_answer_72 rfl rfl ?_
  refine rx_getI (ci := 1) (i := 0) X (kb_a hO cb_B1 ha) rfl rfl (by decide) inX1 flX2_32 dX2_answer_73 ?_
  refine rx_top (show _ = 1 by rw [rx_u_ne (by omega), rx_u_ne (by omega), rx_u_ne (by omega), rx_u_ne (by omega)]; exact hz.1.trans hk) ?_
  refine rx_zld X (cb_zM hO) (a_in (by decide) (by decide)) dX2_answer_76 ?_
  refine rx_top (y := 21) rfl ?_
  refine rx_goto X dX2_answer_77 ?_
  refine rx_putI (ci := 2) (i := 6) X (kc_255 hO) rfl rfl (by decide) inX2 tyX2 tyX2_ok nmX2 flX2_44 rfl rfl dX2_answer_82 ?_
  refine rx_aload_n (i := 0) X dX2_answer_85 rfl rfl ?_
  refine rx_iconst (v := 0) X dX2_answer_86 (by decide) ?_
  refine rx_putI (ci := 2) (i := 1) X (kc_255 hO) rfl rfl (by decide) inX2 tyX2 tyX2_ok nmX2 flX2_47 rfl rfl dX2_answer_87 ?_
  refine rx_aload_n (i := 0) X dX2_answer_90 rfl rfl ?_
  refine rx_iload_n (i := 3) X dX2_answer_91 rfl rfl ?_
  refine rx_if_eq_t X dX2_answer_92 (by decide) ?_
  refine rx_aload_n (i := 0) X dX2_answer_102 rfl rfl ?_
  refine rx_getI (ci := 2) (i := 6) X (kc_255 hO) rfl rfl (by decide) inX2 flX2_44 dX2_answer_103 ?_
  refine rx_top (show _ = 21 by simp only [rx_u_s]; rfl) ?_
  refine rx_iconst (v := 1) X dX2_answer_106 (by decide) ?_
  refine rx_callVi (ci := 2) X vsX2_begin mlX2_50 (kX2_b21 hO (bs := []) (d := 1) (ck_0 (by rw [rx_u_s]; rfl)) (by decide) (by decide)) (kc_255 hO) rfl rfl (by decide) (by decide) dX2_answer_107 rfl (Nat.le_of_ble_eq_true rfl) (fun r107 t107 h107 => ?_)
  obtain ⟨rfl, h107⟩ := h107
  refine rx_iret X dX2_answer_110 ?_
  rw [(ak1 hk).2]
  refine ⟨?_, fun k q1 q2 => ?_, h107.2.1, h107.2.2.2.1, ?_⟩
  · simp only [rx_u_s]
    rfl
  · rw [h107.1 k q1 q2]
    simp only [rx_u_ne q1]
  · rw [h107.2.2.2.2]
    simp only [rx_u_ne (show (256 : Nat) ≠ 255 by decide)]
    rfl
set_option maxHeartbeats 1000000 in
set_option maxRecDepth 100000 in
theorem kX2_an21 {l : Launch} {O : rx_O} (hO : cb_O O) {σ : rx_S} {a : Nat} {w : Nat → Int32} (ha : a < 6) (hz : cb_an (σ.1 (1 + 3 + a)) w a) (hk : w (10 + a) = 2) : rx_MI l O yX2_answer cX2_answer 4 (some .int) 6 [.ref 255, .ref (1 + 3 + a), .int (nI a), .int 1] σ (fun r τ => r = (ak_sz w a).1 ∧ (∀ k, k ≠ 255 → k ≠ 256 → τ.1 k = σ.1 k) ∧ τ.2 = σ.2 ∧ τ.1 255 1 = nI (ak_sz w a).2.length ∧ τ.1 256 = tr_f (σ.1 256) (ak_sz w a).2) := by
  refine rx_Met_of (own := RX2) rfl hO.2.1 vsX2_answer.2.2.2.2.2 (Nat.le_of_ble_eq_true rfl) rfl (fun p e s m args below meth c X => ?_)
  refine rx_aload_n (i := 0) X dX2_answer_0 rfl rfl ?_
  refine rx_iload_n (i := 2) X dX2_answer_1 rfl rfl ?_
  refine rx_putI (ci := 2) (i := 2) X (kc_255 hO) rfl rfl (by decide) inX2 tyX2 tyX2_ok nmX2 flX2_13 rfl rfl dX2_answer_2 ?_
  refine rx_aload_n (i := 0) X dX2_answer_5 rfl rfl ?_
  refine rx_aload_n (i := 1) X dX2_answer_6 rfl rfl ?_
  refine rx_getI (ci := 1) (i := 1) X (kb_a hO cb_B1 ha) rfl rfl (by decide) inX1 flX2_17 dX2_answer_7 ?_
  refine rx_top (show _ = w (16 + a) by rw [rx_u_ne (by omega)]; exact hz.2.1) ?_
  refine rx_putI (ci := 2) (i := 3) X (kc_255 hO) rfl rfl (by decide) inX2 tyX2 tyX2_ok nmX2 flX2_22 rfl rfl dX2_answer_10 ?_
  refine rx_aload_n (i := 0) X dX2_answer_13 rfl rfl ?_
  refine rx_aload_n (i := 1) X dX2_answer_14 rfl rfl ?_
  refine rx_callVi (ci := 1) X vsX1_hundredth mlX2_25 (kX1_hundredth hO (kb_a hO cb_B1 ha)) (kb_a hO cb_B1 ha) rfl rfl (by decide) (by decide) dX2_answer_15 rfl (Nat.le_of_ble_eq_true rfl) (fun r15 t15 h15 => ?_)
  obtain ⟨rfl, rfl⟩ := h15
  refine rx_top (show _ = w (34 + a) / 10000 by rw [rx_u_ne (by omega), rx_u_ne (by omega), hz.2.2.2.2.1]) ?_
  refine rx_putI (ci := 2) (i := 4) X (kc_255 hO) rfl rfl (by decide) inX2 tyX2 tyX2_ok nmX2 flX2_29 rfl rfl dX2_answer_18 ?_
  refine rx_aload_n (i := 0) X dX2_answer_21 rfl rfl ?_
  refine rx_aload_n (i := 1) X dX2_answer_22 rfl rfl ?_
  refine rx_getI (ci := 1) (i := 0) X (kb_a hO cb_B1 ha) rfl rfl (by decide) inX1 flX2_32 dX2_answer_23 ?_
  refine rx_top (show _ = 2 by rw [rx_u_ne (by omega), rx_u_ne (by omega), rx_u_ne (by omega)]; exact hz.1.trans hk) ?_
  refine rx_if_lt_f X dX2_answer_26 (by decide) ?_
  refine rx_aload_n (i := 1) X dX2_answer_29 rfl rfl ?_
  refine rx_getI (ci := 1) (i := 0) X (kb_a hO cb_B1 ha) rfl rfl (by decide) inX1 flX2_32 dX2_answer_30 ?_
  refine rx_top (show _ = 2 by rw [rx_u_ne (by omega), rx_u_ne (by omega), rx_u_ne (by omega)]; exact hz.1.trans hk) ?_
  refine rx_iconst (v := 5) X dX2_answer_33 (by decide) ?_
  refine rx_icmp_gt_f X dX2_answer_34 (by decide) ?_
  refine rx_gets (xs := [10, 11, 12, 11, 13, 14]) X (cb_zS hO) flX2_35z dX2_answer_37 ?_
  refine rx_aload_n (i := 1) X dX2_answer_40 rfl rfl ?_
  refine rx_getI (ci := 1) (i := 0) X (kb_a hO cb_B1 ha) rfl rfl (by decide) inX1 flX2_32 dX2_answer_41 ?_
  refine rx_top (show _ = 2 by rw [rx_u_ne (by omega), rx_u_ne (by omega), rx_u_ne (by omega)]; exact hz.1.trans hk) ?_
  refine rx_zld X (cb_zS hO) (a_in (by decide) (by decide)) dX2_answer_44 ?_
  refine rx_top (y := 12) rfl ?_
  refine rx_goto X dX2_answer_45 ?_
  refine rx_putI (ci := 2) (i := 5) X (kc_255 hO) rfl rfl (by decide) inX2 tyX2 tyX2_ok nmX2 flX2_38 rfl rfl dX2_answer_50 ?_
  refine rx_aload_n (i := 0) X dX2_answer_53 rfl rfl ?_
  refine rx_aload_n (i := 1) X dX2_answer_54 rfl rfl ?_
  refine rx_getI (ci := 1) (i := 0) X (kb_a hO cb_B1 ha) rfl rfl (by decide) inX1 flX2_32 dX2_answer_55 ?_
  refine rx_top (show _ = 2 by rw [rx_u_ne (by omega), rx_u_ne (by omega), rx_u_ne (by omega), rx_u_ne (by omega)]; exact hz.1.trans hk) ?_
  refine rx_if_lt_f X dX2_answer_58 (by decide) ?_
  refine rx_aload_n (i := 1) X dX2_answer_61 rfl rfl ?_
  refine rx_getI (ci := 1) (i := 0) X (kb_a hO cb_B1 ha) rfl rfl (by decide) inX1 flX2_32 dX2_answer_62 ?_
  refine rx_top (show _ = 2 by rw [rx_u_ne (by omega), rx_u_ne (by omega), rx_u_ne (by omega), rx_u_ne (by omega)]; exact hz.1.trans hk) ?_
  refine rx_iconst (v := 5) X dX2_answer_65 (by decide) ?_
  refine rx_icmp_gt_f X dX2_answer_66 (by decide) ?_
  refine rx_gets (xs := [20, 21, 24, 22, 23, 23]) X (cb_zM hO) flX2_41z dX2_answer_69 ?_
  refine rx_aload_n (i := 1) X dX2_answer_72 rfl rfl ?_
  refine rx_getI (ci := 1) (i := 0) X (kb_a hO cb_B1 ha) rfl rfl (by decide) inX1 flX2_32 dX2_answer_73 ?_
  refine rx_top (show _ = 2 by rw [rx_u_ne (by omega), rx_u_ne (by omega), rx_u_ne (by omega), rx_u_ne (by omega)]; exact hz.1.trans hk) ?_
  refine rx_zld X (cb_zM hO) (a_in (by decide) (by decide)) dX2_answer_76 ?_
  refine rx_top (y := 24) rfl ?_
  refine rx_goto X dX2_answer_77 ?_
  refine rx_putI (ci := 2) (i := 6) X (kc_255 hO) rfl rfl (by decide) inX2 tyX2 tyX2_ok nmX2 flX2_44 rfl rfl dX2_answer_82 ?_
  refine rx_aload_n (i := 0) X dX2_answer_85 rfl rfl ?_
  refine rx_iconst (v := 0) X dX2_answer_86 (by decide) ?_
  refine rx_putI (ci := 2) (i := 1) X (kc_255 hO) rfl rfl (by decide) inX2 tyX2 tyX2_ok nmX2 flX2_47 rfl rfl dX2_answer_87 ?_
  refine rx_aload_n (i := 0) X dX2_answer_90 rfl rfl ?_
  refine rx_iload_n (i := 3) X dX2_answer_91 rfl rfl ?_
  refine rx_if_eq_f X dX2_answer_92 (by decide) ?_
  refine rx_aload_n (i := 0) X dX2_answer_95 rfl rfl ?_
  refine rx_getI (ci := 2) (i := 5) X (kc_255 hO) rfl rfl (by decide) inX2 flX2_38 dX2_answer_96 ?_
  refine rx_top (show _ = 12 by simp only [rx_u_s]; rfl) ?_
  refine rx_goto X dX2_answer_99 ?_
  refine rx_iconst (v := 1) X dX2_answer_106 (by decide) ?_
  refine rx_callVi (ci := 2) X vsX2_begin mlX2_50 (kX2_b12 hO (bs := []) (d := 1) (ck_0 (by rw [rx_u_s]; rfl)) (by decide) (by decide) (by simp only [rx_u_s]; rfl)) (kc_255 hO) rfl rfl (by decide) (by decide) dX2_answer_107 rfl (Nat.le_of_ble_eq_true rfl) (fun r107 t107 h107 => ?_)
  obtain ⟨rfl, h107⟩ := h107
  refine rx_iret X dX2_answer_110 ?_
  rw [(ak2 hk).1]
  refine ⟨?_, fun k q1 q2 => ?_, h107.2.1, h107.2.2.2.1, ?_⟩
  · simp only [rx_u_s]
    rfl
  · rw [h107.1 k q1 q2]
    simp only [rx_u_ne q1]
  · rw [h107.2.2.2.2]
    simp only [rx_u_ne (show (256 : Nat) ≠ 255 by decide)]
    rfl
set_option maxHeartbeats 1000000 in
set_option maxRecDepth 100000 in
theorem kX2_an20 {l : Launch} {O : rx_O} (hO : cb_O O) {σ : rx_S} {a : Nat} {w : Nat → Int32} (ha : a < 6) (hz : cb_an (σ.1 (1 + 3 + a)) w a) (hk : w (10 + a) = 2) : rx_MI l O yX2_answer cX2_answer 4 (some .int) 6 [.ref 255, .ref (1 + 3 + a), .int (nI a), .int 0] σ (fun r τ => r = (ak_mk w a).1 ∧ (∀ k, k ≠ 255 → k ≠ 256 → τ.1 k = σ.1 k) ∧ τ.2 = σ.2 ∧ τ.1 255 1 = nI (ak_mk w a).2.length ∧ τ.1 256 = tr_f (σ.1 256) (ak_mk w a).2) := by
  refine rx_Met_of (own := RX2) rfl hO.2.1 vsX2_answer.2.2.2.2.2 (Nat.le_of_ble_eq_true rfl) rfl (fun p e s m args below meth c X => ?_)
  refine rx_aload_n (i := 0) X dX2_answer_0 rfl rfl ?_
  refine rx_iload_n (i := 2) X dX2_answer_1 rfl rfl ?_
  refine rx_putI (ci := 2) (i := 2) X (kc_255 hO) rfl rfl (by decide) inX2 tyX2 tyX2_ok nmX2 flX2_13 rfl rfl dX2_answer_2 ?_
  refine rx_aload_n (i := 0) X dX2_answer_5 rfl rfl ?_
  refine rx_aload_n (i := 1) X dX2_answer_6 rfl rfl ?_
  refine rx_getI (ci := 1) (i := 1) X (kb_a hO cb_B1 ha) rfl rfl (by decide) inX1 flX2_17 dX2_answer_7 ?_
  refine rx_top (show _ = w (16 + a) by rw [rx_u_ne (by omega)]; exact hz.2.1) ?_
  refine rx_putI (ci := 2) (i := 3) X (kc_255 hO) rfl rfl (by decide) inX2 tyX2 tyX2_ok nmX2 flX2_22 rfl rfl dX2_answer_10 ?_
  refine rx_aload_n (i := 0) X dX2_answer_13 rfl rfl ?_
  refine rx_aload_n (i := 1) X dX2_answer_14 rfl rfl ?_
  refine rx_callVi (ci := 1) X vsX1_hundredth mlX2_25 (kX1_hundredth hO (kb_a hO cb_B1 ha)) (kb_a hO cb_B1 ha) rfl rfl (by decide) (by decide) dX2_answer_15 rfl (Nat.le_of_ble_eq_true rfl) (fun r15 t15 h15 => ?_)
  obtain ⟨rfl, rfl⟩ := h15
  refine rx_top (show _ = w (34 + a) / 10000 by rw [rx_u_ne (by omega), rx_u_ne (by omega), hz.2.2.2.2.1]) ?_
  refine rx_putI (ci := 2) (i := 4) X (kc_255 hO) rfl rfl (by decide) inX2 tyX2 tyX2_ok nmX2 flX2_29 rfl rfl dX2_answer_18 ?_
  refine rx_aload_n (i := 0) X dX2_answer_21 rfl rfl ?_
  refine rx_aload_n (i := 1) X dX2_answer_22 rfl rfl ?_
  refine rx_getI (ci := 1) (i := 0) X (kb_a hO cb_B1 ha) rfl rfl (by decide) inX1 flX2_32 dX2_answer_23 ?_
  refine rx_top (show _ = 2 by rw [rx_u_ne (by omega), rx_u_ne (by omega), rx_u_ne (by omega)]; exact hz.1.trans hk) ?_
  refine rx_if_lt_f X dX2_answer_26 (by decide) ?_
  refine rx_aload_n (i := 1) X dX2_answer_29 rfl rfl ?_
  refine rx_getI (ci := 1) (i := 0) X (kb_a hO cb_B1 ha) rfl rfl (by decide) inX1 flX2_32 dX2_answer_30 ?_
  refine rx_top (show _ = 2 by rw [rx_u_ne (by omega), rx_u_ne (by omega), rx_u_ne (by omega)]; exact hz.1.trans hk) ?_
  refine rx_iconst (v := 5) X dX2_answer_33 (by decide) ?_
  refine rx_icmp_gt_f X dX2_answer_34 (by decide) ?_
  refine rx_gets (xs := [10, 11, 12, 11, 13, 14]) X (cb_zS hO) flX2_35z dX2_answer_37 ?_
  refine rx_aload_n (i := 1) X dX2_answer_40 rfl rfl ?_
  refine rx_getI (ci := 1) (i := 0) X (kb_a hO cb_B1 ha) rfl rfl (by decide) inX1 flX2_32 dX2_answer_41 ?_
  refine rx_top (show _ = 2 by rw [rx_u_ne (by omega), rx_u_ne (by omega), rx_u_ne (by omega)]; exact hz.1.trans hk) ?_
  refine rx_zld X (cb_zS hO) (a_in (by decide) (by decide)) dX2_answer_44 ?_
  refine rx_top (y := 12) rfl ?_
  refine rx_goto X dX2_answer_45 ?_
  refine rx_putI (ci := 2) (i := 5) X (kc_255 hO) rfl rfl (by decide) inX2 tyX2 tyX2_ok nmX2 flX2_38 rfl rfl dX2_answer_50 ?_
  refine rx_aload_n (i := 0) X dX2_answer_53 rfl rfl ?_
  refine rx_aload_n (i := 1) X dX2_answer_54 rfl rfl ?_
  refine rx_getI (ci := 1) (i := 0) X (kb_a hO cb_B1 ha) rfl rfl (by decide) inX1 flX2_32 dX2_answer_55 ?_
  refine rx_top (show _ = 2 by rw [rx_u_ne (by omega), rx_u_ne (by omega), rx_u_ne (by omega), rx_u_ne (by omega)]; exact hz.1.trans hk) ?_
  refine rx_if_lt_f X dX2_answer_58 (by decide) ?_
  refine rx_aload_n (i := 1) X dX2_answer_61 rfl rfl ?_
  refine rx_getI (ci := 1) (i := 0) X (kb_a hO cb_B1 ha) rfl rfl (by decide) inX1 flX2_32 dX2_answer_62 ?_
  refine rx_top (show _ = 2 by rw [rx_u_ne (by omega), rx_u_ne (by omega), rx_u_ne (by omega), rx_u_ne (by omega)]; exact hz.1.trans hk) ?_
  refine rx_iconst (v := 5) X dX2_answer_65 (by decide) ?_
  refine rx_icmp_gt_f X dX2_answer_66 (by decide) ?_
  refine rx_gets (xs := [20, 21, 24, 22, 23, 23]) X (cb_zM hO) flX2_41z dX2_answer_69 ?_
  refine rx_aload_n (i := 1) X dX2_answer_72 rfl rfl ?_
  refine rx_getI (ci := 1) (i := 0) X (kb_a hO cb_B1 ha) rfl rfl (by decide) inX1 flX2_32 dX2_answer_73 ?_
  refine rx_top (show _ = 2 by rw [rx_u_ne (by omega), rx_u_ne (by omega), rx_u_ne (by omega), rx_u_ne (by omega)]; exact hz.1.trans hk) ?_
  refine rx_zld X (cb_zM hO) (a_in (by decide) (by decide)) dX2_answer_76 ?_
  refine rx_top (y := 24) rfl ?_
  refine rx_goto X dX2_answer_77 ?_
  refine rx_putI (ci := 2) (i := 6) X (kc_255 hO) rfl rfl (by decide) inX2 tyX2 tyX2_ok nmX2 flX2_44 rfl rfl dX2_answer_82 ?_
  refine rx_aload_n (i := 0) X dX2_answer_85 rfl rfl ?_
  refine rx_iconst (v := 0) X dX2_answer_86 (by decide) ?_
  refine rx_putI (ci := 2) (i := 1) X (kc_255 hO) rfl rfl (by decide) inX2 tyX2 tyX2_ok nmX2 flX2_47 rfl rfl dX2_answer_87 ?_
  refine rx_aload_n (i := 0) X dX2_answer_90 rfl rfl ?_
  refine rx_iload_n (i := 3) X dX2_answer_91 rfl rfl ?_
  refine rx_if_eq_t X dX2_answer_92 (by decide) ?_
  refine rx_aload_n (i := 0) X dX2_answer_102 rfl rfl ?_
  refine rx_getI (ci := 2) (i := 6) X (kc_255 hO) rfl rfl (by decide) inX2 flX2_44 dX2_answer_103 ?_
  refine rx_top (show _ = 24 by simp only [rx_u_s]; rfl) ?_
  refine rx_iconst (v := 1) X dX2_answer_106 (by decide) ?_
  refine rx_callVi (ci := 2) X vsX2_begin mlX2_50 (kX2_b24 hO (bs := []) (d := 1) (ck_0 (by rw [rx_u_s]; rfl)) (by decide) (by decide)) (kc_255 hO) rfl rfl (by decide) (by decide) dX2_answer_107 rfl (Nat.le_of_ble_eq_true rfl) (fun r107 t107 h107 => ?_)
  obtain ⟨rfl, h107⟩ := h107
  refine rx_iret X dX2_answer_110 ?_
  rw [(ak2 hk).2]
  refine ⟨?_, fun k q1 q2 => ?_, h107.2.1, h107.2.2.2.1, ?_⟩
  · simp only [rx_u_s]
    rfl
  · rw [h107.1 k q1 q2]
    simp only [rx_u_ne q1]
  · rw [h107.2.2.2.2]
    simp only [rx_u_ne (show (256 : Nat) ≠ 255 by decide)]
    rfl
set_option maxHeartbeats 1000000 in
set_option maxRecDepth 100000 in
theorem kX2_an31 {l : Launch} {O : rx_O} (hO : cb_O O) {σ : rx_S} {a : Nat} {w : Nat → Int32} (ha : a < 6) (hz : cb_an (σ.1 (1 + 3 + a)) w a) (hk : w (10 + a) = 3) : rx_MI l O yX2_answer cX2_answer 4 (some .int) 6 [.ref 255, .ref (1 + 3 + a), .int (nI a), .int 1] σ (fun r τ => r = (ak_sz w a).1 ∧ (∀ k, k ≠ 255 → k ≠ 256 → τ.1 k = σ.1 k) ∧ τ.2 = σ.2 ∧ τ.1 255 1 = nI (ak_sz w a).2.length ∧ τ.1 256 = tr_f (σ.1 256) (ak_sz w a).2) := by
  refine rx_Met_of (own := RX2) rfl hO.2.1 vsX2_answer.2.2.2.2.2 (Nat.le_of_ble_eq_true rfl) rfl (fun p e s m args below meth c X => ?_)
  refine rx_aload_n (i := 0) X dX2_answer_0 rfl rfl ?_
  refine rx_iload_n (i := 2) X dX2_answer_1 rfl rfl ?_
  refine rx_putI (ci := 2) (i := 2) X (kc_255 hO) rfl rfl (by decide) inX2 tyX2 tyX2_ok nmX2 flX2_13 rfl rfl dX2_answer_2 ?_
  refine rx_aload_n (i := 0) X dX2_answer_5 rfl rfl ?_
  refine rx_aload_n (i := 1) X dX2_answer_6 rfl rfl ?_
  refine rx_getI (ci := 1) (i := 1) X (kb_a hO cb_B1 ha) rfl rfl (by decide) inX1 flX2_17 dX2_answer_7 ?_
  refine rx_top (show _ = w (16 + a) by rw [rx_u_ne (by omega)]; exact hz.2.1) ?_
  refine rx_putI (ci := 2) (i := 3) X (kc_255 hO) rfl rfl (by decide) inX2 tyX2 tyX2_ok nmX2 flX2_22 rfl rfl dX2_answer_10 ?_
  refine rx_aload_n (i := 0) X dX2_answer_13 rfl rfl ?_
  refine rx_aload_n (i := 1) X dX2_answer_14 rfl rfl ?_
  refine rx_callVi (ci := 1) X vsX1_hundredth mlX2_25 (kX1_hundredth hO (kb_a hO cb_B1 ha)) (kb_a hO cb_B1 ha) rfl rfl (by decide) (by decide) dX2_answer_15 rfl (Nat.le_of_ble_eq_true rfl) (fun r15 t15 h15 => ?_)
  obtain ⟨rfl, rfl⟩ := h15
  refine rx_top (show _ = w (34 + a) / 10000 by rw [rx_u_ne (by omega), rx_u_ne (by omega), hz.2.2.2.2.1]) ?_
  refine rx_putI (ci := 2) (i := 4) X (kc_255 hO) rfl rfl (by decide) inX2 tyX2 tyX2_ok nmX2 flX2_29 rfl rfl dX2_answer_18 ?_
  refine rx_aload_n (i := 0) X dX2_answer_21 rfl rfl ?_
  refine rx_aload_n (i := 1) X dX2_answer_22 rfl rfl ?_
  refine rx_getI (ci := 1) (i := 0) X (kb_a hO cb_B1 ha) rfl rfl (by decide) inX1 flX2_32 dX2_answer_23 ?_
  refine rx_top (show _ = 3 by rw [rx_u_ne (by omega), rx_u_ne (by omega), rx_u_ne (by omega)]; exact hz.1.trans hk) ?_
  refine rx_if_lt_f X dX2_answer_26 (by decide) ?_
  refine rx_aload_n (i := 1) X dX2_answer_29 rfl rfl ?_
  refine rx_getI (ci := 1) (i := 0) X (kb_a hO cb_B1 ha) rfl rfl (by decide) inX1 flX2_32 dX2_answer_30 ?_
  refine rx_top (show _ = 3 by rw [rx_u_ne (by omega), rx_u_ne (by omega), rx_u_ne (by omega)]; exact hz.1.trans hk) ?_
  refine rx_iconst (v := 5) X dX2_answer_33 (by decide) ?_
  refine rx_icmp_gt_f X dX2_answer_34 (by decide) ?_
  refine rx_gets (xs := [10, 11, 12, 11, 13, 14]) X (cb_zS hO) flX2_35z dX2_answer_37 ?_
  refine rx_aload_n (i := 1) X dX2_answer_40 rfl rfl ?_
  refine rx_getI (ci := 1) (i := 0) X (kb_a hO cb_B1 ha) rfl rfl (by decide) inX1 flX2_32 dX2_answer_41 ?_
  refine rx_top (show _ = 3 by rw [rx_u_ne (by omega), rx_u_ne (by omega), rx_u_ne (by omega)]; exact hz.1.trans hk) ?_
  refine rx_zld X (cb_zS hO) (a_in (by decide) (by decide)) dX2_answer_44 ?_
  refine rx_top (y := 11) rfl ?_
  refine rx_goto X dX2_answer_45 ?_
  refine rx_putI (ci := 2) (i := 5) X (kc_255 hO) rfl rfl (by decide) inX2 tyX2 tyX2_ok nmX2 flX2_38 rfl rfl dX2_answer_50 ?_
  refine rx_aload_n (i := 0) X dX2_answer_53 rfl rfl ?_
  refine rx_aload_n (i := 1) X dX2_answer_54 rfl rfl ?_
  refine rx_getI (ci := 1) (i := 0) X (kb_a hO cb_B1 ha) rfl rfl (by decide) inX1 flX2_32 dX2_answer_55 ?_
  refine rx_top (show _ = 3 by rw [rx_u_ne (by omega), rx_u_ne (by omega), rx_u_ne (by omega), rx_u_ne (by omega)]; exact hz.1.trans hk) ?_
  refine rx_if_lt_f X dX2_answer_58 (by decide) ?_
  refine rx_aload_n (i := 1) X dX2_answer_61 rfl rfl ?_
  refine rx_getI (ci := 1) (i := 0) X (kb_a hO cb_B1 ha) rfl rfl (by decide) inX1 flX2_32 dX2_answer_62 ?_
  refine rx_top (show _ = 3 by rw [rx_u_ne (by omega), rx_u_ne (by omega), rx_u_ne (by omega), rx_u_ne (by omega)]; exact hz.1.trans hk) ?_
  refine rx_iconst (v := 5) X dX2_answer_65 (by decide) ?_
  refine rx_icmp_gt_f X dX2_answer_66 (by decide) ?_
  refine rx_gets (xs := [20, 21, 24, 22, 23, 23]) X (cb_zM hO) flX2_41z dX2_answer_69 ?_
  refine rx_aload_n (i := 1) X dX2_answer_72 rfl rfl ?_
  refine rx_getI (ci := 1) (i := 0) X (kb_a hO cb_B1 ha) rfl rfl (by decide) inX1 flX2_32 dX2_answer_73 ?_
  refine rx_top (show _ = 3 by rw [rx_u_ne (by omega), rx_u_ne (by omega), rx_u_ne (by omega), rx_u_ne (by omega)]; exact hz.1.trans hk) ?_
  refine rx_zld X (cb_zM hO) (a_in (by decide) (by decide)) dX2_answer_76 ?_
  refine rx_top (y := 22) rfl ?_
  refine rx_goto X dX2_answer_77 ?_
  refine rx_putI (ci := 2) (i := 6) X (kc_255 hO) rfl rfl (by decide) inX2 tyX2 tyX2_ok nmX2 flX2_44 rfl rfl dX2_answer_82 ?_
  refine rx_aload_n (i := 0) X dX2_answer_85 rfl rfl ?_
  refine rx_iconst (v := 0) X dX2_answer_86 (by decide) ?_
  refine rx_putI (ci := 2) (i := 1) X (kc_255 hO) rfl rfl (by decide) inX2 tyX2 tyX2_ok nmX2 flX2_47 rfl rfl dX2_answer_87 ?_
  refine rx_aload_n (i := 0) X dX2_answer_90 rfl rfl ?_
  refine rx_iload_n (i := 3) X dX2_answer_91 rfl rfl ?_
  refine rx_if_eq_f X dX2_answer_92 (by decide) ?_
  refine rx_aload_n (i := 0) X dX2_answer_95 rfl rfl ?_
  refine rx_getI (ci := 2) (i := 5) X (kc_255 hO) rfl rfl (by decide) inX2 flX2_38 dX2_answer_96 ?_
  refine rx_top (show _ = 11 by simp only [rx_u_s]; rfl) ?_
  refine rx_goto X dX2_answer_99 ?_
  refine rx_iconst (v := 1) X dX2_answer_106 (by decide) ?_
  refine rx_callVi (ci := 2) X vsX2_begin mlX2_50 (kX2_b11_22 hO (bs := []) (d := 1) (ck_0 (by rw [rx_u_s]; rfl)) (by decide) (by decide) (by simp only [rx_u_s]; rfl)) (kc_255 hO) rfl rfl (by decide) (by decide) dX2_answer_107 rfl (Nat.le_of_ble_eq_true rfl) (fun r107 t107 h107 => ?_)
  obtain ⟨rfl, h107⟩ := h107
  refine rx_iret X dX2_answer_110 ?_
  rw [(ak3 hk).1]
  refine ⟨?_, fun k q1 q2 => ?_, h107.2.1, h107.2.2.2.1, ?_⟩
  · simp only [rx_u_s]
    rfl
  · rw [h107.1 k q1 q2]
    simp only [rx_u_ne q1]
  · rw [h107.2.2.2.2]
    simp only [rx_u_ne (show (256 : Nat) ≠ 255 by decide)]
    rfl
set_option maxHeartbeats 1000000 in
set_option maxRecDepth 100000 in
theorem kX2_an30 {l : Launch} {O : rx_O} (hO : cb_O O) {σ : rx_S} {a : Nat} {w : Nat → Int32} (ha : a < 6) (hz : cb_an (σ.1 (1 + 3 + a)) w a) (hk : w (10 + a) = 3) : rx_MI l O yX2_answer cX2_answer 4 (some .int) 6 [.ref 255, .ref (1 + 3 + a), .int (nI a), .int 0] σ (fun r τ => r = (ak_mk w a).1 ∧ (∀ k, k ≠ 255 → k ≠ 256 → τ.1 k = σ.1 k) ∧ τ.2 = σ.2 ∧ τ.1 255 1 = nI (ak_mk w a).2.length ∧ τ.1 256 = tr_f (σ.1 256) (ak_mk w a).2) := by
  refine rx_Met_of (own := RX2) rfl hO.2.1 vsX2_answer.2.2.2.2.2 (Nat.le_of_ble_eq_true rfl) rfl (fun p e s m args below meth c X => ?_)
  refine rx_aload_n (i := 0) X dX2_answer_0 rfl rfl ?_
  refine rx_iload_n (i := 2) X dX2_answer_1 rfl rfl ?_
  refine rx_putI (ci := 2) (i := 2) X (kc_255 hO) rfl rfl (by decide) inX2 tyX2 tyX2_ok nmX2 flX2_13 rfl rfl dX2_answer_2 ?_
  refine rx_aload_n (i := 0) X dX2_answer_5 rfl rfl ?_
  refine rx_aload_n (i := 1) X dX2_answer_6 rfl rfl ?_
  refine rx_getI (ci := 1) (i := 1) X (kb_a hO cb_B1 ha) rfl rfl (by decide) inX1 flX2_17 dX2_answer_7 ?_
  refine rx_top (show _ = w (16 + a) by rw [rx_u_ne (by omega)]; exact hz.2.1) ?_
  refine rx_putI (ci := 2) (i := 3) X (kc_255 hO) rfl rfl (by decide) inX2 tyX2 tyX2_ok nmX2 flX2_22 rfl rfl dX2_answer_10 ?_
  refine rx_aload_n (i := 0) X dX2_answer_13 rfl rfl ?_
  refine rx_aload_n (i := 1) X dX2_answer_14 rfl rfl ?_
  refine rx_callVi (ci := 1) X vsX1_hundredth mlX2_25 (kX1_hundredth hO (kb_a hO cb_B1 ha)) (kb_a hO cb_B1 ha) rfl rfl (by decide) (by decide) dX2_answer_15 rfl (Nat.le_of_ble_eq_true rfl) (fun r15 t15 h15 => ?_)
  obtain ⟨rfl, rfl⟩ := h15
  refine rx_top (show _ = w (34 + a) / 10000 by rw [rx_u_ne (by omega), rx_u_ne (by omega), hz.2.2.2.2.1]) ?_
  refine rx_putI (ci := 2) (i := 4) X (kc_255 hO) rfl rfl (by decide) inX2 tyX2 tyX2_ok nmX2 flX2_29 rfl rfl dX2_answer_18 ?_
  refine rx_aload_n (i := 0) X dX2_answer_21 rfl rfl ?_
  refine rx_aload_n (i := 1) X dX2_answer_22 rfl rfl ?_
  refine rx_getI (ci := 1) (i := 0) X (kb_a hO cb_B1 ha) rfl rfl (by decide) inX1 flX2_32 dX2_answer_23 ?_
  refine rx_top (show _ = 3 by rw [rx_u_ne (by omega), rx_u_ne (by omega), rx_u_ne (by omega)]; exact hz.1.trans hk) ?_
  refine rx_if_lt_f X dX2_answer_26 (by decide) ?_
  refine rx_aload_n (i := 1) X dX2_answer_29 rfl rfl ?_
  refine rx_getI (ci := 1) (i := 0) X (kb_a hO cb_B1 ha) rfl rfl (by decide) inX1 flX2_32 dX2_answer_30 ?_
  refine rx_top (show _ = 3 by rw [rx_u_ne (by omega), rx_u_ne (by omega), rx_u_ne (by omega)]; exact hz.1.trans hk) ?_
  refine rx_iconst (v := 5) X dX2_answer_33 (by decide) ?_
  refine rx_icmp_gt_f X dX2_answer_34 (by decide) ?_
  refine rx_gets (xs := [10, 11, 12, 11, 13, 14]) X (cb_zS hO) flX2_35z dX2_answer_37 ?_
  refine rx_aload_n (i := 1) X dX2_answer_40 rfl rfl ?_
  refine rx_getI (ci := 1) (i := 0) X (kb_a hO cb_B1 ha) rfl rfl (by decide) inX1 flX2_32 dX2_answer_41 ?_
  refine rx_top (show _ = 3 by rw [rx_u_ne (by omega), rx_u_ne (by omega), rx_u_ne (by omega)]; exact hz.1.trans hk) ?_
  refine rx_zld X (cb_zS hO) (a_in (by decide) (by decide)) dX2_answer_44 ?_
  refine rx_top (y := 11) rfl ?_
  refine rx_goto X dX2_answer_45 ?_
  refine rx_putI (ci := 2) (i := 5) X (kc_255 hO) rfl rfl (by decide) inX2 tyX2 tyX2_ok nmX2 flX2_38 rfl rfl dX2_answer_50 ?_
  refine rx_aload_n (i := 0) X dX2_answer_53 rfl rfl ?_
  refine rx_aload_n (i := 1) X dX2_answer_54 rfl rfl ?_
  refine rx_getI (ci := 1) (i := 0) X (kb_a hO cb_B1 ha) rfl rfl (by decide) inX1 flX2_32 dX2_answer_55 ?_
  refine rx_top (show _ = 3 by rw [rx_u_ne (by omega), rx_u_ne (by omega), rx_u_ne (by omega), rx_u_ne (by omega)]; exact hz.1.trans hk) ?_
  refine rx_if_lt_f X dX2_answer_58 (by decide) ?_
  refine rx_aload_n (i := 1) X dX2_answer_61 rfl rfl ?_
  refine rx_getI (ci := 1) (i := 0) X (kb_a hO cb_B1 ha) rfl rfl (by decide) inX1 flX2_32 dX2_answer_62 ?_
  refine rx_top (show _ = 3 by rw [rx_u_ne (by omega), rx_u_ne (by omega), rx_u_ne (by omega), rx_u_ne (by omega)]; exact hz.1.trans hk) ?_
  refine rx_iconst (v := 5) X dX2_answer_65 (by decide) ?_
  refine rx_icmp_gt_f X dX2_answer_66 (by decide) ?_
  refine rx_gets (xs := [20, 21, 24, 22, 23, 23]) X (cb_zM hO) flX2_41z dX2_answer_69 ?_
  refine rx_aload_n (i := 1) X dX2_answer_72 rfl rfl ?_
  refine rx_getI (ci := 1) (i := 0) X (kb_a hO cb_B1 ha) rfl rfl (by decide) inX1 flX2_32 dX2_answer_73 ?_
  refine rx_top (show _ = 3 by rw [rx_u_ne (by omega), rx_u_ne (by omega), rx_u_ne (by omega), rx_u_ne (by omega)]; exact hz.1.trans hk) ?_
  refine rx_zld X (cb_zM hO) (a_in (by decide) (by decide)) dX2_answer_76 ?_
  refine rx_top (y := 22) rfl ?_
  refine rx_goto X dX2_answer_77 ?_
  refine rx_putI (ci := 2) (i := 6) X (kc_255 hO) rfl rfl (by decide) inX2 tyX2 tyX2_ok nmX2 flX2_44 rfl rfl dX2_answer_82 ?_
  refine rx_aload_n (i := 0) X dX2_answer_85 rfl rfl ?_
  refine rx_iconst (v := 0) X dX2_answer_86 (by decide) ?_
  refine rx_putI (ci := 2) (i := 1) X (kc_255 hO) rfl rfl (by decide) inX2 tyX2 tyX2_ok nmX2 flX2_47 rfl rfl dX2_answer_87 ?_
  refine rx_aload_n (i := 0) X dX2_answer_90 rfl rfl ?_
  refine rx_iload_n (i := 3) X dX2_answer_91 rfl rfl ?_
  refine rx_if_eq_t X dX2_answer_92 (by decide) ?_
  refine rx_aload_n (i := 0) X dX2_answer_102 rfl rfl ?_
  refine rx_getI (ci := 2) (i := 6) X (kc_255 hO) rfl rfl (by decide) inX2 flX2_44 dX2_answer_103 ?_
  refine rx_top (show _ = 22 by simp only [rx_u_s]; rfl) ?_
  refine rx_iconst (v := 1) X dX2_answer_106 (by decide) ?_
  refine rx_callVi (ci := 2) X vsX2_begin mlX2_50 (kX2_b22 hO (bs := []) (d := 1) (ck_0 (by rw [rx_u_s]; rfl)) (by decide) (by decide)) (kc_255 hO) rfl rfl (by decide) (by decide) dX2_answer_107 rfl (Nat.le_of_ble_eq_true rfl) (fun r107 t107 h107 => ?_)
  obtain ⟨rfl, h107⟩ := h107
  refine rx_iret X dX2_answer_110 ?_
  rw [(ak3 hk).2]
  refine ⟨?_, fun k q1 q2 => ?_, h107.2.1, h107.2.2.2.1, ?_⟩
  · simp only [rx_u_s]
    rfl
  · rw [h107.1 k q1 q2]
    simp only [rx_u_ne q1]
  · rw [h107.2.2.2.2]
    simp only [rx_u_ne (show (256 : Nat) ≠ 255 by decide)]
    rfl
set_option maxHeartbeats 1000000 in
set_option maxRecDepth 100000 in
theorem kX2_an41 {l : Launch} {O : rx_O} (hO : cb_O O) {σ : rx_S} {a : Nat} {w : Nat → Int32} (ha : a < 6) (hz : cb_an (σ.1 (1 + 3 + a)) w a) (hk : w (10 + a) = 4) : rx_MI l O yX2_answer cX2_answer 4 (some .int) 6 [.ref 255, .ref (1 + 3 + a), .int (nI a), .int 1] σ (fun r τ => r = (ak_sz w a).1 ∧ (∀ k, k ≠ 255 → k ≠ 256 → τ.1 k = σ.1 k) ∧ τ.2 = σ.2 ∧ τ.1 255 1 = nI (ak_sz w a).2.length ∧ τ.1 256 = tr_f (σ.1 256) (ak_sz w a).2) := by
  refine rx_Met_of (own := RX2) rfl hO.2.1 vsX2_answer.2.2.2.2.2 (Nat.le_of_ble_eq_true rfl) rfl (fun p e s m args below meth c X => ?_)
  refine rx_aload_n (i := 0) X dX2_answer_0 rfl rfl ?_
  refine rx_iload_n (i := 2) X dX2_answer_1 rfl rfl ?_
  refine rx_putI (ci := 2) (i := 2) X (kc_255 hO) rfl rfl (by decide) inX2 tyX2 tyX2_ok nmX2 flX2_13 rfl rfl dX2_answer_2 ?_
  refine rx_aload_n (i := 0) X dX2_answer_5 rfl rfl ?_
  refine rx_aload_n (i := 1) X dX2_answer_6 rfl rfl ?_
  refine rx_getI (ci := 1) (i := 1) X (kb_a hO cb_B1 ha) rfl rfl (by decide) inX1 flX2_17 dX2_answer_7 ?_
  refine rx_top (show _ = w (16 + a) by rw [rx_u_ne (by omega)]; exact hz.2.1) ?_
  refine rx_putI (ci := 2) (i := 3) X (kc_255 hO) rfl rfl (by decide) inX2 tyX2 tyX2_ok nmX2 flX2_22 rfl rfl dX2_answer_10 ?_
  refine rx_aload_n (i := 0) X dX2_answer_13 rfl rfl ?_
  refine rx_aload_n (i := 1) X dX2_answer_14 rfl rfl ?_
  refine rx_callVi (ci := 1) X vsX1_hundredth mlX2_25 (kX1_hundredth hO (kb_a hO cb_B1 ha)) (kb_a hO cb_B1 ha) rfl rfl (by decide) (by decide) dX2_answer_15 rfl (Nat.le_of_ble_eq_true rfl) (fun r15 t15 h15 => ?_)
  obtain ⟨rfl, rfl⟩ := h15
  refine rx_top (show _ = w (34 + a) / 10000 by rw [rx_u_ne (by omega), rx_u_ne (by omega), hz.2.2.2.2.1]) ?_
  refine rx_putI (ci := 2) (i := 4) X (kc_255 hO) rfl rfl (by decide) inX2 tyX2 tyX2_ok nmX2 flX2_29 rfl rfl dX2_answer_18 ?_
  refine rx_aload_n (i := 0) X dX2_answer_21 rfl rfl ?_
  refine rx_aload_n (i := 1) X dX2_answer_22 rfl rfl ?_
  refine rx_getI (ci := 1) (i := 0) X (kb_a hO cb_B1 ha) rfl rfl (by decide) inX1 flX2_32 dX2_answer_23 ?_
  refine rx_top (show _ = 4 by rw [rx_u_ne (by omega), rx_u_ne (by omega), rx_u_ne (by omega)]; exact hz.1.trans hk) ?_
  refine rx_if_lt_f X dX2_answer_26 (by decide) ?_
  refine rx_aload_n (i := 1) X dX2_answer_29 rfl rfl ?_
  refine rx_getI (ci := 1) (i := 0) X (kb_a hO cb_B1 ha) rfl rfl (by decide) inX1 flX2_32 dX2_answer_30 ?_
  refine rx_top (show _ = 4 by rw [rx_u_ne (by omega), rx_u_ne (by omega), rx_u_ne (by omega)]; exact hz.1.trans hk) ?_
  refine rx_iconst (v := 5) X dX2_answer_33 (by decide) ?_
  refine rx_icmp_gt_f X dX2_answer_34 (by decide) ?_
  refine rx_gets (xs := [10, 11, 12, 11, 13, 14]) X (cb_zS hO) flX2_35z dX2_answer_37 ?_
  refine rx_aload_n (i := 1) X dX2_answer_40 rfl rfl ?_
  refine rx_getI (ci := 1) (i := 0) X (kb_a hO cb_B1 ha) rfl rfl (by decide) inX1 flX2_32 dX2_answer_41 ?_
  refine rx_top (show _ = 4 by rw [rx_u_ne (by omega), rx_u_ne (by omega), rx_u_ne (by omega)]; exact hz.1.trans hk) ?_
  refine rx_zld X (cb_zS hO) (a_in (by decide) (by decide)) dX2_answer_44 ?_
  refine rx_top (y := 13) rfl ?_
  refine rx_goto X dX2_answer_45 ?_
  refine rx_putI (ci := 2) (i := 5) X (kc_255 hO) rfl rfl (by decide) inX2 tyX2 tyX2_ok nmX2 flX2_38 rfl rfl dX2_answer_50 ?_
  refine rx_aload_n (i := 0) X dX2_answer_53 rfl rfl ?_
  refine rx_aload_n (i := 1) X dX2_answer_54 rfl rfl ?_
  refine rx_getI (ci := 1) (i := 0) X (kb_a hO cb_B1 ha) rfl rfl (by decide) inX1 flX2_32 dX2_answer_55 ?_
  refine rx_top (show _ = 4 by rw [rx_u_ne (by omega), rx_u_ne (by omega), rx_u_ne (by omega), rx_u_ne (by omega)]; exact hz.1.trans hk) ?_
  refine rx_if_lt_f X dX2_answer_58 (by decide) ?_
  refine rx_aload_n (i := 1) X dX2_answer_61 rfl rfl ?_
  refine rx_getI (ci := 1) (i := 0) X (kb_a hO cb_B1 ha) rfl rfl (by decide) inX1 flX2_32 dX2_answer_62 ?_
  refine rx_top (show _ = 4 by rw [rx_u_ne (by omega), rx_u_ne (by omega), rx_u_ne (by omega), rx_u_ne (by omega)]; exact hz.1.trans hk) ?_
  refine rx_iconst (v := 5) X dX2_answer_65 (by decide) ?_
  refine rx_icmp_gt_f X dX2_answer_66 (by decide) ?_
  refine rx_gets (xs := [20, 21, 24, 22, 23, 23]) X (cb_zM hO) flX2_41z dX2_answer_69 ?_
  refine rx_aload_n (i := 1) X dX2_answer_72 rfl rfl ?_
  refine rx_getI (ci := 1) (i := 0) X (kb_a hO cb_B1 ha) rfl rfl (by decide) inX1 flX2_32 dX2_answer_73 ?_
  refine rx_top (show _ = 4 by rw [rx_u_ne (by omega), rx_u_ne (by omega), rx_u_ne (by omega), rx_u_ne (by omega)]; exact hz.1.trans hk) ?_
  refine rx_zld X (cb_zM hO) (a_in (by decide) (by decide)) dX2_answer_76 ?_
  refine rx_top (y := 23) rfl ?_
  refine rx_goto X dX2_answer_77 ?_
  refine rx_putI (ci := 2) (i := 6) X (kc_255 hO) rfl rfl (by decide) inX2 tyX2 tyX2_ok nmX2 flX2_44 rfl rfl dX2_answer_82 ?_
  refine rx_aload_n (i := 0) X dX2_answer_85 rfl rfl ?_
  refine rx_iconst (v := 0) X dX2_answer_86 (by decide) ?_
  refine rx_putI (ci := 2) (i := 1) X (kc_255 hO) rfl rfl (by decide) inX2 tyX2 tyX2_ok nmX2 flX2_47 rfl rfl dX2_answer_87 ?_
  refine rx_aload_n (i := 0) X dX2_answer_90 rfl rfl ?_
  refine rx_iload_n (i := 3) X dX2_answer_91 rfl rfl ?_
  refine rx_if_eq_f X dX2_answer_92 (by decide) ?_
  refine rx_aload_n (i := 0) X dX2_answer_95 rfl rfl ?_
  refine rx_getI (ci := 2) (i := 5) X (kc_255 hO) rfl rfl (by decide) inX2 flX2_38 dX2_answer_96 ?_
  refine rx_top (show _ = 13 by simp only [rx_u_s]; rfl) ?_
  refine rx_goto X dX2_answer_99 ?_
  refine rx_iconst (v := 1) X dX2_answer_106 (by decide) ?_
  refine rx_callVi (ci := 2) X vsX2_begin mlX2_50 (kX2_b13 hO (bs := []) (d := 1) (ck_0 (by rw [rx_u_s]; rfl)) (by decide) (by decide)) (kc_255 hO) rfl rfl (by decide) (by decide) dX2_answer_107 rfl (Nat.le_of_ble_eq_true rfl) (fun r107 t107 h107 => ?_)
  obtain ⟨rfl, h107⟩ := h107
  refine rx_iret X dX2_answer_110 ?_
  rw [(ak4 hk).1]
  refine ⟨?_, fun k q1 q2 => ?_, h107.2.1, h107.2.2.2.1, ?_⟩
  · simp only [rx_u_s]
    rfl
  · rw [h107.1 k q1 q2]
    simp only [rx_u_ne q1]
  · rw [h107.2.2.2.2]
    simp only [rx_u_ne (show (256 : Nat) ≠ 255 by decide)]
    rfl
set_option maxHeartbeats 1000000 in
set_option maxRecDepth 100000 in
theorem kX2_an40 {l : Launch} {O : rx_O} (hO : cb_O O) {σ : rx_S} {a : Nat} {w : Nat → Int32} (ha : a < 6) (hz : cb_an (σ.1 (1 + 3 + a)) w a) (hk : w (10 + a) = 4) : rx_MI l O yX2_answer cX2_answer 4 (some .int) 6 [.ref 255, .ref (1 + 3 + a), .int (nI a), .int 0] σ (fun r τ => r = (ak_mk w a).1 ∧ (∀ k, k ≠ 255 → k ≠ 256 → τ.1 k = σ.1 k) ∧ τ.2 = σ.2 ∧ τ.1 255 1 = nI (ak_mk w a).2.length ∧ τ.1 256 = tr_f (σ.1 256) (ak_mk w a).2) := by
  refine rx_Met_of (own := RX2) rfl hO.2.1 vsX2_answer.2.2.2.2.2 (Nat.le_of_ble_eq_true rfl) rfl (fun p e s m args below meth c X => ?_)
  refine rx_aload_n (i := 0) X dX2_answer_0 rfl rfl ?_
  refine rx_iload_n (i := 2) X dX2_answer_1 rfl rfl ?_
  refine rx_putI (ci := 2) (i := 2) X (kc_255 hO) rfl rfl (by decide) inX2 tyX2 tyX2_ok nmX2 flX2_13 rfl rfl dX2_answer_2 ?_
  refine rx_aload_n (i := 0) X dX2_answer_5 rfl rfl ?_
  refine rx_aload_n (i := 1) X dX2_answer_6 rfl rfl ?_
  refine rx_getI (ci := 1) (i := 1) X (kb_a hO cb_B1 ha) rfl rfl (by decide) inX1 flX2_17 dX2_answer_7 ?_
  refine rx_top (show _ = w (16 + a) by rw [rx_u_ne (by omega)]; exact hz.2.1) ?_
  refine rx_putI (ci := 2) (i := 3) X (kc_255 hO) rfl rfl (by decide) inX2 tyX2 tyX2_ok nmX2 flX2_22 rfl rfl dX2_answer_10 ?_
  refine rx_aload_n (i := 0) X dX2_answer_13 rfl rfl ?_
  refine rx_aload_n (i := 1) X dX2_answer_14 rfl rfl ?_
  refine rx_callVi (ci := 1) X vsX1_hundredth mlX2_25 (kX1_hundredth hO (kb_a hO cb_B1 ha)) (kb_a hO cb_B1 ha) rfl rfl (by decide) (by decide) dX2_answer_15 rfl (Nat.le_of_ble_eq_true rfl) (fun r15 t15 h15 => ?_)
  obtain ⟨rfl, rfl⟩ := h15
  refine rx_top (show _ = w (34 + a) / 10000 by rw [rx_u_ne (by omega), rx_u_ne (by omega), hz.2.2.2.2.1]) ?_
  refine rx_putI (ci := 2) (i := 4) X (kc_255 hO) rfl rfl (by decide) inX2 tyX2 tyX2_ok nmX2 flX2_29 rfl rfl dX2_answer_18 ?_
  refine rx_aload_n (i := 0) X dX2_answer_21 rfl rfl ?_
  refine rx_aload_n (i := 1) X dX2_answer_22 rfl rfl ?_
  refine rx_getI (ci := 1) (i := 0) X (kb_a hO cb_B1 ha) rfl rfl (by decide) inX1 flX2_32 dX2_answer_23 ?_
  refine rx_top (show _ = 4 by rw [rx_u_ne (by omega), rx_u_ne (by omega), rx_u_ne (by omega)]; exact hz.1.trans hk) ?_
  refine rx_if_lt_f X dX2_answer_26 (by decide) ?_
  refine rx_aload_n (i := 1) X dX2_answer_29 rfl rfl ?_
  refine rx_getI (ci := 1) (i := 0) X (kb_a hO cb_B1 ha) rfl rfl (by decide) inX1 flX2_32 dX2_answer_30 ?_
  refine rx_top (show _ = 4 by rw [rx_u_ne (by omega), rx_u_ne (by omega), rx_u_ne (by omega)]; exact hz.1.trans hk) ?_
  refine rx_iconst (v := 5) X dX2_answer_33 (by decide) ?_
  refine rx_icmp_gt_f X dX2_answer_34 (by decide) ?_
  refine rx_gets (xs := [10, 11, 12, 11, 13, 14]) X (cb_zS hO) flX2_35z dX2_answer_37 ?_
  refine rx_aload_n (i := 1) X dX2_answer_40 rfl rfl ?_
  refine rx_getI (ci := 1) (i := 0) X (kb_a hO cb_B1 ha) rfl rfl (by decide) inX1 flX2_32 dX2_answer_41 ?_
  refine rx_top (show _ = 4 by rw [rx_u_ne (by omega), rx_u_ne (by omega), rx_u_ne (by omega)]; exact hz.1.trans hk) ?_
  refine rx_zld X (cb_zS hO) (a_in (by decide) (by decide)) dX2_answer_44 ?_
  refine rx_top (y := 13) rfl ?_
  refine rx_goto X dX2_answer_45 ?_
  refine rx_putI (ci := 2) (i := 5) X (kc_255 hO) rfl rfl (by decide) inX2 tyX2 tyX2_ok nmX2 flX2_38 rfl rfl dX2_answer_50 ?_
  refine rx_aload_n (i := 0) X dX2_answer_53 rfl rfl ?_
  refine rx_aload_n (i := 1) X dX2_answer_54 rfl rfl ?_
  refine rx_getI (ci := 1) (i := 0) X (kb_a hO cb_B1 ha) rfl rfl (by decide) inX1 flX2_32 dX2_answer_55 ?_
  refine rx_top (show _ = 4 by rw [rx_u_ne (by omega), rx_u_ne (by omega), rx_u_ne (by omega), rx_u_ne (by omega)]; exact hz.1.trans hk) ?_
  refine rx_if_lt_f X dX2_answer_58 (by decide) ?_
  refine rx_aload_n (i := 1) X dX2_answer_61 rfl rfl ?_
  refine rx_getI (ci := 1) (i := 0) X (kb_a hO cb_B1 ha) rfl rfl (by decide) inX1 flX2_32 dX2_answer_62 ?_
  refine rx_top (show _ = 4 by rw [rx_u_ne (by omega), rx_u_ne (by omega), rx_u_ne (by omega), rx_u_ne (by omega)]; exact hz.1.trans hk) ?_
  refine rx_iconst (v := 5) X dX2_answer_65 (by decide) ?_
  refine rx_icmp_gt_f X dX2_answer_66 (by decide) ?_
  refine rx_gets (xs := [20, 21, 24, 22, 23, 23]) X (cb_zM hO) flX2_41z dX2_answer_69 ?_
  refine rx_aload_n (i := 1) X dX2_answer_72 rfl rfl ?_
  refine rx_getI (ci := 1) (i := 0) X (kb_a hO cb_B1 ha) rfl rfl (by decide) inX1 flX2_32 dX2_answer_73 ?_
  refine rx_top (show _ = 4 by rw [rx_u_ne (by omega), rx_u_ne (by omega), rx_u_ne (by omega), rx_u_ne (by omega)]; exact hz.1.trans hk) ?_
  refine rx_zld X (cb_zM hO) (a_in (by decide) (by decide)) dX2_answer_76 ?_
  refine rx_top (y := 23) rfl ?_
  refine rx_goto X dX2_answer_77 ?_
  refine rx_putI (ci := 2) (i := 6) X (kc_255 hO) rfl rfl (by decide) inX2 tyX2 tyX2_ok nmX2 flX2_44 rfl rfl dX2_answer_82 ?_
  refine rx_aload_n (i := 0) X dX2_answer_85 rfl rfl ?_
  refine rx_iconst (v := 0) X dX2_answer_86 (by decide) ?_
  refine rx_putI (ci := 2) (i := 1) X (kc_255 hO) rfl rfl (by decide) inX2 tyX2 tyX2_ok nmX2 flX2_47 rfl rfl dX2_answer_87 ?_
  refine rx_aload_n (i := 0) X dX2_answer_90 rfl rfl ?_
  refine rx_iload_n (i := 3) X dX2_answer_91 rfl rfl ?_
  refine rx_if_eq_t X dX2_answer_92 (by decide) ?_
  refine rx_aload_n (i := 0) X dX2_answer_102 rfl rfl ?_
  refine rx_getI (ci := 2) (i := 6) X (kc_255 hO) rfl rfl (by decide) inX2 flX2_44 dX2_answer_103 ?_
  refine rx_top (show _ = 23 by simp only [rx_u_s]; rfl) ?_
  refine rx_iconst (v := 1) X dX2_answer_106 (by decide) ?_
  refine rx_callVi (ci := 2) X vsX2_begin mlX2_50 (kX2_b23_13 hO (bs := []) (d := 1) (ck_0 (by rw [rx_u_s]; rfl)) (by decide) (by decide) (by simp only [rx_u_s]; rfl)) (kc_255 hO) rfl rfl (by decide) (by decide) dX2_answer_107 rfl (Nat.le_of_ble_eq_true rfl) (fun r107 t107 h107 => ?_)
  obtain ⟨rfl, h107⟩ := h107
  refine rx_iret X dX2_answer_110 ?_
  rw [(ak4 hk).2]
  refine ⟨?_, fun k q1 q2 => ?_, h107.2.1, h107.2.2.2.1, ?_⟩
  · simp only [rx_u_s]
    rfl
  · rw [h107.1 k q1 q2]
    simp only [rx_u_ne q1]
  · rw [h107.2.2.2.2]
    simp only [rx_u_ne (show (256 : Nat) ≠ 255 by decide)]
    rfl
set_option maxHeartbeats 1000000 in
set_option maxRecDepth 100000 in
theorem kX2_an51 {l : Launch} {O : rx_O} (hO : cb_O O) {σ : rx_S} {a : Nat} {w : Nat → Int32} (ha : a < 6) (hz : cb_an (σ.1 (1 + 3 + a)) w a) (hk : w (10 + a) = 5) : rx_MI l O yX2_answer cX2_answer 4 (some .int) 6 [.ref 255, .ref (1 + 3 + a), .int (nI a), .int 1] σ (fun r τ => r = (ak_sz w a).1 ∧ (∀ k, k ≠ 255 → k ≠ 256 → τ.1 k = σ.1 k) ∧ τ.2 = σ.2 ∧ τ.1 255 1 = nI (ak_sz w a).2.length ∧ τ.1 256 = tr_f (σ.1 256) (ak_sz w a).2) := by
  refine rx_Met_of (own := RX2) rfl hO.2.1 vsX2_answer.2.2.2.2.2 (Nat.le_of_ble_eq_true rfl) rfl (fun p e s m args below meth c X => ?_)
  refine rx_aload_n (i := 0) X dX2_answer_0 rfl rfl ?_
  refine rx_iload_n (i := 2) X dX2_answer_1 rfl rfl ?_
  refine rx_putI (ci := 2) (i := 2) X (kc_255 hO) rfl rfl (by decide) inX2 tyX2 tyX2_ok nmX2 flX2_13 rfl rfl dX2_answer_2 ?_
  refine rx_aload_n (i := 0) X dX2_answer_5 rfl rfl ?_
  refine rx_aload_n (i := 1) X dX2_answer_6 rfl rfl ?_
  refine rx_getI (ci := 1) (i := 1) X (kb_a hO cb_B1 ha) rfl rfl (by decide) inX1 flX2_17 dX2_answer_7 ?_
  refine rx_top (show _ = w (16 + a) by rw [rx_u_ne (by omega)]; exact hz.2.1) ?_
  refine rx_putI (ci := 2) (i := 3) X (kc_255 hO) rfl rfl (by decide) inX2 tyX2 tyX2_ok nmX2 flX2_22 rfl rfl dX2_answer_10 ?_
  refine rx_aload_n (i := 0) X dX2_answer_13 rfl rfl ?_
  refine rx_aload_n (i := 1) X dX2_answer_14 rfl rfl ?_
  refine rx_callVi (ci := 1) X vsX1_hundredth mlX2_25 (kX1_hundredth hO (kb_a hO cb_B1 ha)) (kb_a hO cb_B1 ha) rfl rfl (by decide) (by decide) dX2_answer_15 rfl (Nat.le_of_ble_eq_true rfl) (fun r15 t15 h15 => ?_)
  obtain ⟨rfl, rfl⟩ := h15
  refine rx_top (show _ = w (34 + a) / 10000 by rw [rx_u_ne (by omega), rx_u_ne (by omega), hz.2.2.2.2.1]) ?_
  refine rx_putI (ci := 2) (i := 4) X (kc_255 hO) rfl rfl (by decide) inX2 tyX2 tyX2_ok nmX2 flX2_29 rfl rfl dX2_answer_18 ?_
  refine rx_aload_n (i := 0) X dX2_answer_21 rfl rfl ?_
  refine rx_aload_n (i := 1) X dX2_answer_22 rfl rfl ?_
  refine rx_getI (ci := 1) (i := 0) X (kb_a hO cb_B1 ha) rfl rfl (by decide) inX1 flX2_32 dX2_answer_23 ?_
  refine rx_top (show _ = 5 by rw [rx_u_ne (by omega), rx_u_ne (by omega), rx_u_ne (by omega)]; exact hz.1.trans hk) ?_
  refine rx_if_lt_f X dX2_answer_26 (by decide) ?_
  refine rx_aload_n (i := 1) X dX2_answer_29 rfl rfl ?_
  refine rx_getI (ci := 1) (i := 0) X (kb_a hO cb_B1 ha) rfl rfl (by decide) inX1 flX2_32 dX2_answer_30 ?_
  refine rx_top (show _ = 5 by rw [rx_u_ne (by omega), rx_u_ne (by omega), rx_u_ne (by omega)]; exact hz.1.trans hk) ?_
  refine rx_iconst (v := 5) X dX2_answer_33 (by decide) ?_
  refine rx_icmp_gt_f X dX2_answer_34 (by decide) ?_
  refine rx_gets (xs := [10, 11, 12, 11, 13, 14]) X (cb_zS hO) flX2_35z dX2_answer_37 ?_
  refine rx_aload_n (i := 1) X dX2_answer_40 rfl rfl ?_
  refine rx_getI (ci := 1) (i := 0) X (kb_a hO cb_B1 ha) rfl rfl (by decide) inX1 flX2_32 dX2_answer_41 ?_
  refine rx_top (show _ = 5 by rw [rx_u_ne (by omega), rx_u_ne (by omega), rx_u_ne (by omega)]; exact hz.1.trans hk) ?_
  refine rx_zld X (cb_zS hO) (a_in (by decide) (by decide)) dX2_answer_44 ?_
  refine rx_top (y := 14) rfl ?_
  refine rx_goto X dX2_answer_45 ?_
  refine rx_putI (ci := 2) (i := 5) X (kc_255 hO) rfl rfl (by decide) inX2 tyX2 tyX2_ok nmX2 flX2_38 rfl rfl dX2_answer_50 ?_
  refine rx_aload_n (i := 0) X dX2_answer_53 rfl rfl ?_
  refine rx_aload_n (i := 1) X dX2_answer_54 rfl rfl ?_
  refine rx_getI (ci := 1) (i := 0) X (kb_a hO cb_B1 ha) rfl rfl (by decide) inX1 flX2_32 dX2_answer_55 ?_
  refine rx_top (show _ = 5 by rw [rx_u_ne (by omega), rx_u_ne (by omega), rx_u_ne (by omega), rx_u_ne (by omega)]; exact hz.1.trans hk) ?_
  refine rx_if_lt_f X dX2_answer_58 (by decide) ?_
  refine rx_aload_n (i := 1) X dX2_answer_61 rfl rfl ?_
  refine rx_getI (ci := 1) (i := 0) X (kb_a hO cb_B1 ha) rfl rfl (by decide) inX1 flX2_32 dX2_answer_62 ?_
  refine rx_top (show _ = 5 by rw [rx_u_ne (by omega), rx_u_ne (by omega), rx_u_ne (by omega), rx_u_ne (by omega)]; exact hz.1.trans hk) ?_
  refine rx_iconst (v := 5) X dX2_answer_65 (by decide) ?_
  refine rx_icmp_gt_f X dX2_answer_66 (by decide) ?_
  refine rx_gets (xs := [20, 21, 24, 22, 23, 23]) X (cb_zM hO) flX2_41z dX2_answer_69 ?_
  refine rx_aload_n (i := 1) X dX2_answer_72 rfl rfl ?_
  refine rx_getI (ci := 1) (i := 0) X (kb_a hO cb_B1 ha) rfl rfl (by decide) inX1 flX2_32 dX2_answer_73 ?_
  refine rx_top (show _ = 5 by rw [rx_u_ne (by omega), rx_u_ne (by omega), rx_u_ne (by omega), rx_u_ne (by omega)]; exact hz.1.trans hk) ?_
  refine rx_zld X (cb_zM hO) (a_in (by decide) (by decide)) dX2_answer_76 ?_
  refine rx_top (y := 23) rfl ?_
  refine rx_goto X dX2_answer_77 ?_
  refine rx_putI (ci := 2) (i := 6) X (kc_255 hO) rfl rfl (by decide) inX2 tyX2 tyX2_ok nmX2 flX2_44 rfl rfl dX2_answer_82 ?_
  refine rx_aload_n (i := 0) X dX2_answer_85 rfl rfl ?_
  refine rx_iconst (v := 0) X dX2_answer_86 (by decide) ?_
  refine rx_putI (ci := 2) (i := 1) X (kc_255 hO) rfl rfl (by decide) inX2 tyX2 tyX2_ok nmX2 flX2_47 rfl rfl dX2_answer_87 ?_
  refine rx_aload_n (i := 0) X dX2_answer_90 rfl rfl ?_
  refine rx_iload_n (i := 3) X dX2_answer_91 rfl rfl ?_
  refine rx_if_eq_f X dX2_answer_92 (by decide) ?_
  refine rx_aload_n (i := 0) X dX2_answer_95 rfl rfl ?_
  refine rx_getI (ci := 2) (i := 5) X (kc_255 hO) rfl rfl (by decide) inX2 flX2_38 dX2_answer_96 ?_
  refine rx_top (show _ = 14 by simp only [rx_u_s]; rfl) ?_
  refine rx_goto X dX2_answer_99 ?_
  refine rx_iconst (v := 1) X dX2_answer_106 (by decide) ?_
  refine rx_callVi (ci := 2) X vsX2_begin mlX2_50 (kX2_b14 hO (bs := []) (d := 1) (ck_0 (by rw [rx_u_s]; rfl)) (by decide) (by decide)) (kc_255 hO) rfl rfl (by decide) (by decide) dX2_answer_107 rfl (Nat.le_of_ble_eq_true rfl) (fun r107 t107 h107 => ?_)
  obtain ⟨rfl, h107⟩ := h107
  refine rx_iret X dX2_answer_110 ?_
  rw [(ak5 hk).1]
  refine ⟨?_, fun k q1 q2 => ?_, h107.2.1, h107.2.2.2.1, ?_⟩
  · simp only [rx_u_s]
    rfl
  · rw [h107.1 k q1 q2]
    simp only [rx_u_ne q1]
  · rw [h107.2.2.2.2]
    simp only [rx_u_ne (show (256 : Nat) ≠ 255 by decide)]
    rfl
set_option maxHeartbeats 1000000 in
set_option maxRecDepth 100000 in
theorem kX2_an50 {l : Launch} {O : rx_O} (hO : cb_O O) {σ : rx_S} {a : Nat} {w : Nat → Int32} (ha : a < 6) (hz : cb_an (σ.1 (1 + 3 + a)) w a) (hk : w (10 + a) = 5) : rx_MI l O yX2_answer cX2_answer 4 (some .int) 6 [.ref 255, .ref (1 + 3 + a), .int (nI a), .int 0] σ (fun r τ => r = (ak_mk w a).1 ∧ (∀ k, k ≠ 255 → k ≠ 256 → τ.1 k = σ.1 k) ∧ τ.2 = σ.2 ∧ τ.1 255 1 = nI (ak_mk w a).2.length ∧ τ.1 256 = tr_f (σ.1 256) (ak_mk w a).2) := by
  refine rx_Met_of (own := RX2) rfl hO.2.1 vsX2_answer.2.2.2.2.2 (Nat.le_of_ble_eq_true rfl) rfl (fun p e s m args below meth c X => ?_)
  refine rx_aload_n (i := 0) X dX2_answer_0 rfl rfl ?_
  refine rx_iload_n (i := 2) X dX2_answer_1 rfl rfl ?_
  refine rx_putI (ci := 2) (i := 2) X (kc_255 hO) rfl rfl (by decide) inX2 tyX2 tyX2_ok nmX2 flX2_13 rfl rfl dX2_answer_2 ?_
  refine rx_aload_n (i := 0) X dX2_answer_5 rfl rfl ?_
  refine rx_aload_n (i := 1) X dX2_answer_6 rfl rfl ?_
  refine rx_getI (ci := 1) (i := 1) X (kb_a hO cb_B1 ha) rfl rfl (by decide) inX1 flX2_17 dX2_answer_7 ?_
  refine rx_top (show _ = w (16 + a) by rw [rx_u_ne (by omega)]; exact hz.2.1) ?_
  refine rx_putI (ci := 2) (i := 3) X (kc_255 hO) rfl rfl (by decide) inX2 tyX2 tyX2_ok nmX2 flX2_22 rfl rfl dX2_answer_10 ?_
  refine rx_aload_n (i := 0) X dX2_answer_13 rfl rfl ?_
  refine rx_aload_n (i := 1) X dX2_answer_14 rfl rfl ?_
  refine rx_callVi (ci := 1) X vsX1_hundredth mlX2_25 (kX1_hundredth hO (kb_a hO cb_B1 ha)) (kb_a hO cb_B1 ha) rfl rfl (by decide) (by decide) dX2_answer_15 rfl (Nat.le_of_ble_eq_true rfl) (fun r15 t15 h15 => ?_)
  obtain ⟨rfl, rfl⟩ := h15
  refine rx_top (show _ = w (34 + a) / 10000 by rw [rx_u_ne (by omega), rx_u_ne (by omega), hz.2.2.2.2.1]) ?_
  refine rx_putI (ci := 2) (i := 4) X (kc_255 hO) rfl rfl (by decide) inX2 tyX2 tyX2_ok nmX2 flX2_29 rfl rfl dX2_answer_18 ?_
  refine rx_aload_n (i := 0) X dX2_answer_21 rfl rfl ?_
  refine rx_aload_n (i := 1) X dX2_answer_22 rfl rfl ?_
  refine rx_getI (ci := 1) (i := 0) X (kb_a hO cb_B1 ha) rfl rfl (by decide) inX1 flX2_32 dX2_answer_23 ?_
  refine rx_top (show _ = 5 by rw [rx_u_ne (by omega), rx_u_ne (by omega), rx_u_ne (by omega)]; exact hz.1.trans hk) ?_
  refine rx_if_lt_f X dX2_answer_26 (by decide) ?_
  refine rx_aload_n (i := 1) X dX2_answer_29 rfl rfl ?_
  refine rx_getI (ci := 1) (i := 0) X (kb_a hO cb_B1 ha) rfl rfl (by decide) inX1 flX2_32 dX2_answer_30 ?_
  refine rx_top (show _ = 5 by rw [rx_u_ne (by omega), rx_u_ne (by omega), rx_u_ne (by omega)]; exact hz.1.trans hk) ?_
  refine rx_iconst (v := 5) X dX2_answer_33 (by decide) ?_
  refine rx_icmp_gt_f X dX2_answer_34 (by decide) ?_
  refine rx_gets (xs := [10, 11, 12, 11, 13, 14]) X (cb_zS hO) flX2_35z dX2_answer_37 ?_
  refine rx_aload_n (i := 1) X dX2_answer_40 rfl rfl ?_
  refine rx_getI (ci := 1) (i := 0) X (kb_a hO cb_B1 ha) rfl rfl (by decide) inX1 flX2_32 dX2_answer_41 ?_
  refine rx_top (show _ = 5 by rw [rx_u_ne (by omega), rx_u_ne (by omega), rx_u_ne (by omega)]; exact hz.1.trans hk) ?_
  refine rx_zld X (cb_zS hO) (a_in (by decide) (by decide)) dX2_answer_44 ?_
  refine rx_top (y := 14) rfl ?_
  refine rx_goto X dX2_answer_45 ?_
  refine rx_putI (ci := 2) (i := 5) X (kc_255 hO) rfl rfl (by decide) inX2 tyX2 tyX2_ok nmX2 flX2_38 rfl rfl dX2_answer_50 ?_
  refine rx_aload_n (i := 0) X dX2_answer_53 rfl rfl ?_
  refine rx_aload_n (i := 1) X dX2_answer_54 rfl rfl ?_
  refine rx_getI (ci := 1) (i := 0) X (kb_a hO cb_B1 ha) rfl rfl (by decide) inX1 flX2_32 dX2_answer_55 ?_
  refine rx_top (show _ = 5 by rw [rx_u_ne (by omega), rx_u_ne (by omega), rx_u_ne (by omega), rx_u_ne (by omega)]; exact hz.1.trans hk) ?_
  refine rx_if_lt_f X dX2_answer_58 (by decide) ?_
  refine rx_aload_n (i := 1) X dX2_answer_61 rfl rfl ?_
  refine rx_getI (ci := 1) (i := 0) X (kb_a hO cb_B1 ha) rfl rfl (by decide) inX1 flX2_32 dX2_answer_62 ?_
  refine rx_top (show _ = 5 by rw [rx_u_ne (by omega), rx_u_ne (by omega), rx_u_ne (by omega), rx_u_ne (by omega)]; exact hz.1.trans hk) ?_
  refine rx_iconst (v := 5) X dX2_answer_65 (by decide) ?_
  refine rx_icmp_gt_f X dX2_answer_66 (by decide) ?_
  refine rx_gets (xs := [20, 21, 24, 22, 23, 23]) X (cb_zM hO) flX2_41z dX2_answer_69 ?_
  refine rx_aload_n (i := 1) X dX2_answer_72 rfl rfl ?_
  refine rx_getI (ci := 1) (i := 0) X (kb_a hO cb_B1 ha) rfl rfl (by decide) inX1 flX2_32 dX2_answer_73 ?_
  refine rx_top (show _ = 5 by rw [rx_u_ne (by omega), rx_u_ne (by omega), rx_u_ne (by omega), rx_u_ne (by omega)]; exact hz.1.trans hk) ?_
  refine rx_zld X (cb_zM hO) (a_in (by decide) (by decide)) dX2_answer_76 ?_
  refine rx_top (y := 23) rfl ?_
  refine rx_goto X dX2_answer_77 ?_
  refine rx_putI (ci := 2) (i := 6) X (kc_255 hO) rfl rfl (by decide) inX2 tyX2 tyX2_ok nmX2 flX2_44 rfl rfl dX2_answer_82 ?_
  refine rx_aload_n (i := 0) X dX2_answer_85 rfl rfl ?_
  refine rx_iconst (v := 0) X dX2_answer_86 (by decide) ?_
  refine rx_putI (ci := 2) (i := 1) X (kc_255 hO) rfl rfl (by decide) inX2 tyX2 tyX2_ok nmX2 flX2_47 rfl rfl dX2_answer_87 ?_
  refine rx_aload_n (i := 0) X dX2_answer_90 rfl rfl ?_
  refine rx_iload_n (i := 3) X dX2_answer_91 rfl rfl ?_
  refine rx_if_eq_t X dX2_answer_92 (by decide) ?_
  refine rx_aload_n (i := 0) X dX2_answer_102 rfl rfl ?_
  refine rx_getI (ci := 2) (i := 6) X (kc_255 hO) rfl rfl (by decide) inX2 flX2_44 dX2_answer_103 ?_
  refine rx_top (show _ = 23 by simp only [rx_u_s]; rfl) ?_
  refine rx_iconst (v := 1) X dX2_answer_106 (by decide) ?_
  refine rx_callVi (ci := 2) X vsX2_begin mlX2_50 (kX2_b23_14 hO (bs := []) (d := 1) (ck_0 (by rw [rx_u_s]; rfl)) (by decide) (by decide) (by simp only [rx_u_s]; rfl)) (kc_255 hO) rfl rfl (by decide) (by decide) dX2_answer_107 rfl (Nat.le_of_ble_eq_true rfl) (fun r107 t107 h107 => ?_)
  obtain ⟨rfl, h107⟩ := h107
  refine rx_iret X dX2_answer_110 ?_
  rw [(ak5 hk).2]
  refine ⟨?_, fun k q1 q2 => ?_, h107.2.1, h107.2.2.2.1, ?_⟩
  · simp only [rx_u_s]
    rfl
  · rw [h107.1 k q1 q2]
    simp only [rx_u_ne q1]
  · rw [h107.2.2.2.2]
    simp only [rx_u_ne (show (256 : Nat) ≠ 255 by decide)]
    rfl
