/-! BOTH OBJECTS -/
theorem SZ_R {h h' : List qx_E} {s fa fb fc fd : Nat → Int32} (hS : SZ h) (hf : frR h h') (hb : mw h' s fa fb fc fd) : SZ h' := by
  intro k c hc
  rcases (show (k < 13 ∨ 17 < k) ∨ k = 13 ∨ k = 14 ∨ k = 15 ∨ k = 16 ∨ k = 17 by omega) with r | rfl | rfl | rfl | rfl | rfl
  · rw [hf.2 k r] at hc
    exact hS k c hc
  · rw [mw_0 hb] at hc; cases hc; exact Nat.le_of_ble_eq_true rfl
  · rw [mw_1 hb] at hc; cases hc; exact (by decide : 480 ≤ 500)
  · rw [mw_2 hb] at hc; cases hc; exact (by decide : 500 ≤ 500)
  · rw [mw_3 hb] at hc; cases hc; exact (by decide : 500 ≤ 500)
  · rw [mw_4 hb] at hc; cases hc; exact (by decide : 480 ≤ 500)
theorem frM_rf {h : List qx_E} : frM h h := ⟨Nat.le_refl _, Nat.le_add_right _ _, id, fun _ _ _ => rfl⟩
def J (h : List qx_E) (k : Nat) : Prop := 17 < h.length ∧ h.length ≤ 18 + 12 * k ∧ SZ h ∧ ∃ B n w m, PI h B n w m ∧ RI h B n w m
theorem J_fin {h h1 h2 : List qx_E} {k : Nat} {B : Nat → Nat} {n : Nat} {w : Int32} {m : Option rQ} (a1 : 17 < h.length) (a2 : h.length ≤ 18 + 12 * k) (hS : SZ h) (hf : frM h h1) (hP : PI h1 B n w m) (hg : frR h1 h2) (hR : RI h2 B n w m) : J h2 (k + 1) := by
  have e1 := hf.1
  have e2 := hf.2.1
  have e3 := hg.1
  refine ⟨by omega, by omega, ?_, B, n, w, m, PI_fr hg.2 hP, hR⟩
  obtain ⟨s, fa, fb, fc, fd, hb, -⟩ := hR
  exact SZ_R (hf.2.2.1 hS) hg hb
theorem J_x {h : List qx_E} {b : Nat} {q : rQ} {s fc fd : Nat → Int32} (hM : MI h b q) (hR : RMI s fc fd (some q)) : ∃ s' a', tb h b s' a' ∧ tw s' a' ∧ FX q.1 q.2.1 q.2.2.1 q.2.2.2.1 q.2.2.2.2 fc s' a' := by
  obtain ⟨s', a', t1, -, t3, t4, t5, t6, t7, t8⟩ := hM
  obtain ⟨-, -, -, r4, r5, r6⟩ := hR
  obtain ⟨B, n, T, F, M⟩ := q
  have e1 : T = ra_T B n := congrArg (fun q : rQ => q.2.2.1) r6
  have e2 : F = ra_F B n := congrArg (fun q : rQ => q.2.2.2.1) r6
  have e3 : M = (ra_6 B n).2 := congrArg (fun q : rQ => q.2.2.2.2) r6
  clear r6
  subst e1 e2 e3
  exact ⟨s', a', t1, t3, ⟨t4, t5, t6, t7, t8⟩, r4, ra_v r5, FX_np r5⟩
theorem f_nd {x k : Int32} : f_n_deprecated x k = -1 := by
  unfold f_n_deprecated
  simp only [ite_self]
set_option maxRecDepth 100000 in
theorem J_number {L : Nat} {xs : Nat → Int32} {d : Nat} {h : List qx_E} {B : Nat → Nat} {n : Nat} {w : Int32} {m : Option rQ} {x : Int32} (hP : PI h B n w m) (hR : RI h B n w m) : ∃ z, qe_E L xs (d + 11) 107 [.ref 0, .int x] h (some (.int z)) h ∧ wp_W L xs (d + 11) 174 0 (lv_args 0 [.ref 13, .int x]) [] h (fun r h' => frR h h' ∧ r = some (.int z) ∧ RI h' B n w m) := by
  obtain ⟨f, b, s, a, mi, p1, p2, p3, p4, p5, p6, p7, p8⟩ := id hP
  obtain ⟨s', fa, fb, fc, fd, hb, r1, r2, r3, r4, r5⟩ := id hR
  cases m with
  | none =>
    have p8 : mi = .null := p8
    subst p8
    refine ⟨_, c_n_number p1, ?_⟩
    show wp_W L xs _ 174 0 [(0, .ref 13), (1, .int x)] [] h _
    have h0 : s' 1 = 0 := r5
    have hc := mw_0 hb
    rw [h0] at hc
    refine wp_aload_n dq_174_0 rfl ?_
    refine wp_getf (w := .int 0) dq_174_1 fl_174_249 hc rfl ?_
    refine wp_if_eq (tgt := 17) dq_174_4 rfl (fun _ => ?_) (fun c => absurd rfl c)
    refine wp_iconst (x := -1) dq_174_17 rfl ?_
    exact wp_ire dq_174_18 rfl ⟨rfl, Or.inl rfl⟩ ⟨rr_rf, rfl, hR⟩
  | some q =>
    obtain ⟨b', rfl, hM, -, -⟩ := p8
    obtain ⟨s9, a9, t1, t2, hX⟩ := J_x hM r5
    refine ⟨_, c_p_number p1 t1 t2, ?_⟩
    exact wp_mono (R_num (⟨s', fa, fb, fd, hb, r5.1⟩ : QW0 h fc) hX) (fun v h2 e => ⟨by rw [e.2]; exact rr_rf, e.1, by rw [e.2]; exact hR⟩)
set_option maxRecDepth 100000 in
theorem J_flags {L : Nat} {xs : Nat → Int32} {d : Nat} {h : List qx_E} {B : Nat → Nat} {n : Nat} {w : Int32} {m : Option rQ} {x k : Int32} (hP : PI h B n w m) (hR : RI h B n w m) : ∃ z, qe_E L xs (d + 11) 111 [.ref 0, .int x, .int k] h (some (.int z)) h ∧ wp_W L xs (d + 11) 175 0 (lv_args 0 [.ref 13, .int x, .int k]) [] h (fun r h' => frR h h' ∧ r = some (.int z) ∧ RI h' B n w m) := by
  obtain ⟨f, b, s, a, mi, p1, p2, p3, p4, p5, p6, p7, p8⟩ := id hP
  obtain ⟨s', fa, fb, fc, fd, hb, r1, r2, r3, r4, r5⟩ := id hR
  cases m with
  | none =>
    have p8 : mi = .null := p8
    subst p8
    refine ⟨_, c_n_flags p1, ?_⟩
    show wp_W L xs _ 175 0 [(0, .ref 13), (1, .int x), (2, .int k)] [] h _
    refine wp_aload_n dq_175_0 rfl ?_
    refine wp_iconst (x := 1) dq_175_1 rfl ?_
    refine wp_m2 dq_175_2 fp_175_31 hb rr_rf rfl (fun h' hb' hf' => ?_)
    have hR' : RI h' B n w none := ⟨upd s' 2 1, fa, fb, fc, fd, hb', r1, r2, r3, r4, RMI_s r5 rfl⟩
    have h0 : upd s' 2 1 1 = 0 := r5
    have hc := mw_0 hb'
    rw [h0] at hc
    refine wp_iload_n dq_175_5 rfl ?_
    refine wp_iconst (x := 2) dq_175_6 rfl ?_
    refine wp_ic_ne (tgt := 48) dq_175_7 rfl (fun _ => ?_) (fun _ => ?_)
    · refine wp_aload_n dq_175_48 rfl ?_
      refine wp_iload_n dq_175_49 rfl ?_
      refine wp_iload_n dq_175_50 rfl ?_
      refine wp_cve2 dq_175_51 mt_175_256 (ob_of (mw_0 hb')) ⟨by decide +kernel, by decide +kernel⟩ (Nat.le_of_ble_eq_true rfl) (Nat.le_of_ble_eq_true rfl) (c_m2Z (N := fc) hb' h0) ?_
      refine wp_istore_n (lv' := [(0, .ref 13), (1, .int x), (2, .int k), (3, .int (-1))]) dq_175_54 (by decide) rfl ?_
      refine wp_iload_n dq_175_55 rfl ?_
      refine wp_if_ge (tgt := 63) dq_175_56 rfl (fun c => absurd c (by decide)) (fun _ => ?_)
      refine wp_iconst (x := -1) dq_175_59 rfl ?_
      refine wp_goto (tgt := 69) dq_175_60 rfl ?_
      exact wp_ire dq_175_69 rfl ⟨rfl, Or.inl rfl⟩ ⟨hf', rfl, hR'⟩
    · refine wp_aload_n dq_175_10 rfl ?_
      refine wp_getf (w := .int 0) dq_175_11 fl_175_249 hc rfl ?_
      refine wp_if_eq (tgt := 29) dq_175_14 rfl (fun _ => ?_) (fun c => absurd rfl c)
      refine wp_iconst (x := -1) dq_175_29 rfl ?_
      refine wp_istore_n (lv' := [(0, .ref 13), (1, .int x), (2, .int k), (3, .int (-1))]) dq_175_30 (by decide) rfl ?_
      refine wp_iload_n dq_175_31 rfl ?_
      refine wp_if_ge (tgt := 39) dq_175_32 rfl (fun c => absurd c (by decide)) (fun _ => ?_)
      refine wp_iconst (x := -1) dq_175_35 rfl ?_
      refine wp_goto (tgt := 47) dq_175_36 rfl ?_
      exact wp_ire dq_175_47 rfl ⟨rfl, Or.inl rfl⟩ ⟨hf', rfl, hR'⟩
  | some q =>
    obtain ⟨b', rfl, hM, -, -⟩ := p8
    obtain ⟨s9, a9, t1, t2, hX⟩ := J_x hM r5
    refine ⟨_, c_p_flags p1 t1 t2, ?_⟩
    show wp_W L xs _ 175 0 [(0, .ref 13), (1, .int x), (2, .int k)] [] h _
    refine wp_aload_n dq_175_0 rfl ?_
    refine wp_iconst (x := 1) dq_175_1 rfl ?_
    refine wp_m2 dq_175_2 fp_175_31 hb rr_rf rfl (fun h' hb' hf' => ?_)
    have hR' : RI h' B n w (some q) := ⟨upd s' 2 1, fa, fb, fc, fd, hb', r1, r2, r3, r4, RMI_s r5 rfl⟩
    exact wp_mono (R_flg (⟨upd s' 2 1, fa, fb, fd, hb', r5.1, rfl, r5.2.1, r5.2.2.1⟩ : QW h' q.1 q.2.1 fc) hX) (fun v h2 e => ⟨by rw [e.2]; exact hf', e.1, by rw [e.2]; exact hR'⟩)
set_option maxRecDepth 100000 in
theorem J_text {L : Nat} {xs : Nat → Int32} {d : Nat} {h : List qx_E} {B : Nat → Nat} {n : Nat} {w : Int32} {m : Option rQ} {x k e : Int32} (hP : PI h B n w m) (hR : RI h B n w m) : ∃ z, qe_E L xs (d + 11) 114 [.ref 0, .int x, .int k, .int e] h (some (.int z)) h ∧ wp_W L xs (d + 11) 178 0 (lv_args 0 [.ref 13, .int x, .int k, .int e]) [] h (fun r h' => frR h h' ∧ r = some (.int z) ∧ RI h' B n w m) := by
  obtain ⟨f, b, s, a, mi, p1, p2, p3, p4, p5, p6, p7, p8⟩ := id hP
  obtain ⟨s', fa, fb, fc, fd, hb, r1, r2, r3, r4, r5⟩ := id hR
  cases m with
  | none =>
    have p8 : mi = .null := p8
    subst p8
    refine ⟨_, c_n_text p1, ?_⟩
    show wp_W L xs _ 178 0 [(0, .ref 13), (1, .int x), (2, .int k), (3, .int e)] [] h _
    refine wp_aload_n dq_178_0 rfl ?_
    refine wp_iconst (x := 1) dq_178_1 rfl ?_
    refine wp_m2 dq_178_2 fp_178_31 hb rr_rf rfl (fun h' hb' hf' => ?_)
    have hR' : RI h' B n w none := ⟨upd s' 2 1, fa, fb, fc, fd, hb', r1, r2, r3, r4, RMI_s r5 rfl⟩
    have h0 : upd s' 2 1 1 = 0 := r5
    have hc := mw_0 hb'
    rw [h0] at hc
    refine wp_aload_n dq_178_5 rfl ?_
    refine wp_getf (w := .int 0) dq_178_6 fl_178_249 hc rfl ?_
    refine wp_if_eq (tgt := 26) dq_178_9 rfl (fun _ => ?_) (fun c => absurd rfl c)
    refine wp_iconst (x := -1) dq_178_26 rfl ?_
    exact wp_ire dq_178_27 rfl ⟨rfl, Or.inl rfl⟩ ⟨hf', rfl, hR'⟩
  | some q =>
    obtain ⟨b', rfl, hM, -, -⟩ := p8
    obtain ⟨s9, a9, t1, t2, hX⟩ := J_x hM r5
    refine ⟨_, c_p_text p1 t1 t2, ?_⟩
    show wp_W L xs _ 178 0 [(0, .ref 13), (1, .int x), (2, .int k), (3, .int e)] [] h _
    refine wp_aload_n dq_178_0 rfl ?_
    refine wp_iconst (x := 1) dq_178_1 rfl ?_
    refine wp_m2 dq_178_2 fp_178_31 hb rr_rf rfl (fun h' hb' hf' => ?_)
    have hR' : RI h' B n w (some q) := ⟨upd s' 2 1, fa, fb, fc, fd, hb', r1, r2, r3, r4, RMI_s r5 rfl⟩
    exact wp_mono (R_txt (⟨upd s' 2 1, fa, fb, fd, hb', r5.1, rfl, r5.2.1, r5.2.2.1⟩ : QW h' q.1 q.2.1 fc) hX) (fun v h2 e => ⟨by rw [e.2]; exact hf', e.1, by rw [e.2]; exact hR'⟩)
set_option maxRecDepth 100000 in
theorem J_exceptions {L : Nat} {xs : Nat → Int32} {d : Nat} {h : List qx_E} {B : Nat → Nat} {n : Nat} {w : Int32} {m : Option rQ} {k : Int32} (hP : PI h B n w m) (hR : RI h B n w m) : ∃ z, qe_E L xs (d + 11) 117 [.ref 0, .int k] h (some (.int z)) h ∧ wp_W L xs (d + 11) 183 0 (lv_args 0 [.ref 13, .int k]) [] h (fun r h' => frR h h' ∧ r = some (.int z) ∧ RI h' B n w m) := by
  obtain ⟨f, b, s, a, mi, p1, p2, p3, p4, p5, p6, p7, p8⟩ := id hP
  obtain ⟨s', fa, fb, fc, fd, hb, r1, r2, r3, r4, r5⟩ := id hR
  cases m with
  | none =>
    have p8 : mi = .null := p8
    subst p8
    refine ⟨_, c_n_exceptions p1, ?_⟩
    show wp_W L xs _ 183 0 [(0, .ref 13), (1, .int k)] [] h _
    have h0 : s' 1 = 0 := r5
    have hc := mw_0 hb
    rw [h0] at hc
    refine wp_aload_n dq_183_0 rfl ?_
    refine wp_iconst (x := 1) dq_183_1 rfl ?_
    refine wp_iload_n dq_183_2 rfl ?_
    refine wp_cve2 dq_183_3 mt_183_256 (ob_of (mw_0 hb)) ⟨by decide +kernel, by decide +kernel⟩ (Nat.le_of_ble_eq_true rfl) (Nat.le_of_ble_eq_true rfl) (c_m2Z (N := fc) hb h0) ?_
    refine wp_istore_n (lv' := [(0, .ref 13), (1, .int k), (2, .int (-1))]) dq_183_6 (by decide) rfl ?_
    refine wp_iload_n dq_183_7 rfl ?_
    refine wp_if_ge (tgt := 15) dq_183_8 rfl (fun c => absurd c (by decide)) (fun _ => ?_)
    refine wp_iconst (x := -1) dq_183_11 rfl ?_
    refine wp_goto (tgt := 24) dq_183_12 rfl ?_
    exact wp_ire dq_183_24 rfl ⟨rfl, Or.inl rfl⟩ ⟨rr_rf, rfl, hR⟩
  | some q =>
    obtain ⟨b', rfl, hM, -, -⟩ := p8
    obtain ⟨s9, a9, t1, t2, hX⟩ := J_x hM r5
    refine ⟨_, c_p_exceptions p1 t1 t2, ?_⟩
    exact wp_mono (R_excs (⟨s', fa, fb, fd, hb, r5.1⟩ : QW0 h fc) hX) (fun v h2 e => ⟨by rw [e.2]; exact rr_rf, e.1, by rw [e.2]; exact hR⟩)
set_option maxRecDepth 100000 in
theorem J_exception {L : Nat} {xs : Nat → Int32} {d : Nat} {h : List qx_E} {B : Nat → Nat} {n : Nat} {w : Int32} {m : Option rQ} {k e i : Int32} (hP : PI h B n w m) (hR : RI h B n w m) : ∃ z, qe_E L xs (d + 11) 118 [.ref 0, .int k, .int e, .int i] h (some (.int z)) h ∧ wp_W L xs (d + 11) 184 0 (lv_args 0 [.ref 13, .int k, .int e, .int i]) [] h (fun r h' => frR h h' ∧ r = some (.int z) ∧ RI h' B n w m) := by
  obtain ⟨f, b, s, a, mi, p1, p2, p3, p4, p5, p6, p7, p8⟩ := id hP
  obtain ⟨s', fa, fb, fc, fd, hb, r1, r2, r3, r4, r5⟩ := id hR
  cases m with
  | none =>
    have p8 : mi = .null := p8
    subst p8
    refine ⟨_, c_n_exception p1, ?_⟩
    show wp_W L xs _ 184 0 [(0, .ref 13), (1, .int k), (2, .int e), (3, .int i)] [] h _
    refine wp_aload_n dq_184_0 rfl ?_
    refine wp_iconst (x := 1) dq_184_1 rfl ?_
    refine wp_m2 dq_184_2 fp_184_31 hb rr_rf rfl (fun h' hb' hf' => ?_)
    have hR' : RI h' B n w none := ⟨upd s' 2 1, fa, fb, fc, fd, hb', r1, r2, r3, r4, RMI_s r5 rfl⟩
    have h0 : upd s' 2 1 1 = 0 := r5
    have hc := mw_0 hb'
    rw [h0] at hc
    refine wp_aload_n dq_184_5 rfl ?_
    refine wp_iconst (x := 1) dq_184_6 rfl ?_
    refine wp_iload_n dq_184_7 rfl ?_
    refine wp_cve2 dq_184_8 mt_184_256 (ob_of (mw_0 hb')) ⟨by decide +kernel, by decide +kernel⟩ (Nat.le_of_ble_eq_true rfl) (Nat.le_of_ble_eq_true rfl) (c_m2Z (N := fc) hb' h0) ?_
    refine wp_istore (lv' := [(0, .ref 13), (1, .int k), (2, .int e), (3, .int i), (4, .int (-1))]) dq_184_11 (by decide) rfl ?_
    refine wp_iload dq_184_13 rfl ?_
    refine wp_if_ge (tgt := 22) dq_184_15 rfl (fun c => absurd c (by decide)) (fun _ => ?_)
    refine wp_iconst (x := -1) dq_184_18 rfl ?_
    refine wp_goto (tgt := 43) dq_184_19 rfl ?_
    exact wp_ire dq_184_43 rfl ⟨rfl, Or.inl rfl⟩ ⟨hf', rfl, hR'⟩
  | some q =>
    obtain ⟨b', rfl, hM, -, -⟩ := p8
    obtain ⟨s9, a9, t1, t2, hX⟩ := J_x hM r5
    refine ⟨_, c_p_exception p1 t1 t2, ?_⟩
    show wp_W L xs _ 184 0 [(0, .ref 13), (1, .int k), (2, .int e), (3, .int i)] [] h _
    refine wp_aload_n dq_184_0 rfl ?_
    refine wp_iconst (x := 1) dq_184_1 rfl ?_
    refine wp_m2 dq_184_2 fp_184_31 hb rr_rf rfl (fun h' hb' hf' => ?_)
    have hR' : RI h' B n w (some q) := ⟨upd s' 2 1, fa, fb, fc, fd, hb', r1, r2, r3, r4, RMI_s r5 rfl⟩
    exact wp_mono (R_exc (⟨upd s' 2 1, fa, fb, fd, hb', r5.1, rfl, r5.2.1, r5.2.2.1⟩ : QW h' q.1 q.2.1 fc) hX) (fun v h2 e => ⟨by rw [e.2]; exact hf', e.1, by rw [e.2]; exact hR'⟩)
set_option maxRecDepth 100000 in
theorem J_constant {L : Nat} {xs : Nat → Int32} {d : Nat} {h : List qx_E} {B : Nat → Nat} {n : Nat} {w : Int32} {m : Option rQ} {k : Int32} (hP : PI h B n w m) (hR : RI h B n w m) : ∃ z, qe_E L xs (d + 11) 119 [.ref 0, .int k] h (some (.long z)) h ∧ wp_W L xs (d + 11) 185 0 (lv_args 0 [.ref 13, .int k]) [] h (fun r h' => frR h h' ∧ r = some (.long z) ∧ RI h' B n w m) := by
  obtain ⟨f, b, s, a, mi, p1, p2, p3, p4, p5, p6, p7, p8⟩ := id hP
  obtain ⟨s', fa, fb, fc, fd, hb, r1, r2, r3, r4, r5⟩ := id hR
  cases m with
  | none =>
    have p8 : mi = .null := p8
    subst p8
    refine ⟨_, c_n_constant p1, ?_⟩
    show wp_W L xs _ 185 0 [(0, .ref 13), (1, .int k)] [] h _
    refine wp_aload_n dq_185_0 rfl ?_
    refine wp_iconst (x := 1) dq_185_1 rfl ?_
    refine wp_m2 dq_185_2 fp_185_31 hb rr_rf rfl (fun h' hb' hf' => ?_)
    have hR' : RI h' B n w none := ⟨upd s' 2 1, fa, fb, fc, fd, hb', r1, r2, r3, r4, RMI_s r5 rfl⟩
    have h0 : upd s' 2 1 1 = 0 := r5
    have hc := mw_0 hb'
    rw [h0] at hc
    refine wp_aload_n dq_185_5 rfl ?_
    refine wp_iconst (x := 0) dq_185_6 rfl ?_
    refine wp_iload_n dq_185_7 rfl ?_
    refine wp_cve2 dq_185_8 mt_185_256 (ob_of (mw_0 hb')) ⟨by decide +kernel, by decide +kernel⟩ (Nat.le_of_ble_eq_true rfl) (Nat.le_of_ble_eq_true rfl) (c_m2Z (N := fc) hb' h0) ?_
    refine wp_istore_n (lv' := [(0, .ref 13), (1, .int k), (2, .int (-1))]) dq_185_11 (by decide) rfl ?_
    refine wp_iload_n dq_185_12 rfl ?_
    refine wp_if_ge (tgt := 20) dq_185_13 rfl (fun c => absurd c (by decide)) (fun _ => ?_)
    refine wp_iconst (x := 0) dq_185_16 rfl ?_
    refine wp_goto (tgt := 28) dq_185_17 rfl ?_
    refine wp_istore_n (lv' := [(0, .ref 13), (1, .int k), (2, .int (-1)), (3, .int 0)]) dq_185_28 (by decide) rfl ?_
    refine wp_iload_n dq_185_29 rfl ?_
    refine wp_if_ne (tgt := 37) dq_185_30 rfl (fun c => absurd rfl c) (fun _ => ?_)
    refine wp_ldc2 (v := 1000000000000000000) dq_185_33 (by decide +kernel) ?_
    exact wp_lre dq_185_36 rfl ⟨hf', rfl, hR'⟩
  | some q =>
    obtain ⟨b', rfl, hM, -, -⟩ := p8
    obtain ⟨s9, a9, t1, t2, hX⟩ := J_x hM r5
    refine ⟨_, c_p_constant p1 t1 t2, ?_⟩
    show wp_W L xs _ 185 0 [(0, .ref 13), (1, .int k)] [] h _
    refine wp_aload_n dq_185_0 rfl ?_
    refine wp_iconst (x := 1) dq_185_1 rfl ?_
    refine wp_m2 dq_185_2 fp_185_31 hb rr_rf rfl (fun h' hb' hf' => ?_)
    have hR' : RI h' B n w (some q) := ⟨upd s' 2 1, fa, fb, fc, fd, hb', r1, r2, r3, r4, RMI_s r5 rfl⟩
    exact wp_mono (R_con (⟨upd s' 2 1, fa, fb, fd, hb', r5.1, rfl, r5.2.1, r5.2.2.1⟩ : QW h' q.1 q.2.1 fc) hX) (fun v h2 e => ⟨by rw [e.2]; exact hf', e.1, by rw [e.2]; exact hR'⟩)
set_option maxRecDepth 100000 in
theorem J_deprecated {L : Nat} {xs : Nat → Int32} {d : Nat} {h : List qx_E} {B : Nat → Nat} {n : Nat} {w : Int32} {m : Option rQ} {x k : Int32} (hP : PI h B n w m) (hR : RI h B n w m) : ∃ z, qe_E L xs (d + 11) 121 [.ref 0, .int x, .int k] h (some (.int z)) h ∧ wp_W L xs (d + 11) 187 0 (lv_args 0 [.ref 13, .int x, .int k]) [] h (fun r h' => frR h h' ∧ r = some (.int z) ∧ RI h' B n w m) := by
  obtain ⟨f, b, s, a, mi, p1, p2, p3, p4, p5, p6, p7, p8⟩ := id hP
  obtain ⟨s', fa, fb, fc, fd, hb, r1, r2, r3, r4, r5⟩ := id hR
  cases m with
  | none =>
    have p8 : mi = .null := p8
    subst p8
    refine ⟨_, c_n_deprecated p1, ?_⟩
    show wp_W L xs _ 187 0 [(0, .ref 13), (1, .int x), (2, .int k)] [] h _
    have h0 : s' 1 = 0 := r5
    have hc := mw_0 hb
    rw [h0] at hc
    refine wp_aload_n dq_187_0 rfl ?_
    refine wp_iload_n dq_187_1 rfl ?_
    refine wp_iload_n dq_187_2 rfl ?_
    refine wp_cve2 dq_187_3 mt_187_256 (ob_of (mw_0 hb)) ⟨by decide +kernel, by decide +kernel⟩ (Nat.le_of_ble_eq_true rfl) (Nat.le_of_ble_eq_true rfl) (c_m2Z (N := fc) hb h0) ?_
    refine wp_istore_n (lv' := [(0, .ref 13), (1, .int x), (2, .int k), (3, .int (-1))]) dq_187_6 (by decide) rfl ?_
    refine wp_iload_n dq_187_7 rfl ?_
    refine wp_if_ge (tgt := 15) dq_187_8 rfl (fun c => absurd c (by decide)) (fun _ => ?_)
    refine wp_iconst (x := -1) dq_187_11 rfl ?_
    refine wp_goto (tgt := 23) dq_187_12 rfl ?_
    exact wp_ire dq_187_23 rfl ⟨rfl, Or.inl rfl⟩ ⟨rr_rf, by rw [f_nd], hR⟩
  | some q =>
    obtain ⟨b', rfl, hM, -, -⟩ := p8
    obtain ⟨s9, a9, t1, t2, hX⟩ := J_x hM r5
    refine ⟨_, c_p_deprecated p1 t1 t2, ?_⟩
    exact wp_mono (R_dep (⟨s', fa, fb, fd, hb, r5.1⟩ : QW0 h fc) hX) (fun v h2 e => ⟨by rw [e.2]; exact rr_rf, e.1, by rw [e.2]; exact hR⟩)
