section TXS
variable {B : Nat → Nat} {n : Nat} {T : Nat → Nat} {F : Nat} {M : rM} {N : Nat → Int32} {s : Nat → Int32} {a : Nat → Nat → Int32}
theorem cTx_lt (hX : FX B n T F M N s a) (i : Nat) : cT B T i < 65536 := by
  obtain ⟨⟨hQ, -⟩, -⟩ := hX
  exact q_ctlt hQ
theorem cT_0 (hX : FX B n T F M N s a) : cT B T 0 = 0 := by
  obtain ⟨-, ⟨hP, -⟩, -⟩ := hX
  unfold cT
  rw [if_neg (by rw [tg_z hP.2.1 (by decide)]; decide)]
/-- the text of a class's name -/
theorem cT_v (hX : FX B n T F M N s a) {i : Nat} (hi : i = 0 ∨ tg B T i = 7) : cT B T i = 0 ∨ tg B T (cT B T i) = 1 := by
  obtain ⟨-, ⟨hP, hLK, -⟩, -⟩ := id hX
  rcases hi with r | r
  · subst r
    exact Or.inl (cT_0 hX)
  · rw [cT_7 r]
    exact Or.inr (hLK i r)
theorem q_clT (hX : FX B n T F M N s a) {i : Nat} (hi : i < 65536) : f_classText s a (nI i) = nI (cT B T i) := by
  obtain ⟨⟨hQ, -⟩, -⟩ := hX
  exact q_classText hQ hi
theorem q_cl0 (hX : FX B n T F M N s a) : f_classText s a 0 = 0 := (q_clT hX (i := 0) (by decide)).trans (by rw [cT_0 hX]; rfl)
theorem q_ch (hX : FX B n T F M N s a) {i : Nat} (hi : i < 65536) (e : Int32) : f_characterOf s a (nI i) e = chA B T i e := by
  obtain ⟨⟨hQ, -⟩, -⟩ := hX
  exact q_cho hQ hi e
theorem ch_0 (hX : FX B n T F M N s a) (e : Int32) : chA B T 0 e = -1 := by
  obtain ⟨-, ⟨hP, -⟩, -⟩ := hX
  unfold chA
  rw [if_neg (by rw [tg_z hP.2.1 (by decide)]; decide)]
/-- a list of the file: its count, its place, its elements -/
theorem FX_l (hX : FX B n T F M N s a) {w : Nat} (hw : 5 ≤ w ∧ w ≤ 7) : f_contentItem s a 3 0 w = nI (ctv B M (431 + w)) ∧ f_contentOf s a 3 0 w = nI (M.ct (431 + w)) ∧ ctv B M (431 + w) < 65536 ∧ N (2 * w - 3) = nI (ctv B M (431 + w)) ∧ ∀ j, j < ctv B M (431 + w) → N (2 * w - 3 + 1) = nI (M.ct (431 + w) + 2) ∧ M.ct (431 + w) + 2 + ez w * j + ez w ≤ n ∧ VE B T w (M.ct (431 + w) + 2 + ez w * j) := by
  obtain ⟨⟨hQ, hM, hV, h0F, hFn⟩, ⟨hP, hLK, -, -, -, -, ⟨o1, o2, o3, o4, o5⟩, -⟩, ⟨hVA, -⟩, -⟩ := id hX
  have hen : qx_en w = true := by
    rcases (show w = 5 ∨ w = 6 ∨ w = 7 by omega) with rfl | rfl | rfl <;> decide
  have ei : 9 * (16 * 3 + 0) + (w - 1) = 431 + w := by omega
  have hv2 : M.ct (431 + w) ≠ 0 → VW B n T w (M.ct (431 + w)) ∧ M.ct (431 + w) + 2 ≤ n := fun r => by
    have := VA_2 (o := 16 * 3 + 0) (w := w) hVA (by omega) (by rw [ei]; exact r)
    rw [ei] at this
    exact this
  have e1 := q_ci (kd := 3) (k := 0) (w := w) hQ hM hV (by decide) (by rw [hV.2.1]; decide) hen (fun r => by rw [ei] at r ⊢; exact (hv2 r).2)
  have e2 := q_content (s := s) (kd := 3) (k := 0) (w := w) hM hV (by decide) (by rw [hV.2.1]; decide) hen
  rw [ei] at e1 e2
  refine ⟨e1, e2, ctv_lt hX _ (fun r => (hv2 r).2), (o3 w hw.1 hw.2).1, fun j hj => ?_⟩
  obtain ⟨hct, hcv⟩ := ctv_ne hj
  obtain ⟨b1, b2⟩ := (hv2 hct).1.2.2.2 (by omega) (by omega)
  rw [hcv] at hj
  refine ⟨(o3 w hw.1 hw.2).2 hct, ?_, b2 j hj⟩
  have h5 : ez w * (j + 1) ≤ ez w * bu_U B (M.ct (431 + w)) 2 := Nat.mul_le_mul_left _ hj
  rw [Nat.mul_succ] at h5
  omega
/-- a sound signature -/
theorem FX_s (hX : FX B n T F M N s a) (o : Nat) : (ctv B M (9 * o) = 0 ∨ tg B T (ctv B M (9 * o)) = 1) ∧ ctv B M (9 * o) < 65536 := by
  obtain ⟨-, -, ⟨hVA, -⟩, -⟩ := id hX
  have hv2 : M.ct (9 * o) ≠ 0 → VW B n T 1 (M.ct (9 * o)) ∧ M.ct (9 * o) + 2 ≤ n := fun r => VA_2 (o := o) (w := 1) hVA (by decide) r
  refine ⟨?_, ctv_lt hX _ (fun r => (hv2 r).2)⟩
  unfold ctv
  by_cases r : M.ct (9 * o) = 0
  · exact Or.inl (if_pos r)
  · rw [if_neg r]
    exact Or.inr ((hv2 r).1.1 rfl).2
end TXS
theorem i_or (e : Int32) : e < 0 ∨ nI 0 ≤ e := (Decidable.em (e < 0)).imp id (fun r => Int32.not_lt.mp r)
set_option maxRecDepth 100000 in
theorem R_exc {L : Nat} {xs : Nat → Int32} {d n F : Nat} {B T : Nat → Nat} {N : Nat → Int32} {h : List qx_E} {M : rM} {s : Nat → Int32} {a : Nat → Nat → Int32} {k e i : Int32} (hW : QW h B n N) (hX : FX B n T F M N s a) : wp_W L xs (d + 4) 184 5 [(0, .ref 13), (1, .int k), (2, .int e), (3, .int i)] [] h (fun v2 h2 => v2 = some (.int (f_p_exception s a k e i)) ∧ h2 = h) := by
  have hW0 := QW_0 hW
  obtain ⟨s0, fa, fb, fd, hb, -⟩ := id hW0
  obtain ⟨⟨hQ, hM, hV, h0F, hFn⟩, ⟨hP, hLK, -, -, -, -, ⟨o1, o2, o3, o4, o5⟩, -⟩, ⟨hVA, hL8, hn10, v1, v2, v3, v4⟩, hnp⟩ := id hX
  have hn9 := hP.1
  have hc16 := (FX_c hX (kd := 1) (by decide)).2
  rcases (show (k < 0 ∨ nI (M.c 1) ≤ k) ∨ ∃ j, j < M.c 1 ∧ k = nI j from (pk_ix k (n := M.c 1) (by omega)).elim (fun r => Or.inl (Or.inl r)) (fun r => r.elim (fun r => Or.inl (Or.inr r)) Or.inr)) with hk | ⟨j, hj, rfl⟩
  · show wp_W L xs _ 184 5 [(0, .ref 13), (1, .int k), (2, .int e), (3, .int i)] [] h _
    refine wp_aload_n dq_184_5 rfl ?_
    refine wp_iconst (x := nI 1) dq_184_6 rfl ?_
    refine wp_iload_n dq_184_7 rfl ?_
    refine wp_cve2 dq_184_8 mt_184_256 (ob_of (mw_0 hb)) ⟨by decide +kernel, by decide +kernel⟩ (Nat.le_of_ble_eq_true rfl) (Nat.le_of_ble_eq_true rfl) (c_m2N (d := d + 3) hW0 (kd := 1) (by decide) (FX_c hX (kd := 1) (by decide)).1 hk) ?_
    refine wp_istore (lv' := [(0, .ref 13), (1, .int k), (2, .int e), (3, .int i), (4, .int (-1))]) dq_184_11 (by decide) rfl ?_
    refine wp_iload dq_184_13 rfl ?_
    refine wp_if_ge (tgt := 22) dq_184_15 rfl (fun c1 => ?_) (fun c1 => ?_)
    · exact absurd c1 (by decide)
    · refine wp_iconst (x := -1) dq_184_18 rfl ?_
      refine wp_goto (tgt := 43) dq_184_19 rfl ?_
      exact wp_ire dq_184_43 rfl ⟨rfl, Or.inl rfl⟩ ⟨so_i (by rw [f_p_exception, show f_elementItem s a 1 k 4 e 0 = 0 from q_eiN (kd := 1) (c := 0) (q_ci0 (kd := 1) hM hV (by decide) hk) (i_or e), q_cl0 hX]; exact ((q_ch hX (i := 0) (by decide) i).trans (ch_0 hX i)).symm), rfl⟩
  · have e4 := FX_ci hX (kd := 1) (w := 4) (by decide) hj (by decide)
    have e4N := ((FX_k hX (kd := 1) (by decide) hj).2.2.2.1.2.2.2 rfl).1
    have hv2 := VA_2 (o := 16 * 1 + j) (w := 4) hVA (by decide)
    have hcl := ctv_lt hX (9 * (16 * 1 + j) + 3) (fun r => (hv2 r).2)
    rcases (show (e < 0 ∨ nI (ctv B M (9 * (16 * 1 + j) + 3)) ≤ e) ∨ ∃ ee, ee < ctv B M (9 * (16 * 1 + j) + 3) ∧ e = nI ee from (pk_ix e (n := ctv B M (9 * (16 * 1 + j) + 3)) (by omega)).elim (fun r => Or.inl (Or.inl r)) (fun r => r.elim (fun r => Or.inl (Or.inr r)) Or.inr)) with hk | ⟨ee, he, rfl⟩
    · show wp_W L xs _ 184 5 [(0, .ref 13), (1, .int (nI j)), (2, .int e), (3, .int i)] [] h _
      refine wp_aload_n dq_184_5 rfl ?_
      refine wp_iconst (x := nI 1) dq_184_6 rfl ?_
      refine wp_iload_n dq_184_7 rfl ?_
      refine wp_cve2 dq_184_8 mt_184_256 (ob_of (mw_0 hb)) ⟨by decide +kernel, by decide +kernel⟩ (Nat.le_of_ble_eq_true rfl) (Nat.le_of_ble_eq_true rfl) (c_m2Y (d := d + 3) hW0 (by decide) (FX_c hX (kd := 1) (by decide)).1 hj (FX_c hX (kd := 1) (by decide)).2) ?_
      refine wp_istore (lv' := [(0, .ref 13), (1, .int (nI j)), (2, .int e), (3, .int i), (4, .int (nI (100 + 130 * 1 + 8 * j)))]) dq_184_11 (by decide) rfl ?_
      refine wp_iload dq_184_13 rfl ?_
      refine wp_if_geN (tgt := 22) dq_184_15 rfl (by omega) (fun c1 => ?_) (fun c1 => ?_)
      · refine wp_aload_n dq_184_22 rfl ?_
        refine wp_aload_n dq_184_23 rfl ?_
        refine wp_aload_n dq_184_24 rfl ?_
        refine wp_iload dq_184_25 rfl ?_
        refine wp_bipush (x := nI 6) dq_184_27 rfl ?_
        refine wp_iaddN dq_184_29 ?_
        refine wp_iload_n dq_184_30 rfl ?_
        refine wp_iconst (x := nI 2) dq_184_31 rfl ?_
        refine wp_iconst (x := nI 0) dq_184_32 rfl ?_
        refine wp_cve4 dq_184_33 mt_184_262 (ob_of (mw_0 hb)) ⟨by decide +kernel, by decide +kernel⟩ (Nat.le_of_ble_eq_true rfl) (Nat.le_of_ble_eq_true rfl) (c_etN (d := d + 1) hW0 (by omega) e4N hk) ?_
        refine wp_cve1 dq_184_36 mt_184_259 (ob_of (mw_0 hb)) ⟨by decide +kernel, by decide +kernel⟩ (Nat.le_of_ble_eq_true rfl) (Nat.le_of_ble_eq_true rfl) (c_clt (d := d) hW hP (Or.inl rfl) (by omega)) ?_
        refine wp_iload_n dq_184_39 rfl ?_
        refine wp_cve2 dq_184_40 mt_184_269 (ob_of (mw_0 hb)) ⟨by decide +kernel, by decide +kernel⟩ (Nat.le_of_ble_eq_true rfl) (Nat.le_of_ble_eq_true rfl) (c_cho (d := d) hW hP (cT_v hX (Or.inl rfl)) (cTx_lt hX _)) ?_
        exact wp_ire dq_184_43 rfl ⟨rfl, Or.inl rfl⟩ ⟨so_i (by rw [f_p_exception, show f_elementItem s a 1 (nI j) 4 e 0 = 0 from q_eiN (kd := 1) e4 hk, q_cl0 hX, cT_0 hX]; exact (q_ch hX (i := 0) (by decide) i).symm), rfl⟩
      · exact absurd c1 (by omega)
    · obtain ⟨hct, hcv⟩ := ctv_ne he
      have e4P := ((FX_k hX (kd := 1) (by decide) hj).2.2.2.1.2.2.2 rfl).2 hct
      have e4C := q_content (s := s) (kd := 1) (k := j) (w := 4) hM hV (by decide) hj (by decide)
      obtain ⟨b1, b2⟩ := (hv2 hct).1.2.2.2 (by decide) (by decide)
      have b1 : M.ct (9 * (16 * 1 + j) + 3) + 2 + 2 * bu_U B (M.ct (9 * (16 * 1 + j) + 3)) 2 ≤ n := b1
      rw [← hcv] at b1
      have hv7 : tg B T (bu_U B (M.ct (9 * (16 * 1 + j) + 3) + 2 + 2 * ee + 0) 2) = 7 := (b2 ee (by rw [← hcv]; exact he)).1
      have hvl : (bu_U B (M.ct (9 * (16 * 1 + j) + 3) + 2 + 2 * ee + 0) 2) < 65536 := QF_U2 hQ (by omega)
      show wp_W L xs _ 184 5 [(0, .ref 13), (1, .int (nI j)), (2, .int (nI ee)), (3, .int i)] [] h _
      refine wp_aload_n dq_184_5 rfl ?_
      refine wp_iconst (x := nI 1) dq_184_6 rfl ?_
      refine wp_iload_n dq_184_7 rfl ?_
      refine wp_cve2 dq_184_8 mt_184_256 (ob_of (mw_0 hb)) ⟨by decide +kernel, by decide +kernel⟩ (Nat.le_of_ble_eq_true rfl) (Nat.le_of_ble_eq_true rfl) (c_m2Y (d := d + 3) hW0 (by decide) (FX_c hX (kd := 1) (by decide)).1 hj (FX_c hX (kd := 1) (by decide)).2) ?_
      refine wp_istore (lv' := [(0, .ref 13), (1, .int (nI j)), (2, .int (nI ee)), (3, .int i), (4, .int (nI (100 + 130 * 1 + 8 * j)))]) dq_184_11 (by decide) rfl ?_
      refine wp_iload dq_184_13 rfl ?_
      refine wp_if_geN (tgt := 22) dq_184_15 rfl (by omega) (fun c1 => ?_) (fun c1 => ?_)
      · refine wp_aload_n dq_184_22 rfl ?_
        refine wp_aload_n dq_184_23 rfl ?_
        refine wp_aload_n dq_184_24 rfl ?_
        refine wp_iload dq_184_25 rfl ?_
        refine wp_bipush (x := nI 6) dq_184_27 rfl ?_
        refine wp_iaddN dq_184_29 ?_
        refine wp_iload_n dq_184_30 rfl ?_
        refine wp_iconst (x := nI 2) dq_184_31 rfl ?_
        refine wp_iconst (x := nI 0) dq_184_32 rfl ?_
        refine wp_cve4 dq_184_33 mt_184_262 (ob_of (mw_0 hb)) ⟨by decide +kernel, by decide +kernel⟩ (Nat.le_of_ble_eq_true rfl) (Nat.le_of_ble_eq_true rfl) (c_etY (d := d + 1) hW (by omega) e4N e4P he (by omega) hn9 (by omega)) ?_
        refine wp_cve1 dq_184_36 mt_184_259 (ob_of (mw_0 hb)) ⟨by decide +kernel, by decide +kernel⟩ (Nat.le_of_ble_eq_true rfl) (Nat.le_of_ble_eq_true rfl) (c_clt (d := d) hW hP (Or.inr hv7) (by omega)) ?_
        refine wp_iload_n dq_184_39 rfl ?_
        refine wp_cve2 dq_184_40 mt_184_269 (ob_of (mw_0 hb)) ⟨by decide +kernel, by decide +kernel⟩ (Nat.le_of_ble_eq_true rfl) (Nat.le_of_ble_eq_true rfl) (c_cho (d := d) hW hP (cT_v hX (Or.inr hv7)) (cTx_lt hX _)) ?_
        exact wp_ire dq_184_43 rfl ⟨rfl, Or.inl rfl⟩ ⟨so_i (by rw [f_p_exception, show f_elementItem s a 1 (nI j) 4 (nI ee) 0 = nI (bu_U B (M.ct (9 * (16 * 1 + j) + 3) + 2 + 2 * ee + 0) 2) from q_eiY (kd := 1) (k := j) (w := 4) (y := 0) hQ (by decide) e4 e4C he (by omega) (by rw [show ez 4 = 2 from rfl]; omega), q_clT hX hvl]; exact (q_ch hX (cTx_lt hX _) i).symm), rfl⟩
      · exact absurd c1 (by omega)
set_option maxRecDepth 100000 in
theorem c_tx0 {L : Nat} {xs : Nat → Int32} {d n F : Nat} {B T : Nat → Nat} {N : Nat → Int32} {h : List qx_E} {M : rM} {s : Nat → Int32} {a : Nat → Nat → Int32} {k : Int32} (hW : QW h B n N) (hX : FX B n T F M N s a) : ∃ i, i < 65536 ∧ (i = 0 ∨ tg B T i = 1) ∧ f_textOf s a (nI 0) k = nI i ∧ qe_E L xs (d + 4) 179 [.ref 13, .int (nI 0), .int k] h (some (.int (nI i))) h := by
  have hW0 := QW_0 hW
  obtain ⟨s0, fa, fb, fd, hb, -⟩ := id hW0
  obtain ⟨⟨hQ, hM, hV, h0F, hFn⟩, ⟨hP, hLK, ⟨z0, z1, z2, z3, z4, z5, z6⟩, ⟨y1, y2, y3, y4⟩, hK0, hK1, ⟨o1, o2, o3, o4, o5⟩, ⟨r1, r2, r3, r4⟩⟩, ⟨hVA, hL8, hn10, v1, v2, v3, v4⟩, hnp⟩ := id hX
  have hn9 := hP.1
  have hcl9 := cTx_lt hX
  have hvl : (bu_U B (F + 2) 2) < 65536 := QF_U2 hQ (by omega)
  refine ⟨cT B T (bu_U B (F + 2) 2), hcl9 _, cT_v hX (Or.inr v1), by rw [f_textOf, if_pos (show nI 0 = 0 from rfl), h0F, show (2 : Int32) = nI 2 from rfl, nI_add, QF_u2 hQ (by omega)]; exact q_clT hX hvl, ?_⟩
  show wp_W L xs _ 179 0 [(0, .ref 13), (1, .int (nI 0)), (2, .int k)] [] h _
  refine wp_iload_n dq_179_0 rfl ?_
  refine wp_iconst (x := nI 3) dq_179_1 rfl ?_
  refine wp_ic_ltN (tgt := 11) dq_179_2 rfl (by decide) (by decide) (fun _ => ?_) (fun c9 => absurd c9 (by decide))
  refine wp_iload_n dq_179_11 rfl ?_
  refine wp_bipush (x := nI 10) dq_179_12 rfl ?_
  refine wp_ic_ltN (tgt := 128) dq_179_14 rfl (by decide) (by decide) (fun _ => ?_) (fun c9 => absurd c9 (by decide))
  refine wp_iload_n dq_179_128 rfl ?_
  refine wp_tab (off := 91) (tgt := 220) dq_179_129 (by decide) rfl ?_
  refine wp_aload_n dq_179_220 rfl ?_
  refine wp_aload_n dq_179_221 rfl ?_
  refine wp_getf (w := .ref 16) dq_179_222 fl_179_16 (mw_0 hb) rfl ?_
  refine wp_iconst (x := nI 3) dq_179_225 rfl ?_
  refine wp_ialdV (z := (nI (bu_U B (F + 2) 2))) dq_179_226 (mw_3 hb) (by omega) (by decide) (z3) ?_
  refine wp_cve1 dq_179_227 mt_179_259 (ob_of (mw_0 hb)) ⟨by decide +kernel, by decide +kernel⟩ (Nat.le_of_ble_eq_true rfl) (Nat.le_of_ble_eq_true rfl) (c_clt (d := d) hW hP (Or.inr v1) hvl) ?_
  exact wp_ire dq_179_230 rfl ⟨rfl, Or.inl rfl⟩ ⟨rfl, rfl⟩
set_option maxRecDepth 100000 in
theorem c_tx1 {L : Nat} {xs : Nat → Int32} {d n F : Nat} {B T : Nat → Nat} {N : Nat → Int32} {h : List qx_E} {M : rM} {s : Nat → Int32} {a : Nat → Nat → Int32} {k : Int32} (hW : QW h B n N) (hX : FX B n T F M N s a) : ∃ i, i < 65536 ∧ (i = 0 ∨ tg B T i = 1) ∧ f_textOf s a (nI 1) k = nI i ∧ qe_E L xs (d + 4) 179 [.ref 13, .int (nI 1), .int k] h (some (.int (nI i))) h := by
  have hW0 := QW_0 hW
  obtain ⟨s0, fa, fb, fd, hb, -⟩ := id hW0
  obtain ⟨⟨hQ, hM, hV, h0F, hFn⟩, ⟨hP, hLK, ⟨z0, z1, z2, z3, z4, z5, z6⟩, ⟨y1, y2, y3, y4⟩, hK0, hK1, ⟨o1, o2, o3, o4, o5⟩, ⟨r1, r2, r3, r4⟩⟩, ⟨hVA, hL8, hn10, v1, v2, v3, v4⟩, hnp⟩ := id hX
  have hn9 := hP.1
  have hcl9 := cTx_lt hX
  have hvl : (bu_U B (F + 4) 2) < 65536 := QF_U2 hQ (by omega)
  refine ⟨cT B T (bu_U B (F + 4) 2), hcl9 _, cT_v hX v2, by rw [f_textOf, if_neg (by decide), if_pos (show nI 1 = 1 from rfl), h0F, show (4 : Int32) = nI 4 from rfl, nI_add, QF_u2 hQ (by omega)]; exact q_clT hX hvl, ?_⟩
  show wp_W L xs _ 179 0 [(0, .ref 13), (1, .int (nI 1)), (2, .int k)] [] h _
  refine wp_iload_n dq_179_0 rfl ?_
  refine wp_iconst (x := nI 3) dq_179_1 rfl ?_
  refine wp_ic_ltN (tgt := 11) dq_179_2 rfl (by decide) (by decide) (fun _ => ?_) (fun c9 => absurd c9 (by decide))
  refine wp_iload_n dq_179_11 rfl ?_
  refine wp_bipush (x := nI 10) dq_179_12 rfl ?_
  refine wp_ic_ltN (tgt := 128) dq_179_14 rfl (by decide) (by decide) (fun _ => ?_) (fun c9 => absurd c9 (by decide))
  refine wp_iload_n dq_179_128 rfl ?_
  refine wp_tab (off := 102) (tgt := 231) dq_179_129 (by decide) rfl ?_
  refine wp_aload_n dq_179_231 rfl ?_
  refine wp_aload_n dq_179_232 rfl ?_
  refine wp_getf (w := .ref 16) dq_179_233 fl_179_16 (mw_0 hb) rfl ?_
  refine wp_iconst (x := nI 4) dq_179_236 rfl ?_
  refine wp_ialdV (z := (nI (bu_U B (F + 4) 2))) dq_179_237 (mw_3 hb) (by omega) (by decide) (z4) ?_
  refine wp_cve1 dq_179_238 mt_179_259 (ob_of (mw_0 hb)) ⟨by decide +kernel, by decide +kernel⟩ (Nat.le_of_ble_eq_true rfl) (Nat.le_of_ble_eq_true rfl) (c_clt (d := d) hW hP v2 hvl) ?_
  exact wp_ire dq_179_241 rfl ⟨rfl, Or.inl rfl⟩ ⟨rfl, rfl⟩
set_option maxRecDepth 100000 in
theorem c_tx9 {L : Nat} {xs : Nat → Int32} {d n F : Nat} {B T : Nat → Nat} {N : Nat → Int32} {h : List qx_E} {M : rM} {s : Nat → Int32} {a : Nat → Nat → Int32} {k : Int32} (hW : QW h B n N) (hX : FX B n T F M N s a) : ∃ i, i < 65536 ∧ (i = 0 ∨ tg B T i = 1) ∧ f_textOf s a (nI 9) k = nI i ∧ qe_E L xs (d + 4) 179 [.ref 13, .int (nI 9), .int k] h (some (.int (nI i))) h := by
  have hW0 := QW_0 hW
  obtain ⟨s0, fa, fb, fd, hb, -⟩ := id hW0
  obtain ⟨⟨hQ, hM, hV, h0F, hFn⟩, ⟨hP, hLK, ⟨z0, z1, z2, z3, z4, z5, z6⟩, ⟨y1, y2, y3, y4⟩, hK0, hK1, ⟨o1, o2, o3, o4, o5⟩, ⟨r1, r2, r3, r4⟩⟩, ⟨hVA, hL8, hn10, v1, v2, v3, v4⟩, hnp⟩ := id hX
  have hn9 := hP.1
  have hcl9 := cTx_lt hX
  have hs9 := FX_s hX 48
  refine ⟨ctv B M 432, hs9.2, hs9.1, by rw [f_textOf, if_neg (by decide), if_neg (by decide), if_neg (by decide), if_neg (by decide), if_neg (by decide), if_neg (by decide), if_neg (by decide), if_neg (by decide), if_neg (by decide), if_pos (show nI 9 = 9 from rfl)]; exact q_ci (kd := 3) (k := 0) (w := 1) hQ hM hV (by decide) (by rw [hV.2.1]; decide) (by decide) (fun r => (VA_2 (o := 48) (w := 1) hVA (by decide) r).2), ?_⟩
  show wp_W L xs _ 179 0 [(0, .ref 13), (1, .int (nI 9)), (2, .int k)] [] h _
  refine wp_iload_n dq_179_0 rfl ?_
  refine wp_iconst (x := nI 3) dq_179_1 rfl ?_
  refine wp_ic_ltN (tgt := 11) dq_179_2 rfl (by decide) (by decide) (fun c9 => absurd c9 (by decide)) (fun _ => ?_)
  refine wp_iload_n dq_179_5 rfl ?_
  refine wp_bipush (x := nI 8) dq_179_6 rfl ?_
  refine wp_ic_leN (tgt := 23) dq_179_8 rfl (by decide) (by decide) (fun c9 => absurd c9 (by decide)) (fun _ => ?_)
  refine wp_iload_n dq_179_11 rfl ?_
  refine wp_bipush (x := nI 10) dq_179_12 rfl ?_
  refine wp_ic_ltN (tgt := 128) dq_179_14 rfl (by decide) (by decide) (fun _ => ?_) (fun c9 => absurd c9 (by decide))
  refine wp_iload_n dq_179_128 rfl ?_
  refine wp_tab (off := 126) (tgt := 255) dq_179_129 (by decide) rfl ?_
  refine wp_aload_n dq_179_255 rfl ?_
  refine wp_getf (w := .ref 16) dq_179_256 fl_179_16 (mw_0 hb) rfl ?_
  refine wp_bipush (x := nI 16) dq_179_259 rfl ?_
  refine wp_ialdV (z := (nI (ctv B M 432))) dq_179_261 (mw_3 hb) (by omega) (by decide) (o1) ?_
  exact wp_ire dq_179_262 rfl ⟨rfl, Or.inl rfl⟩ ⟨rfl, rfl⟩
set_option maxRecDepth 100000 in
theorem c_tx16 {L : Nat} {xs : Nat → Int32} {d n F : Nat} {B T : Nat → Nat} {N : Nat → Int32} {h : List qx_E} {M : rM} {s : Nat → Int32} {a : Nat → Nat → Int32} {k : Int32} (hW : QW h B n N) (hX : FX B n T F M N s a) : ∃ i, i < 65536 ∧ (i = 0 ∨ tg B T i = 1) ∧ f_textOf s a (nI 16) k = nI i ∧ qe_E L xs (d + 4) 179 [.ref 13, .int (nI 16), .int k] h (some (.int (nI i))) h := by
  have hW0 := QW_0 hW
  obtain ⟨s0, fa, fb, fd, hb, -⟩ := id hW0
  obtain ⟨⟨hQ, hM, hV, h0F, hFn⟩, ⟨hP, hLK, ⟨z0, z1, z2, z3, z4, z5, z6⟩, ⟨y1, y2, y3, y4⟩, hK0, hK1, ⟨o1, o2, o3, o4, o5⟩, ⟨r1, r2, r3, r4⟩⟩, ⟨hVA, hL8, hn10, v1, v2, v3, v4⟩, hnp⟩ := id hX
  have hn9 := hP.1
  have hcl9 := cTx_lt hX
  have hv2 := VA_2 (M := M) (o := 48) (w := 8) hVA (by decide)
  have hvl := ctv_lt hX 439 (fun r => (hv2 r).2)
  have hv7 : ctv B M 439 = 0 ∨ tg B T (ctv B M 439) = 7 := by
    unfold ctv
    by_cases r : M.ct 439 = 0
    · exact Or.inl (if_pos r)
    · rw [if_neg r]
      exact Or.inr ((hv2 r).1.2.1 rfl).2
  refine ⟨cT B T (ctv B M 439), hcl9 _, cT_v hX hv7, by rw [f_textOf, if_neg (by decide), if_neg (by decide), if_neg (by decide), if_neg (by decide), if_neg (by decide), if_neg (by decide), if_neg (by decide), if_neg (by decide), if_neg (by decide), if_neg (by decide), if_neg (by decide), if_neg (by decide), if_neg (by decide), f_classListTextOf, if_neg (by decide), if_neg (by decide), if_neg (by decide), if_pos (show nI 16 = 16 from rfl), show f_contentItem s a 3 0 8 = nI (ctv B M 439) from q_ci (kd := 3) (k := 0) (w := 8) hQ hM hV (by decide) (by rw [hV.2.1]; decide) (by decide) (fun r => (hv2 r).2)]; exact q_clT hX hvl, ?_⟩
  show wp_W L xs _ 179 0 [(0, .ref 13), (1, .int (nI 16)), (2, .int k)] [] h _
  refine wp_iload_n dq_179_0 rfl ?_
  refine wp_iconst (x := nI 3) dq_179_1 rfl ?_
  refine wp_ic_ltN (tgt := 11) dq_179_2 rfl (by decide) (by decide) (fun c9 => absurd c9 (by decide)) (fun _ => ?_)
  refine wp_iload_n dq_179_5 rfl ?_
  refine wp_bipush (x := nI 8) dq_179_6 rfl ?_
  refine wp_ic_leN (tgt := 23) dq_179_8 rfl (by decide) (by decide) (fun c9 => absurd c9 (by decide)) (fun _ => ?_)
  refine wp_iload_n dq_179_11 rfl ?_
  refine wp_bipush (x := nI 10) dq_179_12 rfl ?_
  refine wp_ic_ltN (tgt := 128) dq_179_14 rfl (by decide) (by decide) (fun c9 => absurd c9 (by decide)) (fun _ => ?_)
  refine wp_iload_n dq_179_17 rfl ?_
  refine wp_bipush (x := nI 12) dq_179_18 rfl ?_
  refine wp_ic_gtN (tgt := 128) dq_179_20 rfl (by decide) (by decide) (fun _ => ?_) (fun c9 => absurd c9 (by decide))
  refine wp_iload_n dq_179_128 rfl ?_
  refine wp_tab (off := 175) (tgt := 304) dq_179_129 (by decide) rfl ?_
  refine wp_aload_n dq_179_304 rfl ?_
  refine wp_aload_n dq_179_305 rfl ?_
  refine wp_getf (w := .ref 16) dq_179_306 fl_179_16 (mw_0 hb) rfl ?_
  refine wp_bipush (x := nI 19) dq_179_309 rfl ?_
  refine wp_ialdV (z := (nI (ctv B M 439))) dq_179_311 (mw_3 hb) (by omega) (by decide) (o4) ?_
  refine wp_cve1 dq_179_312 mt_179_259 (ob_of (mw_0 hb)) ⟨by decide +kernel, by decide +kernel⟩ (Nat.le_of_ble_eq_true rfl) (Nat.le_of_ble_eq_true rfl) (c_clt (d := d) hW hP hv7 hvl) ?_
  exact wp_ire dq_179_315 rfl ⟨rfl, Or.inl rfl⟩ ⟨rfl, rfl⟩
theorem q_oo0 {c : Nat} {k v : Int32} (hk : k < 0 ∨ nI c ≤ k) : (if k < 0 then (0 : Int32) else if nI c ≤ k then 0 else v) = nI 0 := by
  by_cases r : k < 0
  · rw [if_pos r]
    rfl
  · rw [if_neg r, if_pos (hk.resolve_left r)]
    rfl
set_option maxRecDepth 100000 in
theorem c_tx2 {L : Nat} {xs : Nat → Int32} {d n F : Nat} {B T : Nat → Nat} {N : Nat → Int32} {h : List qx_E} {M : rM} {s : Nat → Int32} {a : Nat → Nat → Int32} {k : Int32} (hW : QW h B n N) (hX : FX B n T F M N s a) : ∃ i, i < 65536 ∧ (i = 0 ∨ tg B T i = 1) ∧ f_textOf s a (nI 2) k = nI i ∧ qe_E L xs (d + 4) 179 [.ref 13, .int (nI 2), .int k] h (some (.int (nI i))) h := by
  have hW0 := QW_0 hW
  obtain ⟨s0, fa, fb, fd, hb, -⟩ := id hW0
  obtain ⟨⟨hQ, hM, hV, h0F, hFn⟩, ⟨hP, hLK, ⟨z0, z1, z2, z3, z4, z5, z6⟩, ⟨y1, y2, y3, y4⟩, hK0, hK1, ⟨o1, o2, o3, o4, o5⟩, ⟨r1, r2, r3, r4⟩⟩, ⟨hVA, hL8, hn10, v1, v2, v3, v4⟩, hnp⟩ := id hX
  have hn9 := hP.1
  have hcl9 := cTx_lt hX
  have hvl6 : bu_U B (F + 6) 2 < 65536 := QF_U2 hQ (by omega)
  have eI : f_interfaces s a = nI (bu_U B (F + 6) 2) := by rw [f_interfaces, h0F, show (6 : Int32) = nI 6 from rfl, nI_add, QF_u2 hQ (by omega)]
  rcases (show (k < 0 ∨ nI (bu_U B (F + 6) 2) ≤ k) ∨ ∃ j, j < bu_U B (F + 6) 2 ∧ k = nI j from (pk_ix k (n := bu_U B (F + 6) 2) (by omega)).elim (fun r => Or.inl (Or.inl r)) (fun r => r.elim (fun r => Or.inl (Or.inr r)) Or.inr)) with hk | ⟨j, hj, rfl⟩
  · refine ⟨0, by decide, Or.inl rfl, by rw [f_textOf, if_neg (by decide), if_neg (by decide), if_pos (show nI 2 = 2 from rfl), f_interfaceText, eI]; exact q_oo0 hk, ?_⟩
    show wp_W L xs _ 179 0 [(0, .ref 13), (1, .int (nI 2)), (2, .int k)] [] h _
    have hcl := c_clt (L := L) (xs := xs) (d := d) hW hP (i := 0) (Or.inl rfl) (by decide)
    rw [cT_0 hX] at hcl
    refine wp_iload_n dq_179_0 rfl ?_
    refine wp_iconst (x := nI 3) dq_179_1 rfl ?_
    refine wp_ic_ltN (tgt := 11) dq_179_2 rfl (by decide) (by decide) (fun _ => ?_) (fun c9 => absurd c9 (by decide))
    refine wp_iload_n dq_179_11 rfl ?_
    refine wp_bipush (x := nI 10) dq_179_12 rfl ?_
    refine wp_ic_ltN (tgt := 128) dq_179_14 rfl (by decide) (by decide) (fun _ => ?_) (fun c9 => absurd c9 (by decide))
    refine wp_iload_n dq_179_128 rfl ?_
    refine wp_tab (off := 113) (tgt := 242) dq_179_129 (by decide) rfl ?_
    refine wp_aload_n dq_179_242 rfl ?_
    refine wp_aload_n dq_179_243 rfl ?_
    refine wp_iconst (x := nI 5) dq_179_244 rfl ?_
    refine wp_iload_n dq_179_245 rfl ?_
    refine wp_iconst (x := nI 2) dq_179_246 rfl ?_
    refine wp_iconst (x := nI 0) dq_179_247 rfl ?_
    refine wp_cve4 dq_179_248 mt_179_262 (ob_of (mw_0 hb)) ⟨by decide +kernel, by decide +kernel⟩ (Nat.le_of_ble_eq_true rfl) (Nat.le_of_ble_eq_true rfl) (c_etN (d := d + 1) hW0 (by decide) z5 hk) ?_
    refine wp_cve1 dq_179_251 mt_179_259 (ob_of (mw_0 hb)) ⟨by decide +kernel, by decide +kernel⟩ (Nat.le_of_ble_eq_true rfl) (Nat.le_of_ble_eq_true rfl) (hcl) ?_
    exact wp_ire dq_179_254 rfl ⟨rfl, Or.inl rfl⟩ ⟨rfl, rfl⟩
  · have hv7 : tg B T (bu_U B (F + 8 + 2 * j + 0) 2) = 7 := v4 j hj
    have hvl : (bu_U B (F + 8 + 2 * j + 0) 2) < 65536 := QF_U2 hQ (by omega)
    refine ⟨cT B T (bu_U B (F + 8 + 2 * j + 0) 2), hcl9 _, cT_v hX (Or.inr hv7), by rw [f_textOf, if_neg (by decide), if_neg (by decide), if_pos (show nI 2 = 2 from rfl), f_interfaceText, eI, if_neg (nI_pos (by omega)), if_neg (nI_ge hj (by omega)), h0F, show (8 : Int32) = nI 8 from rfl, nI_add, show (2 : Int32) = nI 2 from rfl, pk_mul, nI_add, QF_u2 hQ (by omega)]; exact q_clT hX hvl, ?_⟩
    show wp_W L xs _ 179 0 [(0, .ref 13), (1, .int (nI 2)), (2, .int (nI j))] [] h _
    refine wp_iload_n dq_179_0 rfl ?_
    refine wp_iconst (x := nI 3) dq_179_1 rfl ?_
    refine wp_ic_ltN (tgt := 11) dq_179_2 rfl (by decide) (by decide) (fun _ => ?_) (fun c9 => absurd c9 (by decide))
    refine wp_iload_n dq_179_11 rfl ?_
    refine wp_bipush (x := nI 10) dq_179_12 rfl ?_
    refine wp_ic_ltN (tgt := 128) dq_179_14 rfl (by decide) (by decide) (fun _ => ?_) (fun c9 => absurd c9 (by decide))
    refine wp_iload_n dq_179_128 rfl ?_
    refine wp_tab (off := 113) (tgt := 242) dq_179_129 (by decide) rfl ?_
    refine wp_aload_n dq_179_242 rfl ?_
    refine wp_aload_n dq_179_243 rfl ?_
    refine wp_iconst (x := nI 5) dq_179_244 rfl ?_
    refine wp_iload_n dq_179_245 rfl ?_
    refine wp_iconst (x := nI 2) dq_179_246 rfl ?_
    refine wp_iconst (x := nI 0) dq_179_247 rfl ?_
    refine wp_cve4 dq_179_248 mt_179_262 (ob_of (mw_0 hb)) ⟨by decide +kernel, by decide +kernel⟩ (Nat.le_of_ble_eq_true rfl) (Nat.le_of_ble_eq_true rfl) (c_etY (d := d + 1) hW (by decide) z5 z6 hj (by omega) hn9 (by omega)) ?_
    refine wp_cve1 dq_179_251 mt_179_259 (ob_of (mw_0 hb)) ⟨by decide +kernel, by decide +kernel⟩ (Nat.le_of_ble_eq_true rfl) (Nat.le_of_ble_eq_true rfl) (c_clt (d := d) hW hP (Or.inr hv7) hvl) ?_
    exact wp_ire dq_179_254 rfl ⟨rfl, Or.inl rfl⟩ ⟨rfl, rfl⟩
set_option maxRecDepth 100000 in
theorem c_tx3 {L : Nat} {xs : Nat → Int32} {d n F : Nat} {B T : Nat → Nat} {N : Nat → Int32} {h : List qx_E} {M : rM} {s : Nat → Int32} {a : Nat → Nat → Int32} {k : Int32} (hW : QW h B n N) (hX : FX B n T F M N s a) : ∃ i, i < 65536 ∧ (i = 0 ∨ tg B T i = 1) ∧ f_textOf s a (nI 3) k = nI i ∧ qe_E L xs (d + 4) 179 [.ref 13, .int (nI 3), .int k] h (some (.int (nI i))) h := by
  have hW0 := QW_0 hW
  obtain ⟨s0, fa, fb, fd, hb, -⟩ := id hW0
  obtain ⟨⟨hQ, hM, hV, h0F, hFn⟩, ⟨hP, hLK, ⟨z0, z1, z2, z3, z4, z5, z6⟩, ⟨y1, y2, y3, y4⟩, hK0, hK1, ⟨o1, o2, o3, o4, o5⟩, ⟨r1, r2, r3, r4⟩⟩, ⟨hVA, hL8, hn10, v1, v2, v3, v4⟩, hnp⟩ := id hX
  have hn9 := hP.1
  have hcl9 := cTx_lt hX
  have hc16 := (FX_c hX (kd := 0) (by decide)).2
  rcases (show (k < 0 ∨ nI (M.c 0) ≤ k) ∨ ∃ j, j < M.c 0 ∧ k = nI j from (pk_ix k (n := M.c 0) (by omega)).elim (fun r => Or.inl (Or.inl r)) (fun r => r.elim (fun r => Or.inl (Or.inr r)) Or.inr)) with hk | ⟨j, hj, rfl⟩
  · refine ⟨0, by decide, Or.inl rfl, by rw [f_textOf, if_neg (by decide), if_neg (by decide), if_neg (by decide), if_pos (show nI 3 = 3 from rfl)]; exact (q_nm0 (kd := 0) hM hV (by decide) hk).1, ?_⟩
    show wp_W L xs _ 179 0 [(0, .ref 13), (1, .int (nI 3)), (2, .int k)] [] h _
    refine wp_iload_n dq_179_0 rfl ?_
    refine wp_iconst (x := nI 3) dq_179_1 rfl ?_
    refine wp_ic_ltN (tgt := 11) dq_179_2 rfl (by decide) (by decide) (fun c9 => absurd c9 (by decide)) (fun _ => ?_)
    refine wp_iload_n dq_179_5 rfl ?_
    refine wp_bipush (x := nI 8) dq_179_6 rfl ?_
    refine wp_ic_leN (tgt := 23) dq_179_8 rfl (by decide) (by decide) (fun _ => ?_) (fun c9 => absurd c9 (by decide))
    refine wp_iload_n dq_179_23 rfl ?_
    refine wp_iconst (x := nI 3) dq_179_24 rfl ?_
    refine wp_ic_eqN (tgt := 39) dq_179_25 rfl (by decide) (by decide) (fun _ => ?_) (fun c9 => absurd c9 (by decide))
    refine wp_iconst (x := nI 0) dq_179_39 rfl ?_
    refine wp_goto (tgt := 54) dq_179_40 rfl ?_
    refine wp_istore_n (lv' := [(0, .ref 13), (1, .int (nI 3)), (2, .int k), (3, .int (nI 0))]) dq_179_54 (by decide) rfl ?_
    refine wp_aload_n dq_179_55 rfl ?_
    refine wp_iload_n dq_179_56 rfl ?_
    refine wp_iload_n dq_179_57 rfl ?_
    refine wp_cve2 dq_179_58 mt_179_256 (ob_of (mw_0 hb)) ⟨by decide +kernel, by decide +kernel⟩ (Nat.le_of_ble_eq_true rfl) (Nat.le_of_ble_eq_true rfl) (c_m2N (d := d + 3) hW0 (kd := 0) (by decide) (FX_c hX (kd := 0) (by decide)).1 hk) ?_
    refine wp_istore (lv' := [(0, .ref 13), (1, .int (nI 3)), (2, .int k), (3, .int (nI 0)), (4, .int (-1))]) dq_179_61 (by decide) rfl ?_
    refine wp_iload_n dq_179_63 rfl ?_
    refine wp_bipush (x := nI 7) dq_179_64 rfl ?_
    refine wp_ic_eqN (tgt := 81) dq_179_66 rfl (by decide) (by decide) (fun c9 => absurd c9 (by decide)) (fun _ => ?_)
    refine wp_iload_n dq_179_69 rfl ?_
    refine wp_bipush (x := nI 8) dq_179_70 rfl ?_
    refine wp_ic_eqN (tgt := 81) dq_179_72 rfl (by decide) (by decide) (fun c9 => absurd c9 (by decide)) (fun _ => ?_)
    refine wp_iload_n dq_179_75 rfl ?_
    refine wp_bipush (x := nI 12) dq_179_76 rfl ?_
    refine wp_ic_neN (tgt := 85) dq_179_78 rfl (by decide) (by decide) (fun _ => ?_) (fun c9 => absurd c9 (by decide))
    refine wp_iload_n dq_179_85 rfl ?_
    refine wp_iconst (x := nI 3) dq_179_86 rfl ?_
    refine wp_ic_eqN (tgt := 101) dq_179_87 rfl (by decide) (by decide) (fun _ => ?_) (fun c9 => absurd c9 (by decide))
    refine wp_iconst (x := nI 1) dq_179_101 rfl ?_
    refine wp_goto (tgt := 106) dq_179_102 rfl ?_
    refine wp_istore (lv' := [(0, .ref 13), (1, .int (nI 3)), (2, .int k), (3, .int (nI 0)), (4, .int (-1)), (5, .int (nI 1))]) dq_179_106 (by decide) rfl ?_
    refine wp_iload dq_179_108 rfl ?_
    refine wp_if_ge (tgt := 117) dq_179_110 rfl (fun c1 => ?_) (fun c1 => ?_)
    · exact absurd c1 (by decide)
    · refine wp_iconst (x := nI 0) dq_179_113 rfl ?_
      refine wp_goto (tgt := 127) dq_179_114 rfl ?_
      exact wp_ire dq_179_127 rfl ⟨rfl, Or.inl rfl⟩ ⟨rfl, rfl⟩
  · refine ⟨(nmO B M 0 j), QF_U2 hQ (by have := hV.2.2.1 0 j (by decide) hj; omega), Or.inr (FX_k hX (kd := 0) (by decide) hj).2.2.2.2.1, by rw [f_textOf, if_neg (by decide), if_neg (by decide), if_neg (by decide), if_pos (show nI 3 = 3 from rfl)]; exact q_nameOf (kd := 0) hQ hM hV (by decide) hj, ?_⟩
    show wp_W L xs _ 179 0 [(0, .ref 13), (1, .int (nI 3)), (2, .int (nI j))] [] h _
    refine wp_iload_n dq_179_0 rfl ?_
    refine wp_iconst (x := nI 3) dq_179_1 rfl ?_
    refine wp_ic_ltN (tgt := 11) dq_179_2 rfl (by decide) (by decide) (fun c9 => absurd c9 (by decide)) (fun _ => ?_)
    refine wp_iload_n dq_179_5 rfl ?_
    refine wp_bipush (x := nI 8) dq_179_6 rfl ?_
    refine wp_ic_leN (tgt := 23) dq_179_8 rfl (by decide) (by decide) (fun _ => ?_) (fun c9 => absurd c9 (by decide))
    refine wp_iload_n dq_179_23 rfl ?_
    refine wp_iconst (x := nI 3) dq_179_24 rfl ?_
    refine wp_ic_eqN (tgt := 39) dq_179_25 rfl (by decide) (by decide) (fun _ => ?_) (fun c9 => absurd c9 (by decide))
    refine wp_iconst (x := nI 0) dq_179_39 rfl ?_
    refine wp_goto (tgt := 54) dq_179_40 rfl ?_
    refine wp_istore_n (lv' := [(0, .ref 13), (1, .int (nI 3)), (2, .int (nI j)), (3, .int (nI 0))]) dq_179_54 (by decide) rfl ?_
    refine wp_aload_n dq_179_55 rfl ?_
    refine wp_iload_n dq_179_56 rfl ?_
    refine wp_iload_n dq_179_57 rfl ?_
    refine wp_cve2 dq_179_58 mt_179_256 (ob_of (mw_0 hb)) ⟨by decide +kernel, by decide +kernel⟩ (Nat.le_of_ble_eq_true rfl) (Nat.le_of_ble_eq_true rfl) (c_m2Y (d := d + 3) hW0 (by decide) (FX_c hX (kd := 0) (by decide)).1 hj (FX_c hX (kd := 0) (by decide)).2) ?_
    refine wp_istore (lv' := [(0, .ref 13), (1, .int (nI 3)), (2, .int (nI j)), (3, .int (nI 0)), (4, .int (nI (100 + 130 * 0 + 8 * j)))]) dq_179_61 (by decide) rfl ?_
    refine wp_iload_n dq_179_63 rfl ?_
    refine wp_bipush (x := nI 7) dq_179_64 rfl ?_
    refine wp_ic_eqN (tgt := 81) dq_179_66 rfl (by decide) (by decide) (fun c9 => absurd c9 (by decide)) (fun _ => ?_)
    refine wp_iload_n dq_179_69 rfl ?_
    refine wp_bipush (x := nI 8) dq_179_70 rfl ?_
    refine wp_ic_eqN (tgt := 81) dq_179_72 rfl (by decide) (by decide) (fun c9 => absurd c9 (by decide)) (fun _ => ?_)
    refine wp_iload_n dq_179_75 rfl ?_
    refine wp_bipush (x := nI 12) dq_179_76 rfl ?_
    refine wp_ic_neN (tgt := 85) dq_179_78 rfl (by decide) (by decide) (fun _ => ?_) (fun c9 => absurd c9 (by decide))
    refine wp_iload_n dq_179_85 rfl ?_
    refine wp_iconst (x := nI 3) dq_179_86 rfl ?_
    refine wp_ic_eqN (tgt := 101) dq_179_87 rfl (by decide) (by decide) (fun _ => ?_) (fun c9 => absurd c9 (by decide))
    refine wp_iconst (x := nI 1) dq_179_101 rfl ?_
    refine wp_goto (tgt := 106) dq_179_102 rfl ?_
    refine wp_istore (lv' := [(0, .ref 13), (1, .int (nI 3)), (2, .int (nI j)), (3, .int (nI 0)), (4, .int (nI (100 + 130 * 0 + 8 * j))), (5, .int (nI 1))]) dq_179_106 (by decide) rfl ?_
    refine wp_iload dq_179_108 rfl ?_
    refine wp_if_geN (tgt := 117) dq_179_110 rfl (by omega) (fun c1 => ?_) (fun c1 => ?_)
    · refine wp_aload_n dq_179_117 rfl ?_
      refine wp_getf (w := .ref 16) dq_179_118 fl_179_16 (mw_0 hb) rfl ?_
      refine wp_iload dq_179_121 rfl ?_
      refine wp_iload dq_179_123 rfl ?_
      refine wp_iaddN dq_179_125 ?_
      refine wp_ialdV (z := (nI (nmO B M 0 j))) dq_179_126 (mw_3 hb) (by omega) (by decide) ((FX_k hX (kd := 0) (by decide) hj).1) ?_
      exact wp_ire dq_179_127 rfl ⟨rfl, Or.inl rfl⟩ ⟨rfl, rfl⟩
    · exact absurd c1 (by omega)
set_option maxRecDepth 100000 in
theorem c_tx4 {L : Nat} {xs : Nat → Int32} {d n F : Nat} {B T : Nat → Nat} {N : Nat → Int32} {h : List qx_E} {M : rM} {s : Nat → Int32} {a : Nat → Nat → Int32} {k : Int32} (hW : QW h B n N) (hX : FX B n T F M N s a) : ∃ i, i < 65536 ∧ (i = 0 ∨ tg B T i = 1) ∧ f_textOf s a (nI 4) k = nI i ∧ qe_E L xs (d + 4) 179 [.ref 13, .int (nI 4), .int k] h (some (.int (nI i))) h := by
  have hW0 := QW_0 hW
  obtain ⟨s0, fa, fb, fd, hb, -⟩ := id hW0
  obtain ⟨⟨hQ, hM, hV, h0F, hFn⟩, ⟨hP, hLK, ⟨z0, z1, z2, z3, z4, z5, z6⟩, ⟨y1, y2, y3, y4⟩, hK0, hK1, ⟨o1, o2, o3, o4, o5⟩, ⟨r1, r2, r3, r4⟩⟩, ⟨hVA, hL8, hn10, v1, v2, v3, v4⟩, hnp⟩ := id hX
  have hn9 := hP.1
  have hcl9 := cTx_lt hX
  have hc16 := (FX_c hX (kd := 0) (by decide)).2
  rcases (show (k < 0 ∨ nI (M.c 0) ≤ k) ∨ ∃ j, j < M.c 0 ∧ k = nI j from (pk_ix k (n := M.c 0) (by omega)).elim (fun r => Or.inl (Or.inl r)) (fun r => r.elim (fun r => Or.inl (Or.inr r)) Or.inr)) with hk | ⟨j, hj, rfl⟩
  · refine ⟨0, by decide, Or.inl rfl, by rw [f_textOf, if_neg (by decide), if_neg (by decide), if_neg (by decide), if_neg (by decide), if_pos (show nI 4 = 4 from rfl)]; exact (q_nm0 (kd := 0) hM hV (by decide) hk).2, ?_⟩
    show wp_W L xs _ 179 0 [(0, .ref 13), (1, .int (nI 4)), (2, .int k)] [] h _
    refine wp_iload_n dq_179_0 rfl ?_
    refine wp_iconst (x := nI 3) dq_179_1 rfl ?_
    refine wp_ic_ltN (tgt := 11) dq_179_2 rfl (by decide) (by decide) (fun c9 => absurd c9 (by decide)) (fun _ => ?_)
    refine wp_iload_n dq_179_5 rfl ?_
    refine wp_bipush (x := nI 8) dq_179_6 rfl ?_
    refine wp_ic_leN (tgt := 23) dq_179_8 rfl (by decide) (by decide) (fun _ => ?_) (fun c9 => absurd c9 (by decide))
    refine wp_iload_n dq_179_23 rfl ?_
    refine wp_iconst (x := nI 3) dq_179_24 rfl ?_
    refine wp_ic_eqN (tgt := 39) dq_179_25 rfl (by decide) (by decide) (fun c9 => absurd c9 (by decide)) (fun _ => ?_)
    refine wp_iload_n dq_179_28 rfl ?_
    refine wp_iconst (x := nI 4) dq_179_29 rfl ?_
    refine wp_ic_eqN (tgt := 39) dq_179_30 rfl (by decide) (by decide) (fun _ => ?_) (fun c9 => absurd c9 (by decide))
    refine wp_iconst (x := nI 0) dq_179_39 rfl ?_
    refine wp_goto (tgt := 54) dq_179_40 rfl ?_
    refine wp_istore_n (lv' := [(0, .ref 13), (1, .int (nI 4)), (2, .int k), (3, .int (nI 0))]) dq_179_54 (by decide) rfl ?_
    refine wp_aload_n dq_179_55 rfl ?_
    refine wp_iload_n dq_179_56 rfl ?_
    refine wp_iload_n dq_179_57 rfl ?_
    refine wp_cve2 dq_179_58 mt_179_256 (ob_of (mw_0 hb)) ⟨by decide +kernel, by decide +kernel⟩ (Nat.le_of_ble_eq_true rfl) (Nat.le_of_ble_eq_true rfl) (c_m2N (d := d + 3) hW0 (kd := 0) (by decide) (FX_c hX (kd := 0) (by decide)).1 hk) ?_
    refine wp_istore (lv' := [(0, .ref 13), (1, .int (nI 4)), (2, .int k), (3, .int (nI 0)), (4, .int (-1))]) dq_179_61 (by decide) rfl ?_
    refine wp_iload_n dq_179_63 rfl ?_
    refine wp_bipush (x := nI 7) dq_179_64 rfl ?_
    refine wp_ic_eqN (tgt := 81) dq_179_66 rfl (by decide) (by decide) (fun c9 => absurd c9 (by decide)) (fun _ => ?_)
    refine wp_iload_n dq_179_69 rfl ?_
    refine wp_bipush (x := nI 8) dq_179_70 rfl ?_
    refine wp_ic_eqN (tgt := 81) dq_179_72 rfl (by decide) (by decide) (fun c9 => absurd c9 (by decide)) (fun _ => ?_)
    refine wp_iload_n dq_179_75 rfl ?_
    refine wp_bipush (x := nI 12) dq_179_76 rfl ?_
    refine wp_ic_neN (tgt := 85) dq_179_78 rfl (by decide) (by decide) (fun _ => ?_) (fun c9 => absurd c9 (by decide))
    refine wp_iload_n dq_179_85 rfl ?_
    refine wp_iconst (x := nI 3) dq_179_86 rfl ?_
    refine wp_ic_eqN (tgt := 101) dq_179_87 rfl (by decide) (by decide) (fun c9 => absurd c9 (by decide)) (fun _ => ?_)
    refine wp_iload_n dq_179_90 rfl ?_
    refine wp_iconst (x := nI 5) dq_179_91 rfl ?_
    refine wp_ic_eqN (tgt := 101) dq_179_92 rfl (by decide) (by decide) (fun c9 => absurd c9 (by decide)) (fun _ => ?_)
    refine wp_iload_n dq_179_95 rfl ?_
    refine wp_bipush (x := nI 10) dq_179_96 rfl ?_
    refine wp_ic_neN (tgt := 105) dq_179_98 rfl (by decide) (by decide) (fun _ => ?_) (fun c9 => absurd c9 (by decide))
    refine wp_iconst (x := nI 2) dq_179_105 rfl ?_
    refine wp_istore (lv' := [(0, .ref 13), (1, .int (nI 4)), (2, .int k), (3, .int (nI 0)), (4, .int (-1)), (5, .int (nI 2))]) dq_179_106 (by decide) rfl ?_
    refine wp_iload dq_179_108 rfl ?_
    refine wp_if_ge (tgt := 117) dq_179_110 rfl (fun c1 => ?_) (fun c1 => ?_)
    · exact absurd c1 (by decide)
    · refine wp_iconst (x := nI 0) dq_179_113 rfl ?_
      refine wp_goto (tgt := 127) dq_179_114 rfl ?_
      exact wp_ire dq_179_127 rfl ⟨rfl, Or.inl rfl⟩ ⟨rfl, rfl⟩
  · refine ⟨(tyO B M 0 j), QF_U2 hQ (by have := hV.2.2.1 0 j (by decide) hj; omega), Or.inr (FX_k hX (kd := 0) (by decide) hj).2.2.2.2.2, by rw [f_textOf, if_neg (by decide), if_neg (by decide), if_neg (by decide), if_neg (by decide), if_pos (show nI 4 = 4 from rfl)]; exact q_typeOf (kd := 0) hQ hM hV (by decide) hj, ?_⟩
    show wp_W L xs _ 179 0 [(0, .ref 13), (1, .int (nI 4)), (2, .int (nI j))] [] h _
    refine wp_iload_n dq_179_0 rfl ?_
    refine wp_iconst (x := nI 3) dq_179_1 rfl ?_
    refine wp_ic_ltN (tgt := 11) dq_179_2 rfl (by decide) (by decide) (fun c9 => absurd c9 (by decide)) (fun _ => ?_)
    refine wp_iload_n dq_179_5 rfl ?_
    refine wp_bipush (x := nI 8) dq_179_6 rfl ?_
    refine wp_ic_leN (tgt := 23) dq_179_8 rfl (by decide) (by decide) (fun _ => ?_) (fun c9 => absurd c9 (by decide))
    refine wp_iload_n dq_179_23 rfl ?_
    refine wp_iconst (x := nI 3) dq_179_24 rfl ?_
    refine wp_ic_eqN (tgt := 39) dq_179_25 rfl (by decide) (by decide) (fun c9 => absurd c9 (by decide)) (fun _ => ?_)
    refine wp_iload_n dq_179_28 rfl ?_
    refine wp_iconst (x := nI 4) dq_179_29 rfl ?_
    refine wp_ic_eqN (tgt := 39) dq_179_30 rfl (by decide) (by decide) (fun _ => ?_) (fun c9 => absurd c9 (by decide))
    refine wp_iconst (x := nI 0) dq_179_39 rfl ?_
    refine wp_goto (tgt := 54) dq_179_40 rfl ?_
    refine wp_istore_n (lv' := [(0, .ref 13), (1, .int (nI 4)), (2, .int (nI j)), (3, .int (nI 0))]) dq_179_54 (by decide) rfl ?_
    refine wp_aload_n dq_179_55 rfl ?_
    refine wp_iload_n dq_179_56 rfl ?_
    refine wp_iload_n dq_179_57 rfl ?_
    refine wp_cve2 dq_179_58 mt_179_256 (ob_of (mw_0 hb)) ⟨by decide +kernel, by decide +kernel⟩ (Nat.le_of_ble_eq_true rfl) (Nat.le_of_ble_eq_true rfl) (c_m2Y (d := d + 3) hW0 (by decide) (FX_c hX (kd := 0) (by decide)).1 hj (FX_c hX (kd := 0) (by decide)).2) ?_
    refine wp_istore (lv' := [(0, .ref 13), (1, .int (nI 4)), (2, .int (nI j)), (3, .int (nI 0)), (4, .int (nI (100 + 130 * 0 + 8 * j)))]) dq_179_61 (by decide) rfl ?_
    refine wp_iload_n dq_179_63 rfl ?_
    refine wp_bipush (x := nI 7) dq_179_64 rfl ?_
    refine wp_ic_eqN (tgt := 81) dq_179_66 rfl (by decide) (by decide) (fun c9 => absurd c9 (by decide)) (fun _ => ?_)
    refine wp_iload_n dq_179_69 rfl ?_
    refine wp_bipush (x := nI 8) dq_179_70 rfl ?_
    refine wp_ic_eqN (tgt := 81) dq_179_72 rfl (by decide) (by decide) (fun c9 => absurd c9 (by decide)) (fun _ => ?_)
    refine wp_iload_n dq_179_75 rfl ?_
    refine wp_bipush (x := nI 12) dq_179_76 rfl ?_
    refine wp_ic_neN (tgt := 85) dq_179_78 rfl (by decide) (by decide) (fun _ => ?_) (fun c9 => absurd c9 (by decide))
    refine wp_iload_n dq_179_85 rfl ?_
    refine wp_iconst (x := nI 3) dq_179_86 rfl ?_
    refine wp_ic_eqN (tgt := 101) dq_179_87 rfl (by decide) (by decide) (fun c9 => absurd c9 (by decide)) (fun _ => ?_)
    refine wp_iload_n dq_179_90 rfl ?_
    refine wp_iconst (x := nI 5) dq_179_91 rfl ?_
    refine wp_ic_eqN (tgt := 101) dq_179_92 rfl (by decide) (by decide) (fun c9 => absurd c9 (by decide)) (fun _ => ?_)
    refine wp_iload_n dq_179_95 rfl ?_
    refine wp_bipush (x := nI 10) dq_179_96 rfl ?_
    refine wp_ic_neN (tgt := 105) dq_179_98 rfl (by decide) (by decide) (fun _ => ?_) (fun c9 => absurd c9 (by decide))
    refine wp_iconst (x := nI 2) dq_179_105 rfl ?_
    refine wp_istore (lv' := [(0, .ref 13), (1, .int (nI 4)), (2, .int (nI j)), (3, .int (nI 0)), (4, .int (nI (100 + 130 * 0 + 8 * j))), (5, .int (nI 2))]) dq_179_106 (by decide) rfl ?_
    refine wp_iload dq_179_108 rfl ?_
    refine wp_if_geN (tgt := 117) dq_179_110 rfl (by omega) (fun c1 => ?_) (fun c1 => ?_)
    · refine wp_aload_n dq_179_117 rfl ?_
      refine wp_getf (w := .ref 16) dq_179_118 fl_179_16 (mw_0 hb) rfl ?_
      refine wp_iload dq_179_121 rfl ?_
      refine wp_iload dq_179_123 rfl ?_
      refine wp_iaddN dq_179_125 ?_
      refine wp_ialdV (z := (nI (tyO B M 0 j))) dq_179_126 (mw_3 hb) (by omega) (by decide) ((FX_k hX (kd := 0) (by decide) hj).2.1) ?_
      exact wp_ire dq_179_127 rfl ⟨rfl, Or.inl rfl⟩ ⟨rfl, rfl⟩
    · exact absurd c1 (by omega)
set_option maxRecDepth 100000 in
theorem c_tx5 {L : Nat} {xs : Nat → Int32} {d n F : Nat} {B T : Nat → Nat} {N : Nat → Int32} {h : List qx_E} {M : rM} {s : Nat → Int32} {a : Nat → Nat → Int32} {k : Int32} (hW : QW h B n N) (hX : FX B n T F M N s a) : ∃ i, i < 65536 ∧ (i = 0 ∨ tg B T i = 1) ∧ f_textOf s a (nI 5) k = nI i ∧ qe_E L xs (d + 4) 179 [.ref 13, .int (nI 5), .int k] h (some (.int (nI i))) h := by
  have hW0 := QW_0 hW
  obtain ⟨s0, fa, fb, fd, hb, -⟩ := id hW0
  obtain ⟨⟨hQ, hM, hV, h0F, hFn⟩, ⟨hP, hLK, ⟨z0, z1, z2, z3, z4, z5, z6⟩, ⟨y1, y2, y3, y4⟩, hK0, hK1, ⟨o1, o2, o3, o4, o5⟩, ⟨r1, r2, r3, r4⟩⟩, ⟨hVA, hL8, hn10, v1, v2, v3, v4⟩, hnp⟩ := id hX
  have hn9 := hP.1
  have hcl9 := cTx_lt hX
  have hc16 := (FX_c hX (kd := 1) (by decide)).2
  rcases (show (k < 0 ∨ nI (M.c 1) ≤ k) ∨ ∃ j, j < M.c 1 ∧ k = nI j from (pk_ix k (n := M.c 1) (by omega)).elim (fun r => Or.inl (Or.inl r)) (fun r => r.elim (fun r => Or.inl (Or.inr r)) Or.inr)) with hk | ⟨j, hj, rfl⟩
  · refine ⟨0, by decide, Or.inl rfl, by rw [f_textOf, if_neg (by decide), if_neg (by decide), if_neg (by decide), if_neg (by decide), if_neg (by decide), if_pos (show nI 5 = 5 from rfl)]; exact (q_nm0 (kd := 1) hM hV (by decide) hk).1, ?_⟩
    show wp_W L xs _ 179 0 [(0, .ref 13), (1, .int (nI 5)), (2, .int k)] [] h _
    refine wp_iload_n dq_179_0 rfl ?_
    refine wp_iconst (x := nI 3) dq_179_1 rfl ?_
    refine wp_ic_ltN (tgt := 11) dq_179_2 rfl (by decide) (by decide) (fun c9 => absurd c9 (by decide)) (fun _ => ?_)
    refine wp_iload_n dq_179_5 rfl ?_
    refine wp_bipush (x := nI 8) dq_179_6 rfl ?_
    refine wp_ic_leN (tgt := 23) dq_179_8 rfl (by decide) (by decide) (fun _ => ?_) (fun c9 => absurd c9 (by decide))
    refine wp_iload_n dq_179_23 rfl ?_
    refine wp_iconst (x := nI 3) dq_179_24 rfl ?_
    refine wp_ic_eqN (tgt := 39) dq_179_25 rfl (by decide) (by decide) (fun c9 => absurd c9 (by decide)) (fun _ => ?_)
    refine wp_iload_n dq_179_28 rfl ?_
    refine wp_iconst (x := nI 4) dq_179_29 rfl ?_
    refine wp_ic_eqN (tgt := 39) dq_179_30 rfl (by decide) (by decide) (fun c9 => absurd c9 (by decide)) (fun _ => ?_)
    refine wp_iload_n dq_179_33 rfl ?_
    refine wp_bipush (x := nI 7) dq_179_34 rfl ?_
    refine wp_ic_neN (tgt := 43) dq_179_36 rfl (by decide) (by decide) (fun _ => ?_) (fun c9 => absurd c9 (by decide))
    refine wp_iload_n dq_179_43 rfl ?_
    refine wp_bipush (x := nI 9) dq_179_44 rfl ?_
    refine wp_ic_geN (tgt := 53) dq_179_46 rfl (by decide) (by decide) (fun c9 => absurd c9 (by decide)) (fun _ => ?_)
    refine wp_iconst (x := nI 1) dq_179_49 rfl ?_
    refine wp_goto (tgt := 54) dq_179_50 rfl ?_
    refine wp_istore_n (lv' := [(0, .ref 13), (1, .int (nI 5)), (2, .int k), (3, .int (nI 1))]) dq_179_54 (by decide) rfl ?_
    refine wp_aload_n dq_179_55 rfl ?_
    refine wp_iload_n dq_179_56 rfl ?_
    refine wp_iload_n dq_179_57 rfl ?_
    refine wp_cve2 dq_179_58 mt_179_256 (ob_of (mw_0 hb)) ⟨by decide +kernel, by decide +kernel⟩ (Nat.le_of_ble_eq_true rfl) (Nat.le_of_ble_eq_true rfl) (c_m2N (d := d + 3) hW0 (kd := 1) (by decide) (FX_c hX (kd := 1) (by decide)).1 hk) ?_
    refine wp_istore (lv' := [(0, .ref 13), (1, .int (nI 5)), (2, .int k), (3, .int (nI 1)), (4, .int (-1))]) dq_179_61 (by decide) rfl ?_
    refine wp_iload_n dq_179_63 rfl ?_
    refine wp_bipush (x := nI 7) dq_179_64 rfl ?_
    refine wp_ic_eqN (tgt := 81) dq_179_66 rfl (by decide) (by decide) (fun c9 => absurd c9 (by decide)) (fun _ => ?_)
    refine wp_iload_n dq_179_69 rfl ?_
    refine wp_bipush (x := nI 8) dq_179_70 rfl ?_
    refine wp_ic_eqN (tgt := 81) dq_179_72 rfl (by decide) (by decide) (fun c9 => absurd c9 (by decide)) (fun _ => ?_)
    refine wp_iload_n dq_179_75 rfl ?_
    refine wp_bipush (x := nI 12) dq_179_76 rfl ?_
    refine wp_ic_neN (tgt := 85) dq_179_78 rfl (by decide) (by decide) (fun _ => ?_) (fun c9 => absurd c9 (by decide))
    refine wp_iload_n dq_179_85 rfl ?_
    refine wp_iconst (x := nI 3) dq_179_86 rfl ?_
    refine wp_ic_eqN (tgt := 101) dq_179_87 rfl (by decide) (by decide) (fun c9 => absurd c9 (by decide)) (fun _ => ?_)
    refine wp_iload_n dq_179_90 rfl ?_
    refine wp_iconst (x := nI 5) dq_179_91 rfl ?_
    refine wp_ic_eqN (tgt := 101) dq_179_92 rfl (by decide) (by decide) (fun _ => ?_) (fun c9 => absurd c9 (by decide))
    refine wp_iconst (x := nI 1) dq_179_101 rfl ?_
    refine wp_goto (tgt := 106) dq_179_102 rfl ?_
    refine wp_istore (lv' := [(0, .ref 13), (1, .int (nI 5)), (2, .int k), (3, .int (nI 1)), (4, .int (-1)), (5, .int (nI 1))]) dq_179_106 (by decide) rfl ?_
    refine wp_iload dq_179_108 rfl ?_
    refine wp_if_ge (tgt := 117) dq_179_110 rfl (fun c1 => ?_) (fun c1 => ?_)
    · exact absurd c1 (by decide)
    · refine wp_iconst (x := nI 0) dq_179_113 rfl ?_
      refine wp_goto (tgt := 127) dq_179_114 rfl ?_
      exact wp_ire dq_179_127 rfl ⟨rfl, Or.inl rfl⟩ ⟨rfl, rfl⟩
  · refine ⟨(nmO B M 1 j), QF_U2 hQ (by have := hV.2.2.1 1 j (by decide) hj; omega), Or.inr (FX_k hX (kd := 1) (by decide) hj).2.2.2.2.1, by rw [f_textOf, if_neg (by decide), if_neg (by decide), if_neg (by decide), if_neg (by decide), if_neg (by decide), if_pos (show nI 5 = 5 from rfl)]; exact q_nameOf (kd := 1) hQ hM hV (by decide) hj, ?_⟩
    show wp_W L xs _ 179 0 [(0, .ref 13), (1, .int (nI 5)), (2, .int (nI j))] [] h _
    refine wp_iload_n dq_179_0 rfl ?_
    refine wp_iconst (x := nI 3) dq_179_1 rfl ?_
    refine wp_ic_ltN (tgt := 11) dq_179_2 rfl (by decide) (by decide) (fun c9 => absurd c9 (by decide)) (fun _ => ?_)
    refine wp_iload_n dq_179_5 rfl ?_
    refine wp_bipush (x := nI 8) dq_179_6 rfl ?_
    refine wp_ic_leN (tgt := 23) dq_179_8 rfl (by decide) (by decide) (fun _ => ?_) (fun c9 => absurd c9 (by decide))
    refine wp_iload_n dq_179_23 rfl ?_
    refine wp_iconst (x := nI 3) dq_179_24 rfl ?_
    refine wp_ic_eqN (tgt := 39) dq_179_25 rfl (by decide) (by decide) (fun c9 => absurd c9 (by decide)) (fun _ => ?_)
    refine wp_iload_n dq_179_28 rfl ?_
    refine wp_iconst (x := nI 4) dq_179_29 rfl ?_
    refine wp_ic_eqN (tgt := 39) dq_179_30 rfl (by decide) (by decide) (fun c9 => absurd c9 (by decide)) (fun _ => ?_)
    refine wp_iload_n dq_179_33 rfl ?_
    refine wp_bipush (x := nI 7) dq_179_34 rfl ?_
    refine wp_ic_neN (tgt := 43) dq_179_36 rfl (by decide) (by decide) (fun _ => ?_) (fun c9 => absurd c9 (by decide))
    refine wp_iload_n dq_179_43 rfl ?_
    refine wp_bipush (x := nI 9) dq_179_44 rfl ?_
    refine wp_ic_geN (tgt := 53) dq_179_46 rfl (by decide) (by decide) (fun c9 => absurd c9 (by decide)) (fun _ => ?_)
    refine wp_iconst (x := nI 1) dq_179_49 rfl ?_
    refine wp_goto (tgt := 54) dq_179_50 rfl ?_
    refine wp_istore_n (lv' := [(0, .ref 13), (1, .int (nI 5)), (2, .int (nI j)), (3, .int (nI 1))]) dq_179_54 (by decide) rfl ?_
    refine wp_aload_n dq_179_55 rfl ?_
    refine wp_iload_n dq_179_56 rfl ?_
    refine wp_iload_n dq_179_57 rfl ?_
    refine wp_cve2 dq_179_58 mt_179_256 (ob_of (mw_0 hb)) ⟨by decide +kernel, by decide +kernel⟩ (Nat.le_of_ble_eq_true rfl) (Nat.le_of_ble_eq_true rfl) (c_m2Y (d := d + 3) hW0 (by decide) (FX_c hX (kd := 1) (by decide)).1 hj (FX_c hX (kd := 1) (by decide)).2) ?_
    refine wp_istore (lv' := [(0, .ref 13), (1, .int (nI 5)), (2, .int (nI j)), (3, .int (nI 1)), (4, .int (nI (100 + 130 * 1 + 8 * j)))]) dq_179_61 (by decide) rfl ?_
    refine wp_iload_n dq_179_63 rfl ?_
    refine wp_bipush (x := nI 7) dq_179_64 rfl ?_
    refine wp_ic_eqN (tgt := 81) dq_179_66 rfl (by decide) (by decide) (fun c9 => absurd c9 (by decide)) (fun _ => ?_)
    refine wp_iload_n dq_179_69 rfl ?_
    refine wp_bipush (x := nI 8) dq_179_70 rfl ?_
    refine wp_ic_eqN (tgt := 81) dq_179_72 rfl (by decide) (by decide) (fun c9 => absurd c9 (by decide)) (fun _ => ?_)
    refine wp_iload_n dq_179_75 rfl ?_
    refine wp_bipush (x := nI 12) dq_179_76 rfl ?_
    refine wp_ic_neN (tgt := 85) dq_179_78 rfl (by decide) (by decide) (fun _ => ?_) (fun c9 => absurd c9 (by decide))
    refine wp_iload_n dq_179_85 rfl ?_
    refine wp_iconst (x := nI 3) dq_179_86 rfl ?_
    refine wp_ic_eqN (tgt := 101) dq_179_87 rfl (by decide) (by decide) (fun c9 => absurd c9 (by decide)) (fun _ => ?_)
    refine wp_iload_n dq_179_90 rfl ?_
    refine wp_iconst (x := nI 5) dq_179_91 rfl ?_
    refine wp_ic_eqN (tgt := 101) dq_179_92 rfl (by decide) (by decide) (fun _ => ?_) (fun c9 => absurd c9 (by decide))
    refine wp_iconst (x := nI 1) dq_179_101 rfl ?_
    refine wp_goto (tgt := 106) dq_179_102 rfl ?_
    refine wp_istore (lv' := [(0, .ref 13), (1, .int (nI 5)), (2, .int (nI j)), (3, .int (nI 1)), (4, .int (nI (100 + 130 * 1 + 8 * j))), (5, .int (nI 1))]) dq_179_106 (by decide) rfl ?_
    refine wp_iload dq_179_108 rfl ?_
    refine wp_if_geN (tgt := 117) dq_179_110 rfl (by omega) (fun c1 => ?_) (fun c1 => ?_)
    · refine wp_aload_n dq_179_117 rfl ?_
      refine wp_getf (w := .ref 16) dq_179_118 fl_179_16 (mw_0 hb) rfl ?_
      refine wp_iload dq_179_121 rfl ?_
      refine wp_iload dq_179_123 rfl ?_
      refine wp_iaddN dq_179_125 ?_
      refine wp_ialdV (z := (nI (nmO B M 1 j))) dq_179_126 (mw_3 hb) (by omega) (by decide) ((FX_k hX (kd := 1) (by decide) hj).1) ?_
      exact wp_ire dq_179_127 rfl ⟨rfl, Or.inl rfl⟩ ⟨rfl, rfl⟩
    · exact absurd c1 (by omega)
set_option maxRecDepth 100000 in
theorem c_tx6 {L : Nat} {xs : Nat → Int32} {d n F : Nat} {B T : Nat → Nat} {N : Nat → Int32} {h : List qx_E} {M : rM} {s : Nat → Int32} {a : Nat → Nat → Int32} {k : Int32} (hW : QW h B n N) (hX : FX B n T F M N s a) : ∃ i, i < 65536 ∧ (i = 0 ∨ tg B T i = 1) ∧ f_textOf s a (nI 6) k = nI i ∧ qe_E L xs (d + 4) 179 [.ref 13, .int (nI 6), .int k] h (some (.int (nI i))) h := by
  have hW0 := QW_0 hW
  obtain ⟨s0, fa, fb, fd, hb, -⟩ := id hW0
  obtain ⟨⟨hQ, hM, hV, h0F, hFn⟩, ⟨hP, hLK, ⟨z0, z1, z2, z3, z4, z5, z6⟩, ⟨y1, y2, y3, y4⟩, hK0, hK1, ⟨o1, o2, o3, o4, o5⟩, ⟨r1, r2, r3, r4⟩⟩, ⟨hVA, hL8, hn10, v1, v2, v3, v4⟩, hnp⟩ := id hX
  have hn9 := hP.1
  have hcl9 := cTx_lt hX
  have hc16 := (FX_c hX (kd := 1) (by decide)).2
  rcases (show (k < 0 ∨ nI (M.c 1) ≤ k) ∨ ∃ j, j < M.c 1 ∧ k = nI j from (pk_ix k (n := M.c 1) (by omega)).elim (fun r => Or.inl (Or.inl r)) (fun r => r.elim (fun r => Or.inl (Or.inr r)) Or.inr)) with hk | ⟨j, hj, rfl⟩
  · refine ⟨0, by decide, Or.inl rfl, by rw [f_textOf, if_neg (by decide), if_neg (by decide), if_neg (by decide), if_neg (by decide), if_neg (by decide), if_neg (by decide), if_pos (show nI 6 = 6 from rfl)]; exact (q_nm0 (kd := 1) hM hV (by decide) hk).2, ?_⟩
    show wp_W L xs _ 179 0 [(0, .ref 13), (1, .int (nI 6)), (2, .int k)] [] h _
    refine wp_iload_n dq_179_0 rfl ?_
    refine wp_iconst (x := nI 3) dq_179_1 rfl ?_
    refine wp_ic_ltN (tgt := 11) dq_179_2 rfl (by decide) (by decide) (fun c9 => absurd c9 (by decide)) (fun _ => ?_)
    refine wp_iload_n dq_179_5 rfl ?_
    refine wp_bipush (x := nI 8) dq_179_6 rfl ?_
    refine wp_ic_leN (tgt := 23) dq_179_8 rfl (by decide) (by decide) (fun _ => ?_) (fun c9 => absurd c9 (by decide))
    refine wp_iload_n dq_179_23 rfl ?_
    refine wp_iconst (x := nI 3) dq_179_24 rfl ?_
    refine wp_ic_eqN (tgt := 39) dq_179_25 rfl (by decide) (by decide) (fun c9 => absurd c9 (by decide)) (fun _ => ?_)
    refine wp_iload_n dq_179_28 rfl ?_
    refine wp_iconst (x := nI 4) dq_179_29 rfl ?_
    refine wp_ic_eqN (tgt := 39) dq_179_30 rfl (by decide) (by decide) (fun c9 => absurd c9 (by decide)) (fun _ => ?_)
    refine wp_iload_n dq_179_33 rfl ?_
    refine wp_bipush (x := nI 7) dq_179_34 rfl ?_
    refine wp_ic_neN (tgt := 43) dq_179_36 rfl (by decide) (by decide) (fun _ => ?_) (fun c9 => absurd c9 (by decide))
    refine wp_iload_n dq_179_43 rfl ?_
    refine wp_bipush (x := nI 9) dq_179_44 rfl ?_
    refine wp_ic_geN (tgt := 53) dq_179_46 rfl (by decide) (by decide) (fun c9 => absurd c9 (by decide)) (fun _ => ?_)
    refine wp_iconst (x := nI 1) dq_179_49 rfl ?_
    refine wp_goto (tgt := 54) dq_179_50 rfl ?_
    refine wp_istore_n (lv' := [(0, .ref 13), (1, .int (nI 6)), (2, .int k), (3, .int (nI 1))]) dq_179_54 (by decide) rfl ?_
    refine wp_aload_n dq_179_55 rfl ?_
    refine wp_iload_n dq_179_56 rfl ?_
    refine wp_iload_n dq_179_57 rfl ?_
    refine wp_cve2 dq_179_58 mt_179_256 (ob_of (mw_0 hb)) ⟨by decide +kernel, by decide +kernel⟩ (Nat.le_of_ble_eq_true rfl) (Nat.le_of_ble_eq_true rfl) (c_m2N (d := d + 3) hW0 (kd := 1) (by decide) (FX_c hX (kd := 1) (by decide)).1 hk) ?_
    refine wp_istore (lv' := [(0, .ref 13), (1, .int (nI 6)), (2, .int k), (3, .int (nI 1)), (4, .int (-1))]) dq_179_61 (by decide) rfl ?_
    refine wp_iload_n dq_179_63 rfl ?_
    refine wp_bipush (x := nI 7) dq_179_64 rfl ?_
    refine wp_ic_eqN (tgt := 81) dq_179_66 rfl (by decide) (by decide) (fun c9 => absurd c9 (by decide)) (fun _ => ?_)
    refine wp_iload_n dq_179_69 rfl ?_
    refine wp_bipush (x := nI 8) dq_179_70 rfl ?_
    refine wp_ic_eqN (tgt := 81) dq_179_72 rfl (by decide) (by decide) (fun c9 => absurd c9 (by decide)) (fun _ => ?_)
    refine wp_iload_n dq_179_75 rfl ?_
    refine wp_bipush (x := nI 12) dq_179_76 rfl ?_
    refine wp_ic_neN (tgt := 85) dq_179_78 rfl (by decide) (by decide) (fun _ => ?_) (fun c9 => absurd c9 (by decide))
    refine wp_iload_n dq_179_85 rfl ?_
    refine wp_iconst (x := nI 3) dq_179_86 rfl ?_
    refine wp_ic_eqN (tgt := 101) dq_179_87 rfl (by decide) (by decide) (fun c9 => absurd c9 (by decide)) (fun _ => ?_)
    refine wp_iload_n dq_179_90 rfl ?_
    refine wp_iconst (x := nI 5) dq_179_91 rfl ?_
    refine wp_ic_eqN (tgt := 101) dq_179_92 rfl (by decide) (by decide) (fun c9 => absurd c9 (by decide)) (fun _ => ?_)
    refine wp_iload_n dq_179_95 rfl ?_
    refine wp_bipush (x := nI 10) dq_179_96 rfl ?_
    refine wp_ic_neN (tgt := 105) dq_179_98 rfl (by decide) (by decide) (fun _ => ?_) (fun c9 => absurd c9 (by decide))
    refine wp_iconst (x := nI 2) dq_179_105 rfl ?_
    refine wp_istore (lv' := [(0, .ref 13), (1, .int (nI 6)), (2, .int k), (3, .int (nI 1)), (4, .int (-1)), (5, .int (nI 2))]) dq_179_106 (by decide) rfl ?_
    refine wp_iload dq_179_108 rfl ?_
    refine wp_if_ge (tgt := 117) dq_179_110 rfl (fun c1 => ?_) (fun c1 => ?_)
    · exact absurd c1 (by decide)
    · refine wp_iconst (x := nI 0) dq_179_113 rfl ?_
      refine wp_goto (tgt := 127) dq_179_114 rfl ?_
      exact wp_ire dq_179_127 rfl ⟨rfl, Or.inl rfl⟩ ⟨rfl, rfl⟩
  · refine ⟨(tyO B M 1 j), QF_U2 hQ (by have := hV.2.2.1 1 j (by decide) hj; omega), Or.inr (FX_k hX (kd := 1) (by decide) hj).2.2.2.2.2, by rw [f_textOf, if_neg (by decide), if_neg (by decide), if_neg (by decide), if_neg (by decide), if_neg (by decide), if_neg (by decide), if_pos (show nI 6 = 6 from rfl)]; exact q_typeOf (kd := 1) hQ hM hV (by decide) hj, ?_⟩
    show wp_W L xs _ 179 0 [(0, .ref 13), (1, .int (nI 6)), (2, .int (nI j))] [] h _
    refine wp_iload_n dq_179_0 rfl ?_
    refine wp_iconst (x := nI 3) dq_179_1 rfl ?_
    refine wp_ic_ltN (tgt := 11) dq_179_2 rfl (by decide) (by decide) (fun c9 => absurd c9 (by decide)) (fun _ => ?_)
    refine wp_iload_n dq_179_5 rfl ?_
    refine wp_bipush (x := nI 8) dq_179_6 rfl ?_
    refine wp_ic_leN (tgt := 23) dq_179_8 rfl (by decide) (by decide) (fun _ => ?_) (fun c9 => absurd c9 (by decide))
    refine wp_iload_n dq_179_23 rfl ?_
    refine wp_iconst (x := nI 3) dq_179_24 rfl ?_
    refine wp_ic_eqN (tgt := 39) dq_179_25 rfl (by decide) (by decide) (fun c9 => absurd c9 (by decide)) (fun _ => ?_)
    refine wp_iload_n dq_179_28 rfl ?_
    refine wp_iconst (x := nI 4) dq_179_29 rfl ?_
    refine wp_ic_eqN (tgt := 39) dq_179_30 rfl (by decide) (by decide) (fun c9 => absurd c9 (by decide)) (fun _ => ?_)
    refine wp_iload_n dq_179_33 rfl ?_
    refine wp_bipush (x := nI 7) dq_179_34 rfl ?_
    refine wp_ic_neN (tgt := 43) dq_179_36 rfl (by decide) (by decide) (fun _ => ?_) (fun c9 => absurd c9 (by decide))
    refine wp_iload_n dq_179_43 rfl ?_
    refine wp_bipush (x := nI 9) dq_179_44 rfl ?_
    refine wp_ic_geN (tgt := 53) dq_179_46 rfl (by decide) (by decide) (fun c9 => absurd c9 (by decide)) (fun _ => ?_)
    refine wp_iconst (x := nI 1) dq_179_49 rfl ?_
    refine wp_goto (tgt := 54) dq_179_50 rfl ?_
    refine wp_istore_n (lv' := [(0, .ref 13), (1, .int (nI 6)), (2, .int (nI j)), (3, .int (nI 1))]) dq_179_54 (by decide) rfl ?_
    refine wp_aload_n dq_179_55 rfl ?_
    refine wp_iload_n dq_179_56 rfl ?_
    refine wp_iload_n dq_179_57 rfl ?_
    refine wp_cve2 dq_179_58 mt_179_256 (ob_of (mw_0 hb)) ⟨by decide +kernel, by decide +kernel⟩ (Nat.le_of_ble_eq_true rfl) (Nat.le_of_ble_eq_true rfl) (c_m2Y (d := d + 3) hW0 (by decide) (FX_c hX (kd := 1) (by decide)).1 hj (FX_c hX (kd := 1) (by decide)).2) ?_
    refine wp_istore (lv' := [(0, .ref 13), (1, .int (nI 6)), (2, .int (nI j)), (3, .int (nI 1)), (4, .int (nI (100 + 130 * 1 + 8 * j)))]) dq_179_61 (by decide) rfl ?_
    refine wp_iload_n dq_179_63 rfl ?_
    refine wp_bipush (x := nI 7) dq_179_64 rfl ?_
    refine wp_ic_eqN (tgt := 81) dq_179_66 rfl (by decide) (by decide) (fun c9 => absurd c9 (by decide)) (fun _ => ?_)
    refine wp_iload_n dq_179_69 rfl ?_
    refine wp_bipush (x := nI 8) dq_179_70 rfl ?_
    refine wp_ic_eqN (tgt := 81) dq_179_72 rfl (by decide) (by decide) (fun c9 => absurd c9 (by decide)) (fun _ => ?_)
    refine wp_iload_n dq_179_75 rfl ?_
    refine wp_bipush (x := nI 12) dq_179_76 rfl ?_
    refine wp_ic_neN (tgt := 85) dq_179_78 rfl (by decide) (by decide) (fun _ => ?_) (fun c9 => absurd c9 (by decide))
    refine wp_iload_n dq_179_85 rfl ?_
    refine wp_iconst (x := nI 3) dq_179_86 rfl ?_
    refine wp_ic_eqN (tgt := 101) dq_179_87 rfl (by decide) (by decide) (fun c9 => absurd c9 (by decide)) (fun _ => ?_)
    refine wp_iload_n dq_179_90 rfl ?_
    refine wp_iconst (x := nI 5) dq_179_91 rfl ?_
    refine wp_ic_eqN (tgt := 101) dq_179_92 rfl (by decide) (by decide) (fun c9 => absurd c9 (by decide)) (fun _ => ?_)
    refine wp_iload_n dq_179_95 rfl ?_
    refine wp_bipush (x := nI 10) dq_179_96 rfl ?_
    refine wp_ic_neN (tgt := 105) dq_179_98 rfl (by decide) (by decide) (fun _ => ?_) (fun c9 => absurd c9 (by decide))
    refine wp_iconst (x := nI 2) dq_179_105 rfl ?_
    refine wp_istore (lv' := [(0, .ref 13), (1, .int (nI 6)), (2, .int (nI j)), (3, .int (nI 1)), (4, .int (nI (100 + 130 * 1 + 8 * j))), (5, .int (nI 2))]) dq_179_106 (by decide) rfl ?_
    refine wp_iload dq_179_108 rfl ?_
    refine wp_if_geN (tgt := 117) dq_179_110 rfl (by omega) (fun c1 => ?_) (fun c1 => ?_)
    · refine wp_aload_n dq_179_117 rfl ?_
      refine wp_getf (w := .ref 16) dq_179_118 fl_179_16 (mw_0 hb) rfl ?_
      refine wp_iload dq_179_121 rfl ?_
      refine wp_iload dq_179_123 rfl ?_
      refine wp_iaddN dq_179_125 ?_
      refine wp_ialdV (z := (nI (tyO B M 1 j))) dq_179_126 (mw_3 hb) (by omega) (by decide) ((FX_k hX (kd := 1) (by decide) hj).2.1) ?_
      exact wp_ire dq_179_127 rfl ⟨rfl, Or.inl rfl⟩ ⟨rfl, rfl⟩
    · exact absurd c1 (by omega)
set_option maxRecDepth 100000 in
theorem c_tx7 {L : Nat} {xs : Nat → Int32} {d n F : Nat} {B T : Nat → Nat} {N : Nat → Int32} {h : List qx_E} {M : rM} {s : Nat → Int32} {a : Nat → Nat → Int32} {k : Int32} (hW : QW h B n N) (hX : FX B n T F M N s a) : ∃ i, i < 65536 ∧ (i = 0 ∨ tg B T i = 1) ∧ f_textOf s a (nI 7) k = nI i ∧ qe_E L xs (d + 4) 179 [.ref 13, .int (nI 7), .int k] h (some (.int (nI i))) h := by
  have hW0 := QW_0 hW
  obtain ⟨s0, fa, fb, fd, hb, -⟩ := id hW0
  obtain ⟨⟨hQ, hM, hV, h0F, hFn⟩, ⟨hP, hLK, ⟨z0, z1, z2, z3, z4, z5, z6⟩, ⟨y1, y2, y3, y4⟩, hK0, hK1, ⟨o1, o2, o3, o4, o5⟩, ⟨r1, r2, r3, r4⟩⟩, ⟨hVA, hL8, hn10, v1, v2, v3, v4⟩, hnp⟩ := id hX
  have hn9 := hP.1
  have hcl9 := cTx_lt hX
  have hc16 := (FX_c hX (kd := 0) (by decide)).2
  rcases (show (k < 0 ∨ nI (M.c 0) ≤ k) ∨ ∃ j, j < M.c 0 ∧ k = nI j from (pk_ix k (n := M.c 0) (by omega)).elim (fun r => Or.inl (Or.inl r)) (fun r => r.elim (fun r => Or.inl (Or.inr r)) Or.inr)) with hk | ⟨j, hj, rfl⟩
  · refine ⟨0, by decide, Or.inl rfl, by rw [f_textOf, if_neg (by decide), if_neg (by decide), if_neg (by decide), if_neg (by decide), if_neg (by decide), if_neg (by decide), if_neg (by decide), if_pos (show nI 7 = 7 from rfl)]; exact q_ci0 (kd := 0) hM hV (by decide) hk, ?_⟩
    show wp_W L xs _ 179 0 [(0, .ref 13), (1, .int (nI 7)), (2, .int k)] [] h _
    refine wp_iload_n dq_179_0 rfl ?_
    refine wp_iconst (x := nI 3) dq_179_1 rfl ?_
    refine wp_ic_ltN (tgt := 11) dq_179_2 rfl (by decide) (by decide) (fun c9 => absurd c9 (by decide)) (fun _ => ?_)
    refine wp_iload_n dq_179_5 rfl ?_
    refine wp_bipush (x := nI 8) dq_179_6 rfl ?_
    refine wp_ic_leN (tgt := 23) dq_179_8 rfl (by decide) (by decide) (fun _ => ?_) (fun c9 => absurd c9 (by decide))
    refine wp_iload_n dq_179_23 rfl ?_
    refine wp_iconst (x := nI 3) dq_179_24 rfl ?_
    refine wp_ic_eqN (tgt := 39) dq_179_25 rfl (by decide) (by decide) (fun c9 => absurd c9 (by decide)) (fun _ => ?_)
    refine wp_iload_n dq_179_28 rfl ?_
    refine wp_iconst (x := nI 4) dq_179_29 rfl ?_
    refine wp_ic_eqN (tgt := 39) dq_179_30 rfl (by decide) (by decide) (fun c9 => absurd c9 (by decide)) (fun _ => ?_)
    refine wp_iload_n dq_179_33 rfl ?_
    refine wp_bipush (x := nI 7) dq_179_34 rfl ?_
    refine wp_ic_neN (tgt := 43) dq_179_36 rfl (by decide) (by decide) (fun c9 => absurd c9 (by decide)) (fun _ => ?_)
    refine wp_iconst (x := nI 0) dq_179_39 rfl ?_
    refine wp_goto (tgt := 54) dq_179_40 rfl ?_
    refine wp_istore_n (lv' := [(0, .ref 13), (1, .int (nI 7)), (2, .int k), (3, .int (nI 0))]) dq_179_54 (by decide) rfl ?_
    refine wp_aload_n dq_179_55 rfl ?_
    refine wp_iload_n dq_179_56 rfl ?_
    refine wp_iload_n dq_179_57 rfl ?_
    refine wp_cve2 dq_179_58 mt_179_256 (ob_of (mw_0 hb)) ⟨by decide +kernel, by decide +kernel⟩ (Nat.le_of_ble_eq_true rfl) (Nat.le_of_ble_eq_true rfl) (c_m2N (d := d + 3) hW0 (kd := 0) (by decide) (FX_c hX (kd := 0) (by decide)).1 hk) ?_
    refine wp_istore (lv' := [(0, .ref 13), (1, .int (nI 7)), (2, .int k), (3, .int (nI 0)), (4, .int (-1))]) dq_179_61 (by decide) rfl ?_
    refine wp_iload_n dq_179_63 rfl ?_
    refine wp_bipush (x := nI 7) dq_179_64 rfl ?_
    refine wp_ic_eqN (tgt := 81) dq_179_66 rfl (by decide) (by decide) (fun _ => ?_) (fun c9 => absurd c9 (by decide))
    refine wp_iconst (x := nI 3) dq_179_81 rfl ?_
    refine wp_goto (tgt := 106) dq_179_82 rfl ?_
    refine wp_istore (lv' := [(0, .ref 13), (1, .int (nI 7)), (2, .int k), (3, .int (nI 0)), (4, .int (-1)), (5, .int (nI 3))]) dq_179_106 (by decide) rfl ?_
    refine wp_iload dq_179_108 rfl ?_
    refine wp_if_ge (tgt := 117) dq_179_110 rfl (fun c1 => ?_) (fun c1 => ?_)
    · exact absurd c1 (by decide)
    · refine wp_iconst (x := nI 0) dq_179_113 rfl ?_
      refine wp_goto (tgt := 127) dq_179_114 rfl ?_
      exact wp_ire dq_179_127 rfl ⟨rfl, Or.inl rfl⟩ ⟨rfl, rfl⟩
  · refine ⟨(ctv B M (9 * (16 * 0 + j))), (FX_s hX (16 * 0 + j)).2, (FX_s hX (16 * 0 + j)).1, by rw [f_textOf, if_neg (by decide), if_neg (by decide), if_neg (by decide), if_neg (by decide), if_neg (by decide), if_neg (by decide), if_neg (by decide), if_pos (show nI 7 = 7 from rfl)]; exact FX_ci hX (kd := 0) (w := 1) (by decide) hj (by decide), ?_⟩
    show wp_W L xs _ 179 0 [(0, .ref 13), (1, .int (nI 7)), (2, .int (nI j))] [] h _
    refine wp_iload_n dq_179_0 rfl ?_
    refine wp_iconst (x := nI 3) dq_179_1 rfl ?_
    refine wp_ic_ltN (tgt := 11) dq_179_2 rfl (by decide) (by decide) (fun c9 => absurd c9 (by decide)) (fun _ => ?_)
    refine wp_iload_n dq_179_5 rfl ?_
    refine wp_bipush (x := nI 8) dq_179_6 rfl ?_
    refine wp_ic_leN (tgt := 23) dq_179_8 rfl (by decide) (by decide) (fun _ => ?_) (fun c9 => absurd c9 (by decide))
    refine wp_iload_n dq_179_23 rfl ?_
    refine wp_iconst (x := nI 3) dq_179_24 rfl ?_
    refine wp_ic_eqN (tgt := 39) dq_179_25 rfl (by decide) (by decide) (fun c9 => absurd c9 (by decide)) (fun _ => ?_)
    refine wp_iload_n dq_179_28 rfl ?_
    refine wp_iconst (x := nI 4) dq_179_29 rfl ?_
    refine wp_ic_eqN (tgt := 39) dq_179_30 rfl (by decide) (by decide) (fun c9 => absurd c9 (by decide)) (fun _ => ?_)
    refine wp_iload_n dq_179_33 rfl ?_
    refine wp_bipush (x := nI 7) dq_179_34 rfl ?_
    refine wp_ic_neN (tgt := 43) dq_179_36 rfl (by decide) (by decide) (fun c9 => absurd c9 (by decide)) (fun _ => ?_)
    refine wp_iconst (x := nI 0) dq_179_39 rfl ?_
    refine wp_goto (tgt := 54) dq_179_40 rfl ?_
    refine wp_istore_n (lv' := [(0, .ref 13), (1, .int (nI 7)), (2, .int (nI j)), (3, .int (nI 0))]) dq_179_54 (by decide) rfl ?_
    refine wp_aload_n dq_179_55 rfl ?_
    refine wp_iload_n dq_179_56 rfl ?_
    refine wp_iload_n dq_179_57 rfl ?_
    refine wp_cve2 dq_179_58 mt_179_256 (ob_of (mw_0 hb)) ⟨by decide +kernel, by decide +kernel⟩ (Nat.le_of_ble_eq_true rfl) (Nat.le_of_ble_eq_true rfl) (c_m2Y (d := d + 3) hW0 (by decide) (FX_c hX (kd := 0) (by decide)).1 hj (FX_c hX (kd := 0) (by decide)).2) ?_
    refine wp_istore (lv' := [(0, .ref 13), (1, .int (nI 7)), (2, .int (nI j)), (3, .int (nI 0)), (4, .int (nI (100 + 130 * 0 + 8 * j)))]) dq_179_61 (by decide) rfl ?_
    refine wp_iload_n dq_179_63 rfl ?_
    refine wp_bipush (x := nI 7) dq_179_64 rfl ?_
    refine wp_ic_eqN (tgt := 81) dq_179_66 rfl (by decide) (by decide) (fun _ => ?_) (fun c9 => absurd c9 (by decide))
    refine wp_iconst (x := nI 3) dq_179_81 rfl ?_
    refine wp_goto (tgt := 106) dq_179_82 rfl ?_
    refine wp_istore (lv' := [(0, .ref 13), (1, .int (nI 7)), (2, .int (nI j)), (3, .int (nI 0)), (4, .int (nI (100 + 130 * 0 + 8 * j))), (5, .int (nI 3))]) dq_179_106 (by decide) rfl ?_
    refine wp_iload dq_179_108 rfl ?_
    refine wp_if_geN (tgt := 117) dq_179_110 rfl (by omega) (fun c1 => ?_) (fun c1 => ?_)
    · refine wp_aload_n dq_179_117 rfl ?_
      refine wp_getf (w := .ref 16) dq_179_118 fl_179_16 (mw_0 hb) rfl ?_
      refine wp_iload dq_179_121 rfl ?_
      refine wp_iload dq_179_123 rfl ?_
      refine wp_iaddN dq_179_125 ?_
      refine wp_ialdV (z := (nI (ctv B M (9 * (16 * 0 + j))))) dq_179_126 (mw_3 hb) (by omega) (by decide) ((FX_k hX (kd := 0) (by decide) hj).2.2.2.1.1) ?_
      exact wp_ire dq_179_127 rfl ⟨rfl, Or.inl rfl⟩ ⟨rfl, rfl⟩
    · exact absurd c1 (by omega)
set_option maxRecDepth 100000 in
theorem c_tx8 {L : Nat} {xs : Nat → Int32} {d n F : Nat} {B T : Nat → Nat} {N : Nat → Int32} {h : List qx_E} {M : rM} {s : Nat → Int32} {a : Nat → Nat → Int32} {k : Int32} (hW : QW h B n N) (hX : FX B n T F M N s a) : ∃ i, i < 65536 ∧ (i = 0 ∨ tg B T i = 1) ∧ f_textOf s a (nI 8) k = nI i ∧ qe_E L xs (d + 4) 179 [.ref 13, .int (nI 8), .int k] h (some (.int (nI i))) h := by
  have hW0 := QW_0 hW
  obtain ⟨s0, fa, fb, fd, hb, -⟩ := id hW0
  obtain ⟨⟨hQ, hM, hV, h0F, hFn⟩, ⟨hP, hLK, ⟨z0, z1, z2, z3, z4, z5, z6⟩, ⟨y1, y2, y3, y4⟩, hK0, hK1, ⟨o1, o2, o3, o4, o5⟩, ⟨r1, r2, r3, r4⟩⟩, ⟨hVA, hL8, hn10, v1, v2, v3, v4⟩, hnp⟩ := id hX
  have hn9 := hP.1
  have hcl9 := cTx_lt hX
  have hc16 := (FX_c hX (kd := 1) (by decide)).2
  rcases (show (k < 0 ∨ nI (M.c 1) ≤ k) ∨ ∃ j, j < M.c 1 ∧ k = nI j from (pk_ix k (n := M.c 1) (by omega)).elim (fun r => Or.inl (Or.inl r)) (fun r => r.elim (fun r => Or.inl (Or.inr r)) Or.inr)) with hk | ⟨j, hj, rfl⟩
  · refine ⟨0, by decide, Or.inl rfl, by rw [f_textOf, if_neg (by decide), if_neg (by decide), if_neg (by decide), if_neg (by decide), if_neg (by decide), if_neg (by decide), if_neg (by decide), if_neg (by decide), if_pos (show nI 8 = 8 from rfl)]; exact q_ci0 (kd := 1) hM hV (by decide) hk, ?_⟩
    show wp_W L xs _ 179 0 [(0, .ref 13), (1, .int (nI 8)), (2, .int k)] [] h _
    refine wp_iload_n dq_179_0 rfl ?_
    refine wp_iconst (x := nI 3) dq_179_1 rfl ?_
    refine wp_ic_ltN (tgt := 11) dq_179_2 rfl (by decide) (by decide) (fun c9 => absurd c9 (by decide)) (fun _ => ?_)
    refine wp_iload_n dq_179_5 rfl ?_
    refine wp_bipush (x := nI 8) dq_179_6 rfl ?_
    refine wp_ic_leN (tgt := 23) dq_179_8 rfl (by decide) (by decide) (fun _ => ?_) (fun c9 => absurd c9 (by decide))
    refine wp_iload_n dq_179_23 rfl ?_
    refine wp_iconst (x := nI 3) dq_179_24 rfl ?_
    refine wp_ic_eqN (tgt := 39) dq_179_25 rfl (by decide) (by decide) (fun c9 => absurd c9 (by decide)) (fun _ => ?_)
    refine wp_iload_n dq_179_28 rfl ?_
    refine wp_iconst (x := nI 4) dq_179_29 rfl ?_
    refine wp_ic_eqN (tgt := 39) dq_179_30 rfl (by decide) (by decide) (fun c9 => absurd c9 (by decide)) (fun _ => ?_)
    refine wp_iload_n dq_179_33 rfl ?_
    refine wp_bipush (x := nI 7) dq_179_34 rfl ?_
    refine wp_ic_neN (tgt := 43) dq_179_36 rfl (by decide) (by decide) (fun _ => ?_) (fun c9 => absurd c9 (by decide))
    refine wp_iload_n dq_179_43 rfl ?_
    refine wp_bipush (x := nI 9) dq_179_44 rfl ?_
    refine wp_ic_geN (tgt := 53) dq_179_46 rfl (by decide) (by decide) (fun c9 => absurd c9 (by decide)) (fun _ => ?_)
    refine wp_iconst (x := nI 1) dq_179_49 rfl ?_
    refine wp_goto (tgt := 54) dq_179_50 rfl ?_
    refine wp_istore_n (lv' := [(0, .ref 13), (1, .int (nI 8)), (2, .int k), (3, .int (nI 1))]) dq_179_54 (by decide) rfl ?_
    refine wp_aload_n dq_179_55 rfl ?_
    refine wp_iload_n dq_179_56 rfl ?_
    refine wp_iload_n dq_179_57 rfl ?_
    refine wp_cve2 dq_179_58 mt_179_256 (ob_of (mw_0 hb)) ⟨by decide +kernel, by decide +kernel⟩ (Nat.le_of_ble_eq_true rfl) (Nat.le_of_ble_eq_true rfl) (c_m2N (d := d + 3) hW0 (kd := 1) (by decide) (FX_c hX (kd := 1) (by decide)).1 hk) ?_
    refine wp_istore (lv' := [(0, .ref 13), (1, .int (nI 8)), (2, .int k), (3, .int (nI 1)), (4, .int (-1))]) dq_179_61 (by decide) rfl ?_
    refine wp_iload_n dq_179_63 rfl ?_
    refine wp_bipush (x := nI 7) dq_179_64 rfl ?_
    refine wp_ic_eqN (tgt := 81) dq_179_66 rfl (by decide) (by decide) (fun c9 => absurd c9 (by decide)) (fun _ => ?_)
    refine wp_iload_n dq_179_69 rfl ?_
    refine wp_bipush (x := nI 8) dq_179_70 rfl ?_
    refine wp_ic_eqN (tgt := 81) dq_179_72 rfl (by decide) (by decide) (fun _ => ?_) (fun c9 => absurd c9 (by decide))
    refine wp_iconst (x := nI 3) dq_179_81 rfl ?_
    refine wp_goto (tgt := 106) dq_179_82 rfl ?_
    refine wp_istore (lv' := [(0, .ref 13), (1, .int (nI 8)), (2, .int k), (3, .int (nI 1)), (4, .int (-1)), (5, .int (nI 3))]) dq_179_106 (by decide) rfl ?_
    refine wp_iload dq_179_108 rfl ?_
    refine wp_if_ge (tgt := 117) dq_179_110 rfl (fun c1 => ?_) (fun c1 => ?_)
    · exact absurd c1 (by decide)
    · refine wp_iconst (x := nI 0) dq_179_113 rfl ?_
      refine wp_goto (tgt := 127) dq_179_114 rfl ?_
      exact wp_ire dq_179_127 rfl ⟨rfl, Or.inl rfl⟩ ⟨rfl, rfl⟩
  · refine ⟨(ctv B M (9 * (16 * 1 + j))), (FX_s hX (16 * 1 + j)).2, (FX_s hX (16 * 1 + j)).1, by rw [f_textOf, if_neg (by decide), if_neg (by decide), if_neg (by decide), if_neg (by decide), if_neg (by decide), if_neg (by decide), if_neg (by decide), if_neg (by decide), if_pos (show nI 8 = 8 from rfl)]; exact FX_ci hX (kd := 1) (w := 1) (by decide) hj (by decide), ?_⟩
    show wp_W L xs _ 179 0 [(0, .ref 13), (1, .int (nI 8)), (2, .int (nI j))] [] h _
    refine wp_iload_n dq_179_0 rfl ?_
    refine wp_iconst (x := nI 3) dq_179_1 rfl ?_
    refine wp_ic_ltN (tgt := 11) dq_179_2 rfl (by decide) (by decide) (fun c9 => absurd c9 (by decide)) (fun _ => ?_)
    refine wp_iload_n dq_179_5 rfl ?_
    refine wp_bipush (x := nI 8) dq_179_6 rfl ?_
    refine wp_ic_leN (tgt := 23) dq_179_8 rfl (by decide) (by decide) (fun _ => ?_) (fun c9 => absurd c9 (by decide))
    refine wp_iload_n dq_179_23 rfl ?_
    refine wp_iconst (x := nI 3) dq_179_24 rfl ?_
    refine wp_ic_eqN (tgt := 39) dq_179_25 rfl (by decide) (by decide) (fun c9 => absurd c9 (by decide)) (fun _ => ?_)
    refine wp_iload_n dq_179_28 rfl ?_
    refine wp_iconst (x := nI 4) dq_179_29 rfl ?_
    refine wp_ic_eqN (tgt := 39) dq_179_30 rfl (by decide) (by decide) (fun c9 => absurd c9 (by decide)) (fun _ => ?_)
    refine wp_iload_n dq_179_33 rfl ?_
    refine wp_bipush (x := nI 7) dq_179_34 rfl ?_
    refine wp_ic_neN (tgt := 43) dq_179_36 rfl (by decide) (by decide) (fun _ => ?_) (fun c9 => absurd c9 (by decide))
    refine wp_iload_n dq_179_43 rfl ?_
    refine wp_bipush (x := nI 9) dq_179_44 rfl ?_
    refine wp_ic_geN (tgt := 53) dq_179_46 rfl (by decide) (by decide) (fun c9 => absurd c9 (by decide)) (fun _ => ?_)
    refine wp_iconst (x := nI 1) dq_179_49 rfl ?_
    refine wp_goto (tgt := 54) dq_179_50 rfl ?_
    refine wp_istore_n (lv' := [(0, .ref 13), (1, .int (nI 8)), (2, .int (nI j)), (3, .int (nI 1))]) dq_179_54 (by decide) rfl ?_
    refine wp_aload_n dq_179_55 rfl ?_
    refine wp_iload_n dq_179_56 rfl ?_
    refine wp_iload_n dq_179_57 rfl ?_
    refine wp_cve2 dq_179_58 mt_179_256 (ob_of (mw_0 hb)) ⟨by decide +kernel, by decide +kernel⟩ (Nat.le_of_ble_eq_true rfl) (Nat.le_of_ble_eq_true rfl) (c_m2Y (d := d + 3) hW0 (by decide) (FX_c hX (kd := 1) (by decide)).1 hj (FX_c hX (kd := 1) (by decide)).2) ?_
    refine wp_istore (lv' := [(0, .ref 13), (1, .int (nI 8)), (2, .int (nI j)), (3, .int (nI 1)), (4, .int (nI (100 + 130 * 1 + 8 * j)))]) dq_179_61 (by decide) rfl ?_
    refine wp_iload_n dq_179_63 rfl ?_
    refine wp_bipush (x := nI 7) dq_179_64 rfl ?_
    refine wp_ic_eqN (tgt := 81) dq_179_66 rfl (by decide) (by decide) (fun c9 => absurd c9 (by decide)) (fun _ => ?_)
    refine wp_iload_n dq_179_69 rfl ?_
    refine wp_bipush (x := nI 8) dq_179_70 rfl ?_
    refine wp_ic_eqN (tgt := 81) dq_179_72 rfl (by decide) (by decide) (fun _ => ?_) (fun c9 => absurd c9 (by decide))
    refine wp_iconst (x := nI 3) dq_179_81 rfl ?_
    refine wp_goto (tgt := 106) dq_179_82 rfl ?_
    refine wp_istore (lv' := [(0, .ref 13), (1, .int (nI 8)), (2, .int (nI j)), (3, .int (nI 1)), (4, .int (nI (100 + 130 * 1 + 8 * j))), (5, .int (nI 3))]) dq_179_106 (by decide) rfl ?_
    refine wp_iload dq_179_108 rfl ?_
    refine wp_if_geN (tgt := 117) dq_179_110 rfl (by omega) (fun c1 => ?_) (fun c1 => ?_)
    · refine wp_aload_n dq_179_117 rfl ?_
      refine wp_getf (w := .ref 16) dq_179_118 fl_179_16 (mw_0 hb) rfl ?_
      refine wp_iload dq_179_121 rfl ?_
      refine wp_iload dq_179_123 rfl ?_
      refine wp_iaddN dq_179_125 ?_
      refine wp_ialdV (z := (nI (ctv B M (9 * (16 * 1 + j))))) dq_179_126 (mw_3 hb) (by omega) (by decide) ((FX_k hX (kd := 1) (by decide) hj).2.2.2.1.1) ?_
      exact wp_ire dq_179_127 rfl ⟨rfl, Or.inl rfl⟩ ⟨rfl, rfl⟩
    · exact absurd c1 (by omega)
set_option maxRecDepth 100000 in
theorem c_tx10 {L : Nat} {xs : Nat → Int32} {d n F : Nat} {B T : Nat → Nat} {N : Nat → Int32} {h : List qx_E} {M : rM} {s : Nat → Int32} {a : Nat → Nat → Int32} {k : Int32} (hW : QW h B n N) (hX : FX B n T F M N s a) : ∃ i, i < 65536 ∧ (i = 0 ∨ tg B T i = 1) ∧ f_textOf s a (nI 10) k = nI i ∧ qe_E L xs (d + 4) 179 [.ref 13, .int (nI 10), .int k] h (some (.int (nI i))) h := by
  have hW0 := QW_0 hW
  obtain ⟨s0, fa, fb, fd, hb, -⟩ := id hW0
  obtain ⟨⟨hQ, hM, hV, h0F, hFn⟩, ⟨hP, hLK, ⟨z0, z1, z2, z3, z4, z5, z6⟩, ⟨y1, y2, y3, y4⟩, hK0, hK1, ⟨o1, o2, o3, o4, o5⟩, ⟨r1, r2, r3, r4⟩⟩, ⟨hVA, hL8, hn10, v1, v2, v3, v4⟩, hnp⟩ := id hX
  have hn9 := hP.1
  have hcl9 := cTx_lt hX
  have hc16 := (FX_c hX (kd := 2) (by decide)).2
  rcases (show (k < 0 ∨ nI (M.c 2) ≤ k) ∨ ∃ j, j < M.c 2 ∧ k = nI j from (pk_ix k (n := M.c 2) (by omega)).elim (fun r => Or.inl (Or.inl r)) (fun r => r.elim (fun r => Or.inl (Or.inr r)) Or.inr)) with hk | ⟨j, hj, rfl⟩
  · refine ⟨0, by decide, Or.inl rfl, by rw [f_textOf, if_neg (by decide), if_neg (by decide), if_neg (by decide), if_neg (by decide), if_neg (by decide), if_neg (by decide), if_neg (by decide), if_neg (by decide), if_neg (by decide), if_neg (by decide), if_pos (show nI 10 = 10 from rfl)]; exact (q_nm0 (kd := 2) hM hV (by decide) hk).1, ?_⟩
    show wp_W L xs _ 179 0 [(0, .ref 13), (1, .int (nI 10)), (2, .int k)] [] h _
    refine wp_iload_n dq_179_0 rfl ?_
    refine wp_iconst (x := nI 3) dq_179_1 rfl ?_
    refine wp_ic_ltN (tgt := 11) dq_179_2 rfl (by decide) (by decide) (fun c9 => absurd c9 (by decide)) (fun _ => ?_)
    refine wp_iload_n dq_179_5 rfl ?_
    refine wp_bipush (x := nI 8) dq_179_6 rfl ?_
    refine wp_ic_leN (tgt := 23) dq_179_8 rfl (by decide) (by decide) (fun c9 => absurd c9 (by decide)) (fun _ => ?_)
    refine wp_iload_n dq_179_11 rfl ?_
    refine wp_bipush (x := nI 10) dq_179_12 rfl ?_
    refine wp_ic_ltN (tgt := 128) dq_179_14 rfl (by decide) (by decide) (fun c9 => absurd c9 (by decide)) (fun _ => ?_)
    refine wp_iload_n dq_179_17 rfl ?_
    refine wp_bipush (x := nI 12) dq_179_18 rfl ?_
    refine wp_ic_gtN (tgt := 128) dq_179_20 rfl (by decide) (by decide) (fun c9 => absurd c9 (by decide)) (fun _ => ?_)
    refine wp_iload_n dq_179_23 rfl ?_
    refine wp_iconst (x := nI 3) dq_179_24 rfl ?_
    refine wp_ic_eqN (tgt := 39) dq_179_25 rfl (by decide) (by decide) (fun c9 => absurd c9 (by decide)) (fun _ => ?_)
    refine wp_iload_n dq_179_28 rfl ?_
    refine wp_iconst (x := nI 4) dq_179_29 rfl ?_
    refine wp_ic_eqN (tgt := 39) dq_179_30 rfl (by decide) (by decide) (fun c9 => absurd c9 (by decide)) (fun _ => ?_)
    refine wp_iload_n dq_179_33 rfl ?_
    refine wp_bipush (x := nI 7) dq_179_34 rfl ?_
    refine wp_ic_neN (tgt := 43) dq_179_36 rfl (by decide) (by decide) (fun _ => ?_) (fun c9 => absurd c9 (by decide))
    refine wp_iload_n dq_179_43 rfl ?_
    refine wp_bipush (x := nI 9) dq_179_44 rfl ?_
    refine wp_ic_geN (tgt := 53) dq_179_46 rfl (by decide) (by decide) (fun _ => ?_) (fun c9 => absurd c9 (by decide))
    refine wp_iconst (x := nI 2) dq_179_53 rfl ?_
    refine wp_istore_n (lv' := [(0, .ref 13), (1, .int (nI 10)), (2, .int k), (3, .int (nI 2))]) dq_179_54 (by decide) rfl ?_
    refine wp_aload_n dq_179_55 rfl ?_
    refine wp_iload_n dq_179_56 rfl ?_
    refine wp_iload_n dq_179_57 rfl ?_
    refine wp_cve2 dq_179_58 mt_179_256 (ob_of (mw_0 hb)) ⟨by decide +kernel, by decide +kernel⟩ (Nat.le_of_ble_eq_true rfl) (Nat.le_of_ble_eq_true rfl) (c_m2N (d := d + 3) hW0 (kd := 2) (by decide) (FX_c hX (kd := 2) (by decide)).1 hk) ?_
    refine wp_istore (lv' := [(0, .ref 13), (1, .int (nI 10)), (2, .int k), (3, .int (nI 2)), (4, .int (-1))]) dq_179_61 (by decide) rfl ?_
    refine wp_iload_n dq_179_63 rfl ?_
    refine wp_bipush (x := nI 7) dq_179_64 rfl ?_
    refine wp_ic_eqN (tgt := 81) dq_179_66 rfl (by decide) (by decide) (fun c9 => absurd c9 (by decide)) (fun _ => ?_)
    refine wp_iload_n dq_179_69 rfl ?_
    refine wp_bipush (x := nI 8) dq_179_70 rfl ?_
    refine wp_ic_eqN (tgt := 81) dq_179_72 rfl (by decide) (by decide) (fun c9 => absurd c9 (by decide)) (fun _ => ?_)
    refine wp_iload_n dq_179_75 rfl ?_
    refine wp_bipush (x := nI 12) dq_179_76 rfl ?_
    refine wp_ic_neN (tgt := 85) dq_179_78 rfl (by decide) (by decide) (fun _ => ?_) (fun c9 => absurd c9 (by decide))
    refine wp_iload_n dq_179_85 rfl ?_
    refine wp_iconst (x := nI 3) dq_179_86 rfl ?_
    refine wp_ic_eqN (tgt := 101) dq_179_87 rfl (by decide) (by decide) (fun c9 => absurd c9 (by decide)) (fun _ => ?_)
    refine wp_iload_n dq_179_90 rfl ?_
    refine wp_iconst (x := nI 5) dq_179_91 rfl ?_
    refine wp_ic_eqN (tgt := 101) dq_179_92 rfl (by decide) (by decide) (fun c9 => absurd c9 (by decide)) (fun _ => ?_)
    refine wp_iload_n dq_179_95 rfl ?_
    refine wp_bipush (x := nI 10) dq_179_96 rfl ?_
    refine wp_ic_neN (tgt := 105) dq_179_98 rfl (by decide) (by decide) (fun c9 => absurd c9 (by decide)) (fun _ => ?_)
    refine wp_iconst (x := nI 1) dq_179_101 rfl ?_
    refine wp_goto (tgt := 106) dq_179_102 rfl ?_
    refine wp_istore (lv' := [(0, .ref 13), (1, .int (nI 10)), (2, .int k), (3, .int (nI 2)), (4, .int (-1)), (5, .int (nI 1))]) dq_179_106 (by decide) rfl ?_
    refine wp_iload dq_179_108 rfl ?_
    refine wp_if_ge (tgt := 117) dq_179_110 rfl (fun c1 => ?_) (fun c1 => ?_)
    · exact absurd c1 (by decide)
    · refine wp_iconst (x := nI 0) dq_179_113 rfl ?_
      refine wp_goto (tgt := 127) dq_179_114 rfl ?_
      exact wp_ire dq_179_127 rfl ⟨rfl, Or.inl rfl⟩ ⟨rfl, rfl⟩
  · refine ⟨(nmO B M 2 j), QF_U2 hQ (by have := hV.2.2.1 2 j (by decide) hj; omega), Or.inr (FX_k hX (kd := 2) (by decide) hj).2.2.2.2.1, by rw [f_textOf, if_neg (by decide), if_neg (by decide), if_neg (by decide), if_neg (by decide), if_neg (by decide), if_neg (by decide), if_neg (by decide), if_neg (by decide), if_neg (by decide), if_neg (by decide), if_pos (show nI 10 = 10 from rfl)]; exact q_nameOf (kd := 2) hQ hM hV (by decide) hj, ?_⟩
    show wp_W L xs _ 179 0 [(0, .ref 13), (1, .int (nI 10)), (2, .int (nI j))] [] h _
    refine wp_iload_n dq_179_0 rfl ?_
    refine wp_iconst (x := nI 3) dq_179_1 rfl ?_
    refine wp_ic_ltN (tgt := 11) dq_179_2 rfl (by decide) (by decide) (fun c9 => absurd c9 (by decide)) (fun _ => ?_)
    refine wp_iload_n dq_179_5 rfl ?_
    refine wp_bipush (x := nI 8) dq_179_6 rfl ?_
    refine wp_ic_leN (tgt := 23) dq_179_8 rfl (by decide) (by decide) (fun c9 => absurd c9 (by decide)) (fun _ => ?_)
    refine wp_iload_n dq_179_11 rfl ?_
    refine wp_bipush (x := nI 10) dq_179_12 rfl ?_
    refine wp_ic_ltN (tgt := 128) dq_179_14 rfl (by decide) (by decide) (fun c9 => absurd c9 (by decide)) (fun _ => ?_)
    refine wp_iload_n dq_179_17 rfl ?_
    refine wp_bipush (x := nI 12) dq_179_18 rfl ?_
    refine wp_ic_gtN (tgt := 128) dq_179_20 rfl (by decide) (by decide) (fun c9 => absurd c9 (by decide)) (fun _ => ?_)
    refine wp_iload_n dq_179_23 rfl ?_
    refine wp_iconst (x := nI 3) dq_179_24 rfl ?_
    refine wp_ic_eqN (tgt := 39) dq_179_25 rfl (by decide) (by decide) (fun c9 => absurd c9 (by decide)) (fun _ => ?_)
    refine wp_iload_n dq_179_28 rfl ?_
    refine wp_iconst (x := nI 4) dq_179_29 rfl ?_
    refine wp_ic_eqN (tgt := 39) dq_179_30 rfl (by decide) (by decide) (fun c9 => absurd c9 (by decide)) (fun _ => ?_)
    refine wp_iload_n dq_179_33 rfl ?_
    refine wp_bipush (x := nI 7) dq_179_34 rfl ?_
    refine wp_ic_neN (tgt := 43) dq_179_36 rfl (by decide) (by decide) (fun _ => ?_) (fun c9 => absurd c9 (by decide))
    refine wp_iload_n dq_179_43 rfl ?_
    refine wp_bipush (x := nI 9) dq_179_44 rfl ?_
    refine wp_ic_geN (tgt := 53) dq_179_46 rfl (by decide) (by decide) (fun _ => ?_) (fun c9 => absurd c9 (by decide))
    refine wp_iconst (x := nI 2) dq_179_53 rfl ?_
    refine wp_istore_n (lv' := [(0, .ref 13), (1, .int (nI 10)), (2, .int (nI j)), (3, .int (nI 2))]) dq_179_54 (by decide) rfl ?_
    refine wp_aload_n dq_179_55 rfl ?_
    refine wp_iload_n dq_179_56 rfl ?_
    refine wp_iload_n dq_179_57 rfl ?_
    refine wp_cve2 dq_179_58 mt_179_256 (ob_of (mw_0 hb)) ⟨by decide +kernel, by decide +kernel⟩ (Nat.le_of_ble_eq_true rfl) (Nat.le_of_ble_eq_true rfl) (c_m2Y (d := d + 3) hW0 (by decide) (FX_c hX (kd := 2) (by decide)).1 hj (FX_c hX (kd := 2) (by decide)).2) ?_
    refine wp_istore (lv' := [(0, .ref 13), (1, .int (nI 10)), (2, .int (nI j)), (3, .int (nI 2)), (4, .int (nI (100 + 130 * 2 + 8 * j)))]) dq_179_61 (by decide) rfl ?_
    refine wp_iload_n dq_179_63 rfl ?_
    refine wp_bipush (x := nI 7) dq_179_64 rfl ?_
    refine wp_ic_eqN (tgt := 81) dq_179_66 rfl (by decide) (by decide) (fun c9 => absurd c9 (by decide)) (fun _ => ?_)
    refine wp_iload_n dq_179_69 rfl ?_
    refine wp_bipush (x := nI 8) dq_179_70 rfl ?_
    refine wp_ic_eqN (tgt := 81) dq_179_72 rfl (by decide) (by decide) (fun c9 => absurd c9 (by decide)) (fun _ => ?_)
    refine wp_iload_n dq_179_75 rfl ?_
    refine wp_bipush (x := nI 12) dq_179_76 rfl ?_
    refine wp_ic_neN (tgt := 85) dq_179_78 rfl (by decide) (by decide) (fun _ => ?_) (fun c9 => absurd c9 (by decide))
    refine wp_iload_n dq_179_85 rfl ?_
    refine wp_iconst (x := nI 3) dq_179_86 rfl ?_
    refine wp_ic_eqN (tgt := 101) dq_179_87 rfl (by decide) (by decide) (fun c9 => absurd c9 (by decide)) (fun _ => ?_)
    refine wp_iload_n dq_179_90 rfl ?_
    refine wp_iconst (x := nI 5) dq_179_91 rfl ?_
    refine wp_ic_eqN (tgt := 101) dq_179_92 rfl (by decide) (by decide) (fun c9 => absurd c9 (by decide)) (fun _ => ?_)
    refine wp_iload_n dq_179_95 rfl ?_
    refine wp_bipush (x := nI 10) dq_179_96 rfl ?_
    refine wp_ic_neN (tgt := 105) dq_179_98 rfl (by decide) (by decide) (fun c9 => absurd c9 (by decide)) (fun _ => ?_)
    refine wp_iconst (x := nI 1) dq_179_101 rfl ?_
    refine wp_goto (tgt := 106) dq_179_102 rfl ?_
    refine wp_istore (lv' := [(0, .ref 13), (1, .int (nI 10)), (2, .int (nI j)), (3, .int (nI 2)), (4, .int (nI (100 + 130 * 2 + 8 * j))), (5, .int (nI 1))]) dq_179_106 (by decide) rfl ?_
    refine wp_iload dq_179_108 rfl ?_
    refine wp_if_geN (tgt := 117) dq_179_110 rfl (by omega) (fun c1 => ?_) (fun c1 => ?_)
    · refine wp_aload_n dq_179_117 rfl ?_
      refine wp_getf (w := .ref 16) dq_179_118 fl_179_16 (mw_0 hb) rfl ?_
      refine wp_iload dq_179_121 rfl ?_
      refine wp_iload dq_179_123 rfl ?_
      refine wp_iaddN dq_179_125 ?_
      refine wp_ialdV (z := (nI (nmO B M 2 j))) dq_179_126 (mw_3 hb) (by omega) (by decide) ((FX_k hX (kd := 2) (by decide) hj).1) ?_
      exact wp_ire dq_179_127 rfl ⟨rfl, Or.inl rfl⟩ ⟨rfl, rfl⟩
    · exact absurd c1 (by omega)
set_option maxRecDepth 100000 in
theorem c_tx11 {L : Nat} {xs : Nat → Int32} {d n F : Nat} {B T : Nat → Nat} {N : Nat → Int32} {h : List qx_E} {M : rM} {s : Nat → Int32} {a : Nat → Nat → Int32} {k : Int32} (hW : QW h B n N) (hX : FX B n T F M N s a) : ∃ i, i < 65536 ∧ (i = 0 ∨ tg B T i = 1) ∧ f_textOf s a (nI 11) k = nI i ∧ qe_E L xs (d + 4) 179 [.ref 13, .int (nI 11), .int k] h (some (.int (nI i))) h := by
  have hW0 := QW_0 hW
  obtain ⟨s0, fa, fb, fd, hb, -⟩ := id hW0
  obtain ⟨⟨hQ, hM, hV, h0F, hFn⟩, ⟨hP, hLK, ⟨z0, z1, z2, z3, z4, z5, z6⟩, ⟨y1, y2, y3, y4⟩, hK0, hK1, ⟨o1, o2, o3, o4, o5⟩, ⟨r1, r2, r3, r4⟩⟩, ⟨hVA, hL8, hn10, v1, v2, v3, v4⟩, hnp⟩ := id hX
  have hn9 := hP.1
  have hcl9 := cTx_lt hX
  have hc16 := (FX_c hX (kd := 2) (by decide)).2
  rcases (show (k < 0 ∨ nI (M.c 2) ≤ k) ∨ ∃ j, j < M.c 2 ∧ k = nI j from (pk_ix k (n := M.c 2) (by omega)).elim (fun r => Or.inl (Or.inl r)) (fun r => r.elim (fun r => Or.inl (Or.inr r)) Or.inr)) with hk | ⟨j, hj, rfl⟩
  · refine ⟨0, by decide, Or.inl rfl, by rw [f_textOf, if_neg (by decide), if_neg (by decide), if_neg (by decide), if_neg (by decide), if_neg (by decide), if_neg (by decide), if_neg (by decide), if_neg (by decide), if_neg (by decide), if_neg (by decide), if_neg (by decide), if_pos (show nI 11 = 11 from rfl)]; exact (q_nm0 (kd := 2) hM hV (by decide) hk).2, ?_⟩
    show wp_W L xs _ 179 0 [(0, .ref 13), (1, .int (nI 11)), (2, .int k)] [] h _
    refine wp_iload_n dq_179_0 rfl ?_
    refine wp_iconst (x := nI 3) dq_179_1 rfl ?_
    refine wp_ic_ltN (tgt := 11) dq_179_2 rfl (by decide) (by decide) (fun c9 => absurd c9 (by decide)) (fun _ => ?_)
    refine wp_iload_n dq_179_5 rfl ?_
    refine wp_bipush (x := nI 8) dq_179_6 rfl ?_
    refine wp_ic_leN (tgt := 23) dq_179_8 rfl (by decide) (by decide) (fun c9 => absurd c9 (by decide)) (fun _ => ?_)
    refine wp_iload_n dq_179_11 rfl ?_
    refine wp_bipush (x := nI 10) dq_179_12 rfl ?_
    refine wp_ic_ltN (tgt := 128) dq_179_14 rfl (by decide) (by decide) (fun c9 => absurd c9 (by decide)) (fun _ => ?_)
    refine wp_iload_n dq_179_17 rfl ?_
    refine wp_bipush (x := nI 12) dq_179_18 rfl ?_
    refine wp_ic_gtN (tgt := 128) dq_179_20 rfl (by decide) (by decide) (fun c9 => absurd c9 (by decide)) (fun _ => ?_)
    refine wp_iload_n dq_179_23 rfl ?_
    refine wp_iconst (x := nI 3) dq_179_24 rfl ?_
    refine wp_ic_eqN (tgt := 39) dq_179_25 rfl (by decide) (by decide) (fun c9 => absurd c9 (by decide)) (fun _ => ?_)
    refine wp_iload_n dq_179_28 rfl ?_
    refine wp_iconst (x := nI 4) dq_179_29 rfl ?_
    refine wp_ic_eqN (tgt := 39) dq_179_30 rfl (by decide) (by decide) (fun c9 => absurd c9 (by decide)) (fun _ => ?_)
    refine wp_iload_n dq_179_33 rfl ?_
    refine wp_bipush (x := nI 7) dq_179_34 rfl ?_
    refine wp_ic_neN (tgt := 43) dq_179_36 rfl (by decide) (by decide) (fun _ => ?_) (fun c9 => absurd c9 (by decide))
    refine wp_iload_n dq_179_43 rfl ?_
    refine wp_bipush (x := nI 9) dq_179_44 rfl ?_
    refine wp_ic_geN (tgt := 53) dq_179_46 rfl (by decide) (by decide) (fun _ => ?_) (fun c9 => absurd c9 (by decide))
    refine wp_iconst (x := nI 2) dq_179_53 rfl ?_
    refine wp_istore_n (lv' := [(0, .ref 13), (1, .int (nI 11)), (2, .int k), (3, .int (nI 2))]) dq_179_54 (by decide) rfl ?_
    refine wp_aload_n dq_179_55 rfl ?_
    refine wp_iload_n dq_179_56 rfl ?_
    refine wp_iload_n dq_179_57 rfl ?_
    refine wp_cve2 dq_179_58 mt_179_256 (ob_of (mw_0 hb)) ⟨by decide +kernel, by decide +kernel⟩ (Nat.le_of_ble_eq_true rfl) (Nat.le_of_ble_eq_true rfl) (c_m2N (d := d + 3) hW0 (kd := 2) (by decide) (FX_c hX (kd := 2) (by decide)).1 hk) ?_
    refine wp_istore (lv' := [(0, .ref 13), (1, .int (nI 11)), (2, .int k), (3, .int (nI 2)), (4, .int (-1))]) dq_179_61 (by decide) rfl ?_
    refine wp_iload_n dq_179_63 rfl ?_
    refine wp_bipush (x := nI 7) dq_179_64 rfl ?_
    refine wp_ic_eqN (tgt := 81) dq_179_66 rfl (by decide) (by decide) (fun c9 => absurd c9 (by decide)) (fun _ => ?_)
    refine wp_iload_n dq_179_69 rfl ?_
    refine wp_bipush (x := nI 8) dq_179_70 rfl ?_
    refine wp_ic_eqN (tgt := 81) dq_179_72 rfl (by decide) (by decide) (fun c9 => absurd c9 (by decide)) (fun _ => ?_)
    refine wp_iload_n dq_179_75 rfl ?_
    refine wp_bipush (x := nI 12) dq_179_76 rfl ?_
    refine wp_ic_neN (tgt := 85) dq_179_78 rfl (by decide) (by decide) (fun _ => ?_) (fun c9 => absurd c9 (by decide))
    refine wp_iload_n dq_179_85 rfl ?_
    refine wp_iconst (x := nI 3) dq_179_86 rfl ?_
    refine wp_ic_eqN (tgt := 101) dq_179_87 rfl (by decide) (by decide) (fun c9 => absurd c9 (by decide)) (fun _ => ?_)
    refine wp_iload_n dq_179_90 rfl ?_
    refine wp_iconst (x := nI 5) dq_179_91 rfl ?_
    refine wp_ic_eqN (tgt := 101) dq_179_92 rfl (by decide) (by decide) (fun c9 => absurd c9 (by decide)) (fun _ => ?_)
    refine wp_iload_n dq_179_95 rfl ?_
    refine wp_bipush (x := nI 10) dq_179_96 rfl ?_
    refine wp_ic_neN (tgt := 105) dq_179_98 rfl (by decide) (by decide) (fun _ => ?_) (fun c9 => absurd c9 (by decide))
    refine wp_iconst (x := nI 2) dq_179_105 rfl ?_
    refine wp_istore (lv' := [(0, .ref 13), (1, .int (nI 11)), (2, .int k), (3, .int (nI 2)), (4, .int (-1)), (5, .int (nI 2))]) dq_179_106 (by decide) rfl ?_
    refine wp_iload dq_179_108 rfl ?_
    refine wp_if_ge (tgt := 117) dq_179_110 rfl (fun c1 => ?_) (fun c1 => ?_)
    · exact absurd c1 (by decide)
    · refine wp_iconst (x := nI 0) dq_179_113 rfl ?_
      refine wp_goto (tgt := 127) dq_179_114 rfl ?_
      exact wp_ire dq_179_127 rfl ⟨rfl, Or.inl rfl⟩ ⟨rfl, rfl⟩
  · refine ⟨(tyO B M 2 j), QF_U2 hQ (by have := hV.2.2.1 2 j (by decide) hj; omega), Or.inr (FX_k hX (kd := 2) (by decide) hj).2.2.2.2.2, by rw [f_textOf, if_neg (by decide), if_neg (by decide), if_neg (by decide), if_neg (by decide), if_neg (by decide), if_neg (by decide), if_neg (by decide), if_neg (by decide), if_neg (by decide), if_neg (by decide), if_neg (by decide), if_pos (show nI 11 = 11 from rfl)]; exact q_typeOf (kd := 2) hQ hM hV (by decide) hj, ?_⟩
    show wp_W L xs _ 179 0 [(0, .ref 13), (1, .int (nI 11)), (2, .int (nI j))] [] h _
    refine wp_iload_n dq_179_0 rfl ?_
    refine wp_iconst (x := nI 3) dq_179_1 rfl ?_
    refine wp_ic_ltN (tgt := 11) dq_179_2 rfl (by decide) (by decide) (fun c9 => absurd c9 (by decide)) (fun _ => ?_)
    refine wp_iload_n dq_179_5 rfl ?_
    refine wp_bipush (x := nI 8) dq_179_6 rfl ?_
    refine wp_ic_leN (tgt := 23) dq_179_8 rfl (by decide) (by decide) (fun c9 => absurd c9 (by decide)) (fun _ => ?_)
    refine wp_iload_n dq_179_11 rfl ?_
    refine wp_bipush (x := nI 10) dq_179_12 rfl ?_
    refine wp_ic_ltN (tgt := 128) dq_179_14 rfl (by decide) (by decide) (fun c9 => absurd c9 (by decide)) (fun _ => ?_)
    refine wp_iload_n dq_179_17 rfl ?_
    refine wp_bipush (x := nI 12) dq_179_18 rfl ?_
    refine wp_ic_gtN (tgt := 128) dq_179_20 rfl (by decide) (by decide) (fun c9 => absurd c9 (by decide)) (fun _ => ?_)
    refine wp_iload_n dq_179_23 rfl ?_
    refine wp_iconst (x := nI 3) dq_179_24 rfl ?_
    refine wp_ic_eqN (tgt := 39) dq_179_25 rfl (by decide) (by decide) (fun c9 => absurd c9 (by decide)) (fun _ => ?_)
    refine wp_iload_n dq_179_28 rfl ?_
    refine wp_iconst (x := nI 4) dq_179_29 rfl ?_
    refine wp_ic_eqN (tgt := 39) dq_179_30 rfl (by decide) (by decide) (fun c9 => absurd c9 (by decide)) (fun _ => ?_)
    refine wp_iload_n dq_179_33 rfl ?_
    refine wp_bipush (x := nI 7) dq_179_34 rfl ?_
    refine wp_ic_neN (tgt := 43) dq_179_36 rfl (by decide) (by decide) (fun _ => ?_) (fun c9 => absurd c9 (by decide))
    refine wp_iload_n dq_179_43 rfl ?_
    refine wp_bipush (x := nI 9) dq_179_44 rfl ?_
    refine wp_ic_geN (tgt := 53) dq_179_46 rfl (by decide) (by decide) (fun _ => ?_) (fun c9 => absurd c9 (by decide))
    refine wp_iconst (x := nI 2) dq_179_53 rfl ?_
    refine wp_istore_n (lv' := [(0, .ref 13), (1, .int (nI 11)), (2, .int (nI j)), (3, .int (nI 2))]) dq_179_54 (by decide) rfl ?_
    refine wp_aload_n dq_179_55 rfl ?_
    refine wp_iload_n dq_179_56 rfl ?_
    refine wp_iload_n dq_179_57 rfl ?_
    refine wp_cve2 dq_179_58 mt_179_256 (ob_of (mw_0 hb)) ⟨by decide +kernel, by decide +kernel⟩ (Nat.le_of_ble_eq_true rfl) (Nat.le_of_ble_eq_true rfl) (c_m2Y (d := d + 3) hW0 (by decide) (FX_c hX (kd := 2) (by decide)).1 hj (FX_c hX (kd := 2) (by decide)).2) ?_
    refine wp_istore (lv' := [(0, .ref 13), (1, .int (nI 11)), (2, .int (nI j)), (3, .int (nI 2)), (4, .int (nI (100 + 130 * 2 + 8 * j)))]) dq_179_61 (by decide) rfl ?_
    refine wp_iload_n dq_179_63 rfl ?_
    refine wp_bipush (x := nI 7) dq_179_64 rfl ?_
    refine wp_ic_eqN (tgt := 81) dq_179_66 rfl (by decide) (by decide) (fun c9 => absurd c9 (by decide)) (fun _ => ?_)
    refine wp_iload_n dq_179_69 rfl ?_
    refine wp_bipush (x := nI 8) dq_179_70 rfl ?_
    refine wp_ic_eqN (tgt := 81) dq_179_72 rfl (by decide) (by decide) (fun c9 => absurd c9 (by decide)) (fun _ => ?_)
    refine wp_iload_n dq_179_75 rfl ?_
    refine wp_bipush (x := nI 12) dq_179_76 rfl ?_
    refine wp_ic_neN (tgt := 85) dq_179_78 rfl (by decide) (by decide) (fun _ => ?_) (fun c9 => absurd c9 (by decide))
    refine wp_iload_n dq_179_85 rfl ?_
    refine wp_iconst (x := nI 3) dq_179_86 rfl ?_
    refine wp_ic_eqN (tgt := 101) dq_179_87 rfl (by decide) (by decide) (fun c9 => absurd c9 (by decide)) (fun _ => ?_)
    refine wp_iload_n dq_179_90 rfl ?_
    refine wp_iconst (x := nI 5) dq_179_91 rfl ?_
    refine wp_ic_eqN (tgt := 101) dq_179_92 rfl (by decide) (by decide) (fun c9 => absurd c9 (by decide)) (fun _ => ?_)
    refine wp_iload_n dq_179_95 rfl ?_
    refine wp_bipush (x := nI 10) dq_179_96 rfl ?_
    refine wp_ic_neN (tgt := 105) dq_179_98 rfl (by decide) (by decide) (fun _ => ?_) (fun c9 => absurd c9 (by decide))
    refine wp_iconst (x := nI 2) dq_179_105 rfl ?_
    refine wp_istore (lv' := [(0, .ref 13), (1, .int (nI 11)), (2, .int (nI j)), (3, .int (nI 2)), (4, .int (nI (100 + 130 * 2 + 8 * j))), (5, .int (nI 2))]) dq_179_106 (by decide) rfl ?_
    refine wp_iload dq_179_108 rfl ?_
    refine wp_if_geN (tgt := 117) dq_179_110 rfl (by omega) (fun c1 => ?_) (fun c1 => ?_)
    · refine wp_aload_n dq_179_117 rfl ?_
      refine wp_getf (w := .ref 16) dq_179_118 fl_179_16 (mw_0 hb) rfl ?_
      refine wp_iload dq_179_121 rfl ?_
      refine wp_iload dq_179_123 rfl ?_
      refine wp_iaddN dq_179_125 ?_
      refine wp_ialdV (z := (nI (tyO B M 2 j))) dq_179_126 (mw_3 hb) (by omega) (by decide) ((FX_k hX (kd := 2) (by decide) hj).2.1) ?_
      exact wp_ire dq_179_127 rfl ⟨rfl, Or.inl rfl⟩ ⟨rfl, rfl⟩
    · exact absurd c1 (by omega)
set_option maxRecDepth 100000 in
theorem c_tx12 {L : Nat} {xs : Nat → Int32} {d n F : Nat} {B T : Nat → Nat} {N : Nat → Int32} {h : List qx_E} {M : rM} {s : Nat → Int32} {a : Nat → Nat → Int32} {k : Int32} (hW : QW h B n N) (hX : FX B n T F M N s a) : ∃ i, i < 65536 ∧ (i = 0 ∨ tg B T i = 1) ∧ f_textOf s a (nI 12) k = nI i ∧ qe_E L xs (d + 4) 179 [.ref 13, .int (nI 12), .int k] h (some (.int (nI i))) h := by
  have hW0 := QW_0 hW
  obtain ⟨s0, fa, fb, fd, hb, -⟩ := id hW0
  obtain ⟨⟨hQ, hM, hV, h0F, hFn⟩, ⟨hP, hLK, ⟨z0, z1, z2, z3, z4, z5, z6⟩, ⟨y1, y2, y3, y4⟩, hK0, hK1, ⟨o1, o2, o3, o4, o5⟩, ⟨r1, r2, r3, r4⟩⟩, ⟨hVA, hL8, hn10, v1, v2, v3, v4⟩, hnp⟩ := id hX
  have hn9 := hP.1
  have hcl9 := cTx_lt hX
  have hc16 := (FX_c hX (kd := 2) (by decide)).2
  rcases (show (k < 0 ∨ nI (M.c 2) ≤ k) ∨ ∃ j, j < M.c 2 ∧ k = nI j from (pk_ix k (n := M.c 2) (by omega)).elim (fun r => Or.inl (Or.inl r)) (fun r => r.elim (fun r => Or.inl (Or.inr r)) Or.inr)) with hk | ⟨j, hj, rfl⟩
  · refine ⟨0, by decide, Or.inl rfl, by rw [f_textOf, if_neg (by decide), if_neg (by decide), if_neg (by decide), if_neg (by decide), if_neg (by decide), if_neg (by decide), if_neg (by decide), if_neg (by decide), if_neg (by decide), if_neg (by decide), if_neg (by decide), if_neg (by decide), if_pos (show nI 12 = 12 from rfl)]; exact q_ci0 (kd := 2) hM hV (by decide) hk, ?_⟩
    show wp_W L xs _ 179 0 [(0, .ref 13), (1, .int (nI 12)), (2, .int k)] [] h _
    refine wp_iload_n dq_179_0 rfl ?_
    refine wp_iconst (x := nI 3) dq_179_1 rfl ?_
    refine wp_ic_ltN (tgt := 11) dq_179_2 rfl (by decide) (by decide) (fun c9 => absurd c9 (by decide)) (fun _ => ?_)
    refine wp_iload_n dq_179_5 rfl ?_
    refine wp_bipush (x := nI 8) dq_179_6 rfl ?_
    refine wp_ic_leN (tgt := 23) dq_179_8 rfl (by decide) (by decide) (fun c9 => absurd c9 (by decide)) (fun _ => ?_)
    refine wp_iload_n dq_179_11 rfl ?_
    refine wp_bipush (x := nI 10) dq_179_12 rfl ?_
    refine wp_ic_ltN (tgt := 128) dq_179_14 rfl (by decide) (by decide) (fun c9 => absurd c9 (by decide)) (fun _ => ?_)
    refine wp_iload_n dq_179_17 rfl ?_
    refine wp_bipush (x := nI 12) dq_179_18 rfl ?_
    refine wp_ic_gtN (tgt := 128) dq_179_20 rfl (by decide) (by decide) (fun c9 => absurd c9 (by decide)) (fun _ => ?_)
    refine wp_iload_n dq_179_23 rfl ?_
    refine wp_iconst (x := nI 3) dq_179_24 rfl ?_
    refine wp_ic_eqN (tgt := 39) dq_179_25 rfl (by decide) (by decide) (fun c9 => absurd c9 (by decide)) (fun _ => ?_)
    refine wp_iload_n dq_179_28 rfl ?_
    refine wp_iconst (x := nI 4) dq_179_29 rfl ?_
    refine wp_ic_eqN (tgt := 39) dq_179_30 rfl (by decide) (by decide) (fun c9 => absurd c9 (by decide)) (fun _ => ?_)
    refine wp_iload_n dq_179_33 rfl ?_
    refine wp_bipush (x := nI 7) dq_179_34 rfl ?_
    refine wp_ic_neN (tgt := 43) dq_179_36 rfl (by decide) (by decide) (fun _ => ?_) (fun c9 => absurd c9 (by decide))
    refine wp_iload_n dq_179_43 rfl ?_
    refine wp_bipush (x := nI 9) dq_179_44 rfl ?_
    refine wp_ic_geN (tgt := 53) dq_179_46 rfl (by decide) (by decide) (fun _ => ?_) (fun c9 => absurd c9 (by decide))
    refine wp_iconst (x := nI 2) dq_179_53 rfl ?_
    refine wp_istore_n (lv' := [(0, .ref 13), (1, .int (nI 12)), (2, .int k), (3, .int (nI 2))]) dq_179_54 (by decide) rfl ?_
    refine wp_aload_n dq_179_55 rfl ?_
    refine wp_iload_n dq_179_56 rfl ?_
    refine wp_iload_n dq_179_57 rfl ?_
    refine wp_cve2 dq_179_58 mt_179_256 (ob_of (mw_0 hb)) ⟨by decide +kernel, by decide +kernel⟩ (Nat.le_of_ble_eq_true rfl) (Nat.le_of_ble_eq_true rfl) (c_m2N (d := d + 3) hW0 (kd := 2) (by decide) (FX_c hX (kd := 2) (by decide)).1 hk) ?_
    refine wp_istore (lv' := [(0, .ref 13), (1, .int (nI 12)), (2, .int k), (3, .int (nI 2)), (4, .int (-1))]) dq_179_61 (by decide) rfl ?_
    refine wp_iload_n dq_179_63 rfl ?_
    refine wp_bipush (x := nI 7) dq_179_64 rfl ?_
    refine wp_ic_eqN (tgt := 81) dq_179_66 rfl (by decide) (by decide) (fun c9 => absurd c9 (by decide)) (fun _ => ?_)
    refine wp_iload_n dq_179_69 rfl ?_
    refine wp_bipush (x := nI 8) dq_179_70 rfl ?_
    refine wp_ic_eqN (tgt := 81) dq_179_72 rfl (by decide) (by decide) (fun c9 => absurd c9 (by decide)) (fun _ => ?_)
    refine wp_iload_n dq_179_75 rfl ?_
    refine wp_bipush (x := nI 12) dq_179_76 rfl ?_
    refine wp_ic_neN (tgt := 85) dq_179_78 rfl (by decide) (by decide) (fun c9 => absurd c9 (by decide)) (fun _ => ?_)
    refine wp_iconst (x := nI 3) dq_179_81 rfl ?_
    refine wp_goto (tgt := 106) dq_179_82 rfl ?_
    refine wp_istore (lv' := [(0, .ref 13), (1, .int (nI 12)), (2, .int k), (3, .int (nI 2)), (4, .int (-1)), (5, .int (nI 3))]) dq_179_106 (by decide) rfl ?_
    refine wp_iload dq_179_108 rfl ?_
    refine wp_if_ge (tgt := 117) dq_179_110 rfl (fun c1 => ?_) (fun c1 => ?_)
    · exact absurd c1 (by decide)
    · refine wp_iconst (x := nI 0) dq_179_113 rfl ?_
      refine wp_goto (tgt := 127) dq_179_114 rfl ?_
      exact wp_ire dq_179_127 rfl ⟨rfl, Or.inl rfl⟩ ⟨rfl, rfl⟩
  · refine ⟨(ctv B M (9 * (16 * 2 + j))), (FX_s hX (16 * 2 + j)).2, (FX_s hX (16 * 2 + j)).1, by rw [f_textOf, if_neg (by decide), if_neg (by decide), if_neg (by decide), if_neg (by decide), if_neg (by decide), if_neg (by decide), if_neg (by decide), if_neg (by decide), if_neg (by decide), if_neg (by decide), if_neg (by decide), if_neg (by decide), if_pos (show nI 12 = 12 from rfl)]; exact FX_ci hX (kd := 2) (w := 1) (by decide) hj (by decide), ?_⟩
    show wp_W L xs _ 179 0 [(0, .ref 13), (1, .int (nI 12)), (2, .int (nI j))] [] h _
    refine wp_iload_n dq_179_0 rfl ?_
    refine wp_iconst (x := nI 3) dq_179_1 rfl ?_
    refine wp_ic_ltN (tgt := 11) dq_179_2 rfl (by decide) (by decide) (fun c9 => absurd c9 (by decide)) (fun _ => ?_)
    refine wp_iload_n dq_179_5 rfl ?_
    refine wp_bipush (x := nI 8) dq_179_6 rfl ?_
    refine wp_ic_leN (tgt := 23) dq_179_8 rfl (by decide) (by decide) (fun c9 => absurd c9 (by decide)) (fun _ => ?_)
    refine wp_iload_n dq_179_11 rfl ?_
    refine wp_bipush (x := nI 10) dq_179_12 rfl ?_
    refine wp_ic_ltN (tgt := 128) dq_179_14 rfl (by decide) (by decide) (fun c9 => absurd c9 (by decide)) (fun _ => ?_)
    refine wp_iload_n dq_179_17 rfl ?_
    refine wp_bipush (x := nI 12) dq_179_18 rfl ?_
    refine wp_ic_gtN (tgt := 128) dq_179_20 rfl (by decide) (by decide) (fun c9 => absurd c9 (by decide)) (fun _ => ?_)
    refine wp_iload_n dq_179_23 rfl ?_
    refine wp_iconst (x := nI 3) dq_179_24 rfl ?_
    refine wp_ic_eqN (tgt := 39) dq_179_25 rfl (by decide) (by decide) (fun c9 => absurd c9 (by decide)) (fun _ => ?_)
    refine wp_iload_n dq_179_28 rfl ?_
    refine wp_iconst (x := nI 4) dq_179_29 rfl ?_
    refine wp_ic_eqN (tgt := 39) dq_179_30 rfl (by decide) (by decide) (fun c9 => absurd c9 (by decide)) (fun _ => ?_)
    refine wp_iload_n dq_179_33 rfl ?_
    refine wp_bipush (x := nI 7) dq_179_34 rfl ?_
    refine wp_ic_neN (tgt := 43) dq_179_36 rfl (by decide) (by decide) (fun _ => ?_) (fun c9 => absurd c9 (by decide))
    refine wp_iload_n dq_179_43 rfl ?_
    refine wp_bipush (x := nI 9) dq_179_44 rfl ?_
    refine wp_ic_geN (tgt := 53) dq_179_46 rfl (by decide) (by decide) (fun _ => ?_) (fun c9 => absurd c9 (by decide))
    refine wp_iconst (x := nI 2) dq_179_53 rfl ?_
    refine wp_istore_n (lv' := [(0, .ref 13), (1, .int (nI 12)), (2, .int (nI j)), (3, .int (nI 2))]) dq_179_54 (by decide) rfl ?_
    refine wp_aload_n dq_179_55 rfl ?_
    refine wp_iload_n dq_179_56 rfl ?_
    refine wp_iload_n dq_179_57 rfl ?_
    refine wp_cve2 dq_179_58 mt_179_256 (ob_of (mw_0 hb)) ⟨by decide +kernel, by decide +kernel⟩ (Nat.le_of_ble_eq_true rfl) (Nat.le_of_ble_eq_true rfl) (c_m2Y (d := d + 3) hW0 (by decide) (FX_c hX (kd := 2) (by decide)).1 hj (FX_c hX (kd := 2) (by decide)).2) ?_
    refine wp_istore (lv' := [(0, .ref 13), (1, .int (nI 12)), (2, .int (nI j)), (3, .int (nI 2)), (4, .int (nI (100 + 130 * 2 + 8 * j)))]) dq_179_61 (by decide) rfl ?_
    refine wp_iload_n dq_179_63 rfl ?_
    refine wp_bipush (x := nI 7) dq_179_64 rfl ?_
    refine wp_ic_eqN (tgt := 81) dq_179_66 rfl (by decide) (by decide) (fun c9 => absurd c9 (by decide)) (fun _ => ?_)
    refine wp_iload_n dq_179_69 rfl ?_
    refine wp_bipush (x := nI 8) dq_179_70 rfl ?_
    refine wp_ic_eqN (tgt := 81) dq_179_72 rfl (by decide) (by decide) (fun c9 => absurd c9 (by decide)) (fun _ => ?_)
    refine wp_iload_n dq_179_75 rfl ?_
    refine wp_bipush (x := nI 12) dq_179_76 rfl ?_
    refine wp_ic_neN (tgt := 85) dq_179_78 rfl (by decide) (by decide) (fun c9 => absurd c9 (by decide)) (fun _ => ?_)
    refine wp_iconst (x := nI 3) dq_179_81 rfl ?_
    refine wp_goto (tgt := 106) dq_179_82 rfl ?_
    refine wp_istore (lv' := [(0, .ref 13), (1, .int (nI 12)), (2, .int (nI j)), (3, .int (nI 2)), (4, .int (nI (100 + 130 * 2 + 8 * j))), (5, .int (nI 3))]) dq_179_106 (by decide) rfl ?_
    refine wp_iload dq_179_108 rfl ?_
    refine wp_if_geN (tgt := 117) dq_179_110 rfl (by omega) (fun c1 => ?_) (fun c1 => ?_)
    · refine wp_aload_n dq_179_117 rfl ?_
      refine wp_getf (w := .ref 16) dq_179_118 fl_179_16 (mw_0 hb) rfl ?_
      refine wp_iload dq_179_121 rfl ?_
      refine wp_iload dq_179_123 rfl ?_
      refine wp_iaddN dq_179_125 ?_
      refine wp_ialdV (z := (nI (ctv B M (9 * (16 * 2 + j))))) dq_179_126 (mw_3 hb) (by omega) (by decide) ((FX_k hX (kd := 2) (by decide) hj).2.2.2.1.1) ?_
      exact wp_ire dq_179_127 rfl ⟨rfl, Or.inl rfl⟩ ⟨rfl, rfl⟩
    · exact absurd c1 (by omega)
set_option maxRecDepth 100000 in
theorem c_tx13 {L : Nat} {xs : Nat → Int32} {d n F : Nat} {B T : Nat → Nat} {N : Nat → Int32} {h : List qx_E} {M : rM} {s : Nat → Int32} {a : Nat → Nat → Int32} {k : Int32} (hW : QW h B n N) (hX : FX B n T F M N s a) : ∃ i, i < 65536 ∧ (i = 0 ∨ tg B T i = 1) ∧ f_textOf s a (nI 13) k = nI i ∧ qe_E L xs (d + 4) 179 [.ref 13, .int (nI 13), .int k] h (some (.int (nI i))) h := by
  have hW0 := QW_0 hW
  obtain ⟨s0, fa, fb, fd, hb, -⟩ := id hW0
  obtain ⟨⟨hQ, hM, hV, h0F, hFn⟩, ⟨hP, hLK, ⟨z0, z1, z2, z3, z4, z5, z6⟩, ⟨y1, y2, y3, y4⟩, hK0, hK1, ⟨o1, o2, o3, o4, o5⟩, ⟨r1, r2, r3, r4⟩⟩, ⟨hVA, hL8, hn10, v1, v2, v3, v4⟩, hnp⟩ := id hX
  have hn9 := hP.1
  have hcl9 := cTx_lt hX
  obtain ⟨l1, l2, l3, l4, l5⟩ := FX_l hX (w := 5) (by decide)
  simp only [Nat.reduceAdd, Nat.reduceMul, Nat.reduceSub] at l1 l2 l3 l4 l5
  rcases (show (k < 0 ∨ nI (ctv B M 436) ≤ k) ∨ ∃ j, j < ctv B M 436 ∧ k = nI j from (pk_ix k (n := ctv B M 436) (by omega)).elim (fun r => Or.inl (Or.inl r)) (fun r => r.elim (fun r => Or.inl (Or.inr r)) Or.inr)) with hk | ⟨j, hj, rfl⟩
  · have hcl := c_clt (L := L) (xs := xs) (d := d) hW hP (i := 0) (Or.inl rfl) (by decide)
    rw [cT_0 hX] at hcl
    refine ⟨0, by decide, Or.inl rfl, by rw [f_textOf, if_neg (by decide), if_neg (by decide), if_neg (by decide), if_neg (by decide), if_neg (by decide), if_neg (by decide), if_neg (by decide), if_neg (by decide), if_neg (by decide), if_neg (by decide), if_neg (by decide), if_neg (by decide), if_neg (by decide), f_classListTextOf, if_pos (show nI 13 = 13 from rfl), show f_elementItem s a 3 0 5 k 0 = 0 from q_eiN (kd := 3) l1 hk]; exact q_cl0 hX, ?_⟩
    show wp_W L xs _ 179 0 [(0, .ref 13), (1, .int (nI 13)), (2, .int k)] [] h _
    refine wp_iload_n dq_179_0 rfl ?_
    refine wp_iconst (x := nI 3) dq_179_1 rfl ?_
    refine wp_ic_ltN (tgt := 11) dq_179_2 rfl (by decide) (by decide) (fun c9 => absurd c9 (by decide)) (fun _ => ?_)
    refine wp_iload_n dq_179_5 rfl ?_
    refine wp_bipush (x := nI 8) dq_179_6 rfl ?_
    refine wp_ic_leN (tgt := 23) dq_179_8 rfl (by decide) (by decide) (fun c9 => absurd c9 (by decide)) (fun _ => ?_)
    refine wp_iload_n dq_179_11 rfl ?_
    refine wp_bipush (x := nI 10) dq_179_12 rfl ?_
    refine wp_ic_ltN (tgt := 128) dq_179_14 rfl (by decide) (by decide) (fun c9 => absurd c9 (by decide)) (fun _ => ?_)
    refine wp_iload_n dq_179_17 rfl ?_
    refine wp_bipush (x := nI 12) dq_179_18 rfl ?_
    refine wp_ic_gtN (tgt := 128) dq_179_20 rfl (by decide) (by decide) (fun _ => ?_) (fun c9 => absurd c9 (by decide))
    refine wp_iload_n dq_179_128 rfl ?_
    refine wp_tab (off := 134) (tgt := 263) dq_179_129 (by decide) rfl ?_
    refine wp_aload_n dq_179_263 rfl ?_
    refine wp_aload_n dq_179_264 rfl ?_
    refine wp_bipush (x := nI 7) dq_179_265 rfl ?_
    refine wp_iload_n dq_179_267 rfl ?_
    refine wp_bipush (x := nI 8) dq_179_268 rfl ?_
    refine wp_iconst (x := nI 0) dq_179_270 rfl ?_
    refine wp_cve4 dq_179_271 mt_179_262 (ob_of (mw_0 hb)) ⟨by decide +kernel, by decide +kernel⟩ (Nat.le_of_ble_eq_true rfl) (Nat.le_of_ble_eq_true rfl) (c_etN (d := d + 1) hW0 (by decide) l4 hk) ?_
    refine wp_cve1 dq_179_274 mt_179_259 (ob_of (mw_0 hb)) ⟨by decide +kernel, by decide +kernel⟩ (Nat.le_of_ble_eq_true rfl) (Nat.le_of_ble_eq_true rfl) (hcl) ?_
    exact wp_ire dq_179_277 rfl ⟨rfl, Or.inl rfl⟩ ⟨rfl, rfl⟩
  · obtain ⟨l6, l7, l8⟩ := l5 j hj
    rw [show ez 5 = 8 from rfl] at l7
    have hvl : (bu_U B (M.ct 436 + 2 + 8 * j + 0) 2) < 65536 := QF_U2 hQ (by omega)
    have hv7 : (bu_U B (M.ct 436 + 2 + 8 * j + 0) 2) = 0 ∨ tg B T (bu_U B (M.ct 436 + 2 + 8 * j + 0) 2) = 7 := Or.inr l8.1
    refine ⟨cT B T (bu_U B (M.ct 436 + 2 + 8 * j + 0) 2), hcl9 _, cT_v hX hv7, by rw [f_textOf, if_neg (by decide), if_neg (by decide), if_neg (by decide), if_neg (by decide), if_neg (by decide), if_neg (by decide), if_neg (by decide), if_neg (by decide), if_neg (by decide), if_neg (by decide), if_neg (by decide), if_neg (by decide), if_neg (by decide), f_classListTextOf, if_pos (show nI 13 = 13 from rfl), show f_elementItem s a 3 0 5 (nI j) 0 = nI (bu_U B (M.ct 436 + 2 + 8 * j + 0) 2) from q_eiY (kd := 3) (k := 0) (w := 5) (y := 0) hQ (by decide) l1 l2 hj (by omega) (by rw [show ez 5 = 8 from rfl]; omega)]; exact q_clT hX hvl, ?_⟩
    show wp_W L xs _ 179 0 [(0, .ref 13), (1, .int (nI 13)), (2, .int (nI j))] [] h _
    refine wp_iload_n dq_179_0 rfl ?_
    refine wp_iconst (x := nI 3) dq_179_1 rfl ?_
    refine wp_ic_ltN (tgt := 11) dq_179_2 rfl (by decide) (by decide) (fun c9 => absurd c9 (by decide)) (fun _ => ?_)
    refine wp_iload_n dq_179_5 rfl ?_
    refine wp_bipush (x := nI 8) dq_179_6 rfl ?_
    refine wp_ic_leN (tgt := 23) dq_179_8 rfl (by decide) (by decide) (fun c9 => absurd c9 (by decide)) (fun _ => ?_)
    refine wp_iload_n dq_179_11 rfl ?_
    refine wp_bipush (x := nI 10) dq_179_12 rfl ?_
    refine wp_ic_ltN (tgt := 128) dq_179_14 rfl (by decide) (by decide) (fun c9 => absurd c9 (by decide)) (fun _ => ?_)
    refine wp_iload_n dq_179_17 rfl ?_
    refine wp_bipush (x := nI 12) dq_179_18 rfl ?_
    refine wp_ic_gtN (tgt := 128) dq_179_20 rfl (by decide) (by decide) (fun _ => ?_) (fun c9 => absurd c9 (by decide))
    refine wp_iload_n dq_179_128 rfl ?_
    refine wp_tab (off := 134) (tgt := 263) dq_179_129 (by decide) rfl ?_
    refine wp_aload_n dq_179_263 rfl ?_
    refine wp_aload_n dq_179_264 rfl ?_
    refine wp_bipush (x := nI 7) dq_179_265 rfl ?_
    refine wp_iload_n dq_179_267 rfl ?_
    refine wp_bipush (x := nI 8) dq_179_268 rfl ?_
    refine wp_iconst (x := nI 0) dq_179_270 rfl ?_
    refine wp_cve4 dq_179_271 mt_179_262 (ob_of (mw_0 hb)) ⟨by decide +kernel, by decide +kernel⟩ (Nat.le_of_ble_eq_true rfl) (Nat.le_of_ble_eq_true rfl) (c_etY (d := d + 1) hW (by decide) l4 l6 hj (by omega) hn9 (by omega)) ?_
    refine wp_cve1 dq_179_274 mt_179_259 (ob_of (mw_0 hb)) ⟨by decide +kernel, by decide +kernel⟩ (Nat.le_of_ble_eq_true rfl) (Nat.le_of_ble_eq_true rfl) (c_clt (d := d) hW hP hv7 hvl) ?_
    exact wp_ire dq_179_277 rfl ⟨rfl, Or.inl rfl⟩ ⟨rfl, rfl⟩
set_option maxRecDepth 100000 in
theorem c_tx14 {L : Nat} {xs : Nat → Int32} {d n F : Nat} {B T : Nat → Nat} {N : Nat → Int32} {h : List qx_E} {M : rM} {s : Nat → Int32} {a : Nat → Nat → Int32} {k : Int32} (hW : QW h B n N) (hX : FX B n T F M N s a) : ∃ i, i < 65536 ∧ (i = 0 ∨ tg B T i = 1) ∧ f_textOf s a (nI 14) k = nI i ∧ qe_E L xs (d + 4) 179 [.ref 13, .int (nI 14), .int k] h (some (.int (nI i))) h := by
  have hW0 := QW_0 hW
  obtain ⟨s0, fa, fb, fd, hb, -⟩ := id hW0
  obtain ⟨⟨hQ, hM, hV, h0F, hFn⟩, ⟨hP, hLK, ⟨z0, z1, z2, z3, z4, z5, z6⟩, ⟨y1, y2, y3, y4⟩, hK0, hK1, ⟨o1, o2, o3, o4, o5⟩, ⟨r1, r2, r3, r4⟩⟩, ⟨hVA, hL8, hn10, v1, v2, v3, v4⟩, hnp⟩ := id hX
  have hn9 := hP.1
  have hcl9 := cTx_lt hX
  obtain ⟨l1, l2, l3, l4, l5⟩ := FX_l hX (w := 5) (by decide)
  simp only [Nat.reduceAdd, Nat.reduceMul, Nat.reduceSub] at l1 l2 l3 l4 l5
  rcases (show (k < 0 ∨ nI (ctv B M 436) ≤ k) ∨ ∃ j, j < ctv B M 436 ∧ k = nI j from (pk_ix k (n := ctv B M 436) (by omega)).elim (fun r => Or.inl (Or.inl r)) (fun r => r.elim (fun r => Or.inl (Or.inr r)) Or.inr)) with hk | ⟨j, hj, rfl⟩
  · have hcl := c_clt (L := L) (xs := xs) (d := d) hW hP (i := 0) (Or.inl rfl) (by decide)
    rw [cT_0 hX] at hcl
    refine ⟨0, by decide, Or.inl rfl, by rw [f_textOf, if_neg (by decide), if_neg (by decide), if_neg (by decide), if_neg (by decide), if_neg (by decide), if_neg (by decide), if_neg (by decide), if_neg (by decide), if_neg (by decide), if_neg (by decide), if_neg (by decide), if_neg (by decide), if_neg (by decide), f_classListTextOf, if_neg (by decide), if_pos (show nI 14 = 14 from rfl), show f_elementItem s a 3 0 5 k 2 = 0 from q_eiN (kd := 3) l1 hk]; exact q_cl0 hX, ?_⟩
    show wp_W L xs _ 179 0 [(0, .ref 13), (1, .int (nI 14)), (2, .int k)] [] h _
    refine wp_iload_n dq_179_0 rfl ?_
    refine wp_iconst (x := nI 3) dq_179_1 rfl ?_
    refine wp_ic_ltN (tgt := 11) dq_179_2 rfl (by decide) (by decide) (fun c9 => absurd c9 (by decide)) (fun _ => ?_)
    refine wp_iload_n dq_179_5 rfl ?_
    refine wp_bipush (x := nI 8) dq_179_6 rfl ?_
    refine wp_ic_leN (tgt := 23) dq_179_8 rfl (by decide) (by decide) (fun c9 => absurd c9 (by decide)) (fun _ => ?_)
    refine wp_iload_n dq_179_11 rfl ?_
    refine wp_bipush (x := nI 10) dq_179_12 rfl ?_
    refine wp_ic_ltN (tgt := 128) dq_179_14 rfl (by decide) (by decide) (fun c9 => absurd c9 (by decide)) (fun _ => ?_)
    refine wp_iload_n dq_179_17 rfl ?_
    refine wp_bipush (x := nI 12) dq_179_18 rfl ?_
    refine wp_ic_gtN (tgt := 128) dq_179_20 rfl (by decide) (by decide) (fun _ => ?_) (fun c9 => absurd c9 (by decide))
    refine wp_iload_n dq_179_128 rfl ?_
    refine wp_tab (off := 149) (tgt := 278) dq_179_129 (by decide) rfl ?_
    refine wp_aload_n dq_179_278 rfl ?_
    refine wp_aload_n dq_179_279 rfl ?_
    refine wp_bipush (x := nI 7) dq_179_280 rfl ?_
    refine wp_iload_n dq_179_282 rfl ?_
    refine wp_bipush (x := nI 8) dq_179_283 rfl ?_
    refine wp_iconst (x := nI 2) dq_179_285 rfl ?_
    refine wp_cve4 dq_179_286 mt_179_262 (ob_of (mw_0 hb)) ⟨by decide +kernel, by decide +kernel⟩ (Nat.le_of_ble_eq_true rfl) (Nat.le_of_ble_eq_true rfl) (c_etN (d := d + 1) hW0 (by decide) l4 hk) ?_
    refine wp_cve1 dq_179_289 mt_179_259 (ob_of (mw_0 hb)) ⟨by decide +kernel, by decide +kernel⟩ (Nat.le_of_ble_eq_true rfl) (Nat.le_of_ble_eq_true rfl) (hcl) ?_
    exact wp_ire dq_179_292 rfl ⟨rfl, Or.inl rfl⟩ ⟨rfl, rfl⟩
  · obtain ⟨l6, l7, l8⟩ := l5 j hj
    rw [show ez 5 = 8 from rfl] at l7
    have hvl : (bu_U B (M.ct 436 + 2 + 8 * j + 2) 2) < 65536 := QF_U2 hQ (by omega)
    have hv7 : (bu_U B (M.ct 436 + 2 + 8 * j + 2) 2) = 0 ∨ tg B T (bu_U B (M.ct 436 + 2 + 8 * j + 2) 2) = 7 := (l8.2 rfl).1
    refine ⟨cT B T (bu_U B (M.ct 436 + 2 + 8 * j + 2) 2), hcl9 _, cT_v hX hv7, by rw [f_textOf, if_neg (by decide), if_neg (by decide), if_neg (by decide), if_neg (by decide), if_neg (by decide), if_neg (by decide), if_neg (by decide), if_neg (by decide), if_neg (by decide), if_neg (by decide), if_neg (by decide), if_neg (by decide), if_neg (by decide), f_classListTextOf, if_neg (by decide), if_pos (show nI 14 = 14 from rfl), show f_elementItem s a 3 0 5 (nI j) 2 = nI (bu_U B (M.ct 436 + 2 + 8 * j + 2) 2) from q_eiY (kd := 3) (k := 0) (w := 5) (y := 2) hQ (by decide) l1 l2 hj (by omega) (by rw [show ez 5 = 8 from rfl]; omega)]; exact q_clT hX hvl, ?_⟩
    show wp_W L xs _ 179 0 [(0, .ref 13), (1, .int (nI 14)), (2, .int (nI j))] [] h _
    refine wp_iload_n dq_179_0 rfl ?_
    refine wp_iconst (x := nI 3) dq_179_1 rfl ?_
    refine wp_ic_ltN (tgt := 11) dq_179_2 rfl (by decide) (by decide) (fun c9 => absurd c9 (by decide)) (fun _ => ?_)
    refine wp_iload_n dq_179_5 rfl ?_
    refine wp_bipush (x := nI 8) dq_179_6 rfl ?_
    refine wp_ic_leN (tgt := 23) dq_179_8 rfl (by decide) (by decide) (fun c9 => absurd c9 (by decide)) (fun _ => ?_)
    refine wp_iload_n dq_179_11 rfl ?_
    refine wp_bipush (x := nI 10) dq_179_12 rfl ?_
    refine wp_ic_ltN (tgt := 128) dq_179_14 rfl (by decide) (by decide) (fun c9 => absurd c9 (by decide)) (fun _ => ?_)
    refine wp_iload_n dq_179_17 rfl ?_
    refine wp_bipush (x := nI 12) dq_179_18 rfl ?_
    refine wp_ic_gtN (tgt := 128) dq_179_20 rfl (by decide) (by decide) (fun _ => ?_) (fun c9 => absurd c9 (by decide))
    refine wp_iload_n dq_179_128 rfl ?_
    refine wp_tab (off := 149) (tgt := 278) dq_179_129 (by decide) rfl ?_
    refine wp_aload_n dq_179_278 rfl ?_
    refine wp_aload_n dq_179_279 rfl ?_
    refine wp_bipush (x := nI 7) dq_179_280 rfl ?_
    refine wp_iload_n dq_179_282 rfl ?_
    refine wp_bipush (x := nI 8) dq_179_283 rfl ?_
    refine wp_iconst (x := nI 2) dq_179_285 rfl ?_
    refine wp_cve4 dq_179_286 mt_179_262 (ob_of (mw_0 hb)) ⟨by decide +kernel, by decide +kernel⟩ (Nat.le_of_ble_eq_true rfl) (Nat.le_of_ble_eq_true rfl) (c_etY (d := d + 1) hW (by decide) l4 l6 hj (by omega) hn9 (by omega)) ?_
    refine wp_cve1 dq_179_289 mt_179_259 (ob_of (mw_0 hb)) ⟨by decide +kernel, by decide +kernel⟩ (Nat.le_of_ble_eq_true rfl) (Nat.le_of_ble_eq_true rfl) (c_clt (d := d) hW hP hv7 hvl) ?_
    exact wp_ire dq_179_292 rfl ⟨rfl, Or.inl rfl⟩ ⟨rfl, rfl⟩
set_option maxRecDepth 100000 in
theorem c_tx15 {L : Nat} {xs : Nat → Int32} {d n F : Nat} {B T : Nat → Nat} {N : Nat → Int32} {h : List qx_E} {M : rM} {s : Nat → Int32} {a : Nat → Nat → Int32} {k : Int32} (hW : QW h B n N) (hX : FX B n T F M N s a) : ∃ i, i < 65536 ∧ (i = 0 ∨ tg B T i = 1) ∧ f_textOf s a (nI 15) k = nI i ∧ qe_E L xs (d + 4) 179 [.ref 13, .int (nI 15), .int k] h (some (.int (nI i))) h := by
  have hW0 := QW_0 hW
  obtain ⟨s0, fa, fb, fd, hb, -⟩ := id hW0
  obtain ⟨⟨hQ, hM, hV, h0F, hFn⟩, ⟨hP, hLK, ⟨z0, z1, z2, z3, z4, z5, z6⟩, ⟨y1, y2, y3, y4⟩, hK0, hK1, ⟨o1, o2, o3, o4, o5⟩, ⟨r1, r2, r3, r4⟩⟩, ⟨hVA, hL8, hn10, v1, v2, v3, v4⟩, hnp⟩ := id hX
  have hn9 := hP.1
  have hcl9 := cTx_lt hX
  obtain ⟨l1, l2, l3, l4, l5⟩ := FX_l hX (w := 5) (by decide)
  simp only [Nat.reduceAdd, Nat.reduceMul, Nat.reduceSub] at l1 l2 l3 l4 l5
  rcases (show (k < 0 ∨ nI (ctv B M 436) ≤ k) ∨ ∃ j, j < ctv B M 436 ∧ k = nI j from (pk_ix k (n := ctv B M 436) (by omega)).elim (fun r => Or.inl (Or.inl r)) (fun r => r.elim (fun r => Or.inl (Or.inr r)) Or.inr)) with hk | ⟨j, hj, rfl⟩
  · refine ⟨0, by decide, Or.inl rfl, by rw [f_textOf, if_neg (by decide), if_neg (by decide), if_neg (by decide), if_neg (by decide), if_neg (by decide), if_neg (by decide), if_neg (by decide), if_neg (by decide), if_neg (by decide), if_neg (by decide), if_neg (by decide), if_neg (by decide), if_neg (by decide), f_classListTextOf, if_neg (by decide), if_neg (by decide), if_pos (show nI 15 = 15 from rfl), show f_elementItem s a 3 0 5 k 4 = 0 from q_eiN (kd := 3) l1 hk]; rfl, ?_⟩
    show wp_W L xs _ 179 0 [(0, .ref 13), (1, .int (nI 15)), (2, .int k)] [] h _
    refine wp_iload_n dq_179_0 rfl ?_
    refine wp_iconst (x := nI 3) dq_179_1 rfl ?_
    refine wp_ic_ltN (tgt := 11) dq_179_2 rfl (by decide) (by decide) (fun c9 => absurd c9 (by decide)) (fun _ => ?_)
    refine wp_iload_n dq_179_5 rfl ?_
    refine wp_bipush (x := nI 8) dq_179_6 rfl ?_
    refine wp_ic_leN (tgt := 23) dq_179_8 rfl (by decide) (by decide) (fun c9 => absurd c9 (by decide)) (fun _ => ?_)
    refine wp_iload_n dq_179_11 rfl ?_
    refine wp_bipush (x := nI 10) dq_179_12 rfl ?_
    refine wp_ic_ltN (tgt := 128) dq_179_14 rfl (by decide) (by decide) (fun c9 => absurd c9 (by decide)) (fun _ => ?_)
    refine wp_iload_n dq_179_17 rfl ?_
    refine wp_bipush (x := nI 12) dq_179_18 rfl ?_
    refine wp_ic_gtN (tgt := 128) dq_179_20 rfl (by decide) (by decide) (fun _ => ?_) (fun c9 => absurd c9 (by decide))
    refine wp_iload_n dq_179_128 rfl ?_
    refine wp_tab (off := 164) (tgt := 293) dq_179_129 (by decide) rfl ?_
    refine wp_aload_n dq_179_293 rfl ?_
    refine wp_bipush (x := nI 7) dq_179_294 rfl ?_
    refine wp_iload_n dq_179_296 rfl ?_
    refine wp_bipush (x := nI 8) dq_179_297 rfl ?_
    refine wp_iconst (x := nI 4) dq_179_299 rfl ?_
    refine wp_cve4 dq_179_300 mt_179_262 (ob_of (mw_0 hb)) ⟨by decide +kernel, by decide +kernel⟩ (Nat.le_of_ble_eq_true rfl) (Nat.le_of_ble_eq_true rfl) (c_etN (d := d + 1) hW0 (by decide) l4 hk) ?_
    exact wp_ire dq_179_303 rfl ⟨rfl, Or.inl rfl⟩ ⟨rfl, rfl⟩
  · obtain ⟨l6, l7, l8⟩ := l5 j hj
    rw [show ez 5 = 8 from rfl] at l7
    have hvl : (bu_U B (M.ct 436 + 2 + 8 * j + 4) 2) < 65536 := QF_U2 hQ (by omega)
    have hv7 : (bu_U B (M.ct 436 + 2 + 8 * j + 4) 2) = 0 ∨ tg B T (bu_U B (M.ct 436 + 2 + 8 * j + 4) 2) = 1 := (l8.2 rfl).2
    refine ⟨(bu_U B (M.ct 436 + 2 + 8 * j + 4) 2), hvl, hv7, by rw [f_textOf, if_neg (by decide), if_neg (by decide), if_neg (by decide), if_neg (by decide), if_neg (by decide), if_neg (by decide), if_neg (by decide), if_neg (by decide), if_neg (by decide), if_neg (by decide), if_neg (by decide), if_neg (by decide), if_neg (by decide), f_classListTextOf, if_neg (by decide), if_neg (by decide), if_pos (show nI 15 = 15 from rfl), show f_elementItem s a 3 0 5 (nI j) 4 = nI (bu_U B (M.ct 436 + 2 + 8 * j + 4) 2) from q_eiY (kd := 3) (k := 0) (w := 5) (y := 4) hQ (by decide) l1 l2 hj (by omega) (by rw [show ez 5 = 8 from rfl]; omega)], ?_⟩
    show wp_W L xs _ 179 0 [(0, .ref 13), (1, .int (nI 15)), (2, .int (nI j))] [] h _
    refine wp_iload_n dq_179_0 rfl ?_
    refine wp_iconst (x := nI 3) dq_179_1 rfl ?_
    refine wp_ic_ltN (tgt := 11) dq_179_2 rfl (by decide) (by decide) (fun c9 => absurd c9 (by decide)) (fun _ => ?_)
    refine wp_iload_n dq_179_5 rfl ?_
    refine wp_bipush (x := nI 8) dq_179_6 rfl ?_
    refine wp_ic_leN (tgt := 23) dq_179_8 rfl (by decide) (by decide) (fun c9 => absurd c9 (by decide)) (fun _ => ?_)
    refine wp_iload_n dq_179_11 rfl ?_
    refine wp_bipush (x := nI 10) dq_179_12 rfl ?_
    refine wp_ic_ltN (tgt := 128) dq_179_14 rfl (by decide) (by decide) (fun c9 => absurd c9 (by decide)) (fun _ => ?_)
    refine wp_iload_n dq_179_17 rfl ?_
    refine wp_bipush (x := nI 12) dq_179_18 rfl ?_
    refine wp_ic_gtN (tgt := 128) dq_179_20 rfl (by decide) (by decide) (fun _ => ?_) (fun c9 => absurd c9 (by decide))
    refine wp_iload_n dq_179_128 rfl ?_
    refine wp_tab (off := 164) (tgt := 293) dq_179_129 (by decide) rfl ?_
    refine wp_aload_n dq_179_293 rfl ?_
    refine wp_bipush (x := nI 7) dq_179_294 rfl ?_
    refine wp_iload_n dq_179_296 rfl ?_
    refine wp_bipush (x := nI 8) dq_179_297 rfl ?_
    refine wp_iconst (x := nI 4) dq_179_299 rfl ?_
    refine wp_cve4 dq_179_300 mt_179_262 (ob_of (mw_0 hb)) ⟨by decide +kernel, by decide +kernel⟩ (Nat.le_of_ble_eq_true rfl) (Nat.le_of_ble_eq_true rfl) (c_etY (d := d + 1) hW (by decide) l4 l6 hj (by omega) hn9 (by omega)) ?_
    exact wp_ire dq_179_303 rfl ⟨rfl, Or.inl rfl⟩ ⟨rfl, rfl⟩
set_option maxRecDepth 100000 in
theorem c_tx17 {L : Nat} {xs : Nat → Int32} {d n F : Nat} {B T : Nat → Nat} {N : Nat → Int32} {h : List qx_E} {M : rM} {s : Nat → Int32} {a : Nat → Nat → Int32} {k : Int32} (hW : QW h B n N) (hX : FX B n T F M N s a) : ∃ i, i < 65536 ∧ (i = 0 ∨ tg B T i = 1) ∧ f_textOf s a (nI 17) k = nI i ∧ qe_E L xs (d + 4) 179 [.ref 13, .int (nI 17), .int k] h (some (.int (nI i))) h := by
  have hW0 := QW_0 hW
  obtain ⟨s0, fa, fb, fd, hb, -⟩ := id hW0
  obtain ⟨⟨hQ, hM, hV, h0F, hFn⟩, ⟨hP, hLK, ⟨z0, z1, z2, z3, z4, z5, z6⟩, ⟨y1, y2, y3, y4⟩, hK0, hK1, ⟨o1, o2, o3, o4, o5⟩, ⟨r1, r2, r3, r4⟩⟩, ⟨hVA, hL8, hn10, v1, v2, v3, v4⟩, hnp⟩ := id hX
  have hn9 := hP.1
  have hcl9 := cTx_lt hX
  obtain ⟨l1, l2, l3, l4, l5⟩ := FX_l hX (w := 6) (by decide)
  simp only [Nat.reduceAdd, Nat.reduceMul, Nat.reduceSub] at l1 l2 l3 l4 l5
  rcases (show (k < 0 ∨ nI (ctv B M 437) ≤ k) ∨ ∃ j, j < ctv B M 437 ∧ k = nI j from (pk_ix k (n := ctv B M 437) (by omega)).elim (fun r => Or.inl (Or.inl r)) (fun r => r.elim (fun r => Or.inl (Or.inr r)) Or.inr)) with hk | ⟨j, hj, rfl⟩
  · have hcl := c_clt (L := L) (xs := xs) (d := d) hW hP (i := 0) (Or.inl rfl) (by decide)
    rw [cT_0 hX] at hcl
    refine ⟨0, by decide, Or.inl rfl, by rw [f_textOf, if_neg (by decide), if_neg (by decide), if_neg (by decide), if_neg (by decide), if_neg (by decide), if_neg (by decide), if_neg (by decide), if_neg (by decide), if_neg (by decide), if_neg (by decide), if_neg (by decide), if_neg (by decide), if_neg (by decide), f_classListTextOf, if_neg (by decide), if_neg (by decide), if_neg (by decide), if_neg (by decide), if_pos (show nI 17 = 17 from rfl), show f_elementItem s a 3 0 6 k 0 = 0 from q_eiN (kd := 3) l1 hk]; exact q_cl0 hX, ?_⟩
    show wp_W L xs _ 179 0 [(0, .ref 13), (1, .int (nI 17)), (2, .int k)] [] h _
    refine wp_iload_n dq_179_0 rfl ?_
    refine wp_iconst (x := nI 3) dq_179_1 rfl ?_
    refine wp_ic_ltN (tgt := 11) dq_179_2 rfl (by decide) (by decide) (fun c9 => absurd c9 (by decide)) (fun _ => ?_)
    refine wp_iload_n dq_179_5 rfl ?_
    refine wp_bipush (x := nI 8) dq_179_6 rfl ?_
    refine wp_ic_leN (tgt := 23) dq_179_8 rfl (by decide) (by decide) (fun c9 => absurd c9 (by decide)) (fun _ => ?_)
    refine wp_iload_n dq_179_11 rfl ?_
    refine wp_bipush (x := nI 10) dq_179_12 rfl ?_
    refine wp_ic_ltN (tgt := 128) dq_179_14 rfl (by decide) (by decide) (fun c9 => absurd c9 (by decide)) (fun _ => ?_)
    refine wp_iload_n dq_179_17 rfl ?_
    refine wp_bipush (x := nI 12) dq_179_18 rfl ?_
    refine wp_ic_gtN (tgt := 128) dq_179_20 rfl (by decide) (by decide) (fun _ => ?_) (fun c9 => absurd c9 (by decide))
    refine wp_iload_n dq_179_128 rfl ?_
    refine wp_tab (off := 187) (tgt := 316) dq_179_129 (by decide) rfl ?_
    refine wp_aload_n dq_179_316 rfl ?_
    refine wp_aload_n dq_179_317 rfl ?_
    refine wp_bipush (x := nI 9) dq_179_318 rfl ?_
    refine wp_iload_n dq_179_320 rfl ?_
    refine wp_iconst (x := nI 2) dq_179_321 rfl ?_
    refine wp_iconst (x := nI 0) dq_179_322 rfl ?_
    refine wp_cve4 dq_179_323 mt_179_262 (ob_of (mw_0 hb)) ⟨by decide +kernel, by decide +kernel⟩ (Nat.le_of_ble_eq_true rfl) (Nat.le_of_ble_eq_true rfl) (c_etN (d := d + 1) hW0 (by decide) l4 hk) ?_
    refine wp_cve1 dq_179_326 mt_179_259 (ob_of (mw_0 hb)) ⟨by decide +kernel, by decide +kernel⟩ (Nat.le_of_ble_eq_true rfl) (Nat.le_of_ble_eq_true rfl) (hcl) ?_
    exact wp_ire dq_179_329 rfl ⟨rfl, Or.inl rfl⟩ ⟨rfl, rfl⟩
  · obtain ⟨l6, l7, l8⟩ := l5 j hj
    rw [show ez 6 = 2 from rfl] at l7
    have hvl : (bu_U B (M.ct 437 + 2 + 2 * j + 0) 2) < 65536 := QF_U2 hQ (by omega)
    have hv7 : (bu_U B (M.ct 437 + 2 + 2 * j + 0) 2) = 0 ∨ tg B T (bu_U B (M.ct 437 + 2 + 2 * j + 0) 2) = 7 := Or.inr l8.1
    refine ⟨cT B T (bu_U B (M.ct 437 + 2 + 2 * j + 0) 2), hcl9 _, cT_v hX hv7, by rw [f_textOf, if_neg (by decide), if_neg (by decide), if_neg (by decide), if_neg (by decide), if_neg (by decide), if_neg (by decide), if_neg (by decide), if_neg (by decide), if_neg (by decide), if_neg (by decide), if_neg (by decide), if_neg (by decide), if_neg (by decide), f_classListTextOf, if_neg (by decide), if_neg (by decide), if_neg (by decide), if_neg (by decide), if_pos (show nI 17 = 17 from rfl), show f_elementItem s a 3 0 6 (nI j) 0 = nI (bu_U B (M.ct 437 + 2 + 2 * j + 0) 2) from q_eiY (kd := 3) (k := 0) (w := 6) (y := 0) hQ (by decide) l1 l2 hj (by omega) (by rw [show ez 6 = 2 from rfl]; omega)]; exact q_clT hX hvl, ?_⟩
    show wp_W L xs _ 179 0 [(0, .ref 13), (1, .int (nI 17)), (2, .int (nI j))] [] h _
    refine wp_iload_n dq_179_0 rfl ?_
    refine wp_iconst (x := nI 3) dq_179_1 rfl ?_
    refine wp_ic_ltN (tgt := 11) dq_179_2 rfl (by decide) (by decide) (fun c9 => absurd c9 (by decide)) (fun _ => ?_)
    refine wp_iload_n dq_179_5 rfl ?_
    refine wp_bipush (x := nI 8) dq_179_6 rfl ?_
    refine wp_ic_leN (tgt := 23) dq_179_8 rfl (by decide) (by decide) (fun c9 => absurd c9 (by decide)) (fun _ => ?_)
    refine wp_iload_n dq_179_11 rfl ?_
    refine wp_bipush (x := nI 10) dq_179_12 rfl ?_
    refine wp_ic_ltN (tgt := 128) dq_179_14 rfl (by decide) (by decide) (fun c9 => absurd c9 (by decide)) (fun _ => ?_)
    refine wp_iload_n dq_179_17 rfl ?_
    refine wp_bipush (x := nI 12) dq_179_18 rfl ?_
    refine wp_ic_gtN (tgt := 128) dq_179_20 rfl (by decide) (by decide) (fun _ => ?_) (fun c9 => absurd c9 (by decide))
    refine wp_iload_n dq_179_128 rfl ?_
    refine wp_tab (off := 187) (tgt := 316) dq_179_129 (by decide) rfl ?_
    refine wp_aload_n dq_179_316 rfl ?_
    refine wp_aload_n dq_179_317 rfl ?_
    refine wp_bipush (x := nI 9) dq_179_318 rfl ?_
    refine wp_iload_n dq_179_320 rfl ?_
    refine wp_iconst (x := nI 2) dq_179_321 rfl ?_
    refine wp_iconst (x := nI 0) dq_179_322 rfl ?_
    refine wp_cve4 dq_179_323 mt_179_262 (ob_of (mw_0 hb)) ⟨by decide +kernel, by decide +kernel⟩ (Nat.le_of_ble_eq_true rfl) (Nat.le_of_ble_eq_true rfl) (c_etY (d := d + 1) hW (by decide) l4 l6 hj (by omega) hn9 (by omega)) ?_
    refine wp_cve1 dq_179_326 mt_179_259 (ob_of (mw_0 hb)) ⟨by decide +kernel, by decide +kernel⟩ (Nat.le_of_ble_eq_true rfl) (Nat.le_of_ble_eq_true rfl) (c_clt (d := d) hW hP hv7 hvl) ?_
    exact wp_ire dq_179_329 rfl ⟨rfl, Or.inl rfl⟩ ⟨rfl, rfl⟩
set_option maxRecDepth 100000 in
theorem c_tx18 {L : Nat} {xs : Nat → Int32} {d n F : Nat} {B T : Nat → Nat} {N : Nat → Int32} {h : List qx_E} {M : rM} {s : Nat → Int32} {a : Nat → Nat → Int32} {k : Int32} (hW : QW h B n N) (hX : FX B n T F M N s a) : ∃ i, i < 65536 ∧ (i = 0 ∨ tg B T i = 1) ∧ f_textOf s a (nI 18) k = nI i ∧ qe_E L xs (d + 4) 179 [.ref 13, .int (nI 18), .int k] h (some (.int (nI i))) h := by
  have hW0 := QW_0 hW
  obtain ⟨s0, fa, fb, fd, hb, -⟩ := id hW0
  obtain ⟨⟨hQ, hM, hV, h0F, hFn⟩, ⟨hP, hLK, ⟨z0, z1, z2, z3, z4, z5, z6⟩, ⟨y1, y2, y3, y4⟩, hK0, hK1, ⟨o1, o2, o3, o4, o5⟩, ⟨r1, r2, r3, r4⟩⟩, ⟨hVA, hL8, hn10, v1, v2, v3, v4⟩, hnp⟩ := id hX
  have hn9 := hP.1
  have hcl9 := cTx_lt hX
  obtain ⟨l1, l2, l3, l4, l5⟩ := FX_l hX (w := 7) (by decide)
  simp only [Nat.reduceAdd, Nat.reduceMul, Nat.reduceSub] at l1 l2 l3 l4 l5
  rcases (show (k < 0 ∨ nI (ctv B M 438) ≤ k) ∨ ∃ j, j < ctv B M 438 ∧ k = nI j from (pk_ix k (n := ctv B M 438) (by omega)).elim (fun r => Or.inl (Or.inl r)) (fun r => r.elim (fun r => Or.inl (Or.inr r)) Or.inr)) with hk | ⟨j, hj, rfl⟩
  · have hcl := c_clt (L := L) (xs := xs) (d := d) hW hP (i := 0) (Or.inl rfl) (by decide)
    rw [cT_0 hX] at hcl
    refine ⟨0, by decide, Or.inl rfl, by rw [f_textOf, if_neg (by decide), if_neg (by decide), if_neg (by decide), if_neg (by decide), if_neg (by decide), if_neg (by decide), if_neg (by decide), if_neg (by decide), if_neg (by decide), if_neg (by decide), if_neg (by decide), if_neg (by decide), if_neg (by decide), f_classListTextOf, if_neg (by decide), if_neg (by decide), if_neg (by decide), if_neg (by decide), if_neg (by decide), if_pos (show nI 18 = 18 from rfl), show f_elementItem s a 3 0 7 k 0 = 0 from q_eiN (kd := 3) l1 hk]; exact q_cl0 hX, ?_⟩
    show wp_W L xs _ 179 0 [(0, .ref 13), (1, .int (nI 18)), (2, .int k)] [] h _
    refine wp_iload_n dq_179_0 rfl ?_
    refine wp_iconst (x := nI 3) dq_179_1 rfl ?_
    refine wp_ic_ltN (tgt := 11) dq_179_2 rfl (by decide) (by decide) (fun c9 => absurd c9 (by decide)) (fun _ => ?_)
    refine wp_iload_n dq_179_5 rfl ?_
    refine wp_bipush (x := nI 8) dq_179_6 rfl ?_
    refine wp_ic_leN (tgt := 23) dq_179_8 rfl (by decide) (by decide) (fun c9 => absurd c9 (by decide)) (fun _ => ?_)
    refine wp_iload_n dq_179_11 rfl ?_
    refine wp_bipush (x := nI 10) dq_179_12 rfl ?_
    refine wp_ic_ltN (tgt := 128) dq_179_14 rfl (by decide) (by decide) (fun c9 => absurd c9 (by decide)) (fun _ => ?_)
    refine wp_iload_n dq_179_17 rfl ?_
    refine wp_bipush (x := nI 12) dq_179_18 rfl ?_
    refine wp_ic_gtN (tgt := 128) dq_179_20 rfl (by decide) (by decide) (fun _ => ?_) (fun c9 => absurd c9 (by decide))
    refine wp_iload_n dq_179_128 rfl ?_
    refine wp_tab (off := 201) (tgt := 330) dq_179_129 (by decide) rfl ?_
    refine wp_aload_n dq_179_330 rfl ?_
    refine wp_aload_n dq_179_331 rfl ?_
    refine wp_bipush (x := nI 11) dq_179_332 rfl ?_
    refine wp_iload_n dq_179_334 rfl ?_
    refine wp_iconst (x := nI 2) dq_179_335 rfl ?_
    refine wp_iconst (x := nI 0) dq_179_336 rfl ?_
    refine wp_cve4 dq_179_337 mt_179_262 (ob_of (mw_0 hb)) ⟨by decide +kernel, by decide +kernel⟩ (Nat.le_of_ble_eq_true rfl) (Nat.le_of_ble_eq_true rfl) (c_etN (d := d + 1) hW0 (by decide) l4 hk) ?_
    refine wp_cve1 dq_179_340 mt_179_259 (ob_of (mw_0 hb)) ⟨by decide +kernel, by decide +kernel⟩ (Nat.le_of_ble_eq_true rfl) (Nat.le_of_ble_eq_true rfl) (hcl) ?_
    exact wp_ire dq_179_343 rfl ⟨rfl, Or.inl rfl⟩ ⟨rfl, rfl⟩
  · obtain ⟨l6, l7, l8⟩ := l5 j hj
    rw [show ez 7 = 2 from rfl] at l7
    have hvl : (bu_U B (M.ct 438 + 2 + 2 * j + 0) 2) < 65536 := QF_U2 hQ (by omega)
    have hv7 : (bu_U B (M.ct 438 + 2 + 2 * j + 0) 2) = 0 ∨ tg B T (bu_U B (M.ct 438 + 2 + 2 * j + 0) 2) = 7 := Or.inr l8.1
    refine ⟨cT B T (bu_U B (M.ct 438 + 2 + 2 * j + 0) 2), hcl9 _, cT_v hX hv7, by rw [f_textOf, if_neg (by decide), if_neg (by decide), if_neg (by decide), if_neg (by decide), if_neg (by decide), if_neg (by decide), if_neg (by decide), if_neg (by decide), if_neg (by decide), if_neg (by decide), if_neg (by decide), if_neg (by decide), if_neg (by decide), f_classListTextOf, if_neg (by decide), if_neg (by decide), if_neg (by decide), if_neg (by decide), if_neg (by decide), if_pos (show nI 18 = 18 from rfl), show f_elementItem s a 3 0 7 (nI j) 0 = nI (bu_U B (M.ct 438 + 2 + 2 * j + 0) 2) from q_eiY (kd := 3) (k := 0) (w := 7) (y := 0) hQ (by decide) l1 l2 hj (by omega) (by rw [show ez 7 = 2 from rfl]; omega)]; exact q_clT hX hvl, ?_⟩
    show wp_W L xs _ 179 0 [(0, .ref 13), (1, .int (nI 18)), (2, .int (nI j))] [] h _
    refine wp_iload_n dq_179_0 rfl ?_
    refine wp_iconst (x := nI 3) dq_179_1 rfl ?_
    refine wp_ic_ltN (tgt := 11) dq_179_2 rfl (by decide) (by decide) (fun c9 => absurd c9 (by decide)) (fun _ => ?_)
    refine wp_iload_n dq_179_5 rfl ?_
    refine wp_bipush (x := nI 8) dq_179_6 rfl ?_
    refine wp_ic_leN (tgt := 23) dq_179_8 rfl (by decide) (by decide) (fun c9 => absurd c9 (by decide)) (fun _ => ?_)
    refine wp_iload_n dq_179_11 rfl ?_
    refine wp_bipush (x := nI 10) dq_179_12 rfl ?_
    refine wp_ic_ltN (tgt := 128) dq_179_14 rfl (by decide) (by decide) (fun c9 => absurd c9 (by decide)) (fun _ => ?_)
    refine wp_iload_n dq_179_17 rfl ?_
    refine wp_bipush (x := nI 12) dq_179_18 rfl ?_
    refine wp_ic_gtN (tgt := 128) dq_179_20 rfl (by decide) (by decide) (fun _ => ?_) (fun c9 => absurd c9 (by decide))
    refine wp_iload_n dq_179_128 rfl ?_
    refine wp_tab (off := 201) (tgt := 330) dq_179_129 (by decide) rfl ?_
    refine wp_aload_n dq_179_330 rfl ?_
    refine wp_aload_n dq_179_331 rfl ?_
    refine wp_bipush (x := nI 11) dq_179_332 rfl ?_
    refine wp_iload_n dq_179_334 rfl ?_
    refine wp_iconst (x := nI 2) dq_179_335 rfl ?_
    refine wp_iconst (x := nI 0) dq_179_336 rfl ?_
    refine wp_cve4 dq_179_337 mt_179_262 (ob_of (mw_0 hb)) ⟨by decide +kernel, by decide +kernel⟩ (Nat.le_of_ble_eq_true rfl) (Nat.le_of_ble_eq_true rfl) (c_etY (d := d + 1) hW (by decide) l4 l6 hj (by omega) hn9 (by omega)) ?_
    refine wp_cve1 dq_179_340 mt_179_259 (ob_of (mw_0 hb)) ⟨by decide +kernel, by decide +kernel⟩ (Nat.le_of_ble_eq_true rfl) (Nat.le_of_ble_eq_true rfl) (c_clt (d := d) hW hP hv7 hvl) ?_
    exact wp_ire dq_179_343 rfl ⟨rfl, Or.inl rfl⟩ ⟨rfl, rfl⟩
