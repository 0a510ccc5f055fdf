section FXS
variable {B : Nat → Nat} {n : Nat} {T : Nat → Nat} {F : Nat} {M : rM} {N : Nat → Int32} {s : Nat → Int32} {a : Nat → Nat → Int32}
theorem FX_c (hX : FX B n T F M N s a) {kd : Nat} (hkd : kd < 3) : N (13 + kd) = nI (M.c kd) ∧ M.c kd ≤ 16 := by
  obtain ⟨⟨hQ, hM, hV, h0F, hFn⟩, ⟨hP, hLK, -, ⟨y1, y2, y3, y4⟩, hK0, hK1, -, ⟨r1, r2, r3, r4⟩⟩, -, hnp⟩ := hX
  rcases (show kd = 0 ∨ kd = 1 ∨ kd = 2 by omega) with rfl | rfl | rfl
  · exact ⟨y1, y3⟩
  · exact ⟨y2, y4⟩
  · exact ⟨r2, r4⟩
theorem FX_k (hX : FX B n T F M N s a) {kd j : Nat} (hkd : kd < 3) (hj : j < M.c kd) : NK B T N M kd j (100 + 130 * kd + 8 * j) := by
  obtain ⟨⟨hQ, hM, hV, h0F, hFn⟩, ⟨hP, hLK, -, ⟨y1, y2, y3, y4⟩, hK0, hK1, -, ⟨r1, r2, r3, r4⟩⟩, -, hnp⟩ := hX
  rcases (show kd = 0 ∨ kd = 1 ∨ kd = 2 by omega) with rfl | rfl | rfl
  · exact hK0 j hj
  · exact hK1 j hj
  · exact r3 j hj
/-- an item that begins an attribute of a member -/
theorem FX_ci (hX : FX B n T F M N s a) {kd j w : Nat} (hkd : kd < 3) (hj : j < M.c kd) (hw : w = 1 ∨ w = 3 ∨ w = 4) : f_contentItem s a (nI kd) (nI j) w = nI (ctv B M (9 * (16 * kd + j) + (w - 1))) := by
  obtain ⟨⟨hQ, hM, hV, h0F, hFn⟩, -, ⟨hVA, -⟩, -⟩ := hX
  refine q_ci hQ hM hV (by omega) hj (by rcases hw with rfl | rfl | rfl <;> decide) (fun r => (VA_2 hVA (by omega) r).2)
theorem ctv_lt (hX : FX B n T F M N s a) (q : Nat) (hq : M.ct q ≠ 0 → M.ct q + 2 ≤ n) : ctv B M q < 65536 := by
  obtain ⟨⟨hQ, -⟩, -⟩ := hX
  unfold ctv
  split
  · decide
  · rename_i r
    exact QF_U2 hQ (hq r)
end FXS
theorem so_i {x y : Int32} (h : x = y) : some (Value.int x) = some (.int y) := by rw [h]
set_option maxRecDepth 100000 in
theorem R_excs {L : Nat} {xs : Nat → Int32} {d n F : Nat} {B T : Nat → Nat} {N : Nat → Int32} {h : List qx_E} {M : rM} {s : Nat → Int32} {a : Nat → Nat → Int32} {k : Int32} (hW0 : QW0 h N) (hX : FX B n T F M N s a) : qe_E L xs (d + 1) 183 [.ref 13, .int k] h (some (.int (f_p_exceptions s a k))) h := by
  obtain ⟨s0, fa, fb, fd, hb, -⟩ := id hW0
  obtain ⟨⟨hQ, hM, hV, h0F, hFn⟩, ⟨hP, hLK, -, -, -, -, ⟨o1, o2, o3, o4, o5⟩, -⟩, ⟨hVA, hL8, hn10, v1, v2, v3, v4⟩, hnp⟩ := id hX
  have hn9 := hP.1
  have hc16 := (FX_c hX (kd := 1) (by decide)).2
  rcases (show (k < 0 ∨ nI (M.c 1) ≤ k) ∨ ∃ j, j < M.c 1 ∧ k = nI j from (pk_ix k (n := M.c 1) (by omega)).elim (fun r => Or.inl (Or.inl r)) (fun r => r.elim (fun r => Or.inl (Or.inr r)) Or.inr)) with hk | ⟨j, hj, rfl⟩
  · show wp_W L xs _ 183 0 [(0, .ref 13), (1, .int k)] [] h _
    refine wp_aload_n dq_183_0 rfl ?_
    refine wp_iconst (x := nI 1) dq_183_1 rfl ?_
    refine wp_iload_n dq_183_2 rfl ?_
    refine wp_cve2 dq_183_3 mt_183_256 (ob_of (mw_0 hb)) ⟨by decide +kernel, by decide +kernel⟩ (Nat.le_of_ble_eq_true rfl) (Nat.le_of_ble_eq_true rfl) (c_m2N (d := d) hW0 (kd := 1) (by decide) (FX_c hX (kd := 1) (by decide)).1 hk) ?_
    refine wp_istore_n (lv' := [(0, .ref 13), (1, .int k), (2, .int (-1))]) dq_183_6 (by decide) rfl ?_
    refine wp_iload_n dq_183_7 rfl ?_
    refine wp_if_ge (tgt := 15) dq_183_8 rfl (fun c1 => ?_) (fun c1 => ?_)
    · exact absurd c1 (by decide)
    · refine wp_iconst (x := -1) dq_183_11 rfl ?_
      refine wp_goto (tgt := 24) dq_183_12 rfl ?_
      exact wp_ire dq_183_24 rfl ⟨rfl, Or.inl rfl⟩ ⟨so_i (by rw [f_p_exceptions, if_pos (show f_has s a 1 k = 0 from q_has0 (kd := 1) hM hV (by decide) hk)]), rfl⟩
  · show wp_W L xs _ 183 0 [(0, .ref 13), (1, .int (nI j))] [] h _
    refine wp_aload_n dq_183_0 rfl ?_
    refine wp_iconst (x := nI 1) dq_183_1 rfl ?_
    refine wp_iload_n dq_183_2 rfl ?_
    refine wp_cve2 dq_183_3 mt_183_256 (ob_of (mw_0 hb)) ⟨by decide +kernel, by decide +kernel⟩ (Nat.le_of_ble_eq_true rfl) (Nat.le_of_ble_eq_true rfl) (c_m2Y (d := d) hW0 (by decide) (FX_c hX (kd := 1) (by decide)).1 hj (FX_c hX (kd := 1) (by decide)).2) ?_
    refine wp_istore_n (lv' := [(0, .ref 13), (1, .int (nI j)), (2, .int (nI (100 + 130 * 1 + 8 * j)))]) dq_183_6 (by decide) rfl ?_
    refine wp_iload_n dq_183_7 rfl ?_
    refine wp_if_geN (tgt := 15) dq_183_8 rfl (by omega) (fun c1 => ?_) (fun c1 => ?_)
    · refine wp_aload_n dq_183_15 rfl ?_
      refine wp_getf (w := .ref 16) dq_183_16 fl_183_16 (mw_0 hb) rfl ?_
      refine wp_iload_n dq_183_19 rfl ?_
      refine wp_bipush (x := nI 6) dq_183_20 rfl ?_
      refine wp_iaddN dq_183_22 ?_
      refine wp_ialdV (z := (N ((100 + 130 * 1 + 8 * j) + 6))) dq_183_23 (mw_3 hb) (by omega) (by decide) (rfl) ?_
      exact wp_ire dq_183_24 rfl ⟨rfl, Or.inl rfl⟩ ⟨so_i (by rw [f_p_exceptions, f_elementsOf, if_neg (by rw [show f_has s a 1 (nI j) = 1 from q_has1 (kd := 1) hM hV (by decide) hj]; decide)]; exact ((FX_ci hX (kd := 1) (w := 4) (by decide) hj (by decide)).trans ((FX_k hX (kd := 1) (by decide) hj).2.2.2.1.2.2.2 rfl).1.symm).symm), rfl⟩
    · exact absurd c1 (by omega)
theorem x_012 (x : Int32) : x = nI 0 ∨ x = nI 1 ∨ x = nI 2 ∨ ((x < 0 ∨ 2 < x) ∧ ∀ j, j < 3 → ¬ x = nI j) := by
  rcases pk_ix x (n := 3) (by decide) with r | r | ⟨j, hj, rfl⟩
  · exact Or.inr (Or.inr (Or.inr ⟨Or.inl r, fun j hj e => by subst e; exact absurd r (nI_pos (by omega))⟩))
  · exact Or.inr (Or.inr (Or.inr ⟨Or.inr (Int32.lt_of_lt_of_le (show (2 : Int32) < nI 3 by decide) r), fun j hj e => by subst e; exact absurd r (nI_ge hj (by decide))⟩))
  · rcases (show j = 0 ∨ j = 1 ∨ j = 2 by omega) with rfl | rfl | rfl
    · exact Or.inl rfl
    · exact Or.inr (Or.inl rfl)
    · exact Or.inr (Or.inr (Or.inl rfl))
set_option maxRecDepth 100000 in
theorem R_dep {L : Nat} {xs : Nat → Int32} {d n F : Nat} {B T : Nat → Nat} {N : Nat → Int32} {h : List qx_E} {M : rM} {s : Nat → Int32} {a : Nat → Nat → Int32} {x k : Int32} (hW0 : QW0 h N) (hX : FX B n T F M N s a) : qe_E L xs (d + 1) 187 [.ref 13, .int x, .int k] h (some (.int (f_p_deprecated s a x k))) h := by
  obtain ⟨s0, fa, fb, fd, hb, -⟩ := id hW0
  obtain ⟨⟨hQ, hM, hV, h0F, hFn⟩, ⟨hP, hLK, -, -, -, -, ⟨o1, o2, o3, o4, o5⟩, -⟩, ⟨hVA, hL8, hn10, v1, v2, v3, v4⟩, hnp⟩ := id hX
  have hn9 := hP.1
  rcases x_012 x with rfl | rfl | rfl | ⟨hx, hne⟩
  · have hc16 := (FX_c hX (kd := 0) (by decide)).2
    rcases (show (k < 0 ∨ nI (M.c 0) ≤ k) ∨ ∃ j, j < M.c 0 ∧ k = nI j from (pk_ix k (n := M.c 0) (by omega)).elim (fun r => Or.inl (Or.inl r)) (fun r => r.elim (fun r => Or.inl (Or.inr r)) Or.inr)) with hk | ⟨j, hj, rfl⟩
    · show wp_W L xs _ 187 0 [(0, .ref 13), (1, .int (nI 0)), (2, .int k)] [] h _
      refine wp_aload_n dq_187_0 rfl ?_
      refine wp_iload_n dq_187_1 rfl ?_
      refine wp_iload_n dq_187_2 rfl ?_
      refine wp_cve2 dq_187_3 mt_187_256 (ob_of (mw_0 hb)) ⟨by decide +kernel, by decide +kernel⟩ (Nat.le_of_ble_eq_true rfl) (Nat.le_of_ble_eq_true rfl) (c_m2N (d := d) hW0 (kd := 0) (by decide) (FX_c hX (kd := 0) (by decide)).1 hk) ?_
      refine wp_istore_n (lv' := [(0, .ref 13), (1, .int (nI 0)), (2, .int k), (3, .int (-1))]) dq_187_6 (by decide) rfl ?_
      refine wp_iload_n dq_187_7 rfl ?_
      refine wp_if_ge (tgt := 15) dq_187_8 rfl (fun c1 => ?_) (fun c1 => ?_)
      · exact absurd c1 (by decide)
      · refine wp_iconst (x := -1) dq_187_11 rfl ?_
        refine wp_goto (tgt := 23) dq_187_12 rfl ?_
        exact wp_ire dq_187_23 rfl ⟨rfl, Or.inl rfl⟩ ⟨so_i (by rw [f_p_deprecated, if_pos (show nI 0 = 0 from rfl), if_pos (q_has0 (kd := 0) hM hV (by decide) hk)]), rfl⟩
    · show wp_W L xs _ 187 0 [(0, .ref 13), (1, .int (nI 0)), (2, .int (nI j))] [] h _
      refine wp_aload_n dq_187_0 rfl ?_
      refine wp_iload_n dq_187_1 rfl ?_
      refine wp_iload_n dq_187_2 rfl ?_
      refine wp_cve2 dq_187_3 mt_187_256 (ob_of (mw_0 hb)) ⟨by decide +kernel, by decide +kernel⟩ (Nat.le_of_ble_eq_true rfl) (Nat.le_of_ble_eq_true rfl) (c_m2Y (d := d) hW0 (by decide) (FX_c hX (kd := 0) (by decide)).1 hj (FX_c hX (kd := 0) (by decide)).2) ?_
      refine wp_istore_n (lv' := [(0, .ref 13), (1, .int (nI 0)), (2, .int (nI j)), (3, .int (nI (100 + 130 * 0 + 8 * j)))]) dq_187_6 (by decide) rfl ?_
      refine wp_iload_n dq_187_7 rfl ?_
      refine wp_if_geN (tgt := 15) dq_187_8 rfl (by omega) (fun c1 => ?_) (fun c1 => ?_)
      · refine wp_aload_n dq_187_15 rfl ?_
        refine wp_getf (w := .ref 16) dq_187_16 fl_187_16 (mw_0 hb) rfl ?_
        refine wp_iload_n dq_187_19 rfl ?_
        refine wp_iconst (x := nI 4) dq_187_20 rfl ?_
        refine wp_iaddN dq_187_21 ?_
        refine wp_ialdV (z := (N ((100 + 130 * 0 + 8 * j) + 4))) dq_187_22 (mw_3 hb) (by omega) (by decide) (rfl) ?_
        exact wp_ire dq_187_23 rfl ⟨rfl, Or.inl rfl⟩ ⟨so_i (by rw [f_p_deprecated, if_pos (show nI 0 = 0 from rfl), if_neg (by rw [q_has1 (kd := 0) hM hV (by decide) hj]; decide), q_content (kd := 0) (w := 2) hM hV (by decide) hj (by decide)]; exact ((FX_k hX (kd := 0) (by decide) hj).2.2.2.1.2.1).trans (ct01 (Nat.lt_of_le_of_lt (hV.2.2.2 _) (by omega)))), rfl⟩
      · exact absurd c1 (by omega)
  · have hc16 := (FX_c hX (kd := 1) (by decide)).2
    rcases (show (k < 0 ∨ nI (M.c 1) ≤ k) ∨ ∃ j, j < M.c 1 ∧ k = nI j from (pk_ix k (n := M.c 1) (by omega)).elim (fun r => Or.inl (Or.inl r)) (fun r => r.elim (fun r => Or.inl (Or.inr r)) Or.inr)) with hk | ⟨j, hj, rfl⟩
    · show wp_W L xs _ 187 0 [(0, .ref 13), (1, .int (nI 1)), (2, .int k)] [] h _
      refine wp_aload_n dq_187_0 rfl ?_
      refine wp_iload_n dq_187_1 rfl ?_
      refine wp_iload_n dq_187_2 rfl ?_
      refine wp_cve2 dq_187_3 mt_187_256 (ob_of (mw_0 hb)) ⟨by decide +kernel, by decide +kernel⟩ (Nat.le_of_ble_eq_true rfl) (Nat.le_of_ble_eq_true rfl) (c_m2N (d := d) hW0 (kd := 1) (by decide) (FX_c hX (kd := 1) (by decide)).1 hk) ?_
      refine wp_istore_n (lv' := [(0, .ref 13), (1, .int (nI 1)), (2, .int k), (3, .int (-1))]) dq_187_6 (by decide) rfl ?_
      refine wp_iload_n dq_187_7 rfl ?_
      refine wp_if_ge (tgt := 15) dq_187_8 rfl (fun c1 => ?_) (fun c1 => ?_)
      · exact absurd c1 (by decide)
      · refine wp_iconst (x := -1) dq_187_11 rfl ?_
        refine wp_goto (tgt := 23) dq_187_12 rfl ?_
        exact wp_ire dq_187_23 rfl ⟨rfl, Or.inl rfl⟩ ⟨so_i (by rw [f_p_deprecated, if_neg (by decide), if_pos (show nI 1 = 1 from rfl), if_pos (q_has0 (kd := 1) hM hV (by decide) hk)]), rfl⟩
    · show wp_W L xs _ 187 0 [(0, .ref 13), (1, .int (nI 1)), (2, .int (nI j))] [] h _
      refine wp_aload_n dq_187_0 rfl ?_
      refine wp_iload_n dq_187_1 rfl ?_
      refine wp_iload_n dq_187_2 rfl ?_
      refine wp_cve2 dq_187_3 mt_187_256 (ob_of (mw_0 hb)) ⟨by decide +kernel, by decide +kernel⟩ (Nat.le_of_ble_eq_true rfl) (Nat.le_of_ble_eq_true rfl) (c_m2Y (d := d) hW0 (by decide) (FX_c hX (kd := 1) (by decide)).1 hj (FX_c hX (kd := 1) (by decide)).2) ?_
      refine wp_istore_n (lv' := [(0, .ref 13), (1, .int (nI 1)), (2, .int (nI j)), (3, .int (nI (100 + 130 * 1 + 8 * j)))]) dq_187_6 (by decide) rfl ?_
      refine wp_iload_n dq_187_7 rfl ?_
      refine wp_if_geN (tgt := 15) dq_187_8 rfl (by omega) (fun c1 => ?_) (fun c1 => ?_)
      · refine wp_aload_n dq_187_15 rfl ?_
        refine wp_getf (w := .ref 16) dq_187_16 fl_187_16 (mw_0 hb) rfl ?_
        refine wp_iload_n dq_187_19 rfl ?_
        refine wp_iconst (x := nI 4) dq_187_20 rfl ?_
        refine wp_iaddN dq_187_21 ?_
        refine wp_ialdV (z := (N ((100 + 130 * 1 + 8 * j) + 4))) dq_187_22 (mw_3 hb) (by omega) (by decide) (rfl) ?_
        exact wp_ire dq_187_23 rfl ⟨rfl, Or.inl rfl⟩ ⟨so_i (by rw [f_p_deprecated, if_neg (by decide), if_pos (show nI 1 = 1 from rfl), if_neg (by rw [q_has1 (kd := 1) hM hV (by decide) hj]; decide), q_content (kd := 1) (w := 2) hM hV (by decide) hj (by decide)]; exact ((FX_k hX (kd := 1) (by decide) hj).2.2.2.1.2.1).trans (ct01 (Nat.lt_of_le_of_lt (hV.2.2.2 _) (by omega)))), rfl⟩
      · exact absurd c1 (by omega)
  · have hc16 := (FX_c hX (kd := 2) (by decide)).2
    rcases (show (k < 0 ∨ nI (M.c 2) ≤ k) ∨ ∃ j, j < M.c 2 ∧ k = nI j from (pk_ix k (n := M.c 2) (by omega)).elim (fun r => Or.inl (Or.inl r)) (fun r => r.elim (fun r => Or.inl (Or.inr r)) Or.inr)) with hk | ⟨j, hj, rfl⟩
    · show wp_W L xs _ 187 0 [(0, .ref 13), (1, .int (nI 2)), (2, .int k)] [] h _
      refine wp_aload_n dq_187_0 rfl ?_
      refine wp_iload_n dq_187_1 rfl ?_
      refine wp_iload_n dq_187_2 rfl ?_
      refine wp_cve2 dq_187_3 mt_187_256 (ob_of (mw_0 hb)) ⟨by decide +kernel, by decide +kernel⟩ (Nat.le_of_ble_eq_true rfl) (Nat.le_of_ble_eq_true rfl) (c_m2N (d := d) hW0 (kd := 2) (by decide) (FX_c hX (kd := 2) (by decide)).1 hk) ?_
      refine wp_istore_n (lv' := [(0, .ref 13), (1, .int (nI 2)), (2, .int k), (3, .int (-1))]) dq_187_6 (by decide) rfl ?_
      refine wp_iload_n dq_187_7 rfl ?_
      refine wp_if_ge (tgt := 15) dq_187_8 rfl (fun c1 => ?_) (fun c1 => ?_)
      · exact absurd c1 (by decide)
      · refine wp_iconst (x := -1) dq_187_11 rfl ?_
        refine wp_goto (tgt := 23) dq_187_12 rfl ?_
        exact wp_ire dq_187_23 rfl ⟨rfl, Or.inl rfl⟩ ⟨so_i (by rw [f_p_deprecated, if_neg (by decide), if_neg (by decide), if_pos (show nI 2 = 2 from rfl), if_pos (q_has0 (kd := 2) hM hV (by decide) hk)]), rfl⟩
    · show wp_W L xs _ 187 0 [(0, .ref 13), (1, .int (nI 2)), (2, .int (nI j))] [] h _
      refine wp_aload_n dq_187_0 rfl ?_
      refine wp_iload_n dq_187_1 rfl ?_
      refine wp_iload_n dq_187_2 rfl ?_
      refine wp_cve2 dq_187_3 mt_187_256 (ob_of (mw_0 hb)) ⟨by decide +kernel, by decide +kernel⟩ (Nat.le_of_ble_eq_true rfl) (Nat.le_of_ble_eq_true rfl) (c_m2Y (d := d) hW0 (by decide) (FX_c hX (kd := 2) (by decide)).1 hj (FX_c hX (kd := 2) (by decide)).2) ?_
      refine wp_istore_n (lv' := [(0, .ref 13), (1, .int (nI 2)), (2, .int (nI j)), (3, .int (nI (100 + 130 * 2 + 8 * j)))]) dq_187_6 (by decide) rfl ?_
      refine wp_iload_n dq_187_7 rfl ?_
      refine wp_if_geN (tgt := 15) dq_187_8 rfl (by omega) (fun c1 => ?_) (fun c1 => ?_)
      · refine wp_aload_n dq_187_15 rfl ?_
        refine wp_getf (w := .ref 16) dq_187_16 fl_187_16 (mw_0 hb) rfl ?_
        refine wp_iload_n dq_187_19 rfl ?_
        refine wp_iconst (x := nI 4) dq_187_20 rfl ?_
        refine wp_iaddN dq_187_21 ?_
        refine wp_ialdV (z := (N ((100 + 130 * 2 + 8 * j) + 4))) dq_187_22 (mw_3 hb) (by omega) (by decide) (rfl) ?_
        exact wp_ire dq_187_23 rfl ⟨rfl, Or.inl rfl⟩ ⟨so_i (by rw [f_p_deprecated, if_neg (by decide), if_neg (by decide), if_pos (show nI 2 = 2 from rfl), if_neg (by rw [q_has1 (kd := 2) hM hV (by decide) hj]; decide), q_content (kd := 2) (w := 2) hM hV (by decide) hj (by decide)]; exact ((FX_k hX (kd := 2) (by decide) hj).2.2.2.1.2.1).trans (ct01 (Nat.lt_of_le_of_lt (hV.2.2.2 _) (by omega)))), rfl⟩
      · exact absurd c1 (by omega)
  show wp_W L xs _ 187 0 [(0, .ref 13), (1, .int x), (2, .int k)] [] h _
  refine wp_aload_n dq_187_0 rfl ?_
  refine wp_iload_n dq_187_1 rfl ?_
  refine wp_iload_n dq_187_2 rfl ?_
  refine wp_cve2 dq_187_3 mt_187_256 (ob_of (mw_0 hb)) ⟨by decide +kernel, by decide +kernel⟩ (Nat.le_of_ble_eq_true rfl) (Nat.le_of_ble_eq_true rfl) (c_m2X (d := d) hW0 hx) ?_
  refine wp_istore_n (lv' := [(0, .ref 13), (1, .int x), (2, .int k), (3, .int (-1))]) dq_187_6 (by decide) rfl ?_
  refine wp_iload_n dq_187_7 rfl ?_
  refine wp_if_ge (tgt := 15) dq_187_8 rfl (fun c1 => ?_) (fun c1 => ?_)
  · exact absurd c1 (by decide)
  · refine wp_iconst (x := -1) dq_187_11 rfl ?_
    refine wp_goto (tgt := 23) dq_187_12 rfl ?_
    exact wp_ire dq_187_23 rfl ⟨rfl, Or.inl rfl⟩ ⟨so_i (by rw [f_p_deprecated, if_neg (show ¬ x = 0 from hne 0 (by decide)), if_neg (show ¬ x = 1 from hne 1 (by decide)), if_neg (show ¬ x = 2 from hne 2 (by decide))]), rfl⟩
theorem q_oob {c : Nat} {k v : Int32} (hk : k < 0 ∨ nI c ≤ k) : (if k < 0 then (-1 : Int32) else if k < nI c then v else -1) = -1 := by
  by_cases r : k < 0
  · rw [if_pos r]
  · rw [if_neg r, if_neg (Int32.not_lt.mpr (hk.resolve_left r))]
theorem ctv_ne {B : Nat → Nat} {M : rM} {q j : Nat} (h : j < ctv B M q) : M.ct q ≠ 0 ∧ ctv B M q = bu_U B (M.ct q) 2 := by
  unfold ctv at h ⊢
  by_cases r : M.ct q = 0
  · rw [if_pos r] at h
    omega
  · exact ⟨r, if_neg r⟩
set_option maxRecDepth 100000 in
theorem R_flg {L : Nat} {xs : Nat → Int32} {d n F : Nat} {B T : Nat → Nat} {N : Nat → Int32} {h : List qx_E} {M : rM} {s : Nat → Int32} {a : Nat → Nat → Int32} {x k : Int32} (hW : QW h B n N) (hX : FX B n T F M N s a) : wp_W L xs (d + 2) 175 5 [(0, .ref 13), (1, .int x), (2, .int k)] [] h (fun v2 h2 => v2 = some (.int (f_p_flags s a x k)) ∧ h2 = h) := by
  have hW0 := QW_0 hW
  obtain ⟨s0, fa, fb, fd, hb, h1⟩ := id hW0
  have hc := mw_0 hb
  rw [h1] at hc
  obtain ⟨⟨hQ, hM, hV, h0F, hFn⟩, ⟨hP, hLK, -, -, -, -, ⟨o1, o2, o3, o4, o5⟩, -⟩, ⟨hVA, hL8, hn10, v1, v2, v3, v4⟩, hnp⟩ := id hX
  have hn9 := hP.1
  rcases x_012 x with rfl | rfl | rfl | ⟨hx, hne⟩
  · have hc16 := (FX_c hX (kd := 0) (by decide)).2
    rcases (show (k < 0 ∨ nI (M.c 0) ≤ k) ∨ ∃ j, j < M.c 0 ∧ k = nI j from (pk_ix k (n := M.c 0) (by omega)).elim (fun r => Or.inl (Or.inl r)) (fun r => r.elim (fun r => Or.inl (Or.inr r)) Or.inr)) with hk | ⟨j, hj, rfl⟩
    · show wp_W L xs _ 175 5 [(0, .ref 13), (1, .int (nI 0)), (2, .int k)] [] h _
      refine wp_iload_n dq_175_5 rfl ?_
      refine wp_iconst (x := nI 2) dq_175_6 rfl ?_
      refine wp_ic_neN (tgt := 48) dq_175_7 rfl (by decide) (by decide) (fun _ => ?_) (fun c9 => absurd c9 (by decide))
      refine wp_aload_n dq_175_48 rfl ?_
      refine wp_iload_n dq_175_49 rfl ?_
      refine wp_iload_n dq_175_50 rfl ?_
      refine wp_cve2 dq_175_51 mt_175_256 (ob_of (mw_0 hb)) ⟨by decide +kernel, by decide +kernel⟩ (Nat.le_of_ble_eq_true rfl) (Nat.le_of_ble_eq_true rfl) (c_m2N (d := d + 1) hW0 (kd := 0) (by decide) (FX_c hX (kd := 0) (by decide)).1 hk) ?_
      refine wp_istore_n (lv' := [(0, .ref 13), (1, .int (nI 0)), (2, .int k), (3, .int (-1))]) dq_175_54 (by decide) rfl ?_
      refine wp_iload_n dq_175_55 rfl ?_
      refine wp_if_ge (tgt := 63) dq_175_56 rfl (fun c1 => ?_) (fun c1 => ?_)
      · exact absurd c1 (by decide)
      · refine wp_iconst (x := -1) dq_175_59 rfl ?_
        refine wp_goto (tgt := 69) dq_175_60 rfl ?_
        exact wp_ire dq_175_69 rfl ⟨rfl, Or.inl rfl⟩ ⟨so_i (by rw [f_p_flags, f_flagsOf, if_pos (show nI 0 = 0 from rfl), if_pos (q_has0 (kd := 0) hM hV (by decide) hk)]), rfl⟩
    · show wp_W L xs _ 175 5 [(0, .ref 13), (1, .int (nI 0)), (2, .int (nI j))] [] h _
      refine wp_iload_n dq_175_5 rfl ?_
      refine wp_iconst (x := nI 2) dq_175_6 rfl ?_
      refine wp_ic_neN (tgt := 48) dq_175_7 rfl (by decide) (by decide) (fun _ => ?_) (fun c9 => absurd c9 (by decide))
      refine wp_aload_n dq_175_48 rfl ?_
      refine wp_iload_n dq_175_49 rfl ?_
      refine wp_iload_n dq_175_50 rfl ?_
      refine wp_cve2 dq_175_51 mt_175_256 (ob_of (mw_0 hb)) ⟨by decide +kernel, by decide +kernel⟩ (Nat.le_of_ble_eq_true rfl) (Nat.le_of_ble_eq_true rfl) (c_m2Y (d := d + 1) hW0 (by decide) (FX_c hX (kd := 0) (by decide)).1 hj (FX_c hX (kd := 0) (by decide)).2) ?_
      refine wp_istore_n (lv' := [(0, .ref 13), (1, .int (nI 0)), (2, .int (nI j)), (3, .int (nI (100 + 130 * 0 + 8 * j)))]) dq_175_54 (by decide) rfl ?_
      refine wp_iload_n dq_175_55 rfl ?_
      refine wp_if_geN (tgt := 63) dq_175_56 rfl (by omega) (fun c1 => ?_) (fun c1 => ?_)
      · refine wp_aload_n dq_175_63 rfl ?_
        refine wp_getf (w := .ref 16) dq_175_64 fl_175_16 (mw_0 hb) rfl ?_
        refine wp_iload_n dq_175_67 rfl ?_
        refine wp_ialdV (z := (N (100 + 130 * 0 + 8 * j))) dq_175_68 (mw_3 hb) (by omega) (by decide) (rfl) ?_
        exact wp_ire dq_175_69 rfl ⟨rfl, Or.inl rfl⟩ ⟨so_i (by rw [f_p_flags, f_flagsOf, if_pos (show nI 0 = 0 from rfl), if_neg (by rw [q_has1 (kd := 0) hM hV (by decide) hj]; decide), show (16 : Int32) = nI 16 from rfl, pk_mul, nI_add, nI_clamp (by omega), hM.2.1 0 j (by decide) hj, show (2 : Int32) = nI 2 from rfl, pk_sub (hnp 0 j (by decide) hj), QF_u2 hQ (by have := hV.2.2.1 0 j (by decide) hj; omega)]; exact (FX_k hX (kd := 0) (by decide) hj).2.2.1 (by decide)), rfl⟩
      · exact absurd c1 (by omega)
  · have hc16 := (FX_c hX (kd := 1) (by decide)).2
    rcases (show (k < 0 ∨ nI (M.c 1) ≤ k) ∨ ∃ j, j < M.c 1 ∧ k = nI j from (pk_ix k (n := M.c 1) (by omega)).elim (fun r => Or.inl (Or.inl r)) (fun r => r.elim (fun r => Or.inl (Or.inr r)) Or.inr)) with hk | ⟨j, hj, rfl⟩
    · show wp_W L xs _ 175 5 [(0, .ref 13), (1, .int (nI 1)), (2, .int k)] [] h _
      refine wp_iload_n dq_175_5 rfl ?_
      refine wp_iconst (x := nI 2) dq_175_6 rfl ?_
      refine wp_ic_neN (tgt := 48) dq_175_7 rfl (by decide) (by decide) (fun _ => ?_) (fun c9 => absurd c9 (by decide))
      refine wp_aload_n dq_175_48 rfl ?_
      refine wp_iload_n dq_175_49 rfl ?_
      refine wp_iload_n dq_175_50 rfl ?_
      refine wp_cve2 dq_175_51 mt_175_256 (ob_of (mw_0 hb)) ⟨by decide +kernel, by decide +kernel⟩ (Nat.le_of_ble_eq_true rfl) (Nat.le_of_ble_eq_true rfl) (c_m2N (d := d + 1) hW0 (kd := 1) (by decide) (FX_c hX (kd := 1) (by decide)).1 hk) ?_
      refine wp_istore_n (lv' := [(0, .ref 13), (1, .int (nI 1)), (2, .int k), (3, .int (-1))]) dq_175_54 (by decide) rfl ?_
      refine wp_iload_n dq_175_55 rfl ?_
      refine wp_if_ge (tgt := 63) dq_175_56 rfl (fun c1 => ?_) (fun c1 => ?_)
      · exact absurd c1 (by decide)
      · refine wp_iconst (x := -1) dq_175_59 rfl ?_
        refine wp_goto (tgt := 69) dq_175_60 rfl ?_
        exact wp_ire dq_175_69 rfl ⟨rfl, Or.inl rfl⟩ ⟨so_i (by rw [f_p_flags, f_flagsOf, if_neg (by decide), if_pos (show nI 1 = 1 from rfl), if_pos (q_has0 (kd := 1) hM hV (by decide) hk)]), rfl⟩
    · show wp_W L xs _ 175 5 [(0, .ref 13), (1, .int (nI 1)), (2, .int (nI j))] [] h _
      refine wp_iload_n dq_175_5 rfl ?_
      refine wp_iconst (x := nI 2) dq_175_6 rfl ?_
      refine wp_ic_neN (tgt := 48) dq_175_7 rfl (by decide) (by decide) (fun _ => ?_) (fun c9 => absurd c9 (by decide))
      refine wp_aload_n dq_175_48 rfl ?_
      refine wp_iload_n dq_175_49 rfl ?_
      refine wp_iload_n dq_175_50 rfl ?_
      refine wp_cve2 dq_175_51 mt_175_256 (ob_of (mw_0 hb)) ⟨by decide +kernel, by decide +kernel⟩ (Nat.le_of_ble_eq_true rfl) (Nat.le_of_ble_eq_true rfl) (c_m2Y (d := d + 1) hW0 (by decide) (FX_c hX (kd := 1) (by decide)).1 hj (FX_c hX (kd := 1) (by decide)).2) ?_
      refine wp_istore_n (lv' := [(0, .ref 13), (1, .int (nI 1)), (2, .int (nI j)), (3, .int (nI (100 + 130 * 1 + 8 * j)))]) dq_175_54 (by decide) rfl ?_
      refine wp_iload_n dq_175_55 rfl ?_
      refine wp_if_geN (tgt := 63) dq_175_56 rfl (by omega) (fun c1 => ?_) (fun c1 => ?_)
      · refine wp_aload_n dq_175_63 rfl ?_
        refine wp_getf (w := .ref 16) dq_175_64 fl_175_16 (mw_0 hb) rfl ?_
        refine wp_iload_n dq_175_67 rfl ?_
        refine wp_ialdV (z := (N (100 + 130 * 1 + 8 * j))) dq_175_68 (mw_3 hb) (by omega) (by decide) (rfl) ?_
        exact wp_ire dq_175_69 rfl ⟨rfl, Or.inl rfl⟩ ⟨so_i (by rw [f_p_flags, f_flagsOf, if_neg (by decide), if_pos (show nI 1 = 1 from rfl), if_neg (by rw [q_has1 (kd := 1) hM hV (by decide) hj]; decide), show (16 : Int32) = nI 16 from rfl, pk_mul, nI_add, nI_clamp (by omega), hM.2.1 1 j (by decide) hj, show (2 : Int32) = nI 2 from rfl, pk_sub (hnp 1 j (by decide) hj), QF_u2 hQ (by have := hV.2.2.1 1 j (by decide) hj; omega)]; exact (FX_k hX (kd := 1) (by decide) hj).2.2.1 (by decide)), rfl⟩
      · exact absurd c1 (by omega)
  · skip
    have e5 : f_contentItem s a 3 0 5 = nI (ctv B M 436) := q_ci (kd := 3) (k := 0) (w := 5) hQ hM hV (by decide) (by rw [hV.2.1]; decide) (by decide) (fun r => (VA_2 (o := 48) (w := 5) hVA (by decide) r).2)
    have e6 : f_contentOf s a 3 0 5 = nI (M.ct 436) := q_content (kd := 3) (k := 0) (w := 5) hM hV (by decide) (by rw [hV.2.1]; decide) (by decide)
    have hcl := ctv_lt hX 436 (fun r => (VA_2 (o := 48) (w := 5) hVA (by decide) r).2)
    rcases (show (k < 0 ∨ nI (ctv B M 436) ≤ k) ∨ ∃ j, j < ctv B M 436 ∧ k = nI j from (pk_ix k (n := ctv B M 436) (by omega)).elim (fun r => Or.inl (Or.inl r)) (fun r => r.elim (fun r => Or.inl (Or.inr r)) Or.inr)) with hk | ⟨j, hj, rfl⟩
    · show wp_W L xs _ 175 5 [(0, .ref 13), (1, .int (nI 2)), (2, .int k)] [] h _
      refine wp_iload_n dq_175_5 rfl ?_
      refine wp_iconst (x := nI 2) dq_175_6 rfl ?_
      refine wp_ic_neN (tgt := 48) dq_175_7 rfl (by decide) (by decide) (fun c9 => absurd c9 (by decide)) (fun _ => ?_)
      refine wp_aload_n dq_175_10 rfl ?_
      refine wp_getf (w := .int (nI 1)) dq_175_11 fl_175_249 hc rfl ?_
      refine wp_if_eqN (tgt := 29) dq_175_14 rfl (by omega) (fun c9 => absurd c9 (by decide)) (fun _ => ?_)
      refine wp_aload_n dq_175_17 rfl ?_
      refine wp_bipush (x := nI 7) dq_175_18 rfl ?_
      refine wp_iload_n dq_175_20 rfl ?_
      refine wp_bipush (x := nI 8) dq_175_21 rfl ?_
      refine wp_cve3 dq_175_23 mt_175_252 (ob_of hc) ⟨by decide +kernel, by decide +kernel⟩ (Nat.le_of_ble_eq_true rfl) (Nat.le_of_ble_eq_true rfl) (c_elN (d := d + 1) (QW_0 hW) (by decide) (o3 5 (by decide) (by decide)).1 hk) ?_
      refine wp_goto (tgt := 30) dq_175_26 rfl ?_
      refine wp_istore_n (lv' := [(0, .ref 13), (1, .int (nI 2)), (2, .int k), (3, .int (-1))]) dq_175_30 (by decide) rfl ?_
      refine wp_iload_n dq_175_31 rfl ?_
      refine wp_if_ge (tgt := 39) dq_175_32 rfl (fun c1 => ?_) (fun c1 => ?_)
      · exact absurd c1 (by decide)
      · refine wp_iconst (x := -1) dq_175_35 rfl ?_
        refine wp_goto (tgt := 47) dq_175_36 rfl ?_
        exact wp_ire dq_175_47 rfl ⟨rfl, Or.inl rfl⟩ ⟨so_i (by rw [f_p_flags, f_flagsOf, if_neg (by decide), if_neg (by decide), if_pos (show nI 2 = 2 from rfl), f_elementsOf, e5]; exact (q_oob hk).symm), rfl⟩
    · obtain ⟨hct, hcv⟩ := ctv_ne hj
      have hvw := ((VA_2 (o := 48) (w := 5) hVA (by decide) hct).1.2.2.2 (by decide) (by decide)).1
      have hvw : M.ct 436 + 2 + 8 * bu_U B (M.ct 436) 2 ≤ n := hvw
      rw [← hcv] at hvw
      show wp_W L xs _ 175 5 [(0, .ref 13), (1, .int (nI 2)), (2, .int (nI j))] [] h _
      refine wp_iload_n dq_175_5 rfl ?_
      refine wp_iconst (x := nI 2) dq_175_6 rfl ?_
      refine wp_ic_neN (tgt := 48) dq_175_7 rfl (by decide) (by decide) (fun c9 => absurd c9 (by decide)) (fun _ => ?_)
      refine wp_aload_n dq_175_10 rfl ?_
      refine wp_getf (w := .int (nI 1)) dq_175_11 fl_175_249 hc rfl ?_
      refine wp_if_eqN (tgt := 29) dq_175_14 rfl (by omega) (fun c9 => absurd c9 (by decide)) (fun _ => ?_)
      refine wp_aload_n dq_175_17 rfl ?_
      refine wp_bipush (x := nI 7) dq_175_18 rfl ?_
      refine wp_iload_n dq_175_20 rfl ?_
      refine wp_bipush (x := nI 8) dq_175_21 rfl ?_
      refine wp_cve3 dq_175_23 mt_175_252 (ob_of hc) ⟨by decide +kernel, by decide +kernel⟩ (Nat.le_of_ble_eq_true rfl) (Nat.le_of_ble_eq_true rfl) (c_elY (d := d + 1) (QW_0 hW) (by decide) (o3 5 (by decide) (by decide)).1 ((o3 5 (by decide) (by decide)).2 hct) hj (by omega)) ?_
      refine wp_goto (tgt := 30) dq_175_26 rfl ?_
      refine wp_istore_n (lv' := [(0, .ref 13), (1, .int (nI 2)), (2, .int (nI j)), (3, .int (nI (M.ct 436 + 2 + 8 * j)))]) dq_175_30 (by decide) rfl ?_
      refine wp_iload_n dq_175_31 rfl ?_
      refine wp_if_geN (tgt := 39) dq_175_32 rfl (by omega) (fun c1 => ?_) (fun c1 => ?_)
      · refine wp_aload_n dq_175_39 rfl ?_
        refine wp_iload_n dq_175_40 rfl ?_
        refine wp_bipush (x := nI 6) dq_175_41 rfl ?_
        refine wp_iaddN dq_175_43 ?_
        refine wp_cve1 dq_175_44 mt_175_42 (ob_of hc) ⟨by decide +kernel, by decide +kernel⟩ (Nat.le_of_ble_eq_true rfl) (Nat.le_of_ble_eq_true rfl) (c_two (d := d) (QW_A hW) (by omega)) ?_
        exact wp_ire dq_175_47 rfl ⟨rfl, Or.inl rfl⟩ ⟨so_i (by rw [f_p_flags, f_flagsOf, if_neg (by decide), if_neg (by decide), if_pos (show nI 2 = 2 from rfl), f_elementsOf, if_neg (nI_pos (by omega)), e5, if_pos (nI_lt hj (by omega)), show f_elementItem s a 3 0 5 (nI j) 6 = nI (bu_U B (M.ct 436 + 2 + ez 5 * j + 6) 2) from q_eiY (kd := 3) (k := 0) (w := 5) (y := 6) hQ (by decide) e5 e6 hj (by omega) (by rw [show ez 5 = 8 from rfl]; omega)]; rfl), rfl⟩
      · exact absurd c1 (by omega)
  show wp_W L xs _ 175 5 [(0, .ref 13), (1, .int x), (2, .int k)] [] h _
  refine wp_iload_n dq_175_5 rfl ?_
  refine wp_iconst (x := nI 2) dq_175_6 rfl ?_
  refine wp_ic_ne (tgt := 48) dq_175_7 rfl (fun c1 => ?_) (fun c1 => ?_)
  · refine wp_aload_n dq_175_48 rfl ?_
    refine wp_iload_n dq_175_49 rfl ?_
    refine wp_iload_n dq_175_50 rfl ?_
    refine wp_cve2 dq_175_51 mt_175_256 (ob_of (mw_0 hb)) ⟨by decide +kernel, by decide +kernel⟩ (Nat.le_of_ble_eq_true rfl) (Nat.le_of_ble_eq_true rfl) (c_m2X (d := d + 1) hW0 hx) ?_
    refine wp_istore_n (lv' := [(0, .ref 13), (1, .int x), (2, .int k), (3, .int (-1))]) dq_175_54 (by decide) rfl ?_
    refine wp_iload_n dq_175_55 rfl ?_
    refine wp_if_ge (tgt := 63) dq_175_56 rfl (fun c2 => ?_) (fun c2 => ?_)
    · exact absurd c2 (by decide)
    · refine wp_iconst (x := -1) dq_175_59 rfl ?_
      refine wp_goto (tgt := 69) dq_175_60 rfl ?_
      exact wp_ire dq_175_69 rfl ⟨rfl, Or.inl rfl⟩ ⟨so_i (by rw [f_p_flags, f_flagsOf, if_neg (show ¬ x = 0 from hne 0 (by decide)), if_neg (show ¬ x = 1 from hne 1 (by decide)), if_neg (show ¬ x = 2 from hne 2 (by decide))]), rfl⟩
  · exact absurd c1 (hne 2 (by decide))
