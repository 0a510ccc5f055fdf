theorem tx_out {s : Nat → Int32} {a : Nat → Nat → Int32} {x k : Int32} (hne : ∀ j, j < 19 → ¬ x = nI j) : f_textOf s a x k = nI 0 := by
  rw [f_textOf, if_neg (show ¬ x = 0 from hne 0 (by decide)), if_neg (show ¬ x = 1 from hne 1 (by decide)), if_neg (show ¬ x = 2 from hne 2 (by decide)), if_neg (show ¬ x = 3 from hne 3 (by decide)), if_neg (show ¬ x = 4 from hne 4 (by decide)), if_neg (show ¬ x = 5 from hne 5 (by decide)), if_neg (show ¬ x = 6 from hne 6 (by decide)), if_neg (show ¬ x = 7 from hne 7 (by decide)), if_neg (show ¬ x = 8 from hne 8 (by decide)), if_neg (show ¬ x = 9 from hne 9 (by decide)), if_neg (show ¬ x = 10 from hne 10 (by decide)), if_neg (show ¬ x = 11 from hne 11 (by decide)), if_neg (show ¬ x = 12 from hne 12 (by decide)), f_classListTextOf, if_neg (show ¬ x = 13 from hne 13 (by decide)), if_neg (show ¬ x = 14 from hne 14 (by decide)), if_neg (show ¬ x = 15 from hne 15 (by decide)), if_neg (show ¬ x = 16 from hne 16 (by decide)), if_neg (show ¬ x = 17 from hne 17 (by decide)), if_neg (show ¬ x = 18 from hne 18 (by decide))]
  rfl
set_option maxRecDepth 100000 in
theorem c_txX {L : Nat} {xs : Nat → Int32} {d n : Nat} {B : Nat → Nat} {N : Nat → Int32} {h : List qx_E} {x k : Int32} (hW : QW h B n N) (hne : ∀ j, j < 19 → ¬ x = nI j) : qe_E L xs (d + 4) 179 [.ref 13, .int x, .int k] h (some (.int (nI 0))) h := by
  obtain ⟨s0, fa, fb, fd, hb, -⟩ := id hW
  by_cases hx : x < 0
  · show wp_W L xs _ 179 0 [(0, .ref 13), (1, .int x), (2, .int k)] [] h _
    have hlt : ∀ c : Nat, c < 100 → x < nI c ∨ c = 0 := fun c hc => by
      rcases Nat.eq_zero_or_pos c with r | r
      · exact Or.inr r
      · exact Or.inl (Int32.lt_trans hx (show (0 : Int32) < nI c from nI_lt (a := 0) r (by omega)))
    refine wp_iload_n dq_179_0 rfl ?_
    refine wp_iconst (x := nI 3) dq_179_1 rfl ?_
    refine wp_ic_lt (tgt := 11) dq_179_2 rfl (fun _ => ?_) (fun c => absurd ((hlt 3 (by decide)).resolve_right (by decide)) c)
    refine wp_iload_n dq_179_11 rfl ?_
    refine wp_bipush (x := nI 10) dq_179_12 rfl ?_
    refine wp_ic_lt (tgt := 128) dq_179_14 rfl (fun _ => ?_) (fun c => absurd ((hlt 10 (by decide)).resolve_right (by decide)) c)
    refine wp_iload_n dq_179_128 rfl ?_
    refine wp_tabO (tgt := 344) dq_179_129 (Or.inl (by have := Int32.lt_iff_toInt_lt.mp hx; exact this)) rfl ?_
    refine wp_iconst (x := nI 0) dq_179_344 rfl ?_
    exact wp_ire dq_179_345 rfl ⟨rfl, Or.inl rfl⟩ ⟨rfl, rfl⟩
  · obtain ⟨j, hj9, rfl⟩ := nI_of hx
    have hj : 19 ≤ j := by
      rcases Nat.lt_or_ge j 19 with r | r
      · exact absurd rfl (hne j r)
      · exact r
    show wp_W L xs _ 179 0 [(0, .ref 13), (1, .int (nI j)), (2, .int k)] [] h _
    refine wp_iload_n dq_179_0 rfl ?_
    refine wp_iconst (x := nI 3) dq_179_1 rfl ?_
    refine wp_ic_ltN (tgt := 11) dq_179_2 rfl (by omega) (by omega) (fun c1 => ?_) (fun c1 => ?_)
    · exact absurd c1 (by omega)
    · refine wp_iload_n dq_179_5 rfl ?_
      refine wp_bipush (x := nI 8) dq_179_6 rfl ?_
      refine wp_ic_leN (tgt := 23) dq_179_8 rfl (by omega) (by omega) (fun c2 => ?_) (fun c2 => ?_)
      · exact absurd c2 (by omega)
      · refine wp_iload_n dq_179_11 rfl ?_
        refine wp_bipush (x := nI 10) dq_179_12 rfl ?_
        refine wp_ic_ltN (tgt := 128) dq_179_14 rfl (by omega) (by omega) (fun c3 => ?_) (fun c3 => ?_)
        · exact absurd c3 (by omega)
        · refine wp_iload_n dq_179_17 rfl ?_
          refine wp_bipush (x := nI 12) dq_179_18 rfl ?_
          refine wp_ic_gtN (tgt := 128) dq_179_20 rfl (by omega) (by omega) (fun c4 => ?_) (fun c4 => ?_)
          · refine wp_iload_n dq_179_128 rfl ?_
            refine wp_tabO (tgt := 344) dq_179_129 (Or.inr (by rw [nI_toInt hj9]; omega)) rfl ?_
            refine wp_iconst (x := nI 0) dq_179_344 rfl ?_
            exact wp_ire dq_179_345 rfl ⟨rfl, Or.inl rfl⟩ ⟨rfl, rfl⟩
          · exact absurd c4 (by omega)
theorem c_txi {L : Nat} {xs : Nat → Int32} {d n F : Nat} {B T : Nat → Nat} {N : Nat → Int32} {h : List qx_E} {M : rM} {s : Nat → Int32} {a : Nat → Nat → Int32} {x k : Int32} (hW : QW h B n N) (hX : FX B n T F M N s a) : ∃ i, i < 65536 ∧ (i = 0 ∨ tg B T i = 1) ∧ f_textOf s a x k = nI i ∧ qe_E L xs (d + 4) 179 [.ref 13, .int x, .int k] h (some (.int (nI i))) h := by
  rcases pk_ix x (n := 19) (by decide) with r | r | ⟨j, hj, rfl⟩
  · have r2 : ∀ j, j < 19 → ¬ x = nI j := fun j hj e => by subst e; exact absurd r (nI_pos (by omega))
    exact ⟨0, by decide, Or.inl rfl, tx_out r2, c_txX hW r2⟩
  · have r2 : ∀ j, j < 19 → ¬ x = nI j := fun j hj e => by subst e; exact absurd r (nI_ge hj (by decide))
    exact ⟨0, by decide, Or.inl rfl, tx_out r2, c_txX hW r2⟩
  · skip
    rcases (show j = 0 ∨ j = 1 ∨ j = 2 ∨ j = 3 ∨ j = 4 ∨ j = 5 ∨ j = 6 ∨ j = 7 ∨ j = 8 ∨ j = 9 ∨ j = 10 ∨ j = 11 ∨ j = 12 ∨ j = 13 ∨ j = 14 ∨ j = 15 ∨ j = 16 ∨ j = 17 ∨ j = 18 by omega) with rfl | rfl | rfl | rfl | rfl | rfl | rfl | rfl | rfl | rfl | rfl | rfl | rfl | rfl | rfl | rfl | rfl | rfl | rfl
    · exact c_tx0 hW hX
    · exact c_tx1 hW hX
    · exact c_tx2 hW hX
    · exact c_tx3 hW hX
    · exact c_tx4 hW hX
    · exact c_tx5 hW hX
    · exact c_tx6 hW hX
    · exact c_tx7 hW hX
    · exact c_tx8 hW hX
    · exact c_tx9 hW hX
    · exact c_tx10 hW hX
    · exact c_tx11 hW hX
    · exact c_tx12 hW hX
    · exact c_tx13 hW hX
    · exact c_tx14 hW hX
    · exact c_tx15 hW hX
    · exact c_tx16 hW hX
    · exact c_tx17 hW hX
    · exact c_tx18 hW hX
set_option maxRecDepth 100000 in
theorem R_txt {L : Nat} {xs : Nat → Int32} {d n F : Nat} {B T : Nat → Nat} {N : Nat → Int32} {h : List qx_E} {M : rM} {s : Nat → Int32} {a : Nat → Nat → Int32} {x k e : Int32} (hW : QW h B n N) (hX : FX B n T F M N s a) : wp_W L xs (d + 5) 178 5 [(0, .ref 13), (1, .int x), (2, .int k), (3, .int e)] [] h (fun v2 h2 => v2 = some (.int (f_p_text s a x k e)) ∧ h2 = h) := by
  obtain ⟨i, hi1, hi2, hi3, hi4⟩ := c_txi (L := L) (xs := xs) (d := d) (x := x) (k := k) hW hX
  obtain ⟨s0, fa, fb, fd, hb, h1, -⟩ := id hW
  have hc := mw_0 hb
  rw [h1] at hc
  refine wp_aload_n dq_178_5 rfl ?_
  refine wp_getf (w := .int (nI 1)) dq_178_6 fl_178_249 hc rfl ?_
  refine wp_if_eqN (tgt := 26) dq_178_9 rfl (by decide) (fun c => absurd c (by decide)) (fun _ => ?_)
  refine wp_aload_n dq_178_12 rfl ?_
  refine wp_aload_n dq_178_13 rfl ?_
  refine wp_iload_n dq_178_14 rfl ?_
  refine wp_iload_n dq_178_15 rfl ?_
  refine wp_cve2 dq_178_16 mt_178_266 (ob_of (mw_0 hb)) ⟨by decide +kernel, by decide +kernel⟩ (Nat.le_of_ble_eq_true rfl) (Nat.le_of_ble_eq_true rfl) hi4 ?_
  refine wp_iload_n dq_178_19 rfl ?_
  refine wp_cve2 dq_178_20 mt_178_269 (ob_of (mw_0 hb)) ⟨by decide +kernel, by decide +kernel⟩ (Nat.le_of_ble_eq_true rfl) (Nat.le_of_ble_eq_true rfl) (c_cho (d := d + 1) (T := T) hW (by obtain ⟨-, ⟨hP, -⟩, -⟩ := id hX; exact hP) hi2 hi1) ?_
  refine wp_goto (tgt := 27) dq_178_23 rfl ?_
  exact wp_ire dq_178_27 rfl ⟨rfl, Or.inl rfl⟩ ⟨so_i (by rw [f_p_text, hi3, q_ch hX hi1]), rfl⟩
theorem bu_22 (B : Nat → Nat) (p : Nat) : bu_U B p 4 = bu_U B p 2 * 65536 + bu_U B (p + 2) 2 := by
  rw [bu_4, bu_2, bu_2, show p + 2 + 1 = p + 3 from rfl]
  omega
theorem bu_44 (B : Nat → Nat) (p : Nat) : bu_U B p 8 = bu_U B p 4 * 4294967296 + bu_U B (p + 4) 4 := by
  have e : bu_U B p 8 = (((bu_U B p 4 * 256 + B (p + 4)) * 256 + B (p + 5)) * 256 + B (p + 6)) * 256 + B (p + 7) := rfl
  rw [e, bu_4 B (p + 4), show p + 4 + 1 = p + 5 from rfl, show p + 4 + 2 = p + 6 from rfl, show p + 4 + 3 = p + 7 from rfl]
  omega
set_option maxRecDepth 100000 in
theorem c_four {L : Nat} {xs : Nat → Int32} {d n : Nat} {B : Nat → Nat} {N : Nat → Int32} {h : List qx_E} {p : Nat} (hA : AW h B n N) (hp : p + 4 ≤ n) : qe_E L xs (d + 2) 186 [.ref 13, .int (nI p)] h (some (.long (lN (bu_U B p 4)))) h := by
  obtain ⟨s, fa, fb, fc, fd, hb, -⟩ := id hA
  have hn9 := AW_n hA
  have b1 : bu_U B p 2 < 65536 := AW_u2 hA (by omega)
  have b2 : bu_U B (p + 2) 2 < 65536 := AW_u2 hA (by omega)
  show wp_W L xs _ 186 0 [(0, .ref 13), (1, .int (nI p))] [] h _
  refine wp_aload_n dq_186_0 rfl ?_
  refine wp_iload_n dq_186_1 rfl ?_
  refine wp_cve1 dq_186_2 mt_186_42 (ob_of (mw_0 hb)) ⟨by decide +kernel, by decide +kernel⟩ (Nat.le_of_ble_eq_true rfl) (Nat.le_of_ble_eq_true rfl) (c_two (d := d) hA (by omega)) ?_
  refine wp_i2lN dq_186_5 (by omega) ?_
  refine wp_ldc2 (v := lN 65536) dq_186_6 (by decide +kernel) ?_
  refine wp_lmulN dq_186_9 ?_
  refine wp_aload_n dq_186_10 rfl ?_
  refine wp_iload_n dq_186_11 rfl ?_
  refine wp_iconst (x := nI 2) dq_186_12 rfl ?_
  refine wp_iaddN dq_186_13 ?_
  refine wp_cve1 dq_186_14 mt_186_42 (ob_of (mw_0 hb)) ⟨by decide +kernel, by decide +kernel⟩ (Nat.le_of_ble_eq_true rfl) (Nat.le_of_ble_eq_true rfl) (c_two (d := d) hA (by omega)) ?_
  refine wp_i2lN dq_186_17 (by omega) ?_
  refine wp_laddN dq_186_18 ?_
  exact wp_lre dq_186_19 rfl ⟨by rw [bu_22], rfl⟩
section CQ
variable {B : Nat → Nat} {n : Nat} {T : Nat → Nat} {s : Nat → Int32} {a : Nat → Nat → Int32}
theorem q_c0 : f_constantOf s a 0 = 1000000000000000000 := by
  unfold f_constantOf
  rw [if_pos (by decide)]
theorem q_c34 (hQ : QF B n T s a) {v : Nat} (ht : tg B T v = 3 ∨ tg B T v = 4) (hn : T v + 5 ≤ n) : f_constantOf s a (nI v) = (nI (bu_U B (T v + 1) 4)).toInt64 := by
  obtain ⟨a1, a2, a3, a4, a5⟩ := tg_ne hQ.2.2.2.2 (rfl : tg B T v = _) (by omega)
  have h4 := QF_n hQ
  unfold f_constantOf
  rw [if_neg (show ¬ nI v < 1 from nI_nlt (b := 1) a1 (by omega)), if_pos (show nI v < 64 from nI_lt (b := 64) a2 (by decide)), nI_clamp (by omega), QF_tg hQ a2, QF_pl hQ a2 a3, show (1 : Int32) = nI 1 from rfl, nI_add, show f_numberAt s a (nI (T v + 1)) 4 = lN (bu_U B (T v + 1) 4) from q_num hQ (by omega), lN_i]
  rcases ht with r | r
  · rw [r, if_pos (by decide)]
  · rw [r, if_neg (by decide), if_pos (by decide)]
theorem q_c8 (hQ : QF B n T s a) {v : Nat} (ht : tg B T v = 8) (hu : tg B T (bu_U B (T v + 1) 2) = 1) : f_constantOf s a (nI v) = (nI (tl B T (bu_U B (T v + 1) 2))).toInt64 := by
  obtain ⟨a1, a2, a3, a4, a5⟩ := tg_ne hQ.2.2.2.2 ht (by decide)
  have a6 := (eOK_12 a5).2.2.2
  have h4 := QF_n hQ
  have hul := QF_U2 hQ (p := T v + 1) (by omega)
  obtain ⟨b1, b2, -⟩ := tx_in hQ.2.2.2.2 hu
  unfold f_constantOf
  rw [if_neg (show ¬ nI v < 1 from nI_nlt (b := 1) a1 (by omega)), if_pos (show nI v < 64 from nI_lt (b := 64) a2 (by decide)), nI_clamp (by omega), QF_tg hQ a2, QF_pl hQ a2 a3, ht, if_neg (by decide), if_neg (by decide), if_neg (by decide), if_neg (by decide), if_pos (by decide), show (1 : Int32) = nI 1 from rfl, nI_add, QF_u2 hQ (by omega), if_neg (show ¬ f_names s a (nI (bu_U B (T v + 1) 2)) (nI 1) = 0 from fun r => (nm_1 hQ hul).mp r hu), nI_clamp (by omega), QF_ln hQ hu]
theorem q_c56 (hQ : QF B n T s a) {v : Nat} (ht : tg B T v = 5 ∨ tg B T v = 6) (hn : T v + 9 ≤ n) : f_constantOf s a (nI v) = if lg_cmp (lN (bu_U B (T v + 1) 8)) (-1000000000000000000) ≤ 0 then 1000000000000000000 else if 0 ≤ lg_cmp (lN (bu_U B (T v + 1) 8)) 1000000000000000000 then 1000000000000000000 else lN (bu_U B (T v + 1) 8) := by
  obtain ⟨a1, a2, a3, a4, a5⟩ := tg_ne hQ.2.2.2.2 (rfl : tg B T v = _) (by omega)
  have h4 := QF_n hQ
  have h8 : f_numberAt s a (nI (T v + 1)) 8 = lN (bu_U B (T v + 1) 8) := num_U (k := 8) hQ.1 hQ.2.1 hQ.2.2.1 (by decide) (by omega)
  unfold f_constantOf
  rw [if_neg (show ¬ nI v < 1 from nI_nlt (b := 1) a1 (by omega)), if_pos (show nI v < 64 from nI_lt (b := 64) a2 (by decide)), nI_clamp (by omega), QF_tg hQ a2, QF_pl hQ a2 a3, show (1 : Int32) = nI 1 from rfl, nI_add, h8]
  rcases ht with r | r
  · rw [r, if_neg (by decide), if_neg (by decide), if_pos (by decide)]
  · rw [r, if_neg (by decide), if_neg (by decide), if_neg (by decide), if_pos (by decide)]
end CQ
theorem so_l {x y : Int64} (h : x = y) : some (Value.long x) = some (.long y) := by rw [h]
theorem c_hi {X : Int64} (h : 0 ≤ lg_cmp X (lN 1000000000000000000)) : (if lg_cmp X (-1000000000000000000) ≤ 0 then (1000000000000000000 : Int64) else if 0 ≤ lg_cmp X 1000000000000000000 then 1000000000000000000 else X) = 1000000000000000000 := by
  by_cases c : lg_cmp X (-1000000000000000000) ≤ 0
  · rw [if_pos c]
  · rw [if_neg c]
    exact if_pos h
theorem ek_n {B : Nat → Nat} {n p : Nat} (h : eOK B n p) : (B p = 3 ∨ B p = 4 → p + 5 ≤ n) ∧ (B p = 5 ∨ B p = 6 → p + 9 ≤ n) := by
  obtain ⟨h0, ⟨h1, h2, -⟩ | ⟨h1, h2⟩ | ⟨h1, h2⟩ | ⟨h1, h2⟩⟩ := h
  all_goals exact ⟨fun r => by omega, fun r => by omega⟩
set_option maxRecDepth 100000 in
theorem R_con {L : Nat} {xs : Nat → Int32} {d n F : Nat} {B T : Nat → Nat} {N : Nat → Int32} {h : List qx_E} {M : rM} {s : Nat → Int32} {a : Nat → Nat → Int32} {k : Int32} (hW : QW h B n N) (hX : FX B n T F M N s a) : wp_W L xs (d + 5) 185 5 [(0, .ref 13), (1, .int k)] [] h (fun v2 h2 => v2 = some (.long (f_p_constant s a k)) ∧ h2 = h) := by
  have hW0 := QW_0 hW
  have hA := QW_A hW
  obtain ⟨s0, fa, fb, fd, hb, -⟩ := id hW0
  obtain ⟨⟨hQ, hM, hV, h0F, hFn⟩, ⟨hP, hLK, -, -, -, -, ⟨o1, o2, o3, o4, o5⟩, -⟩, ⟨hVA, hL8, hn10, v1, v2, v3, v4⟩, hnp⟩ := id hX
  have hn9 := hP.1
  have hc16 := (FX_c hX (kd := 0) (by decide)).2
  rcases (show (k < 0 ∨ nI (M.c 0) ≤ k) ∨ ∃ j, j < M.c 0 ∧ k = nI j from (pk_ix k (n := M.c 0) (by omega)).elim (fun r => Or.inl (Or.inl r)) (fun r => r.elim (fun r => Or.inl (Or.inr r)) Or.inr)) with hk | ⟨j, hj, rfl⟩
  · show wp_W L xs _ 185 5 [(0, .ref 13), (1, .int k)] [] h _
    refine wp_aload_n dq_185_5 rfl ?_
    refine wp_iconst (x := nI 0) dq_185_6 rfl ?_
    refine wp_iload_n dq_185_7 rfl ?_
    refine wp_cve2 dq_185_8 mt_185_256 (ob_of (mw_0 hb)) ⟨by decide +kernel, by decide +kernel⟩ (Nat.le_of_ble_eq_true rfl) (Nat.le_of_ble_eq_true rfl) (c_m2N (d := d + 4) hW0 (kd := 0) (by decide) (FX_c hX (kd := 0) (by decide)).1 hk) ?_
    refine wp_istore_n (lv' := [(0, .ref 13), (1, .int k), (2, .int (-1))]) dq_185_11 (by decide) rfl ?_
    refine wp_iload_n dq_185_12 rfl ?_
    refine wp_if_ge (tgt := 20) dq_185_13 rfl (fun c1 => ?_) (fun c1 => ?_)
    · exact absurd c1 (by decide)
    · refine wp_iconst (x := nI 0) dq_185_16 rfl ?_
      refine wp_goto (tgt := 28) dq_185_17 rfl ?_
      refine wp_istore_n (lv' := [(0, .ref 13), (1, .int k), (2, .int (-1)), (3, .int (nI 0))]) dq_185_28 (by decide) rfl ?_
      refine wp_iload_n dq_185_29 rfl ?_
      refine wp_if_neN (tgt := 37) dq_185_30 rfl (by omega) (fun c9 => absurd c9 (by decide)) (fun _ => ?_)
      refine wp_ldc2 (v := lN 1000000000000000000) dq_185_33 (by decide +kernel) ?_
      exact wp_lre dq_185_36 rfl ⟨so_l (by rw [f_p_constant, show f_contentItem s a 0 k 3 = 0 from q_ci0 (kd := 0) hM hV (by decide) hk, q_c0]; rfl), rfl⟩
  · have e3 : f_contentItem s a 0 (nI j) 3 = nI (ctv B M (9 * (16 * 0 + j) + 2)) := FX_ci hX (kd := 0) (w := 3) (by decide) hj (by decide)
    have e3N := ((FX_k hX (kd := 0) (by decide) hj).2.2.2.1.2.2.1 rfl)
    have hv2 := VA_2 (o := 16 * 0 + j) (w := 3) hVA (by decide)
    have hcl := ctv_lt hX (9 * (16 * 0 + j) + 2) (fun r => (hv2 r).2)
    show wp_W L xs _ 185 5 [(0, .ref 13), (1, .int (nI j))] [] h _
    refine wp_aload_n dq_185_5 rfl ?_
    refine wp_iconst (x := nI 0) dq_185_6 rfl ?_
    refine wp_iload_n dq_185_7 rfl ?_
    refine wp_cve2 dq_185_8 mt_185_256 (ob_of (mw_0 hb)) ⟨by decide +kernel, by decide +kernel⟩ (Nat.le_of_ble_eq_true rfl) (Nat.le_of_ble_eq_true rfl) (c_m2Y (d := d + 4) hW0 (by decide) (FX_c hX (kd := 0) (by decide)).1 hj (FX_c hX (kd := 0) (by decide)).2) ?_
    refine wp_istore_n (lv' := [(0, .ref 13), (1, .int (nI j)), (2, .int (nI (100 + 130 * 0 + 8 * j)))]) dq_185_11 (by decide) rfl ?_
    refine wp_iload_n dq_185_12 rfl ?_
    refine wp_if_geN (tgt := 20) dq_185_13 rfl (by omega) (fun c1 => ?_) (fun c1 => ?_)
    · refine wp_aload_n dq_185_20 rfl ?_
      refine wp_getf (w := .ref 16) dq_185_21 fl_185_16 (mw_0 hb) rfl ?_
      refine wp_iload_n dq_185_24 rfl ?_
      refine wp_iconst (x := nI 5) dq_185_25 rfl ?_
      refine wp_iaddN dq_185_26 ?_
      refine wp_ialdV (z := (nI (ctv B M (9 * (16 * 0 + j) + 2)))) dq_185_27 (mw_3 hb) (by omega) (by decide) (e3N) ?_
      refine wp_istore_n (lv' := [(0, .ref 13), (1, .int (nI j)), (2, .int (nI (100 + 130 * 0 + 8 * j))), (3, .int (nI (ctv B M (9 * (16 * 0 + j) + 2))))]) dq_185_28 (by decide) rfl ?_
      refine wp_iload_n dq_185_29 rfl ?_
      refine wp_if_neN (tgt := 37) dq_185_30 rfl (by omega) (fun c2 => ?_) (fun c2 => ?_)
      · obtain ⟨hct, hcv⟩ := ctv_ne (B := B) (M := M) (q := (9 * (16 * 0 + j) + 2)) (j := 0) (by omega)
        have ht5 := ((hv2 hct).1.2.2.1 rfl).2
        rw [← hcv] at ht5
        obtain ⟨a1, a2, a3, a4, a5, a6, a7⟩ := pq_e hP (i := (ctv B M (9 * (16 * 0 + j) + 2))) (by omega)
        have hTn := ek_n (hP.2.1 _ a3).2.2
        rw [← a7] at hTn
        refine wp_aload_n dq_185_37 rfl ?_
        refine wp_getf (w := .ref 16) dq_185_38 fl_185_16 (mw_0 hb) rfl ?_
        refine wp_bipush (x := nI 20) dq_185_41 rfl ?_
        refine wp_iload_n dq_185_43 rfl ?_
        refine wp_iaddN dq_185_44 ?_
        refine wp_ialdV (z := (nI (T (ctv B M (9 * (16 * 0 + j) + 2))))) dq_185_45 (mw_3 hb) (by omega) (by decide) (a4) ?_
        refine wp_iconst (x := nI 1) dq_185_46 rfl ?_
        refine wp_iaddN dq_185_47 ?_
        refine wp_istore (lv' := [(0, .ref 13), (1, .int (nI j)), (2, .int (nI (100 + 130 * 0 + 8 * j))), (3, .int (nI (ctv B M (9 * (16 * 0 + j) + 2)))), (4, .int (nI ((T (ctv B M (9 * (16 * 0 + j) + 2))) + 1)))]) dq_185_48 (by decide) rfl ?_
        refine wp_aload_n dq_185_50 rfl ?_
        refine wp_iload_n dq_185_51 rfl ?_
        refine wp_cve1 dq_185_52 mt_185_138 (ob_of (mw_0 hb)) ⟨by decide +kernel, by decide +kernel⟩ (Nat.le_of_ble_eq_true rfl) (Nat.le_of_ble_eq_true rfl) (c_tag (d := d + 3) hA hP (by omega)) ?_
        refine wp_istore (lv' := [(0, .ref 13), (1, .int (nI j)), (2, .int (nI (100 + 130 * 0 + 8 * j))), (3, .int (nI (ctv B M (9 * (16 * 0 + j) + 2)))), (4, .int (nI ((T (ctv B M (9 * (16 * 0 + j) + 2))) + 1))), (5, .int (nI (tg B T (ctv B M (9 * (16 * 0 + j) + 2)))))]) dq_185_55 (by decide) rfl ?_
        refine wp_iload dq_185_57 rfl ?_
        refine wp_bipush (x := nI 8) dq_185_59 rfl ?_
        refine wp_ic_neN (tgt := 75) dq_185_61 rfl (by omega) (by omega) (fun c3 => ?_) (fun c3 => ?_)
        · refine wp_iload dq_185_75 rfl ?_
          refine wp_iconst (x := nI 5) dq_185_77 rfl ?_
          refine wp_ic_geN (tgt := 90) dq_185_78 rfl (by omega) (by omega) (fun c4 => ?_) (fun c4 => ?_)
          · refine wp_aload_n dq_185_90 rfl ?_
            refine wp_iload dq_185_91 rfl ?_
            refine wp_cve1 dq_185_93 mt_185_276 (ob_of (mw_0 hb)) ⟨by decide +kernel, by decide +kernel⟩ (Nat.le_of_ble_eq_true rfl) (Nat.le_of_ble_eq_true rfl) (c_four (d := d + 2) hA (by omega)) ?_
            refine wp_bipush (x := nI 32) dq_185_96 rfl ?_
            refine wp_lshlN (c := 4294967296) dq_185_98 (by decide) rfl ?_
            refine wp_aload_n dq_185_99 rfl ?_
            refine wp_iload dq_185_100 rfl ?_
            refine wp_iconst (x := nI 4) dq_185_102 rfl ?_
            refine wp_iaddN dq_185_103 ?_
            refine wp_cve1 dq_185_104 mt_185_276 (ob_of (mw_0 hb)) ⟨by decide +kernel, by decide +kernel⟩ (Nat.le_of_ble_eq_true rfl) (Nat.le_of_ble_eq_true rfl) (c_four (d := d + 2) hA (by omega)) ?_
            refine wp_laddN dq_185_107 ?_
            refine wp_lstore (lv' := [(0, .ref 13), (1, .int (nI j)), (2, .int (nI (100 + 130 * 0 + 8 * j))), (3, .int (nI (ctv B M (9 * (16 * 0 + j) + 2)))), (4, .int (nI ((T (ctv B M (9 * (16 * 0 + j) + 2))) + 1))), (5, .int (nI (tg B T (ctv B M (9 * (16 * 0 + j) + 2))))), (6, .long (lN (((bu_U B ((T (ctv B M (9 * (16 * 0 + j) + 2))) + 1) 4) * 4294967296) + (bu_U B (((T (ctv B M (9 * (16 * 0 + j) + 2))) + 1) + 4) 4))))]) dq_185_108 (by decide) rfl ?_
            refine wp_lload dq_185_110 rfl ?_
            refine wp_ldc2 (v := lN 1000000000000000000) dq_185_112 (by decide +kernel) ?_
            refine wp_lcmp dq_185_115 ?_
            refine wp_if_ge (tgt := 133) dq_185_116 rfl (fun c5 => ?_) (fun c5 => ?_)
            · refine wp_ldc2 (v := lN 1000000000000000000) dq_185_133 (by decide +kernel) ?_
              exact wp_lre dq_185_136 rfl ⟨so_l (by rw [f_p_constant, e3, q_c56 hQ (by omega) (by omega), bu_44]; exact (c_hi c5).symm), rfl⟩
            · refine wp_lload dq_185_119 rfl ?_
              refine wp_ldc2 (v := -1000000000000000000) dq_185_121 (by decide +kernel) ?_
              refine wp_lcmp dq_185_124 ?_
              refine wp_if_le (tgt := 133) dq_185_125 rfl (fun c6 => ?_) (fun c6 => ?_)
              · refine wp_ldc2 (v := lN 1000000000000000000) dq_185_133 (by decide +kernel) ?_
                exact wp_lre dq_185_136 rfl ⟨so_l (by rw [f_p_constant, e3, q_c56 hQ (by omega) (by omega), bu_44]; exact (if_pos c6).symm), rfl⟩
              · refine wp_lload dq_185_128 rfl ?_
                refine wp_goto (tgt := 136) dq_185_130 rfl ?_
                exact wp_lre dq_185_136 rfl ⟨so_l (by rw [f_p_constant, e3, q_c56 hQ (by omega) (by omega), bu_44]; rw [if_neg c6]; exact (if_neg c5).symm), rfl⟩
          · refine wp_aload_n dq_185_81 rfl ?_
            refine wp_iload dq_185_82 rfl ?_
            refine wp_cve1 dq_185_84 mt_185_276 (ob_of (mw_0 hb)) ⟨by decide +kernel, by decide +kernel⟩ (Nat.le_of_ble_eq_true rfl) (Nat.le_of_ble_eq_true rfl) (c_four (d := d + 2) hA (by omega)) ?_
            refine wp_l2iN dq_185_87 ?_
            refine wp_i2l dq_185_88 ?_
            exact wp_lre dq_185_89 rfl ⟨so_l (by rw [f_p_constant, e3, q_c34 hQ (by omega) (by omega)]), rfl⟩
        · have h8 := hL8 _ c3
          obtain ⟨h8a, h8b, -⟩ := pq_t hP h8
          refine wp_aload_n dq_185_64 rfl ?_
          refine wp_aload_n dq_185_65 rfl ?_
          refine wp_iload_n dq_185_66 rfl ?_
          refine wp_cve1 dq_185_67 mt_185_148 (ob_of (mw_0 hb)) ⟨by decide +kernel, by decide +kernel⟩ (Nat.le_of_ble_eq_true rfl) (Nat.le_of_ble_eq_true rfl) (c_operand (d := d + 2) hA hP (by omega)) ?_
          refine wp_cve1 dq_185_70 mt_185_48 (ob_of (mw_0 hb)) ⟨by decide +kernel, by decide +kernel⟩ (Nat.le_of_ble_eq_true rfl) (Nat.le_of_ble_eq_true rfl) (c_count (d := d + 2) hA hP (by rw [h8]; decide)) ?_
          refine wp_i2lN dq_185_73 (by omega) ?_
          exact wp_lre dq_185_74 rfl ⟨so_l (by rw [f_p_constant, e3, q_c8 hQ c3 h8, nI_l (by omega)]), rfl⟩
      · refine wp_ldc2 (v := lN 1000000000000000000) dq_185_33 (by decide +kernel) ?_
        exact wp_lre dq_185_36 rfl ⟨so_l (by rw [f_p_constant, e3, c2]; exact q_c0.symm), rfl⟩
    · exact absurd c1 (by omega)
