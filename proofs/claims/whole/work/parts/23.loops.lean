def f_spL (s : Nat → Int32) (a : Nat → Nat → Int32) (p : Int32) (T : List Int32) : Nat → Nat → Int32
  | 0, _ => 1
  | j + 1, i => if f_u1At s a (p + nI i) = T.getD i 0 then f_spL s a p T j (i + 1) else 0
def f_spells (s : Nat → Int32) (a : Nat → Nat → Int32) (x : Int32) (k : Nat) : Int32 := if f_names s a x 1 = 0 then 0 else if a 3 x.toNatClampNeg = nI (sx_t k).length then f_spL s a (a 2 x.toNatClampNeg + 3) (sx_t k) (sx_t k).length 0 else 0
set_option maxRecDepth 100000 in
theorem c_spL {L : Nat} {xs : Nat → Int32} {d b : Nat} {h : List qx_E} {s : Nat → Int32} {a : Nat → Nat → Int32} {k : Nat} {x p : Int32} {Q : Option Value → List qx_E → Prop} (hk : 11 ≤ k ∧ k < 26) (hb : tb h b s a) (hw : tw s a) : ∀ j i, i + j = (sx_t k).length → Q (some (.int (f_spL s a p (sx_t k) j i))) h → wp_W L xs (d + 4) 57 36 [(0, .ref (b + 1)), (1, .int x), (2, .retAddr k), (3, .int p), (4, .int (nI i))] [] h Q := by
  have hl := sx_len k hk.1 hk.2
  intro j
  induction j with
  | zero =>
    intro i hi hq
    refine wp_iload dq_57_36 rfl ?_
    refine wp_aload_nK dq_57_38 rfl ?_
    refine wp_cve0 dq_57_39 mt_57_105 (by show qx_ko k = _; exact ko_s hk) ⟨by decide +kernel, by decide +kernel⟩ (Nat.le_of_ble_eq_true rfl) (Nat.le_of_ble_eq_true rfl) (c_slen hk) ?_
    refine wp_ic_ge (tgt := 73) dq_57_42 rfl (fun c1 => ?_) (fun c1 => absurd (nI_le (by omega) (by omega)) c1)
    refine wp_iconst (x := 1) dq_57_73 rfl ?_
    exact wp_ire dq_57_74 rfl ⟨rfl, Or.inr (Or.inl rfl)⟩ hq
  | succ j ih =>
    intro i hi hq
    refine wp_iload dq_57_36 rfl ?_
    refine wp_aload_nK dq_57_38 rfl ?_
    refine wp_cve0 dq_57_39 mt_57_105 (by show qx_ko k = _; exact ko_s hk) ⟨by decide +kernel, by decide +kernel⟩ (Nat.le_of_ble_eq_true rfl) (Nat.le_of_ble_eq_true rfl) (c_slen hk) ?_
    refine wp_ic_ge (tgt := 73) dq_57_42 rfl (fun c1 => ?_) (fun c1 => ?_)
    · refine wp_iconst (x := 1) dq_57_73 rfl ?_
      exact absurd c1 (nI_ge (by omega) (by omega))
    · refine wp_aload_n dq_57_45 rfl ?_
      refine wp_getf dq_57_46 fl_57_12 (tb_c1 hb) rfl ?_
      refine wp_iload_n dq_57_49 rfl ?_
      refine wp_iload dq_57_50 rfl ?_
      refine wp_iadd dq_57_52 ?_
      refine wp_cve1 dq_57_53 mt_57_110 (ob_of (tb_c2 hb)) ⟨by decide +kernel, by decide +kernel⟩ (Nat.le_of_ble_eq_true rfl) (Nat.le_of_ble_eq_true rfl) (c_u1At hb hw) ?_
      refine wp_aload_nK dq_57_56 rfl ?_
      refine wp_iload dq_57_57 rfl ?_
      refine wp_cve1 dq_57_59 mt_57_113 (by show qx_ko k = _; exact ko_s hk) ⟨by decide +kernel, by decide +kernel⟩ (Nat.le_of_ble_eq_true rfl) (Nat.le_of_ble_eq_true rfl) (c_schr hk (by omega)) ?_
      refine wp_ic_eq (tgt := 67) dq_57_62 rfl (fun c2 => ?_) (fun c2 => ?_)
      · refine wp_iinc (y := ((nI i) + 1)) (lv' := [(0, .ref (b + 1)), (1, .int x), (2, .retAddr k), (3, .int p), (4, .int ((nI i) + 1))]) dq_57_67 rfl rfl (by decide) rfl ?_
        refine wp_goto (tgt := 36) dq_57_70 rfl ?_
        rw [nI_1]
        unfold f_spL at hq
        rw [if_pos c2] at hq
        exact ih (i + 1) (by omega) hq
      · refine wp_iconst (x := 0) dq_57_65 rfl ?_
        unfold f_spL at hq
        rw [if_neg c2] at hq
        exact wp_ire dq_57_66 rfl ⟨rfl, Or.inr (Or.inl rfl)⟩ hq
set_option maxRecDepth 100000 in
theorem c_spells {L : Nat} {xs : Nat → Int32} {d b : Nat} {h : List qx_E} {s : Nat → Int32} {a : Nat → Nat → Int32} {k : Nat} {x : Int32} (hk : 11 ≤ k ∧ k < 26) (hb : tb h b s a) (hw : tw s a) : qe_E L xs (d + 4) 57 [.ref (b + 1), .int x, .retAddr k] h (some (.int (f_spells s a x k))) h := by
  show wp_W L xs _ 57 0 [(0, .ref (b + 1)), (1, .int x), (2, .retAddr k)] [] h _
  refine wp_aload_n dq_57_0 rfl ?_
  refine wp_iload_n dq_57_1 rfl ?_
  refine wp_iconst (x := 1) dq_57_2 rfl ?_
  refine wp_cve2 dq_57_3 mt_57_90 (ob_of (tb_c1 hb)) ⟨by decide +kernel, by decide +kernel⟩ (Nat.le_of_ble_eq_true rfl) (Nat.le_of_ble_eq_true rfl) (c_names hb) ?_
  refine wp_if_eq (tgt := 22) dq_57_6 rfl (fun c1 => ?_) (fun c1 => ?_)
  · refine wp_iconst (x := 0) dq_57_22 rfl ?_
    exact wp_ire dq_57_23 rfl ⟨rfl, Or.inr (Or.inl rfl)⟩ ⟨by rw [f_spells, if_pos c1], rfl⟩
  · refine wp_aload_n dq_57_9 rfl ?_
    refine wp_getf dq_57_10 fl_57_25 (tb_c1 hb) rfl ?_
    refine wp_iload_n dq_57_13 rfl ?_
    refine wp_iald dq_57_14 (tb_c6 hb) (in_nm c1) ?_
    refine wp_aload_nK dq_57_15 rfl ?_
    refine wp_cve0 dq_57_16 mt_57_105 (by show qx_ko k = _; exact ko_s hk) ⟨by decide +kernel, by decide +kernel⟩ (Nat.le_of_ble_eq_true rfl) (Nat.le_of_ble_eq_true rfl) (c_slen hk) ?_
    refine wp_ic_eq (tgt := 24) dq_57_19 rfl (fun c2 => ?_) (fun c2 => ?_)
    · refine wp_aload_n dq_57_24 rfl ?_
      refine wp_getf dq_57_25 fl_57_22 (tb_c1 hb) rfl ?_
      refine wp_iload_n dq_57_28 rfl ?_
      refine wp_iald dq_57_29 (tb_c5 hb) (in_nm c1) ?_
      refine wp_iconst (x := 3) dq_57_30 rfl ?_
      refine wp_iadd dq_57_31 ?_
      refine wp_istore_n (lv' := [(0, .ref (b + 1)), (1, .int x), (2, .retAddr k), (3, .int (((a 2) (x : Int32).toNatClampNeg) + 3))]) dq_57_32 (by decide) rfl ?_
      refine wp_iconst (x := 0) dq_57_33 rfl ?_
      refine wp_istore (lv' := [(0, .ref (b + 1)), (1, .int x), (2, .retAddr k), (3, .int (((a 2) (x : Int32).toNatClampNeg) + 3)), (4, .int 0)]) dq_57_34 (by decide) rfl ?_
      refine c_spL hk hb hw (sx_t k).length 0 (by omega) ⟨?_, rfl⟩
      rw [f_spells, if_neg c1, if_pos c2]
    · refine wp_iconst (x := 0) dq_57_22 rfl ?_
      exact wp_ire dq_57_23 rfl ⟨rfl, Or.inr (Or.inl rfl)⟩ ⟨by rw [f_spells, if_neg c1, if_neg c2], rfl⟩
def f_saL (s : Nat → Int32) (a : Nat → Nat → Int32) (p q : Int32) : Nat → Nat → Int32
  | 0, _ => 1
  | j + 1, i => if f_u1At s a (p + nI i) = f_u1At s a (q + nI i) then f_saL s a p q j (i + 1) else 0
def f_same (s : Nat → Int32) (a : Nat → Nat → Int32) (x y : Int32) : Int32 := if f_names s a x 1 = 0 then 0 else if f_names s a y 1 = 0 then 0 else if a 3 x.toNatClampNeg = a 3 y.toNatClampNeg then f_saL s a (a 2 x.toNatClampNeg + 3) (a 2 y.toNatClampNeg + 3) (a 3 x.toNatClampNeg).toNatClampNeg 0 else 0
theorem cl_le {l : Int32} {i : Nat} (h : l.toNatClampNeg ≤ i) (hi : i < 2 ^ 31) : l ≤ nI i := by
  rcases Decidable.em (l < 0) with q | q
  · exact Int32.le_of_lt (Int32.lt_of_lt_of_le q (nI_pos' hi))
  · obtain ⟨j, hj, rfl⟩ := nI_of q
    rw [nI_clamp hj] at h
    exact nI_le h hi
theorem cl_lt {l : Int32} {i : Nat} (h : i < l.toNatClampNeg) : ¬ l ≤ nI i ∧ l.toNatClampNeg < 2 ^ 31 := by
  rcases Decidable.em (l < 0) with q | q
  · have h1 : l.toNatClampNeg = 0 := by
      have h2 : l.toInt < 0 := Int32.lt_iff_toInt_lt.mp q
      show l.toInt.toNat = 0
      omega
    omega
  · obtain ⟨j, hj, rfl⟩ := nI_of q
    rw [nI_clamp hj] at h ⊢
    exact ⟨nI_ge h hj, hj⟩
set_option maxRecDepth 100000 in
theorem c_saL {L : Nat} {xs : Nat → Int32} {d b : Nat} {h : List qx_E} {s : Nat → Int32} {a : Nat → Nat → Int32} {x y p q : Int32} {Q : Option Value → List qx_E → Prop} (hx : qx_in x 64 = true) (hb : tb h b s a) (hw : tw s a) : ∀ j i, i + j = (a 3 x.toNatClampNeg).toNatClampNeg → Q (some (.int (f_saL s a p q j i))) h → wp_W L xs (d + 1) 76 57 [(0, .ref (b + 1)), (1, .int x), (2, .int y), (3, .int p), (4, .int q), (5, .int (nI i))] [] h Q := by
  intro j
  induction j with
  | zero =>
    intro i hi hq
    have hi9 : i < 2 ^ 31 := by rcases Nat.eq_zero_or_pos i with e | e; omega; have := (cl_lt (l := a 3 x.toNatClampNeg) (i := 0) (by omega)).2; omega
    refine wp_iload dq_76_57 rfl ?_
    refine wp_aload_n dq_76_59 rfl ?_
    refine wp_getf dq_76_60 fl_76_25 (tb_c1 hb) rfl ?_
    refine wp_iload_n dq_76_63 rfl ?_
    refine wp_iald dq_76_64 (tb_c6 hb) hx ?_
    refine wp_ic_ge (tgt := 102) dq_76_65 rfl (fun c1 => ?_) (fun c1 => absurd (cl_le (by omega) hi9) c1)
    refine wp_iconst (x := 1) dq_76_102 rfl ?_
    exact wp_ire dq_76_103 rfl ⟨rfl, Or.inr (Or.inl rfl)⟩ hq
  | succ j ih =>
    intro i hi hq
    refine wp_iload dq_76_57 rfl ?_
    refine wp_aload_n dq_76_59 rfl ?_
    refine wp_getf dq_76_60 fl_76_25 (tb_c1 hb) rfl ?_
    refine wp_iload_n dq_76_63 rfl ?_
    refine wp_iald dq_76_64 (tb_c6 hb) hx ?_
    refine wp_ic_ge (tgt := 102) dq_76_65 rfl (fun c1 => ?_) (fun c1 => ?_)
    · refine wp_iconst (x := 1) dq_76_102 rfl ?_
      exact absurd c1 (cl_lt (by omega)).1
    · refine wp_aload_n dq_76_68 rfl ?_
      refine wp_getf dq_76_69 fl_76_12 (tb_c1 hb) rfl ?_
      refine wp_iload_n dq_76_72 rfl ?_
      refine wp_iload dq_76_73 rfl ?_
      refine wp_iadd dq_76_75 ?_
      refine wp_cve1 dq_76_76 mt_76_110 (ob_of (tb_c2 hb)) ⟨by decide +kernel, by decide +kernel⟩ (Nat.le_of_ble_eq_true rfl) (Nat.le_of_ble_eq_true rfl) (c_u1At hb hw) ?_
      refine wp_aload_n dq_76_79 rfl ?_
      refine wp_getf dq_76_80 fl_76_12 (tb_c1 hb) rfl ?_
      refine wp_iload dq_76_83 rfl ?_
      refine wp_iload dq_76_85 rfl ?_
      refine wp_iadd dq_76_87 ?_
      refine wp_cve1 dq_76_88 mt_76_110 (ob_of (tb_c2 hb)) ⟨by decide +kernel, by decide +kernel⟩ (Nat.le_of_ble_eq_true rfl) (Nat.le_of_ble_eq_true rfl) (c_u1At hb hw) ?_
      refine wp_ic_eq (tgt := 96) dq_76_91 rfl (fun c2 => ?_) (fun c2 => ?_)
      · refine wp_iinc (y := ((nI i) + 1)) (lv' := [(0, .ref (b + 1)), (1, .int x), (2, .int y), (3, .int p), (4, .int q), (5, .int ((nI i) + 1))]) dq_76_96 rfl rfl (by decide) rfl ?_
        refine wp_goto (tgt := 57) dq_76_99 rfl ?_
        rw [nI_1]
        unfold f_saL at hq
        rw [if_pos c2] at hq
        exact ih (i + 1) (by omega) hq
      · refine wp_iconst (x := 0) dq_76_94 rfl ?_
        unfold f_saL at hq
        rw [if_neg c2] at hq
        exact wp_ire dq_76_95 rfl ⟨rfl, Or.inr (Or.inl rfl)⟩ hq
set_option maxRecDepth 100000 in
theorem c_same {L : Nat} {xs : Nat → Int32} {d b : Nat} {h : List qx_E} {s : Nat → Int32} {a : Nat → Nat → Int32} {x y : Int32} (hb : tb h b s a) (hw : tw s a) : qe_E L xs (d + 1) 76 [.ref (b + 1), .int x, .int y] h (some (.int (f_same s a x y))) h := by
  show wp_W L xs _ 76 0 [(0, .ref (b + 1)), (1, .int x), (2, .int y)] [] h _
  refine wp_aload_n dq_76_0 rfl ?_
  refine wp_iload_n dq_76_1 rfl ?_
  refine wp_iconst (x := 1) dq_76_2 rfl ?_
  refine wp_cve2 dq_76_3 mt_76_90 (ob_of (tb_c1 hb)) ⟨by decide +kernel, by decide +kernel⟩ (Nat.le_of_ble_eq_true rfl) (Nat.le_of_ble_eq_true rfl) (c_names hb) ?_
  refine wp_if_eq (tgt := 33) dq_76_6 rfl (fun c1 => ?_) (fun c1 => ?_)
  · refine wp_iconst (x := 0) dq_76_33 rfl ?_
    exact wp_ire dq_76_34 rfl ⟨rfl, Or.inr (Or.inl rfl)⟩ ⟨by rw [f_same, if_pos c1], rfl⟩
  · refine wp_aload_n dq_76_9 rfl ?_
    refine wp_iload_n dq_76_10 rfl ?_
    refine wp_iconst (x := 1) dq_76_11 rfl ?_
    refine wp_cve2 dq_76_12 mt_76_90 (ob_of (tb_c1 hb)) ⟨by decide +kernel, by decide +kernel⟩ (Nat.le_of_ble_eq_true rfl) (Nat.le_of_ble_eq_true rfl) (c_names hb) ?_
    refine wp_if_eq (tgt := 33) dq_76_15 rfl (fun c2 => ?_) (fun c2 => ?_)
    · refine wp_iconst (x := 0) dq_76_33 rfl ?_
      exact wp_ire dq_76_34 rfl ⟨rfl, Or.inr (Or.inl rfl)⟩ ⟨by rw [f_same, if_neg c1, if_pos c2], rfl⟩
    · refine wp_aload_n dq_76_18 rfl ?_
      refine wp_getf dq_76_19 fl_76_25 (tb_c1 hb) rfl ?_
      refine wp_iload_n dq_76_22 rfl ?_
      refine wp_iald dq_76_23 (tb_c6 hb) (in_nm c1) ?_
      refine wp_aload_n dq_76_24 rfl ?_
      refine wp_getf dq_76_25 fl_76_25 (tb_c1 hb) rfl ?_
      refine wp_iload_n dq_76_28 rfl ?_
      refine wp_iald dq_76_29 (tb_c6 hb) (in_nm c2) ?_
      refine wp_ic_eq (tgt := 35) dq_76_30 rfl (fun c3 => ?_) (fun c3 => ?_)
      · refine wp_aload_n dq_76_35 rfl ?_
        refine wp_getf dq_76_36 fl_76_22 (tb_c1 hb) rfl ?_
        refine wp_iload_n dq_76_39 rfl ?_
        refine wp_iald dq_76_40 (tb_c5 hb) (in_nm c1) ?_
        refine wp_iconst (x := 3) dq_76_41 rfl ?_
        refine wp_iadd dq_76_42 ?_
        refine wp_istore_n (lv' := [(0, .ref (b + 1)), (1, .int x), (2, .int y), (3, .int (((a 2) (x : Int32).toNatClampNeg) + 3))]) dq_76_43 (by decide) rfl ?_
        refine wp_aload_n dq_76_44 rfl ?_
        refine wp_getf dq_76_45 fl_76_22 (tb_c1 hb) rfl ?_
        refine wp_iload_n dq_76_48 rfl ?_
        refine wp_iald dq_76_49 (tb_c5 hb) (in_nm c2) ?_
        refine wp_iconst (x := 3) dq_76_50 rfl ?_
        refine wp_iadd dq_76_51 ?_
        refine wp_istore (lv' := [(0, .ref (b + 1)), (1, .int x), (2, .int y), (3, .int (((a 2) (x : Int32).toNatClampNeg) + 3)), (4, .int (((a 2) (y : Int32).toNatClampNeg) + 3))]) dq_76_52 (by decide) rfl ?_
        refine wp_iconst (x := 0) dq_76_54 rfl ?_
        refine wp_istore (lv' := [(0, .ref (b + 1)), (1, .int x), (2, .int y), (3, .int (((a 2) (x : Int32).toNatClampNeg) + 3)), (4, .int (((a 2) (y : Int32).toNatClampNeg) + 3)), (5, .int 0)]) dq_76_55 (by decide) rfl ?_
        refine c_saL (in_nm c1) hb hw (a 3 x.toNatClampNeg).toNatClampNeg 0 (by omega) ⟨?_, rfl⟩
        rw [f_same, if_neg c1, if_neg c2, if_pos c3]
      · refine wp_iconst (x := 0) dq_76_33 rfl ?_
        exact wp_ire dq_76_34 rfl ⟨rfl, Or.inr (Or.inl rfl)⟩ ⟨by rw [f_same, if_neg c1, if_neg c2, if_neg c3], rfl⟩
def f_constantTag (s : Nat → Int32) (a : Nat → Nat → Int32) (x : Int32) : Int32 := (if (f_spells s a x 16) = 0 then (if (f_names s a x 1) = 0 then (-1) else (if ((a 3) (x : Int32).toNatClampNeg) = 1 then (if (f_characterOf s a x 0) = 66 then 3 else (if (f_characterOf s a x 0) = 67 then 3 else (if (f_characterOf s a x 0) = 68 then 6 else (if (f_characterOf s a x 0) = 70 then 4 else (if (f_characterOf s a x 0) = 73 then 3 else (if (f_characterOf s a x 0) = 74 then 5 else (if (f_characterOf s a x 0) = 83 then 3 else (if (f_characterOf s a x 0) = 90 then 3 else (-1))))))))) else (-1))) else 8)
set_option maxRecDepth 100000 in
theorem c_constantTag {L : Nat} {xs : Nat → Int32} {d : Nat} {h : List qx_E} {b : Nat} {s : Nat → Int32} {a : Nat → Nat → Int32} {x : Int32} (hb : tb h b s a) (hw : tw s a) : qe_E L xs (d + 5) 100 [.ref (b + 1), .int x] h (some (.int (f_constantTag s a x))) h := by
  show wp_W L xs _ 100 0 [(0, .ref (b + 1)), (1, .int x)] [] h _
  refine wp_aload_n dq_100_0 rfl ?_
  refine wp_iload_n dq_100_1 rfl ?_
  refine wp_ldc (v := .retAddr 16) dq_100_2 (by decide +kernel) ?_
  refine wp_cve2 dq_100_4 mt_100_98 (ob_of (tb_c1 hb)) ⟨by decide +kernel, by decide +kernel⟩ (Nat.le_of_ble_eq_true rfl) (Nat.le_of_ble_eq_true rfl) (c_spells (by decide) hb hw) ?_
  refine wp_if_eq (tgt := 13) dq_100_7 rfl (fun c1 => ?_) (fun c1 => ?_)
  · refine wp_aload_n dq_100_13 rfl ?_
    refine wp_iload_n dq_100_14 rfl ?_
    refine wp_iconst (x := 1) dq_100_15 rfl ?_
    refine wp_cve2 dq_100_16 mt_100_90 (ob_of (tb_c1 hb)) ⟨by decide +kernel, by decide +kernel⟩ (Nat.le_of_ble_eq_true rfl) (Nat.le_of_ble_eq_true rfl) (c_names hb) ?_
    refine wp_if_eq (tgt := 32) dq_100_19 rfl (fun c2 => ?_) (fun c2 => ?_)
    · refine wp_iconst (x := -1) dq_100_32 rfl ?_
      exact wp_ire dq_100_33 rfl ⟨rfl, Or.inl rfl⟩ ⟨by rw [f_constantTag, if_pos c1, if_pos c2], rfl⟩
    · refine wp_aload_n dq_100_22 rfl ?_
      refine wp_getf dq_100_23 fl_100_25 (tb_c1 hb) rfl ?_
      refine wp_iload_n dq_100_26 rfl ?_
      refine wp_iald dq_100_27 (tb_c6 hb) (in_nm c2) ?_
      refine wp_iconst (x := 1) dq_100_28 rfl ?_
      refine wp_ic_eq (tgt := 34) dq_100_29 rfl (fun c3 => ?_) (fun c3 => ?_)
      · refine wp_aload_n dq_100_34 rfl ?_
        refine wp_iload_n dq_100_35 rfl ?_
        refine wp_iconst (x := 0) dq_100_36 rfl ?_
        refine wp_cve2 dq_100_37 mt_100_127 (ob_of (tb_c1 hb)) ⟨by decide +kernel, by decide +kernel⟩ (Nat.le_of_ble_eq_true rfl) (Nat.le_of_ble_eq_true rfl) (c_characterOf hb hw) ?_
        rcases Decidable.em ((f_characterOf s a x 0) = 66) with c4 | c4
        · refine wp_tab (off := 116) (tgt := 156) dq_100_40 (by rw [c4]; decide) rfl ?_
          refine wp_iconst (x := 3) dq_100_156 rfl ?_
          exact wp_ire dq_100_157 rfl ⟨rfl, Or.inl rfl⟩ ⟨by rw [f_constantTag, if_pos c1, if_neg c2, if_pos c3, if_pos c4], rfl⟩
        · rcases Decidable.em ((f_characterOf s a x 0) = 67) with c5 | c5
          · refine wp_tab (off := 116) (tgt := 156) dq_100_40 (by rw [c5]; decide) rfl ?_
            refine wp_iconst (x := 3) dq_100_156 rfl ?_
            exact wp_ire dq_100_157 rfl ⟨rfl, Or.inl rfl⟩ ⟨by rw [f_constantTag, if_pos c1, if_neg c2, if_pos c3, if_neg c4, if_pos c5], rfl⟩
          · rcases Decidable.em ((f_characterOf s a x 0) = 68) with c6 | c6
            · refine wp_tab (off := 122) (tgt := 162) dq_100_40 (by rw [c6]; decide) rfl ?_
              refine wp_bipush (x := 6) dq_100_162 rfl ?_
              exact wp_ire dq_100_164 rfl ⟨rfl, Or.inl rfl⟩ ⟨by rw [f_constantTag, if_pos c1, if_neg c2, if_pos c3, if_neg c4, if_neg c5, if_pos c6], rfl⟩
            · rcases Decidable.em ((f_characterOf s a x 0) = 70) with c7 | c7
              · refine wp_tab (off := 118) (tgt := 158) dq_100_40 (by rw [c7]; decide) rfl ?_
                refine wp_iconst (x := 4) dq_100_158 rfl ?_
                exact wp_ire dq_100_159 rfl ⟨rfl, Or.inl rfl⟩ ⟨by rw [f_constantTag, if_pos c1, if_neg c2, if_pos c3, if_neg c4, if_neg c5, if_neg c6, if_pos c7], rfl⟩
              · rcases Decidable.em ((f_characterOf s a x 0) = 73) with c8 | c8
                · refine wp_tab (off := 116) (tgt := 156) dq_100_40 (by rw [c8]; decide) rfl ?_
                  refine wp_iconst (x := 3) dq_100_156 rfl ?_
                  exact wp_ire dq_100_157 rfl ⟨rfl, Or.inl rfl⟩ ⟨by rw [f_constantTag, if_pos c1, if_neg c2, if_pos c3, if_neg c4, if_neg c5, if_neg c6, if_neg c7, if_pos c8], rfl⟩
                · rcases Decidable.em ((f_characterOf s a x 0) = 74) with c9 | c9
                  · refine wp_tab (off := 120) (tgt := 160) dq_100_40 (by rw [c9]; decide) rfl ?_
                    refine wp_iconst (x := 5) dq_100_160 rfl ?_
                    exact wp_ire dq_100_161 rfl ⟨rfl, Or.inl rfl⟩ ⟨by rw [f_constantTag, if_pos c1, if_neg c2, if_pos c3, if_neg c4, if_neg c5, if_neg c6, if_neg c7, if_neg c8, if_pos c9], rfl⟩
                  · rcases Decidable.em ((f_characterOf s a x 0) = 83) with c10 | c10
                    · refine wp_tab (off := 116) (tgt := 156) dq_100_40 (by rw [c10]; decide) rfl ?_
                      refine wp_iconst (x := 3) dq_100_156 rfl ?_
                      exact wp_ire dq_100_157 rfl ⟨rfl, Or.inl rfl⟩ ⟨by rw [f_constantTag, if_pos c1, if_neg c2, if_pos c3, if_neg c4, if_neg c5, if_neg c6, if_neg c7, if_neg c8, if_neg c9, if_pos c10], rfl⟩
                    · rcases Decidable.em ((f_characterOf s a x 0) = 90) with c11 | c11
                      · refine wp_tab (off := 116) (tgt := 156) dq_100_40 (by rw [c11]; decide) rfl ?_
                        refine wp_iconst (x := 3) dq_100_156 rfl ?_
                        exact wp_ire dq_100_157 rfl ⟨rfl, Or.inl rfl⟩ ⟨by rw [f_constantTag, if_pos c1, if_neg c2, if_pos c3, if_neg c4, if_neg c5, if_neg c6, if_neg c7, if_neg c8, if_neg c9, if_neg c10, if_pos c11], rfl⟩
                      · refine wp_tab (off := 125) (tgt := 165) dq_100_40 (tab_def [66, 67, 68, 70, 73, 74, 83, 90] (List.forall_mem_cons.mpr ⟨c4, List.forall_mem_cons.mpr ⟨c5, List.forall_mem_cons.mpr ⟨c6, List.forall_mem_cons.mpr ⟨c7, List.forall_mem_cons.mpr ⟨c8, List.forall_mem_cons.mpr ⟨c9, List.forall_mem_cons.mpr ⟨c10, List.forall_mem_cons.mpr ⟨c11, fun _ h => absurd h List.not_mem_nil⟩⟩⟩⟩⟩⟩⟩⟩) (by decide) (by decide) (by decide)) rfl ?_
                        refine wp_iconst (x := -1) dq_100_165 rfl ?_
                        exact wp_ire dq_100_166 rfl ⟨rfl, Or.inl rfl⟩ ⟨by rw [f_constantTag, if_pos c1, if_neg c2, if_pos c3, if_neg c4, if_neg c5, if_neg c6, if_neg c7, if_neg c8, if_neg c9, if_neg c10, if_neg c11], rfl⟩
      · refine wp_iconst (x := -1) dq_100_32 rfl ?_
        exact wp_ire dq_100_33 rfl ⟨rfl, Or.inl rfl⟩ ⟨by rw [f_constantTag, if_pos c1, if_neg c2, if_neg c3], rfl⟩
  · refine wp_bipush (x := 8) dq_100_10 rfl ?_
    exact wp_ire dq_100_12 rfl ⟨rfl, Or.inl rfl⟩ ⟨by rw [f_constantTag, if_neg c1], rfl⟩

def f_isList (w : Nat) : Int32 := (if (qx_esz.getD (w - 1) 0) = 0 then 0 else 1)
theorem b_isList (w : Nat) : f_isList w = 0 ∨ f_isList w = 1 := by
  unfold f_isList
  repeat' split
  all_goals first | exact Or.inl rfl | exact Or.inr rfl
set_option maxRecDepth 100000 in
theorem c_isList {L : Nat} {xs : Nat → Int32} {d : Nat} {h : List qx_E}  {w : Nat} (he : qx_en w = true) : qe_E L xs d 96 [.retAddr w] h (some (.int (f_isList w))) h := by
  show wp_W L xs _ 96 0 [(0, .retAddr w)] [] h _
  refine wp_aload_nK dq_96_0 rfl ?_
  refine wp_getk dq_96_1 fl_96_64 (ko_e he) rfl ?_
  refine wp_if_eq (tgt := 11) dq_96_4 rfl (fun c1 => ?_) (fun c1 => ?_)
  · refine wp_iconst (x := 0) dq_96_11 rfl ?_
    exact wp_ire dq_96_12 rfl ⟨by decide, Or.inr (Or.inl rfl)⟩ ⟨by rw [f_isList, if_pos c1], rfl⟩
  · refine wp_iconst (x := 1) dq_96_7 rfl ?_
    refine wp_goto (tgt := 12) dq_96_8 rfl ?_
    exact wp_ire dq_96_12 rfl ⟨by decide, Or.inr (Or.inl rfl)⟩ ⟨by rw [f_isList, if_neg c1], rfl⟩

def f_fdL (s : Nat → Int32) (a : Nat → Nat → Int32) (x y : Int32) : Nat → Nat → Option Nat
  | 0, _ => none
  | j + 1, i => if ((qx_etb.getD i 0 >>> (y &&& 31)) &&& 1) = 0 then f_fdL s a x y j (i + 1) else if f_spells s a x (qx_ttl.getD i 0) = 0 then f_fdL s a x y j (i + 1) else some (i + 1)
def kv (w : Option Nat) : Value := match w with
  | some k => .retAddr k
  | none => .null
theorem ttl_in : ∀ i, i < 9 → 11 ≤ qx_ttl.getD i 0 ∧ qx_ttl.getD i 0 < 26 := by decide +kernel
set_option maxRecDepth 100000 in
theorem c_fdL {L : Nat} {xs : Nat → Int32} {d b : Nat} {h : List qx_E} {s : Nat → Int32} {a : Nat → Nat → Int32} {x y : Int32} {Q : Option Value → List qx_E → Prop} (hb : tb h b s a) (hw : tw s a) : ∀ j i, i + j = 9 → Q (some (kv (f_fdL s a x y j i))) h → wp_W L xs (d + 5) 92 2 [(0, .ref (b + 1)), (1, .int x), (2, .int y), (3, .int (nI i))] [] h Q := by
  intro j
  induction j with
  | zero =>
    intro i hi hq
    refine wp_iload_n dq_92_2 rfl ?_
    refine wp_gets (v := .retAddr 10) dq_92_3 (by decide +kernel) ?_
    refine wp_alenK (a := 9) dq_92_6 rfl ?_
    refine wp_ic_ge (tgt := 53) dq_92_7 rfl (fun c1 => ?_) (fun c1 => absurd (nI_le (a := 9) (b := i) (by omega) (by omega)) c1)
    refine wp_null dq_92_53 ?_
    exact wp_areN dq_92_54 rfl hq
  | succ j ih =>
    intro i hi hq
    have hcl : (nI i).toNatClampNeg = i := nI_clamp (by omega)
    have hin : qx_in (nI i) 9 = true := qx_in_n (by omega) (by decide)
    have he : qx_en (i + 1) = true := by simp [qx_en]; omega
    refine wp_iload_n dq_92_2 rfl ?_
    refine wp_gets (v := .retAddr 10) dq_92_3 (by decide +kernel) ?_
    refine wp_alenK (a := 9) dq_92_6 rfl ?_
    refine wp_ic_ge (tgt := 53) dq_92_7 rfl (fun c1 => ?_) (fun c1 => ?_)
    · refine wp_null dq_92_53 ?_
      exact absurd c1 (nI_ge (a := i) (b := 9) (by omega) (by decide))
    · refine wp_gets (v := .retAddr 10) dq_92_10 (by decide +kernel) ?_
      refine wp_iload_n dq_92_13 rfl ?_
      refine wp_aaldK (a := 9) dq_92_14 rfl hin ?_
      try dsimp only
      rw [hcl]
      refine wp_getk dq_92_15 fl_92_58 (ko_e he) rfl ?_
      rw [show i + 1 - 1 = i from rfl]
      refine wp_iload_n dq_92_18 rfl ?_
      refine wp_ishr dq_92_19 ?_
      refine wp_iconst (x := 1) dq_92_20 rfl ?_
      refine wp_iand dq_92_21 ?_
      refine wp_if_eq (tgt := 47) dq_92_22 rfl (fun c2 => ?_) (fun c2 => ?_)
      · refine wp_iinc (y := ((nI i) + 1)) (lv' := [(0, .ref (b + 1)), (1, .int x), (2, .int y), (3, .int ((nI i) + 1))]) dq_92_47 rfl rfl (by decide) rfl ?_
        refine wp_goto (tgt := 2) dq_92_50 rfl ?_
        rw [nI_1]
        unfold f_fdL at hq
        rw [if_pos c2] at hq
        exact ih (i + 1) (by omega) hq
      · refine wp_aload_n dq_92_25 rfl ?_
        refine wp_iload_n dq_92_26 rfl ?_
        refine wp_gets (v := .retAddr 10) dq_92_27 (by decide +kernel) ?_
        refine wp_iload_n dq_92_30 rfl ?_
        refine wp_aaldK (a := 9) dq_92_31 rfl hin ?_
        try dsimp only
        rw [hcl]
        refine wp_getk dq_92_32 fl_92_50 (ko_e he) rfl ?_
        rw [show i + 1 - 1 = i from rfl]
        refine wp_cve2 dq_92_35 mt_92_70 (ob_of (tb_c1 hb)) ⟨by decide +kernel, by decide +kernel⟩ (Nat.le_of_ble_eq_true rfl) (Nat.le_of_ble_eq_true rfl) (c_spells (ttl_in i (by omega)) hb hw) ?_
        refine wp_if_eq (tgt := 47) dq_92_38 rfl (fun c3 => ?_) (fun c3 => ?_)
        · refine wp_iinc (y := ((nI i) + 1)) (lv' := [(0, .ref (b + 1)), (1, .int x), (2, .int y), (3, .int ((nI i) + 1))]) dq_92_47 rfl rfl (by decide) rfl ?_
          refine wp_goto (tgt := 2) dq_92_50 rfl ?_
          rw [nI_1]
          unfold f_fdL at hq
          rw [if_neg c2, if_pos c3] at hq
          exact ih (i + 1) (by omega) hq
        · refine wp_gets (v := .retAddr 10) dq_92_41 (by decide +kernel) ?_
          refine wp_iload_n dq_92_44 rfl ?_
          refine wp_aaldK (a := 9) dq_92_45 rfl hin ?_
          try dsimp only
          rw [hcl]
          unfold f_fdL at hq
          rw [if_neg c2, if_neg c3] at hq
          exact wp_areK dq_92_46 rfl hq
set_option maxRecDepth 100000 in
theorem c_find {L : Nat} {xs : Nat → Int32} {d b : Nat} {h : List qx_E} {s : Nat → Int32} {a : Nat → Nat → Int32} {x y : Int32} (hb : tb h b s a) (hw : tw s a) : qe_E L xs (d + 5) 92 [.ref (b + 1), .int x, .int y] h (some (kv (f_fdL s a x y 9 0))) h := by
  show wp_W L xs _ 92 0 [(0, .ref (b + 1)), (1, .int x), (2, .int y)] [] h _
  refine wp_iconst (x := 0) dq_92_0 rfl ?_
  refine wp_istore_n (lv' := [(0, .ref (b + 1)), (1, .int x), (2, .int y), (3, .int 0)]) dq_92_1 (by decide) rfl ?_
  exact c_fdL hb hw 9 0 rfl ⟨rfl, rfl⟩
