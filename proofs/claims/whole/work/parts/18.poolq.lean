/-- where a table of jumps goes -/
def qx_tab (dflt lo hi : Int) (offs : Array Int) (z : Int) : Option Int := if z < lo ∨ hi < z then some dflt else offs[(z - lo).toNat]?
theorem wp_tab {L : Nat} {xs : Nat → Int32} {d m pc tgt len : Nat} {lv : qx_L} {r : List Value} {h : List qx_E} {Q : Option Value → List qx_E → Prop} {off dflt lo hi : Int} {offs : Array Int} {x : Int32} (hd : decode (qx_code m) pc = .ok (.tableswitch dflt lo hi offs, len)) (ho : qx_tab dflt lo hi offs x.toInt = some off) (ht : (pc : Int) + off = (tgt : Int)) (kk : wp_W L xs d m tgt lv r h Q) : wp_W L xs d m pc lv (.int x :: r) h Q := by
  unfold qx_tab at ho
  split at ho
  · rename_i hx
    cases ho
    exact wp_tabO hd hx ht kk
  · rename_i hx
    exact wp_tabI hd (fun q => hx (Or.inl q)) (fun q => hx (Or.inr q)) ho ht kk
theorem tab_def {dflt lo hi : Int} {offs : Array Int} {x : Int32} (ks : List Int32) (hk : ∀ k ∈ ks, ¬ x = k) (hd : ∀ i : Nat, i < offs.size → Int32.ofInt (lo + i) ∈ ks ∨ offs[i]? = some dflt) (h1 : hi - lo < offs.size) (h2 : -2147483648 ≤ lo ∧ hi ≤ 2147483647) : qx_tab dflt lo hi offs x.toInt = some dflt := by
  unfold qx_tab
  split
  · rfl
  · rename_i hx
    have h3 : (x.toInt - lo).toNat < offs.size := by omega
    rcases hd _ h3 with h4 | h4
    · have h5 : lo + ((x.toInt - lo).toNat : Int) = x.toInt := by omega
      rw [h5, Int32.ofInt_toInt] at h4
      exact absurd rfl (hk _ h4)
    · exact h4
theorem in_64 {x : Int32} (h1 : ¬ x < 1) (h2 : ¬ 64 ≤ x) : qx_in x 64 = true := by
  have h0 : ¬ x < 0 := fun q => h1 (Int32.lt_trans q (by decide))
  obtain ⟨j, hj, rfl⟩ := nI_of h0
  refine qx_in_n ?_ (by decide)
  rcases Nat.lt_or_ge j 64 with q | q
  · exact q
  · exact absurd (nI_le q hj) h2
theorem in_64' {x : Int32} (h1 : ¬ x < 1) (h2 : x < 64) : qx_in x 64 = true := in_64 h1 (fun q => Int32.lt_irrefl (Int32.lt_of_lt_of_le h2 q))
def f_names (s : Nat → Int32) (a : Nat → Nat → Int32) (x : Int32) (t : Int32) : Int32 := (if x < 1 then 0 else (if 64 ≤ x then 0 else (if ((a 1) (x : Int32).toNatClampNeg) = t then 1 else 0)))
theorem b_names (s : Nat → Int32) (a : Nat → Nat → Int32) (x : Int32) (t : Int32) : f_names s a x t = 0 ∨ f_names s a x t = 1 := by
  unfold f_names
  repeat' split
  all_goals first | exact Or.inl rfl | exact Or.inr rfl
set_option maxRecDepth 100000 in
theorem c_names {L : Nat} {xs : Nat → Int32} {d : Nat} {h : List qx_E} {b : Nat} {s : Nat → Int32} {a : Nat → Nat → Int32} {x : Int32} {t : Int32} (hb : tb h b s a) : qe_E L xs d 55 [.ref (b + 1), .int x, .int t] h (some (.int (f_names s a x t))) h := by
  show wp_W L xs _ 55 0 [(0, .ref (b + 1)), (1, .int x), (2, .int t)] [] h _
  refine wp_iload_n dq_55_0 rfl ?_
  refine wp_iconst (x := 1) dq_55_1 rfl ?_
  refine wp_ic_lt (tgt := 25) dq_55_2 rfl (fun c1 => ?_) (fun c1 => ?_)
  · refine wp_iconst (x := 0) dq_55_25 rfl ?_
    exact wp_ire dq_55_26 rfl ⟨by decide, Or.inr (Or.inl rfl)⟩ ⟨by rw [f_names, if_pos c1], rfl⟩
  · refine wp_iload_n dq_55_5 rfl ?_
    refine wp_bipush (x := 64) dq_55_6 rfl ?_
    refine wp_ic_ge (tgt := 25) dq_55_8 rfl (fun c2 => ?_) (fun c2 => ?_)
    · refine wp_iconst (x := 0) dq_55_25 rfl ?_
      exact wp_ire dq_55_26 rfl ⟨by decide, Or.inr (Or.inl rfl)⟩ ⟨by rw [f_names, if_neg c1, if_pos c2], rfl⟩
    · refine wp_aload_n dq_55_11 rfl ?_
      refine wp_getf dq_55_12 fl_55_18 (tb_c1 hb) rfl ?_
      refine wp_iload_n dq_55_15 rfl ?_
      refine wp_iald dq_55_16 (tb_c4 hb) (in_64 c1 c2) ?_
      refine wp_iload_n dq_55_17 rfl ?_
      refine wp_ic_ne (tgt := 25) dq_55_18 rfl (fun c3 => ?_) (fun c3 => ?_)
      · refine wp_iconst (x := 0) dq_55_25 rfl ?_
        exact wp_ire dq_55_26 rfl ⟨by decide, Or.inr (Or.inl rfl)⟩ ⟨by rw [f_names, if_neg c1, if_neg c2, if_neg c3], rfl⟩
      · refine wp_iconst (x := 1) dq_55_21 rfl ?_
        refine wp_goto (tgt := 26) dq_55_22 rfl ?_
        exact wp_ire dq_55_26 rfl ⟨by decide, Or.inr (Or.inl rfl)⟩ ⟨by rw [f_names, if_neg c1, if_neg c2, if_pos c3], rfl⟩

theorem in_nm {s : Nat → Int32} {a : Nat → Nat → Int32} {x t : Int32} (h : ¬ f_names s a x t = 0) : qx_in x 64 = true := by
  unfold f_names at h
  split at h
  · exact absurd rfl h
  · split at h
    · exact absurd rfl h
    · exact in_64 (by assumption) (by assumption)
def f_hasShape (s : Nat → Int32) (a : Nat → Nat → Int32) (x : Int32) (w : Int32) : Int32 := (if (f_names s a x 1) = 0 then 0 else (if (((a 4) (x : Int32).toNatClampNeg) &&& w) = 0 then 0 else 1))
theorem b_hasShape (s : Nat → Int32) (a : Nat → Nat → Int32) (x : Int32) (w : Int32) : f_hasShape s a x w = 0 ∨ f_hasShape s a x w = 1 := by
  unfold f_hasShape
  repeat' split
  all_goals first | exact Or.inl rfl | exact Or.inr rfl
set_option maxRecDepth 100000 in
theorem c_hasShape {L : Nat} {xs : Nat → Int32} {d : Nat} {h : List qx_E} {b : Nat} {s : Nat → Int32} {a : Nat → Nat → Int32} {x : Int32} {w : Int32} (hb : tb h b s a) : qe_E L xs (d + 1) 56 [.ref (b + 1), .int x, .int w] h (some (.int (f_hasShape s a x w))) h := by
  show wp_W L xs _ 56 0 [(0, .ref (b + 1)), (1, .int x), (2, .int w)] [] h _
  refine wp_aload_n dq_56_0 rfl ?_
  refine wp_iload_n dq_56_1 rfl ?_
  refine wp_iconst (x := 1) dq_56_2 rfl ?_
  refine wp_cve2 dq_56_3 mt_56_90 (ob_of (tb_c1 hb)) ⟨by decide +kernel, by decide +kernel⟩ (Nat.le_of_ble_eq_true rfl) (Nat.le_of_ble_eq_true rfl) (c_names hb) ?_
  refine wp_if_eq (tgt := 24) dq_56_6 rfl (fun c1 => ?_) (fun c1 => ?_)
  · refine wp_iconst (x := 0) dq_56_24 rfl ?_
    exact wp_ire dq_56_25 rfl ⟨by decide, Or.inr (Or.inl rfl)⟩ ⟨by rw [f_hasShape, if_pos c1], rfl⟩
  · refine wp_aload_n dq_56_9 rfl ?_
    refine wp_getf dq_56_10 fl_56_28 (tb_c1 hb) rfl ?_
    refine wp_iload_n dq_56_13 rfl ?_
    refine wp_iald dq_56_14 (tb_c7 hb) (in_nm c1) ?_
    refine wp_iload_n dq_56_15 rfl ?_
    refine wp_iand dq_56_16 ?_
    refine wp_if_eq (tgt := 24) dq_56_17 rfl (fun c2 => ?_) (fun c2 => ?_)
    · refine wp_iconst (x := 0) dq_56_24 rfl ?_
      exact wp_ire dq_56_25 rfl ⟨by decide, Or.inr (Or.inl rfl)⟩ ⟨by rw [f_hasShape, if_neg c1, if_pos c2], rfl⟩
    · refine wp_iconst (x := 1) dq_56_20 rfl ?_
      refine wp_goto (tgt := 25) dq_56_21 rfl ?_
      exact wp_ire dq_56_25 rfl ⟨by decide, Or.inr (Or.inl rfl)⟩ ⟨by rw [f_hasShape, if_neg c1, if_neg c2], rfl⟩

def f_classText (s : Nat → Int32) (a : Nat → Nat → Int32) (x : Int32) : Int32 := (if (f_names s a x 7) = 0 then 0 else (f_u2At s a (((a 2) (x : Int32).toNatClampNeg) + 1)))
set_option maxRecDepth 100000 in
theorem c_classText {L : Nat} {xs : Nat → Int32} {d : Nat} {h : List qx_E} {b : Nat} {s : Nat → Int32} {a : Nat → Nat → Int32} {x : Int32} (hb : tb h b s a) (hw : tw s a) : qe_E L xs (d + 2) 72 [.ref (b + 1), .int x] h (some (.int (f_classText s a x))) h := by
  show wp_W L xs _ 72 0 [(0, .ref (b + 1)), (1, .int x)] [] h _
  refine wp_aload_n dq_72_0 rfl ?_
  refine wp_iload_n dq_72_1 rfl ?_
  refine wp_bipush (x := 7) dq_72_2 rfl ?_
  refine wp_cve2 dq_72_4 mt_72_90 (ob_of (tb_c1 hb)) ⟨by decide +kernel, by decide +kernel⟩ (Nat.le_of_ble_eq_true rfl) (Nat.le_of_ble_eq_true rfl) (c_names hb) ?_
  refine wp_if_eq (tgt := 28) dq_72_7 rfl (fun c1 => ?_) (fun c1 => ?_)
  · refine wp_iconst (x := 0) dq_72_28 rfl ?_
    exact wp_ire dq_72_29 rfl ⟨rfl, Or.inl rfl⟩ ⟨by rw [f_classText, if_pos c1], rfl⟩
  · refine wp_aload_n dq_72_10 rfl ?_
    refine wp_getf dq_72_11 fl_72_12 (tb_c1 hb) rfl ?_
    refine wp_aload_n dq_72_14 rfl ?_
    refine wp_getf dq_72_15 fl_72_22 (tb_c1 hb) rfl ?_
    refine wp_iload_n dq_72_18 rfl ?_
    refine wp_iald dq_72_19 (tb_c5 hb) (in_nm c1) ?_
    refine wp_iconst (x := 1) dq_72_20 rfl ?_
    refine wp_iadd dq_72_21 ?_
    refine wp_cve1 dq_72_22 mt_72_86 (ob_of (tb_c2 hb)) ⟨by decide +kernel, by decide +kernel⟩ (Nat.le_of_ble_eq_true rfl) (Nat.le_of_ble_eq_true rfl) (c_u2At hb hw) ?_
    refine wp_goto (tgt := 29) dq_72_25 rfl ?_
    exact wp_ire dq_72_29 rfl ⟨rfl, Or.inl rfl⟩ ⟨by rw [f_classText, if_neg c1], rfl⟩

def f_isNamedClass (s : Nat → Int32) (a : Nat → Nat → Int32) (x : Int32) : Int32 := (f_hasShape s a (f_classText s a x) 1)
theorem b_isNamedClass (s : Nat → Int32) (a : Nat → Nat → Int32) (x : Int32) : f_isNamedClass s a x = 0 ∨ f_isNamedClass s a x = 1 := by
  unfold f_isNamedClass
  repeat' split
  all_goals first | exact b_hasShape _ _ _ _ | exact Or.inl rfl | exact Or.inr rfl
set_option maxRecDepth 100000 in
theorem c_isNamedClass {L : Nat} {xs : Nat → Int32} {d : Nat} {h : List qx_E} {b : Nat} {s : Nat → Int32} {a : Nat → Nat → Int32} {x : Int32} (hb : tb h b s a) (hw : tw s a) : qe_E L xs (d + 3) 71 [.ref (b + 1), .int x] h (some (.int (f_isNamedClass s a x))) h := by
  show wp_W L xs _ 71 0 [(0, .ref (b + 1)), (1, .int x)] [] h _
  refine wp_aload_n dq_71_0 rfl ?_
  refine wp_aload_n dq_71_1 rfl ?_
  refine wp_iload_n dq_71_2 rfl ?_
  refine wp_cve1 dq_71_3 mt_71_102 (ob_of (tb_c1 hb)) ⟨by decide +kernel, by decide +kernel⟩ (Nat.le_of_ble_eq_true rfl) (Nat.le_of_ble_eq_true rfl) (c_classText hb hw) ?_
  refine wp_iconst (x := 1) dq_71_6 rfl ?_
  refine wp_cve2 dq_71_7 mt_71_94 (ob_of (tb_c1 hb)) ⟨by decide +kernel, by decide +kernel⟩ (Nat.le_of_ble_eq_true rfl) (Nat.le_of_ble_eq_true rfl) (c_hasShape hb) ?_
  exact wp_ire dq_71_10 rfl ⟨nb_01 (b_hasShape _ _ _ _), Or.inr (Or.inl rfl)⟩ ⟨by rw [f_isNamedClass], rfl⟩

def f_characterOf (s : Nat → Int32) (a : Nat → Nat → Int32) (x : Int32) (i : Int32) : Int32 := (if (f_names s a x 1) = 0 then (-1) else (if i < 0 then (-1) else (if i < ((a 3) (x : Int32).toNatClampNeg) then (f_u1At s a ((((a 2) (x : Int32).toNatClampNeg) + 3) + i)) else (-1))))
set_option maxRecDepth 100000 in
theorem c_characterOf {L : Nat} {xs : Nat → Int32} {d : Nat} {h : List qx_E} {b : Nat} {s : Nat → Int32} {a : Nat → Nat → Int32} {x : Int32} {i : Int32} (hb : tb h b s a) (hw : tw s a) : qe_E L xs (d + 1) 101 [.ref (b + 1), .int x, .int i] h (some (.int (f_characterOf s a x i))) h := by
  show wp_W L xs _ 101 0 [(0, .ref (b + 1)), (1, .int x), (2, .int i)] [] h _
  refine wp_aload_n dq_101_0 rfl ?_
  refine wp_iload_n dq_101_1 rfl ?_
  refine wp_iconst (x := 1) dq_101_2 rfl ?_
  refine wp_cve2 dq_101_3 mt_101_90 (ob_of (tb_c1 hb)) ⟨by decide +kernel, by decide +kernel⟩ (Nat.le_of_ble_eq_true rfl) (Nat.le_of_ble_eq_true rfl) (c_names hb) ?_
  refine wp_if_eq (tgt := 23) dq_101_6 rfl (fun c1 => ?_) (fun c1 => ?_)
  · refine wp_iconst (x := -1) dq_101_23 rfl ?_
    exact wp_ire dq_101_24 rfl ⟨rfl, Or.inl rfl⟩ ⟨by rw [f_characterOf, if_pos c1], rfl⟩
  · refine wp_iload_n dq_101_9 rfl ?_
    refine wp_if_lt (tgt := 23) dq_101_10 rfl (fun c2 => ?_) (fun c2 => ?_)
    · refine wp_iconst (x := -1) dq_101_23 rfl ?_
      exact wp_ire dq_101_24 rfl ⟨rfl, Or.inl rfl⟩ ⟨by rw [f_characterOf, if_neg c1, if_pos c2], rfl⟩
    · refine wp_iload_n dq_101_13 rfl ?_
      refine wp_aload_n dq_101_14 rfl ?_
      refine wp_getf dq_101_15 fl_101_25 (tb_c1 hb) rfl ?_
      refine wp_iload_n dq_101_18 rfl ?_
      refine wp_iald dq_101_19 (tb_c6 hb) (in_nm c1) ?_
      refine wp_ic_lt (tgt := 25) dq_101_20 rfl (fun c3 => ?_) (fun c3 => ?_)
      · refine wp_aload_n dq_101_25 rfl ?_
        refine wp_getf dq_101_26 fl_101_12 (tb_c1 hb) rfl ?_
        refine wp_aload_n dq_101_29 rfl ?_
        refine wp_getf dq_101_30 fl_101_22 (tb_c1 hb) rfl ?_
        refine wp_iload_n dq_101_33 rfl ?_
        refine wp_iald dq_101_34 (tb_c5 hb) (in_nm c1) ?_
        refine wp_iconst (x := 3) dq_101_35 rfl ?_
        refine wp_iadd dq_101_36 ?_
        refine wp_iload_n dq_101_37 rfl ?_
        refine wp_iadd dq_101_38 ?_
        refine wp_cve1 dq_101_39 mt_101_110 (ob_of (tb_c2 hb)) ⟨by decide +kernel, by decide +kernel⟩ (Nat.le_of_ble_eq_true rfl) (Nat.le_of_ble_eq_true rfl) (c_u1At hb hw) ?_
        exact wp_ire dq_101_42 rfl ⟨rfl, Or.inl rfl⟩ ⟨by rw [f_characterOf, if_neg c1, if_neg c2, if_pos c3], rfl⟩
      · refine wp_iconst (x := -1) dq_101_23 rfl ?_
        exact wp_ire dq_101_24 rfl ⟨rfl, Or.inl rfl⟩ ⟨by rw [f_characterOf, if_neg c1, if_neg c2, if_neg c3], rfl⟩

def f_constantOf (s : Nat → Int32) (a : Nat → Nat → Int32) (x : Int32) : Int64 := (if x < 1 then 1000000000000000000 else (if x < 64 then (if ((a 1) (x : Int32).toNatClampNeg) = 3 then (((f_numberAt s a (((a 2) (x : Int32).toNatClampNeg) + 1) 4) : Int64).toInt32 : Int32).toInt64 else (if ((a 1) (x : Int32).toNatClampNeg) = 4 then (((f_numberAt s a (((a 2) (x : Int32).toNatClampNeg) + 1) 4) : Int64).toInt32 : Int32).toInt64 else (if ((a 1) (x : Int32).toNatClampNeg) = 5 then (if (lg_cmp (f_numberAt s a (((a 2) (x : Int32).toNatClampNeg) + 1) 8) (-1000000000000000000)) ≤ 0 then 1000000000000000000 else (if 0 ≤ (lg_cmp (f_numberAt s a (((a 2) (x : Int32).toNatClampNeg) + 1) 8) 1000000000000000000) then 1000000000000000000 else (f_numberAt s a (((a 2) (x : Int32).toNatClampNeg) + 1) 8))) else (if ((a 1) (x : Int32).toNatClampNeg) = 6 then (if (lg_cmp (f_numberAt s a (((a 2) (x : Int32).toNatClampNeg) + 1) 8) (-1000000000000000000)) ≤ 0 then 1000000000000000000 else (if 0 ≤ (lg_cmp (f_numberAt s a (((a 2) (x : Int32).toNatClampNeg) + 1) 8) 1000000000000000000) then 1000000000000000000 else (f_numberAt s a (((a 2) (x : Int32).toNatClampNeg) + 1) 8))) else (if ((a 1) (x : Int32).toNatClampNeg) = 8 then (if (f_names s a (f_u2At s a (((a 2) (x : Int32).toNatClampNeg) + 1)) 1) = 0 then 1000000000000000000 else (((a 3) ((f_u2At s a (((a 2) (x : Int32).toNatClampNeg) + 1)) : Int32).toNatClampNeg) : Int32).toInt64) else 1000000000000000000))))) else 1000000000000000000))
set_option maxRecDepth 100000 in
theorem c_constantOf {L : Nat} {xs : Nat → Int32} {d : Nat} {h : List qx_E} {b : Nat} {s : Nat → Int32} {a : Nat → Nat → Int32} {x : Int32} (hb : tb h b s a) (hw : tw s a) : qe_E L xs (d + 2) 120 [.ref (b + 1), .int x] h (some (.long (f_constantOf s a x))) h := by
  show wp_W L xs _ 120 0 [(0, .ref (b + 1)), (1, .int x)] [] h _
  refine wp_iload_n dq_120_0 rfl ?_
  refine wp_iconst (x := 1) dq_120_1 rfl ?_
  refine wp_ic_lt (tgt := 11) dq_120_2 rfl (fun c1 => ?_) (fun c1 => ?_)
  · refine wp_ldc2 (v := 1000000000000000000) dq_120_11 (by decide +kernel) ?_
    exact wp_lre dq_120_14 rfl ⟨by rw [f_constantOf, if_pos c1], rfl⟩
  · refine wp_iload_n dq_120_5 rfl ?_
    refine wp_bipush (x := 64) dq_120_6 rfl ?_
    refine wp_ic_lt (tgt := 15) dq_120_8 rfl (fun c2 => ?_) (fun c2 => ?_)
    · refine wp_aload_n dq_120_15 rfl ?_
      refine wp_getf dq_120_16 fl_120_18 (tb_c1 hb) rfl ?_
      refine wp_iload_n dq_120_19 rfl ?_
      refine wp_iald dq_120_20 (tb_c4 hb) (in_64' c1 c2) ?_
      rcases Decidable.em (((a 1) (x : Int32).toNatClampNeg) = 3) with c3 | c3
      · refine wp_tab (off := 39) (tgt := 60) dq_120_21 (by rw [c3]; decide) rfl ?_
        refine wp_aload_n dq_120_60 rfl ?_
        refine wp_getf dq_120_61 fl_120_12 (tb_c1 hb) rfl ?_
        refine wp_aload_n dq_120_64 rfl ?_
        refine wp_getf dq_120_65 fl_120_22 (tb_c1 hb) rfl ?_
        refine wp_iload_n dq_120_68 rfl ?_
        refine wp_iald dq_120_69 (tb_c5 hb) (in_64' c1 c2) ?_
        refine wp_iconst (x := 1) dq_120_70 rfl ?_
        refine wp_iadd dq_120_71 ?_
        refine wp_iconst (x := 4) dq_120_72 rfl ?_
        refine wp_cve2 dq_120_73 mt_120_119 (ob_of (tb_c2 hb)) ⟨by decide +kernel, by decide +kernel⟩ (Nat.le_of_ble_eq_true rfl) (Nat.le_of_ble_eq_true rfl) (c_numAt 4 rfl (by decide) hb hw) ?_
        refine wp_l2i dq_120_76 ?_
        refine wp_i2l dq_120_77 ?_
        exact wp_lre dq_120_78 rfl ⟨by rw [f_constantOf, if_neg c1, if_pos c2, if_pos c3], rfl⟩
      · rcases Decidable.em (((a 1) (x : Int32).toNatClampNeg) = 4) with c4 | c4
        · refine wp_tab (off := 39) (tgt := 60) dq_120_21 (by rw [c4]; decide) rfl ?_
          refine wp_aload_n dq_120_60 rfl ?_
          refine wp_getf dq_120_61 fl_120_12 (tb_c1 hb) rfl ?_
          refine wp_aload_n dq_120_64 rfl ?_
          refine wp_getf dq_120_65 fl_120_22 (tb_c1 hb) rfl ?_
          refine wp_iload_n dq_120_68 rfl ?_
          refine wp_iald dq_120_69 (tb_c5 hb) (in_64' c1 c2) ?_
          refine wp_iconst (x := 1) dq_120_70 rfl ?_
          refine wp_iadd dq_120_71 ?_
          refine wp_iconst (x := 4) dq_120_72 rfl ?_
          refine wp_cve2 dq_120_73 mt_120_119 (ob_of (tb_c2 hb)) ⟨by decide +kernel, by decide +kernel⟩ (Nat.le_of_ble_eq_true rfl) (Nat.le_of_ble_eq_true rfl) (c_numAt 4 rfl (by decide) hb hw) ?_
          refine wp_l2i dq_120_76 ?_
          refine wp_i2l dq_120_77 ?_
          exact wp_lre dq_120_78 rfl ⟨by rw [f_constantOf, if_neg c1, if_pos c2, if_neg c3, if_pos c4], rfl⟩
        · rcases Decidable.em (((a 1) (x : Int32).toNatClampNeg) = 5) with c5 | c5
          · refine wp_tab (off := 58) (tgt := 79) dq_120_21 (by rw [c5]; decide) rfl ?_
            refine wp_aload_n dq_120_79 rfl ?_
            refine wp_getf dq_120_80 fl_120_12 (tb_c1 hb) rfl ?_
            refine wp_aload_n dq_120_83 rfl ?_
            refine wp_getf dq_120_84 fl_120_22 (tb_c1 hb) rfl ?_
            refine wp_iload_n dq_120_87 rfl ?_
            refine wp_iald dq_120_88 (tb_c5 hb) (in_64' c1 c2) ?_
            refine wp_iconst (x := 1) dq_120_89 rfl ?_
            refine wp_iadd dq_120_90 ?_
            refine wp_bipush (x := 8) dq_120_91 rfl ?_
            refine wp_cve2 dq_120_93 mt_120_119 (ob_of (tb_c2 hb)) ⟨by decide +kernel, by decide +kernel⟩ (Nat.le_of_ble_eq_true rfl) (Nat.le_of_ble_eq_true rfl) (c_numAt 8 rfl (by decide) hb hw) ?_
            refine wp_lstore_n (lv' := [(0, .ref (b + 1)), (1, .int x), (2, .long (f_numberAt s a (((a 2) (x : Int32).toNatClampNeg) + 1) 8))]) dq_120_96 (by decide) rfl ?_
            refine wp_lload_n dq_120_97 rfl ?_
            refine wp_ldc2 (v := -1000000000000000000) dq_120_98 (by decide +kernel) ?_
            refine wp_lcmp dq_120_101 ?_
            refine wp_if_le (tgt := 117) dq_120_102 rfl (fun c6 => ?_) (fun c6 => ?_)
            · refine wp_ldc2 (v := 1000000000000000000) dq_120_117 (by decide +kernel) ?_
              exact wp_lre dq_120_120 rfl ⟨by rw [f_constantOf, if_neg c1, if_pos c2, if_neg c3, if_neg c4, if_pos c5, if_pos c6], rfl⟩
            · refine wp_lload_n dq_120_105 rfl ?_
              refine wp_ldc2 (v := 1000000000000000000) dq_120_106 (by decide +kernel) ?_
              refine wp_lcmp dq_120_109 ?_
              refine wp_if_ge (tgt := 117) dq_120_110 rfl (fun c7 => ?_) (fun c7 => ?_)
              · refine wp_ldc2 (v := 1000000000000000000) dq_120_117 (by decide +kernel) ?_
                exact wp_lre dq_120_120 rfl ⟨by rw [f_constantOf, if_neg c1, if_pos c2, if_neg c3, if_neg c4, if_pos c5, if_neg c6, if_pos c7], rfl⟩
              · refine wp_lload_n dq_120_113 rfl ?_
                refine wp_goto (tgt := 120) dq_120_114 rfl ?_
                exact wp_lre dq_120_120 rfl ⟨by rw [f_constantOf, if_neg c1, if_pos c2, if_neg c3, if_neg c4, if_pos c5, if_neg c6, if_neg c7], rfl⟩
          · rcases Decidable.em (((a 1) (x : Int32).toNatClampNeg) = 6) with c8 | c8
            · refine wp_tab (off := 58) (tgt := 79) dq_120_21 (by rw [c8]; decide) rfl ?_
              refine wp_aload_n dq_120_79 rfl ?_
              refine wp_getf dq_120_80 fl_120_12 (tb_c1 hb) rfl ?_
              refine wp_aload_n dq_120_83 rfl ?_
              refine wp_getf dq_120_84 fl_120_22 (tb_c1 hb) rfl ?_
              refine wp_iload_n dq_120_87 rfl ?_
              refine wp_iald dq_120_88 (tb_c5 hb) (in_64' c1 c2) ?_
              refine wp_iconst (x := 1) dq_120_89 rfl ?_
              refine wp_iadd dq_120_90 ?_
              refine wp_bipush (x := 8) dq_120_91 rfl ?_
              refine wp_cve2 dq_120_93 mt_120_119 (ob_of (tb_c2 hb)) ⟨by decide +kernel, by decide +kernel⟩ (Nat.le_of_ble_eq_true rfl) (Nat.le_of_ble_eq_true rfl) (c_numAt 8 rfl (by decide) hb hw) ?_
              refine wp_lstore_n (lv' := [(0, .ref (b + 1)), (1, .int x), (2, .long (f_numberAt s a (((a 2) (x : Int32).toNatClampNeg) + 1) 8))]) dq_120_96 (by decide) rfl ?_
              refine wp_lload_n dq_120_97 rfl ?_
              refine wp_ldc2 (v := -1000000000000000000) dq_120_98 (by decide +kernel) ?_
              refine wp_lcmp dq_120_101 ?_
              refine wp_if_le (tgt := 117) dq_120_102 rfl (fun c9 => ?_) (fun c9 => ?_)
              · refine wp_ldc2 (v := 1000000000000000000) dq_120_117 (by decide +kernel) ?_
                exact wp_lre dq_120_120 rfl ⟨by rw [f_constantOf, if_neg c1, if_pos c2, if_neg c3, if_neg c4, if_neg c5, if_pos c8, if_pos c9], rfl⟩
              · refine wp_lload_n dq_120_105 rfl ?_
                refine wp_ldc2 (v := 1000000000000000000) dq_120_106 (by decide +kernel) ?_
                refine wp_lcmp dq_120_109 ?_
                refine wp_if_ge (tgt := 117) dq_120_110 rfl (fun c10 => ?_) (fun c10 => ?_)
                · refine wp_ldc2 (v := 1000000000000000000) dq_120_117 (by decide +kernel) ?_
                  exact wp_lre dq_120_120 rfl ⟨by rw [f_constantOf, if_neg c1, if_pos c2, if_neg c3, if_neg c4, if_neg c5, if_pos c8, if_neg c9, if_pos c10], rfl⟩
                · refine wp_lload_n dq_120_113 rfl ?_
                  refine wp_goto (tgt := 120) dq_120_114 rfl ?_
                  exact wp_lre dq_120_120 rfl ⟨by rw [f_constantOf, if_neg c1, if_pos c2, if_neg c3, if_neg c4, if_neg c5, if_pos c8, if_neg c9, if_neg c10], rfl⟩
            · rcases Decidable.em (((a 1) (x : Int32).toNatClampNeg) = 8) with c11 | c11
              · refine wp_tab (off := 100) (tgt := 121) dq_120_21 (by rw [c11]; decide) rfl ?_
                refine wp_aload_n dq_120_121 rfl ?_
                refine wp_getf dq_120_122 fl_120_12 (tb_c1 hb) rfl ?_
                refine wp_aload_n dq_120_125 rfl ?_
                refine wp_getf dq_120_126 fl_120_22 (tb_c1 hb) rfl ?_
                refine wp_iload_n dq_120_129 rfl ?_
                refine wp_iald dq_120_130 (tb_c5 hb) (in_64' c1 c2) ?_
                refine wp_iconst (x := 1) dq_120_131 rfl ?_
                refine wp_iadd dq_120_132 ?_
                refine wp_cve1 dq_120_133 mt_120_86 (ob_of (tb_c2 hb)) ⟨by decide +kernel, by decide +kernel⟩ (Nat.le_of_ble_eq_true rfl) (Nat.le_of_ble_eq_true rfl) (c_u2At hb hw) ?_
                refine wp_istore (lv' := [(0, .ref (b + 1)), (1, .int x), (4, .int (f_u2At s a (((a 2) (x : Int32).toNatClampNeg) + 1)))]) dq_120_136 (by decide) rfl ?_
                refine wp_aload_n dq_120_138 rfl ?_
                refine wp_iload dq_120_139 rfl ?_
                refine wp_iconst (x := 1) dq_120_141 rfl ?_
                refine wp_cve2 dq_120_142 mt_120_90 (ob_of (tb_c1 hb)) ⟨by decide +kernel, by decide +kernel⟩ (Nat.le_of_ble_eq_true rfl) (Nat.le_of_ble_eq_true rfl) (c_names hb) ?_
                refine wp_if_eq (tgt := 159) dq_120_145 rfl (fun c12 => ?_) (fun c12 => ?_)
                · refine wp_ldc2 (v := 1000000000000000000) dq_120_159 (by decide +kernel) ?_
                  exact wp_lre dq_120_162 rfl ⟨by rw [f_constantOf, if_neg c1, if_pos c2, if_neg c3, if_neg c4, if_neg c5, if_neg c8, if_pos c11, if_pos c12], rfl⟩
                · refine wp_aload_n dq_120_148 rfl ?_
                  refine wp_getf dq_120_149 fl_120_25 (tb_c1 hb) rfl ?_
                  refine wp_iload dq_120_152 rfl ?_
                  refine wp_iald dq_120_154 (tb_c6 hb) (in_nm c12) ?_
                  refine wp_i2l dq_120_155 ?_
                  refine wp_goto (tgt := 162) dq_120_156 rfl ?_
                  exact wp_lre dq_120_162 rfl ⟨by rw [f_constantOf, if_neg c1, if_pos c2, if_neg c3, if_neg c4, if_neg c5, if_neg c8, if_pos c11, if_neg c12], rfl⟩
              · refine wp_tab (off := 142) (tgt := 163) dq_120_21 (tab_def [3, 4, 5, 6, 8] (List.forall_mem_cons.mpr ⟨c3, List.forall_mem_cons.mpr ⟨c4, List.forall_mem_cons.mpr ⟨c5, List.forall_mem_cons.mpr ⟨c8, List.forall_mem_cons.mpr ⟨c11, fun _ h => absurd h List.not_mem_nil⟩⟩⟩⟩⟩) (by decide) (by decide) (by decide)) rfl ?_
                refine wp_ldc2 (v := 1000000000000000000) dq_120_163 (by decide +kernel) ?_
                exact wp_lre dq_120_166 rfl ⟨by rw [f_constantOf, if_neg c1, if_pos c2, if_neg c3, if_neg c4, if_neg c5, if_neg c8, if_neg c11], rfl⟩
    · refine wp_ldc2 (v := 1000000000000000000) dq_120_11 (by decide +kernel) ?_
      exact wp_lre dq_120_14 rfl ⟨by rw [f_constantOf, if_neg c1, if_neg c2], rfl⟩

