def gm_wh (B : Nat → Nat) (f : Nat → Bool) : Nat → Nat → Nat
  | 0, i => i
  | j + 1, i => if f (B i) = true then gm_wh B f j (i + 1) else i
theorem gm_wh_in {B : Nat → Nat} {f : Nat → Bool} : ∀ j i, i ≤ gm_wh B f j i ∧ gm_wh B f j i ≤ i + j
  | 0, i => ⟨Nat.le_refl _, Nat.le_refl _⟩
  | j + 1, i => by
    have h := gm_wh_in (B := B) (f := f) j (i + 1)
    unfold gm_wh
    split
    · exact ⟨by omega, by omega⟩
    · exact ⟨by omega, by omega⟩
def gm_br (B : Nat → Nat) (p q : Nat) : Nat := gm_wh B (fun c => c == 91) (q - p) p
def gm_cl (B : Nat → Nat) (p q : Nat) : Nat := gm_wh B (fun c => c != 59) (q - p) p
theorem gm_br_in {B : Nat → Nat} {p q : Nat} (h : p ≤ q) : p ≤ gm_br B p q ∧ gm_br B p q ≤ q := by
  have h1 := gm_wh_in (B := B) (f := fun c => c == 91) (q - p) p
  unfold gm_br
  exact ⟨h1.1, by omega⟩
theorem gm_cl_in {B : Nat → Nat} {p q : Nat} (h : p ≤ q) : p ≤ gm_cl B p q ∧ gm_cl B p q ≤ q := by
  have h1 := gm_wh_in (B := B) (f := fun c => c != 59) (q - p) p
  unfold gm_cl
  exact ⟨h1.1, by omega⟩
def gm_ft (B : Nat → Nat) (p q : Nat) : Option Nat := if q ≤ gm_br B p q then none else if gm_br B p q - p ≤ 255 then (if B (gm_br B p q) = 76 then (if q ≤ gm_cl B (gm_br B p q + 1) q then none else if gm_cn B (gm_br B p q + 1) (gm_cl B (gm_br B p q + 1) q) = true then some (gm_cl B (gm_br B p q + 1) q + 1) else none) else if gm_prim (B (gm_br B p q)) = true then some (gm_br B p q + 1) else none) else none
def oI (c : Option Nat) : Int32 := match c with
  | some k => nI k
  | none => -1
theorem gm_ft_in {B : Nat → Nat} {p q k : Nat} (h : p ≤ q) (e : gm_ft B p q = some k) : p < k ∧ k ≤ q := by
  have h1 := gm_br_in (B := B) h
  unfold gm_ft at e
  split at e
  · cases e
  · split at e
    · split at e
      · have h2 := gm_cl_in (B := B) (p := gm_br B p q + 1) (q := q) (by omega)
        split at e
        · cases e
        · split at e
          · cases e; omega
          · cases e
      · split at e
        · cases e; omega
        · cases e
    · cases e
set_option maxRecDepth 100000 in
theorem c_brL {L : Nat} {xs : Nat → Int32} {d b n : Nat} {B : Nat → Nat} {h : List qx_E} {s : Nat → Int32} {a : Nat → Nat → Int32} {p q : Nat} {Q : Option Value → List qx_E → Prop} (hb : tb h b s a) (hw : tw s a) (hg : gB s a B n) (hq9 : q ≤ n) : ∀ j i, i + j = q → wp_W L xs (d + 1) 50 23 [(0, .ref (b + 2)), (1, .int (nI p)), (2, .int (nI q)), (3, .int (nI (gm_wh B (fun c => c == 91) j i)))] [] h Q → wp_W L xs (d + 1) 50 2 [(0, .ref (b + 2)), (1, .int (nI p)), (2, .int (nI q)), (3, .int (nI i))] [] h Q := by
  have hn9 := hg.1
  intro j
  induction j with
  | zero =>
    intro i hi hK
    refine wp_iload_n dq_50_2 rfl ?_
    refine wp_iload_n dq_50_3 rfl ?_
    exact wp_ic_ge (tgt := 23) dq_50_4 rfl (fun c1 => hK) (fun c1 => absurd (nI_le (by omega) (by omega)) c1)
  | succ j ih =>
    intro i hi hK
    have hB := (hg.2 i (by omega)).2
    refine wp_iload_n dq_50_2 rfl ?_
    refine wp_iload_n dq_50_3 rfl ?_
    refine wp_ic_ge (tgt := 23) dq_50_4 rfl (fun c1 => ?_) (fun c1 => ?_)
    · exact absurd c1 (nI_ge (by omega) (by omega))
    · refine wp_aload_n dq_50_7 rfl ?_
      refine wp_iload_n dq_50_8 rfl ?_
      refine wp_cve1 dq_50_9 mt_50_17 (ob_of (tb_c2 hb)) ⟨by decide +kernel, by decide +kernel⟩ (Nat.le_of_ble_eq_true rfl) (Nat.le_of_ble_eq_true rfl) (c_u1At hb hw) ?_
      rw [(hg.2 i (by omega)).1]
      refine wp_bipush (x := 91) dq_50_12 rfl ?_
      refine wp_ic_ne (tgt := 23) dq_50_14 rfl (fun c2 => ?_) (fun c2 => ?_)
      · unfold gm_wh at hK
        have hne : ¬ B i = 91 := fun r => c2 (by rw [r]; rfl)
        rw [if_neg (by simp [hne])] at hK
        exact hK
      · refine wp_iinc (y := ((nI i) + 1)) (lv' := [(0, .ref (b + 2)), (1, .int (nI p)), (2, .int (nI q)), (3, .int ((nI i) + 1))]) dq_50_17 rfl rfl (by decide) rfl ?_
        refine wp_goto (tgt := 2) dq_50_20 rfl ?_
        rw [nI_1]
        unfold gm_wh at hK
        have hne : B i = 91 := (nI_eq (b := 91) (by omega) (by decide)).mp c2
        rw [if_pos (by simp [hne])] at hK
        exact ih (i + 1) (by omega) hK
set_option maxRecDepth 100000 in
theorem c_clL {L : Nat} {xs : Nat → Int32} {d b n : Nat} {B : Nat → Nat} {h : List qx_E} {s : Nat → Int32} {a : Nat → Nat → Int32} {p q : Nat} {z : Int32} {Q : Option Value → List qx_E → Prop} (hb : tb h b s a) (hw : tw s a) (hg : gB s a B n) (hq9 : q ≤ n) : ∀ j i, i + j = q → wp_W L xs (d + 1) 50 99 [(0, .ref (b + 2)), (1, .int (nI p)), (2, .int (nI q)), (3, .int z), (4, .int (nI (gm_wh B (fun c => c != 59) j i)))] [] h Q → wp_W L xs (d + 1) 50 76 [(0, .ref (b + 2)), (1, .int (nI p)), (2, .int (nI q)), (3, .int z), (4, .int (nI i))] [] h Q := by
  have hn9 := hg.1
  intro j
  induction j with
  | zero =>
    intro i hi hK
    refine wp_iload dq_50_76 rfl ?_
    refine wp_iload_n dq_50_78 rfl ?_
    exact wp_ic_ge (tgt := 99) dq_50_79 rfl (fun c1 => hK) (fun c1 => absurd (nI_le (by omega) (by omega)) c1)
  | succ j ih =>
    intro i hi hK
    have hB := (hg.2 i (by omega)).2
    refine wp_iload dq_50_76 rfl ?_
    refine wp_iload_n dq_50_78 rfl ?_
    refine wp_ic_ge (tgt := 99) dq_50_79 rfl (fun c1 => ?_) (fun c1 => ?_)
    · exact absurd c1 (nI_ge (by omega) (by omega))
    · refine wp_aload_n dq_50_82 rfl ?_
      refine wp_iload dq_50_83 rfl ?_
      refine wp_cve1 dq_50_85 mt_50_17 (ob_of (tb_c2 hb)) ⟨by decide +kernel, by decide +kernel⟩ (Nat.le_of_ble_eq_true rfl) (Nat.le_of_ble_eq_true rfl) (c_u1At hb hw) ?_
      rw [(hg.2 i (by omega)).1]
      refine wp_bipush (x := 59) dq_50_88 rfl ?_
      refine wp_ic_eq (tgt := 99) dq_50_90 rfl (fun c2 => ?_) (fun c2 => ?_)
      · unfold gm_wh at hK
        have hne : B i = 59 := (nI_eq (b := 59) (by omega) (by decide)).mp c2
        rw [if_neg (by simp [hne])] at hK
        exact hK
      · refine wp_iinc (y := ((nI i) + 1)) (lv' := [(0, .ref (b + 2)), (1, .int (nI p)), (2, .int (nI q)), (3, .int z), (4, .int ((nI i) + 1))]) dq_50_93 rfl rfl (by decide) rfl ?_
        refine wp_goto (tgt := 76) dq_50_96 rfl ?_
        rw [nI_1]
        unfold gm_wh at hK
        have hne : ¬ B i = 59 := fun r => c2 (by rw [r]; rfl)
        rw [if_pos (by simp [hne])] at hK
        exact ih (i + 1) (by omega) hK
set_option maxRecDepth 100000 in
theorem c_ft {L : Nat} {xs : Nat → Int32} {d b n : Nat} {B : Nat → Nat} {h : List qx_E} {s : Nat → Int32} {a : Nat → Nat → Int32} {p q : Nat} (hb : tb h b s a) (hw : tw s a) (hg : gB s a B n) (hp9 : p ≤ q) (hq9 : q ≤ n) : qe_E L xs (d + 5) 50 [.ref (b + 2), .int (nI p), .int (nI q)] h (some (.int (oI (gm_ft B p q)))) h := by
  have hn9 := hg.1
  have h1 := gm_br_in (B := B) hp9
  show wp_W L xs _ 50 0 [(0, .ref (b + 2)), (1, .int (nI p)), (2, .int (nI q))] [] h _
  refine wp_iload_n dq_50_0 rfl ?_
  refine wp_istore_n (lv' := [(0, .ref (b + 2)), (1, .int (nI p)), (2, .int (nI q)), (3, .int (nI p))]) dq_50_1 (by decide) rfl ?_
  refine c_brL hb hw hg hq9 (q - p) p (by omega) ?_
  change wp_W L xs _ 50 23 [(0, .ref (b + 2)), (1, .int (nI p)), (2, .int (nI q)), (3, .int (nI (gm_br B p q)))] [] h _
  refine wp_iload_n dq_50_23 rfl ?_
  refine wp_iload_n dq_50_24 rfl ?_
  refine wp_ic_ge (tgt := 37) dq_50_25 rfl (fun c1 => ?_) (fun c1 => ?_)
  · have hx1 : q ≤ (gm_br B p q) := by rcases Nat.lt_or_ge (gm_br B p q) q with r | r; exact absurd c1 (nI_ge r (by omega)); exact r
    refine wp_iconst (x := -1) dq_50_37 rfl ?_
    exact wp_ire dq_50_38 rfl ⟨rfl, Or.inl rfl⟩ ⟨by rw [gm_ft, if_pos hx1]; rfl, rfl⟩
  · have hx1 : ¬ q ≤ (gm_br B p q) := fun r => c1 (nI_le r (by omega))
    refine wp_iload_n dq_50_28 rfl ?_
    refine wp_iload_n dq_50_29 rfl ?_
    refine wp_isub dq_50_30 ?_
    refine wp_sipush (x := 255) dq_50_31 rfl ?_
    refine wp_ic_le (tgt := 39) dq_50_34 rfl (fun c2 => ?_) (fun c2 => ?_)
    · have hx2 : (gm_br B p q) - p ≤ 255 := by rw [pk_sub h1.1] at c2; rcases Nat.lt_or_ge 255 ((gm_br B p q) - p) with r | r; exact absurd c2 (nI_ge (b := (gm_br B p q) - p) (a := 255) r (by omega)); exact r
      refine wp_aload_n dq_50_39 rfl ?_
      refine wp_iload_n dq_50_40 rfl ?_
      have hB := (hg.2 (gm_br B p q) (by omega)).2
      refine wp_cve1 dq_50_41 mt_50_17 (ob_of (tb_c2 hb)) ⟨by decide +kernel, by decide +kernel⟩ (Nat.le_of_ble_eq_true rfl) (Nat.le_of_ble_eq_true rfl) (c_u1At hb hw) ?_
      rw [(hg.2 (gm_br B p q) (by omega)).1]
      refine wp_bipush (x := 76) dq_50_44 rfl ?_
      refine wp_ic_eq (tgt := 71) dq_50_46 rfl (fun c3 => ?_) (fun c3 => ?_)
      · have hx3 : B (gm_br B p q) = 76 := (nI_eq (b := 76) (by omega) (by decide)).mp c3
        refine wp_iload_n dq_50_71 rfl ?_
        refine wp_iconst (x := 1) dq_50_72 rfl ?_
        refine wp_iadd dq_50_73 ?_
        refine wp_istore (lv' := [(0, .ref (b + 2)), (1, .int (nI p)), (2, .int (nI q)), (3, .int (nI (gm_br B p q))), (4, .int ((nI (gm_br B p q)) + 1))]) dq_50_74 (by decide) rfl ?_
        rw [nI_1]
        have h2 := gm_cl_in (B := B) (p := (gm_br B p q) + 1) (q := q) (by omega)
        refine c_clL hb hw hg hq9 (q - ((gm_br B p q) + 1)) ((gm_br B p q) + 1) (by omega) ?_
        change wp_W L xs _ 50 99 [(0, .ref (b + 2)), (1, .int (nI p)), (2, .int (nI q)), (3, .int (nI (gm_br B p q))), (4, .int (nI (gm_cl B (gm_br B p q + 1) q)))] [] h _
        refine wp_iload dq_50_99 rfl ?_
        refine wp_iload_n dq_50_101 rfl ?_
        refine wp_ic_ge (tgt := 124) dq_50_102 rfl (fun c4 => ?_) (fun c4 => ?_)
        · have hx5 : q ≤ (gm_cl B (gm_br B p q + 1) q) := by rcases Nat.lt_or_ge (gm_cl B (gm_br B p q + 1) q) q with r | r; exact absurd c4 (nI_ge r (by omega)); exact r
          refine wp_iconst (x := -1) dq_50_124 rfl ?_
          exact wp_ire dq_50_125 rfl ⟨rfl, Or.inl rfl⟩ ⟨by rw [gm_ft, if_neg hx1, if_pos hx2, if_pos hx3, if_pos hx5]; rfl, rfl⟩
        · have hx5 : ¬ q ≤ (gm_cl B (gm_br B p q + 1) q) := fun r => c4 (nI_le r (by omega))
          refine wp_aload_n dq_50_105 rfl ?_
          refine wp_iload_n dq_50_106 rfl ?_
          refine wp_iconst (x := 1) dq_50_107 rfl ?_
          refine wp_iadd dq_50_108 ?_
          rw [nI_1]
          refine wp_iload dq_50_109 rfl ?_
          refine wp_cse3 dq_50_111 (by decide +kernel) mt_50_7 (by decide +kernel) (Nat.le_of_ble_eq_true rfl) (Nat.le_of_ble_eq_true rfl) (c_cn hb hw hg (by omega) (by omega)) ?_
          refine wp_if_eq (tgt := 124) dq_50_114 rfl (fun c5 => ?_) (fun c5 => ?_)
          · have hx6 : ¬ gm_cn B ((gm_br B p q) + 1) (gm_cl B (gm_br B p q + 1) q) = true := by intro r; rw [r] at c5; exact absurd c5 (by decide)
            refine wp_iconst (x := -1) dq_50_124 rfl ?_
            exact wp_ire dq_50_125 rfl ⟨rfl, Or.inl rfl⟩ ⟨by rw [gm_ft, if_neg hx1, if_pos hx2, if_pos hx3, if_neg hx5, if_neg hx6]; rfl, rfl⟩
          · have hx6 : gm_cn B ((gm_br B p q) + 1) (gm_cl B (gm_br B p q + 1) q) = true := by rcases Bool.eq_false_or_eq_true (gm_cn B ((gm_br B p q) + 1) (gm_cl B (gm_br B p q + 1) q)) with r | r; exact r; rw [r] at c5; exact absurd rfl c5
            refine wp_iload dq_50_117 rfl ?_
            refine wp_iconst (x := 1) dq_50_119 rfl ?_
            refine wp_iadd dq_50_120 ?_
            refine wp_goto (tgt := 125) dq_50_121 rfl ?_
            exact wp_ire dq_50_125 rfl ⟨rfl, Or.inl rfl⟩ ⟨by rw [gm_ft, if_neg hx1, if_pos hx2, if_pos hx3, if_neg hx5, if_pos hx6]; rw [nI_1]; rfl, rfl⟩
      · have hx3 : ¬ B (gm_br B p q) = 76 := fun r => c3 (by rw [r]; rfl)
        refine wp_ldc (v := .retAddr 12) dq_50_49 (by decide +kernel) ?_
        refine wp_aload_n dq_50_51 rfl ?_
        refine wp_iload_n dq_50_52 rfl ?_
        refine wp_cve1 dq_50_53 mt_50_17 (ob_of (tb_c2 hb)) ⟨by decide +kernel, by decide +kernel⟩ (Nat.le_of_ble_eq_true rfl) (Nat.le_of_ble_eq_true rfl) (c_u1At hb hw) ?_
        rw [(hg.2 (gm_br B p q) (by omega)).1]
        refine wp_i2c dq_50_56 ?_
        refine wp_cve1 dq_50_57 mt_50_31 (by show qx_ko 12 = _; exact ko_s (by decide)) ⟨by decide +kernel, by decide +kernel⟩ (Nat.le_of_ble_eq_true rfl) (Nat.le_of_ble_eq_true rfl) (c_ix1 (k := 12) (y := gm_ch (B (gm_br B p q))) (by decide) (gm_can (B (gm_br B p q)) hB)) ?_
        refine wp_if_lt (tgt := 69) dq_50_60 rfl (fun c6 => ?_) (fun c6 => ?_)
        · have hx4 : ¬ gm_prim (B (gm_br B p q)) = true := by rw [(gm_i2 _ hB).mp c6]; decide
          refine wp_iconst (x := -1) dq_50_69 rfl ?_
          exact wp_ire dq_50_70 rfl ⟨rfl, Or.inl rfl⟩ ⟨by rw [gm_ft, if_neg hx1, if_pos hx2, if_neg hx3, if_neg hx4]; rfl, rfl⟩
        · have hx4 : gm_prim (B (gm_br B p q)) = true := by rcases Bool.eq_false_or_eq_true (gm_prim (B (gm_br B p q))) with r | r; exact r; exact absurd ((gm_i2 _ hB).mpr r) c6
          refine wp_iload_n dq_50_63 rfl ?_
          refine wp_iconst (x := 1) dq_50_64 rfl ?_
          refine wp_iadd dq_50_65 ?_
          refine wp_goto (tgt := 70) dq_50_66 rfl ?_
          exact wp_ire dq_50_70 rfl ⟨rfl, Or.inl rfl⟩ ⟨by rw [gm_ft, if_neg hx1, if_pos hx2, if_neg hx3, if_pos hx4]; rw [nI_1]; rfl, rfl⟩
    · have hx2 : ¬ (gm_br B p q) - p ≤ 255 := by rw [pk_sub h1.1] at c2; exact fun r => c2 (nI_le (b := 255) r (by decide))
      refine wp_iconst (x := -1) dq_50_37 rfl ?_
      exact wp_ire dq_50_38 rfl ⟨rfl, Or.inl rfl⟩ ⟨by rw [gm_ft, if_neg hx1, if_neg hx2]; rfl, rfl⟩
