/-- what stands behind a tag -/
def rs_en (B : Nat → Nat) (n N i t p : Nat) (S : rS) : rS := if t = 1 then rs_tx B n S else if t = 7 ∨ t = 8 then rs_is n 2 S else if t = 3 ∨ t = 4 ∨ t = 9 ∨ t = 10 ∨ t = 11 ∨ t = 12 then rs_is n 4 S else if t = 5 ∨ t = 6 then rs_is n 8 (rs_wt (if i + 1 < N then 1 else 0) 4 p S) else rs_wt 0 4 p S
def rs_ea (B : Nat → Nat) (n i t : Nat) (S : rS) (a : Nat → Nat → Int32) : Nat → Nat → Int32 := if t = 1 then tb_va a 3 (upd (a 3) i (nI (rs_iv B n 2 S))) else a
theorem tab_r (t : Nat) (g1 : ¬ t = 1) (g2 : ¬ (t = 7 ∨ t = 8)) (g3 : ¬ (t = 3 ∨ t = 4 ∨ t = 9 ∨ t = 10 ∨ t = 11 ∨ t = 12)) (g4 : ¬ (t = 5 ∨ t = 6)) : qx_tab 135 1 12 #[62, 135, 83, 83, 96, 96, 70, 70, 83, 83, 83, 83] (t : Int) = some 135 := by
  rcases Nat.lt_or_ge 12 t with r | r
  · unfold qx_tab
    rw [if_pos (Or.inr (by omega))]
  · rcases (show t = 0 ∨ t = 2 by omega) with rfl | rfl <;> decide
set_option maxRecDepth 100000 in
theorem c_readEntry {L : Nat} {xs : Nat → Int32} {d b n : Nat} {B : Nat → Nat} {fp : Int32} {i t N p : Nat} {S : rS} {h : List qx_E} {a : Nat → Nat → Int32} (hT : TS h b B n S fp a) (hi : i < 64) (ht9 : t < 256) (hN : N < 65536) (ht : a 1 i = nI t) (hy : (∃ q, S = .inl q) → a 2 i = nI p) : wp_W L xs (d + 4) 21 0 (lv_args 0 [.ref (b + 1), .int (nI i), .int (nI N)]) [] h (fun v h' => v = none ∧ TS h' b B n (rs_en B n N i t p S) fp (rs_ea B n i t S a) ∧ fr b h h') := by
  obtain ⟨s, hb, -⟩ := id hT
  have hf : fr b h h := fr_rf
  have hcl : (nI i).toNatClampNeg = i := nI_clamp (by omega)
  have hin : qx_in (nI i) 64 = true := qx_in_n hi (by decide)
  show wp_W L xs _ 21 0 [(0, .ref (b + 1)), (1, .int (nI i)), (2, .int (nI N))] [] h _
  refine wp_aload_n dq_21_0 rfl ?_
  refine wp_getf dq_21_1 fl_21_18 (tb_c1 hb) rfl ?_
  refine wp_iload_n dq_21_4 rfl ?_
  refine wp_iald dq_21_5 (tb_c4 hb) hin ?_
  rcases Decidable.em (t = 1) with g1 | g1
  · refine wp_tab (off := 62) (tgt := 68) dq_21_6 (by rw [hcl, ht, nI_toInt (by omega)]; rw [g1]; decide) rfl ?_
    refine wp_aload_n dq_21_68 rfl ?_
    refine wp_iload_n dq_21_69 rfl ?_
    refine wp_cv1 dq_21_70 mt_21_53 (ob_of (tb_c1 hb)) ⟨by decide +kernel, by decide +kernel⟩ (Nat.le_of_ble_eq_true rfl) (Nat.le_of_ble_eq_true rfl) (c_readText hT hi) (fun v9 h9 q9 => ?_)
    obtain ⟨rfl, hT, hf9⟩ := q9
    have hf := fr_tr hf hf9
    clear hf9
    obtain ⟨s9, hb, -⟩ := id hT
    refine wp_goto (tgt := 156) dq_21_73 rfl ?_
    refine wp_vre dq_21_156 rfl ⟨rfl, ?_, hf⟩
    rw [rs_en, if_pos g1, rs_ea, if_pos g1]
    exact hT
  rcases Decidable.em (t = 7 ∨ t = 8) with g2 | g2
  · refine wp_tab (off := 70) (tgt := 76) dq_21_6 (by rw [hcl, ht, nI_toInt (by omega)]; rcases g2 with g | g <;> rw [g] <;> decide) rfl ?_
    refine wp_aload_n dq_21_76 rfl ?_
    refine wp_getf dq_21_77 fl_21_12 (tb_c1 hb) rfl ?_
    refine wp_ldc2 (v := 2) dq_21_80 (by decide +kernel) ?_
    refine wp_cv1 dq_21_83 mt_21_59 (ob_of (tb_c2 hb)) ⟨by decide +kernel, by decide +kernel⟩ (Nat.le_of_ble_eq_true rfl) (Nat.le_of_ble_eq_true rfl) (c_skipT (q := 2) hT (by decide)) (fun v9 h9 q9 => ?_)
    obtain ⟨rfl, hT, hf9⟩ := q9
    have hf := fr_tr hf hf9
    clear hf9
    obtain ⟨s9, hb, -⟩ := id hT
    refine wp_goto (tgt := 156) dq_21_86 rfl ?_
    refine wp_vre dq_21_156 rfl ⟨rfl, ?_, hf⟩
    rw [rs_en, if_neg g1, if_pos g2, rs_ea, if_neg g1]
    exact hT
  rcases Decidable.em (t = 3 ∨ t = 4 ∨ t = 9 ∨ t = 10 ∨ t = 11 ∨ t = 12) with g3 | g3
  · refine wp_tab (off := 83) (tgt := 89) dq_21_6 (by rw [hcl, ht, nI_toInt (by omega)]; rcases g3 with g | g | g | g | g | g <;> rw [g] <;> decide) rfl ?_
    refine wp_aload_n dq_21_89 rfl ?_
    refine wp_getf dq_21_90 fl_21_12 (tb_c1 hb) rfl ?_
    refine wp_ldc2 (v := 4) dq_21_93 (by decide +kernel) ?_
    refine wp_cv1 dq_21_96 mt_21_59 (ob_of (tb_c2 hb)) ⟨by decide +kernel, by decide +kernel⟩ (Nat.le_of_ble_eq_true rfl) (Nat.le_of_ble_eq_true rfl) (c_skipT (q := 4) hT (by decide)) (fun v9 h9 q9 => ?_)
    obtain ⟨rfl, hT, hf9⟩ := q9
    have hf := fr_tr hf hf9
    clear hf9
    obtain ⟨s9, hb, -⟩ := id hT
    refine wp_goto (tgt := 156) dq_21_99 rfl ?_
    refine wp_vre dq_21_156 rfl ⟨rfl, ?_, hf⟩
    rw [rs_en, if_neg g1, if_neg g2, if_pos g3, rs_ea, if_neg g1]
    exact hT
  rcases Decidable.em (t = 5 ∨ t = 6) with g4 | g4
  · refine wp_tab (off := 96) (tgt := 102) dq_21_6 (by rw [hcl, ht, nI_toInt (by omega)]; rcases g4 with g | g <;> rw [g] <;> decide) rfl ?_
    refine wp_aload_n dq_21_102 rfl ?_
    refine wp_getf dq_21_103 fl_21_12 (tb_c1 hb) rfl ?_
    refine wp_iload_n dq_21_106 rfl ?_
    refine wp_iconst (x := 1) dq_21_107 rfl ?_
    refine wp_iadd dq_21_108 ?_
    refine wp_iload_n dq_21_109 rfl ?_
    refine wp_ic_ge (tgt := 117) dq_21_110 rfl (fun c1 => ?_) (fun c1 => ?_)
    · have hx1 : ¬ i + 1 < N := by rw [nI_1] at c1; intro r; exact absurd c1 (nI_ge r (by omega))
      refine wp_iconst (x := 0) dq_21_117 rfl ?_
      refine wp_iconst (x := 4) dq_21_118 rfl ?_
      refine wp_aload_n dq_21_119 rfl ?_
      refine wp_getf dq_21_120 fl_21_22 (tb_c1 hb) rfl ?_
      refine wp_iload_n dq_21_123 rfl ?_
      refine wp_iald dq_21_124 (tb_c5 hb) hin ?_
      rw [hcl]
      refine wp_cv3 dq_21_125 mt_21_65 (ob_of (tb_c2 hb)) ⟨by decide +kernel, by decide +kernel⟩ (Nat.le_of_ble_eq_true rfl) (Nat.le_of_ble_eq_true rfl) (c_wantT (f := 4) (p := p) hT (by decide) hy) (fun v9 h9 q9 => ?_)
      obtain ⟨rfl, hT, hf9⟩ := q9
      have hf := fr_tr hf hf9
      clear hf9
      obtain ⟨s9, hb, -⟩ := id hT
      refine wp_aload_n dq_21_128 rfl ?_
      refine wp_getf dq_21_129 fl_21_12 (tb_c1 hb) rfl ?_
      refine wp_ldc2 (v := 8) dq_21_132 (by decide +kernel) ?_
      refine wp_cv1 dq_21_135 mt_21_59 (ob_of (tb_c2 hb)) ⟨by decide +kernel, by decide +kernel⟩ (Nat.le_of_ble_eq_true rfl) (Nat.le_of_ble_eq_true rfl) (c_skipT (q := 8) hT (by decide)) (fun v9 h9 q9 => ?_)
      obtain ⟨rfl, hT, hf9⟩ := q9
      have hf := fr_tr hf hf9
      clear hf9
      obtain ⟨s9, hb, -⟩ := id hT
      refine wp_goto (tgt := 156) dq_21_138 rfl ?_
      refine wp_vre dq_21_156 rfl ⟨rfl, ?_, hf⟩
      rw [rs_en, if_neg g1, if_neg g2, if_neg g3, if_pos g4, rs_ea, if_neg g1, if_neg hx1]
      exact hT
    · have hx1 : i + 1 < N := by rw [nI_1] at c1; rcases Nat.lt_or_ge (i + 1) N with r | r; exact r; exact absurd (nI_le r (by omega)) c1
      refine wp_iconst (x := 1) dq_21_113 rfl ?_
      refine wp_goto (tgt := 118) dq_21_114 rfl ?_
      refine wp_iconst (x := 4) dq_21_118 rfl ?_
      refine wp_aload_n dq_21_119 rfl ?_
      refine wp_getf dq_21_120 fl_21_22 (tb_c1 hb) rfl ?_
      refine wp_iload_n dq_21_123 rfl ?_
      refine wp_iald dq_21_124 (tb_c5 hb) hin ?_
      rw [hcl]
      refine wp_cv3 dq_21_125 mt_21_65 (ob_of (tb_c2 hb)) ⟨by decide +kernel, by decide +kernel⟩ (Nat.le_of_ble_eq_true rfl) (Nat.le_of_ble_eq_true rfl) (c_wantT (f := 4) (p := p) hT (by decide) hy) (fun v9 h9 q9 => ?_)
      obtain ⟨rfl, hT, hf9⟩ := q9
      have hf := fr_tr hf hf9
      clear hf9
      obtain ⟨s9, hb, -⟩ := id hT
      refine wp_aload_n dq_21_128 rfl ?_
      refine wp_getf dq_21_129 fl_21_12 (tb_c1 hb) rfl ?_
      refine wp_ldc2 (v := 8) dq_21_132 (by decide +kernel) ?_
      refine wp_cv1 dq_21_135 mt_21_59 (ob_of (tb_c2 hb)) ⟨by decide +kernel, by decide +kernel⟩ (Nat.le_of_ble_eq_true rfl) (Nat.le_of_ble_eq_true rfl) (c_skipT (q := 8) hT (by decide)) (fun v9 h9 q9 => ?_)
      obtain ⟨rfl, hT, hf9⟩ := q9
      have hf := fr_tr hf hf9
      clear hf9
      obtain ⟨s9, hb, -⟩ := id hT
      refine wp_goto (tgt := 156) dq_21_138 rfl ?_
      refine wp_vre dq_21_156 rfl ⟨rfl, ?_, hf⟩
      rw [rs_en, if_neg g1, if_neg g2, if_neg g3, if_pos g4, rs_ea, if_neg g1, if_pos hx1]
      exact hT
  · refine wp_tab (off := 135) (tgt := 141) dq_21_6 (by rw [hcl, ht, nI_toInt (by omega)]; exact tab_r t g1 g2 g3 g4) rfl ?_
    refine wp_aload_n dq_21_141 rfl ?_
    refine wp_getf dq_21_142 fl_21_12 (tb_c1 hb) rfl ?_
    refine wp_iconst (x := 0) dq_21_145 rfl ?_
    refine wp_iconst (x := 4) dq_21_146 rfl ?_
    refine wp_aload_n dq_21_147 rfl ?_
    refine wp_getf dq_21_148 fl_21_22 (tb_c1 hb) rfl ?_
    refine wp_iload_n dq_21_151 rfl ?_
    refine wp_iald dq_21_152 (tb_c5 hb) hin ?_
    rw [hcl]
    refine wp_cv3 dq_21_153 mt_21_65 (ob_of (tb_c2 hb)) ⟨by decide +kernel, by decide +kernel⟩ (Nat.le_of_ble_eq_true rfl) (Nat.le_of_ble_eq_true rfl) (c_wantT (f := 4) (p := p) hT (by decide) hy) (fun v9 h9 q9 => ?_)
    obtain ⟨rfl, hT, hf9⟩ := q9
    have hf := fr_tr hf hf9
    clear hf9
    obtain ⟨s9, hb, -⟩ := id hT
    refine wp_vre dq_21_156 rfl ⟨rfl, ?_, hf⟩
    rw [rs_en, if_neg g1, if_neg g2, if_neg g3, if_neg g4, rs_ea, if_neg g1]
    exact hT
