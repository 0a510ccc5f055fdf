def rs_lk (B T : Nat → Nat) (i : Nat) (S : rS) : rS :=
  if tg B T i = 7 then rs_w (tg B T (bu_U B (T i + 1) 2) == 1 && (k_cn B T (bu_U B (T i + 1) 2) || k_ar B T (bu_U B (T i + 1) 2))) 7 (T i) (rs_w (tg B T (bu_U B (T i + 1) 2) == 1) 5 (T i) S)
  else if tg B T i = 8 then rs_w (tg B T (bu_U B (T i + 1) 2) == 1) 5 (T i) S
  else if tg B T i = 9 ∨ tg B T i = 10 ∨ tg B T i = 11 then rs_w (tg B T (bu_U B (T i + 1) 2) == 7 && tg B T (bu_U B (T i + 3) 2) == 12) 5 (T i) S
  else if tg B T i = 12 then rs_w (tg B T (bu_U B (T i + 3) 2) == 1 && (k_ft B T (bu_U B (T i + 3) 2) || k_mt B T (bu_U B (T i + 3) 2))) 8 (T i) (rs_w ((tg B T (bu_U B (T i + 1) 2) == 1 && k_mm B T (bu_U B (T i + 1) 2)) || decide (tg B T (bu_U B (T i + 1) 2) = 1 ∧ tx B T (bu_U B (T i + 1) 2) = wd 14)) 7 (T i) (rs_w (tg B T (bu_U B (T i + 1) 2) == 1 && tg B T (bu_U B (T i + 3) 2) == 1) 5 (T i) S))
  else S
theorem tab_lk (t : Nat) (h : t < 7 ∨ 12 < t) : qx_tab 219 7 12 #[40, 74, 92, 92, 92, 130] (t : Int) = some 219 := by
  unfold qx_tab
  rw [if_pos (by omega)]
theorem eOK_5 {B : Nat → Nat} {n p : Nat} (h : eOK B n p) (ht : 9 ≤ B p) : p + 5 ≤ n := by
  obtain ⟨h0, ⟨h1, h2, -⟩ | ⟨h1, h2⟩ | ⟨h1, h2⟩ | ⟨h1, h2⟩⟩ := h
  · omega
  · omega
  · omega
  · omega
set_option maxRecDepth 100000 in
theorem c_lkK {L : Nat} {xs : Nat → Int32} {d b n i : Nat} {B T : Nat → Nat} {fp : Int32} {S0 : rS} {h : List qx_E} {a : Nat → Nat → Int32} {Q : Option Value → List qx_E → Prop} (hT : TS h b B n S0 fp a) (hR : snd S0 → PL B n T a) (hs : snd S0) (hi : i < 64) (hK : ∀ h', TS h' b B n (rs_lk B T i S0) fp a → fr b h h' → Q none h') : wp_W L xs (d + 5) 53 0 (lv_args 0 [.ref (b + 1), .int (nI i)]) [] h Q := by
  obtain ⟨s0, hb, hw, hm0, h00, hq0⟩ := TS_x hT
  have hf : fr b h h := fr_rf
  have hcl : (nI i).toNatClampNeg = i := nI_clamp (by omega)
  have hin : qx_in (nI i) 64 = true := qx_in_n hi (by decide)
  have hQ0 := hq0 _ (hR hs).1 (hR hs).2.1
  have hn9 := QF_n hQ0
  show wp_W L xs _ 53 0 [(0, .ref (b + 1)), (1, .int (nI i))] [] h _
  rcases Decidable.em (T i = 0) with hz | hz
  · have ht0 : tg B T i = 0 := if_neg (fun r => r.2 hz)
    have e9 : rs_lk B T i S0 = S0 := by rw [rs_lk, ht0]; rfl
    rw [e9] at hK
    refine wp_aload_n dq_53_0 rfl ?_
    refine wp_getf dq_53_1 fl_53_22 (tb_c1 hb) rfl ?_
    refine wp_iload_n dq_53_4 rfl ?_
    refine wp_iald dq_53_5 (tb_c5 hb) hin ?_
    refine wp_istore_n (lv' := [(0, .ref (b + 1)), (1, .int (nI i)), (2, .int ((a 2) ((nI i) : Int32).toNatClampNeg))]) dq_53_6 (by decide) rfl ?_
    refine wp_aload_n dq_53_7 rfl ?_
    refine wp_getf dq_53_8 fl_53_12 (tb_c1 hb) rfl ?_
    refine wp_iload_n dq_53_11 rfl ?_
    refine wp_iconst (x := 1) dq_53_12 rfl ?_
    refine wp_iadd dq_53_13 ?_
    refine wp_cve1 dq_53_14 mt_53_86 (ob_of (tb_c2 hb)) ⟨by decide +kernel, by decide +kernel⟩ (Nat.le_of_ble_eq_true rfl) (Nat.le_of_ble_eq_true rfl) (c_u2At hb hw) ?_
    refine wp_istore_n (lv' := [(0, .ref (b + 1)), (1, .int (nI i)), (2, .int ((a 2) ((nI i) : Int32).toNatClampNeg)), (3, .int (f_u2At s0 a (((a 2) ((nI i) : Int32).toNatClampNeg) + 1)))]) dq_53_17 (by decide) rfl ?_
    refine wp_aload_n dq_53_18 rfl ?_
    refine wp_getf dq_53_19 fl_53_12 (tb_c1 hb) rfl ?_
    refine wp_iload_n dq_53_22 rfl ?_
    refine wp_iconst (x := 3) dq_53_23 rfl ?_
    refine wp_iadd dq_53_24 ?_
    refine wp_cve1 dq_53_25 mt_53_86 (ob_of (tb_c2 hb)) ⟨by decide +kernel, by decide +kernel⟩ (Nat.le_of_ble_eq_true rfl) (Nat.le_of_ble_eq_true rfl) (c_u2At hb hw) ?_
    refine wp_istore (lv' := [(0, .ref (b + 1)), (1, .int (nI i)), (2, .int ((a 2) ((nI i) : Int32).toNatClampNeg)), (3, .int (f_u2At s0 a (((a 2) ((nI i) : Int32).toNatClampNeg) + 1))), (4, .int (f_u2At s0 a (((a 2) ((nI i) : Int32).toNatClampNeg) + 3)))]) dq_53_28 (by decide) rfl ?_
    refine wp_aload_n dq_53_30 rfl ?_
    refine wp_getf dq_53_31 fl_53_18 (tb_c1 hb) rfl ?_
    refine wp_iload_n dq_53_34 rfl ?_
    refine wp_iald dq_53_35 (tb_c4 hb) hin ?_
    refine wp_tab (off := 219) (tgt := 255) dq_53_36 (by rw [hcl, QF_tg hQ0 hi, ht0, nI_toInt (by omega)]; exact tab_lk _ (by omega)) rfl ?_
    exact wp_vre dq_53_255 rfl (hK h hT hf)
  obtain ⟨-, -, hE⟩ := (hR hs).2.1 i hz
  have htt : tg B T i = B (T i) := if_pos ⟨hi, hz⟩
  have hP2 := QF_pl hQ0 hi hz
  have hE3 := (eOK_12 hE).2.2.2
  have hE12 := (eOK_12 hE).2.1
  have hF9 := QF_U2 hQ0 (p := T i + 1) (by omega)
  rcases Decidable.em (tg B T i = 7) with ht | n7
  · skip
    refine wp_aload_n dq_53_0 rfl ?_
    refine wp_getf dq_53_1 fl_53_22 (tb_c1 hb) rfl ?_
    refine wp_iload_n dq_53_4 rfl ?_
    refine wp_iald dq_53_5 (tb_c5 hb) hin ?_
    rw [hcl, hP2]
    refine wp_istore_n (lv' := [(0, .ref (b + 1)), (1, .int (nI i)), (2, .int (nI (T i)))]) dq_53_6 (by decide) rfl ?_
    refine wp_aload_n dq_53_7 rfl ?_
    refine wp_getf dq_53_8 fl_53_12 (tb_c1 hb) rfl ?_
    refine wp_iload_n dq_53_11 rfl ?_
    refine wp_iconst (x := 1) dq_53_12 rfl ?_
    refine wp_iadd dq_53_13 ?_
    refine wp_cve1 dq_53_14 mt_53_86 (ob_of (tb_c2 hb)) ⟨by decide +kernel, by decide +kernel⟩ (Nat.le_of_ble_eq_true rfl) (Nat.le_of_ble_eq_true rfl) (c_u2At hb hw) ?_
    rw [nI_1, QF_u2 hQ0 (by omega)]
    refine wp_istore_n (lv' := [(0, .ref (b + 1)), (1, .int (nI i)), (2, .int (nI (T i))), (3, .int (nI (bu_U B (T i + 1) 2)))]) dq_53_17 (by decide) rfl ?_
    refine wp_aload_n dq_53_18 rfl ?_
    refine wp_getf dq_53_19 fl_53_12 (tb_c1 hb) rfl ?_
    refine wp_iload_n dq_53_22 rfl ?_
    refine wp_iconst (x := 3) dq_53_23 rfl ?_
    refine wp_iadd dq_53_24 ?_
    refine wp_cve1 dq_53_25 mt_53_86 (ob_of (tb_c2 hb)) ⟨by decide +kernel, by decide +kernel⟩ (Nat.le_of_ble_eq_true rfl) (Nat.le_of_ble_eq_true rfl) (c_u2At hb hw) ?_
    refine wp_istore (lv' := [(0, .ref (b + 1)), (1, .int (nI i)), (2, .int (nI (T i))), (3, .int (nI (bu_U B (T i + 1) 2))), (4, .int (f_u2At s0 a (nI (T i) + 3)))]) dq_53_28 (by decide) rfl ?_
    refine wp_aload_n dq_53_30 rfl ?_
    refine wp_getf dq_53_31 fl_53_18 (tb_c1 hb) rfl ?_
    refine wp_iload_n dq_53_34 rfl ?_
    refine wp_iald dq_53_35 (tb_c4 hb) hin ?_
    rw [hcl, QF_tg hQ0 hi]
    refine wp_tab (off := 40) (tgt := 76) dq_53_36 (by rw [ht, nI_toInt (by decide)]; decide) rfl ?_
    refine wp_aload_n dq_53_76 rfl ?_
    refine wp_getf dq_53_77 fl_53_12 (tb_c1 hb) rfl ?_
    refine wp_aload_n dq_53_80 rfl ?_
    refine wp_iload_n dq_53_81 rfl ?_
    refine wp_iconst (x := 1) dq_53_82 rfl ?_
    refine wp_cve2 dq_53_83 mt_53_90 (ob_of (tb_c1 hb)) ⟨by decide +kernel, by decide +kernel⟩ (Nat.le_of_ble_eq_true rfl) (Nat.le_of_ble_eq_true rfl) (c_names hb) ?_
    refine wp_iconst (x := 5) dq_53_86 rfl ?_
    refine wp_iload_n dq_53_87 rfl ?_
    refine wp_cv3 dq_53_88 mt_53_65 (ob_of (tb_c2 hb)) ⟨by decide +kernel, by decide +kernel⟩ (Nat.le_of_ble_eq_true rfl) (Nat.le_of_ble_eq_true rfl) (c_wantB (c := (tg B T (bu_U B (T i + 1) 2) == 1)) (f := 5) (p := (T i)) hT (by decide) (fun hq => q_names (hq0 _ (hR hq).1 (hR hq).2.1) hF9 (t := 1) (by decide) (by decide)) (fun hq => rfl)) (fun v9 h9 q9 => ?_)
    obtain ⟨rfl, hT, hf9⟩ := q9
    have hf := fr_tr hf hf9
    clear hf9
    generalize hS1 : rs_w (tg B T (bu_U B (T i + 1) 2) == 1) 5 (T i) S0 = S1 at hT
    obtain ⟨s1, hb, hw, hm1, h01, hq1⟩ := TS_x hT
    refine wp_aload_n dq_53_91 rfl ?_
    refine wp_getf dq_53_92 fl_53_12 (tb_c1 hb) rfl ?_
    refine wp_aload_n dq_53_95 rfl ?_
    refine wp_iload_n dq_53_96 rfl ?_
    refine wp_iconst (x := 3) dq_53_97 rfl ?_
    refine wp_cve2 dq_53_98 mt_53_94 (ob_of (tb_c1 hb)) ⟨by decide +kernel, by decide +kernel⟩ (Nat.le_of_ble_eq_true rfl) (Nat.le_of_ble_eq_true rfl) (c_hasShape hb) ?_
    refine wp_bipush (x := 7) dq_53_101 rfl ?_
    refine wp_iload_n dq_53_103 rfl ?_
    refine wp_cv3 dq_53_104 mt_53_65 (ob_of (tb_c2 hb)) ⟨by decide +kernel, by decide +kernel⟩ (Nat.le_of_ble_eq_true rfl) (Nat.le_of_ble_eq_true rfl) (c_wantB (c := (tg B T (bu_U B (T i + 1) 2) == 1 && (k_cn B T (bu_U B (T i + 1) 2) || k_ar B T (bu_U B (T i + 1) 2)))) (f := 7) (p := (T i)) hT (by decide) (fun hq => q_sh3 (hq1 _ (hR (sd_w hS1 hq)).1 (hR (sd_w hS1 hq)).2.1) ((hR (sd_w hS1 hq)).2.2) hF9) (fun hq => rfl)) (fun v9 h9 q9 => ?_)
    obtain ⟨rfl, hT, hf9⟩ := q9
    have hf := fr_tr hf hf9
    clear hf9
    generalize hS2 : rs_w (tg B T (bu_U B (T i + 1) 2) == 1 && (k_cn B T (bu_U B (T i + 1) 2) || k_ar B T (bu_U B (T i + 1) 2))) 7 (T i) S1 = S2 at hT
    obtain ⟨s2, hb, hw, hm2, h02, hq2⟩ := TS_x hT
    refine wp_goto (tgt := 255) dq_53_107 rfl ?_
    exact wp_vre dq_53_255 rfl (hK h9 (by rw [rs_lk, if_pos ht, hS1, hS2]; exact hT) hf)
  rcases Decidable.em (tg B T i = 8) with ht | n8
  · skip
    refine wp_aload_n dq_53_0 rfl ?_
    refine wp_getf dq_53_1 fl_53_22 (tb_c1 hb) rfl ?_
    refine wp_iload_n dq_53_4 rfl ?_
    refine wp_iald dq_53_5 (tb_c5 hb) hin ?_
    rw [hcl, hP2]
    refine wp_istore_n (lv' := [(0, .ref (b + 1)), (1, .int (nI i)), (2, .int (nI (T i)))]) dq_53_6 (by decide) rfl ?_
    refine wp_aload_n dq_53_7 rfl ?_
    refine wp_getf dq_53_8 fl_53_12 (tb_c1 hb) rfl ?_
    refine wp_iload_n dq_53_11 rfl ?_
    refine wp_iconst (x := 1) dq_53_12 rfl ?_
    refine wp_iadd dq_53_13 ?_
    refine wp_cve1 dq_53_14 mt_53_86 (ob_of (tb_c2 hb)) ⟨by decide +kernel, by decide +kernel⟩ (Nat.le_of_ble_eq_true rfl) (Nat.le_of_ble_eq_true rfl) (c_u2At hb hw) ?_
    rw [nI_1, QF_u2 hQ0 (by omega)]
    refine wp_istore_n (lv' := [(0, .ref (b + 1)), (1, .int (nI i)), (2, .int (nI (T i))), (3, .int (nI (bu_U B (T i + 1) 2)))]) dq_53_17 (by decide) rfl ?_
    refine wp_aload_n dq_53_18 rfl ?_
    refine wp_getf dq_53_19 fl_53_12 (tb_c1 hb) rfl ?_
    refine wp_iload_n dq_53_22 rfl ?_
    refine wp_iconst (x := 3) dq_53_23 rfl ?_
    refine wp_iadd dq_53_24 ?_
    refine wp_cve1 dq_53_25 mt_53_86 (ob_of (tb_c2 hb)) ⟨by decide +kernel, by decide +kernel⟩ (Nat.le_of_ble_eq_true rfl) (Nat.le_of_ble_eq_true rfl) (c_u2At hb hw) ?_
    refine wp_istore (lv' := [(0, .ref (b + 1)), (1, .int (nI i)), (2, .int (nI (T i))), (3, .int (nI (bu_U B (T i + 1) 2))), (4, .int (f_u2At s0 a (nI (T i) + 3)))]) dq_53_28 (by decide) rfl ?_
    refine wp_aload_n dq_53_30 rfl ?_
    refine wp_getf dq_53_31 fl_53_18 (tb_c1 hb) rfl ?_
    refine wp_iload_n dq_53_34 rfl ?_
    refine wp_iald dq_53_35 (tb_c4 hb) hin ?_
    rw [hcl, QF_tg hQ0 hi]
    refine wp_tab (off := 74) (tgt := 110) dq_53_36 (by rw [ht, nI_toInt (by decide)]; decide) rfl ?_
    refine wp_aload_n dq_53_110 rfl ?_
    refine wp_getf dq_53_111 fl_53_12 (tb_c1 hb) rfl ?_
    refine wp_aload_n dq_53_114 rfl ?_
    refine wp_iload_n dq_53_115 rfl ?_
    refine wp_iconst (x := 1) dq_53_116 rfl ?_
    refine wp_cve2 dq_53_117 mt_53_90 (ob_of (tb_c1 hb)) ⟨by decide +kernel, by decide +kernel⟩ (Nat.le_of_ble_eq_true rfl) (Nat.le_of_ble_eq_true rfl) (c_names hb) ?_
    refine wp_iconst (x := 5) dq_53_120 rfl ?_
    refine wp_iload_n dq_53_121 rfl ?_
    refine wp_cv3 dq_53_122 mt_53_65 (ob_of (tb_c2 hb)) ⟨by decide +kernel, by decide +kernel⟩ (Nat.le_of_ble_eq_true rfl) (Nat.le_of_ble_eq_true rfl) (c_wantB (c := (tg B T (bu_U B (T i + 1) 2) == 1)) (f := 5) (p := (T i)) hT (by decide) (fun hq => q_names (hq0 _ (hR hq).1 (hR hq).2.1) hF9 (t := 1) (by decide) (by decide)) (fun hq => rfl)) (fun v9 h9 q9 => ?_)
    obtain ⟨rfl, hT, hf9⟩ := q9
    have hf := fr_tr hf hf9
    clear hf9
    generalize hS1 : rs_w (tg B T (bu_U B (T i + 1) 2) == 1) 5 (T i) S0 = S1 at hT
    obtain ⟨s1, hb, hw, hm1, h01, hq1⟩ := TS_x hT
    refine wp_goto (tgt := 255) dq_53_125 rfl ?_
    exact wp_vre dq_53_255 rfl (hK h9 (by rw [rs_lk, if_neg n7, if_pos ht, hS1]; exact hT) hf)
  rcases Decidable.em (tg B T i = 9 ∨ tg B T i = 10 ∨ tg B T i = 11) with ht | n9
  · have hE5 : T i + 5 ≤ n := eOK_5 hE (by omega)
    have hG9 := QF_U2 hQ0 (p := T i + 3) (by omega)
    refine wp_aload_n dq_53_0 rfl ?_
    refine wp_getf dq_53_1 fl_53_22 (tb_c1 hb) rfl ?_
    refine wp_iload_n dq_53_4 rfl ?_
    refine wp_iald dq_53_5 (tb_c5 hb) hin ?_
    rw [hcl, hP2]
    refine wp_istore_n (lv' := [(0, .ref (b + 1)), (1, .int (nI i)), (2, .int (nI (T i)))]) dq_53_6 (by decide) rfl ?_
    refine wp_aload_n dq_53_7 rfl ?_
    refine wp_getf dq_53_8 fl_53_12 (tb_c1 hb) rfl ?_
    refine wp_iload_n dq_53_11 rfl ?_
    refine wp_iconst (x := 1) dq_53_12 rfl ?_
    refine wp_iadd dq_53_13 ?_
    refine wp_cve1 dq_53_14 mt_53_86 (ob_of (tb_c2 hb)) ⟨by decide +kernel, by decide +kernel⟩ (Nat.le_of_ble_eq_true rfl) (Nat.le_of_ble_eq_true rfl) (c_u2At hb hw) ?_
    rw [nI_1, QF_u2 hQ0 (by omega)]
    refine wp_istore_n (lv' := [(0, .ref (b + 1)), (1, .int (nI i)), (2, .int (nI (T i))), (3, .int (nI (bu_U B (T i + 1) 2)))]) dq_53_17 (by decide) rfl ?_
    refine wp_aload_n dq_53_18 rfl ?_
    refine wp_getf dq_53_19 fl_53_12 (tb_c1 hb) rfl ?_
    refine wp_iload_n dq_53_22 rfl ?_
    refine wp_iconst (x := 3) dq_53_23 rfl ?_
    refine wp_iadd dq_53_24 ?_
    refine wp_cve1 dq_53_25 mt_53_86 (ob_of (tb_c2 hb)) ⟨by decide +kernel, by decide +kernel⟩ (Nat.le_of_ble_eq_true rfl) (Nat.le_of_ble_eq_true rfl) (c_u2At hb hw) ?_
    rw [show (3 : Int32) = nI 3 from rfl, nI_add, QF_u2 hQ0 (by omega)]
    refine wp_istore (lv' := [(0, .ref (b + 1)), (1, .int (nI i)), (2, .int (nI (T i))), (3, .int (nI (bu_U B (T i + 1) 2))), (4, .int (nI (bu_U B (T i + 3) 2)))]) dq_53_28 (by decide) rfl ?_
    refine wp_aload_n dq_53_30 rfl ?_
    refine wp_getf dq_53_31 fl_53_18 (tb_c1 hb) rfl ?_
    refine wp_iload_n dq_53_34 rfl ?_
    refine wp_iald dq_53_35 (tb_c4 hb) hin ?_
    rw [hcl, QF_tg hQ0 hi]
    refine wp_tab (off := 92) (tgt := 128) dq_53_36 (by rcases ht with g | g | g <;> rw [g, nI_toInt (by decide)] <;> decide) rfl ?_
    refine wp_aload_n dq_53_128 rfl ?_
    refine wp_getf dq_53_129 fl_53_12 (tb_c1 hb) rfl ?_
    have hj132 : ∀ z9 : Int32, (snd S0 → z9 = bI ((tg B T (bu_U B (T i + 1) 2) == 7 && tg B T (bu_U B (T i + 3) 2) == 12))) → wp_W L xs (d + 5) 53 158 [(0, .ref (b + 1)), (1, .int (nI i)), (2, .int (nI (T i))), (3, .int (nI (bu_U B (T i + 1) 2))), (4, .int (nI (bu_U B (T i + 3) 2)))] (.int z9 :: .ref (b + 2) :: []) h Q := by
      intro z9 hz9
      refine wp_iconst (x := 5) dq_53_158 rfl ?_
      refine wp_iload_n dq_53_159 rfl ?_
      refine wp_cv3 dq_53_160 mt_53_65 (ob_of (tb_c2 hb)) ⟨by decide +kernel, by decide +kernel⟩ (Nat.le_of_ble_eq_true rfl) (Nat.le_of_ble_eq_true rfl) (c_wantB (c := (tg B T (bu_U B (T i + 1) 2) == 7 && tg B T (bu_U B (T i + 3) 2) == 12)) (f := 5) (p := (T i)) hT (by decide) (fun hq => hz9 hq) (fun hq => rfl)) (fun v9 h9 q9 => ?_)
      obtain ⟨rfl, hT, hf9⟩ := q9
      have hf := fr_tr hf hf9
      clear hf9
      generalize hS1 : rs_w (tg B T (bu_U B (T i + 1) 2) == 7 && tg B T (bu_U B (T i + 3) 2) == 12) 5 (T i) S0 = S1 at hT
      obtain ⟨s1, hb, hw, hm1, h01, hq1⟩ := TS_x hT
      refine wp_goto (tgt := 255) dq_53_163 rfl ?_
      exact wp_vre dq_53_255 rfl (hK h9 (by rw [rs_lk, if_neg n7, if_neg n8, if_pos ht, hS1]; exact hT) hf)
    refine wp_aload_n dq_53_132 rfl ?_
    refine wp_iload_n dq_53_133 rfl ?_
    refine wp_bipush (x := 7) dq_53_134 rfl ?_
    refine wp_cve2 dq_53_136 mt_53_90 (ob_of (tb_c1 hb)) ⟨by decide +kernel, by decide +kernel⟩ (Nat.le_of_ble_eq_true rfl) (Nat.le_of_ble_eq_true rfl) (c_names hb) ?_
    refine wp_if_eq (tgt := 157) dq_53_139 rfl (fun c1 => ?_) (fun c1 => ?_)
    · refine wp_iconst (x := 0) dq_53_157 rfl ?_
      exact hj132 _ (fun hq => by have hQ := (hq0 _ (hR hq).1 (hR hq).2.1); have xc1 : (tg B T (bu_U B (T i + 1) 2) == 7) = false := bx_0 (q_names hQ hF9 (t := 7) (by decide) (by decide)) c1; rw [xc1] <;> rfl)
    · refine wp_aload_n dq_53_142 rfl ?_
      refine wp_iload dq_53_143 rfl ?_
      refine wp_bipush (x := 12) dq_53_145 rfl ?_
      refine wp_cve2 dq_53_147 mt_53_90 (ob_of (tb_c1 hb)) ⟨by decide +kernel, by decide +kernel⟩ (Nat.le_of_ble_eq_true rfl) (Nat.le_of_ble_eq_true rfl) (c_names hb) ?_
      refine wp_if_eq (tgt := 157) dq_53_150 rfl (fun c2 => ?_) (fun c2 => ?_)
      · refine wp_iconst (x := 0) dq_53_157 rfl ?_
        exact hj132 _ (fun hq => by have hQ := (hq0 _ (hR hq).1 (hR hq).2.1); have xc1 : (tg B T (bu_U B (T i + 1) 2) == 7) = true := bx_1 (q_names hQ hF9 (t := 7) (by decide) (by decide)) c1; have xc2 : (tg B T (bu_U B (T i + 3) 2) == 12) = false := bx_0 (q_names hQ hG9 (t := 12) (by decide) (by decide)) c2; rw [xc1, xc2] <;> rfl)
      · refine wp_iconst (x := 1) dq_53_153 rfl ?_
        refine wp_goto (tgt := 158) dq_53_154 rfl ?_
        exact hj132 _ (fun hq => by have hQ := (hq0 _ (hR hq).1 (hR hq).2.1); have xc1 : (tg B T (bu_U B (T i + 1) 2) == 7) = true := bx_1 (q_names hQ hF9 (t := 7) (by decide) (by decide)) c1; have xc2 : (tg B T (bu_U B (T i + 3) 2) == 12) = true := bx_1 (q_names hQ hG9 (t := 12) (by decide) (by decide)) c2; rw [xc1, xc2] <;> rfl)
  rcases Decidable.em (tg B T i = 12) with ht | n12
  · have hE5 : T i + 5 ≤ n := eOK_5 hE (by omega)
    have hG9 := QF_U2 hQ0 (p := T i + 3) (by omega)
    refine wp_aload_n dq_53_0 rfl ?_
    refine wp_getf dq_53_1 fl_53_22 (tb_c1 hb) rfl ?_
    refine wp_iload_n dq_53_4 rfl ?_
    refine wp_iald dq_53_5 (tb_c5 hb) hin ?_
    rw [hcl, hP2]
    refine wp_istore_n (lv' := [(0, .ref (b + 1)), (1, .int (nI i)), (2, .int (nI (T i)))]) dq_53_6 (by decide) rfl ?_
    refine wp_aload_n dq_53_7 rfl ?_
    refine wp_getf dq_53_8 fl_53_12 (tb_c1 hb) rfl ?_
    refine wp_iload_n dq_53_11 rfl ?_
    refine wp_iconst (x := 1) dq_53_12 rfl ?_
    refine wp_iadd dq_53_13 ?_
    refine wp_cve1 dq_53_14 mt_53_86 (ob_of (tb_c2 hb)) ⟨by decide +kernel, by decide +kernel⟩ (Nat.le_of_ble_eq_true rfl) (Nat.le_of_ble_eq_true rfl) (c_u2At hb hw) ?_
    rw [nI_1, QF_u2 hQ0 (by omega)]
    refine wp_istore_n (lv' := [(0, .ref (b + 1)), (1, .int (nI i)), (2, .int (nI (T i))), (3, .int (nI (bu_U B (T i + 1) 2)))]) dq_53_17 (by decide) rfl ?_
    refine wp_aload_n dq_53_18 rfl ?_
    refine wp_getf dq_53_19 fl_53_12 (tb_c1 hb) rfl ?_
    refine wp_iload_n dq_53_22 rfl ?_
    refine wp_iconst (x := 3) dq_53_23 rfl ?_
    refine wp_iadd dq_53_24 ?_
    refine wp_cve1 dq_53_25 mt_53_86 (ob_of (tb_c2 hb)) ⟨by decide +kernel, by decide +kernel⟩ (Nat.le_of_ble_eq_true rfl) (Nat.le_of_ble_eq_true rfl) (c_u2At hb hw) ?_
    rw [show (3 : Int32) = nI 3 from rfl, nI_add, QF_u2 hQ0 (by omega)]
    refine wp_istore (lv' := [(0, .ref (b + 1)), (1, .int (nI i)), (2, .int (nI (T i))), (3, .int (nI (bu_U B (T i + 1) 2))), (4, .int (nI (bu_U B (T i + 3) 2)))]) dq_53_28 (by decide) rfl ?_
    refine wp_aload_n dq_53_30 rfl ?_
    refine wp_getf dq_53_31 fl_53_18 (tb_c1 hb) rfl ?_
    refine wp_iload_n dq_53_34 rfl ?_
    refine wp_iald dq_53_35 (tb_c4 hb) hin ?_
    rw [hcl, QF_tg hQ0 hi]
    refine wp_tab (off := 130) (tgt := 166) dq_53_36 (by rw [ht, nI_toInt (by decide)]; decide) rfl ?_
    refine wp_aload_n dq_53_166 rfl ?_
    refine wp_getf dq_53_167 fl_53_12 (tb_c1 hb) rfl ?_
    have hj170 : ∀ z9 : Int32, (snd S0 → z9 = bI ((tg B T (bu_U B (T i + 1) 2) == 1 && tg B T (bu_U B (T i + 3) 2) == 1))) → wp_W L xs (d + 5) 53 194 [(0, .ref (b + 1)), (1, .int (nI i)), (2, .int (nI (T i))), (3, .int (nI (bu_U B (T i + 1) 2))), (4, .int (nI (bu_U B (T i + 3) 2)))] (.int z9 :: .ref (b + 2) :: []) h Q := by
      intro z9 hz9
      refine wp_iconst (x := 5) dq_53_194 rfl ?_
      refine wp_iload_n dq_53_195 rfl ?_
      refine wp_cv3 dq_53_196 mt_53_65 (ob_of (tb_c2 hb)) ⟨by decide +kernel, by decide +kernel⟩ (Nat.le_of_ble_eq_true rfl) (Nat.le_of_ble_eq_true rfl) (c_wantB (c := (tg B T (bu_U B (T i + 1) 2) == 1 && tg B T (bu_U B (T i + 3) 2) == 1)) (f := 5) (p := (T i)) hT (by decide) (fun hq => hz9 hq) (fun hq => rfl)) (fun v9 h9 q9 => ?_)
      obtain ⟨rfl, hT, hf9⟩ := q9
      have hf := fr_tr hf hf9
      clear hf9
      generalize hS1 : rs_w (tg B T (bu_U B (T i + 1) 2) == 1 && tg B T (bu_U B (T i + 3) 2) == 1) 5 (T i) S0 = S1 at hT
      obtain ⟨s1, hb, hw, hm1, h01, hq1⟩ := TS_x hT
      refine wp_aload_n dq_53_199 rfl ?_
      refine wp_getf dq_53_200 fl_53_12 (tb_c1 hb) rfl ?_
      have hj203 : ∀ z9 : Int32, (snd S1 → z9 = bI (((tg B T (bu_U B (T i + 1) 2) == 1 && k_mm B T (bu_U B (T i + 1) 2)) || decide (tg B T (bu_U B (T i + 1) 2) = 1 ∧ tx B T (bu_U B (T i + 1) 2) = wd 14)))) → wp_W L xs (d + 5) 53 228 [(0, .ref (b + 1)), (1, .int (nI i)), (2, .int (nI (T i))), (3, .int (nI (bu_U B (T i + 1) 2))), (4, .int (nI (bu_U B (T i + 3) 2)))] (.int z9 :: .ref (b + 2) :: []) h9 Q := by
        intro z9 hz9
        refine wp_bipush (x := 7) dq_53_228 rfl ?_
        refine wp_iload_n dq_53_230 rfl ?_
        refine wp_cv3 dq_53_231 mt_53_65 (ob_of (tb_c2 hb)) ⟨by decide +kernel, by decide +kernel⟩ (Nat.le_of_ble_eq_true rfl) (Nat.le_of_ble_eq_true rfl) (c_wantB (c := ((tg B T (bu_U B (T i + 1) 2) == 1 && k_mm B T (bu_U B (T i + 1) 2)) || decide (tg B T (bu_U B (T i + 1) 2) = 1 ∧ tx B T (bu_U B (T i + 1) 2) = wd 14))) (f := 7) (p := (T i)) hT (by decide) (fun hq => hz9 hq) (fun hq => rfl)) (fun v9 h9 q9 => ?_)
        obtain ⟨rfl, hT, hf9⟩ := q9
        have hf := fr_tr hf hf9
        clear hf9
        generalize hS2 : rs_w ((tg B T (bu_U B (T i + 1) 2) == 1 && k_mm B T (bu_U B (T i + 1) 2)) || decide (tg B T (bu_U B (T i + 1) 2) = 1 ∧ tx B T (bu_U B (T i + 1) 2) = wd 14)) 7 (T i) S1 = S2 at hT
        obtain ⟨s2, hb, hw, hm2, h02, hq2⟩ := TS_x hT
        refine wp_aload_n dq_53_234 rfl ?_
        refine wp_getf dq_53_235 fl_53_12 (tb_c1 hb) rfl ?_
        refine wp_aload_n dq_53_238 rfl ?_
        refine wp_iload dq_53_239 rfl ?_
        refine wp_bipush (x := 12) dq_53_241 rfl ?_
        refine wp_cve2 dq_53_243 mt_53_94 (ob_of (tb_c1 hb)) ⟨by decide +kernel, by decide +kernel⟩ (Nat.le_of_ble_eq_true rfl) (Nat.le_of_ble_eq_true rfl) (c_hasShape hb) ?_
        refine wp_bipush (x := 8) dq_53_246 rfl ?_
        refine wp_iload_n dq_53_248 rfl ?_
        refine wp_cv3 dq_53_249 mt_53_65 (ob_of (tb_c2 hb)) ⟨by decide +kernel, by decide +kernel⟩ (Nat.le_of_ble_eq_true rfl) (Nat.le_of_ble_eq_true rfl) (c_wantB (c := (tg B T (bu_U B (T i + 3) 2) == 1 && (k_ft B T (bu_U B (T i + 3) 2) || k_mt B T (bu_U B (T i + 3) 2)))) (f := 8) (p := (T i)) hT (by decide) (fun hq => q_sh12 (hq2 _ (hR (sd_w hS1 (sd_w hS2 hq))).1 (hR (sd_w hS1 (sd_w hS2 hq))).2.1) ((hR (sd_w hS1 (sd_w hS2 hq))).2.2) hG9) (fun hq => rfl)) (fun v9 h9 q9 => ?_)
        obtain ⟨rfl, hT, hf9⟩ := q9
        have hf := fr_tr hf hf9
        clear hf9
        generalize hS3 : rs_w (tg B T (bu_U B (T i + 3) 2) == 1 && (k_ft B T (bu_U B (T i + 3) 2) || k_mt B T (bu_U B (T i + 3) 2))) 8 (T i) S2 = S3 at hT
        obtain ⟨s3, hb, hw, hm3, h03, hq3⟩ := TS_x hT
        refine wp_goto (tgt := 255) dq_53_252 rfl ?_
        exact wp_vre dq_53_255 rfl (hK h9 (by rw [rs_lk, if_neg n7, if_neg n8, if_neg n9, if_pos ht, hS1, hS2, hS3]; exact hT) hf)
      refine wp_aload_n dq_53_203 rfl ?_
      refine wp_iload_n dq_53_204 rfl ?_
      refine wp_bipush (x := 16) dq_53_205 rfl ?_
      refine wp_cve2 dq_53_207 mt_53_94 (ob_of (tb_c1 hb)) ⟨by decide +kernel, by decide +kernel⟩ (Nat.le_of_ble_eq_true rfl) (Nat.le_of_ble_eq_true rfl) (c_hasShape hb) ?_
      refine wp_if_ne (tgt := 223) dq_53_210 rfl (fun c1 => ?_) (fun c1 => ?_)
      · refine wp_iconst (x := 1) dq_53_223 rfl ?_
        refine wp_goto (tgt := 228) dq_53_224 rfl ?_
        exact hj203 _ (fun hq => by have hQ := (hq1 _ (hR (sd_w hS1 hq)).1 (hR (sd_w hS1 hq)).2.1); have xc1 : (tg B T (bu_U B (T i + 1) 2) == 1 && k_mm B T (bu_U B (T i + 1) 2)) = true := bx_1 (q_sh16 hQ ((hR (sd_w hS1 hq)).2.2) hF9) c1; rw [xc1] <;> rfl)
      · refine wp_aload_n dq_53_213 rfl ?_
        refine wp_iload_n dq_53_214 rfl ?_
        refine wp_ldc (v := .retAddr 14) dq_53_215 (by decide +kernel) ?_
        refine wp_cve2 dq_53_217 mt_53_98 (ob_of (tb_c1 hb)) ⟨by decide +kernel, by decide +kernel⟩ (Nat.le_of_ble_eq_true rfl) (Nat.le_of_ble_eq_true rfl) (c_spells (by decide) hb hw) ?_
        refine wp_if_eq (tgt := 227) dq_53_220 rfl (fun c2 => ?_) (fun c2 => ?_)
        · refine wp_iconst (x := 0) dq_53_227 rfl ?_
          exact hj203 _ (fun hq => by have hQ := (hq1 _ (hR (sd_w hS1 hq)).1 (hR (sd_w hS1 hq)).2.1); have xc1 : (tg B T (bu_U B (T i + 1) 2) == 1 && k_mm B T (bu_U B (T i + 1) 2)) = false := bx_0 (q_sh16 hQ ((hR (sd_w hS1 hq)).2.2) hF9) c1; have xc2 : (decide (tg B T (bu_U B (T i + 1) 2) = 1 ∧ tx B T (bu_U B (T i + 1) 2) = wd 14)) = false := bx_0 (q_spells hQ hF9 (by decide)) c2; rw [xc1, xc2] <;> rfl)
        · refine wp_iconst (x := 1) dq_53_223 rfl ?_
          refine wp_goto (tgt := 228) dq_53_224 rfl ?_
          exact hj203 _ (fun hq => by have hQ := (hq1 _ (hR (sd_w hS1 hq)).1 (hR (sd_w hS1 hq)).2.1); have xc1 : (tg B T (bu_U B (T i + 1) 2) == 1 && k_mm B T (bu_U B (T i + 1) 2)) = false := bx_0 (q_sh16 hQ ((hR (sd_w hS1 hq)).2.2) hF9) c1; have xc2 : (decide (tg B T (bu_U B (T i + 1) 2) = 1 ∧ tx B T (bu_U B (T i + 1) 2) = wd 14)) = true := bx_1 (q_spells hQ hF9 (by decide)) c2; rw [xc1, xc2] <;> rfl)
    refine wp_aload_n dq_53_170 rfl ?_
    refine wp_iload_n dq_53_171 rfl ?_
    refine wp_iconst (x := 1) dq_53_172 rfl ?_
    refine wp_cve2 dq_53_173 mt_53_90 (ob_of (tb_c1 hb)) ⟨by decide +kernel, by decide +kernel⟩ (Nat.le_of_ble_eq_true rfl) (Nat.le_of_ble_eq_true rfl) (c_names hb) ?_
    refine wp_if_eq (tgt := 193) dq_53_176 rfl (fun c3 => ?_) (fun c3 => ?_)
    · refine wp_iconst (x := 0) dq_53_193 rfl ?_
      exact hj170 _ (fun hq => by have hQ := (hq0 _ (hR hq).1 (hR hq).2.1); have xc3 : (tg B T (bu_U B (T i + 1) 2) == 1) = false := bx_0 (q_names hQ hF9 (t := 1) (by decide) (by decide)) c3; rw [xc3] <;> rfl)
    · refine wp_aload_n dq_53_179 rfl ?_
      refine wp_iload dq_53_180 rfl ?_
      refine wp_iconst (x := 1) dq_53_182 rfl ?_
      refine wp_cve2 dq_53_183 mt_53_90 (ob_of (tb_c1 hb)) ⟨by decide +kernel, by decide +kernel⟩ (Nat.le_of_ble_eq_true rfl) (Nat.le_of_ble_eq_true rfl) (c_names hb) ?_
      refine wp_if_eq (tgt := 193) dq_53_186 rfl (fun c4 => ?_) (fun c4 => ?_)
      · refine wp_iconst (x := 0) dq_53_193 rfl ?_
        exact hj170 _ (fun hq => by have hQ := (hq0 _ (hR hq).1 (hR hq).2.1); have xc3 : (tg B T (bu_U B (T i + 1) 2) == 1) = true := bx_1 (q_names hQ hF9 (t := 1) (by decide) (by decide)) c3; have xc4 : (tg B T (bu_U B (T i + 3) 2) == 1) = false := bx_0 (q_names hQ hG9 (t := 1) (by decide) (by decide)) c4; rw [xc3, xc4] <;> rfl)
      · refine wp_iconst (x := 1) dq_53_189 rfl ?_
        refine wp_goto (tgt := 194) dq_53_190 rfl ?_
        exact hj170 _ (fun hq => by have hQ := (hq0 _ (hR hq).1 (hR hq).2.1); have xc3 : (tg B T (bu_U B (T i + 1) 2) == 1) = true := bx_1 (q_names hQ hF9 (t := 1) (by decide) (by decide)) c3; have xc4 : (tg B T (bu_U B (T i + 3) 2) == 1) = true := bx_1 (q_names hQ hG9 (t := 1) (by decide) (by decide)) c4; rw [xc3, xc4] <;> rfl)
  · skip
    refine wp_aload_n dq_53_0 rfl ?_
    refine wp_getf dq_53_1 fl_53_22 (tb_c1 hb) rfl ?_
    refine wp_iload_n dq_53_4 rfl ?_
    refine wp_iald dq_53_5 (tb_c5 hb) hin ?_
    rw [hcl, hP2]
    refine wp_istore_n (lv' := [(0, .ref (b + 1)), (1, .int (nI i)), (2, .int (nI (T i)))]) dq_53_6 (by decide) rfl ?_
    refine wp_aload_n dq_53_7 rfl ?_
    refine wp_getf dq_53_8 fl_53_12 (tb_c1 hb) rfl ?_
    refine wp_iload_n dq_53_11 rfl ?_
    refine wp_iconst (x := 1) dq_53_12 rfl ?_
    refine wp_iadd dq_53_13 ?_
    refine wp_cve1 dq_53_14 mt_53_86 (ob_of (tb_c2 hb)) ⟨by decide +kernel, by decide +kernel⟩ (Nat.le_of_ble_eq_true rfl) (Nat.le_of_ble_eq_true rfl) (c_u2At hb hw) ?_
    rw [nI_1, QF_u2 hQ0 (by omega)]
    refine wp_istore_n (lv' := [(0, .ref (b + 1)), (1, .int (nI i)), (2, .int (nI (T i))), (3, .int (nI (bu_U B (T i + 1) 2)))]) dq_53_17 (by decide) rfl ?_
    refine wp_aload_n dq_53_18 rfl ?_
    refine wp_getf dq_53_19 fl_53_12 (tb_c1 hb) rfl ?_
    refine wp_iload_n dq_53_22 rfl ?_
    refine wp_iconst (x := 3) dq_53_23 rfl ?_
    refine wp_iadd dq_53_24 ?_
    refine wp_cve1 dq_53_25 mt_53_86 (ob_of (tb_c2 hb)) ⟨by decide +kernel, by decide +kernel⟩ (Nat.le_of_ble_eq_true rfl) (Nat.le_of_ble_eq_true rfl) (c_u2At hb hw) ?_
    refine wp_istore (lv' := [(0, .ref (b + 1)), (1, .int (nI i)), (2, .int (nI (T i))), (3, .int (nI (bu_U B (T i + 1) 2))), (4, .int (f_u2At s0 a (nI (T i) + 3)))]) dq_53_28 (by decide) rfl ?_
    refine wp_aload_n dq_53_30 rfl ?_
    refine wp_getf dq_53_31 fl_53_18 (tb_c1 hb) rfl ?_
    refine wp_iload_n dq_53_34 rfl ?_
    refine wp_iald dq_53_35 (tb_c4 hb) hin ?_
    rw [hcl, QF_tg hQ0 hi]
    refine wp_tab (off := 219) (tgt := 255) dq_53_36 (by rw [nI_toInt (by omega)]; exact tab_lk _ (by omega)) rfl ?_
    exact wp_vre dq_53_255 rfl (hK h (by rw [rs_lk, if_neg n7, if_neg n8, if_neg n9, if_neg n12]; exact hT) hf)
