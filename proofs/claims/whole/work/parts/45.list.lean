theorem lc_lt {q r : Nat} (hq : q < 2 ^ 63) (hr : r < 2 ^ 63) : lg_cmp (lN q) (lN r) < 0 ↔ q < r := by
  unfold lg_cmp
  by_cases c1 : lN q > lN r
  · rw [if_pos c1]
    have := (pk_lLT hr hq).mp c1
    exact ⟨fun h => absurd h (by decide), fun h => by omega⟩
  · rw [if_neg c1]
    by_cases c2 : lN q = lN r
    · rw [if_pos c2]
      have := (pk_lEQ hq hr).mp c2
      exact ⟨fun h => absurd h (by decide), fun h => by omega⟩
    · rw [if_neg c2]
      have h3 : ¬ r < q := fun h => c1 ((pk_lLT hr hq).mpr h)
      have h4 : ¬ q = r := fun h => c2 (by rw [h])
      exact ⟨fun _ => by omega, fun _ => by decide⟩
def ez (w : Nat) : Nat := if w = 5 then 8 else 2
theorem ez_q {w : Nat} (h : 4 ≤ w ∧ w ≤ 7) : qx_esz.getD (w - 1) 0 = nI (ez w) ∧ qx_etg.getD (w - 1) 0 = 7 ∧ ez w ≤ 8 := by
  rcases (show w = 4 ∨ w = 5 ∨ w = 6 ∨ w = 7 by omega) with rfl | rfl | rfl | rfl <;> decide
def rs_el (B : Nat → Nat) (n : Nat) (T : Nat → Nat) (w : Nat) (S : rS) : rS := if w = 5 then rs_is n 2 (rs_ix B n T 1 true (rs_ix B n T 7 true (rs_ix B n T 7 false S))) else rs_ix B n T 7 false S
def rs_els (B : Nat → Nat) (n : Nat) (T : Nat → Nat) (w : Nat) : Nat → rS → rS
  | 0, S => S
  | j + 1, S => rs_els B n T w j (rs_el B n T w S)
theorem rs_els_s (B : Nat → Nat) (n : Nat) (T : Nat → Nat) (w j : Nat) (S : rS) : rs_els B n T w (j + 1) S = rs_els B n T w j (rs_el B n T w S) := rfl
theorem rs_el_e (B : Nat → Nat) (n : Nat) (T : Nat → Nat) (w : Nat) (e : Nat × Nat) : rs_el B n T w (.inr e) = .inr e := by
  unfold rs_el
  split <;> rfl
theorem sd_el {B : Nat → Nat} {n : Nat} {T : Nat → Nat} {w : Nat} {S S' : rS} (e : rs_el B n T w S = S') (h : snd S') : snd S := by
  cases S with
  | inl q => exact snd_l q
  | inr e0 => rw [rs_el_e] at e; subst e; exact h
theorem rs_els_e (B : Nat → Nat) (n : Nat) (T : Nat → Nat) (w : Nat) (e : Nat × Nat) : ∀ j, rs_els B n T w j (.inr e) = .inr e
  | 0 => rfl
  | j + 1 => by rw [rs_els_s, rs_el_e]; exact rs_els_e B n T w e j
def rs_li1 (B : Nat → Nat) (S : rS) : rS := rs_w (decide (2 ≤ bu_U B (rs_p S - 4) 4)) 10 (rs_p S - 4) S
def rs_li (B : Nat → Nat) (n : Nat) (T : Nat → Nat) (w : Nat) (S : rS) : rS := rs_els B n T w (rs_iv B n 2 (rs_li1 B S)) (rs_w (bu_U B (rs_p S - 4) 4 == 2 + rs_iv B n 2 (rs_li1 B S) * ez w) 10 (rs_p S - 4) (rs_is n 2 (rs_li1 B S)))
theorem rs_li_e (B : Nat → Nat) (n : Nat) (T : Nat → Nat) (w : Nat) (e : Nat × Nat) : rs_li B n T w (.inr e) = .inr e := rs_els_e ..
set_option maxRecDepth 100000 in
theorem c_liL {L : Nat} {xs : Nat → Int32} {d b n g : Nat} {B T : Nat → Nat} {fp : Int32} {a : Nat → Nat → Int32} {w c : Nat} {y : Int32} {z : Int64} {h0 : List qx_E} {Q : Option Value → List qx_E → Prop} (he : qx_en w = true) (hc9 : c < 65536) : ∀ j i S0 (h : List qx_E), TS h b B n S0 fp a → RG h b g → fr b h0 h → (snd S0 → PL B n T a ∧ 4 ≤ w ∧ w ≤ 7) → i + j = c → (∀ h', TS h' b B n (rs_els B n T w j S0) fp a → fr b h0 h' → Q none h') → wp_W L xs (d + 4) 97 87 [(0, .ref g), (1, .retAddr w), (2, .int y), (3, .long z), (5, .int (nI c)), (6, .int (nI i))] [] h Q := by
  intro j
  induction j with
  | zero =>
    intro i S0 h hT hg hf hH hi hK
    refine wp_iload dq_97_87 rfl ?_
    refine wp_iload dq_97_89 rfl ?_
    refine wp_ic_ge (tgt := 151) dq_97_91 rfl (fun c1 => ?_) (fun c1 => absurd (nI_le (by omega) (by omega)) c1)
    exact wp_vre dq_97_151 rfl (hK h hT hf)
  | succ j ih =>
    intro i S0 h hT hg hf hH hi hK
    have hR : snd S0 → PL B n T a := fun hq => (hH hq).1
    obtain ⟨s0, hb, hw, hm0, h00, hq0⟩ := TS_x hT
    rcases snd_or S0 with hs | ⟨e0, rfl⟩
    rotate_left
    · have hE := hK h (by rw [rs_els_e]; exact hT) hf
      refine wp_iload dq_97_87 rfl ?_
      refine wp_iload dq_97_89 rfl ?_
      refine wp_ic_ge (tgt := 151) dq_97_91 rfl (fun c1 => absurd c1 (nI_ge (by omega) (by omega))) (fun c1 => ?_)
      refine wp_aload_n dq_97_94 rfl ?_
      refine wp_getf dq_97_95 fl_97_26 hg.2 rfl ?_
      refine wp_cve0 dq_97_98 mt_97_69 (ob_of (tb_c2 hb)) ⟨by decide +kernel, by decide +kernel⟩ (Nat.le_of_ble_eq_true rfl) (Nat.le_of_ble_eq_true rfl) (c_soundT hT) ?_
      refine wp_if_eq (tgt := 151) dq_97_101 rfl (fun c2 => wp_vre dq_97_151 rfl hE) (fun c2 => absurd rfl c2)
    · skip
      refine wp_iload dq_97_87 rfl ?_
      refine wp_iload dq_97_89 rfl ?_
      refine wp_ic_ge (tgt := 151) dq_97_91 rfl (fun c1 => ?_) (fun c1 => ?_)
      · exact absurd c1 (nI_ge (by omega) (by omega))
      · refine wp_aload_n dq_97_94 rfl ?_
        refine wp_getf dq_97_95 fl_97_26 hg.2 rfl ?_
        refine wp_cve0 dq_97_98 mt_97_69 (ob_of (tb_c2 hb)) ⟨by decide +kernel, by decide +kernel⟩ (Nat.le_of_ble_eq_true rfl) (Nat.le_of_ble_eq_true rfl) (c_soundT hT) ?_
        refine wp_if_eq (tgt := 151) dq_97_101 rfl (fun c2 => ?_) (fun c2 => ?_)
        · exact absurd c2 (ok_1 hs)
        · refine wp_aload_n dq_97_104 rfl ?_
          refine wp_aload_nK dq_97_105 rfl ?_
          refine wp_getk dq_97_106 fl_97_199 (ko_e he) rfl ?_
          refine wp_iconst (x := 0) dq_97_109 rfl ?_
          refine wp_cv2 dq_97_110 mt_97_84 (ob_of hg.2) ⟨by decide +kernel, by decide +kernel⟩ (Nat.le_of_ble_eq_true rfl) (Nat.le_of_ble_eq_true rfl) (c_ix (t := 7) (mz := false) hT (fun hq => hR hq) hg (fun hq s i hi hQ => by rw [(ez_q (hH hq).2).2.1]; exact q_names hQ hi (t := 7) (by decide) (by decide))) (fun v9 h9 q9 => ?_)
          obtain ⟨rfl, hT, hf9⟩ := q9
          have hg := RG_fr hg hf9
          have hf := fr_tr hf hf9
          clear hf9
          generalize hS1 : rs_ix B n T 7 false S0 = S1 at hT
          obtain ⟨s1, hb, hw, hm1, h01, hq1⟩ := TS_x hT
          refine wp_pop dq_97_113 rfl ?_
          refine wp_aload_nK dq_97_114 rfl ?_
          refine wp_gets (v := .retAddr 5) dq_97_115 (by decide +kernel) ?_
          refine wp_acmp_ne (tgt := 145) dq_97_118 he (by decide) rfl (fun c3 => ?_) (fun c3 => ?_)
          · have w5 : ¬ w = 5 := c3
            refine wp_iinc (y := ((nI i) + 1)) (lv' := [(0, .ref g), (1, .retAddr w), (2, .int y), (3, .long z), (5, .int (nI c)), (6, .int ((nI i) + 1))]) dq_97_145 rfl rfl (by decide) rfl ?_
            refine wp_goto (tgt := 87) dq_97_148 rfl ?_
            have e9 : rs_el B n T w S0 = S1 := by rw [rs_el, if_neg w5, hS1]
            rw [nI_1]
            rw [rs_els_s, e9] at hK
            exact ih (i + 1) S1 _ hT hg hf (fun hq => hH (sd_el e9 hq)) (by omega) hK
          · have w5 : w = 5 := c3
            refine wp_aload_n dq_97_121 rfl ?_
            refine wp_bipush (x := 7) dq_97_122 rfl ?_
            refine wp_iconst (x := 1) dq_97_124 rfl ?_
            refine wp_cv2 dq_97_125 mt_97_84 (ob_of hg.2) ⟨by decide +kernel, by decide +kernel⟩ (Nat.le_of_ble_eq_true rfl) (Nat.le_of_ble_eq_true rfl) (c_ix (t := 7) (mz := true) hT (fun hq => hR (sd_ix hS1 hq)) hg (fun _ s i hi hQ => q_names hQ hi (t := 7) (by decide) (by decide))) (fun v9 h9 q9 => ?_)
            obtain ⟨rfl, hT, hf9⟩ := q9
            have hg := RG_fr hg hf9
            have hf := fr_tr hf hf9
            clear hf9
            generalize hS2 : rs_ix B n T 7 true S1 = S2 at hT
            obtain ⟨s2, hb, hw, hm2, h02, hq2⟩ := TS_x hT
            refine wp_pop dq_97_128 rfl ?_
            refine wp_aload_n dq_97_129 rfl ?_
            refine wp_iconst (x := 1) dq_97_130 rfl ?_
            refine wp_iconst (x := 1) dq_97_131 rfl ?_
            refine wp_cv2 dq_97_132 mt_97_84 (ob_of hg.2) ⟨by decide +kernel, by decide +kernel⟩ (Nat.le_of_ble_eq_true rfl) (Nat.le_of_ble_eq_true rfl) (c_ix (t := 1) (mz := true) hT (fun hq => hR (sd_ix hS1 (sd_ix hS2 hq))) hg (fun _ s i hi hQ => q_names hQ hi (t := 1) (by decide) (by decide))) (fun v9 h9 q9 => ?_)
            obtain ⟨rfl, hT, hf9⟩ := q9
            have hg := RG_fr hg hf9
            have hf := fr_tr hf hf9
            clear hf9
            generalize hS3 : rs_ix B n T 1 true S2 = S3 at hT
            obtain ⟨s3, hb, hw, hm3, h03, hq3⟩ := TS_x hT
            refine wp_pop dq_97_135 rfl ?_
            refine wp_aload_n dq_97_136 rfl ?_
            refine wp_getf dq_97_137 fl_97_26 hg.2 rfl ?_
            refine wp_iconst (x := 2) dq_97_140 rfl ?_
            refine wp_cv1 dq_97_141 mt_97_27 (ob_of (tb_c2 hb)) ⟨by decide +kernel, by decide +kernel⟩ (Nat.le_of_ble_eq_true rfl) (Nat.le_of_ble_eq_true rfl) (c_itemT (k := 2) hT (by decide)) (fun v9 h9 q9 => ?_)
            obtain ⟨rfl, hT, hf9⟩ := q9
            have hg := RG_fr hg hf9
            have hf := fr_tr hf hf9
            clear hf9
            generalize hS4 : rs_is n 2 S3 = S4 at hT
            obtain ⟨s4, hb, hw, hm4, h04, hq4⟩ := TS_x hT
            refine wp_pop2 dq_97_144 rfl ?_
            refine wp_iinc (y := ((nI i) + 1)) (lv' := [(0, .ref g), (1, .retAddr w), (2, .int y), (3, .long z), (5, .int (nI c)), (6, .int ((nI i) + 1))]) dq_97_145 rfl rfl (by decide) rfl ?_
            refine wp_goto (tgt := 87) dq_97_148 rfl ?_
            have e9 : rs_el B n T w S0 = S4 := by rw [rs_el, if_pos w5, hS1, hS2, hS3, hS4]
            rw [nI_1]
            rw [rs_els_s, e9] at hK
            exact ih (i + 1) S4 _ hT hg hf (fun hq => hH (sd_el e9 hq)) (by omega) hK
theorem li_a {w c : Nat} (h : qx_esz.getD (w - 1) 0 = nI (ez w) ∧ qx_etg.getD (w - 1) 0 = 7 ∧ ez w ≤ 8) (hc : c ≤ 65535) : (2 + nI c * qx_esz.getD (w - 1) 0).toInt64 = lN (2 + c * ez w) := by
  have h2 := Nat.mul_le_mul hc h.2.2
  rw [h.1, pk_mul, show (2 : Int32) = nI 2 from rfl, nI_add, nI_l (by omega)]
set_option maxRecDepth 100000 in
theorem c_liK {L : Nat} {xs : Nat → Int32} {d b n g : Nat} {B T : Nat → Nat} {fp : Int32} {S0 : rS} {h : List qx_E} {a : Nat → Nat → Int32} {Q : Option Value → List qx_E → Prop} {w : Nat} (hT : TS h b B n S0 fp a) (hR : snd S0 → PL B n T a) (hg : RG h b g) (h4 : snd S0 → 4 ≤ rs_p S0) (he : qx_en w = true) (hw9 : snd S0 → 4 ≤ w ∧ w ≤ 7) (hK : ∀ h', TS h' b B n (rs_li B n T w S0) fp a → fr b h h' → Q none h') : wp_W L xs (d + 4) 97 0 (lv_args 0 [.ref g, .retAddr w]) [] h Q := by
  show wp_W L xs _ 97 0 [(0, .ref g), (1, .retAddr w)] [] h _
  obtain ⟨s0, hb, hw, hm0, h00, hq0⟩ := TS_x hT
  have hf : fr b h h := fr_rf
  refine wp_aload_n dq_97_0 rfl ?_
  refine wp_getf dq_97_1 fl_97_26 hg.2 rfl ?_
  refine wp_getf dq_97_4 fl_97_52 (tb_c2 hb) rfl ?_
  refine wp_iconst (x := 4) dq_97_7 rfl ?_
  refine wp_isub dq_97_8 ?_
  refine wp_istore_n (lv' := [(0, .ref g), (1, .retAddr w), (2, .int ((s0 2) - 4))]) dq_97_9 (by decide) rfl ?_
  refine wp_aload_n dq_97_10 rfl ?_
  refine wp_getf dq_97_11 fl_97_26 hg.2 rfl ?_
  refine wp_iload_n dq_97_14 rfl ?_
  refine wp_iconst (x := 4) dq_97_15 rfl ?_
  refine wp_cve2 dq_97_16 mt_97_202 (ob_of (tb_c2 hb)) ⟨by decide +kernel, by decide +kernel⟩ (Nat.le_of_ble_eq_true rfl) (Nat.le_of_ble_eq_true rfl) (c_numAt 4 rfl (by decide) hb hw) ?_
  refine wp_lstore_n (lv' := [(0, .ref g), (1, .retAddr w), (2, .int ((s0 2) - 4)), (3, .long (f_numberAt s0 a ((s0 2) - 4) 4))]) dq_97_19 (by decide) rfl ?_
  refine wp_aload_n dq_97_20 rfl ?_
  refine wp_getf dq_97_21 fl_97_26 hg.2 rfl ?_
  have hj24 : ∀ z9 : Int32, (snd S0 → z9 = bI ((decide (2 ≤ bu_U B (rs_p S0 - 4) 4)))) → wp_W L xs (d + 4) 97 37 [(0, .ref g), (1, .retAddr w), (2, .int ((s0 2) - 4)), (3, .long (f_numberAt s0 a ((s0 2) - 4) 4))] (.int z9 :: .ref (b + 2) :: []) h Q := by
    intro z9 hz9
    refine wp_bipush (x := 10) dq_97_37 rfl ?_
    refine wp_iload_n dq_97_39 rfl ?_
    refine wp_cv3 dq_97_40 mt_97_35 (ob_of (tb_c2 hb)) ⟨by decide +kernel, by decide +kernel⟩ (Nat.le_of_ble_eq_true rfl) (Nat.le_of_ble_eq_true rfl) (c_wantB (c := (decide (2 ≤ bu_U B (rs_p S0 - 4) 4))) (f := 10) (p := (rs_p S0 - 4)) hT (by decide) (fun hq => hz9 hq) (fun hq => (wl_n (hq0 _ (hR hq).1 (hR hq).2.1) hm0 hq (h4 hq)).1)) (fun v9 h9 q9 => ?_)
    obtain ⟨rfl, hT, hf9⟩ := q9
    have hg := RG_fr hg hf9
    have hf := fr_tr hf hf9
    clear hf9
    generalize hS1 : rs_w (decide (2 ≤ bu_U B (rs_p S0 - 4) 4)) 10 (rs_p S0 - 4) S0 = S1 at hT
    obtain ⟨s1, hb, hw, hm1, h01, hq1⟩ := TS_x hT
    refine wp_aload_n dq_97_43 rfl ?_
    refine wp_getf dq_97_44 fl_97_26 hg.2 rfl ?_
    refine wp_iconst (x := 2) dq_97_47 rfl ?_
    refine wp_cv1 dq_97_48 mt_97_27 (ob_of (tb_c2 hb)) ⟨by decide +kernel, by decide +kernel⟩ (Nat.le_of_ble_eq_true rfl) (Nat.le_of_ble_eq_true rfl) (c_itemT (k := 2) hT (by decide)) (fun v9 h9 q9 => ?_)
    obtain ⟨rfl, hT, hf9⟩ := q9
    have hg := RG_fr hg hf9
    have hf := fr_tr hf hf9
    clear hf9
    generalize hS2 : rs_is n 2 S1 = S2 at hT
    obtain ⟨s2, hb, hw, hm2, h02, hq2⟩ := TS_x hT
    refine wp_l2i dq_97_51 ?_
    rw [lN_i]
    refine wp_istore (lv' := [(0, .ref g), (1, .retAddr w), (2, .int ((s0 2) - 4)), (3, .long (f_numberAt s0 a ((s0 2) - 4) 4)), (5, .int (nI (rs_iv B n 2 S1)))]) dq_97_52 (by decide) rfl ?_
    have hN9 : rs_iv B n 2 S1 ≤ 65535 := Nat.le_of_lt_succ (iv2_lt hT)
    refine wp_aload_n dq_97_54 rfl ?_
    refine wp_getf dq_97_55 fl_97_26 hg.2 rfl ?_
    have hj58 : ∀ z9 : Int32, (snd S2 → z9 = bI ((bu_U B (rs_p S0 - 4) 4 == 2 + rs_iv B n 2 S1 * ez w))) → wp_W L xs (d + 4) 97 78 [(0, .ref g), (1, .retAddr w), (2, .int ((s0 2) - 4)), (3, .long (f_numberAt s0 a ((s0 2) - 4) 4)), (5, .int (nI (rs_iv B n 2 S1)))] (.int z9 :: .ref (b + 2) :: []) h9 Q := by
      intro z9 hz9
      refine wp_bipush (x := 10) dq_97_78 rfl ?_
      refine wp_iload_n dq_97_80 rfl ?_
      refine wp_cv3 dq_97_81 mt_97_35 (ob_of (tb_c2 hb)) ⟨by decide +kernel, by decide +kernel⟩ (Nat.le_of_ble_eq_true rfl) (Nat.le_of_ble_eq_true rfl) (c_wantB (c := (bu_U B (rs_p S0 - 4) 4 == 2 + rs_iv B n 2 S1 * ez w)) (f := 10) (p := (rs_p S0 - 4)) hT (by decide) (fun hq => hz9 hq) (fun hq => (wl_n (hq0 _ (hR (sd_w hS1 (sd_is hS2 hq))).1 (hR (sd_w hS1 (sd_is hS2 hq))).2.1) hm0 (sd_w hS1 (sd_is hS2 hq)) (h4 (sd_w hS1 (sd_is hS2 hq)))).1)) (fun v9 h9 q9 => ?_)
      obtain ⟨rfl, hT, hf9⟩ := q9
      have hg := RG_fr hg hf9
      have hf := fr_tr hf hf9
      clear hf9
      generalize hS3 : rs_w (bu_U B (rs_p S0 - 4) 4 == 2 + rs_iv B n 2 S1 * ez w) 10 (rs_p S0 - 4) S2 = S3 at hT
      obtain ⟨s3, hb, hw, hm3, h03, hq3⟩ := TS_x hT
      refine wp_iconst (x := 0) dq_97_84 rfl ?_
      refine wp_istore (lv' := [(0, .ref g), (1, .retAddr w), (2, .int ((s0 2) - 4)), (3, .long (f_numberAt s0 a ((s0 2) - 4) 4)), (5, .int (nI (rs_iv B n 2 S1))), (6, .int 0)]) dq_97_85 (by decide) rfl ?_
      exact c_liL he (iv2_lt hT) (rs_iv B n 2 S1) 0 S3 h9 hT hg hf (fun hq => ⟨hR (sd_w hS1 (sd_is hS2 (sd_w hS3 hq))), hw9 (sd_w hS1 (sd_is hS2 (sd_w hS3 hq)))⟩) (by omega) (fun h' h1 h2 => hK h' (by rw [rs_li, rs_li1, hS1, hS2, hS3]; exact h1) h2)
    refine wp_lload_n dq_97_58 rfl ?_
    refine wp_iconst (x := 2) dq_97_59 rfl ?_
    refine wp_iload dq_97_60 rfl ?_
    refine wp_aload_nK dq_97_62 rfl ?_
    refine wp_getk dq_97_63 fl_97_206 (ko_e he) rfl ?_
    refine wp_imul dq_97_66 ?_
    refine wp_iadd dq_97_67 ?_
    refine wp_i2l dq_97_68 ?_
    refine wp_lcmp dq_97_69 ?_
    refine wp_if_ne (tgt := 77) dq_97_70 rfl (fun c1 => ?_) (fun c1 => ?_)
    · refine wp_iconst (x := 0) dq_97_77 rfl ?_
      exact hj58 _ (fun hq => by have hQ := (hq2 _ (hR (sd_w hS1 (sd_is hS2 hq))).1 (hR (sd_w hS1 (sd_is hS2 hq))).2.1); have xc1 : (bu_U B (rs_p S0 - 4) 4 == 2 + rs_iv B n 2 S1 * ez w) = false := beq_eq_false_iff_ne.mpr (fun r => c1 (by rw [(wl_n (hq0 _ (hR (sd_w hS1 (sd_is hS2 hq))).1 (hR (sd_w hS1 (sd_is hS2 hq))).2.1) hm0 (sd_w hS1 (sd_is hS2 hq)) (h4 (sd_w hS1 (sd_is hS2 hq)))).2.1, li_a (ez_q (hw9 (sd_w hS1 (sd_is hS2 hq)))) hN9]; exact (lc_eq (by have := (wl_n (hq0 _ (hR (sd_w hS1 (sd_is hS2 hq))).1 (hR (sd_w hS1 (sd_is hS2 hq))).2.1) hm0 (sd_w hS1 (sd_is hS2 hq)) (h4 (sd_w hS1 (sd_is hS2 hq)))).2.2; omega) (by have := (ez_q (hw9 (sd_w hS1 (sd_is hS2 hq)))).2.2; have := Nat.mul_le_mul hN9 this; omega)).mpr r)); rw [xc1] <;> rfl)
    · refine wp_iconst (x := 1) dq_97_73 rfl ?_
      refine wp_goto (tgt := 78) dq_97_74 rfl ?_
      exact hj58 _ (fun hq => by have hQ := (hq2 _ (hR (sd_w hS1 (sd_is hS2 hq))).1 (hR (sd_w hS1 (sd_is hS2 hq))).2.1); have xc1 : (bu_U B (rs_p S0 - 4) 4 == 2 + rs_iv B n 2 S1 * ez w) = true := beq_iff_eq.mpr ((lc_eq (by have := (wl_n (hq0 _ (hR (sd_w hS1 (sd_is hS2 hq))).1 (hR (sd_w hS1 (sd_is hS2 hq))).2.1) hm0 (sd_w hS1 (sd_is hS2 hq)) (h4 (sd_w hS1 (sd_is hS2 hq)))).2.2; omega) (by have := (ez_q (hw9 (sd_w hS1 (sd_is hS2 hq)))).2.2; have := Nat.mul_le_mul hN9 this; omega)).mp (by rw [← li_a (ez_q (hw9 (sd_w hS1 (sd_is hS2 hq)))) hN9, ← (wl_n (hq0 _ (hR (sd_w hS1 (sd_is hS2 hq))).1 (hR (sd_w hS1 (sd_is hS2 hq))).2.1) hm0 (sd_w hS1 (sd_is hS2 hq)) (h4 (sd_w hS1 (sd_is hS2 hq)))).2.1]; exact c1)); rw [xc1] <;> rfl)
  refine wp_lload_n dq_97_24 rfl ?_
  refine wp_ldc2 (v := 2) dq_97_25 (by decide +kernel) ?_
  refine wp_lcmp dq_97_28 ?_
  refine wp_if_lt (tgt := 36) dq_97_29 rfl (fun c2 => ?_) (fun c2 => ?_)
  · refine wp_iconst (x := 0) dq_97_36 rfl ?_
    exact hj24 _ (fun hq => by have hQ := (hq0 _ (hR hq).1 (hR hq).2.1); have xc2 : (decide (2 ≤ bu_U B (rs_p S0 - 4) 4)) = false := decide_eq_false (fun r => absurd ((lc_lt (q := bu_U B (rs_p S0 - 4) 4) (r := 2) (by have := (wl_n (hq0 _ (hR hq).1 (hR hq).2.1) hm0 hq (h4 hq)).2.2; omega) (by decide)).mp (by rw [← (wl_n (hq0 _ (hR hq).1 (hR hq).2.1) hm0 hq (h4 hq)).2.1]; exact c2)) (by omega)); rw [xc2] <;> rfl)
  · refine wp_iconst (x := 1) dq_97_32 rfl ?_
    refine wp_goto (tgt := 37) dq_97_33 rfl ?_
    exact hj24 _ (fun hq => by have hQ := (hq0 _ (hR hq).1 (hR hq).2.1); have xc2 : (decide (2 ≤ bu_U B (rs_p S0 - 4) 4)) = true := decide_eq_true (by rcases Nat.lt_or_ge (bu_U B (rs_p S0 - 4) 4) 2 with r | r; exact absurd (by rw [(wl_n (hq0 _ (hR hq).1 (hR hq).2.1) hm0 hq (h4 hq)).2.1]; exact (lc_lt (r := 2) (by omega) (by decide)).mpr r) c2; exact r); rw [xc2] <;> rfl)
theorem c_li {L : Nat} {xs : Nat → Int32} {d b n g : Nat} {B T : Nat → Nat} {fp : Int32} {S0 : rS} {h : List qx_E} {a : Nat → Nat → Int32} {w : Nat} (hT : TS h b B n S0 fp a) (hR : snd S0 → PL B n T a) (hg : RG h b g) (h4 : snd S0 → 4 ≤ rs_p S0) (he : qx_en w = true) (hw9 : snd S0 → 4 ≤ w ∧ w ≤ 7) : wp_W L xs (d + 4) 97 0 (lv_args 0 [.ref g, .retAddr w]) [] h (fun v h' => v = none ∧ TS h' b B n (rs_li B n T w S0) fp a ∧ fr b h h') := c_liK hT hR hg h4 he hw9 (fun h' h1 h2 => ⟨rfl, h1, h2⟩)
