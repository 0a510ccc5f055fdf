theorem PQ_u {B : Nat → Nat} {n : Nat} {T : Nat → Nat} {N : Nat → Int32} {j : Nat} {x : Int32} (hP : PQ B n T N) (h2 : j ≠ 2) (hj : j < 21 ∨ 84 ≤ j) : PQ B n T (upd N j x) := by
  obtain ⟨h1, h3, c, h4, h5, h6, h7⟩ := hP
  exact ⟨h1, h3, c, h4, (pk_un (Ne.symm h2)).trans h5, h6, fun i a1 a2 => (pk_un (by omega)).trans (h7 i a1 a2)⟩
def f4 (w b : Nat) : Nat := if w = 4 then b + 6 else 2 * w - 3
theorem els_e (B : Nat → Nat) (n : Nat) (T : Nat → Nat) (w : Nat) (e : Nat × Nat) (j : Nat) : rs_els B n T w j (.inr e) = .inr e := rs_els_e B n T w e j
theorem el_5 {B : Nat → Nat} {n : Nat} {T : Nat → Nat} {w : Nat} {S : rS} (h : w = 5) : rs_el B n T w S = rs_is n 2 (rs_ix B n T 1 true (rs_ix B n T 7 true (rs_ix B n T 7 false S))) := if_pos h
theorem el_n {B : Nat → Nat} {n : Nat} {T : Nat → Nat} {w : Nat} {S : rS} (h : ¬ w = 5) : rs_el B n T w S = rs_ix B n T 7 false S := if_neg h
set_option maxRecDepth 100000 in
theorem c_mliL {L : Nat} {xs : Nat → Int32} {d n : Nat} {B T : Nat → Nat} {N : Nat → Int32} {z : rZ} {Q : Option Value → List qx_E → Prop} {w b ln c to : Nat} {lp : Int32} (hw : w < 10) (hc9 : c < 65536) : ∀ j k S0 (h : List qx_E), TR h B n S0 N z → (snd S0 → PQ B n T N) → k + j = c → (∀ h', TR h' B n (rs_els B n T w j S0) N z → Q none h') → wp_W L xs (d + 4) 172 116 [(0, .ref 13), (1, .int (nI w)), (2, .int (nI b)), (3, .long (lN ln)), (5, .int lp), (6, .int (nI c)), (7, .int (nI to)), (8, .int (nI k))] [] h Q := by
  intro j
  induction j with
  | zero =>
    intro k S0 h hT hP hi hK
    refine wp_iload dq_172_116 rfl ?_
    refine wp_iload dq_172_118 rfl ?_
    refine wp_ic_geN (tgt := 176) dq_172_120 rfl (by omega) (by omega) (fun c1 => ?_) (fun c1 => absurd c1 (by omega))
    exact wp_vre dq_172_176 rfl (hK h hT)
  | succ j ih =>
    intro k S0 h hT hP hi hK
    rcases snd_or S0 with hs | ⟨e, rfl⟩
    · have hP := hP hs
      obtain ⟨s0, fa0, hb, hz0, hc0, hp0⟩ := TR_x hT
      obtain ⟨s0, fa0, hb, hz0, hc0, hp0⟩ := TR_x hT
      have ho := mw_0 hb
      rw [hp0 hs, hc0.mpr hs] at ho
      refine wp_iload dq_172_116 rfl ?_
      refine wp_iload dq_172_118 rfl ?_
      refine wp_ic_geN (tgt := 176) dq_172_120 rfl (by omega) (by omega) (fun c1 => ?_) (fun c1 => ?_)
      · exact absurd c1 (by omega)
      · refine wp_aload_n dq_172_123 rfl ?_
        refine wp_getf (w := .int (nI 0)) dq_172_124 fl_172_116 ho rfl ?_
        refine wp_if_neN (tgt := 176) dq_172_127 rfl (by omega) (fun c9 => absurd c9 (by decide)) (fun _ => ?_)
        refine wp_aload_n dq_172_130 rfl ?_
        refine wp_bipush (x := nI 7) dq_172_131 rfl ?_
        refine wp_iconst (x := nI 0) dq_172_133 rfl ?_
        refine wp_cv2 (P := fun v h' => v = some (.int (nI (rs_iv B n 2 S0))) ∧ TR h' B n (rs_ix B n T 7 false S0) N z) dq_172_134 mt_172_173 (ob_of (mw_0 hb)) ⟨by decide +kernel, by decide +kernel⟩ (Nat.le_of_ble_eq_true rfl) (Nat.le_of_ble_eq_true rfl) (c_mix (T := T) (t := 7) (mz := false) hT (fun hq => hP) (by decide) (fun h' k1 => ⟨rfl, k1⟩)) (fun v9 h9 q9 => ?_)
        obtain ⟨rfl, hT⟩ := q9
        generalize hS1 : rs_ix B n T 7 false S0 = S1 at hT
        obtain ⟨s1, fa1, hb, hz1, hc1, hp1⟩ := TR_x hT
        refine wp_istore (lv' := [(0, .ref 13), (1, .int (nI w)), (2, .int (nI b)), (3, .long (lN ln)), (5, .int lp), (6, .int (nI c)), (7, .int (nI to)), (8, .int (nI k)), (9, .int (nI (rs_iv B n 2 S0)))]) dq_172_137 (by decide) rfl ?_
        refine wp_iload_n dq_172_139 rfl ?_
        refine wp_iconst (x := nI 5) dq_172_140 rfl ?_
        refine wp_ic_eqN (tgt := 147) dq_172_141 rfl (by omega) (by omega) (fun c2 => ?_) (fun c2 => ?_)
        · refine wp_aload_n dq_172_147 rfl ?_
          refine wp_bipush (x := nI 7) dq_172_148 rfl ?_
          refine wp_iconst (x := nI 1) dq_172_150 rfl ?_
          refine wp_cv2 (P := fun v h' => v = some (.int (nI (rs_iv B n 2 S1))) ∧ TR h' B n (rs_ix B n T 7 true S1) N z) dq_172_151 mt_172_173 (ob_of (mw_0 hb)) ⟨by decide +kernel, by decide +kernel⟩ (Nat.le_of_ble_eq_true rfl) (Nat.le_of_ble_eq_true rfl) (c_mix (T := T) (t := 7) (mz := true) hT (fun hq => hP) (by decide) (fun h' k1 => ⟨rfl, k1⟩)) (fun v9 h9 q9 => ?_)
          obtain ⟨rfl, hT⟩ := q9
          generalize hS2 : rs_ix B n T 7 true S1 = S2 at hT
          obtain ⟨s2, fa2, hb, hz2, hc2, hp2⟩ := TR_x hT
          refine wp_istore (lv' := [(0, .ref 13), (1, .int (nI w)), (2, .int (nI b)), (3, .long (lN ln)), (5, .int lp), (6, .int (nI c)), (7, .int (nI to)), (8, .int (nI k)), (9, .int (nI (rs_iv B n 2 S1)))]) dq_172_154 (by decide) rfl ?_
          refine wp_aload_n dq_172_156 rfl ?_
          refine wp_iconst (x := nI 1) dq_172_157 rfl ?_
          refine wp_iconst (x := nI 1) dq_172_158 rfl ?_
          refine wp_cv2 (P := fun v h' => v = some (.int (nI (rs_iv B n 2 S2))) ∧ TR h' B n (rs_ix B n T 1 true S2) N z) dq_172_159 mt_172_173 (ob_of (mw_0 hb)) ⟨by decide +kernel, by decide +kernel⟩ (Nat.le_of_ble_eq_true rfl) (Nat.le_of_ble_eq_true rfl) (c_mix (T := T) (t := 1) (mz := true) hT (fun hq => hP) (by decide) (fun h' k1 => ⟨rfl, k1⟩)) (fun v9 h9 q9 => ?_)
          obtain ⟨rfl, hT⟩ := q9
          generalize hS3 : rs_ix B n T 1 true S2 = S3 at hT
          obtain ⟨s3, fa3, hb, hz3, hc3, hp3⟩ := TR_x hT
          refine wp_istore (lv' := [(0, .ref 13), (1, .int (nI w)), (2, .int (nI b)), (3, .long (lN ln)), (5, .int lp), (6, .int (nI c)), (7, .int (nI to)), (8, .int (nI k)), (9, .int (nI (rs_iv B n 2 S2)))]) dq_172_162 (by decide) rfl ?_
          refine wp_aload_n dq_172_164 rfl ?_
          refine wp_cv0 (P := fun v h' => v = some (.int (nI (rs_iv B n 2 S3))) ∧ TR h' B n (rs_is n 2 S3) N z) dq_172_165 mt_172_134 (ob_of (mw_0 hb)) ⟨by decide +kernel, by decide +kernel⟩ (Nat.le_of_ble_eq_true rfl) (Nat.le_of_ble_eq_true rfl) (c_u2 hT (fun h' k1 => ⟨rfl, k1⟩)) (fun v9 h9 q9 => ?_)
          obtain ⟨rfl, hT⟩ := q9
          generalize hS4 : rs_is n 2 S3 = S4 at hT
          obtain ⟨s4, fa4, hb, hz4, hc4, hp4⟩ := TR_x hT
          have hv165 : rs_iv B n 2 S3 < 65536 := TR_v hT
          refine wp_istore (lv' := [(0, .ref 13), (1, .int (nI w)), (2, .int (nI b)), (3, .long (lN ln)), (5, .int lp), (6, .int (nI c)), (7, .int (nI to)), (8, .int (nI k)), (9, .int (nI (rs_iv B n 2 S3)))]) dq_172_168 (by decide) rfl ?_
          refine wp_iinc (y := nI (k + 1)) (lv' := [(0, .ref 13), (1, .int (nI w)), (2, .int (nI b)), (3, .long (lN ln)), (5, .int lp), (6, .int (nI c)), (7, .int (nI to)), (8, .int (nI (k + 1))), (9, .int (nI (rs_iv B n 2 S3)))]) dq_172_170 rfl (nI_add _ _) (by decide) rfl ?_
          refine wp_goto (tgt := 116) dq_172_173 rfl ?_
          refine wp_fg (l := [(0, .ref 13), (1, .int (nI w)), (2, .int (nI b)), (3, .long (lN ln)), (5, .int lp), (6, .int (nI c)), (7, .int (nI to)), (8, .int (nI (k + 1)))]) (e := [(9, .int (nI (rs_iv B n 2 S3)))]) rfl rfl rfl ?_
          exact ih (k + 1) S4 _ hT (fun _ => hP) (by omega) (by rw [rs_els_s, el_5 c2, hS1, hS2, hS3, hS4] at hK; exact hK)
        · refine wp_goto (tgt := 170) dq_172_144 rfl ?_
          refine wp_iinc (y := nI (k + 1)) (lv' := [(0, .ref 13), (1, .int (nI w)), (2, .int (nI b)), (3, .long (lN ln)), (5, .int lp), (6, .int (nI c)), (7, .int (nI to)), (8, .int (nI (k + 1))), (9, .int (nI (rs_iv B n 2 S0)))]) dq_172_170 rfl (nI_add _ _) (by decide) rfl ?_
          refine wp_goto (tgt := 116) dq_172_173 rfl ?_
          refine wp_fg (l := [(0, .ref 13), (1, .int (nI w)), (2, .int (nI b)), (3, .long (lN ln)), (5, .int lp), (6, .int (nI c)), (7, .int (nI to)), (8, .int (nI (k + 1)))]) (e := [(9, .int (nI (rs_iv B n 2 S0)))]) rfl rfl rfl ?_
          exact ih (k + 1) S1 _ hT (fun _ => hP) (by omega) (by rw [rs_els_s, el_n c2, hS1] at hK; exact hK)
    · obtain ⟨s0, fa0, hb, -, hc0, -⟩ := TR_x hT
      rw [els_e] at hK
      refine wp_iload dq_172_116 rfl ?_
      refine wp_iload dq_172_118 rfl ?_
      refine wp_ic_geN (tgt := 176) dq_172_120 rfl (by omega) (by omega) (fun c1 => absurd c1 (by omega)) (fun c1 => ?_)
      refine wp_aload_n dq_172_123 rfl ?_
      refine wp_getf dq_172_124 fl_172_116 (mw_0 hb) rfl ?_
      refine wp_if_ne (tgt := 176) dq_172_127 rfl (fun c1 => ?_) (fun c1 => absurd (hc0.mp c1) not_snd)
      exact wp_vre dq_172_176 rfl (hK h hT)
set_option maxRecDepth 100000 in
theorem c_mli {L : Nat} {xs : Nat → Int32} {d n : Nat} {B T : Nat → Nat} {N : Nat → Int32} {z : rZ} {S0 : rS} {h : List qx_E} {Q : Option Value → List qx_E → Prop} {w b ln : Nat} {lp : Int32} (hw : 4 ≤ w ∧ w ≤ 7) (hL : snd S0 → ln = bu_U B (rs_p S0 - 4) 4 ∧ lp = nI (rs_p S0 - 4)) (hl9 : ln < 4294967296) (hb9 : b < 490 ∧ (w = 4 → 100 ≤ b)) (hP : snd S0 → PQ B n T N) (hT : TR h B n S0 N z) (hK : ∀ h' N', TR h' B n (rs_li B n T w S0) N' z → (snd (rs_li B n T w S0) → N' = upd (upd N (f4 w b) (nI (bu_U B (rs_p S0) 2))) (f4 w b + 1) (nI (rs_p S0 + 2))) → Q none h') : wp_W L xs (d + 4) 172 0 (lv_args 0 [.ref 13, .int (nI w), .int (nI b), .long (lN ln), .int lp]) [] h Q := by
  show wp_W L xs _ 172 0 [(0, .ref 13), (1, .int (nI w)), (2, .int (nI b)), (3, .long (lN ln)), (5, .int lp)] [] h Q
  obtain ⟨s0, fa0, hb, hz0, hc0, hp0⟩ := TR_x hT
  have hj0 : ∀ h, TR h B n (rs_w (decide (2 ≤ bu_U B (rs_p S0 - 4) 4)) 10 (rs_p S0 - 4) S0) N z → wp_W L xs (d + 4) 172 16 [(0, .ref 13), (1, .int (nI w)), (2, .int (nI b)), (3, .long (lN ln)), (5, .int lp)] ([]) h Q := by
    intro h hT
    generalize hS1 : rs_w (decide (2 ≤ bu_U B (rs_p S0 - 4) 4)) 10 (rs_p S0 - 4) S0 = S1 at hT
    obtain ⟨s1, fa1, hb, hz1, hc1, hp1⟩ := TR_x hT
    refine wp_aload_n dq_172_16 rfl ?_
    refine wp_cv0 (P := fun v h' => v = some (.int (nI (rs_iv B n 2 S1))) ∧ TR h' B n (rs_is n 2 S1) N z) dq_172_17 mt_172_134 (ob_of (mw_0 hb)) ⟨by decide +kernel, by decide +kernel⟩ (Nat.le_of_ble_eq_true rfl) (Nat.le_of_ble_eq_true rfl) (c_u2 hT (fun h' k1 => ⟨rfl, k1⟩)) (fun v9 h9 q9 => ?_)
    obtain ⟨rfl, hT⟩ := q9
    generalize hS2 : rs_is n 2 S1 = S2 at hT
    obtain ⟨s2, fa2, hb, hz2, hc2, hp2⟩ := TR_x hT
    have hv17 : rs_iv B n 2 S1 < 65536 := TR_v hT
    refine wp_istore (lv' := [(0, .ref 13), (1, .int (nI w)), (2, .int (nI b)), (3, .long (lN ln)), (5, .int lp), (6, .int (nI (rs_iv B n 2 S1)))]) dq_172_20 (by decide) rfl ?_
    have hj22 : ∀ h, TR h B n (rs_w (bu_U B (rs_p S0 - 4) 4 == 2 + rs_iv B n 2 S1 * ez w) 10 (rs_p S0 - 4) S2) N z → wp_W L xs (d + 4) 172 64 [(0, .ref 13), (1, .int (nI w)), (2, .int (nI b)), (3, .long (lN ln)), (5, .int lp), (6, .int (nI (rs_iv B n 2 S1)))] ([]) h Q := by
      intro h hT
      generalize hS3 : rs_w (bu_U B (rs_p S0 - 4) 4 == 2 + rs_iv B n 2 S1 * ez w) 10 (rs_p S0 - 4) S2 = S3 at hT
      obtain ⟨s3, fa3, hb, hz3, hc3, hp3⟩ := TR_x hT
      refine wp_aload_n dq_172_64 rfl ?_
      refine wp_getf (w := .int (s3 4)) dq_172_65 fl_172_116 (mw_0 hb) rfl ?_
      refine wp_if_eq (tgt := 72) dq_172_68 rfl (fun c1 => ?_) (fun c1 => ?_)
      · have hq3 : snd S3 := hc3.mp c1
        obtain ⟨g1, g2⟩ := sd_wc hS3 hq3
        rw [g2] at hq3
        obtain ⟨g3, g4, g5⟩ := sd_isp hS2 hq3
        have g6 : S1 = S0 := (sd_wc hS1 (sd_is hS2 hq3)).2
        have g7 := iv_of (B := B) hS2 hq3
        rw [g6] at g4 g5 g7
        have g8 : rs_p S3 = rs_p S0 + 2 := by rw [g2, g5]; rfl
        have hn9 := TR_n hT
        have ho := mw_0 hb
        rw [hp3 (by rw [g2]; exact hq3)] at ho
        refine wp_iload_n dq_172_72 rfl ?_
        refine wp_iconst (x := nI 4) dq_172_73 rfl ?_
        refine wp_ic_neN (tgt := 84) dq_172_74 rfl (by omega) (by omega) (fun c2 => ?_) (fun c2 => ?_)
        · refine wp_iconst (x := nI 2) dq_172_84 rfl ?_
          refine wp_iload_n dq_172_85 rfl ?_
          refine wp_imulN dq_172_86 ?_
          refine wp_iconst (x := nI 3) dq_172_87 rfl ?_
          refine wp_isubN dq_172_88 (by omega) ?_
          refine wp_istore (lv' := [(0, .ref 13), (1, .int (nI w)), (2, .int (nI b)), (3, .long (lN ln)), (5, .int lp), (6, .int (nI (rs_iv B n 2 S1))), (7, .int (nI ((2 * w) - 3)))]) dq_172_89 (by decide) rfl ?_
          refine wp_aload_n dq_172_91 rfl ?_
          refine wp_getf (w := .ref 15) dq_172_92 fl_172_13 (mw_0 hb) rfl ?_
          refine wp_iload dq_172_95 rfl ?_
          refine wp_iload dq_172_97 rfl ?_
          refine wp_tn dq_172_99 (by omega) hT (fun h hT => ?_)
          obtain ⟨s3, fa3, hb, hz3, hc3, hp3⟩ := TR_x hT
          refine wp_aload_n dq_172_100 rfl ?_
          refine wp_getf (w := .ref 15) dq_172_101 fl_172_13 (mw_0 hb) rfl ?_
          refine wp_iload dq_172_104 rfl ?_
          refine wp_iconst (x := nI 1) dq_172_106 rfl ?_
          refine wp_iaddN dq_172_107 ?_
          refine wp_aload_n dq_172_108 rfl ?_
          have ho := mw_0 hb
          rw [hp3 (by rw [g2]; exact hq3), g8] at ho
          refine wp_getf (w := .int (nI (rs_p S0 + 2))) dq_172_109 fl_172_119 ho rfl ?_
          refine wp_tn dq_172_112 (by omega) hT (fun h hT => ?_)
          obtain ⟨s3, fa3, hb, hz3, hc3, hp3⟩ := TR_x hT
          refine wp_iconst (x := nI 0) dq_172_113 rfl ?_
          refine wp_istore (lv' := [(0, .ref 13), (1, .int (nI w)), (2, .int (nI b)), (3, .long (lN ln)), (5, .int lp), (6, .int (nI (rs_iv B n 2 S1))), (7, .int (nI ((2 * w) - 3))), (8, .int (nI 0))]) dq_172_114 (by decide) rfl ?_
          have hP9 : PQ B n T (upd (upd N ((2 * w) - 3) (nI (rs_iv B n 2 S1))) (((2 * w) - 3) + 1) (nI (rs_p S0 + 2))) := PQ_u (PQ_u (hP (sd_w hS1 (sd_is hS2 hq3))) (by omega) (by omega)) (by omega) (by omega)
          refine c_mliL (T := T) (d := d) (by omega) hv17 (rs_iv B n 2 S1) 0 S3 _ hT (fun _ => hP9) (by omega) (fun h hT => hK h (upd (upd N ((2 * w) - 3) (nI (rs_iv B n 2 S1))) (((2 * w) - 3) + 1) (nI (rs_p S0 + 2))) ?_ (fun hq => ?_))
          · rw [rs_li, rs_li1, hS1, hS2, hS3]
            exact hT
          · rw [show f4 w b = ((2 * w) - 3) from if_neg c2, g6, g7]
        · refine wp_iload_n dq_172_77 rfl ?_
          refine wp_bipush (x := nI 6) dq_172_78 rfl ?_
          refine wp_iaddN dq_172_80 ?_
          refine wp_goto (tgt := 89) dq_172_81 rfl ?_
          refine wp_istore (lv' := [(0, .ref 13), (1, .int (nI w)), (2, .int (nI b)), (3, .long (lN ln)), (5, .int lp), (6, .int (nI (rs_iv B n 2 S1))), (7, .int (nI (b + 6)))]) dq_172_89 (by decide) rfl ?_
          refine wp_aload_n dq_172_91 rfl ?_
          refine wp_getf (w := .ref 15) dq_172_92 fl_172_13 (mw_0 hb) rfl ?_
          refine wp_iload dq_172_95 rfl ?_
          refine wp_iload dq_172_97 rfl ?_
          refine wp_tn dq_172_99 (by omega) hT (fun h hT => ?_)
          obtain ⟨s3, fa3, hb, hz3, hc3, hp3⟩ := TR_x hT
          refine wp_aload_n dq_172_100 rfl ?_
          refine wp_getf (w := .ref 15) dq_172_101 fl_172_13 (mw_0 hb) rfl ?_
          refine wp_iload dq_172_104 rfl ?_
          refine wp_iconst (x := nI 1) dq_172_106 rfl ?_
          refine wp_iaddN dq_172_107 ?_
          refine wp_aload_n dq_172_108 rfl ?_
          have ho := mw_0 hb
          rw [hp3 (by rw [g2]; exact hq3), g8] at ho
          refine wp_getf (w := .int (nI (rs_p S0 + 2))) dq_172_109 fl_172_119 ho rfl ?_
          refine wp_tn dq_172_112 (by omega) hT (fun h hT => ?_)
          obtain ⟨s3, fa3, hb, hz3, hc3, hp3⟩ := TR_x hT
          refine wp_iconst (x := nI 0) dq_172_113 rfl ?_
          refine wp_istore (lv' := [(0, .ref 13), (1, .int (nI w)), (2, .int (nI b)), (3, .long (lN ln)), (5, .int lp), (6, .int (nI (rs_iv B n 2 S1))), (7, .int (nI (b + 6))), (8, .int (nI 0))]) dq_172_114 (by decide) rfl ?_
          have hP9 : PQ B n T (upd (upd N (b + 6) (nI (rs_iv B n 2 S1))) ((b + 6) + 1) (nI (rs_p S0 + 2))) := PQ_u (PQ_u (hP (sd_w hS1 (sd_is hS2 hq3))) (by omega) (by omega)) (by omega) (by omega)
          refine c_mliL (T := T) (d := d) (by omega) hv17 (rs_iv B n 2 S1) 0 S3 _ hT (fun _ => hP9) (by omega) (fun h hT => hK h (upd (upd N (b + 6) (nI (rs_iv B n 2 S1))) ((b + 6) + 1) (nI (rs_p S0 + 2))) ?_ (fun hq => ?_))
          · rw [rs_li, rs_li1, hS1, hS2, hS3]
            exact hT
          · rw [show f4 w b = (b + 6) from if_pos c2, g6, g7]
      · obtain ⟨e0, rfl⟩ : ∃ e, S3 = .inr e := by
          rcases snd_or S3 with r | r
          · exact absurd (hc3.mpr r) c1
          · exact r
        exact wp_vre dq_172_71 rfl (hK _ N (by rw [rs_li, rs_li1, hS1, hS2, hS3, els_e]; exact hT) (fun hq => absurd hq (by rw [rs_li, rs_li1, hS1, hS2, hS3, els_e]; exact not_snd)))
    refine wp_aload_n dq_172_22 rfl ?_
    refine wp_getf (w := .int (s2 4)) dq_172_23 fl_172_116 (mw_0 hb) rfl ?_
    refine wp_if_ne (tgt := 64) dq_172_26 rfl (fun c3 => ?_) (fun c3 => ?_)
    · exact hj22 _ (by rw [w_T (fun hq => absurd (hc2.mpr hq) c3)]; exact hT)
    · refine wp_lload_n dq_172_29 rfl ?_
      refine wp_ldc2 (v := lN 2) dq_172_30 (by decide +kernel) ?_
      refine wp_iload dq_172_33 rfl ?_
      refine wp_i2lN dq_172_35 (by omega) ?_
      refine wp_iload_n dq_172_36 rfl ?_
      refine wp_iconst (x := nI 5) dq_172_37 rfl ?_
      refine wp_ic_neN (tgt := 47) dq_172_38 rfl (by omega) (by omega) (fun c4 => ?_) (fun c4 => ?_)
      · refine wp_ldc2 (v := lN 2) dq_172_47 (by decide +kernel) ?_
        refine wp_lmulN dq_172_50 ?_
        refine wp_laddN dq_172_51 ?_
        refine wp_lc_eqN (tgt := 64) dq_172_52 dq_172_53 rfl (by omega) (by omega) (fun c5 => ?_) (fun c5 => ?_)
        · exact hj22 _ (by rw [w_T (fun hq => by rw [show ez w = 2 from if_neg c4, ← (hL (sd_w hS1 (sd_is hS2 hq))).1]; exact beq_iff_eq.mpr c5)]; exact hT)
        · refine wp_aload_n dq_172_56 rfl ?_
          refine wp_bipush (x := nI 10) dq_172_57 rfl ?_
          refine wp_iload dq_172_59 rfl ?_
          refine wp_cv2 (P := fun v h' => v = none ∧ TR h' B n (rs_w false 10 (rs_p S0 - 4) S2) N z) dq_172_61 mt_172_122 (ob_of (mw_0 hb)) ⟨by decide +kernel, by decide +kernel⟩ (Nat.le_of_ble_eq_true rfl) (Nat.le_of_ble_eq_true rfl) (c_fail hT (by decide) (fun hq => (hL (sd_w hS1 (sd_is hS2 hq))).2) (fun h' k1 => ⟨rfl, k1⟩)) (fun v9 h9 q9 => ?_)
          obtain ⟨rfl, hT⟩ := q9
          exact hj22 _ (by rw [w_F (fun hq => by rw [show ez w = 2 from if_neg c4, ← (hL (sd_w hS1 (sd_is hS2 hq))).1]; exact beq_eq_false_iff_ne.mpr c5)]; exact hT)
      · refine wp_ldc2 (v := lN 8) dq_172_41 (by decide +kernel) ?_
        refine wp_goto (tgt := 50) dq_172_44 rfl ?_
        refine wp_lmulN dq_172_50 ?_
        refine wp_laddN dq_172_51 ?_
        refine wp_lc_eqN (tgt := 64) dq_172_52 dq_172_53 rfl (by omega) (by omega) (fun c6 => ?_) (fun c6 => ?_)
        · exact hj22 _ (by rw [w_T (fun hq => by rw [show ez w = 8 from if_pos c4, ← (hL (sd_w hS1 (sd_is hS2 hq))).1]; exact beq_iff_eq.mpr c6)]; exact hT)
        · refine wp_aload_n dq_172_56 rfl ?_
          refine wp_bipush (x := nI 10) dq_172_57 rfl ?_
          refine wp_iload dq_172_59 rfl ?_
          refine wp_cv2 (P := fun v h' => v = none ∧ TR h' B n (rs_w false 10 (rs_p S0 - 4) S2) N z) dq_172_61 mt_172_122 (ob_of (mw_0 hb)) ⟨by decide +kernel, by decide +kernel⟩ (Nat.le_of_ble_eq_true rfl) (Nat.le_of_ble_eq_true rfl) (c_fail hT (by decide) (fun hq => (hL (sd_w hS1 (sd_is hS2 hq))).2) (fun h' k1 => ⟨rfl, k1⟩)) (fun v9 h9 q9 => ?_)
          obtain ⟨rfl, hT⟩ := q9
          exact hj22 _ (by rw [w_F (fun hq => by rw [show ez w = 8 from if_pos c4, ← (hL (sd_w hS1 (sd_is hS2 hq))).1]; exact beq_eq_false_iff_ne.mpr c6)]; exact hT)
  refine wp_lload_n dq_172_0 rfl ?_
  refine wp_ldc2 (v := lN 2) dq_172_1 (by decide +kernel) ?_
  refine wp_lc_geN (tgt := 16) dq_172_4 dq_172_5 rfl (by omega) (by omega) (fun c7 => ?_) (fun c7 => ?_)
  · exact hj0 _ (by rw [w_T (fun hq => by rw [← (hL hq).1]; exact decide_eq_true (by omega))]; exact hT)
  · refine wp_aload_n dq_172_8 rfl ?_
    refine wp_bipush (x := nI 10) dq_172_9 rfl ?_
    refine wp_iload dq_172_11 rfl ?_
    refine wp_cv2 (P := fun v h' => v = none ∧ TR h' B n (rs_w false 10 (rs_p S0 - 4) S0) N z) dq_172_13 mt_172_122 (ob_of (mw_0 hb)) ⟨by decide +kernel, by decide +kernel⟩ (Nat.le_of_ble_eq_true rfl) (Nat.le_of_ble_eq_true rfl) (c_fail hT (by decide) (fun hq => (hL hq).2) (fun h' k1 => ⟨rfl, k1⟩)) (fun v9 h9 q9 => ?_)
    obtain ⟨rfl, hT⟩ := q9
    exact hj0 _ (by rw [w_F (fun hq => by rw [← (hL hq).1]; exact decide_eq_false (by omega))]; exact hT)
