set_option maxRecDepth 100000 in
theorem c_tabm {L : Nat} {xs : Nat → Int32} {d n : Nat} {B T : Nat → Nat} {N : Nat → Int32} {z : rZ} {S0 : rS} {h : List qx_E} {Q : Option Value → List qx_E → Prop} {kd o cty kind b : Nat} {M : rM} (hT : TR h B n S0 N z) (hkd : (kind = 100 ∧ kd = 0) ∨ (kind = 230 ∧ kd = 1)) (hb9 : 100 ≤ b ∧ b < 490) (hI : snd S0 → PQ B n T N ∧ NOm kd B N M o b ∧ (∀ w, 1 ≤ w → w ≤ 9 → M.ct (9 * o + (w - 1)) = 0) ∧ (kd = 0 → N (b + 2) = nI cty ∧ tg B T cty = 1)) (hK : ∀ h' N', TR h' B n (rs_tb B n T kd o cty S0 M).1 N' z → (snd (rs_tb B n T kd o cty S0 M).1 → NOm kd B N' (rs_tb B n T kd o cty S0 M).2 o b ∧ ∀ q, (q < b + 3 ∨ b + 8 ≤ q) → N' q = N q) → Q none h') : wp_W L xs (d + 7) 166 0 (lv_args 0 [.ref 13, .int (nI kind), .int (nI b)]) [] h Q := by
  rw [rs_tb] at hK
  show wp_W L xs _ 166 0 [(0, .ref 13), (1, .int (nI kind)), (2, .int (nI b))] [] h Q
  obtain ⟨s0, fa0, hb, hz0, hc0, hp0⟩ := TR_x hT
  refine wp_aload_n dq_166_0 rfl ?_
  refine wp_cv0 (P := fun v h' => v = some (.int (nI (rs_iv B n 2 S0))) ∧ TR h' B n (rs_is n 2 S0) N z) dq_166_1 mt_166_134 (ob_of (mw_0 hb)) ⟨by decide +kernel, by decide +kernel⟩ (Nat.le_of_ble_eq_true rfl) (Nat.le_of_ble_eq_true rfl) (c_u2 hT (fun h' k1 => ⟨rfl, k1⟩)) (fun v9 h9 q9 => ?_)
  obtain ⟨rfl, hT⟩ := q9
  generalize hS1 : rs_is n 2 S0 = S1 at hT
  obtain ⟨s1, fa1, hb, hz1, hc1, hp1⟩ := TR_x hT
  have hv1 : rs_iv B n 2 S0 < 65536 := TR_v hT
  refine wp_istore_n (lv' := [(0, .ref 13), (1, .int (nI kind)), (2, .int (nI b)), (3, .int (nI (rs_iv B n 2 S0)))]) dq_166_4 (by decide) rfl ?_
  refine wp_iconst (x := nI 0) dq_166_5 rfl ?_
  refine wp_istore (lv' := [(0, .ref 13), (1, .int (nI kind)), (2, .int (nI b)), (3, .int (nI (rs_iv B n 2 S0))), (4, .int (nI 0))]) dq_166_6 (by decide) rfl ?_
  refine wp_iconst (x := nI 0) dq_166_8 rfl ?_
  refine wp_istore (lv' := [(0, .ref 13), (1, .int (nI kind)), (2, .int (nI b)), (3, .int (nI (rs_iv B n 2 S0))), (4, .int (nI 0)), (5, .int (nI 0))]) dq_166_9 (by decide) rfl ?_
  refine c_tmL (d := d) hkd hb9 hv1 (rs_iv B n 2 S0) 0 0 S1 M N _ hT (fun hq => ?_) (by omega) (by rw [← hS1]; exact hK)
  obtain ⟨q1, q2, q3, q4⟩ := hI (sd_is hS1 hq)
  exact ⟨q1, q2, sbt_0 q3, q4⟩
set_option maxRecDepth 100000 in
theorem c_ptL {L : Nat} {xs : Nat → Int32} {d n : Nat} {B T : Nat → Nat} {z : rZ} {Q : Option Value → List qx_E → Prop} {o cty b c : Nat} (hb9 : 100 ≤ b ∧ b < 490) (hc9 : c < 65536) : ∀ j i sn S0 M N (h : List qx_E), TR h B n S0 N z → (snd S0 → PQ B n T N ∧ NOm 2 B N M o b ∧ sbt sn M.ct o) → i + j = c → (∀ h' N', TR h' B n (rs_tbL B n T 2 o cty j S0 M).1 N' z → (snd (rs_tbL B n T 2 o cty j S0 M).1 → NOm 2 B N' (rs_tbL B n T 2 o cty j S0 M).2 o b ∧ ∀ q, (q < b + 3 ∨ b + 5 ≤ q) → N' q = N q) → Q none h') → wp_W L xs (d + 7) 169 10 [(0, .ref 13), (1, .int (nI b)), (2, .int (nI c)), (3, .int (nI sn)), (4, .int (nI i))] [] h Q := by
  intro j
  induction j with
  | zero =>
    intro i sn S0 M N h hT hI hi hK
    refine wp_iload dq_169_10 rfl ?_
    refine wp_iload_n dq_169_12 rfl ?_
    refine wp_ic_geN (tgt := 142) dq_169_13 rfl (by omega) (by omega) (fun c1 => ?_) (fun c1 => absurd c1 (by omega))
    exact wp_vre dq_169_142 rfl (hK h N hT (fun hq => ⟨(hI hq).2.1, fun _ _ => rfl⟩))
  | succ j ih =>
    intro i sn S0 M N h hT hI hi hK
    rcases snd_or S0 with hs | ⟨e, rfl⟩
    · obtain ⟨hP, hNO, hsn⟩ := hI hs
      obtain ⟨s0, fa0, hb, hz0, hc0, hp0⟩ := TR_x hT
      obtain ⟨s0, fa0, hb, hz0, hc0, hp0⟩ := TR_x hT
      have ho := mw_0 hb
      rw [hp0 hs, hc0.mpr hs] at ho
      refine wp_iload dq_169_10 rfl ?_
      refine wp_iload_n dq_169_12 rfl ?_
      refine wp_ic_geN (tgt := 142) dq_169_13 rfl (by omega) (by omega) (fun c1 => ?_) (fun c1 => ?_)
      · exact absurd c1 (by omega)
      · refine wp_aload_n dq_169_16 rfl ?_
        refine wp_getf (w := .int (nI 0)) dq_169_17 fl_169_116 ho rfl ?_
        refine wp_if_neN (tgt := 142) dq_169_20 rfl (by omega) (fun c9 => absurd c9 (by decide)) (fun _ => ?_)
        refine wp_aload_n dq_169_23 rfl ?_
        refine wp_getf (w := .int (nI (rs_p S0))) dq_169_24 fl_169_119 ho rfl ?_
        refine wp_istore (lv' := [(0, .ref 13), (1, .int (nI b)), (2, .int (nI c)), (3, .int (nI sn)), (4, .int (nI i)), (5, .int (nI (rs_p S0)))]) dq_169_27 (by decide) rfl ?_
        refine wp_aload_n dq_169_29 rfl ?_
        refine wp_iconst (x := nI 1) dq_169_30 rfl ?_
        refine wp_iconst (x := nI 0) dq_169_31 rfl ?_
        refine wp_cv2 (P := fun v h' => v = some (.int (nI (rs_iv B n 2 S0))) ∧ TR h' B n (rs_ix B n T 1 false S0) N z) dq_169_32 mt_169_173 (ob_of (mw_0 hb)) ⟨by decide +kernel, by decide +kernel⟩ (Nat.le_of_ble_eq_true rfl) (Nat.le_of_ble_eq_true rfl) (c_mix (T := T) (t := 1) (mz := false) hT (fun hq => hP) (by decide) (fun h' k1 => ⟨rfl, k1⟩)) (fun v9 h9 q9 => ?_)
        obtain ⟨rfl, hT⟩ := q9
        generalize hS1 : rs_ix B n T 1 false S0 = S1 at hT
        obtain ⟨s1, fa1, hb, hz1, hc1, hp1⟩ := TR_x hT
        have hv : rs_iv B n 2 S0 < 65536 := TR_v hT
        refine wp_istore (lv' := [(0, .ref 13), (1, .int (nI b)), (2, .int (nI c)), (3, .int (nI sn)), (4, .int (nI i)), (5, .int (nI (rs_p S0))), (6, .int (nI (rs_iv B n 2 S0)))]) dq_169_35 (by decide) rfl ?_
        refine wp_aload_n dq_169_37 rfl ?_
        refine wp_getf (w := .int (s1 3)) dq_169_38 fl_169_119 (mw_0 hb) rfl ?_
        refine wp_istore (lv' := [(0, .ref 13), (1, .int (nI b)), (2, .int (nI c)), (3, .int (nI sn)), (4, .int (nI i)), (5, .int (nI (rs_p S0))), (6, .int (nI (rs_iv B n 2 S0))), (7, .int (s1 3))]) dq_169_41 (by decide) rfl ?_
        refine wp_aload_n dq_169_43 rfl ?_
        refine wp_cv0 (P := fun v h' => v = some (.long (lN (rs_iv B n 4 S1))) ∧ TR h' B n (rs_is n 4 S1) N z) dq_169_44 mt_169_144 (ob_of (mw_0 hb)) ⟨by decide +kernel, by decide +kernel⟩ (Nat.le_of_ble_eq_true rfl) (Nat.le_of_ble_eq_true rfl) (c_u4 hT (fun h' k1 => ⟨rfl, k1⟩)) (fun v9 h9 q9 => ?_)
        obtain ⟨rfl, hT⟩ := q9
        generalize hS2 : rs_is n 4 S1 = S2 at hT
        obtain ⟨s2, fa2, hb, hz2, hc2, hp2⟩ := TR_x hT
        have hl9 : rs_iv B n 4 S1 < 4294967296 := TR_v4 hT
        have e2 : rs_ah2 B n T S0 = S2 := by rw [rs_ah2, hS1, hS2]
        refine wp_lstore (lv' := [(0, .ref 13), (1, .int (nI b)), (2, .int (nI c)), (3, .int (nI sn)), (4, .int (nI i)), (5, .int (nI (rs_p S0))), (6, .int (nI (rs_iv B n 2 S0))), (7, .int (s1 3)), (8, .long (lN (rs_iv B n 4 S1)))]) dq_169_47 (by decide) rfl ?_
        refine wp_aload_n dq_169_49 rfl ?_
        refine wp_getf (w := .int (s2 4)) dq_169_50 fl_169_116 (mw_0 hb) rfl ?_
        refine wp_if_eq (tgt := 57) dq_169_53 rfl (fun c2 => ?_) (fun c2 => ?_)
        · have hq2 : snd S2 := hc2.mp c2
          have hq1 := sd_is hS2 hq2
          obtain ⟨g1, g2, g3, g4, g5⟩ := ah_p (by rw [e2]; exact hq2)
          rw [e2] at g1
          have g6 : rs_p S2 = rs_p S0 + 6 := by rw [g1]; rfl
          have g7 : ah_l B n T S0 = rs_iv B n 4 S1 := by rw [ah_l, hS1]
          have g8 : s1 3 = nI (rs_p S0 + 2) := by rw [hp1 hq1, (sp_ix hS1 hq1).1]; rfl
          rw [g7] at g5
          have hk12 := kn_12 (tx B T (rs_iv B n 2 S0))
          have hn9 := TR_n hT
          refine wp_aload_n dq_169_57 rfl ?_
          refine wp_iload dq_169_58 rfl ?_
          have hkn := c_kn (L := L) (xs := xs) (d := d + 2) (TR_A hT) hP g3
          have haw : ah_w B n T 2 S0 = if kw2 2 (kn (tx B T (rs_iv B n 2 S0))) = true then kn (tx B T (rs_iv B n 2 S0)) else 0 := fd_kn (by decide)
          generalize kn (tx B T (rs_iv B n 2 S0)) = w at hkn haw hk12
          refine wp_cve1 dq_169_60 mt_169_160 (ob_of (mw_0 hb)) ⟨by decide +kernel, by decide +kernel⟩ (Nat.le_of_ble_eq_true rfl) (Nat.le_of_ble_eq_true rfl) (hkn) ?_
          refine wp_istore (lv' := [(0, .ref 13), (1, .int (nI b)), (2, .int (nI c)), (3, .int (nI sn)), (4, .int (nI i)), (5, .int (nI (rs_p S0))), (6, .int (nI (rs_iv B n 2 S0))), (7, .int (s1 3)), (8, .long (lN (rs_iv B n 4 S1))), (10, .int (nI w))]) dq_169_63 (by decide) rfl ?_
          refine wp_iload dq_169_65 rfl ?_
          refine wp_iconst (x := nI 1) dq_169_67 rfl ?_
          refine wp_ic_eqN (tgt := 101) dq_169_68 rfl (by omega) (by omega) (fun c3 => ?_) (fun c3 => ?_)
          · have hkw : 1 ≤ w ∧ w ≤ 9 ∧ (w = 1 ∨ w = 2) := by omega
            have haw1 : ah_w B n T 2 S0 = w := by rw [haw, if_pos (kw2_t.mpr (by omega))]
            have hw0 : w ≠ 0 := by omega
            have hsnb := hsn.1
            have hj101 : ∀ h, TR h B n (rs_w (M.ct (9 * o + (w - 1)) == 0) 9 (rs_p S0) S2) N z → wp_W L xs (d + 7) 169 118 [(0, .ref 13), (1, .int (nI b)), (2, .int (nI c)), (3, .int (nI sn)), (4, .int (nI i)), (5, .int (nI (rs_p S0))), (6, .int (nI (rs_iv B n 2 S0))), (7, .int (s1 3)), (8, .long (lN (rs_iv B n 4 S1))), (10, .int (nI w))] ([]) h Q := by
              intro h hT
              generalize hS3 : rs_w (M.ct (9 * o + (w - 1)) == 0) 9 (rs_p S0) S2 = S3 at hT
              obtain ⟨s3, fa3, hb, hz3, hc3, hp3⟩ := TR_x hT
              have e3 : rs_ah B n T 2 o M S0 = S3 := by rw [ah_s haw1 hw0, e2, hS3]
              have hLL : snd S3 → rs_iv B n 4 S1 = bu_U B (rs_p S3 - 4) 4 ∧ s1 3 = nI (rs_p S3 - 4) := fun hq => by
                have q1 := (sd_wc hS3 hq).2
                rw [q1, g6, show rs_p S0 + 6 - 4 = rs_p S0 + 2 by omega]
                exact ⟨g5, g8⟩
              have e4 := mb_w (o := o) (M := M) haw1 hw0
              rw [e2, g6] at e4
              obtain ⟨s3, fa3, hb, -⟩ := TR_x hT
              refine wp_iload_n dq_169_118 rfl ?_
              refine wp_iconst (x := nI 1) dq_169_119 rfl ?_
              refine wp_iload dq_169_120 rfl ?_
              refine wp_mark dq_169_122 dq_169_123 (by omega) (by omega) ?_
              refine wp_istore_n (lv' := [(0, .ref 13), (1, .int (nI b)), (2, .int (nI c)), (3, .int (nI (sn ||| 2 ^ w))), (4, .int (nI i)), (5, .int (nI (rs_p S0))), (6, .int (nI (rs_iv B n 2 S0))), (7, .int (s1 3)), (8, .long (lN (rs_iv B n 4 S1))), (10, .int (nI w))]) dq_169_124 (by decide) rfl ?_
              refine wp_aload_n dq_169_125 rfl ?_
              refine wp_iload dq_169_126 rfl ?_
              refine wp_iload_n dq_169_128 rfl ?_
              refine wp_lload dq_169_129 rfl ?_
              refine wp_iload dq_169_131 rfl ?_
              have hwx : w = 1 ∨ w = 2 := by omega
              rcases hwx with rfl | rfl
              · refine wp_cv4 (P := fun v h' => v = none ∧ ∃ N', TR h' B n (rs_sg B n T 1 cty S3) N' z ∧ (snd (rs_sg B n T 1 cty S3) → N' = upd N (fx_i 1 b) (nI (if 1 = 2 then 1 else bu_U B (rs_p S3) 2)))) dq_169_133 mt_169_221 (ob_of (mw_0 hb)) ⟨by decide +kernel, by decide +kernel⟩ (Nat.le_of_ble_eq_true rfl) (Nat.le_of_ble_eq_true rfl) (c_fx1 (T := T) (d := d) (hL := fun hq => hLL hq) (hl9 := hl9) (hb9 := by omega) (hP := fun _ => hP) (hT := hT) (hK := fun h' N' k1 k2 => ⟨rfl, N', k1, k2⟩)) (fun v9 h9 q9 => ?_)
                obtain ⟨rfl, N1, hT, hN1⟩ := q9
                generalize hS4 : rs_sg B n T 1 cty S3 = S4 at hT hN1
                refine wp_iinc (y := nI (i + 1)) (lv' := [(0, .ref 13), (1, .int (nI b)), (2, .int (nI c)), (3, .int (nI (sn ||| 2 ^ 1))), (4, .int (nI (i + 1))), (5, .int (nI (rs_p S0))), (6, .int (nI (rs_iv B n 2 S0))), (7, .int (s1 3)), (8, .long (lN (rs_iv B n 4 S1))), (10, .int (nI 1))]) dq_169_136 rfl (nI_add _ _) (by decide) rfl ?_
                refine wp_goto (tgt := 10) dq_169_139 rfl ?_
                rw [rs_tbL_s] at hK
                have e9 : rs_at1 B n T 2 o cty M S0 = S4 := at1_s (w := 1) e3 (fun _ => haw1) (by decide) (by decide) hS4
                rw [e9, e4] at hK
                refine wp_fg (l := [(0, .ref 13), (1, .int (nI b)), (2, .int (nI c)), (3, .int (nI (sn ||| 2 ^ 1))), (4, .int (nI (i + 1)))]) (e := [(5, .int (nI (rs_p S0))), (6, .int (nI (rs_iv B n 2 S0))), (7, .int (s1 3)), (8, .long (lN (rs_iv B n 4 S1))), (10, .int (nI 1))]) rfl rfl rfl ?_
                refine ih (i + 1) _ _ _ N1 _ hT (fun hq => ?_) (by omega) (fun h' N' k1 k2 => hK h' N' k1 (fun hq => ?_))
                · have q3 := sd_sg hS4 hq
                  have q4 := (sd_wc hS3 q3).2
                  have q5 := hN1 hq
                  rw [q4, g6, show fx_i 1 b = b + 3 from by unfold fx_i; rw [if_pos rfl, if_neg (by omega)]] at q5
                  subst q5
                  exact ⟨PQ_u hP (by omega) (by omega), NOm_1 hNO (by omega), sbt_s hsn (by decide) (by decide) (by omega)⟩
                · obtain ⟨q1, q2⟩ := k2 hq
                  refine ⟨q1, fun q hq9 => (q2 q hq9).trans ?_⟩
                  have q3 := (sp_tbL hq).2
                  have q5 := hN1 q3
                  rw [show fx_i 1 b = b + 3 from by unfold fx_i; rw [if_pos rfl, if_neg (by omega)]] at q5
                  rw [q5]
                  exact pk_un (by omega)
              · refine wp_cv4 (P := fun v h' => v = none ∧ ∃ N', TR h' B n (rs_sg B n T 2 cty S3) N' z ∧ (snd (rs_sg B n T 2 cty S3) → N' = upd N (fx_i 2 b) (nI (if 2 = 2 then 1 else bu_U B (rs_p S3) 2)))) dq_169_133 mt_169_221 (ob_of (mw_0 hb)) ⟨by decide +kernel, by decide +kernel⟩ (Nat.le_of_ble_eq_true rfl) (Nat.le_of_ble_eq_true rfl) (c_fx2 (T := T) (d := d) (hL := fun hq => hLL hq) (hl9 := hl9) (hb9 := by omega) (hP := fun _ => hP) (hT := hT) (hK := fun h' N' k1 k2 => ⟨rfl, N', k1, k2⟩)) (fun v9 h9 q9 => ?_)
                obtain ⟨rfl, N1, hT, hN1⟩ := q9
                generalize hS4 : rs_sg B n T 2 cty S3 = S4 at hT hN1
                refine wp_iinc (y := nI (i + 1)) (lv' := [(0, .ref 13), (1, .int (nI b)), (2, .int (nI c)), (3, .int (nI (sn ||| 2 ^ 2))), (4, .int (nI (i + 1))), (5, .int (nI (rs_p S0))), (6, .int (nI (rs_iv B n 2 S0))), (7, .int (s1 3)), (8, .long (lN (rs_iv B n 4 S1))), (10, .int (nI 2))]) dq_169_136 rfl (nI_add _ _) (by decide) rfl ?_
                refine wp_goto (tgt := 10) dq_169_139 rfl ?_
                rw [rs_tbL_s] at hK
                have e9 : rs_at1 B n T 2 o cty M S0 = S4 := at1_s (w := 2) e3 (fun _ => haw1) (by decide) (by decide) hS4
                rw [e9, e4] at hK
                refine wp_fg (l := [(0, .ref 13), (1, .int (nI b)), (2, .int (nI c)), (3, .int (nI (sn ||| 2 ^ 2))), (4, .int (nI (i + 1)))]) (e := [(5, .int (nI (rs_p S0))), (6, .int (nI (rs_iv B n 2 S0))), (7, .int (s1 3)), (8, .long (lN (rs_iv B n 4 S1))), (10, .int (nI 2))]) rfl rfl rfl ?_
                refine ih (i + 1) _ _ _ N1 _ hT (fun hq => ?_) (by omega) (fun h' N' k1 k2 => hK h' N' k1 (fun hq => ?_))
                · have q3 := sd_sg hS4 hq
                  have q4 := (sd_wc hS3 q3).2
                  have q5 := hN1 hq
                  rw [q4, g6, show fx_i 2 b = b + 4 from by unfold fx_i; rw [if_neg (by decide), if_pos rfl, if_neg (by omega)]] at q5
                  subst q5
                  exact ⟨PQ_u hP (by omega) (by omega), NOm_2 hNO (by omega), sbt_s hsn (by decide) (by decide) (by omega)⟩
                · obtain ⟨q1, q2⟩ := k2 hq
                  refine ⟨q1, fun q hq9 => (q2 q hq9).trans ?_⟩
                  have q3 := (sp_tbL hq).2
                  have q5 := hN1 q3
                  rw [show fx_i 2 b = b + 4 from by unfold fx_i; rw [if_neg (by decide), if_pos rfl, if_neg (by omega)]] at q5
                  rw [q5]
                  exact pk_un (by omega)
            refine wp_iload_n dq_169_101 rfl ?_
            refine wp_iload dq_169_102 rfl ?_
            refine wp_seen dq_169_104 dq_169_105 dq_169_106 (by omega) (by omega) ?_
            have hz2 := Nat.mod_lt (sn / 2 ^ w) (show 0 < 2 by decide)
            refine wp_if_eqN (tgt := 118) dq_169_107 rfl (by omega) (fun c4 => ?_) (fun c4 => ?_)
            · exact hj101 _ (by rw [w_T (fun hq => beq_iff_eq.mpr ((sbt_z hsn hkw.1 hkw.2.1).mp c4))]; exact hT)
            · refine wp_aload_n dq_169_110 rfl ?_
              refine wp_bipush (x := nI 9) dq_169_111 rfl ?_
              refine wp_iload dq_169_113 rfl ?_
              refine wp_cv2 (P := fun v h' => v = none ∧ TR h' B n (rs_w false 9 (rs_p S0) S2) N z) dq_169_115 mt_169_122 (ob_of (mw_0 hb)) ⟨by decide +kernel, by decide +kernel⟩ (Nat.le_of_ble_eq_true rfl) (Nat.le_of_ble_eq_true rfl) (c_fail hT (by decide) (fun hq => rfl) (fun h' k1 => ⟨rfl, k1⟩)) (fun v9 h9 q9 => ?_)
              obtain ⟨rfl, hT⟩ := q9
              exact hj101 _ (by rw [w_F (fun hq => beq_eq_false_iff_ne.mpr (fun r => c4 ((sbt_z hsn hkw.1 hkw.2.1).mpr r)))]; exact hT)
          · refine wp_iload dq_169_71 rfl ?_
            refine wp_iconst (x := nI 2) dq_169_73 rfl ?_
            refine wp_ic_eqN (tgt := 101) dq_169_74 rfl (by omega) (by omega) (fun c5 => ?_) (fun c5 => ?_)
            · have hkw : 1 ≤ w ∧ w ≤ 9 ∧ (w = 1 ∨ w = 2) := by omega
              have haw1 : ah_w B n T 2 S0 = w := by rw [haw, if_pos (kw2_t.mpr (by omega))]
              have hw0 : w ≠ 0 := by omega
              have hsnb := hsn.1
              have hj101 : ∀ h, TR h B n (rs_w (M.ct (9 * o + (w - 1)) == 0) 9 (rs_p S0) S2) N z → wp_W L xs (d + 7) 169 118 [(0, .ref 13), (1, .int (nI b)), (2, .int (nI c)), (3, .int (nI sn)), (4, .int (nI i)), (5, .int (nI (rs_p S0))), (6, .int (nI (rs_iv B n 2 S0))), (7, .int (s1 3)), (8, .long (lN (rs_iv B n 4 S1))), (10, .int (nI w))] ([]) h Q := by
                intro h hT
                generalize hS3 : rs_w (M.ct (9 * o + (w - 1)) == 0) 9 (rs_p S0) S2 = S3 at hT
                obtain ⟨s3, fa3, hb, hz3, hc3, hp3⟩ := TR_x hT
                have e3 : rs_ah B n T 2 o M S0 = S3 := by rw [ah_s haw1 hw0, e2, hS3]
                have hLL : snd S3 → rs_iv B n 4 S1 = bu_U B (rs_p S3 - 4) 4 ∧ s1 3 = nI (rs_p S3 - 4) := fun hq => by
                  have q1 := (sd_wc hS3 hq).2
                  rw [q1, g6, show rs_p S0 + 6 - 4 = rs_p S0 + 2 by omega]
                  exact ⟨g5, g8⟩
                have e4 := mb_w (o := o) (M := M) haw1 hw0
                rw [e2, g6] at e4
                obtain ⟨s3, fa3, hb, -⟩ := TR_x hT
                refine wp_iload_n dq_169_118 rfl ?_
                refine wp_iconst (x := nI 1) dq_169_119 rfl ?_
                refine wp_iload dq_169_120 rfl ?_
                refine wp_mark dq_169_122 dq_169_123 (by omega) (by omega) ?_
                refine wp_istore_n (lv' := [(0, .ref 13), (1, .int (nI b)), (2, .int (nI c)), (3, .int (nI (sn ||| 2 ^ w))), (4, .int (nI i)), (5, .int (nI (rs_p S0))), (6, .int (nI (rs_iv B n 2 S0))), (7, .int (s1 3)), (8, .long (lN (rs_iv B n 4 S1))), (10, .int (nI w))]) dq_169_124 (by decide) rfl ?_
                refine wp_aload_n dq_169_125 rfl ?_
                refine wp_iload dq_169_126 rfl ?_
                refine wp_iload_n dq_169_128 rfl ?_
                refine wp_lload dq_169_129 rfl ?_
                refine wp_iload dq_169_131 rfl ?_
                have hwx : w = 1 ∨ w = 2 := by omega
                rcases hwx with rfl | rfl
                · refine wp_cv4 (P := fun v h' => v = none ∧ ∃ N', TR h' B n (rs_sg B n T 1 cty S3) N' z ∧ (snd (rs_sg B n T 1 cty S3) → N' = upd N (fx_i 1 b) (nI (if 1 = 2 then 1 else bu_U B (rs_p S3) 2)))) dq_169_133 mt_169_221 (ob_of (mw_0 hb)) ⟨by decide +kernel, by decide +kernel⟩ (Nat.le_of_ble_eq_true rfl) (Nat.le_of_ble_eq_true rfl) (c_fx1 (T := T) (d := d) (hL := fun hq => hLL hq) (hl9 := hl9) (hb9 := by omega) (hP := fun _ => hP) (hT := hT) (hK := fun h' N' k1 k2 => ⟨rfl, N', k1, k2⟩)) (fun v9 h9 q9 => ?_)
                  obtain ⟨rfl, N1, hT, hN1⟩ := q9
                  generalize hS4 : rs_sg B n T 1 cty S3 = S4 at hT hN1
                  refine wp_iinc (y := nI (i + 1)) (lv' := [(0, .ref 13), (1, .int (nI b)), (2, .int (nI c)), (3, .int (nI (sn ||| 2 ^ 1))), (4, .int (nI (i + 1))), (5, .int (nI (rs_p S0))), (6, .int (nI (rs_iv B n 2 S0))), (7, .int (s1 3)), (8, .long (lN (rs_iv B n 4 S1))), (10, .int (nI 1))]) dq_169_136 rfl (nI_add _ _) (by decide) rfl ?_
                  refine wp_goto (tgt := 10) dq_169_139 rfl ?_
                  rw [rs_tbL_s] at hK
                  have e9 : rs_at1 B n T 2 o cty M S0 = S4 := at1_s (w := 1) e3 (fun _ => haw1) (by decide) (by decide) hS4
                  rw [e9, e4] at hK
                  refine wp_fg (l := [(0, .ref 13), (1, .int (nI b)), (2, .int (nI c)), (3, .int (nI (sn ||| 2 ^ 1))), (4, .int (nI (i + 1)))]) (e := [(5, .int (nI (rs_p S0))), (6, .int (nI (rs_iv B n 2 S0))), (7, .int (s1 3)), (8, .long (lN (rs_iv B n 4 S1))), (10, .int (nI 1))]) rfl rfl rfl ?_
                  refine ih (i + 1) _ _ _ N1 _ hT (fun hq => ?_) (by omega) (fun h' N' k1 k2 => hK h' N' k1 (fun hq => ?_))
                  · have q3 := sd_sg hS4 hq
                    have q4 := (sd_wc hS3 q3).2
                    have q5 := hN1 hq
                    rw [q4, g6, show fx_i 1 b = b + 3 from by unfold fx_i; rw [if_pos rfl, if_neg (by omega)]] at q5
                    subst q5
                    exact ⟨PQ_u hP (by omega) (by omega), NOm_1 hNO (by omega), sbt_s hsn (by decide) (by decide) (by omega)⟩
                  · obtain ⟨q1, q2⟩ := k2 hq
                    refine ⟨q1, fun q hq9 => (q2 q hq9).trans ?_⟩
                    have q3 := (sp_tbL hq).2
                    have q5 := hN1 q3
                    rw [show fx_i 1 b = b + 3 from by unfold fx_i; rw [if_pos rfl, if_neg (by omega)]] at q5
                    rw [q5]
                    exact pk_un (by omega)
                · refine wp_cv4 (P := fun v h' => v = none ∧ ∃ N', TR h' B n (rs_sg B n T 2 cty S3) N' z ∧ (snd (rs_sg B n T 2 cty S3) → N' = upd N (fx_i 2 b) (nI (if 2 = 2 then 1 else bu_U B (rs_p S3) 2)))) dq_169_133 mt_169_221 (ob_of (mw_0 hb)) ⟨by decide +kernel, by decide +kernel⟩ (Nat.le_of_ble_eq_true rfl) (Nat.le_of_ble_eq_true rfl) (c_fx2 (T := T) (d := d) (hL := fun hq => hLL hq) (hl9 := hl9) (hb9 := by omega) (hP := fun _ => hP) (hT := hT) (hK := fun h' N' k1 k2 => ⟨rfl, N', k1, k2⟩)) (fun v9 h9 q9 => ?_)
                  obtain ⟨rfl, N1, hT, hN1⟩ := q9
                  generalize hS4 : rs_sg B n T 2 cty S3 = S4 at hT hN1
                  refine wp_iinc (y := nI (i + 1)) (lv' := [(0, .ref 13), (1, .int (nI b)), (2, .int (nI c)), (3, .int (nI (sn ||| 2 ^ 2))), (4, .int (nI (i + 1))), (5, .int (nI (rs_p S0))), (6, .int (nI (rs_iv B n 2 S0))), (7, .int (s1 3)), (8, .long (lN (rs_iv B n 4 S1))), (10, .int (nI 2))]) dq_169_136 rfl (nI_add _ _) (by decide) rfl ?_
                  refine wp_goto (tgt := 10) dq_169_139 rfl ?_
                  rw [rs_tbL_s] at hK
                  have e9 : rs_at1 B n T 2 o cty M S0 = S4 := at1_s (w := 2) e3 (fun _ => haw1) (by decide) (by decide) hS4
                  rw [e9, e4] at hK
                  refine wp_fg (l := [(0, .ref 13), (1, .int (nI b)), (2, .int (nI c)), (3, .int (nI (sn ||| 2 ^ 2))), (4, .int (nI (i + 1)))]) (e := [(5, .int (nI (rs_p S0))), (6, .int (nI (rs_iv B n 2 S0))), (7, .int (s1 3)), (8, .long (lN (rs_iv B n 4 S1))), (10, .int (nI 2))]) rfl rfl rfl ?_
                  refine ih (i + 1) _ _ _ N1 _ hT (fun hq => ?_) (by omega) (fun h' N' k1 k2 => hK h' N' k1 (fun hq => ?_))
                  · have q3 := sd_sg hS4 hq
                    have q4 := (sd_wc hS3 q3).2
                    have q5 := hN1 hq
                    rw [q4, g6, show fx_i 2 b = b + 4 from by unfold fx_i; rw [if_neg (by decide), if_pos rfl, if_neg (by omega)]] at q5
                    subst q5
                    exact ⟨PQ_u hP (by omega) (by omega), NOm_2 hNO (by omega), sbt_s hsn (by decide) (by decide) (by omega)⟩
                  · obtain ⟨q1, q2⟩ := k2 hq
                    refine ⟨q1, fun q hq9 => (q2 q hq9).trans ?_⟩
                    have q3 := (sp_tbL hq).2
                    have q5 := hN1 q3
                    rw [show fx_i 2 b = b + 4 from by unfold fx_i; rw [if_neg (by decide), if_pos rfl, if_neg (by omega)]] at q5
                    rw [q5]
                    exact pk_un (by omega)
              refine wp_iload_n dq_169_101 rfl ?_
              refine wp_iload dq_169_102 rfl ?_
              refine wp_seen dq_169_104 dq_169_105 dq_169_106 (by omega) (by omega) ?_
              have hz2 := Nat.mod_lt (sn / 2 ^ w) (show 0 < 2 by decide)
              refine wp_if_eqN (tgt := 118) dq_169_107 rfl (by omega) (fun c6 => ?_) (fun c6 => ?_)
              · exact hj101 _ (by rw [w_T (fun hq => beq_iff_eq.mpr ((sbt_z hsn hkw.1 hkw.2.1).mp c6))]; exact hT)
              · refine wp_aload_n dq_169_110 rfl ?_
                refine wp_bipush (x := nI 9) dq_169_111 rfl ?_
                refine wp_iload dq_169_113 rfl ?_
                refine wp_cv2 (P := fun v h' => v = none ∧ TR h' B n (rs_w false 9 (rs_p S0) S2) N z) dq_169_115 mt_169_122 (ob_of (mw_0 hb)) ⟨by decide +kernel, by decide +kernel⟩ (Nat.le_of_ble_eq_true rfl) (Nat.le_of_ble_eq_true rfl) (c_fail hT (by decide) (fun hq => rfl) (fun h' k1 => ⟨rfl, k1⟩)) (fun v9 h9 q9 => ?_)
                obtain ⟨rfl, hT⟩ := q9
                exact hj101 _ (by rw [w_F (fun hq => beq_eq_false_iff_ne.mpr (fun r => c6 ((sbt_z hsn hkw.1 hkw.2.1).mpr r)))]; exact hT)
            · refine wp_aload_n dq_169_77 rfl ?_
              refine wp_lload dq_169_78 rfl ?_
              have haw0 : ah_w B n T 2 S0 = 0 := by rw [haw, if_neg (fun r => by have := kw2_t.mp r; omega)]
              refine wp_cv1 (P := fun v h' => v = some (.int (bI (rsb (rs_ro n (rs_iv B n 4 S1) S2)))) ∧ TR h' B n (rs_ro n (rs_iv B n 4 S1) S2) N z) dq_169_80 mt_169_126 (ob_of (mw_0 hb)) ⟨by decide +kernel, by decide +kernel⟩ (Nat.le_of_ble_eq_true rfl) (Nat.le_of_ble_eq_true rfl) (c_room hT (by omega) (fun h' k1 => ⟨rfl, k1⟩)) (fun v9 h9 q9 => ?_)
              obtain ⟨rfl, hT⟩ := q9
              generalize hS3 : rs_ro n (rs_iv B n 4 S1) S2 = S3 at hT
              obtain ⟨s3, fa3, hb, hz3, hc3, hp3⟩ := TR_x hT
              refine wp_if_eqB (tgt := 136) dq_169_83 rfl (fun c7 => ?_) (fun c7 => ?_)
              · refine wp_iinc (y := nI (i + 1)) (lv' := [(0, .ref 13), (1, .int (nI b)), (2, .int (nI c)), (3, .int (nI sn)), (4, .int (nI (i + 1))), (5, .int (nI (rs_p S0))), (6, .int (nI (rs_iv B n 2 S0))), (7, .int (s1 3)), (8, .long (lN (rs_iv B n 4 S1))), (10, .int (nI w))]) dq_169_136 rfl (nI_add _ _) (by decide) rfl ?_
                refine wp_goto (tgt := 10) dq_169_139 rfl ?_
                rw [rs_tbL_s] at hK
                have e9 : rs_at1 B n T 2 o cty M S0 = S3 := at1_n (by rw [(ah_0 haw0).1, g7, e2, ← sk_is (by rw [hS3]; exact c7), hS3]) (fun _ => haw0)
                rw [e9, (ah_0 haw0).2] at hK
                refine wp_fg (l := [(0, .ref 13), (1, .int (nI b)), (2, .int (nI c)), (3, .int (nI sn)), (4, .int (nI (i + 1)))]) (e := [(5, .int (nI (rs_p S0))), (6, .int (nI (rs_iv B n 2 S0))), (7, .int (s1 3)), (8, .long (lN (rs_iv B n 4 S1))), (10, .int (nI w))]) rfl rfl rfl ?_
                exact ih (i + 1) sn _ M N _ hT (fun _ => ⟨hP, hNO, hsn⟩) (by omega) hK
              · obtain ⟨k1, k2, k3, k4⟩ := sk_ok (n := n) (k := rs_iv B n 4 S1) (S := S2) (by rw [hS3]; exact c7)
                have e3 : S3 = .inl (rs_p S2) := by rw [← hS3, k1]; exact snd_p k2
                rw [e3] at hT
                have ho := mw_0 hb
                rw [hp3 (by rw [e3]; exact snd_l _), show rs_p S3 = rs_p S2 by rw [e3]; rfl] at ho
                refine wp_aload_n dq_169_86 rfl ?_
                refine wp_dup dq_169_87 rfl ?_
                refine wp_getf (w := .int (nI (rs_p S2))) dq_169_88 fl_169_119 ho rfl ?_
                refine wp_lload dq_169_91 rfl ?_
                refine wp_l2iN dq_169_93 ?_
                refine wp_iaddN dq_169_94 ?_
                refine wp_tat dq_169_95 fp_169_119 hT k3 (fun h hT => ?_)
                rw [← k4] at hT
                refine wp_goto (tgt := 136) dq_169_98 rfl ?_
                refine wp_iinc (y := nI (i + 1)) (lv' := [(0, .ref 13), (1, .int (nI b)), (2, .int (nI c)), (3, .int (nI sn)), (4, .int (nI (i + 1))), (5, .int (nI (rs_p S0))), (6, .int (nI (rs_iv B n 2 S0))), (7, .int (s1 3)), (8, .long (lN (rs_iv B n 4 S1))), (10, .int (nI w))]) dq_169_136 rfl (nI_add _ _) (by decide) rfl ?_
                refine wp_goto (tgt := 10) dq_169_139 rfl ?_
                rw [rs_tbL_s] at hK
                have e9 : rs_at1 B n T 2 o cty M S0 = rs_is n (rs_iv B n 4 S1) S2 := at1_n (by rw [(ah_0 haw0).1, g7, e2]) (fun _ => haw0)
                rw [e9, (ah_0 haw0).2] at hK
                refine wp_fg (l := [(0, .ref 13), (1, .int (nI b)), (2, .int (nI c)), (3, .int (nI sn)), (4, .int (nI (i + 1)))]) (e := [(5, .int (nI (rs_p S0))), (6, .int (nI (rs_iv B n 2 S0))), (7, .int (s1 3)), (8, .long (lN (rs_iv B n 4 S1))), (10, .int (nI w))]) rfl rfl rfl ?_
                exact ih (i + 1) sn _ M N _ hT (fun _ => ⟨hP, hNO, hsn⟩) (by omega) hK
        · obtain ⟨e0, rfl⟩ : ∃ e, S2 = .inr e := by
            rcases snd_or S2 with r | r
            · exact absurd (hc2.mpr r) c2
            · exact r
          have e9 : rs_at1 B n T 2 o cty M S0 = .inr e0 := at1_e (ah_bad e2)
          rw [rs_tbL_s, e9] at hK
          exact wp_vre dq_169_56 rfl (hK _ N (by rw [rs_tbL_e]; exact hT) (fun hq => absurd hq (by rw [rs_tbL_e]; exact not_snd)))
    · obtain ⟨s0, fa0, hb, -, hc0, -⟩ := TR_x hT
      refine wp_iload dq_169_10 rfl ?_
      refine wp_iload_n dq_169_12 rfl ?_
      refine wp_ic_geN (tgt := 142) dq_169_13 rfl (by omega) (by omega) (fun c1 => absurd c1 (by omega)) (fun c1 => ?_)
      refine wp_aload_n dq_169_16 rfl ?_
      refine wp_getf dq_169_17 fl_169_116 (mw_0 hb) rfl ?_
      refine wp_if_ne (tgt := 142) dq_169_20 rfl (fun c1 => ?_) (fun c1 => absurd (hc0.mp c1) not_snd)
      exact wp_vre dq_169_142 rfl (hK h N (by rw [rs_tbL_e]; exact hT) (fun hq => absurd hq (by rw [rs_tbL_e]; exact not_snd)))
set_option maxRecDepth 100000 in
theorem c_part {L : Nat} {xs : Nat → Int32} {d n : Nat} {B T : Nat → Nat} {N : Nat → Int32} {z : rZ} {S0 : rS} {h : List qx_E} {Q : Option Value → List qx_E → Prop} {o cty b : Nat} {M : rM} (hT : TR h B n S0 N z) (hb9 : 100 ≤ b ∧ b < 490) (hI : snd S0 → PQ B n T N ∧ NOm 2 B N M o b ∧ (∀ w, 1 ≤ w → w ≤ 9 → M.ct (9 * o + (w - 1)) = 0)) (hK : ∀ h' N', TR h' B n (rs_tb B n T 2 o cty S0 M).1 N' z → (snd (rs_tb B n T 2 o cty S0 M).1 → NOm 2 B N' (rs_tb B n T 2 o cty S0 M).2 o b ∧ ∀ q, (q < b + 3 ∨ b + 5 ≤ q) → N' q = N q) → Q none h') : wp_W L xs (d + 7) 169 0 (lv_args 0 [.ref 13, .int (nI b)]) [] h Q := by
  rw [rs_tb] at hK
  show wp_W L xs _ 169 0 [(0, .ref 13), (1, .int (nI b))] [] h Q
  obtain ⟨s0, fa0, hb, hz0, hc0, hp0⟩ := TR_x hT
  refine wp_aload_n dq_169_0 rfl ?_
  refine wp_cv0 (P := fun v h' => v = some (.int (nI (rs_iv B n 2 S0))) ∧ TR h' B n (rs_is n 2 S0) N z) dq_169_1 mt_169_134 (ob_of (mw_0 hb)) ⟨by decide +kernel, by decide +kernel⟩ (Nat.le_of_ble_eq_true rfl) (Nat.le_of_ble_eq_true rfl) (c_u2 hT (fun h' k1 => ⟨rfl, k1⟩)) (fun v9 h9 q9 => ?_)
  obtain ⟨rfl, hT⟩ := q9
  generalize hS1 : rs_is n 2 S0 = S1 at hT
  obtain ⟨s1, fa1, hb, hz1, hc1, hp1⟩ := TR_x hT
  have hv1 : rs_iv B n 2 S0 < 65536 := TR_v hT
  refine wp_istore_n (lv' := [(0, .ref 13), (1, .int (nI b)), (2, .int (nI (rs_iv B n 2 S0)))]) dq_169_4 (by decide) rfl ?_
  refine wp_iconst (x := nI 0) dq_169_5 rfl ?_
  refine wp_istore_n (lv' := [(0, .ref 13), (1, .int (nI b)), (2, .int (nI (rs_iv B n 2 S0))), (3, .int (nI 0))]) dq_169_6 (by decide) rfl ?_
  refine wp_iconst (x := nI 0) dq_169_7 rfl ?_
  refine wp_istore (lv' := [(0, .ref 13), (1, .int (nI b)), (2, .int (nI (rs_iv B n 2 S0))), (3, .int (nI 0)), (4, .int (nI 0))]) dq_169_8 (by decide) rfl ?_
  refine c_ptL (d := d) hb9 hv1 (rs_iv B n 2 S0) 0 0 S1 M N _ hT (fun hq => ?_) (by omega) (by rw [← hS1]; exact hK)
  obtain ⟨q1, q2, q3⟩ := hI (sd_is hS1 hq)
  exact ⟨q1, q2, sbt_0 q3⟩
