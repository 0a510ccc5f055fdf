theorem NK_m {B T : Nat → Nat} {N N' : Nat → Int32} {M M' : rM} {kd c kind : Nat} (h : ∀ i, i < c → NK B T N M kd i (kind + 8 * i)) (hc : c ≤ 16) (hN : ∀ q, kind ≤ q → q < kind + 128 → N' q = N q) (hn : ∀ q, 16 * kd ≤ q → q < 16 * kd + 16 → M'.np q = M.np q) (ht : ∀ q, 9 * (16 * kd) ≤ q → q < 9 * (16 * kd + 16) → M'.ct q = M.ct q) : ∀ i, i < c → NK B T N' M' kd i (kind + 8 * i) := fun i hi => NK_eq (h i hi) (fun j hj => hN _ (by omega) (by omega)) (hn _ (by omega) (by omega)) (fun w hw => ht _ (by omega) (by omega))
/-- the notes of a file in order -/
def RZ (B : Nat → Nat) (n : Nat) (T : Nat → Nat) (F : Nat) (M : rM) (N : Nat → Int32) : Prop := PQ B n T N ∧ LK B T ∧ (N 0 = nI (bu_U B 6 2) ∧ N 1 = nI (bu_U B F 2) ∧ N 2 = nI (bu_U B 8 2) ∧ N 3 = nI (bu_U B (F + 2) 2) ∧ N 4 = nI (bu_U B (F + 4) 2) ∧ N 5 = nI (bu_U B (F + 6) 2) ∧ N 6 = nI (F + 8)) ∧ (N 13 = nI (M.c 0) ∧ N 14 = nI (M.c 1) ∧ M.c 0 ≤ 16 ∧ M.c 1 ≤ 16) ∧ (∀ i, i < M.c 0 → NK B T N M 0 i (100 + 8 * i)) ∧ (∀ i, i < M.c 1 → NK B T N M 1 i (230 + 8 * i)) ∧ NOf B N M ∧ RCI B T N M
theorem po_e {B : Nat → Nat} {n : Nat} {S : rS} {e : Nat × Nat} (h : rs_po1 B n S = .inr e) : rs_po B n S = .inr e := by
  unfold rs_po rs_po2
  rw [h, rs_pl_e, rs_lks_e]
theorem ft_e {B : Nat → Nat} {n : Nat} {T : Nat → Nat} {M : rM} {e : Nat × Nat} : (rs_ft B n T (.inr e) M).1 = .inr e := rs_fL_e ..
theorem po_1 {B : Nat → Nat} {n : Nat} {S S7 S8 : rS} (h8 : rs_po B n S = S8) (h7 : rs_po1 B n S = S7) (hq : snd S8) : (snd S8) = (snd S7) := by
  have h1 : snd (rs_po2 B n S).1 := by
    rw [← h8, rs_po] at hq
    rw [(lks_id hq).1] at hq
    exact hq
  have h2 : snd (rs_po1 B n S) := sd_pl rfl h1
  rw [h7] at h2
  exact propext ⟨fun _ => h2, fun _ => hq⟩
set_option maxRecDepth 100000 in
theorem c_file {L : Nat} {xs : Nat → Int32} {d n : Nat} {B : Nat → Nat} {N : Nat → Int32} {z : rZ} {S0 : rS} {h : List qx_E} {Q : Option Value → List qx_E → Prop} (hT : TR h B n S0 N z) (h00 : S0 = .inl 0) (hN0 : ∀ q, q < 100 → N q = nI 0) (hK : ∀ h' N', TR h' B n (ra_7 B n) N' z → (snd (ra_7 B n) → RZ B n (ra_T B n) (ra_F B n) (ra_6 B n).2 N') → Q none h') : wp_W L xs (d + 10) 127 0 (lv_args 0 [.ref 13]) [] h Q := by
  have hn9 := TR_n hT
  have hl4 : rs_iv B n 4 S0 < 4294967296 := TR_v4 hT
  show wp_W L xs _ 127 0 [(0, .ref 13)] [] h Q
  obtain ⟨s0, fa0, hb, hz0, hc0, hp0⟩ := TR_x hT
  refine wp_aload_n dq_127_0 rfl ?_
  refine wp_cv0 (P := fun v h' => v = some (.long (lN (rs_iv B n 4 S0))) ∧ TR h' B n (rs_is n 4 S0) N z) dq_127_1 mt_127_144 (ob_of (mw_0 hb)) ⟨by decide +kernel, by decide +kernel⟩ (Nat.le_of_ble_eq_true rfl) (Nat.le_of_ble_eq_true rfl) (c_u4 hT (fun h' k1 => ⟨rfl, k1⟩)) (fun v9 h9 q9 => ?_)
  obtain ⟨rfl, hT⟩ := q9
  generalize hS1 : rs_is n 4 S0 = S1 at hT
  obtain ⟨s1, fa1, hb, hz1, hc1, hp1⟩ := TR_x hT
  have hj4 : ∀ h, TR h B n (rs_w (rs_iv B n 4 S0 == 3405691582) 2 0 S1) N z → wp_W L xs (d + 10) 127 17 [(0, .ref 13)] ([]) h Q := by
    intro h hT
    generalize hS2 : rs_w (rs_iv B n 4 S0 == 3405691582) 2 0 S1 = S2 at hT
    obtain ⟨s2, fa2, hb, hz2, hc2, hp2⟩ := TR_x hT
    refine wp_aload_n dq_127_17 rfl ?_
    refine wp_cv0 (P := fun v h' => v = some (.int (nI (rs_iv B n 2 S2))) ∧ TR h' B n (rs_is n 2 S2) N z) dq_127_18 mt_127_134 (ob_of (mw_0 hb)) ⟨by decide +kernel, by decide +kernel⟩ (Nat.le_of_ble_eq_true rfl) (Nat.le_of_ble_eq_true rfl) (c_u2 hT (fun h' k1 => ⟨rfl, k1⟩)) (fun v9 h9 q9 => ?_)
    obtain ⟨rfl, hT⟩ := q9
    generalize hS3 : rs_is n 2 S2 = S3 at hT
    obtain ⟨s3, fa3, hb, hz3, hc3, hp3⟩ := TR_x hT
    have hv18 : rs_iv B n 2 S2 < 65536 := TR_v hT
    refine wp_istore_n (lv' := [(0, .ref 13), (1, .int (nI (rs_iv B n 2 S2)))]) dq_127_21 (by decide) rfl ?_
    have f3 : snd S3 → rs_p S3 = 6 := fun hq => by
      obtain ⟨a1, a2, a3⟩ := sd_isp hS3 hq
      have b1 := (sd_wc hS2 (sd_is hS3 hq)).2
      obtain ⟨c1, c2, c3⟩ := sd_isp hS1 (sd_w hS2 (sd_is hS3 hq))
      rw [a3, b1, c3, h00]
      rfl
    refine wp_aload_n dq_127_22 rfl ?_
    refine wp_getf (w := .int (s3 3)) dq_127_23 fl_127_119 (mw_0 hb) rfl ?_
    refine wp_istore_n (lv' := [(0, .ref 13), (1, .int (s3 3))]) dq_127_26 (by decide) rfl ?_
    refine wp_aload_n dq_127_27 rfl ?_
    refine wp_getf (w := .ref 15) dq_127_28 fl_127_13 (mw_0 hb) rfl ?_
    refine wp_iconst (x := nI 0) dq_127_31 rfl ?_
    refine wp_aload_n dq_127_32 rfl ?_
    refine wp_cv0 (P := fun v h' => v = some (.int (nI (rs_iv B n 2 S3))) ∧ TR h' B n (rs_is n 2 S3) N z) dq_127_33 mt_127_134 (ob_of (mw_0 hb)) ⟨by decide +kernel, by decide +kernel⟩ (Nat.le_of_ble_eq_true rfl) (Nat.le_of_ble_eq_true rfl) (c_u2 hT (fun h' k1 => ⟨rfl, k1⟩)) (fun v9 h9 q9 => ?_)
    obtain ⟨rfl, hT⟩ := q9
    generalize hS4 : rs_is n 2 S3 = S4 at hT
    obtain ⟨s4, fa4, hb, hz4, hc4, hp4⟩ := TR_x hT
    have hv33 : rs_iv B n 2 S3 < 65536 := TR_v hT
    refine wp_tn dq_127_36 (by omega) hT (fun h hT => ?_)
    obtain ⟨s4, fa4, hb, hz4, hc4, hp4⟩ := TR_x hT
    have hj37 : ∀ h, TR h B n (rs_w (decide (45 ≤ rs_iv B n 2 S3) && decide (rs_iv B n 2 S3 ≤ 65)) 3 6 S4) (upd N 0 (nI (rs_iv B n 2 S3))) z → wp_W L xs (d + 10) 127 65 [(0, .ref 13), (1, .int (s3 3))] ([]) h Q := by
      intro h hT
      generalize hS5 : rs_w (decide (45 ≤ rs_iv B n 2 S3) && decide (rs_iv B n 2 S3 ≤ 65)) 3 6 S4 = S5 at hT
      obtain ⟨s5, fa5, hb, hz5, hc5, hp5⟩ := TR_x hT
      have f5 : snd S5 → rs_p S5 = 8 := fun hq => by
        rw [(sd_wc hS5 hq).2, (sd_isp hS4 (sd_w hS5 hq)).2.2, f3 (sd_is hS4 (sd_w hS5 hq))]
        rfl
      have e5 : ra_1 B n = S5 := by rw [ra_1, ← h00, rs_st, rs_st3, rs_st2, hS1, hS2, hS3, hS4, hS5]
      refine wp_aload_n dq_127_65 rfl ?_
      refine wp_getf (w := .int (s5 3)) dq_127_66 fl_127_119 (mw_0 hb) rfl ?_
      refine wp_istore_n (lv' := [(0, .ref 13), (1, .int (s5 3))]) dq_127_69 (by decide) rfl ?_
      refine wp_aload_n dq_127_70 rfl ?_
      refine wp_getf (w := .ref 15) dq_127_71 fl_127_13 (mw_0 hb) rfl ?_
      refine wp_iconst (x := nI 2) dq_127_74 rfl ?_
      refine wp_aload_n dq_127_75 rfl ?_
      refine wp_cv0 (P := fun v h' => v = some (.int (nI (rs_iv B n 2 S5))) ∧ TR h' B n (rs_is n 2 S5) (upd N 0 (nI (rs_iv B n 2 S3))) z) dq_127_76 mt_127_134 (ob_of (mw_0 hb)) ⟨by decide +kernel, by decide +kernel⟩ (Nat.le_of_ble_eq_true rfl) (Nat.le_of_ble_eq_true rfl) (c_u2 hT (fun h' k1 => ⟨rfl, k1⟩)) (fun v9 h9 q9 => ?_)
      obtain ⟨rfl, hT⟩ := q9
      generalize hS6 : rs_is n 2 S5 = S6 at hT
      obtain ⟨s6, fa6, hb, hz6, hc6, hp6⟩ := TR_x hT
      have hv76 : rs_iv B n 2 S5 < 65536 := TR_v hT
      refine wp_tn dq_127_79 (by omega) hT (fun h hT => ?_)
      obtain ⟨s6, fa6, hb, hz6, hc6, hp6⟩ := TR_x hT
      have hj80 : ∀ h, TR h B n (rs_w (decide (1 ≤ rs_iv B n 2 S5) && decide (rs_iv B n 2 S5 ≤ 64)) 4 8 S6) (upd (upd N 0 (nI (rs_iv B n 2 S3))) 2 (nI (rs_iv B n 2 S5))) z → wp_W L xs (d + 10) 127 107 [(0, .ref 13), (1, .int (s5 3))] ([]) h Q := by
        intro h hT
        generalize hS7 : rs_w (decide (1 ≤ rs_iv B n 2 S5) && decide (rs_iv B n 2 S5 ≤ 64)) 4 8 S6 = S7 at hT
        obtain ⟨s7, fa7, hb, hz7, hc7, hp7⟩ := TR_x hT
        have e7 : rs_po1 B n S5 = S7 := by rw [rs_po1, hS6, hS7]
        have eT : ra_T B n = (rs_po2 B n S5).2 := by rw [ra_T, rs_T, e5]
        have e8 : ra_2 B n = rs_po B n S5 := by rw [ra_2, e5]
        have hj107 : ∀ h N3, TR h B n (rs_po B n S5) N3 z → (snd (rs_po B n S5) → PQ B n (ra_T B n) N3 ∧ LK B (ra_T B n)) → (∀ q, q < 20 ∨ 85 ≤ q → N3 q = (upd (upd N 0 (nI (rs_iv B n 2 S3))) 2 (nI (rs_iv B n 2 S5))) q) → wp_W L xs (d + 10) 127 118 [(0, .ref 13), (1, .int (s5 3))] [] h Q := by
          intro h N3 hT hPL hN3
          generalize hS8 : rs_po B n S5 = S8 at hT hPL e8
          obtain ⟨s8, fa8, hb, hz8, hc8, hp8⟩ := TR_x hT
          refine wp_aload_n dq_127_118 rfl ?_
          refine wp_getf (w := .int (s8 3)) dq_127_119 fl_127_119 (mw_0 hb) rfl ?_
          refine wp_istore_n (lv' := [(0, .ref 13), (1, .int (s8 3))]) dq_127_122 (by decide) rfl ?_
          refine wp_aload_n dq_127_123 rfl ?_
          refine wp_getf (w := .ref 15) dq_127_124 fl_127_13 (mw_0 hb) rfl ?_
          refine wp_iconst (x := nI 1) dq_127_127 rfl ?_
          refine wp_aload_n dq_127_128 rfl ?_
          refine wp_cv0 (P := fun v h' => v = some (.int (nI (rs_iv B n 2 S8))) ∧ TR h' B n (rs_is n 2 S8) N3 z) dq_127_129 mt_127_134 (ob_of (mw_0 hb)) ⟨by decide +kernel, by decide +kernel⟩ (Nat.le_of_ble_eq_true rfl) (Nat.le_of_ble_eq_true rfl) (c_u2 hT (fun h' k1 => ⟨rfl, k1⟩)) (fun v9 h9 q9 => ?_)
          obtain ⟨rfl, hT⟩ := q9
          generalize hS9 : rs_is n 2 S8 = S9 at hT
          obtain ⟨s9, fa9, hb, hz9, hc9, hp9⟩ := TR_x hT
          have hv129 : rs_iv B n 2 S8 < 65536 := TR_v hT
          refine wp_tn dq_127_132 (by omega) hT (fun h hT => ?_)
          obtain ⟨s9, fa9, hb, hz9, hc9, hp9⟩ := TR_x hT
          have hj133 : ∀ h, TR h B n (rs_w (f_fitFile (nI (rs_iv B n 2 S8)) == 1) 6 (rs_p S8) S9) (upd N3 1 (nI (rs_iv B n 2 S8))) z → wp_W L xs (d + 10) 127 152 [(0, .ref 13), (1, .int (s8 3))] ([]) h Q := by
            intro h hT
            generalize hS10 : rs_w (f_fitFile (nI (rs_iv B n 2 S8)) == 1) 6 (rs_p S8) S9 = S10 at hT
            obtain ⟨s10, fa10, hb, hz10, hc10, hp10⟩ := TR_x hT
            have hPL1 : snd S8 → PQ B n (ra_T B n) (upd N3 1 (nI (rs_iv B n 2 S8))) ∧ LK B (ra_T B n) := fun hq => ⟨PQ_u (hPL hq).1 (by decide) (by decide), (hPL hq).2⟩
            refine wp_aload_n dq_127_152 rfl ?_
            refine wp_getf (w := .ref 15) dq_127_153 fl_127_13 (mw_0 hb) rfl ?_
            refine wp_iconst (x := nI 3) dq_127_156 rfl ?_
            refine wp_aload_n dq_127_157 rfl ?_
            refine wp_cv0 (P := fun v h' => v = some (.int (nI (rs_iv B n 2 S10))) ∧ TR h' B n (rs_nc B n (ra_T B n) false S10) (upd N3 1 (nI (rs_iv B n 2 S8))) z) dq_127_158 mt_127_177 (ob_of (mw_0 hb)) ⟨by decide +kernel, by decide +kernel⟩ (Nat.le_of_ble_eq_true rfl) (Nat.le_of_ble_eq_true rfl) (c_named (d := d + 4) (T := ra_T B n) hT (fun hq => hPL1 (sd_is hS9 (sd_w hS10 hq))) (fun h' k1 => ⟨rfl, k1⟩)) (fun v9 h9 q9 => ?_)
            obtain ⟨rfl, hT⟩ := q9
            generalize hS11 : rs_nc B n (ra_T B n) false S10 = S11 at hT
            obtain ⟨s11, fa11, hb, hz11, hc11, hp11⟩ := TR_x hT
            refine wp_tn dq_127_161 (by omega) hT (fun h hT => ?_)
            obtain ⟨s11, fa11, hb, hz11, hc11, hp11⟩ := TR_x hT
            refine wp_aload_n dq_127_162 rfl ?_
            refine wp_getf (w := .ref 15) dq_127_163 fl_127_13 (mw_0 hb) rfl ?_
            refine wp_iconst (x := nI 4) dq_127_166 rfl ?_
            refine wp_aload_n dq_127_167 rfl ?_
            refine wp_iconst (x := nI 1) dq_127_168 rfl ?_
            have hPL2 : snd S8 → PQ B n (ra_T B n) (upd (upd N3 1 (nI (rs_iv B n 2 S8))) 3 (nI (rs_iv B n 2 S10))) ∧ LK B (ra_T B n) := fun hq => ⟨PQ_u (hPL1 hq).1 (by decide) (by decide), (hPL hq).2⟩
            refine wp_cv1 (P := fun v h' => v = some (.int (nI (rs_iv B n 2 S11))) ∧ TR h' B n (rs_nc B n (ra_T B n) true S11) (upd (upd N3 1 (nI (rs_iv B n 2 S8))) 3 (nI (rs_iv B n 2 S10))) z) dq_127_169 mt_127_183 (ob_of (mw_0 hb)) ⟨by decide +kernel, by decide +kernel⟩ (Nat.le_of_ble_eq_true rfl) (Nat.le_of_ble_eq_true rfl) (c_mnc (d := d + 5) (T := ra_T B n) (mz := true) hT (fun hq => hPL2 (sd_is hS9 (sd_w hS10 (sd_nc hS11 hq)))) (fun h' k1 => ⟨rfl, k1⟩)) (fun v9 h9 q9 => ?_)
            obtain ⟨rfl, hT⟩ := q9
            generalize hS12 : rs_nc B n (ra_T B n) true S11 = S12 at hT
            obtain ⟨s12, fa12, hb, hz12, hc12, hp12⟩ := TR_x hT
            refine wp_tn dq_127_172 (by omega) hT (fun h hT => ?_)
            obtain ⟨s12, fa12, hb, hz12, hc12, hp12⟩ := TR_x hT
            refine wp_aload_n dq_127_173 rfl ?_
            have hq8 : snd S12 → snd S8 := fun hq => sd_is hS9 (sd_w hS10 (sd_nc hS11 (sd_nc hS12 hq)))
            have e12 : rs_h2 B n (ra_T B n) S8 = S12 := by rw [rs_h2, rs_h1, hS9, hS10, hS11, hS12]
            have f12 : snd S12 → rs_p S12 = rs_p S8 + 6 := fun hq => by
              rw [(sp_nc hS12 hq).1, (sp_nc hS11 (sd_nc hS12 hq)).1, (sd_wc hS10 (sd_nc hS11 (sd_nc hS12 hq))).2, (sd_isp hS9 (sd_w hS10 (sd_nc hS11 (sd_nc hS12 hq)))).2.2]
              rfl
            have eF : ra_F B n = rs_p S8 := by rw [ra_F, e8]
            have e13 : ra_3 B n = rs_ifs B n (ra_T B n) (rs_p S8) (rs_iv B n 2 S12) 0 (rs_is n 2 S12) := by rw [ra_3, e8, rs_hd, e12]
            refine wp_cv0 (P := fun v h' => v = none ∧ ∃ y, TR h' B n (ra_3 B n) (upd (upd (upd (upd (upd N3 1 (nI (rs_iv B n 2 S8))) 3 (nI (rs_iv B n 2 S10))) 4 (nI (rs_iv B n 2 S11))) 5 (nI (rs_iv B n 2 S12))) 6 y) z ∧ (snd (ra_3 B n) → y = nI (rs_p S8 + 8))) dq_127_174 mt_127_240 (ob_of (mw_0 hb)) ⟨by decide +kernel, by decide +kernel⟩ (Nat.le_of_ble_eq_true rfl) (Nat.le_of_ble_eq_true rfl) (c_mifs (d := d + 3) (T := ra_T B n) (F := rs_p S8) hT (fun hq => ⟨⟨PQ_u (hPL2 (hq8 hq)).1 (by decide) (by decide), (hPL (hq8 hq)).2⟩, f12 hq⟩) (fun h' y k1 k2 => ⟨rfl, y, by rw [e13]; exact k1, by rw [e13]; exact k2⟩)) (fun v9 h9 q9 => ?_)
            obtain ⟨rfl, y, hT, hy⟩ := q9
            have q13 : snd (ra_3 B n) → snd S12 := fun hq => by
              rw [e13] at hq
              exact sd_is rfl (sp_ifs rfl hq).2
            obtain ⟨N7, hN7⟩ : ∃ N7, N7 = upd (upd (upd (upd (upd N3 1 (nI (rs_iv B n 2 S8))) 3 (nI (rs_iv B n 2 S10))) 4 (nI (rs_iv B n 2 S11))) 5 (nI (rs_iv B n 2 S12))) 6 y := ⟨_, rfl⟩
            rw [← hN7] at hT
            have hP7 : snd (ra_3 B n) → PQ B n (ra_T B n) N7 := fun hq => by
              rw [hN7]
              exact PQ_u (PQ_u (PQ_u (hPL2 (hq8 (q13 hq))).1 (by decide) (by decide)) (by decide) (by decide)) (by decide) (by decide)
            obtain ⟨s13, fa13, hb, -⟩ := TR_x hT
            refine wp_aload_n dq_127_177 rfl ?_
            refine wp_bipush (x := nI 100) dq_127_178 rfl ?_
            refine wp_bipush (x := nI 13) dq_127_180 rfl ?_
            have hF7 : snd (ra_3 B n) → N7 1 = nI (bu_U B (ra_F B n) 2) := fun hq => by
              rw [hN7, eF, pk_un (by decide), pk_un (by decide), pk_un (by decide), pk_un (by decide), pk_us, iv_of hS9 (sd_w hS10 (sd_nc hS11 (sd_nc hS12 (q13 hq))))]
            refine wp_cv2 (P := fun v h' => v = none ∧ ∃ N', TR h' B n (ra_4 B n).1 N' z ∧ (snd (ra_4 B n).1 → PQ B n (ra_T B n) N' ∧ (∀ i, i < rs_iv B n 2 (ra_3 B n) → NK B (ra_T B n) N' (ra_4 B n).2 0 i (100 + 8 * i)) ∧ N' 13 = nI (rs_iv B n 2 (ra_3 B n)) ∧ (∀ q, q ≠ 13 → (q < 100 ∨ 100 + 128 ≤ q) → N' q = N7 q) ∧ rs_iv B n 2 (ra_3 B n) ≤ 16)) dq_127_182 mt_127_243 (ob_of (mw_0 hb)) ⟨by decide +kernel, by decide +kernel⟩ (Nat.le_of_ble_eq_true rfl) (Nat.le_of_ble_eq_true rfl) (c_members (d := d) (T := ra_T B n) (F := ra_F B n) (kd := 0) (M := mM0) hT (by decide) (by decide) (fun hq => ⟨hP7 hq, hF7 hq, fun _ _ _ => rfl⟩) (fun h' N' k1 k2 => ⟨rfl, N', k1, k2⟩)) (fun v9 h9 q9 => ?_)
            obtain ⟨rfl, N8, hT, hN8⟩ := q9
            have q14 : snd (ra_4 B n).1 → snd (ra_3 B n) := fun hq => sd_rms hq
            obtain ⟨o41, o42, o43⟩ := msL_o B n (ra_T B n) (ra_F B n) 0 (rs_iv B n 2 (ra_3 B n)) 0 (rs_w (decide (rs_iv B n 2 (ra_3 B n) ≤ 16)) 12 (rs_p (ra_3 B n)) (rs_is n 2 (ra_3 B n))) mM0
            obtain ⟨s14, fa14, hb, -, hc14, -⟩ := TR_x hT
            refine wp_aload_n dq_127_185 rfl ?_
            refine wp_sipush (x := nI 230) dq_127_186 rfl ?_
            refine wp_bipush (x := nI 14) dq_127_189 rfl ?_
            refine wp_cv2 (P := fun v h' => v = none ∧ ∃ N', TR h' B n (ra_5 B n).1 N' z ∧ (snd (ra_5 B n).1 → PQ B n (ra_T B n) N' ∧ (∀ i, i < rs_iv B n 2 (ra_4 B n).1 → NK B (ra_T B n) N' (ra_5 B n).2 1 i (230 + 8 * i)) ∧ N' 14 = nI (rs_iv B n 2 (ra_4 B n).1) ∧ (∀ q, q ≠ 14 → (q < 230 ∨ 230 + 128 ≤ q) → N' q = N8 q) ∧ rs_iv B n 2 (ra_4 B n).1 ≤ 16)) dq_127_191 mt_127_243 (ob_of (mw_0 hb)) ⟨by decide +kernel, by decide +kernel⟩ (Nat.le_of_ble_eq_true rfl) (Nat.le_of_ble_eq_true rfl) (c_members (d := d) (T := ra_T B n) (F := ra_F B n) (kd := 1) (M := (ra_4 B n).2) hT (by decide) (by decide) (fun hq => ⟨(hN8 hq).1, ((hN8 hq).2.2.2.1 1 (by decide) (by decide)).trans (hF7 (q14 hq)), fun q h1 h2 => (o42 q (by have := (hN8 hq).2.2.2.2; omega)).trans rfl⟩) (fun h' N' k1 k2 => ⟨rfl, N', k1, k2⟩)) (fun v9 h9 q9 => ?_)
            obtain ⟨rfl, N9, hT, hN9⟩ := q9
            have q15 : snd (ra_5 B n).1 → snd (ra_4 B n).1 := fun hq => sd_rms hq
            obtain ⟨o51, o52, o53⟩ := msL_o B n (ra_T B n) (ra_F B n) 1 (rs_iv B n 2 (ra_4 B n).1) 0 (rs_w (decide (rs_iv B n 2 (ra_4 B n).1 ≤ 16)) 12 (rs_p (ra_4 B n).1) (rs_is n 2 (ra_4 B n).1)) (ra_4 B n).2
            obtain ⟨s15, fa15, hb, -, hc15, -⟩ := TR_x hT
            have hj194 : ∀ h N', TR h B n (ra_6 B n).1 N' z → (snd (ra_6 B n).1 → (NOf B N' (ra_6 B n).2 ∧ RCI B (ra_T B n) N' (ra_6 B n).2 ∧ PQ B n (ra_T B n) N') ∧ ∀ q, (q < 7 ∨ q = 13 ∨ q = 14 ∨ (20 ≤ q ∧ q < 360)) → N' q = N9 q) → wp_W L xs (d + 10) 127 207 [(0, .ref 13), (1, .int (s8 3))] [] h Q := by
              intro h N10 hT hN10
              generalize hS16 : (ra_6 B n).1 = S16 at hT hN10
              obtain ⟨s16, fa16, hb, hz16, hc16, hp16⟩ := TR_x hT
              have hj207 : ∀ h, TR h B n (rs_w (rs_p S16 == n) 11 (rs_p S16) S16) N10 z → wp_W L xs (d + 10) 127 228 [(0, .ref 13), (1, .int (s8 3))] ([]) h Q := by
                intro h hT
                generalize hS17 : rs_w (rs_p S16 == n) 11 (rs_p S16) S16 = S17 at hT
                obtain ⟨s17, fa17, hb, hz17, hc17, hp17⟩ := TR_x hT
                have e17 : ra_7 B n = S17 := by rw [ra_7, hS16, rs_we, hS17]
                refine wp_vre dq_127_228 rfl (hK _ N10 (by rw [e17]; exact hT) (fun hq => ?_))
                rw [e17] at hq
                have hq16 : snd (ra_6 B n).1 := by rw [hS16]; exact sd_w hS17 hq
                have hq15 : snd (ra_5 B n).1 := sd_rft hq16
                have hq14 := q15 hq15
                have hq13 := q14 hq14
                have hq12 := q13 hq13
                have hq11 := sd_nc hS12 hq12
                have hq10 := sd_nc hS11 hq11
                have hq9 := sd_w hS10 hq10
                have hq8x := sd_is hS9 hq9
                rw [hS16] at hq16
                obtain ⟨⟨x1, x2, x3⟩, x4⟩ := hN10 hq16
                obtain ⟨r1, r2, r3, r4, r5⟩ := hN9 hq15
                obtain ⟨t1, t2, t3, t4, t5⟩ := hN8 hq14
                have hc5 : (ra_5 B n).2.c 2 = 0 := (msL_c _ _ _ _ _ (by decide) _ _ _ _).trans (msL_c _ _ _ _ _ (by decide) _ _ _ _)
                have hq16b : snd (ra_6 B n).1 := by rw [hS16]; exact hq16
                obtain ⟨w1, w2, w3⟩ := fL_o B n (ra_T B n) _ _ _ hq16b (fun _ => hc5)
                have c0 : (ra_6 B n).2.c 0 = rs_iv B n 2 (ra_3 B n) := (w2 0 (by decide)).trans ((msL_c _ _ _ _ _ (by decide) _ _ _ _).trans ((o43 rfl).trans (Nat.zero_add _)))
                have c1 : (ra_6 B n).2.c 1 = rs_iv B n 2 (ra_4 B n).1 := (w2 1 (by decide)).trans ((o53 (msL_c _ _ _ _ _ (by decide) _ _ _ _)).trans (Nat.zero_add _))
                have y0 : ∀ q, q < 7 → N10 q = N7 q := fun q a1 => (x4 q (by omega)).trans ((r4 q (by omega) (by omega)).trans (t4 q (by omega) (by omega)))
                have b5 := (sd_wc hS5 (sd_is hS6 (sd_w hS7 (by rw [← po_1 hS8 e7 hq8x]; exact hq8x)))).2
                have q7 : snd S7 := by rw [← po_1 hS8 e7 hq8x]; exact hq8x
                have q6 := sd_w hS7 q7
                have q5 := sd_is hS6 q6
                have q4 := sd_w hS5 q5
                have q3 := sd_is hS4 q4
                refine ⟨x3, (hPL hq8x).2, ⟨?_, ?_, ?_, ?_, ?_, ?_, ?_⟩, ⟨?_, ?_, by rw [c0]; exact t5, by rw [c1]; exact r5⟩, ?_, ?_, x1, x2⟩
                · rw [y0 0 (by decide), hN7, pk_un (by decide), pk_un (by decide), pk_un (by decide), pk_un (by decide), pk_un (by decide), hN3 0 (by decide), pk_un (by decide), pk_us, iv_of hS4 q4, f3 q3]
                · rw [y0 1 (by decide)]
                  exact hF7 hq13
                · rw [y0 2 (by decide), hN7, pk_un (by decide), pk_un (by decide), pk_un (by decide), pk_un (by decide), pk_un (by decide), hN3 2 (by decide), pk_us, iv_of hS6 q6, f5 q5]
                · rw [y0 3 (by decide), hN7, pk_un (by decide), pk_un (by decide), pk_un (by decide), pk_us, (sp_nc hS11 hq11).2.2, eF, (sd_wc hS10 hq10).2, (sd_isp hS9 hq9).2.2]
                  rfl
                · rw [y0 4 (by decide), hN7, pk_un (by decide), pk_un (by decide), pk_us, (sp_nc hS12 hq12).2.2, eF, (sp_nc hS11 hq11).1, (sd_wc hS10 hq10).2, (sd_isp hS9 hq9).2.2]
                  rfl
                · rw [y0 5 (by decide), hN7, pk_un (by decide), pk_us, eF, ← f12 hq12, iv_of rfl (by rw [e13] at hq13; exact (sp_ifs rfl hq13).2)]
                · rw [y0 6 (by decide), hN7, pk_us, hy hq13, eF]
                · rw [x4 13 (by decide), r4 13 (by decide) (by decide), t3, c0]
                · rw [x4 14 (by decide), r3, c1]
                · rw [c0]
                  exact NK_m t2 t5 (fun q a1 a2 => (x4 q (by omega)).trans (r4 q (by omega) (by omega))) (fun q a1 a2 => (w3 q (by omega)).trans (o51 q (by omega))) (fun q a1 a2 => (w1 q (by omega)).trans (o52 q (by omega)))
                · rw [c1]
                  exact NK_m r2 r5 (fun q a1 a2 => x4 q (by omega)) (fun q a1 a2 => w3 q (by omega)) (fun q a1 a2 => w1 q (by omega))
              refine wp_aload_n dq_127_207 rfl ?_
              refine wp_getf (w := .int (s16 3)) dq_127_208 fl_127_119 (mw_0 hb) rfl ?_
              refine wp_aload_n dq_127_211 rfl ?_
              refine wp_getf (w := .int (s16 0)) dq_127_212 fl_127_26 (mw_0 hb) rfl ?_
              refine wp_ic_ge (tgt := 228) dq_127_215 rfl (fun c1 => ?_) (fun c1 => ?_)
              · exact hj207 _ (by rw [w_T (fun hq => by rw [hz16, hp16 hq] at c1; have := TR_pn hT; exact beq_iff_eq.mpr (by have := (nI_leI (by omega) (by omega)).mp c1; omega))]; exact hT)
              · refine wp_aload_n dq_127_218 rfl ?_
                refine wp_bipush (x := nI 11) dq_127_219 rfl ?_
                refine wp_aload_n dq_127_221 rfl ?_
                refine wp_getf (w := .int (s16 3)) dq_127_222 fl_127_119 (mw_0 hb) rfl ?_
                refine wp_cv2 (P := fun v h' => v = none ∧ TR h' B n (rs_w false 11 (rs_p S16) S16) N10 z) dq_127_225 mt_127_122 (ob_of (mw_0 hb)) ⟨by decide +kernel, by decide +kernel⟩ (Nat.le_of_ble_eq_true rfl) (Nat.le_of_ble_eq_true rfl) (c_fail hT (by decide) (fun hq => hp16 hq) (fun h' k1 => ⟨rfl, k1⟩)) (fun v9 h9 q9 => ?_)
                obtain ⟨rfl, hT⟩ := q9
                exact hj207 _ (by rw [w_F (fun hq => by rw [hz16, hp16 hq] at c1; have := TR_pn hT; exact beq_eq_false_iff_ne.mpr (fun r => c1 (by rw [r]; exact nI_le (Nat.le_refl n) (by omega))))]; exact hT)
            refine wp_aload_n dq_127_194 rfl ?_
            refine wp_getf dq_127_195 fl_127_116 (mw_0 hb) rfl ?_
            refine wp_if_ne (tgt := 207) dq_127_198 rfl (fun c1 => ?_) (fun c1 => ?_)
            · obtain ⟨e0, he⟩ : ∃ e, (ra_5 B n).1 = .inr e := by
                rcases snd_or (ra_5 B n).1 with r | r
                · exact absurd (hc15.mpr r) c1
                · exact r
              have e6 : (ra_6 B n).1 = .inr e0 := by rw [ra_6, he]; exact ft_e
              exact hj194 _ N9 (by rw [e6, ← he]; exact hT) (fun hq => absurd hq (by rw [e6]; exact not_snd))
            · have hq15 := hc15.mp c1
              obtain ⟨r1, r2, r3, r4, r5⟩ := hN9 hq15
              obtain ⟨t1, t2, t3, t4, t5⟩ := hN8 (q15 hq15)
              have hct : ∀ q, 288 ≤ q → (ra_5 B n).2.ct q = 0 := fun q hq => (o52 q (by omega)).trans ((o42 q (by omega)).trans rfl)
              have hz9 : ∀ q, 7 ≤ q → q < 20 → q ≠ 13 → q ≠ 14 → N9 q = nI 0 := fun q a1 a2 a3 a4 => by
                rw [r4 q a4 (by omega), t4 q a3 (by omega), hN7, pk_un (by omega), pk_un (by omega), pk_un (by omega), pk_un (by omega), pk_un (by omega), hN3 q (by omega), pk_un (by omega), pk_un (by omega)]
                exact hN0 q (by omega)
              have hc2 : (ra_5 B n).2.c 2 = 0 := (msL_c _ _ _ _ _ (by decide) _ _ _ _).trans (msL_c _ _ _ _ _ (by decide) _ _ _ _)
              refine wp_aload_n dq_127_201 rfl ?_
              refine wp_iconst (x := nI 0) dq_127_202 rfl ?_
              refine wp_iconst (x := nI 0) dq_127_203 rfl ?_
              refine wp_cv2 (P := fun v h' => v = none ∧ ∃ N', TR h' B n (ra_6 B n).1 N' z ∧ (snd (ra_6 B n).1 → (NOf B N' (ra_6 B n).2 ∧ RCI B (ra_T B n) N' (ra_6 B n).2 ∧ PQ B n (ra_T B n) N') ∧ ∀ q, (q < 7 ∨ q = 13 ∨ q = 14 ∨ (20 ≤ q ∧ q < 360)) → N' q = N9 q)) dq_127_204 mt_127_201 (ob_of (mw_0 hb)) ⟨by decide +kernel, by decide +kernel⟩ (Nat.le_of_ble_eq_true rfl) (Nat.le_of_ble_eq_true rfl) (c_tabf (d := d) (T := ra_T B n) (M := (ra_5 B n).2) hT (fun _ => ⟨r1, ⟨?_, ?_, fun w a1 a2 => ⟨?_, fun r => absurd (hct _ (by omega)) r⟩, ?_, ?_⟩, fun w a1 a2 => hct _ (by omega), ⟨fun _ => ⟨hc2, fun q a1 a2 => hct q (by omega)⟩, ?_, fun i hi => by rw [hc2] at hi; omega, by rw [hc2]; decide⟩⟩) (fun h' N' k1 k2 => ⟨rfl, N', k1, k2⟩)) (fun v9 h9 q9 => ?_)
              · rw [hz9 16 (by decide) (by decide) (by decide) (by decide), ctv, if_pos (hct _ (by decide))]
              · rw [hz9 17 (by decide) (by decide) (by decide) (by decide), if_pos (hct _ (by decide))]
              · rw [hz9 _ (by omega) (by omega) (by omega) (by omega), ctv, if_pos (hct _ (by omega))]
              · rw [hz9 19 (by decide) (by decide) (by decide) (by decide), ctv, if_pos (hct _ (by decide))]
              · rw [hz9 18 (by decide) (by decide) (by decide) (by decide), if_pos (hct _ (by decide))]
              · rw [hz9 15 (by decide) (by decide) (by decide) (by decide), hc2]
              obtain ⟨rfl, N10, hT, hN10⟩ := q9
              exact hj194 _ N10 hT hN10
          refine wp_aload_n dq_127_133 rfl ?_
          refine wp_getf (w := .ref 15) dq_127_134 fl_127_13 (mw_0 hb) rfl ?_
          refine wp_iconst (x := nI 1) dq_127_137 rfl ?_
          refine wp_ialdV (z := (nI (rs_iv B n 2 S8))) dq_127_138 (mw_2 hb) (by omega) (by decide) (pk_us) ?_
          refine wp_cse1 dq_127_139 (by decide +kernel) mt_127_237 (by decide +kernel) (Nat.le_of_ble_eq_true rfl) (Nat.le_of_ble_eq_true rfl) (c_badFile (d := d + 8)) ?_
          refine wp_if_eqB (tgt := 152) dq_127_142 rfl (fun c2 => ?_) (fun c2 => ?_)
          · exact hj133 _ (by rw [w_T (fun hq => by rw [bfile_fit, c2]; rfl)]; exact hT)
          · refine wp_aload_n dq_127_145 rfl ?_
            refine wp_bipush (x := nI 6) dq_127_146 rfl ?_
            refine wp_iload_n dq_127_148 rfl ?_
            refine wp_cv2 (P := fun v h' => v = none ∧ TR h' B n (rs_w false 6 (rs_p S8) S9) (upd N3 1 (nI (rs_iv B n 2 S8))) z) dq_127_149 mt_127_122 (ob_of (mw_0 hb)) ⟨by decide +kernel, by decide +kernel⟩ (Nat.le_of_ble_eq_true rfl) (Nat.le_of_ble_eq_true rfl) (c_fail hT (by decide) (fun hq => hp8 (sd_is hS9 hq)) (fun h' k1 => ⟨rfl, k1⟩)) (fun v9 h9 q9 => ?_)
            obtain ⟨rfl, hT⟩ := q9
            exact hj133 _ (by rw [w_F (fun hq => by rw [bfile_fit, c2]; rfl)]; exact hT)
        refine wp_aload_n dq_127_107 rfl ?_
        refine wp_getf dq_127_108 fl_127_116 (mw_0 hb) rfl ?_
        refine wp_if_ne (tgt := 118) dq_127_111 rfl (fun c1 => ?_) (fun c1 => ?_)
        · obtain ⟨e0, rfl⟩ : ∃ e, S7 = .inr e := by
            rcases snd_or S7 with r | r
            · exact absurd (hc7.mpr r) c1
            · exact r
          exact hj107 _ _ (by rw [po_e e7]; exact hT) (fun hq => absurd hq (by rw [po_e e7]; exact not_snd)) (fun _ _ => rfl)
        · have hq7 := hc7.mp c1
          obtain ⟨u1, u2⟩ := sd_wc hS7 hq7
          rw [Bool.and_eq_true, decide_eq_true_eq, decide_eq_true_eq] at u1
          refine wp_aload_n dq_127_114 rfl ?_
          refine wp_cv0 (P := fun v h' => v = none ∧ ∃ N', TR h' B n (rs_po B n S5) N' z ∧ (snd (rs_po B n S5) → PQ B n (ra_T B n) N' ∧ LK B (ra_T B n)) ∧ (∀ q, q < 20 ∨ 85 ≤ q → N' q = (upd (upd N 0 (nI (rs_iv B n 2 S3))) 2 (nI (rs_iv B n 2 S5))) q)) dq_127_115 mt_127_234 (ob_of (mw_0 hb)) ⟨by decide +kernel, by decide +kernel⟩ (Nat.le_of_ble_eq_true rfl) (Nat.le_of_ble_eq_true rfl) (c_pool (d := d + 3) (Nc := rs_iv B n 2 S5) hT hq7 (by rw [u2, (sd_isp hS6 (sd_w hS7 hq7)).2.2]; exact Nat.succ_pos _) pk_us u1 (fun h' N' k1 k2 k3 => ⟨rfl, N', by rw [rs_po, rs_po2, e7]; exact k1, by rw [eT, rs_po, rs_po2, e7]; exact k2, k3⟩)) (fun v9 h9 q9 => ?_)
          obtain ⟨rfl, N3, hT, k2, k3⟩ := q9
          exact hj107 _ N3 hT k2 k3
      refine wp_aload_n dq_127_80 rfl ?_
      refine wp_getf (w := .ref 15) dq_127_81 fl_127_13 (mw_0 hb) rfl ?_
      refine wp_iconst (x := nI 2) dq_127_84 rfl ?_
      refine wp_ialdV (z := (nI (rs_iv B n 2 S5))) dq_127_85 (mw_2 hb) (by omega) (by decide) (pk_us) ?_
      refine wp_iconst (x := nI 1) dq_127_86 rfl ?_
      refine wp_ic_ltN (tgt := 101) dq_127_87 rfl (by omega) (by omega) (fun c3 => ?_) (fun c3 => ?_)
      · refine wp_aload_n dq_127_101 rfl ?_
        refine wp_iconst (x := nI 4) dq_127_102 rfl ?_
        refine wp_iload_n dq_127_103 rfl ?_
        refine wp_cv2 (P := fun v h' => v = none ∧ TR h' B n (rs_w false 4 8 S6) (upd (upd N 0 (nI (rs_iv B n 2 S3))) 2 (nI (rs_iv B n 2 S5))) z) dq_127_104 mt_127_122 (ob_of (mw_0 hb)) ⟨by decide +kernel, by decide +kernel⟩ (Nat.le_of_ble_eq_true rfl) (Nat.le_of_ble_eq_true rfl) (c_fail hT (by decide) (fun hq => by rw [hp5 (sd_is hS6 hq), f5 (sd_is hS6 hq)]) (fun h' k1 => ⟨rfl, k1⟩)) (fun v9 h9 q9 => ?_)
        obtain ⟨rfl, hT⟩ := q9
        exact hj80 _ (by rw [w_F (fun hq => by rw [decide_eq_false (show ¬ 1 ≤ rs_iv B n 2 S5 by omega)]; rfl)]; exact hT)
      · refine wp_aload_n dq_127_90 rfl ?_
        refine wp_getf (w := .ref 15) dq_127_91 fl_127_13 (mw_0 hb) rfl ?_
        refine wp_iconst (x := nI 2) dq_127_94 rfl ?_
        refine wp_ialdV (z := (nI (rs_iv B n 2 S5))) dq_127_95 (mw_2 hb) (by omega) (by decide) (pk_us) ?_
        refine wp_bipush (x := nI 64) dq_127_96 rfl ?_
        refine wp_ic_leN (tgt := 107) dq_127_98 rfl (by omega) (by omega) (fun c4 => ?_) (fun c4 => ?_)
        · exact hj80 _ (by rw [w_T (fun hq => by rw [decide_eq_true (show 1 ≤ rs_iv B n 2 S5 by omega), decide_eq_true c4]; rfl)]; exact hT)
        · refine wp_aload_n dq_127_101 rfl ?_
          refine wp_iconst (x := nI 4) dq_127_102 rfl ?_
          refine wp_iload_n dq_127_103 rfl ?_
          refine wp_cv2 (P := fun v h' => v = none ∧ TR h' B n (rs_w false 4 8 S6) (upd (upd N 0 (nI (rs_iv B n 2 S3))) 2 (nI (rs_iv B n 2 S5))) z) dq_127_104 mt_127_122 (ob_of (mw_0 hb)) ⟨by decide +kernel, by decide +kernel⟩ (Nat.le_of_ble_eq_true rfl) (Nat.le_of_ble_eq_true rfl) (c_fail hT (by decide) (fun hq => by rw [hp5 (sd_is hS6 hq), f5 (sd_is hS6 hq)]) (fun h' k1 => ⟨rfl, k1⟩)) (fun v9 h9 q9 => ?_)
          obtain ⟨rfl, hT⟩ := q9
          exact hj80 _ (by rw [w_F (fun hq => by rw [decide_eq_true (show 1 ≤ rs_iv B n 2 S5 by omega), decide_eq_false c4]; rfl)]; exact hT)
    refine wp_aload_n dq_127_37 rfl ?_
    refine wp_getf (w := .ref 15) dq_127_38 fl_127_13 (mw_0 hb) rfl ?_
    refine wp_iconst (x := nI 0) dq_127_41 rfl ?_
    refine wp_ialdV (z := (nI (rs_iv B n 2 S3))) dq_127_42 (mw_2 hb) (by omega) (by decide) (pk_us) ?_
    refine wp_bipush (x := nI 45) dq_127_43 rfl ?_
    refine wp_ic_ltN (tgt := 59) dq_127_45 rfl (by omega) (by omega) (fun c5 => ?_) (fun c5 => ?_)
    · refine wp_aload_n dq_127_59 rfl ?_
      refine wp_iconst (x := nI 3) dq_127_60 rfl ?_
      refine wp_iload_n dq_127_61 rfl ?_
      refine wp_cv2 (P := fun v h' => v = none ∧ TR h' B n (rs_w false 3 6 S4) (upd N 0 (nI (rs_iv B n 2 S3))) z) dq_127_62 mt_127_122 (ob_of (mw_0 hb)) ⟨by decide +kernel, by decide +kernel⟩ (Nat.le_of_ble_eq_true rfl) (Nat.le_of_ble_eq_true rfl) (c_fail hT (by decide) (fun hq => by rw [hp3 (sd_is hS4 hq), f3 (sd_is hS4 hq)]) (fun h' k1 => ⟨rfl, k1⟩)) (fun v9 h9 q9 => ?_)
      obtain ⟨rfl, hT⟩ := q9
      exact hj37 _ (by rw [w_F (fun hq => by rw [decide_eq_false (show ¬ 45 ≤ rs_iv B n 2 S3 by omega)]; rfl)]; exact hT)
    · refine wp_aload_n dq_127_48 rfl ?_
      refine wp_getf (w := .ref 15) dq_127_49 fl_127_13 (mw_0 hb) rfl ?_
      refine wp_iconst (x := nI 0) dq_127_52 rfl ?_
      refine wp_ialdV (z := (nI (rs_iv B n 2 S3))) dq_127_53 (mw_2 hb) (by omega) (by decide) (pk_us) ?_
      refine wp_bipush (x := nI 65) dq_127_54 rfl ?_
      refine wp_ic_leN (tgt := 65) dq_127_56 rfl (by omega) (by omega) (fun c6 => ?_) (fun c6 => ?_)
      · exact hj37 _ (by rw [w_T (fun hq => by rw [decide_eq_true (show 45 ≤ rs_iv B n 2 S3 by omega), decide_eq_true c6]; rfl)]; exact hT)
      · refine wp_aload_n dq_127_59 rfl ?_
        refine wp_iconst (x := nI 3) dq_127_60 rfl ?_
        refine wp_iload_n dq_127_61 rfl ?_
        refine wp_cv2 (P := fun v h' => v = none ∧ TR h' B n (rs_w false 3 6 S4) (upd N 0 (nI (rs_iv B n 2 S3))) z) dq_127_62 mt_127_122 (ob_of (mw_0 hb)) ⟨by decide +kernel, by decide +kernel⟩ (Nat.le_of_ble_eq_true rfl) (Nat.le_of_ble_eq_true rfl) (c_fail hT (by decide) (fun hq => by rw [hp3 (sd_is hS4 hq), f3 (sd_is hS4 hq)]) (fun h' k1 => ⟨rfl, k1⟩)) (fun v9 h9 q9 => ?_)
        obtain ⟨rfl, hT⟩ := q9
        exact hj37 _ (by rw [w_F (fun hq => by rw [decide_eq_true (show 45 ≤ rs_iv B n 2 S3 by omega), decide_eq_false c6]; rfl)]; exact hT)
  refine wp_ldc2 (v := lN 3405691582) dq_127_4 (by decide +kernel) ?_
  refine wp_lc_eqN (tgt := 17) dq_127_7 dq_127_8 rfl (by omega) (by omega) (fun c7 => ?_) (fun c7 => ?_)
  · exact hj4 _ (by rw [w_T (fun hq => beq_iff_eq.mpr c7)]; exact hT)
  · refine wp_aload_n dq_127_11 rfl ?_
    refine wp_iconst (x := nI 2) dq_127_12 rfl ?_
    refine wp_iconst (x := nI 0) dq_127_13 rfl ?_
    refine wp_cv2 (P := fun v h' => v = none ∧ TR h' B n (rs_w false 2 0 S1) N z) dq_127_14 mt_127_122 (ob_of (mw_0 hb)) ⟨by decide +kernel, by decide +kernel⟩ (Nat.le_of_ble_eq_true rfl) (Nat.le_of_ble_eq_true rfl) (c_fail hT (by decide) (fun hq => rfl) (fun h' k1 => ⟨rfl, k1⟩)) (fun v9 h9 q9 => ?_)
    obtain ⟨rfl, hT⟩ := q9
    exact hj4 _ (by rw [w_F (fun hq => beq_eq_false_iff_ne.mpr c7)]; exact hT)
