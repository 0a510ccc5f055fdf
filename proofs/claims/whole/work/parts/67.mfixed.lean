theorem rs_ix_e (B : Nat → Nat) (n : Nat) (T : Nat → Nat) (t : Nat) (mz : Bool) (e : Nat × Nat) : rs_ix B n T t mz (.inr e) = .inr e := rfl
theorem kn_10 {l : List Nat} : kn l = 10 ↔ l = wd 16 := by
  constructor
  · intro h
    unfold kn at h
    repeat' split at h
    all_goals first | assumption | (exfalso; revert h; decide)
  · intro h
    subst h
    decide +kernel
set_option maxRecDepth 100000 in
theorem c_mck {L : Nat} {xs : Nat → Int32} {d n : Nat} {B T : Nat → Nat} {N : Nat → Int32} {h : List qx_E} (hA : AW h B n N) (hP : PQ B n T N) {i : Nat} (ht : tg B T i = 1) : qe_E L xs (d + 5) 171 [.ref 13, .int (nI i)] h (some (.int (nI (ck B T i)))) h := by
  obtain ⟨s, fa, fb, fc, fd, hb, -⟩ := id hA
  have hn9 := AW_n hA
  obtain ⟨a1, a2, a3, a4, a5, a6⟩ := pq_t hP ht
  have hte : te B T i = T i + 3 + tl B T i := rfl
  have hk12 := kn_12 (tx B T i)
  show wp_W L xs _ 171 0 [(0, .ref 13), (1, .int (nI i))] [] h _
  refine wp_aload_n dq_171_0 rfl ?_
  refine wp_iload_n dq_171_1 rfl ?_
  refine wp_cve1 dq_171_2 mt_171_160 (ob_of (mw_0 hb)) ⟨by decide +kernel, by decide +kernel⟩ (Nat.le_of_ble_eq_true rfl) (Nat.le_of_ble_eq_true rfl) (c_kn (d := d) hA hP ht) ?_
  refine wp_bipush (x := nI 10) dq_171_5 rfl ?_
  refine wp_ic_neN (tgt := 13) dq_171_7 rfl (by omega) (by omega) (fun c1 => ?_) (fun c1 => ?_)
  · refine wp_aload_n dq_171_13 rfl ?_
    refine wp_iload_n dq_171_14 rfl ?_
    refine wp_cve1 dq_171_15 mt_171_48 (ob_of (mw_0 hb)) ⟨by decide +kernel, by decide +kernel⟩ (Nat.le_of_ble_eq_true rfl) (Nat.le_of_ble_eq_true rfl) (c_count (d := d + 2) hA hP (by rw [ht]; decide)) ?_
    refine wp_iconst (x := nI 1) dq_171_18 rfl ?_
    refine wp_ic_eqN (tgt := 25) dq_171_19 rfl (by omega) (by omega) (fun c2 => ?_) (fun c2 => ?_)
    · have hB := a6 0 (by omega)
      rw [Nat.add_zero] at hB
      refine wp_aload_n dq_171_25 rfl ?_
      refine wp_iload_n dq_171_26 rfl ?_
      refine wp_iconst (x := nI 0) dq_171_27 rfl ?_
      refine wp_cve2 dq_171_28 mt_171_53 (ob_of (mw_0 hb)) ⟨by decide +kernel, by decide +kernel⟩ (Nat.le_of_ble_eq_true rfl) (Nat.le_of_ble_eq_true rfl) (c_char (d := d + 2) hA hP ht (j := 0) (by omega)) ?_
      refine wp_istore_n (lv' := [(0, .ref 13), (1, .int (nI i)), (2, .int (nI (B (T i + 3))))]) dq_171_31 (by decide) rfl ?_
      refine wp_iload_n dq_171_32 rfl ?_
      refine wp_bipush (x := nI 70) dq_171_33 rfl ?_
      refine wp_ic_neN (tgt := 42) dq_171_35 rfl (by omega) (by omega) (fun c3 => ?_) (fun c3 => ?_)
      · refine wp_iload_n dq_171_42 rfl ?_
        refine wp_bipush (x := nI 74) dq_171_43 rfl ?_
        refine wp_ic_neN (tgt := 52) dq_171_45 rfl (by omega) (by omega) (fun c4 => ?_) (fun c4 => ?_)
        · refine wp_iload_n dq_171_52 rfl ?_
          refine wp_bipush (x := nI 68) dq_171_53 rfl ?_
          refine wp_ic_neN (tgt := 63) dq_171_55 rfl (by omega) (by omega) (fun c5 => ?_) (fun c5 => ?_)
          · refine wp_iconst (x := nI 3) dq_171_63 rfl ?_
            exact wp_ire dq_171_64 rfl ⟨rfl, Or.inl rfl⟩ ⟨by rw [ck, if_neg (fun r => c1 (kn_10.mpr r)), if_pos c2, if_neg c3, if_neg c4, if_neg c5], rfl⟩
          · refine wp_bipush (x := nI 6) dq_171_58 rfl ?_
            refine wp_goto (tgt := 64) dq_171_60 rfl ?_
            exact wp_ire dq_171_64 rfl ⟨rfl, Or.inl rfl⟩ ⟨by rw [ck, if_neg (fun r => c1 (kn_10.mpr r)), if_pos c2, if_neg c3, if_neg c4, if_pos c5], rfl⟩
        · refine wp_iconst (x := nI 5) dq_171_48 rfl ?_
          refine wp_goto (tgt := 64) dq_171_49 rfl ?_
          exact wp_ire dq_171_64 rfl ⟨rfl, Or.inl rfl⟩ ⟨by rw [ck, if_neg (fun r => c1 (kn_10.mpr r)), if_pos c2, if_neg c3, if_pos c4], rfl⟩
      · refine wp_iconst (x := nI 4) dq_171_38 rfl ?_
        refine wp_goto (tgt := 64) dq_171_39 rfl ?_
        exact wp_ire dq_171_64 rfl ⟨rfl, Or.inl rfl⟩ ⟨by rw [ck, if_neg (fun r => c1 (kn_10.mpr r)), if_pos c2, if_pos c3], rfl⟩
    · refine wp_bipush (x := nI 99) dq_171_22 rfl ?_
      exact wp_ire dq_171_24 rfl ⟨rfl, Or.inl rfl⟩ ⟨by rw [ck, if_neg (fun r => c1 (kn_10.mpr r)), if_neg c2], rfl⟩
  · refine wp_bipush (x := nI 8) dq_171_10 rfl ?_
    exact wp_ire dq_171_12 rfl ⟨rfl, Or.inl rfl⟩ ⟨by rw [ck, if_pos (kn_10.mp c1)], rfl⟩
def fx_i (w b : Nat) : Nat := if w = 1 then (if b = 0 then 16 else b + 3) else if w = 2 then (if b = 0 then 17 else b + 4) else if w = 8 then 19 else b + 5
theorem ck_99 (B T : Nat → Nat) (i : Nat) : ck B T i ≤ 99 := by
  unfold ck
  repeat' split
  all_goals decide
set_option maxRecDepth 100000 in
theorem c_fx1 {L : Nat} {xs : Nat → Int32} {d n : Nat} {B T : Nat → Nat} {N : Nat → Int32} {z : rZ} {S0 : rS} {h : List qx_E} {Q : Option Value → List qx_E → Prop} {b ln cty : Nat} {lp : Int32} (hL : snd S0 → ln = bu_U B (rs_p S0 - 4) 4 ∧ lp = nI (rs_p S0 - 4)) (hl9 : ln < 4294967296) (hb9 : b < 490) (hP : snd S0 → PQ B n T N) (hT : TR h B n S0 N z) (hK : ∀ h' N', TR h' B n (rs_sg B n T 1 cty S0) N' z → (snd (rs_sg B n T 1 cty S0) → N' = upd N (fx_i 1 b) (nI (if 1 = 2 then 1 else bu_U B (rs_p S0) 2))) → Q none h') : wp_W L xs (d + 6) 170 0 (lv_args 0 [.ref 13, .int (nI 1), .int (nI b), .long (lN ln), .int lp]) [] h Q := by
  show wp_W L xs _ 170 0 [(0, .ref 13), (1, .int (nI 1)), (2, .int (nI b)), (3, .long (lN ln)), (5, .int lp)] [] h Q
  obtain ⟨s0, fa0, hb, hz0, hc0, hp0⟩ := TR_x hT
  have hj0 : ∀ h, TR h B n (rs_w (bu_U B (rs_p S0 - 4) 4 == 2) 10 (rs_p S0 - 4) S0) N z → wp_W L xs (d + 6) 170 24 [(0, .ref 13), (1, .int (nI 1)), (2, .int (nI b)), (3, .long (lN ln)), (5, .int lp)] ([]) h Q := by
    intro h hT
    generalize hS1 : rs_w (bu_U B (rs_p S0 - 4) 4 == 2) 10 (rs_p S0 - 4) S0 = S1 at hT
    obtain ⟨s1, fa1, hb, hz1, hc1, hp1⟩ := TR_x hT
    refine wp_aload_n dq_170_24 rfl ?_
    refine wp_getf (w := .int (s1 4)) dq_170_25 fl_170_116 (mw_0 hb) rfl ?_
    refine wp_if_eq (tgt := 32) dq_170_28 rfl (fun c1 => ?_) (fun c1 => ?_)
    · have hq1 : snd S1 := hc1.mp c1
      refine wp_iload_n dq_170_32 rfl ?_
      refine wp_iconst (x := nI 1) dq_170_33 rfl ?_
      refine wp_ic_neN (tgt := 60) dq_170_34 rfl (by decide) (by decide) (fun c9 => absurd c9 (by decide)) (fun _ => ?_)
      refine wp_aload_n dq_170_37 rfl ?_
      refine wp_getf (w := .ref 15) dq_170_38 fl_170_13 (mw_0 hb) rfl ?_
      refine wp_iload_n dq_170_41 rfl ?_
      refine wp_if_neN (tgt := 50) dq_170_42 rfl (by omega) (fun c2 => ?_) (fun c2 => ?_)
      · refine wp_iload_n dq_170_50 rfl ?_
        refine wp_iconst (x := nI 3) dq_170_51 rfl ?_
        refine wp_iaddN dq_170_52 ?_
        refine wp_aload_n dq_170_53 rfl ?_
        refine wp_iconst (x := nI 1) dq_170_54 rfl ?_
        refine wp_iconst (x := nI 0) dq_170_55 rfl ?_
        refine wp_cv2 (P := fun v h' => v = some (.int (nI (rs_iv B n 2 S1))) ∧ TR h' B n (rs_ix B n T 1 false S1) N z) dq_170_56 mt_170_173 (ob_of (mw_0 hb)) ⟨by decide +kernel, by decide +kernel⟩ (Nat.le_of_ble_eq_true rfl) (Nat.le_of_ble_eq_true rfl) (c_mix (T := T) (t := 1) (mz := false) hT (fun hq => hP (sd_w hS1 hq)) (by decide) (fun h' k1 => ⟨rfl, k1⟩)) (fun v9 h9 q9 => ?_)
        obtain ⟨rfl, hT⟩ := q9
        generalize hS2 : rs_ix B n T 1 false S1 = S2 at hT
        obtain ⟨s2, fa2, hb, hz2, hc2, hp2⟩ := TR_x hT
        refine wp_tn dq_170_59 (by omega) hT (fun h hT => ?_)
        obtain ⟨s2, fa2, hb, hz2, hc2, hp2⟩ := TR_x hT
        refine wp_iload_n dq_170_60 rfl ?_
        refine wp_iconst (x := nI 2) dq_170_61 rfl ?_
        refine wp_ic_neN (tgt := 83) dq_170_62 rfl (by decide) (by decide) (fun _ => ?_) (fun c9 => absurd c9 (by decide))
        refine wp_iload_n dq_170_83 rfl ?_
        refine wp_bipush (x := nI 8) dq_170_84 rfl ?_
        refine wp_ic_neN (tgt := 103) dq_170_86 rfl (by decide) (by decide) (fun _ => ?_) (fun c9 => absurd c9 (by decide))
        refine wp_iload_n dq_170_103 rfl ?_
        refine wp_iconst (x := nI 3) dq_170_104 rfl ?_
        refine wp_ic_neN (tgt := 133) dq_170_105 rfl (by decide) (by decide) (fun _ => ?_) (fun c9 => absurd c9 (by decide))
        refine wp_vre dq_170_133 rfl (hK _ _ (by rw [rs_sg, if_neg (by decide), rs_wl, hS1, show sg_t B T 1 cty = 1 from rfl, hS2]; exact hT) (fun hq => ?_))
        rw [rs_sg, if_neg (by decide), rs_wl, hS1, show sg_t B T 1 cty = 1 from rfl, hS2] at hq
        have e1 : S1 = S0 := (sd_wc hS1 hq1).2
        have e2 := (sp_ix hS2 hq).2.2
        rw [e1] at e2
        rw [show fx_i 1 b = b + 3 from by unfold fx_i; rw [if_pos rfl, if_neg c2], e1, e2]
        rfl
      · refine wp_bipush (x := nI 16) dq_170_45 rfl ?_
        refine wp_goto (tgt := 53) dq_170_47 rfl ?_
        refine wp_aload_n dq_170_53 rfl ?_
        refine wp_iconst (x := nI 1) dq_170_54 rfl ?_
        refine wp_iconst (x := nI 0) dq_170_55 rfl ?_
        refine wp_cv2 (P := fun v h' => v = some (.int (nI (rs_iv B n 2 S1))) ∧ TR h' B n (rs_ix B n T 1 false S1) N z) dq_170_56 mt_170_173 (ob_of (mw_0 hb)) ⟨by decide +kernel, by decide +kernel⟩ (Nat.le_of_ble_eq_true rfl) (Nat.le_of_ble_eq_true rfl) (c_mix (T := T) (t := 1) (mz := false) hT (fun hq => hP (sd_w hS1 hq)) (by decide) (fun h' k1 => ⟨rfl, k1⟩)) (fun v9 h9 q9 => ?_)
        obtain ⟨rfl, hT⟩ := q9
        generalize hS2 : rs_ix B n T 1 false S1 = S2 at hT
        obtain ⟨s2, fa2, hb, hz2, hc2, hp2⟩ := TR_x hT
        refine wp_tn dq_170_59 (by omega) hT (fun h hT => ?_)
        obtain ⟨s2, fa2, hb, hz2, hc2, hp2⟩ := TR_x hT
        refine wp_iload_n dq_170_60 rfl ?_
        refine wp_iconst (x := nI 2) dq_170_61 rfl ?_
        refine wp_ic_neN (tgt := 83) dq_170_62 rfl (by decide) (by decide) (fun _ => ?_) (fun c9 => absurd c9 (by decide))
        refine wp_iload_n dq_170_83 rfl ?_
        refine wp_bipush (x := nI 8) dq_170_84 rfl ?_
        refine wp_ic_neN (tgt := 103) dq_170_86 rfl (by decide) (by decide) (fun _ => ?_) (fun c9 => absurd c9 (by decide))
        refine wp_iload_n dq_170_103 rfl ?_
        refine wp_iconst (x := nI 3) dq_170_104 rfl ?_
        refine wp_ic_neN (tgt := 133) dq_170_105 rfl (by decide) (by decide) (fun _ => ?_) (fun c9 => absurd c9 (by decide))
        refine wp_vre dq_170_133 rfl (hK _ _ (by rw [rs_sg, if_neg (by decide), rs_wl, hS1, show sg_t B T 1 cty = 1 from rfl, hS2]; exact hT) (fun hq => ?_))
        rw [rs_sg, if_neg (by decide), rs_wl, hS1, show sg_t B T 1 cty = 1 from rfl, hS2] at hq
        have e1 : S1 = S0 := (sd_wc hS1 hq1).2
        have e2 := (sp_ix hS2 hq).2.2
        rw [e1] at e2
        rw [show fx_i 1 b = 16 from by unfold fx_i; rw [if_pos rfl, if_pos c2], e1, e2]
        rfl
    · have h9 : ¬ snd S1 := fun r => c1 (hc1.mpr r)
      obtain ⟨e0, rfl⟩ : ∃ e, S1 = .inr e := by
        rcases snd_or S1 with r | r
        · exact absurd r h9
        · exact r
      exact wp_vre dq_170_31 rfl (hK _ N (by rw [rs_sg, if_neg (by decide), rs_wl, hS1, rs_ix_e]; exact hT) (fun hq => absurd hq (by rw [rs_sg, if_neg (by decide), rs_wl, hS1, rs_ix_e]; exact not_snd)))
  refine wp_lload_n dq_170_0 rfl ?_
  refine wp_iload_n dq_170_1 rfl ?_
  refine wp_iconst (x := nI 2) dq_170_2 rfl ?_
  refine wp_ic_neN (tgt := 10) dq_170_3 rfl (by decide) (by decide) (fun _ => ?_) (fun c9 => absurd c9 (by decide))
  refine wp_iconst (x := nI 2) dq_170_10 rfl ?_
  refine wp_i2lN dq_170_11 (by omega) ?_
  refine wp_lc_eqN (tgt := 24) dq_170_12 dq_170_13 rfl (by omega) (by omega) (fun c3 => ?_) (fun c3 => ?_)
  · exact hj0 _ (by rw [w_T (fun hq => by rw [← (hL hq).1]; exact beq_iff_eq.mpr (by omega))]; exact hT)
  · refine wp_aload_n dq_170_16 rfl ?_
    refine wp_bipush (x := nI 10) dq_170_17 rfl ?_
    refine wp_iload dq_170_19 rfl ?_
    refine wp_cv2 (P := fun v h' => v = none ∧ TR h' B n (rs_w false 10 (rs_p S0 - 4) S0) N z) dq_170_21 mt_170_122 (ob_of (mw_0 hb)) ⟨by decide +kernel, by decide +kernel⟩ (Nat.le_of_ble_eq_true rfl) (Nat.le_of_ble_eq_true rfl) (c_fail hT (by decide) (fun hq => (hL hq).2) (fun h' k1 => ⟨rfl, k1⟩)) (fun v9 h9 q9 => ?_)
    obtain ⟨rfl, hT⟩ := q9
    exact hj0 _ (by rw [w_F (fun hq => by rw [← (hL hq).1]; exact beq_eq_false_iff_ne.mpr (by omega))]; exact hT)
set_option maxRecDepth 100000 in
theorem c_fx2 {L : Nat} {xs : Nat → Int32} {d n : Nat} {B T : Nat → Nat} {N : Nat → Int32} {z : rZ} {S0 : rS} {h : List qx_E} {Q : Option Value → List qx_E → Prop} {b ln cty : Nat} {lp : Int32} (hL : snd S0 → ln = bu_U B (rs_p S0 - 4) 4 ∧ lp = nI (rs_p S0 - 4)) (hl9 : ln < 4294967296) (hb9 : b < 490) (hP : snd S0 → PQ B n T N) (hT : TR h B n S0 N z) (hK : ∀ h' N', TR h' B n (rs_sg B n T 2 cty S0) N' z → (snd (rs_sg B n T 2 cty S0) → N' = upd N (fx_i 2 b) (nI (if 2 = 2 then 1 else bu_U B (rs_p S0) 2))) → Q none h') : wp_W L xs (d + 6) 170 0 (lv_args 0 [.ref 13, .int (nI 2), .int (nI b), .long (lN ln), .int lp]) [] h Q := by
  show wp_W L xs _ 170 0 [(0, .ref 13), (1, .int (nI 2)), (2, .int (nI b)), (3, .long (lN ln)), (5, .int lp)] [] h Q
  obtain ⟨s0, fa0, hb, hz0, hc0, hp0⟩ := TR_x hT
  have hj0 : ∀ h, TR h B n (rs_w (bu_U B (rs_p S0 - 4) 4 == 0) 10 (rs_p S0 - 4) S0) N z → wp_W L xs (d + 6) 170 24 [(0, .ref 13), (1, .int (nI 2)), (2, .int (nI b)), (3, .long (lN ln)), (5, .int lp)] ([]) h Q := by
    intro h hT
    generalize hS1 : rs_w (bu_U B (rs_p S0 - 4) 4 == 0) 10 (rs_p S0 - 4) S0 = S1 at hT
    obtain ⟨s1, fa1, hb, hz1, hc1, hp1⟩ := TR_x hT
    refine wp_aload_n dq_170_24 rfl ?_
    refine wp_getf (w := .int (s1 4)) dq_170_25 fl_170_116 (mw_0 hb) rfl ?_
    refine wp_if_eq (tgt := 32) dq_170_28 rfl (fun c1 => ?_) (fun c1 => ?_)
    · have hq1 : snd S1 := hc1.mp c1
      refine wp_iload_n dq_170_32 rfl ?_
      refine wp_iconst (x := nI 1) dq_170_33 rfl ?_
      refine wp_ic_neN (tgt := 60) dq_170_34 rfl (by decide) (by decide) (fun _ => ?_) (fun c9 => absurd c9 (by decide))
      refine wp_iload_n dq_170_60 rfl ?_
      refine wp_iconst (x := nI 2) dq_170_61 rfl ?_
      refine wp_ic_neN (tgt := 83) dq_170_62 rfl (by decide) (by decide) (fun c9 => absurd c9 (by decide)) (fun _ => ?_)
      refine wp_aload_n dq_170_65 rfl ?_
      refine wp_getf (w := .ref 15) dq_170_66 fl_170_13 (mw_0 hb) rfl ?_
      refine wp_iload_n dq_170_69 rfl ?_
      refine wp_if_neN (tgt := 78) dq_170_70 rfl (by omega) (fun c2 => ?_) (fun c2 => ?_)
      · refine wp_iload_n dq_170_78 rfl ?_
        refine wp_iconst (x := nI 4) dq_170_79 rfl ?_
        refine wp_iaddN dq_170_80 ?_
        refine wp_iconst (x := nI 1) dq_170_81 rfl ?_
        refine wp_tn dq_170_82 (by omega) hT (fun h hT => ?_)
        obtain ⟨s1, fa1, hb, hz1, hc1, hp1⟩ := TR_x hT
        refine wp_iload_n dq_170_83 rfl ?_
        refine wp_bipush (x := nI 8) dq_170_84 rfl ?_
        refine wp_ic_neN (tgt := 103) dq_170_86 rfl (by decide) (by decide) (fun _ => ?_) (fun c9 => absurd c9 (by decide))
        refine wp_iload_n dq_170_103 rfl ?_
        refine wp_iconst (x := nI 3) dq_170_104 rfl ?_
        refine wp_ic_neN (tgt := 133) dq_170_105 rfl (by decide) (by decide) (fun _ => ?_) (fun c9 => absurd c9 (by decide))
        refine wp_vre dq_170_133 rfl (hK _ _ (by rw [rs_sg, if_pos rfl, rs_wl, hS1]; exact hT) (fun hq => ?_))
        rw [show fx_i 2 b = b + 4 from by unfold fx_i; rw [if_neg (by decide), if_pos rfl, if_neg c2]]
        rfl
      · refine wp_bipush (x := nI 17) dq_170_73 rfl ?_
        refine wp_goto (tgt := 81) dq_170_75 rfl ?_
        refine wp_iconst (x := nI 1) dq_170_81 rfl ?_
        refine wp_tn dq_170_82 (by omega) hT (fun h hT => ?_)
        obtain ⟨s1, fa1, hb, hz1, hc1, hp1⟩ := TR_x hT
        refine wp_iload_n dq_170_83 rfl ?_
        refine wp_bipush (x := nI 8) dq_170_84 rfl ?_
        refine wp_ic_neN (tgt := 103) dq_170_86 rfl (by decide) (by decide) (fun _ => ?_) (fun c9 => absurd c9 (by decide))
        refine wp_iload_n dq_170_103 rfl ?_
        refine wp_iconst (x := nI 3) dq_170_104 rfl ?_
        refine wp_ic_neN (tgt := 133) dq_170_105 rfl (by decide) (by decide) (fun _ => ?_) (fun c9 => absurd c9 (by decide))
        refine wp_vre dq_170_133 rfl (hK _ _ (by rw [rs_sg, if_pos rfl, rs_wl, hS1]; exact hT) (fun hq => ?_))
        rw [show fx_i 2 b = 17 from by unfold fx_i; rw [if_neg (by decide), if_pos rfl, if_pos c2]]
        rfl
    · have h9 : ¬ snd S1 := fun r => c1 (hc1.mpr r)
      obtain ⟨e0, rfl⟩ : ∃ e, S1 = .inr e := by
        rcases snd_or S1 with r | r
        · exact absurd r h9
        · exact r
      exact wp_vre dq_170_31 rfl (hK _ N (by rw [rs_sg, if_pos rfl, rs_wl, hS1]; exact hT) (fun hq => absurd hq (by rw [rs_sg, if_pos rfl, rs_wl, hS1]; exact not_snd)))
  refine wp_lload_n dq_170_0 rfl ?_
  refine wp_iload_n dq_170_1 rfl ?_
  refine wp_iconst (x := nI 2) dq_170_2 rfl ?_
  refine wp_ic_neN (tgt := 10) dq_170_3 rfl (by decide) (by decide) (fun c9 => absurd c9 (by decide)) (fun _ => ?_)
  refine wp_iconst (x := nI 0) dq_170_6 rfl ?_
  refine wp_goto (tgt := 11) dq_170_7 rfl ?_
  refine wp_i2lN dq_170_11 (by omega) ?_
  refine wp_lc_eqN (tgt := 24) dq_170_12 dq_170_13 rfl (by omega) (by omega) (fun c3 => ?_) (fun c3 => ?_)
  · exact hj0 _ (by rw [w_T (fun hq => by rw [← (hL hq).1]; exact beq_iff_eq.mpr (by omega))]; exact hT)
  · refine wp_aload_n dq_170_16 rfl ?_
    refine wp_bipush (x := nI 10) dq_170_17 rfl ?_
    refine wp_iload dq_170_19 rfl ?_
    refine wp_cv2 (P := fun v h' => v = none ∧ TR h' B n (rs_w false 10 (rs_p S0 - 4) S0) N z) dq_170_21 mt_170_122 (ob_of (mw_0 hb)) ⟨by decide +kernel, by decide +kernel⟩ (Nat.le_of_ble_eq_true rfl) (Nat.le_of_ble_eq_true rfl) (c_fail hT (by decide) (fun hq => (hL hq).2) (fun h' k1 => ⟨rfl, k1⟩)) (fun v9 h9 q9 => ?_)
    obtain ⟨rfl, hT⟩ := q9
    exact hj0 _ (by rw [w_F (fun hq => by rw [← (hL hq).1]; exact beq_eq_false_iff_ne.mpr (by omega))]; exact hT)
set_option maxRecDepth 100000 in
theorem c_fx3 {L : Nat} {xs : Nat → Int32} {d n : Nat} {B T : Nat → Nat} {N : Nat → Int32} {z : rZ} {S0 : rS} {h : List qx_E} {Q : Option Value → List qx_E → Prop} {b ln cty : Nat} {lp : Int32} (hL : snd S0 → ln = bu_U B (rs_p S0 - 4) 4 ∧ lp = nI (rs_p S0 - 4)) (hl9 : ln < 4294967296) (hb9 : b < 490) (hP : snd S0 → PQ B n T N) (hY : snd S0 → N (b + 2) = nI cty ∧ tg B T cty = 1) (hT : TR h B n S0 N z) (hK : ∀ h' N', TR h' B n (rs_sg B n T 3 cty S0) N' z → (snd (rs_sg B n T 3 cty S0) → N' = upd N (fx_i 3 b) (nI (if 3 = 2 then 1 else bu_U B (rs_p S0) 2))) → Q none h') : wp_W L xs (d + 6) 170 0 (lv_args 0 [.ref 13, .int (nI 3), .int (nI b), .long (lN ln), .int lp]) [] h Q := by
  show wp_W L xs _ 170 0 [(0, .ref 13), (1, .int (nI 3)), (2, .int (nI b)), (3, .long (lN ln)), (5, .int lp)] [] h Q
  obtain ⟨s0, fa0, hb, hz0, hc0, hp0⟩ := TR_x hT
  have hj0 : ∀ h, TR h B n (rs_w (bu_U B (rs_p S0 - 4) 4 == 2) 10 (rs_p S0 - 4) S0) N z → wp_W L xs (d + 6) 170 24 [(0, .ref 13), (1, .int (nI 3)), (2, .int (nI b)), (3, .long (lN ln)), (5, .int lp)] ([]) h Q := by
    intro h hT
    generalize hS1 : rs_w (bu_U B (rs_p S0 - 4) 4 == 2) 10 (rs_p S0 - 4) S0 = S1 at hT
    obtain ⟨s1, fa1, hb, hz1, hc1, hp1⟩ := TR_x hT
    refine wp_aload_n dq_170_24 rfl ?_
    refine wp_getf (w := .int (s1 4)) dq_170_25 fl_170_116 (mw_0 hb) rfl ?_
    refine wp_if_eq (tgt := 32) dq_170_28 rfl (fun c1 => ?_) (fun c1 => ?_)
    · have hq1 : snd S1 := hc1.mp c1
      refine wp_iload_n dq_170_32 rfl ?_
      refine wp_iconst (x := nI 1) dq_170_33 rfl ?_
      refine wp_ic_neN (tgt := 60) dq_170_34 rfl (by decide) (by decide) (fun _ => ?_) (fun c9 => absurd c9 (by decide))
      refine wp_iload_n dq_170_60 rfl ?_
      refine wp_iconst (x := nI 2) dq_170_61 rfl ?_
      refine wp_ic_neN (tgt := 83) dq_170_62 rfl (by decide) (by decide) (fun _ => ?_) (fun c9 => absurd c9 (by decide))
      refine wp_iload_n dq_170_83 rfl ?_
      refine wp_bipush (x := nI 8) dq_170_84 rfl ?_
      refine wp_ic_neN (tgt := 103) dq_170_86 rfl (by decide) (by decide) (fun _ => ?_) (fun c9 => absurd c9 (by decide))
      refine wp_iload_n dq_170_103 rfl ?_
      refine wp_iconst (x := nI 3) dq_170_104 rfl ?_
      refine wp_ic_neN (tgt := 133) dq_170_105 rfl (by decide) (by decide) (fun c9 => absurd c9 (by decide)) (fun _ => ?_)
      refine wp_aload_n dq_170_108 rfl ?_
      refine wp_getf (w := .ref 15) dq_170_109 fl_170_13 (mw_0 hb) rfl ?_
      refine wp_iload_n dq_170_112 rfl ?_
      refine wp_iconst (x := nI 5) dq_170_113 rfl ?_
      refine wp_iaddN dq_170_114 ?_
      refine wp_aload_n dq_170_115 rfl ?_
      refine wp_aload_n dq_170_116 rfl ?_
      refine wp_aload_n dq_170_117 rfl ?_
      refine wp_getf (w := .ref 15) dq_170_118 fl_170_13 (mw_0 hb) rfl ?_
      refine wp_iload_n dq_170_121 rfl ?_
      refine wp_iconst (x := nI 2) dq_170_122 rfl ?_
      refine wp_iaddN dq_170_123 ?_
      refine wp_ialdV (z := (nI cty)) dq_170_124 (mw_2 hb) (by omega) (by decide) ((hY (sd_w hS1 hq1)).1) ?_
      refine wp_cve1 dq_170_125 mt_170_224 (ob_of (mw_0 hb)) ⟨by decide +kernel, by decide +kernel⟩ (Nat.le_of_ble_eq_true rfl) (Nat.le_of_ble_eq_true rfl) (c_mck (d := d) (TR_A hT) (hP (sd_w hS1 hq1)) (hY (sd_w hS1 hq1)).2) ?_
      refine wp_iconst (x := nI 0) dq_170_128 rfl ?_
      refine wp_cv2 (P := fun v h' => v = some (.int (nI (rs_iv B n 2 S1))) ∧ TR h' B n (rs_ix B n T (ck B T cty) false S1) N z) dq_170_129 mt_170_173 (ob_of (mw_0 hb)) ⟨by decide +kernel, by decide +kernel⟩ (Nat.le_of_ble_eq_true rfl) (Nat.le_of_ble_eq_true rfl) (c_mix (T := T) (t := (ck B T cty)) (mz := false) hT (fun hq => hP (sd_w hS1 hq)) (by have := ck_99 B T cty; omega) (fun h' k1 => ⟨rfl, k1⟩)) (fun v9 h9 q9 => ?_)
      obtain ⟨rfl, hT⟩ := q9
      generalize hS2 : rs_ix B n T (ck B T cty) false S1 = S2 at hT
      obtain ⟨s2, fa2, hb, hz2, hc2, hp2⟩ := TR_x hT
      refine wp_tn dq_170_132 (by omega) hT (fun h hT => ?_)
      obtain ⟨s2, fa2, hb, hz2, hc2, hp2⟩ := TR_x hT
      refine wp_vre dq_170_133 rfl (hK _ _ (by rw [rs_sg, if_neg (by decide), rs_wl, hS1, show sg_t B T 3 cty = ck B T cty from rfl, hS2]; exact hT) (fun hq => ?_))
      rw [rs_sg, if_neg (by decide), rs_wl, hS1, show sg_t B T 3 cty = ck B T cty from rfl, hS2] at hq
      have e1 : S1 = S0 := (sd_wc hS1 hq1).2
      have e2 := (sp_ix hS2 hq).2.2
      rw [e1] at e2
      rw [show fx_i 3 b = b + 5 from rfl, e1, e2]
      rfl
    · have h9 : ¬ snd S1 := fun r => c1 (hc1.mpr r)
      obtain ⟨e0, rfl⟩ : ∃ e, S1 = .inr e := by
        rcases snd_or S1 with r | r
        · exact absurd r h9
        · exact r
      exact wp_vre dq_170_31 rfl (hK _ N (by rw [rs_sg, if_neg (by decide), rs_wl, hS1, rs_ix_e]; exact hT) (fun hq => absurd hq (by rw [rs_sg, if_neg (by decide), rs_wl, hS1, rs_ix_e]; exact not_snd)))
  refine wp_lload_n dq_170_0 rfl ?_
  refine wp_iload_n dq_170_1 rfl ?_
  refine wp_iconst (x := nI 2) dq_170_2 rfl ?_
  refine wp_ic_neN (tgt := 10) dq_170_3 rfl (by decide) (by decide) (fun _ => ?_) (fun c9 => absurd c9 (by decide))
  refine wp_iconst (x := nI 2) dq_170_10 rfl ?_
  refine wp_i2lN dq_170_11 (by omega) ?_
  refine wp_lc_eqN (tgt := 24) dq_170_12 dq_170_13 rfl (by omega) (by omega) (fun c2 => ?_) (fun c2 => ?_)
  · exact hj0 _ (by rw [w_T (fun hq => by rw [← (hL hq).1]; exact beq_iff_eq.mpr (by omega))]; exact hT)
  · refine wp_aload_n dq_170_16 rfl ?_
    refine wp_bipush (x := nI 10) dq_170_17 rfl ?_
    refine wp_iload dq_170_19 rfl ?_
    refine wp_cv2 (P := fun v h' => v = none ∧ TR h' B n (rs_w false 10 (rs_p S0 - 4) S0) N z) dq_170_21 mt_170_122 (ob_of (mw_0 hb)) ⟨by decide +kernel, by decide +kernel⟩ (Nat.le_of_ble_eq_true rfl) (Nat.le_of_ble_eq_true rfl) (c_fail hT (by decide) (fun hq => (hL hq).2) (fun h' k1 => ⟨rfl, k1⟩)) (fun v9 h9 q9 => ?_)
    obtain ⟨rfl, hT⟩ := q9
    exact hj0 _ (by rw [w_F (fun hq => by rw [← (hL hq).1]; exact beq_eq_false_iff_ne.mpr (by omega))]; exact hT)
set_option maxRecDepth 100000 in
theorem c_fx8 {L : Nat} {xs : Nat → Int32} {d n : Nat} {B T : Nat → Nat} {N : Nat → Int32} {z : rZ} {S0 : rS} {h : List qx_E} {Q : Option Value → List qx_E → Prop} {b ln cty : Nat} {lp : Int32} (hL : snd S0 → ln = bu_U B (rs_p S0 - 4) 4 ∧ lp = nI (rs_p S0 - 4)) (hl9 : ln < 4294967296) (hb9 : b < 490) (hP : snd S0 → PQ B n T N) (hT : TR h B n S0 N z) (hK : ∀ h' N', TR h' B n (rs_sg B n T 8 cty S0) N' z → (snd (rs_sg B n T 8 cty S0) → N' = upd N (fx_i 8 b) (nI (if 8 = 2 then 1 else bu_U B (rs_p S0) 2))) → Q none h') : wp_W L xs (d + 6) 170 0 (lv_args 0 [.ref 13, .int (nI 8), .int (nI b), .long (lN ln), .int lp]) [] h Q := by
  show wp_W L xs _ 170 0 [(0, .ref 13), (1, .int (nI 8)), (2, .int (nI b)), (3, .long (lN ln)), (5, .int lp)] [] h Q
  obtain ⟨s0, fa0, hb, hz0, hc0, hp0⟩ := TR_x hT
  have hj0 : ∀ h, TR h B n (rs_w (bu_U B (rs_p S0 - 4) 4 == 2) 10 (rs_p S0 - 4) S0) N z → wp_W L xs (d + 6) 170 24 [(0, .ref 13), (1, .int (nI 8)), (2, .int (nI b)), (3, .long (lN ln)), (5, .int lp)] ([]) h Q := by
    intro h hT
    generalize hS1 : rs_w (bu_U B (rs_p S0 - 4) 4 == 2) 10 (rs_p S0 - 4) S0 = S1 at hT
    obtain ⟨s1, fa1, hb, hz1, hc1, hp1⟩ := TR_x hT
    refine wp_aload_n dq_170_24 rfl ?_
    refine wp_getf (w := .int (s1 4)) dq_170_25 fl_170_116 (mw_0 hb) rfl ?_
    refine wp_if_eq (tgt := 32) dq_170_28 rfl (fun c1 => ?_) (fun c1 => ?_)
    · have hq1 : snd S1 := hc1.mp c1
      refine wp_iload_n dq_170_32 rfl ?_
      refine wp_iconst (x := nI 1) dq_170_33 rfl ?_
      refine wp_ic_neN (tgt := 60) dq_170_34 rfl (by decide) (by decide) (fun _ => ?_) (fun c9 => absurd c9 (by decide))
      refine wp_iload_n dq_170_60 rfl ?_
      refine wp_iconst (x := nI 2) dq_170_61 rfl ?_
      refine wp_ic_neN (tgt := 83) dq_170_62 rfl (by decide) (by decide) (fun _ => ?_) (fun c9 => absurd c9 (by decide))
      refine wp_iload_n dq_170_83 rfl ?_
      refine wp_bipush (x := nI 8) dq_170_84 rfl ?_
      refine wp_ic_neN (tgt := 103) dq_170_86 rfl (by decide) (by decide) (fun c9 => absurd c9 (by decide)) (fun _ => ?_)
      refine wp_aload_n dq_170_89 rfl ?_
      refine wp_getf (w := .ref 15) dq_170_90 fl_170_13 (mw_0 hb) rfl ?_
      refine wp_bipush (x := nI 19) dq_170_93 rfl ?_
      refine wp_aload_n dq_170_95 rfl ?_
      refine wp_bipush (x := nI 7) dq_170_96 rfl ?_
      refine wp_iconst (x := nI 0) dq_170_98 rfl ?_
      refine wp_cv2 (P := fun v h' => v = some (.int (nI (rs_iv B n 2 S1))) ∧ TR h' B n (rs_ix B n T 7 false S1) N z) dq_170_99 mt_170_173 (ob_of (mw_0 hb)) ⟨by decide +kernel, by decide +kernel⟩ (Nat.le_of_ble_eq_true rfl) (Nat.le_of_ble_eq_true rfl) (c_mix (T := T) (t := 7) (mz := false) hT (fun hq => hP (sd_w hS1 hq)) (by decide) (fun h' k1 => ⟨rfl, k1⟩)) (fun v9 h9 q9 => ?_)
      obtain ⟨rfl, hT⟩ := q9
      generalize hS2 : rs_ix B n T 7 false S1 = S2 at hT
      obtain ⟨s2, fa2, hb, hz2, hc2, hp2⟩ := TR_x hT
      refine wp_tn dq_170_102 (by omega) hT (fun h hT => ?_)
      obtain ⟨s2, fa2, hb, hz2, hc2, hp2⟩ := TR_x hT
      refine wp_iload_n dq_170_103 rfl ?_
      refine wp_iconst (x := nI 3) dq_170_104 rfl ?_
      refine wp_ic_neN (tgt := 133) dq_170_105 rfl (by decide) (by decide) (fun _ => ?_) (fun c9 => absurd c9 (by decide))
      refine wp_vre dq_170_133 rfl (hK _ _ (by rw [rs_sg, if_neg (by decide), rs_wl, hS1, show sg_t B T 8 cty = 7 from rfl, hS2]; exact hT) (fun hq => ?_))
      rw [rs_sg, if_neg (by decide), rs_wl, hS1, show sg_t B T 8 cty = 7 from rfl, hS2] at hq
      have e1 : S1 = S0 := (sd_wc hS1 hq1).2
      have e2 := (sp_ix hS2 hq).2.2
      rw [e1] at e2
      rw [show fx_i 8 b = 19 from rfl, e1, e2]
      rfl
    · have h9 : ¬ snd S1 := fun r => c1 (hc1.mpr r)
      obtain ⟨e0, rfl⟩ : ∃ e, S1 = .inr e := by
        rcases snd_or S1 with r | r
        · exact absurd r h9
        · exact r
      exact wp_vre dq_170_31 rfl (hK _ N (by rw [rs_sg, if_neg (by decide), rs_wl, hS1, rs_ix_e]; exact hT) (fun hq => absurd hq (by rw [rs_sg, if_neg (by decide), rs_wl, hS1, rs_ix_e]; exact not_snd)))
  refine wp_lload_n dq_170_0 rfl ?_
  refine wp_iload_n dq_170_1 rfl ?_
  refine wp_iconst (x := nI 2) dq_170_2 rfl ?_
  refine wp_ic_neN (tgt := 10) dq_170_3 rfl (by decide) (by decide) (fun _ => ?_) (fun c9 => absurd c9 (by decide))
  refine wp_iconst (x := nI 2) dq_170_10 rfl ?_
  refine wp_i2lN dq_170_11 (by omega) ?_
  refine wp_lc_eqN (tgt := 24) dq_170_12 dq_170_13 rfl (by omega) (by omega) (fun c2 => ?_) (fun c2 => ?_)
  · exact hj0 _ (by rw [w_T (fun hq => by rw [← (hL hq).1]; exact beq_iff_eq.mpr (by omega))]; exact hT)
  · refine wp_aload_n dq_170_16 rfl ?_
    refine wp_bipush (x := nI 10) dq_170_17 rfl ?_
    refine wp_iload dq_170_19 rfl ?_
    refine wp_cv2 (P := fun v h' => v = none ∧ TR h' B n (rs_w false 10 (rs_p S0 - 4) S0) N z) dq_170_21 mt_170_122 (ob_of (mw_0 hb)) ⟨by decide +kernel, by decide +kernel⟩ (Nat.le_of_ble_eq_true rfl) (Nat.le_of_ble_eq_true rfl) (c_fail hT (by decide) (fun hq => (hL hq).2) (fun h' k1 => ⟨rfl, k1⟩)) (fun v9 h9 q9 => ?_)
    obtain ⟨rfl, hT⟩ := q9
    exact hj0 _ (by rw [w_F (fun hq => by rw [← (hL hq).1]; exact beq_eq_false_iff_ne.mpr (by omega))]; exact hT)
