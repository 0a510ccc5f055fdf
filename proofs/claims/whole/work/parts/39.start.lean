theorem lc_eq {q r : Nat} (hq : q < 2 ^ 63) (hr : r < 2 ^ 63) : lg_cmp (lN q) (lN r) = 0 ↔ q = r := by
  unfold lg_cmp
  by_cases c1 : lN q > lN r
  · rw [if_pos c1]
    have := (pk_lLT hr hq).mp c1
    exact ⟨fun h => absurd h (by decide), fun h => by omega⟩
  · rw [if_neg c1]
    by_cases c2 : lN q = lN r
    · rw [if_pos c2]
      exact ⟨fun _ => (pk_lEQ hq hr).mp c2, fun _ => rfl⟩
    · rw [if_neg c2]
      exact ⟨fun h => absurd h (by decide), fun h => absurd (by rw [h]) c2⟩
theorem iv_lt {h : List qx_E} {b n k : Nat} {B : Nat → Nat} {S S' : rS} {fp : Int32} {a : Nat → Nat → Int32} (hT : TS h b B n S fp a) : rs_iv B n k S' < 256 ^ k := by
  cases S' with
  | inl p =>
    show (if p + k ≤ n then bu_U B p k else 0) < 256 ^ k
    split
    · exact bu_lt (fun j hj => TS_B hT (p + j) (by omega))
    · exact Nat.pow_pos (by decide)
  | inr e => exact Nat.pow_pos (by decide)
def rs_st2 (B : Nat → Nat) (n : Nat) (S : rS) : rS := rs_w (rs_iv B n 4 S == 3405691582) 2 0 (rs_is n 4 S)
def rs_st3 (B : Nat → Nat) (n : Nat) (S : rS) : rS := rs_is n 2 (rs_st2 B n S)
def rs_st (B : Nat → Nat) (n : Nat) (S : rS) : rS := rs_w (decide (45 ≤ rs_iv B n 2 (rs_st3 B n S)) && decide (rs_iv B n 2 (rs_st3 B n S) ≤ 65)) 3 6 (rs_is n 2 (rs_st3 B n S))
theorem sd_st {B : Nat → Nat} {n : Nat} {S S' : rS} (e : rs_st B n S = S') (h : snd S') : snd S := sd_is rfl (sd_w rfl (sd_is rfl (sd_is rfl (sd_w e h))))
set_option maxRecDepth 100000 in
theorem c_stK {L : Nat} {xs : Nat → Int32} {d b n g : Nat} {B : Nat → Nat} {fp : Int32} {S0 : rS} {h : List qx_E} {a : Nat → Nat → Int32} {Q : Option Value → List qx_E → Prop} (hT : TS h b B n S0 fp a) (hg : RG h b g) (hK : ∀ h', TS h' b B n (rs_st B n S0) fp a → fr b h h' → Q none h') : wp_W L xs (d + 3) 13 0 (lv_args 0 [.ref g]) [] h Q := by
  have hi4 : rs_iv B n 4 S0 < 4294967296 := iv_lt (k := 4) hT
  show wp_W L xs _ 13 0 [(0, .ref g)] [] h _
  obtain ⟨s0, hb, hw, hm0, h00, hq0⟩ := TS_x hT
  have hf : fr b h h := fr_rf
  refine wp_aload_n dq_13_0 rfl ?_
  refine wp_getf dq_13_1 fl_13_26 hg.2 rfl ?_
  refine wp_aload_n dq_13_4 rfl ?_
  refine wp_getf dq_13_5 fl_13_26 hg.2 rfl ?_
  refine wp_iconst (x := 4) dq_13_8 rfl ?_
  refine wp_cv1 dq_13_9 mt_13_27 (ob_of (tb_c2 hb)) ⟨by decide +kernel, by decide +kernel⟩ (Nat.le_of_ble_eq_true rfl) (Nat.le_of_ble_eq_true rfl) (c_itemT (k := 4) hT (by decide)) (fun v9 h9 q9 => ?_)
  obtain ⟨rfl, hT, hf9⟩ := q9
  have hg := RG_fr hg hf9
  have hf := fr_tr hf hf9
  clear hf9
  generalize hS1 : rs_is n 4 S0 = S1 at hT
  obtain ⟨s1, hb, hw, hm1, h01, hq1⟩ := TS_x hT
  have hj12 : ∀ z9 : Int32, (snd S1 → z9 = bI ((rs_iv B n 4 S0 == 3405691582))) → wp_W L xs (d + 3) 13 24 [(0, .ref g)] (.int z9 :: .ref (b + 2) :: []) h9 Q := by
    intro z9 hz9
    refine wp_iconst (x := 2) dq_13_24 rfl ?_
    refine wp_iconst (x := 0) dq_13_25 rfl ?_
    refine wp_cv3 dq_13_26 mt_13_35 (ob_of (tb_c2 hb)) ⟨by decide +kernel, by decide +kernel⟩ (Nat.le_of_ble_eq_true rfl) (Nat.le_of_ble_eq_true rfl) (c_wantB (c := (rs_iv B n 4 S0 == 3405691582)) (f := 2) (p := 0) hT (by decide) (fun hq => hz9 hq) (fun hq => rfl)) (fun v9 h9 q9 => ?_)
    obtain ⟨rfl, hT, hf9⟩ := q9
    have hg := RG_fr hg hf9
    have hf := fr_tr hf hf9
    clear hf9
    generalize hS2 : rs_w (rs_iv B n 4 S0 == 3405691582) 2 0 S1 = S2 at hT
    obtain ⟨s2, hb, hw, hm2, h02, hq2⟩ := TS_x hT
    refine wp_aload_n dq_13_29 rfl ?_
    refine wp_getf dq_13_30 fl_13_26 hg.2 rfl ?_
    refine wp_iconst (x := 2) dq_13_33 rfl ?_
    refine wp_cv1 dq_13_34 mt_13_27 (ob_of (tb_c2 hb)) ⟨by decide +kernel, by decide +kernel⟩ (Nat.le_of_ble_eq_true rfl) (Nat.le_of_ble_eq_true rfl) (c_itemT (k := 2) hT (by decide)) (fun v9 h9 q9 => ?_)
    obtain ⟨rfl, hT, hf9⟩ := q9
    have hg := RG_fr hg hf9
    have hf := fr_tr hf hf9
    clear hf9
    generalize hS3 : rs_is n 2 S2 = S3 at hT
    obtain ⟨s3, hb, hw, hm3, h03, hq3⟩ := TS_x hT
    refine wp_pop2 dq_13_37 rfl ?_
    refine wp_aload_n dq_13_38 rfl ?_
    refine wp_getf dq_13_39 fl_13_26 hg.2 rfl ?_
    refine wp_cv0 dq_13_42 mt_13_39 (ob_of (tb_c2 hb)) ⟨by decide +kernel, by decide +kernel⟩ (Nat.le_of_ble_eq_true rfl) (Nat.le_of_ble_eq_true rfl) (c_u2T hT) (fun v9 h9 q9 => ?_)
    obtain ⟨rfl, hT, hf9⟩ := q9
    have hg := RG_fr hg hf9
    have hf := fr_tr hf hf9
    clear hf9
    generalize hS4 : rs_is n 2 S3 = S4 at hT
    obtain ⟨s4, hb, hw, hm4, h04, hq4⟩ := TS_x hT
    refine wp_istore_n (lv' := [(0, .ref g), (1, .int (nI (rs_iv B n 2 S3)))]) dq_13_45 (by decide) rfl ?_
    refine wp_aload_n dq_13_46 rfl ?_
    refine wp_getf dq_13_47 fl_13_26 hg.2 rfl ?_
    have hi9 : rs_iv B n 2 S3 < 65536 := iv2_lt hT
    have hj50 : ∀ z9 : Int32, (snd S4 → z9 = bI ((decide (45 ≤ rs_iv B n 2 S3) && decide (rs_iv B n 2 S3 ≤ 65)))) → wp_W L xs (d + 3) 13 67 [(0, .ref g), (1, .int (nI (rs_iv B n 2 S3)))] (.int z9 :: .ref (b + 2) :: []) h9 Q := by
      intro z9 hz9
      refine wp_iconst (x := 3) dq_13_67 rfl ?_
      refine wp_bipush (x := 6) dq_13_68 rfl ?_
      refine wp_cv3 dq_13_70 mt_13_35 (ob_of (tb_c2 hb)) ⟨by decide +kernel, by decide +kernel⟩ (Nat.le_of_ble_eq_true rfl) (Nat.le_of_ble_eq_true rfl) (c_wantB (c := (decide (45 ≤ rs_iv B n 2 S3) && decide (rs_iv B n 2 S3 ≤ 65))) (f := 3) (p := 6) hT (by decide) (fun hq => hz9 hq) (fun hq => rfl)) (fun v9 h9 q9 => ?_)
      obtain ⟨rfl, hT, hf9⟩ := q9
      have hg := RG_fr hg hf9
      have hf := fr_tr hf hf9
      clear hf9
      generalize hS5 : rs_w (decide (45 ≤ rs_iv B n 2 S3) && decide (rs_iv B n 2 S3 ≤ 65)) 3 6 S4 = S5 at hT
      obtain ⟨s5, hb, hw, hm5, h05, hq5⟩ := TS_x hT
      exact wp_vre dq_13_73 rfl (hK h9 (by simp only [rs_st, rs_st3, rs_st2, hS1, hS2, hS3, hS4, hS5]; exact hT) hf)
    refine wp_iload_n dq_13_50 rfl ?_
    refine wp_bipush (x := 45) dq_13_51 rfl ?_
    refine wp_ic_lt (tgt := 66) dq_13_53 rfl (fun c1 => ?_) (fun c1 => ?_)
    · refine wp_iconst (x := 0) dq_13_66 rfl ?_
      exact hj50 _ (fun hq => by have xc1 : (decide (45 ≤ rs_iv B n 2 S3)) = false := decide_eq_false (fun r => absurd c1 (nI_nlt (b := 45) r (by omega))); rw [xc1] <;> rfl)
    · refine wp_iload_n dq_13_56 rfl ?_
      refine wp_bipush (x := 65) dq_13_57 rfl ?_
      refine wp_ic_gt (tgt := 66) dq_13_59 rfl (fun c2 => ?_) (fun c2 => ?_)
      · refine wp_iconst (x := 0) dq_13_66 rfl ?_
        exact hj50 _ (fun hq => by have xc1 : (decide (45 ≤ rs_iv B n 2 S3)) = true := decide_eq_true (by rcases Nat.lt_or_ge (rs_iv B n 2 S3) 45 with r | r; exact absurd (nI_lt (b := 45) r (by decide)) c1; exact r); have xc2 : (decide (rs_iv B n 2 S3 ≤ 65)) = false := decide_eq_false (fun r => absurd c2 (nI_nlt (a := 65) r (by decide))); rw [xc1, xc2] <;> rfl)
      · refine wp_iconst (x := 1) dq_13_62 rfl ?_
        refine wp_goto (tgt := 67) dq_13_63 rfl ?_
        exact hj50 _ (fun hq => by have xc1 : (decide (45 ≤ rs_iv B n 2 S3)) = true := decide_eq_true (by rcases Nat.lt_or_ge (rs_iv B n 2 S3) 45 with r | r; exact absurd (nI_lt (b := 45) r (by decide)) c1; exact r); have xc2 : (decide (rs_iv B n 2 S3 ≤ 65)) = true := decide_eq_true (by rcases Nat.lt_or_ge 65 (rs_iv B n 2 S3) with r | r; exact absurd (nI_lt (a := 65) r (by omega)) c2; exact r); rw [xc1, xc2] <;> rfl)
  refine wp_ldc2 (v := 3405691582) dq_13_12 (by decide +kernel) ?_
  refine wp_lcmp dq_13_15 ?_
  refine wp_if_ne (tgt := 23) dq_13_16 rfl (fun c3 => ?_) (fun c3 => ?_)
  · refine wp_iconst (x := 0) dq_13_23 rfl ?_
    exact hj12 _ (fun hq => by have xc3 : (rs_iv B n 4 S0 == 3405691582) = false := beq_eq_false_iff_ne.mpr (fun r => c3 ((lc_eq (r := 3405691582) (by omega) (by decide)).mpr r)); rw [xc3] <;> rfl)
  · refine wp_iconst (x := 1) dq_13_19 rfl ?_
    refine wp_goto (tgt := 24) dq_13_20 rfl ?_
    exact hj12 _ (fun hq => by have xc3 : (rs_iv B n 4 S0 == 3405691582) = true := beq_iff_eq.mpr ((lc_eq (r := 3405691582) (by omega) (by decide)).mp c3); rw [xc3] <;> rfl)
theorem c_st {L : Nat} {xs : Nat → Int32} {d b n g : Nat} {B : Nat → Nat} {fp : Int32} {S0 : rS} {h : List qx_E} {a : Nat → Nat → Int32} (hT : TS h b B n S0 fp a) (hg : RG h b g) : wp_W L xs (d + 3) 13 0 (lv_args 0 [.ref g]) [] h (fun v h' => v = none ∧ TS h' b B n (rs_st B n S0) fp a ∧ fr b h h') := c_stK hT hg (fun h' h1 h2 => ⟨rfl, h1, h2⟩)
def rs_po1 (B : Nat → Nat) (n : Nat) (S : rS) : rS := rs_w (decide (1 ≤ rs_iv B n 2 S) && decide (rs_iv B n 2 S ≤ 64)) 4 8 (rs_is n 2 S)
def rs_po2 (B : Nat → Nat) (n : Nat) (S : rS) : rS × (Nat → Nat) := rs_pl B n (rs_iv B n 2 S) (rs_iv B n 2 S) 1 (rs_po1 B n S) (fun _ => 0)
def rs_po (B : Nat → Nat) (n : Nat) (S : rS) : rS := rs_lks B (rs_po2 B n S).2 63 1 (rs_po2 B n S).1
def rs_T (B : Nat → Nat) (n : Nat) (S : rS) : Nat → Nat := (rs_po2 B n S).2
theorem sd_pl {B : Nat → Nat} {n N j k : Nat} {T : Nat → Nat} {S S' : rS} (e : (rs_pl B n N j k S T).1 = S') (h : snd S') : snd S := by
  cases S with
  | inl q => exact snd_l q
  | inr e0 => rw [rs_pl_e] at e; rw [← e] at h; exact h
theorem po_PG {B : Nat → Nat} {n : Nat} {S : rS} (h : snd (rs_po2 B n S).1) : PG B n (rs_po2 B n S).2 ∧ 1 ≤ rs_iv B n 2 S ∧ rs_iv B n 2 S ≤ 64 ∧ (∀ i, rs_iv B n 2 S ≤ i → (rs_po2 B n S).2 i = 0) ∧ snd S := by
  have h1 : snd (rs_po1 B n S) := sd_pl rfl h
  obtain ⟨h2, h3⟩ := sd_wc rfl h1
  have h4 := sd_isp rfl (sd_w rfl h1)
  rw [Bool.and_eq_true, decide_eq_true_eq, decide_eq_true_eq] at h2
  have h5 : rs_po1 B n S = .inl (rs_p S + 2) := h3.trans h4.2.2
  obtain ⟨r, hr⟩ := h
  have h6 := rs_pl_ok (B := B) (n := n) (N := rs_iv B n 2 S) (rs_iv B n 2 S) 1 (rs_po1 B n S) (fun _ => 0) r (rs_po2 B n S).2 (by decide) (fun q hq => by rw [h5] at hq; cases hq; omega) (fun i hi => absurd rfl hi) (Prod.ext hr rfl)
  refine ⟨fun i hi => ?_, h2.1, h2.2, fun i hi => ?_, sd_is rfl (sd_w rfl h1)⟩
  · obtain ⟨a1, a2, a3⟩ := h6.1 i hi
    exact ⟨a1, by omega, a3⟩
  · rcases Decidable.em ((rs_po2 B n S).2 i = 0) with r | r
    · exact r
    · obtain ⟨a1, a2, a3⟩ := h6.1 i r
      omega
theorem po_p {B : Nat → Nat} {n : Nat} {S S1 S2 : rS} (e1 : rs_is n 2 S = S1) (e2 : rs_w (decide (1 ≤ rs_iv B n 2 S) && decide (rs_iv B n 2 S ≤ 64)) 4 8 S1 = S2) (h : snd S2) : rs_iv B n 2 S ≤ 64 ∧ 0 < rs_p S2 := by
  obtain ⟨h2, h3⟩ := sd_wc e2 h
  rw [Bool.and_eq_true, decide_eq_true_eq, decide_eq_true_eq] at h2
  have h4 := sd_isp e1 (sd_w e2 h)
  rw [h3, h4.2.2]
  exact ⟨h2.2, Nat.succ_pos _⟩
set_option maxRecDepth 100000 in
theorem c_poK {L : Nat} {xs : Nat → Int32} {d b n g : Nat} {B : Nat → Nat} {fp : Int32} {S0 : rS} {h : List qx_E} {a : Nat → Nat → Int32} {Q : Option Value → List qx_E → Prop} (hT : TS h b B n S0 fp a) (hg : RG h b g) (hta : tc0 a) (hK : ∀ h' a', TS h' b B n (rs_po B n S0) fp a' → fr b h h' → (∀ q, q = 0 ∨ 5 ≤ q → a' q = a q) → (snd (rs_po B n S0) → PL B n (rs_T B n S0) a') → Q none h') : wp_W L xs (d + 9) 18 0 (lv_args 0 [.ref g]) [] h Q := by
  have hi9 : rs_iv B n 2 S0 < 65536 := iv2_lt hT
  show wp_W L xs _ 18 0 [(0, .ref g)] [] h _
  obtain ⟨s0, hb, hw, hm0, h00, hq0⟩ := TS_x hT
  have hf : fr b h h := fr_rf
  refine wp_aload_n dq_18_0 rfl ?_
  refine wp_getf dq_18_1 fl_18_26 hg.2 rfl ?_
  refine wp_cv0 dq_18_4 mt_18_39 (ob_of (tb_c2 hb)) ⟨by decide +kernel, by decide +kernel⟩ (Nat.le_of_ble_eq_true rfl) (Nat.le_of_ble_eq_true rfl) (c_u2T hT) (fun v9 h9 q9 => ?_)
  obtain ⟨rfl, hT, hf9⟩ := q9
  have hg := RG_fr hg hf9
  have hf := fr_tr hf hf9
  clear hf9
  generalize hS1 : rs_is n 2 S0 = S1 at hT
  obtain ⟨s1, hb, hw, hm1, h01, hq1⟩ := TS_x hT
  refine wp_istore_n (lv' := [(0, .ref g), (1, .int (nI (rs_iv B n 2 S0)))]) dq_18_7 (by decide) rfl ?_
  refine wp_aload_n dq_18_8 rfl ?_
  refine wp_getf dq_18_9 fl_18_26 hg.2 rfl ?_
  have hj12 : ∀ z9 : Int32, (snd S1 → z9 = bI ((decide (1 ≤ rs_iv B n 2 S0) && decide (rs_iv B n 2 S0 ≤ 64)))) → wp_W L xs (d + 9) 18 28 [(0, .ref g), (1, .int (nI (rs_iv B n 2 S0)))] (.int z9 :: .ref (b + 2) :: []) h9 Q := by
    intro z9 hz9
    refine wp_iconst (x := 4) dq_18_28 rfl ?_
    refine wp_bipush (x := 8) dq_18_29 rfl ?_
    refine wp_cv3 dq_18_31 mt_18_35 (ob_of (tb_c2 hb)) ⟨by decide +kernel, by decide +kernel⟩ (Nat.le_of_ble_eq_true rfl) (Nat.le_of_ble_eq_true rfl) (c_wantB (c := (decide (1 ≤ rs_iv B n 2 S0) && decide (rs_iv B n 2 S0 ≤ 64))) (f := 4) (p := 8) hT (by decide) (fun hq => hz9 hq) (fun hq => rfl)) (fun v9 h9 q9 => ?_)
    obtain ⟨rfl, hT, hf9⟩ := q9
    have hg := RG_fr hg hf9
    have hf := fr_tr hf hf9
    clear hf9
    generalize hS2 : rs_w (decide (1 ≤ rs_iv B n 2 S0) && decide (rs_iv B n 2 S0 ≤ 64)) 4 8 S1 = S2 at hT
    obtain ⟨s2, hb, hw, hm2, h02, hq2⟩ := TS_x hT
    refine wp_aload_n dq_18_34 rfl ?_
    refine wp_getf dq_18_35 fl_18_21 hg.2 rfl ?_
    refine wp_iload_n dq_18_38 rfl ?_
    refine wp_cv1 dq_18_39 mt_18_45 (ob_of (tb_c1 hb)) ⟨by decide +kernel, by decide +kernel⟩ (Nat.le_of_ble_eq_true rfl) (Nat.le_of_ble_eq_true rfl) (c_readEntries hT hi9 hta.1 (fun hq => po_p hS1 hS2 hq)) (fun v9 h9 q9 => ?_)
    obtain ⟨rfl, a1, hT, hf9, ho1, hP1⟩ := q9
    have hg := RG_fr hg hf9
    have hf := fr_tr hf hf9
    clear hf9
    have e2 : rs_pl B n (rs_iv B n 2 S0) (rs_iv B n 2 S0) 1 S2 (fun _ => 0) = rs_po2 B n S0 := by rw [rs_po2, rs_po1, hS1, hS2]
    rw [e2] at hT hP1
    obtain ⟨s3, hb, -⟩ := id hT
    refine wp_aload_n dq_18_42 rfl ?_
    refine wp_getf dq_18_43 fl_18_21 hg.2 rfl ?_
    refine wp_cv0 dq_18_46 mt_18_49 (ob_of (tb_c1 hb)) ⟨by decide +kernel, by decide +kernel⟩ (Nat.le_of_ble_eq_true rfl) (Nat.le_of_ble_eq_true rfl) (c_lks hT (fun hq => ⟨hP1 hq, (po_PG hq).1⟩)) (fun v9 h9 q9 => ?_)
    obtain ⟨rfl, a2, hT, hf9, ho2, hP2⟩ := q9
    have hf := fr_tr hf hf9
    exact wp_vre dq_18_49 rfl (hK h9 a2 hT hf (fun q hq => (ho2 q (by omega)).trans (ho1 q (by omega))) hP2)
  refine wp_iload_n dq_18_12 rfl ?_
  refine wp_iconst (x := 1) dq_18_13 rfl ?_
  refine wp_ic_lt (tgt := 27) dq_18_14 rfl (fun c1 => ?_) (fun c1 => ?_)
  · refine wp_iconst (x := 0) dq_18_27 rfl ?_
    exact hj12 _ (fun hq => by have xc1 : (decide (1 ≤ rs_iv B n 2 S0)) = false := decide_eq_false (fun r => absurd c1 (nI_nlt (b := 1) r (by omega))); rw [xc1] <;> rfl)
  · refine wp_iload_n dq_18_17 rfl ?_
    refine wp_bipush (x := 64) dq_18_18 rfl ?_
    refine wp_ic_gt (tgt := 27) dq_18_20 rfl (fun c2 => ?_) (fun c2 => ?_)
    · refine wp_iconst (x := 0) dq_18_27 rfl ?_
      exact hj12 _ (fun hq => by have xc1 : (decide (1 ≤ rs_iv B n 2 S0)) = true := decide_eq_true (by rcases Nat.lt_or_ge (rs_iv B n 2 S0) 1 with r | r; exact absurd (nI_lt (b := 1) r (by decide)) c1; exact r); have xc2 : (decide (rs_iv B n 2 S0 ≤ 64)) = false := decide_eq_false (fun r => absurd c2 (nI_nlt (a := 64) r (by decide))); rw [xc1, xc2] <;> rfl)
    · refine wp_iconst (x := 1) dq_18_23 rfl ?_
      refine wp_goto (tgt := 28) dq_18_24 rfl ?_
      exact hj12 _ (fun hq => by have xc1 : (decide (1 ≤ rs_iv B n 2 S0)) = true := decide_eq_true (by rcases Nat.lt_or_ge (rs_iv B n 2 S0) 1 with r | r; exact absurd (nI_lt (b := 1) r (by decide)) c1; exact r); have xc2 : (decide (rs_iv B n 2 S0 ≤ 64)) = true := decide_eq_true (by rcases Nat.lt_or_ge 64 (rs_iv B n 2 S0) with r | r; exact absurd (nI_lt (a := 64) r (by omega)) c2; exact r); rw [xc1, xc2] <;> rfl)
