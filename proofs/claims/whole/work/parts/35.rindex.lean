theorem TS_x {h : List qx_E} {b n : Nat} {B : Nat → Nat} {S : rS} {fp : Int32} {a : Nat → Nat → Int32} (hT : TS h b B n S fp a) : ∃ s, tb h b s a ∧ tw s a ∧ tM s n S ∧ s 0 = fp ∧ (∀ T, PR B T a → PG B n T → QF B n T s a) := by
  obtain ⟨s, hb, hc, hO, hn, h0, h1, hm⟩ := hT
  exact ⟨s, hb, TS_tw hc hn h1 hm, hm, h0, fun T h2 h3 => ⟨hO, hn, h1, h2, h3⟩⟩
def RG (h : List qx_E) (b g : Nat) : Prop := (g < b ∨ b + 10 < g) ∧ h[g]? = some (.inr (4, [.ref b, .ref (b + 1), .ref (b + 2)]))
theorem RG_fr {h h' : List qx_E} {b g : Nat} (hg : RG h b g) (hf : fr b h h') : RG h' b g := ⟨hg.1, (hf.2 g hg.1).trans hg.2⟩
def PL (B : Nat → Nat) (n : Nat) (T : Nat → Nat) (a : Nat → Nat → Int32) : Prop := PR B T a ∧ PG B n T ∧ SH B T a
theorem bx_0 {x : Int32} {c : Bool} (e : x = bI c) (h : x = 0) : c = false := bI_0.mp (e ▸ h)
theorem bx_1 {x : Int32} {c : Bool} (e : x = bI c) (h : ¬ x = 0) : c = true := by
  cases c
  · exact absurd e h
  · rfl
theorem iv2_lt {h : List qx_E} {b n : Nat} {B : Nat → Nat} {S S' : rS} {fp : Int32} {a : Nat → Nat → Int32} (hT : TS h b B n S fp a) : rs_iv B n 2 S' < 65536 := rs_iv2 (TS_B hT)
theorem nI0 {x : Nat} (hx : x < 2 ^ 31) : nI x = 0 ↔ x = 0 := nI_eq (b := 0) hx (by decide)
/-- reads an index -/
def rs_ix (B : Nat → Nat) (n : Nat) (T : Nat → Nat) (t : Nat) (mz : Bool) (S : rS) : rS := rs_w ((mz && rs_iv B n 2 S == 0) || tg B T (rs_iv B n 2 S) == t) 5 (rs_p S) (rs_is n 2 S)
theorem sd_ix {B : Nat → Nat} {n : Nat} {T : Nat → Nat} {t : Nat} {mz : Bool} {S S' : rS} (e : rs_ix B n T t mz S = S') (h : snd S') : snd S := sd_is rfl (sd_w e h)
set_option maxRecDepth 100000 in
theorem c_ixK {L : Nat} {xs : Nat → Int32} {d b n g : Nat} {B T : Nat → Nat} {fp : Int32} {S0 : rS} {h : List qx_E} {a : Nat → Nat → Int32} {Q : Option Value → List qx_E → Prop} {t : Nat} {tI : Int32} {mz : Bool} (hT : TS h b B n S0 fp a) (hR : snd S0 → PL B n T a) (hg : RG h b g) (ht : snd S0 → ∀ s i, i < 65536 → QF B n T s a → f_names s a (nI i) tI = bI (tg B T i == t)) (hK : ∀ h', TS h' b B n (rs_ix B n T t mz S0) fp a → fr b h h' → Q (some (.int (nI (rs_iv B n 2 S0)))) h') : wp_W L xs (d + 2) 70 0 (lv_args 0 [.ref g, .int tI, .int (bI mz)]) [] h Q := by
  have hi9 : rs_iv B n 2 S0 < 65536 := iv2_lt hT
  show wp_W L xs _ 70 0 [(0, .ref g), (1, .int tI), (2, .int (bI mz))] [] h _
  obtain ⟨s0, hb, hw, hm0, h00, hq0⟩ := TS_x hT
  have hf : fr b h h := fr_rf
  refine wp_aload_n dq_70_0 rfl ?_
  refine wp_getf dq_70_1 fl_70_26 hg.2 rfl ?_
  refine wp_getf dq_70_4 fl_70_52 (tb_c2 hb) rfl ?_
  refine wp_istore_n (lv' := [(0, .ref g), (1, .int tI), (2, .int (bI mz)), (3, .int (s0 2))]) dq_70_7 (by decide) rfl ?_
  refine wp_aload_n dq_70_8 rfl ?_
  refine wp_getf dq_70_9 fl_70_26 hg.2 rfl ?_
  refine wp_iconst (x := 2) dq_70_12 rfl ?_
  refine wp_cv1 dq_70_13 mt_70_27 (ob_of (tb_c2 hb)) ⟨by decide +kernel, by decide +kernel⟩ (Nat.le_of_ble_eq_true rfl) (Nat.le_of_ble_eq_true rfl) (c_itemT (k := 2) hT (by decide)) (fun v9 h9 q9 => ?_)
  obtain ⟨rfl, hT, hf9⟩ := q9
  have hg := RG_fr hg hf9
  have hf := fr_tr hf hf9
  clear hf9
  generalize hS1 : rs_is n 2 S0 = S1 at hT
  obtain ⟨s1, hb, hw, hm1, h01, hq1⟩ := TS_x hT
  refine wp_l2i dq_70_16 ?_
  rw [lN_i]
  refine wp_istore (lv' := [(0, .ref g), (1, .int tI), (2, .int (bI mz)), (3, .int (s0 2)), (4, .int (nI (rs_iv B n 2 S0)))]) dq_70_17 (by decide) rfl ?_
  refine wp_aload_n dq_70_19 rfl ?_
  refine wp_getf dq_70_20 fl_70_26 hg.2 rfl ?_
  have hj23 : ∀ z9 : Int32, (snd S1 → z9 = bI (((mz && rs_iv B n 2 S0 == 0) || tg B T (rs_iv B n 2 S0) == t))) → wp_W L xs (d + 2) 70 50 [(0, .ref g), (1, .int tI), (2, .int (bI mz)), (3, .int (s0 2)), (4, .int (nI (rs_iv B n 2 S0)))] (.int z9 :: .ref (b + 2) :: []) h9 Q := by
    intro z9 hz9
    refine wp_iconst (x := 5) dq_70_50 rfl ?_
    refine wp_iload_n dq_70_51 rfl ?_
    refine wp_cv3 dq_70_52 mt_70_35 (ob_of (tb_c2 hb)) ⟨by decide +kernel, by decide +kernel⟩ (Nat.le_of_ble_eq_true rfl) (Nat.le_of_ble_eq_true rfl) (c_wantB (c := ((mz && rs_iv B n 2 S0 == 0) || tg B T (rs_iv B n 2 S0) == t)) (f := 5) (p := (rs_p S0)) hT (by decide) (fun hq => hz9 hq) (fun hq => TS_p hm0 (sd_is hS1 hq))) (fun v9 h9 q9 => ?_)
    obtain ⟨rfl, hT, hf9⟩ := q9
    have hg := RG_fr hg hf9
    have hf := fr_tr hf hf9
    clear hf9
    generalize hS2 : rs_w ((mz && rs_iv B n 2 S0 == 0) || tg B T (rs_iv B n 2 S0) == t) 5 (rs_p S0) S1 = S2 at hT
    obtain ⟨s2, hb, hw, hm2, h02, hq2⟩ := TS_x hT
    refine wp_iload dq_70_55 rfl ?_
    exact wp_ire dq_70_57 rfl ⟨rfl, Or.inl rfl⟩ (hK h9 (by rw [rs_ix, hS1, hS2]; exact hT) hf)
  refine wp_iload_n dq_70_23 rfl ?_
  refine wp_if_eq (tgt := 32) dq_70_24 rfl (fun c1 => ?_) (fun c1 => ?_)
  · refine wp_aload_n dq_70_32 rfl ?_
    refine wp_getf dq_70_33 fl_70_21 hg.2 rfl ?_
    refine wp_iload dq_70_36 rfl ?_
    refine wp_iload_n dq_70_38 rfl ?_
    refine wp_cve2 dq_70_39 mt_70_91 (ob_of (tb_c1 hb)) ⟨by decide +kernel, by decide +kernel⟩ (Nat.le_of_ble_eq_true rfl) (Nat.le_of_ble_eq_true rfl) (c_names hb) ?_
    refine wp_if_eq (tgt := 49) dq_70_42 rfl (fun c2 => ?_) (fun c2 => ?_)
    · refine wp_iconst (x := 0) dq_70_49 rfl ?_
      exact hj23 _ (fun hq => by have hQ := (hq1 _ (hR (sd_is hS1 hq)).1 (hR (sd_is hS1 hq)).2.1); have xc1 : mz = false := bx_0 (rfl) c1; have xc2 : (tg B T (rs_iv B n 2 S0) == t) = false := bx_0 (ht (sd_is hS1 hq) _ _ hi9 hQ) c2; rw [xc1, xc2] <;> rfl)
    · refine wp_iconst (x := 1) dq_70_45 rfl ?_
      refine wp_goto (tgt := 50) dq_70_46 rfl ?_
      exact hj23 _ (fun hq => by have hQ := (hq1 _ (hR (sd_is hS1 hq)).1 (hR (sd_is hS1 hq)).2.1); have xc1 : mz = false := bx_0 (rfl) c1; have xc2 : (tg B T (rs_iv B n 2 S0) == t) = true := bx_1 (ht (sd_is hS1 hq) _ _ hi9 hQ) c2; rw [xc1, xc2] <;> rfl)
  · refine wp_iload dq_70_27 rfl ?_
    refine wp_if_eq (tgt := 45) dq_70_29 rfl (fun c3 => ?_) (fun c3 => ?_)
    · refine wp_iconst (x := 1) dq_70_45 rfl ?_
      refine wp_goto (tgt := 50) dq_70_46 rfl ?_
      exact hj23 _ (fun hq => by have hQ := (hq1 _ (hR (sd_is hS1 hq)).1 (hR (sd_is hS1 hq)).2.1); have xc1 : mz = true := bx_1 (rfl) c1; have xc3 : (rs_iv B n 2 S0 == 0) = true := beq_iff_eq.mpr ((nI0 (by omega)).mp c3); rw [xc1, xc3] <;> rfl)
    · refine wp_aload_n dq_70_32 rfl ?_
      refine wp_getf dq_70_33 fl_70_21 hg.2 rfl ?_
      refine wp_iload dq_70_36 rfl ?_
      refine wp_iload_n dq_70_38 rfl ?_
      refine wp_cve2 dq_70_39 mt_70_91 (ob_of (tb_c1 hb)) ⟨by decide +kernel, by decide +kernel⟩ (Nat.le_of_ble_eq_true rfl) (Nat.le_of_ble_eq_true rfl) (c_names hb) ?_
      refine wp_if_eq (tgt := 49) dq_70_42 rfl (fun c4 => ?_) (fun c4 => ?_)
      · refine wp_iconst (x := 0) dq_70_49 rfl ?_
        exact hj23 _ (fun hq => by have hQ := (hq1 _ (hR (sd_is hS1 hq)).1 (hR (sd_is hS1 hq)).2.1); have xc1 : mz = true := bx_1 (rfl) c1; have xc3 : (rs_iv B n 2 S0 == 0) = false := beq_eq_false_iff_ne.mpr (fun r => c3 ((nI0 (by omega)).mpr r)); have xc4 : (tg B T (rs_iv B n 2 S0) == t) = false := bx_0 (ht (sd_is hS1 hq) _ _ hi9 hQ) c4; rw [xc1, xc3, xc4] <;> rfl)
      · refine wp_iconst (x := 1) dq_70_45 rfl ?_
        refine wp_goto (tgt := 50) dq_70_46 rfl ?_
        exact hj23 _ (fun hq => by have hQ := (hq1 _ (hR (sd_is hS1 hq)).1 (hR (sd_is hS1 hq)).2.1); have xc1 : mz = true := bx_1 (rfl) c1; have xc3 : (rs_iv B n 2 S0 == 0) = false := beq_eq_false_iff_ne.mpr (fun r => c3 ((nI0 (by omega)).mpr r)); have xc4 : (tg B T (rs_iv B n 2 S0) == t) = true := bx_1 (ht (sd_is hS1 hq) _ _ hi9 hQ) c4; rw [xc1, xc3, xc4] <;> rfl)
theorem c_ix {L : Nat} {xs : Nat → Int32} {d b n g : Nat} {B T : Nat → Nat} {fp : Int32} {S0 : rS} {h : List qx_E} {a : Nat → Nat → Int32} {t : Nat} {tI : Int32} {mz : Bool} (hT : TS h b B n S0 fp a) (hR : snd S0 → PL B n T a) (hg : RG h b g) (ht : snd S0 → ∀ s i, i < 65536 → QF B n T s a → f_names s a (nI i) tI = bI (tg B T i == t)) : wp_W L xs (d + 2) 70 0 (lv_args 0 [.ref g, .int tI, .int (bI mz)]) [] h (fun v h' => v = some (.int (nI (rs_iv B n 2 S0))) ∧ TS h' b B n (rs_ix B n T t mz S0) fp a ∧ fr b h h') := c_ixK hT hR hg ht (fun h' h1 h2 => ⟨rfl, h1, h2⟩)
def rs_nc (B : Nat → Nat) (n : Nat) (T : Nat → Nat) (mz : Bool) (S : rS) : rS := rs_w ((mz && rs_iv B n 2 S == 0) || (tg B T (cT B T (rs_iv B n 2 S)) == 1 && k_cn B T (cT B T (rs_iv B n 2 S)))) 7 (rs_p S) (rs_ix B n T 7 mz S)
theorem sd_nc {B : Nat → Nat} {n : Nat} {T : Nat → Nat} {mz : Bool} {S S' : rS} (e : rs_nc B n T mz S = S') (h : snd S') : snd S := sd_ix rfl (sd_w e h)
set_option maxRecDepth 100000 in
theorem c_ncK {L : Nat} {xs : Nat → Int32} {d b n g : Nat} {B T : Nat → Nat} {fp : Int32} {S0 : rS} {h : List qx_E} {a : Nat → Nat → Int32} {Q : Option Value → List qx_E → Prop} {mz : Bool} (hT : TS h b B n S0 fp a) (hR : snd S0 → PL B n T a) (hg : RG h b g) (hK : ∀ h', TS h' b B n (rs_nc B n T mz S0) fp a → fr b h h' → Q none h') : wp_W L xs (d + 4) 69 0 (lv_args 0 [.ref g, .int (bI mz)]) [] h Q := by
  have hi9 : rs_iv B n 2 S0 < 65536 := iv2_lt hT
  show wp_W L xs _ 69 0 [(0, .ref g), (1, .int (bI mz))] [] h _
  obtain ⟨s0, hb, hw, hm0, h00, hq0⟩ := TS_x hT
  have hf : fr b h h := fr_rf
  refine wp_aload_n dq_69_0 rfl ?_
  refine wp_getf dq_69_1 fl_69_26 hg.2 rfl ?_
  refine wp_getf dq_69_4 fl_69_52 (tb_c2 hb) rfl ?_
  refine wp_istore_n (lv' := [(0, .ref g), (1, .int (bI mz)), (2, .int (s0 2))]) dq_69_7 (by decide) rfl ?_
  refine wp_aload_n dq_69_8 rfl ?_
  refine wp_bipush (x := 7) dq_69_9 rfl ?_
  refine wp_iload_n dq_69_11 rfl ?_
  refine wp_cv2 dq_69_12 mt_69_84 (ob_of hg.2) ⟨by decide +kernel, by decide +kernel⟩ (Nat.le_of_ble_eq_true rfl) (Nat.le_of_ble_eq_true rfl) (c_ix (t := 7) (mz := mz) hT (fun hq => hR hq) hg (fun _ s i hi hQ => q_names hQ hi (t := 7) (by decide) (by decide))) (fun v9 h9 q9 => ?_)
  obtain ⟨rfl, hT, hf9⟩ := q9
  have hg := RG_fr hg hf9
  have hf := fr_tr hf hf9
  clear hf9
  generalize hS1 : rs_ix B n T 7 mz S0 = S1 at hT
  obtain ⟨s1, hb, hw, hm1, h01, hq1⟩ := TS_x hT
  refine wp_istore_n (lv' := [(0, .ref g), (1, .int (bI mz)), (2, .int (s0 2)), (3, .int (nI (rs_iv B n 2 S0)))]) dq_69_15 (by decide) rfl ?_
  refine wp_aload_n dq_69_16 rfl ?_
  refine wp_getf dq_69_17 fl_69_26 hg.2 rfl ?_
  have hj20 : ∀ z9 : Int32, (snd S1 → z9 = bI (((mz && rs_iv B n 2 S0 == 0) || (tg B T (cT B T (rs_iv B n 2 S0)) == 1 && k_cn B T (cT B T (rs_iv B n 2 S0)))))) → wp_W L xs (d + 4) 69 44 [(0, .ref g), (1, .int (bI mz)), (2, .int (s0 2)), (3, .int (nI (rs_iv B n 2 S0)))] (.int z9 :: .ref (b + 2) :: []) h9 Q := by
    intro z9 hz9
    refine wp_bipush (x := 7) dq_69_44 rfl ?_
    refine wp_iload_n dq_69_46 rfl ?_
    refine wp_cv3 dq_69_47 mt_69_35 (ob_of (tb_c2 hb)) ⟨by decide +kernel, by decide +kernel⟩ (Nat.le_of_ble_eq_true rfl) (Nat.le_of_ble_eq_true rfl) (c_wantB (c := ((mz && rs_iv B n 2 S0 == 0) || (tg B T (cT B T (rs_iv B n 2 S0)) == 1 && k_cn B T (cT B T (rs_iv B n 2 S0))))) (f := 7) (p := (rs_p S0)) hT (by decide) (fun hq => hz9 hq) (fun hq => TS_p hm0 (sd_ix hS1 hq))) (fun v9 h9 q9 => ?_)
    obtain ⟨rfl, hT, hf9⟩ := q9
    have hg := RG_fr hg hf9
    have hf := fr_tr hf hf9
    clear hf9
    generalize hS2 : rs_w ((mz && rs_iv B n 2 S0 == 0) || (tg B T (cT B T (rs_iv B n 2 S0)) == 1 && k_cn B T (cT B T (rs_iv B n 2 S0)))) 7 (rs_p S0) S1 = S2 at hT
    obtain ⟨s2, hb, hw, hm2, h02, hq2⟩ := TS_x hT
    exact wp_vre dq_69_50 rfl (hK h9 (by rw [rs_nc, hS1, hS2]; exact hT) hf)
  refine wp_iload_n dq_69_20 rfl ?_
  refine wp_if_eq (tgt := 28) dq_69_21 rfl (fun c1 => ?_) (fun c1 => ?_)
  · refine wp_aload_n dq_69_28 rfl ?_
    refine wp_getf dq_69_29 fl_69_21 hg.2 rfl ?_
    refine wp_iload_n dq_69_32 rfl ?_
    refine wp_cve1 dq_69_33 mt_69_88 (ob_of (tb_c1 hb)) ⟨by decide +kernel, by decide +kernel⟩ (Nat.le_of_ble_eq_true rfl) (Nat.le_of_ble_eq_true rfl) (c_isNamedClass hb hw) ?_
    refine wp_if_eq (tgt := 43) dq_69_36 rfl (fun c2 => ?_) (fun c2 => ?_)
    · refine wp_iconst (x := 0) dq_69_43 rfl ?_
      exact hj20 _ (fun hq => by have hQ := (hq1 _ (hR (sd_ix hS1 hq)).1 (hR (sd_ix hS1 hq)).2.1); have xc1 : mz = false := bx_0 (rfl) c1; have xc2 : (tg B T (cT B T (rs_iv B n 2 S0)) == 1 && k_cn B T (cT B T (rs_iv B n 2 S0))) = false := bx_0 (q_named hQ (hR (sd_ix hS1 hq)).2.2 hi9) c2; rw [xc1, xc2] <;> rfl)
    · refine wp_iconst (x := 1) dq_69_39 rfl ?_
      refine wp_goto (tgt := 44) dq_69_40 rfl ?_
      exact hj20 _ (fun hq => by have hQ := (hq1 _ (hR (sd_ix hS1 hq)).1 (hR (sd_ix hS1 hq)).2.1); have xc1 : mz = false := bx_0 (rfl) c1; have xc2 : (tg B T (cT B T (rs_iv B n 2 S0)) == 1 && k_cn B T (cT B T (rs_iv B n 2 S0))) = true := bx_1 (q_named hQ (hR (sd_ix hS1 hq)).2.2 hi9) c2; rw [xc1, xc2] <;> rfl)
  · refine wp_iload_n dq_69_24 rfl ?_
    refine wp_if_eq (tgt := 39) dq_69_25 rfl (fun c3 => ?_) (fun c3 => ?_)
    · refine wp_iconst (x := 1) dq_69_39 rfl ?_
      refine wp_goto (tgt := 44) dq_69_40 rfl ?_
      exact hj20 _ (fun hq => by have hQ := (hq1 _ (hR (sd_ix hS1 hq)).1 (hR (sd_ix hS1 hq)).2.1); have xc1 : mz = true := bx_1 (rfl) c1; have xc3 : (rs_iv B n 2 S0 == 0) = true := beq_iff_eq.mpr ((nI0 (by omega)).mp c3); rw [xc1, xc3] <;> rfl)
    · refine wp_aload_n dq_69_28 rfl ?_
      refine wp_getf dq_69_29 fl_69_21 hg.2 rfl ?_
      refine wp_iload_n dq_69_32 rfl ?_
      refine wp_cve1 dq_69_33 mt_69_88 (ob_of (tb_c1 hb)) ⟨by decide +kernel, by decide +kernel⟩ (Nat.le_of_ble_eq_true rfl) (Nat.le_of_ble_eq_true rfl) (c_isNamedClass hb hw) ?_
      refine wp_if_eq (tgt := 43) dq_69_36 rfl (fun c4 => ?_) (fun c4 => ?_)
      · refine wp_iconst (x := 0) dq_69_43 rfl ?_
        exact hj20 _ (fun hq => by have hQ := (hq1 _ (hR (sd_ix hS1 hq)).1 (hR (sd_ix hS1 hq)).2.1); have xc1 : mz = true := bx_1 (rfl) c1; have xc3 : (rs_iv B n 2 S0 == 0) = false := beq_eq_false_iff_ne.mpr (fun r => c3 ((nI0 (by omega)).mpr r)); have xc4 : (tg B T (cT B T (rs_iv B n 2 S0)) == 1 && k_cn B T (cT B T (rs_iv B n 2 S0))) = false := bx_0 (q_named hQ (hR (sd_ix hS1 hq)).2.2 hi9) c4; rw [xc1, xc3, xc4] <;> rfl)
      · refine wp_iconst (x := 1) dq_69_39 rfl ?_
        refine wp_goto (tgt := 44) dq_69_40 rfl ?_
        exact hj20 _ (fun hq => by have hQ := (hq1 _ (hR (sd_ix hS1 hq)).1 (hR (sd_ix hS1 hq)).2.1); have xc1 : mz = true := bx_1 (rfl) c1; have xc3 : (rs_iv B n 2 S0 == 0) = false := beq_eq_false_iff_ne.mpr (fun r => c3 ((nI0 (by omega)).mpr r)); have xc4 : (tg B T (cT B T (rs_iv B n 2 S0)) == 1 && k_cn B T (cT B T (rs_iv B n 2 S0))) = true := bx_1 (q_named hQ (hR (sd_ix hS1 hq)).2.2 hi9) c4; rw [xc1, xc3, xc4] <;> rfl)
theorem c_nc {L : Nat} {xs : Nat → Int32} {d b n g : Nat} {B T : Nat → Nat} {fp : Int32} {S0 : rS} {h : List qx_E} {a : Nat → Nat → Int32} {mz : Bool} (hT : TS h b B n S0 fp a) (hR : snd S0 → PL B n T a) (hg : RG h b g) : wp_W L xs (d + 4) 69 0 (lv_args 0 [.ref g, .int (bI mz)]) [] h (fun v h' => v = none ∧ TS h' b B n (rs_nc B n T mz S0) fp a ∧ fr b h h') := c_ncK hT hR hg (fun h' h1 h2 => ⟨rfl, h1, h2⟩)
