theorem q_num {B : Nat → Nat} {n : Nat} {T : Nat → Nat} {s : Nat → Int32} {a : Nat → Nat → Int32} (hQ : QF B n T s a) {p : Nat} (hp : p + 4 ≤ n) : f_numberAt s a (nI p) 4 = lN (bu_U B p 4) := num_U (k := 4) hQ.1 hQ.2.1 hQ.2.2.1 (by decide) hp
theorem QF_U4 {B : Nat → Nat} {n : Nat} {T : Nat → Nat} {s : Nat → Int32} {a : Nat → Nat → Int32} (hQ : QF B n T s a) {p : Nat} (hp : p + 4 ≤ n) : bu_U B p 4 < 4294967296 := bu_lt (k := 4) (fun j hj => QF_B hQ (by omega))
/-- the tag of a constant -/
def ck (B T : Nat → Nat) (i : Nat) : Nat := if tx B T i = wd 16 then 8 else if tl B T i = 1 then (if B (T i + 3) = 70 then 4 else if B (T i + 3) = 74 then 5 else if B (T i + 3) = 68 then 6 else 3) else 99
theorem ft_1 {B : Nat → Nat} {p : Nat} (h : gm_ft B p (p + 1) = some (p + 1)) : gm_prim (B p) = true := by
  have h91 : B p ≠ 91 := by
    intro e
    have h1 : gm_br B p (p + 1) = p + 1 := by
      unfold gm_br
      rw [Nat.add_sub_cancel_left]
      show (if (B p == 91) = true then p + 1 else p) = p + 1
      rw [if_pos (by rw [e]; rfl)]
    unfold gm_ft at h
    rw [h1, if_pos (Nat.le_refl _)] at h
    cases h
  have h1 : gm_br B p (p + 1) = p := by
    unfold gm_br
    rw [Nat.add_sub_cancel_left]
    show (if (B p == 91) = true then p + 1 else p) = p
    rw [if_neg (fun r => h91 (beq_iff_eq.mp r))]
  unfold gm_ft at h
  rw [h1, if_neg (by omega), if_pos (by omega)] at h
  split at h
  · have h2 : gm_cl B (p + 1) (p + 1) = p + 1 := by
      unfold gm_cl
      rw [Nat.sub_self]
      rfl
    rw [h2, if_pos (Nat.le_refl _)] at h
    cases h
  · split at h
    · assumption
    · cases h
theorem pr_c (c : Nat) (h : gm_prim c = true) : c = 66 ∨ c = 67 ∨ c = 68 ∨ c = 70 ∨ c = 73 ∨ c = 74 ∨ c = 83 ∨ c = 90 := by
  unfold gm_prim at h
  simp only [Bool.or_eq_true, beq_iff_eq] at h
  omega
theorem q_ctag {B : Nat → Nat} {n : Nat} {T : Nat → Nat} {s : Nat → Int32} {a : Nat → Nat → Int32} (hQ : QF B n T s a) {i : Nat} (hi : i < 65536) (ht : tg B T i = 1) (hf : k_ft B T i = true) : f_constantTag s a (nI i) = if ck B T i = 99 then -1 else nI (ck B T i) := by
  obtain ⟨a1, a2, a3, a4, a5⟩ := tx_in hQ.2.2.2.2 ht
  have hn := QF_n hQ
  unfold f_constantTag ck
  rw [q_spells hQ hi (by decide)]
  by_cases c1 : tx B T i = wd 16
  · rw [decide_eq_true (⟨ht, c1⟩ : tg B T i = 1 ∧ _), if_neg (show ¬ bI true = 0 by decide), if_pos c1]
    rfl
  · rw [decide_eq_false (fun r => c1 r.2 : ¬ (tg B T i = 1 ∧ _)), if_pos (show bI false = 0 from rfl), if_neg c1, if_neg (fun r => (nm_1 hQ hi).mp r ht), nI_clamp (by omega), QF_ln hQ ht]
    by_cases c2 : tl B T i = 1
    · have hc : f_characterOf s a (nI i) 0 = nI (B (T i + 3)) := by
        unfold f_characterOf
        rw [if_neg (fun r => (nm_1 hQ hi).mp r ht), if_neg (by decide), nI_clamp (by omega), QF_ln hQ ht, c2, if_pos (by decide), QF_pl hQ a2 a3, show (3 : Int32) = nI 3 from rfl, nI_add, show nI (T i + 3) + 0 = nI (T i + 3) from nI_add (T i + 3) 0, QF_u1 hQ (by omega)]
      have hp := ft_1 (B := B) (p := T i + 3) (by have h1 := of_decide_eq_true hf; unfold te at h1; rw [c2] at h1; exact h1)
      rw [hc, c2, if_pos (show nI 1 = 1 from rfl), if_pos (rfl : (1 : Nat) = 1)]
      rcases pr_c _ hp with e | e | e | e | e | e | e | e <;> rw [e] <;> decide
    · rw [if_neg (show ¬ nI (tl B T i) = 1 from fun r => c2 ((nI_eq (b := 1) (by omega) (by decide)).mp r)), if_neg c2]
      rfl
theorem ck_in {B T : Nat → Nat} {i : Nat} : ck B T i = 99 ∨ (0 < ck B T i ∧ ck B T i < 13) := by
  unfold ck
  repeat' split
  all_goals first | exact Or.inl rfl | exact Or.inr ⟨by decide, by decide⟩
theorem q_ck {B : Nat → Nat} {n : Nat} {T : Nat → Nat} {s : Nat → Int32} {a : Nat → Nat → Int32} (hQ : QF B n T s a) {i j : Nat} (hi : i < 65536) : f_names s a (nI i) (if ck B T j = 99 then -1 else nI (ck B T j)) = bI (tg B T i == ck B T j) := by
  by_cases h : ck B T j = 99
  · have h12 := PG_tg hQ.2.2.2.2 i
    rw [if_pos h, q_nameN hQ hi, h, beq_eq_false_iff_ne.mpr (by omega)]
    rfl
  · rw [if_neg h]
    rcases ck_in (B := B) (T := T) (i := j) with r | r
    · exact absurd r h
    · exact q_names hQ hi r.1 (by omega)
def rs_wl (B : Nat → Nat) (q : Nat) (S : rS) : rS := rs_w (bu_U B (rs_p S - 4) 4 == q) 10 (rs_p S - 4) S
theorem sd_wl {B : Nat → Nat} {q : Nat} {S S' : rS} (e : rs_wl B q S = S') (h : snd S') : snd S := sd_w e h
theorem wl_n {B : Nat → Nat} {n : Nat} {T : Nat → Nat} {s : Nat → Int32} {a : Nat → Nat → Int32} {S : rS} (hQ : QF B n T s a) (hm : tM s n S) (hq : snd S) (h4 : 4 ≤ rs_p S) : s 2 - 4 = nI (rs_p S - 4) ∧ f_numberAt s a (s 2 - 4) 4 = lN (bu_U B (rs_p S - 4) 4) ∧ bu_U B (rs_p S - 4) 4 < 4294967296 := by
  have hp := TS_pn hm
  have e1 : s 2 - 4 = nI (rs_p S - 4) := by rw [TS_p hm hq, show (4 : Int32) = nI 4 from rfl, pk_sub h4]
  rw [e1]
  exact ⟨rfl, q_num hQ (by omega), QF_U4 hQ (by omega)⟩
set_option maxRecDepth 100000 in
theorem c_wlK {L : Nat} {xs : Nat → Int32} {d b n g : Nat} {B T : Nat → Nat} {fp : Int32} {S0 : rS} {h : List qx_E} {a : Nat → Nat → Int32} {Q : Option Value → List qx_E → Prop} {q : Nat} (hT : TS h b B n S0 fp a) (hR : snd S0 → PL B n T a) (hg : RG h b g) (h4 : snd S0 → 4 ≤ rs_p S0) (hq9 : q < 100) (hK : ∀ h', TS h' b B n (rs_wl B q S0) fp a → fr b h h' → Q none h') : wp_W L xs (d + 3) 99 0 (lv_args 0 [.ref g, .long (lN q)]) [] h Q := by
  show wp_W L xs _ 99 0 [(0, .ref g), (1, .long (lN q))] [] h _
  obtain ⟨s0, hb, hw, hm0, h00, hq0⟩ := TS_x hT
  have hf : fr b h h := fr_rf
  refine wp_aload_n dq_99_0 rfl ?_
  refine wp_getf dq_99_1 fl_99_26 hg.2 rfl ?_
  refine wp_getf dq_99_4 fl_99_52 (tb_c2 hb) rfl ?_
  refine wp_iconst (x := 4) dq_99_7 rfl ?_
  refine wp_isub dq_99_8 ?_
  refine wp_istore_n (lv' := [(0, .ref g), (1, .long (lN q)), (3, .int ((s0 2) - 4))]) dq_99_9 (by decide) rfl ?_
  refine wp_aload_n dq_99_10 rfl ?_
  refine wp_getf dq_99_11 fl_99_26 hg.2 rfl ?_
  have hj14 : ∀ z9 : Int32, (snd S0 → z9 = bI ((bu_U B (rs_p S0 - 4) 4 == q))) → wp_W L xs (d + 3) 99 33 [(0, .ref g), (1, .long (lN q)), (3, .int ((s0 2) - 4))] (.int z9 :: .ref (b + 2) :: []) h Q := by
    intro z9 hz9
    refine wp_bipush (x := 10) dq_99_33 rfl ?_
    refine wp_iload_n dq_99_35 rfl ?_
    refine wp_cv3 dq_99_36 mt_99_35 (ob_of (tb_c2 hb)) ⟨by decide +kernel, by decide +kernel⟩ (Nat.le_of_ble_eq_true rfl) (Nat.le_of_ble_eq_true rfl) (c_wantB (c := (bu_U B (rs_p S0 - 4) 4 == q)) (f := 10) (p := (rs_p S0 - 4)) hT (by decide) (fun hq => hz9 hq) (fun hq => (wl_n (hq0 _ (hR hq).1 (hR hq).2.1) hm0 hq (h4 hq)).1)) (fun v9 h9 q9 => ?_)
    obtain ⟨rfl, hT, hf9⟩ := q9
    have hg := RG_fr hg hf9
    have hf := fr_tr hf hf9
    clear hf9
    generalize hS1 : rs_w (bu_U B (rs_p S0 - 4) 4 == q) 10 (rs_p S0 - 4) S0 = S1 at hT
    obtain ⟨s1, hb, hw, hm1, h01, hq1⟩ := TS_x hT
    exact wp_vre dq_99_39 rfl (hK h9 (by rw [rs_wl, hS1]; exact hT) hf)
  refine wp_aload_n dq_99_14 rfl ?_
  refine wp_getf dq_99_15 fl_99_26 hg.2 rfl ?_
  refine wp_iload_n dq_99_18 rfl ?_
  refine wp_iconst (x := 4) dq_99_19 rfl ?_
  refine wp_cve2 dq_99_20 mt_99_202 (ob_of (tb_c2 hb)) ⟨by decide +kernel, by decide +kernel⟩ (Nat.le_of_ble_eq_true rfl) (Nat.le_of_ble_eq_true rfl) (c_numAt 4 rfl (by decide) hb hw) ?_
  refine wp_lload_n dq_99_23 rfl ?_
  refine wp_lcmp dq_99_24 ?_
  refine wp_if_ne (tgt := 32) dq_99_25 rfl (fun c1 => ?_) (fun c1 => ?_)
  · refine wp_iconst (x := 0) dq_99_32 rfl ?_
    exact hj14 _ (fun hq => by have hQ := (hq0 _ (hR hq).1 (hR hq).2.1); have xc1 : (bu_U B (rs_p S0 - 4) 4 == q) = false := beq_eq_false_iff_ne.mpr (fun r => c1 (by rw [(wl_n hQ hm0 hq (h4 hq)).2.1, r]; exact (lc_eq (by omega) (by omega)).mpr rfl)); rw [xc1] <;> rfl)
  · refine wp_iconst (x := 1) dq_99_28 rfl ?_
    refine wp_goto (tgt := 33) dq_99_29 rfl ?_
    exact hj14 _ (fun hq => by have hQ := (hq0 _ (hR hq).1 (hR hq).2.1); have xc1 : (bu_U B (rs_p S0 - 4) 4 == q) = true := beq_iff_eq.mpr ((lc_eq (by have := (wl_n hQ hm0 hq (h4 hq)).2.2; omega) (by omega)).mp (by rw [← (wl_n hQ hm0 hq (h4 hq)).2.1]; exact c1)); rw [xc1] <;> rfl)
theorem c_wl {L : Nat} {xs : Nat → Int32} {d b n g : Nat} {B T : Nat → Nat} {fp : Int32} {S0 : rS} {h : List qx_E} {a : Nat → Nat → Int32} {q : Nat} (hT : TS h b B n S0 fp a) (hR : snd S0 → PL B n T a) (hg : RG h b g) (h4 : snd S0 → 4 ≤ rs_p S0) (hq9 : q < 100) : wp_W L xs (d + 3) 99 0 (lv_args 0 [.ref g, .long (lN q)]) [] h (fun v h' => v = none ∧ TS h' b B n (rs_wl B q S0) fp a ∧ fr b h h') := c_wlK hT hR hg h4 hq9 (fun h' h1 h2 => ⟨rfl, h1, h2⟩)
def sg_t (B T : Nat → Nat) (w cty : Nat) : Nat := if w = 3 then ck B T cty else if w = 1 then 1 else 7
def rs_sg (B : Nat → Nat) (n : Nat) (T : Nat → Nat) (w cty : Nat) (S : rS) : rS := if w = 2 then rs_wl B 0 S else rs_ix B n T (sg_t B T w cty) false (rs_wl B 2 S)
theorem sd_sg {B : Nat → Nat} {n : Nat} {T : Nat → Nat} {w cty : Nat} {S S' : rS} (e : rs_sg B n T w cty S = S') (h : snd S') : snd S := by
  unfold rs_sg at e
  split at e
  · exact sd_wl e h
  · exact sd_wl rfl (sd_ix e h)
theorem sg_tq {B : Nat → Nat} {n : Nat} {T : Nat → Nat} {s : Nat → Int32} {a : Nat → Nat → Int32} {w cty i : Nat} (h : w = 1 ∨ w = 2 ∨ w = 3 ∨ w = 8) (h2 : ¬ w = 2) (h3 : ¬ w = 3) (hQ : QF B n T s a) (hi : i < 65536) : f_names s a (nI i) (qx_etg.getD (w - 1) 0) = bI (tg B T i == sg_t B T w cty) := by
  unfold sg_t
  rw [if_neg h3]
  rcases h with e | e | e | e
  · subst e
    exact q_names hQ hi (t := 1) (by decide) (by decide)
  · exact absurd e h2
  · exact absurd e h3
  · subst e
    exact q_names hQ hi (t := 7) (by decide) (by decide)
set_option maxRecDepth 100000 in
theorem c_sgK {L : Nat} {xs : Nat → Int32} {d b n g : Nat} {B T : Nat → Nat} {fp : Int32} {S0 : rS} {h : List qx_E} {a : Nat → Nat → Int32} {w cty : Nat} {x y : Int32} {Q : Option Value → List qx_E → Prop} (hT : TS h b B n S0 fp a) (hR : snd S0 → PL B n T a) (hg : RG h b g) (h4 : snd S0 → 4 ≤ rs_p S0) (he : qx_en w = true) (hw9 : snd S0 → (w = 1 ∨ w = 2 ∨ w = 3 ∨ w = 8) ∧ (w = 3 → ∀ s, QF B n T s a → f_constantTag s a (f_typeOf s a x y) = if ck B T cty = 99 then -1 else nI (ck B T cty))) (hK : ∀ h', TS h' b B n (rs_sg B n T w cty S0) fp a → fr b h h' → Q none h') : wp_W L xs (d + 6) 98 0 (lv_args 0 [.ref g, .int x, .int y, .retAddr w]) [] h Q := by
  show wp_W L xs _ 98 0 [(0, .ref g), (1, .int x), (2, .int y), (3, .retAddr w)] [] h _
  obtain ⟨s0, hb, hw, hm0, h00, hq0⟩ := TS_x hT
  have hf : fr b h h := fr_rf
  refine wp_aload_nK dq_98_0 rfl ?_
  refine wp_gets (v := .retAddr 2) dq_98_1 (by decide +kernel) ?_
  refine wp_acmp_ne (tgt := 13) dq_98_4 he (by decide) rfl (fun c1 => ?_) (fun c1 => ?_)
  · have w2 : ¬ w = 2 := c1
    refine wp_aload_nK dq_98_13 rfl ?_
    refine wp_gets (v := .retAddr 3) dq_98_14 (by decide +kernel) ?_
    refine wp_acmp_ne (tgt := 24) dq_98_17 he (by decide) rfl (fun c2 => ?_) (fun c2 => ?_)
    · have w3 : ¬ w = 3 := c2
      refine wp_iconst (x := 0) dq_98_24 rfl ?_
      refine wp_istore (lv' := [(0, .ref g), (1, .int x), (2, .int y), (3, .retAddr w), (4, .int 0)]) dq_98_25 (by decide) rfl ?_
      refine wp_aload_n dq_98_27 rfl ?_
      refine wp_ldc2 (v := 2) dq_98_28 (by decide +kernel) ?_
      refine wp_cv1 dq_98_31 mt_98_188 (ob_of hg.2) ⟨by decide +kernel, by decide +kernel⟩ (Nat.le_of_ble_eq_true rfl) (Nat.le_of_ble_eq_true rfl) (c_wl (q := 2) hT (fun hq => hR hq) hg (fun hq => h4 hq) (by decide)) (fun v9 h9 q9 => ?_)
      obtain ⟨rfl, hT, hf9⟩ := q9
      have hg := RG_fr hg hf9
      have hf := fr_tr hf hf9
      clear hf9
      generalize hS1 : rs_wl B 2 S0 = S1 at hT
      obtain ⟨s1, hb, hw, hm1, h01, hq1⟩ := TS_x hT
      refine wp_aload_n dq_98_34 rfl ?_
      refine wp_iload dq_98_35 rfl ?_
      refine wp_if_eq (tgt := 59) dq_98_37 rfl (fun _ => ?_) (fun c9 => absurd rfl c9)
      refine wp_aload_nK dq_98_59 rfl ?_
      refine wp_getk dq_98_60 fl_98_199 (ko_e he) rfl ?_
      refine wp_iconst (x := 0) dq_98_63 rfl ?_
      refine wp_cv2 dq_98_64 mt_98_84 (ob_of hg.2) ⟨by decide +kernel, by decide +kernel⟩ (Nat.le_of_ble_eq_true rfl) (Nat.le_of_ble_eq_true rfl) (c_ix (t := (sg_t B T w cty)) (mz := false) hT (fun hq => hR (sd_wl hS1 hq)) hg (fun hq s i hi hQ => sg_tq (hw9 (sd_wl hS1 hq)).1 w2 w3 hQ hi)) (fun v9 h9 q9 => ?_)
      obtain ⟨rfl, hT, hf9⟩ := q9
      have hg := RG_fr hg hf9
      have hf := fr_tr hf hf9
      clear hf9
      generalize hS2 : rs_ix B n T (sg_t B T w cty) false S1 = S2 at hT
      obtain ⟨s2, hb, hw, hm2, h02, hq2⟩ := TS_x hT
      refine wp_pop dq_98_67 rfl ?_
      exact wp_vre dq_98_68 rfl (hK h9 (by rw [rs_sg, if_neg w2, hS1, hS2]; exact hT) hf)
    · have w3 : w = 3 := c2
      refine wp_iconst (x := 1) dq_98_20 rfl ?_
      refine wp_goto (tgt := 25) dq_98_21 rfl ?_
      refine wp_istore (lv' := [(0, .ref g), (1, .int x), (2, .int y), (3, .retAddr w), (4, .int 1)]) dq_98_25 (by decide) rfl ?_
      refine wp_aload_n dq_98_27 rfl ?_
      refine wp_ldc2 (v := 2) dq_98_28 (by decide +kernel) ?_
      refine wp_cv1 dq_98_31 mt_98_188 (ob_of hg.2) ⟨by decide +kernel, by decide +kernel⟩ (Nat.le_of_ble_eq_true rfl) (Nat.le_of_ble_eq_true rfl) (c_wl (q := 2) hT (fun hq => hR hq) hg (fun hq => h4 hq) (by decide)) (fun v9 h9 q9 => ?_)
      obtain ⟨rfl, hT, hf9⟩ := q9
      have hg := RG_fr hg hf9
      have hf := fr_tr hf hf9
      clear hf9
      generalize hS1 : rs_wl B 2 S0 = S1 at hT
      obtain ⟨s1, hb, hw, hm1, h01, hq1⟩ := TS_x hT
      refine wp_aload_n dq_98_34 rfl ?_
      refine wp_iload dq_98_35 rfl ?_
      refine wp_if_eq (tgt := 59) dq_98_37 rfl (fun c9 => absurd c9 (by decide)) (fun _ => ?_)
      refine wp_aload_n dq_98_40 rfl ?_
      refine wp_getf dq_98_41 fl_98_21 hg.2 rfl ?_
      refine wp_aload_n dq_98_44 rfl ?_
      refine wp_getf dq_98_45 fl_98_9 hg.2 rfl ?_
      refine wp_iload_n dq_98_48 rfl ?_
      refine wp_iload_n dq_98_49 rfl ?_
      refine wp_cve2 dq_98_50 mt_98_112 (ob_of (tb_c0 hb)) ⟨by decide +kernel, by decide +kernel⟩ (Nat.le_of_ble_eq_true rfl) (Nat.le_of_ble_eq_true rfl) (c_typeOf hb hw) ?_
      refine wp_cve1 dq_98_53 mt_98_196 (ob_of (tb_c1 hb)) ⟨by decide +kernel, by decide +kernel⟩ (Nat.le_of_ble_eq_true rfl) (Nat.le_of_ble_eq_true rfl) (c_constantTag hb hw) ?_
      refine wp_goto (tgt := 63) dq_98_56 rfl ?_
      refine wp_iconst (x := 0) dq_98_63 rfl ?_
      refine wp_cv2 dq_98_64 mt_98_84 (ob_of hg.2) ⟨by decide +kernel, by decide +kernel⟩ (Nat.le_of_ble_eq_true rfl) (Nat.le_of_ble_eq_true rfl) (c_ix (t := (sg_t B T w cty)) (mz := false) hT (fun hq => hR (sd_wl hS1 hq)) hg (fun hq s i hi hQ => by rw [sg_t, if_pos w3, (hw9 (sd_wl hS1 hq)).2 w3 _ ((hq1 _ (hR (sd_wl hS1 hq)).1 (hR (sd_wl hS1 hq)).2.1))]; exact q_ck hQ hi)) (fun v9 h9 q9 => ?_)
      obtain ⟨rfl, hT, hf9⟩ := q9
      have hg := RG_fr hg hf9
      have hf := fr_tr hf hf9
      clear hf9
      generalize hS2 : rs_ix B n T (sg_t B T w cty) false S1 = S2 at hT
      obtain ⟨s2, hb, hw, hm2, h02, hq2⟩ := TS_x hT
      refine wp_pop dq_98_67 rfl ?_
      exact wp_vre dq_98_68 rfl (hK h9 (by rw [rs_sg, if_neg w2, hS1, hS2]; exact hT) hf)
  · have w2 : w = 2 := c1
    refine wp_aload_n dq_98_7 rfl ?_
    refine wp_lconst (x := 0) dq_98_8 rfl ?_
    refine wp_cv1 dq_98_9 mt_98_188 (ob_of hg.2) ⟨by decide +kernel, by decide +kernel⟩ (Nat.le_of_ble_eq_true rfl) (Nat.le_of_ble_eq_true rfl) (c_wl (q := 0) hT (fun hq => hR hq) hg (fun hq => h4 hq) (by decide)) (fun v9 h9 q9 => ?_)
    obtain ⟨rfl, hT, hf9⟩ := q9
    have hg := RG_fr hg hf9
    have hf := fr_tr hf hf9
    clear hf9
    generalize hS1 : rs_wl B 0 S0 = S1 at hT
    obtain ⟨s1, hb, hw, hm1, h01, hq1⟩ := TS_x hT
    exact wp_vre dq_98_12 rfl (hK h9 (by rw [rs_sg, if_pos w2, hS1]; exact hT) hf)
theorem c_sg {L : Nat} {xs : Nat → Int32} {d b n g : Nat} {B T : Nat → Nat} {fp : Int32} {S0 : rS} {h : List qx_E} {a : Nat → Nat → Int32} {w cty : Nat} {x y : Int32} (hT : TS h b B n S0 fp a) (hR : snd S0 → PL B n T a) (hg : RG h b g) (h4 : snd S0 → 4 ≤ rs_p S0) (he : qx_en w = true) (hw9 : snd S0 → (w = 1 ∨ w = 2 ∨ w = 3 ∨ w = 8) ∧ (w = 3 → ∀ s, QF B n T s a → f_constantTag s a (f_typeOf s a x y) = if ck B T cty = 99 then -1 else nI (ck B T cty))) : wp_W L xs (d + 6) 98 0 (lv_args 0 [.ref g, .int x, .int y, .retAddr w]) [] h (fun v h' => v = none ∧ TS h' b B n (rs_sg B n T w cty S0) fp a ∧ fr b h h') := c_sgK hT hR hg h4 he hw9 (fun h' h1 h2 => ⟨rfl, h1, h2⟩)
