theorem c_rc {L : Nat} {xs : Nat → Int32} {d b n g F : Nat} {B T : Nat → Nat} {fp : Int32} {S0 : rS} {h : List qx_E} {a : Nat → Nat → Int32} {M : rM} (hT : TS h b B n S0 fp a) (hC : snd S0 → RC B n T F fp a M ∧ M.c 2 = 0) (hg : RG h b g) (h4 : snd S0 → 4 ≤ rs_p S0) : wp_W L xs (d + 8) 103 0 (lv_args 0 [.ref g]) [] h (fun v h' => v = none ∧ ∃ a', TS h' b B n (rs_rc B n T S0 M).1 fp a' ∧ fr b h h' ∧ (snd (rs_rc B n T S0 M).1 → RC B n T F fp a' (rs_rc B n T S0 M).2)) := c_rcK hT hC hg h4 (fun h' a' h1 h2 h3 => ⟨rfl, a', h1, h2, h3⟩)
theorem ah_ct {B : Nat → Nat} {n : Nat} {T : Nat → Nat} {kd o q : Nat} {S : rS} {M : rM} (h : ∀ w, 1 ≤ w → w ≤ 9 → ah_w B n T kd S = w → q ≠ 9 * o + (w - 1)) : (mb_ah B n T kd o S M).ct q = M.ct q := by
  unfold mb_ah
  by_cases c : ah_w B n T kd S = 0
  · rw [if_pos c]
  · rw [if_neg c]
    exact updN_n (h _ (by omega) (ah_kw rfl c).2 rfl)
theorem tbL_ct {B : Nat → Nat} {n : Nat} {T : Nat → Nat} {kd o cty q : Nat} (hq : q < 9 * o ∨ 9 * o + 9 ≤ q) : ∀ j S M, (rs_tbL B n T kd o cty j S M).2.ct q = M.ct q
  | 0, _, _ => rfl
  | j + 1, S, M => by
    rw [rs_tbL_s, tbL_ct hq j]
    exact ah_ct (fun w h1 h2 _ => by omega)
theorem rcL_ct {B : Nat → Nat} {n : Nat} {T : Nat → Nat} : ∀ j k S M, j + k ≤ 16 → (rs_rcL B n T j k S M).2.ct 440 = M.ct 440
  | 0, _, _, _, _ => rfl
  | j + 1, k, S, M, h => by
    rw [rs_rcL_s, rcL_ct j (k + 1) _ _ (by omega)]
    exact tbL_ct (by omega) _ _ _
theorem rc_ct {B : Nat → Nat} {n : Nat} {T : Nat → Nat} {S : rS} {M : rM} (h : snd (rs_rc B n T S M).1) : (rs_rc B n T S M).2.ct 440 = M.ct 440 ∧ snd S := by
  have h1 : snd (rs_rc4 B n T S M).1 := sd_w rfl h
  have h2 := (sp_rcL h1).2
  exact ⟨rcL_ct _ _ _ _ (by have := of_decide_eq_true (sd_wc rfl h2).1; omega), (rc4_s h1).1⟩
def rs_f1 (B : Nat → Nat) (n : Nat) (T : Nat → Nat) (S : rS) (M : rM) : rS × rM := if ah_w B n T 3 S = 9 then rs_rc B n T (rs_ah B n T 3 (16 * 3 + 0) M S) (mb_ah B n T 3 (16 * 3 + 0) S M) else (rs_at1 B n T 3 (16 * 3 + 0) 0 M S, mb_ah B n T 3 (16 * 3 + 0) S M)
theorem f1_e {B : Nat → Nat} {n : Nat} {T : Nat → Nat} {S : rS} {M : rM} {e : Nat × Nat} (h : rs_ah B n T 3 (16 * 3 + 0) M S = .inr e) : (rs_f1 B n T S M).1 = .inr e := by
  unfold rs_f1
  split
  · rw [h]
    exact rs_rc_e ..
  · exact at1_e h
def rs_fL (B : Nat → Nat) (n : Nat) (T : Nat → Nat) : Nat → rS → rM → rS × rM
  | 0, S, M => (S, M)
  | j + 1, S, M => rs_fL B n T j (rs_f1 B n T S M).1 (rs_f1 B n T S M).2
theorem rs_fL_s (B : Nat → Nat) (n : Nat) (T : Nat → Nat) (j : Nat) (S : rS) (M : rM) : rs_fL B n T (j + 1) S M = rs_fL B n T j (rs_f1 B n T S M).1 (rs_f1 B n T S M).2 := rfl
theorem rs_fL_e (B : Nat → Nat) (n : Nat) (T : Nat → Nat) (e : Nat × Nat) : ∀ j M, (rs_fL B n T j (.inr e) M).1 = .inr e
  | 0, _ => rfl
  | j + 1, M => by
    rw [rs_fL_s, f1_e (S := .inr e) (e := e) (by unfold rs_ah; split <;> rfl)]
    exact rs_fL_e B n T e j _
def rs_ft (B : Nat → Nat) (n : Nat) (T : Nat → Nat) (S : rS) (M : rM) : rS × rM := rs_fL B n T (rs_iv B n 2 S) (rs_is n 2 S) M
theorem sg_okF {B : Nat → Nat} {n : Nat} {T : Nat → Nat} {a1 : Nat → Nat → Int32} {w cty : Nat} {S : rS} {x y : Int32} (hw : ah_w B n T 3 S = w) (h0 : w ≠ 0) (h9 : ¬ w = 9) (wl : ¬ (4 ≤ w ∧ w ≤ 7)) : (w = 1 ∨ w = 2 ∨ w = 3 ∨ w = 8) ∧ (w = 3 → ∀ s, QF B n T s a1 → f_constantTag s a1 (f_typeOf s a1 x y) = if ck B T cty = 99 then -1 else nI (ck B T cty)) := by
  have h1 := ah_kw hw h0
  have h2 := kw3 h1.1
  exact ⟨by omega, fun h3 => by omega⟩
theorem rc_in {B : Nat → Nat} {n : Nat} {T : Nat → Nat} {S S1 : rS} {M : rM} (e : rs_ah B n T 3 (16 * 3 + 0) M S = S1) (h : snd S1) (hw : ah_w B n T 3 S = 9) : M.ct 440 = 0 := by
  unfold rs_ah at e
  rw [hw, if_neg (by decide)] at e
  exact beq_iff_eq.mp (sd_wc e h).1
theorem rc_ct1 {B : Nat → Nat} {n : Nat} {T : Nat → Nat} {S : rS} {M : rM} (h : snd (rs_ah2 B n T S)) (hw : ah_w B n T 3 S = 9) : (mb_ah B n T 3 (16 * 3 + 0) S M).ct 440 ≠ 0 := by
  unfold mb_ah
  rw [hw, if_neg (by decide)]
  show updN M.ct 440 (rs_p (rs_ah2 B n T S)) 440 ≠ 0
  rw [updN_s, (ah_p h).1]
  exact Nat.succ_ne_zero _
set_option maxRecDepth 100000 in
theorem c_fL {L : Nat} {xs : Nat → Int32} {d b n g F : Nat} {B T : Nat → Nat} {fp : Int32} {c : Nat} {h0 : List qx_E} {Q : Option Value → List qx_E → Prop} (hc9 : c < 65536) : ∀ j i S0 M (h : List qx_E) (a : Nat → Nat → Int32) (e : qx_L), (e = [] ∨ ∃ v : Value, e = [(3, v)]) → TS h b B n S0 fp a → RG h b g → fr b h0 h → (snd S0 → RC B n T F fp a M ∧ 0 < M.c 3 ∧ (M.ct 440 = 0 → M.c 2 = 0)) → i + j = c → (∀ h' a', TS h' b B n (rs_fL B n T j S0 M).1 fp a' → fr b h0 h' → (snd (rs_fL B n T j S0 M).1 → RC B n T F fp a' (rs_fL B n T j S0 M).2) → Q none h') → wp_W L xs (d + 9) 102 10 ((0, .ref g) :: (1, .int (nI c)) :: (2, .int (nI i)) :: e) [] h Q := by
  intro j
  induction j with
  | zero =>
    intro i S0 M h a e he5 hT hg hf hH hi hK
    refine wp_iload_n dq_102_10 rfl ?_
    refine wp_iload_n dq_102_11 rfl ?_
    refine wp_ic_ge (tgt := 82) dq_102_12 rfl (fun c1 => ?_) (fun c1 => absurd (nI_le (by omega) (by omega)) c1)
    exact wp_vre dq_102_82 rfl (hK h a hT hf (fun hq => (hH hq).1))
  | succ j ih =>
    intro i S0 M h a e he5 hT hg hf hH hi hK
    obtain ⟨s0, hb, hw, hm0, h00, hq0⟩ := TS_x hT
    rcases snd_or S0 with hs | ⟨e0, rfl⟩
    rotate_left
    · have hE := hK h a (by rw [rs_fL_e]; exact hT) hf (fun hq => by rw [rs_fL_e] at hq; exact absurd hq not_snd)
      refine wp_iload_n dq_102_10 rfl ?_
      refine wp_iload_n dq_102_11 rfl ?_
      refine wp_ic_ge (tgt := 82) dq_102_12 rfl (fun c1 => absurd c1 (nI_ge (by omega) (by omega))) (fun c1 => ?_)
      refine wp_aload_n dq_102_15 rfl ?_
      refine wp_getf dq_102_16 fl_102_26 hg.2 rfl ?_
      refine wp_cve0 dq_102_19 mt_102_69 (ob_of (tb_c2 hb)) ⟨by decide +kernel, by decide +kernel⟩ (Nat.le_of_ble_eq_true rfl) (Nat.le_of_ble_eq_true rfl) (c_soundT hT) ?_
      refine wp_if_eq (tgt := 82) dq_102_22 rfl (fun c2 => wp_vre dq_102_82 rfl hE) (fun c2 => absurd rfl c2)
    · skip
      refine wp_iload_n dq_102_10 rfl ?_
      refine wp_iload_n dq_102_11 rfl ?_
      refine wp_ic_ge (tgt := 82) dq_102_12 rfl (fun c1 => ?_) (fun c1 => ?_)
      · exact absurd c1 (nI_ge (by omega) (by omega))
      · refine wp_aload_n dq_102_15 rfl ?_
        refine wp_getf dq_102_16 fl_102_26 hg.2 rfl ?_
        refine wp_cve0 dq_102_19 mt_102_69 (ob_of (tb_c2 hb)) ⟨by decide +kernel, by decide +kernel⟩ (Nat.le_of_ble_eq_true rfl) (Nat.le_of_ble_eq_true rfl) (c_soundT hT) ?_
        refine wp_if_eq (tgt := 82) dq_102_22 rfl (fun c2 => ?_) (fun c2 => ?_)
        · exact absurd c2 (ok_1 hs)
        · refine wp_aload_n dq_102_25 rfl ?_
          refine wp_iconst (x := 3) dq_102_26 rfl ?_
          refine wp_iconst (x := 0) dq_102_27 rfl ?_
          refine wp_cv2 dq_102_28 mt_102_145 (ob_of hg.2) ⟨by decide +kernel, by decide +kernel⟩ (Nat.le_of_ble_eq_true rfl) (Nat.le_of_ble_eq_true rfl) (c_ah (F := F) (M := M) (kd := 3) (k := 0) hT (fun hq => ⟨(hH hq).1, (hH hq).2.1⟩) hg (by omega) (by decide) (fun _ => rfl) (fun hq => (hH hq).1.1)) (fun v9 h9 q9 => ?_)
          obtain ⟨w0, a1, rfl, hwe, hT, hf9, hX⟩ := q9
          have hg := RG_fr hg hf9
          have hf := fr_tr hf hf9
          clear hf9
          generalize hS1 : rs_ah B n T 3 (16 * 3 + 0) M S0 = S1 at hT hX
          obtain ⟨s1, hb, hw, hm1, h01, hq1⟩ := TS_x hT
          cases w0 with
          | none =>
            have hww : snd S1 → ah_w B n T 3 S0 = 0 := fun hq => oW_n (hX hq).1.symm
            refine wp_astore_nN (lv' := [(0, .ref g), (1, .int (nI c)), (2, .int (nI i)), (3, .null)]) dq_102_31 (by decide) (by rcases he5 with rfl | ⟨v, rfl⟩ <;> rfl) ?_
            refine wp_aload_nN dq_102_32 rfl ?_
            refine wp_gets (v := .retAddr 9) dq_102_33 (by decide +kernel) ?_
            refine wp_acmp_neN (tgt := 46) dq_102_36 (by decide) rfl ?_
            refine wp_aload_nN dq_102_46 rfl ?_
            refine wp_ifnullN (tgt := 65) dq_102_47 rfl ?_
            refine wp_aload_nN dq_102_65 rfl ?_
            refine wp_ifnullN (tgt := 76) dq_102_66 rfl ?_
            refine wp_iinc (y := ((nI i) + 1)) (lv' := [(0, .ref g), (1, .int (nI c)), (2, .int ((nI i) + 1)), (3, .null)]) dq_102_76 rfl rfl (by decide) rfl ?_
            refine wp_goto (tgt := 10) dq_102_79 rfl ?_
            rw [nI_1]
            rw [rs_fL_s] at hK
            rcases snd_or S1 with hs1 | ⟨e2, rfl⟩
            · have e9 : rs_f1 B n T S0 M = (S1, mb_ah B n T 3 (16 * 3 + 0) S0 M) := by rw [rs_f1, if_neg (by rw [hww hs1]; decide), at1_n (cty := 0) hS1 hww]
              rw [e9] at hK
              obtain ⟨f1, f2, f3⟩ := hH (sd_ahS hS1 hs1)
              have e8 : (mb_ah B n T 3 (16 * 3 + 0) S0 M).ct 440 = M.ct 440 := ah_ct (fun w8 h1 h2 h3 => by have h4 := hww hs1; omega)
              exact ih (i + 1) _ _ _ a1 _ (Or.inr ⟨_, rfl⟩) hT hg hf (fun hq => ⟨(hX hs1).2, by rw [(mb_ah_c ..).1]; exact f2, fun r => by rw [(mb_ah_c ..).1]; exact f3 (e8.symm.trans r)⟩) (by omega) hK
            · have e9 := f1_e hS1
              rw [e9] at hK
              exact ih (i + 1) _ _ _ a1 _ (Or.inr ⟨_, rfl⟩) hT hg hf (fun hq => absurd hq not_snd) (by omega) hK
          | some w =>
            have he := hwe w rfl
            have hw1 : 1 ≤ w ∧ w ≤ 9 := by simpa [qx_en] using he
            have hww : snd S1 → ah_w B n T 3 S0 = w := fun hq => oW_s (hX hq).1.symm
            refine wp_astore_nK (lv' := [(0, .ref g), (1, .int (nI c)), (2, .int (nI i)), (3, .retAddr w)]) dq_102_31 (by decide) (by rcases he5 with rfl | ⟨v, rfl⟩ <;> rfl) ?_
            refine wp_aload_nK dq_102_32 rfl ?_
            refine wp_gets (v := .retAddr 9) dq_102_33 (by decide +kernel) ?_
            refine wp_acmp_ne (tgt := 46) dq_102_36 he (by decide) rfl (fun c3 => ?_) (fun c3 => ?_)
            · have w9 : ¬ w = 9 := c3
              refine wp_aload_nK dq_102_46 rfl ?_
              refine wp_ifnullK dq_102_47 (by first | exact he | decide) ?_
              refine wp_aload_nK dq_102_50 rfl ?_
              refine wp_cve0 dq_102_51 mt_102_158 (by show qx_ko w = _; exact ko_e he) ⟨by decide +kernel, by decide +kernel⟩ (Nat.le_of_ble_eq_true rfl) (Nat.le_of_ble_eq_true rfl) (c_isList he) ?_
              refine wp_if_eq (tgt := 65) dq_102_54 rfl (fun c4 => ?_) (fun c4 => ?_)
              · have wl := (isl he).mp c4
                refine wp_aload_nK dq_102_65 rfl ?_
                refine wp_ifnullK dq_102_66 (by first | exact he | decide) ?_
                refine wp_aload_n dq_102_69 rfl ?_
                refine wp_iconst (x := 3) dq_102_70 rfl ?_
                refine wp_iconst (x := 0) dq_102_71 rfl ?_
                refine wp_aload_nK dq_102_72 rfl ?_
                refine wp_cv3 dq_102_73 mt_102_165 (ob_of hg.2) ⟨by decide +kernel, by decide +kernel⟩ (Nat.le_of_ble_eq_true rfl) (Nat.le_of_ble_eq_true rfl) (c_sg (cty := 0) hT (fun hq => (hX hq).2.1) hg (fun hq => ah44 hS1 hq (hww hq) hw1.1) he (fun hq => sg_okF (cty := 0) (hww hq) (by omega) w9 wl)) (fun v9 h9 q9 => ?_)
                obtain ⟨rfl, hT, hf9⟩ := q9
                have hg := RG_fr hg hf9
                have hf := fr_tr hf hf9
                clear hf9
                generalize hS2 : rs_sg B n T w 0 S1 = S2 at hT
                obtain ⟨s2, hb, hw, hm2, h02, hq2⟩ := TS_x hT
                refine wp_iinc (y := ((nI i) + 1)) (lv' := [(0, .ref g), (1, .int (nI c)), (2, .int ((nI i) + 1)), (3, .retAddr w)]) dq_102_76 rfl rfl (by decide) rfl ?_
                refine wp_goto (tgt := 10) dq_102_79 rfl ?_
                rw [nI_1]
                rw [rs_fL_s] at hK
                rcases snd_or S1 with hs1 | ⟨e2, rfl⟩
                · have e9 : rs_f1 B n T S0 M = (S2, mb_ah B n T 3 (16 * 3 + 0) S0 M) := by rw [rs_f1, if_neg (by rw [hww hs1]; exact w9), at1_s (cty := 0) hS1 hww (by omega) wl hS2]
                  rw [e9] at hK
                  obtain ⟨f1, f2, f3⟩ := hH (sd_ahS hS1 hs1)
                  have e8 : (mb_ah B n T 3 (16 * 3 + 0) S0 M).ct 440 = M.ct 440 := ah_ct (fun w8 h1 h2 h3 => by have h4 := hww hs1; omega)
                  exact ih (i + 1) _ _ _ a1 _ (Or.inr ⟨_, rfl⟩) hT hg hf (fun hq => ⟨(hX hs1).2, by rw [(mb_ah_c ..).1]; exact f2, fun r => by rw [(mb_ah_c ..).1]; exact f3 (e8.symm.trans r)⟩) (by omega) hK
                · have e9 := f1_e hS1
                  rw [e9] at hK
                  rw [rs_sg_e] at hS2
                  subst hS2
                  exact ih (i + 1) _ _ _ a1 _ (Or.inr ⟨_, rfl⟩) hT hg hf (fun hq => absurd hq not_snd) (by omega) hK
              · have wl : 4 ≤ w ∧ w ≤ 7 := Decidable.byContradiction (fun r => c4 ((isl he).mpr r))
                refine wp_aload_n dq_102_57 rfl ?_
                refine wp_aload_nK dq_102_58 rfl ?_
                refine wp_cv1 dq_102_59 mt_102_161 (ob_of hg.2) ⟨by decide +kernel, by decide +kernel⟩ (Nat.le_of_ble_eq_true rfl) (Nat.le_of_ble_eq_true rfl) (c_li hT (fun hq => (hX hq).2.1) hg (fun hq => ah44 hS1 hq (hww hq) hw1.1) he (fun hq => wl)) (fun v9 h9 q9 => ?_)
                obtain ⟨rfl, hT, hf9⟩ := q9
                have hg := RG_fr hg hf9
                have hf := fr_tr hf hf9
                clear hf9
                generalize hS2 : rs_li B n T w S1 = S2 at hT
                obtain ⟨s2, hb, hw, hm2, h02, hq2⟩ := TS_x hT
                refine wp_goto (tgt := 76) dq_102_62 rfl ?_
                refine wp_iinc (y := ((nI i) + 1)) (lv' := [(0, .ref g), (1, .int (nI c)), (2, .int ((nI i) + 1)), (3, .retAddr w)]) dq_102_76 rfl rfl (by decide) rfl ?_
                refine wp_goto (tgt := 10) dq_102_79 rfl ?_
                rw [nI_1]
                rw [rs_fL_s] at hK
                rcases snd_or S1 with hs1 | ⟨e2, rfl⟩
                · have e9 : rs_f1 B n T S0 M = (S2, mb_ah B n T 3 (16 * 3 + 0) S0 M) := by rw [rs_f1, if_neg (by rw [hww hs1]; omega), at1_l (cty := 0) hS1 hww wl hS2]
                  rw [e9] at hK
                  obtain ⟨f1, f2, f3⟩ := hH (sd_ahS hS1 hs1)
                  have e8 : (mb_ah B n T 3 (16 * 3 + 0) S0 M).ct 440 = M.ct 440 := ah_ct (fun w8 h1 h2 h3 => by have h4 := hww hs1; omega)
                  exact ih (i + 1) _ _ _ a1 _ (Or.inr ⟨_, rfl⟩) hT hg hf (fun hq => ⟨(hX hs1).2, by rw [(mb_ah_c ..).1]; exact f2, fun r => by rw [(mb_ah_c ..).1]; exact f3 (e8.symm.trans r)⟩) (by omega) hK
                · have e9 := f1_e hS1
                  rw [e9] at hK
                  rw [rs_li_e] at hS2
                  subst hS2
                  exact ih (i + 1) _ _ _ a1 _ (Or.inr ⟨_, rfl⟩) hT hg hf (fun hq => absurd hq not_snd) (by omega) hK
            · refine wp_aload_n dq_102_39 rfl ?_
              have w9 : w = 9 := c3
              refine wp_cv0 dq_102_40 mt_102_155 (ob_of hg.2) ⟨by decide +kernel, by decide +kernel⟩ (Nat.le_of_ble_eq_true rfl) (Nat.le_of_ble_eq_true rfl) (c_rc (F := F) (M := mb_ah B n T 3 (16 * 3 + 0) S0 M) hT (fun hq => ⟨(hX hq).2, by rw [(mb_ah_c ..).1]; exact (hH (sd_ahS hS1 hq)).2.2 (rc_in hS1 hq ((hww hq).trans w9))⟩) hg (fun hq => ah44 hS1 hq (hww hq) hw1.1)) (fun v9 h9 q9 => ?_)
              obtain ⟨rfl, a2, hT, hf9, hX2⟩ := q9
              have hg := RG_fr hg hf9
              have hf := fr_tr hf hf9
              clear hf9
              refine wp_goto (tgt := 76) dq_102_43 rfl ?_
              refine wp_iinc (y := ((nI i) + 1)) (lv' := [(0, .ref g), (1, .int (nI c)), (2, .int ((nI i) + 1)), (3, .retAddr w)]) dq_102_76 rfl rfl (by decide) rfl ?_
              refine wp_goto (tgt := 10) dq_102_79 rfl ?_
              rw [nI_1]
              rw [rs_fL_s] at hK
              rcases snd_or S1 with hs1 | ⟨e2, rfl⟩
              · have e9 : rs_f1 B n T S0 M = rs_rc B n T S1 (mb_ah B n T 3 (16 * 3 + 0) S0 M) := by rw [rs_f1, if_pos ((hww hs1).trans w9), hS1]
                rw [e9] at hK
                obtain ⟨f1, f2, f3⟩ := hH (sd_ahS hS1 hs1)
                exact ih (i + 1) _ _ _ a2 _ (Or.inr ⟨_, rfl⟩) hT hg hf (fun hq => ⟨hX2 hq, by rw [(hX2 hq).2.2.1.2.1]; decide, fun r => absurd ((rc_ct hq).1.symm.trans r) (rc_ct1 (sd_ah hS1 hs1) ((hww hs1).trans w9))⟩) (by omega) hK
              · have e9 := f1_e hS1
                rw [e9] at hK
                rw [rs_rc_e] at hT
                exact ih (i + 1) _ _ _ a2 _ (Or.inr ⟨_, rfl⟩) hT hg hf (fun hq => absurd hq not_snd) (by omega) hK
set_option maxRecDepth 100000 in
theorem c_ftK {L : Nat} {xs : Nat → Int32} {d b n g F : Nat} {B T : Nat → Nat} {fp : Int32} {S0 : rS} {h : List qx_E} {a : Nat → Nat → Int32} {M : rM} {Q : Option Value → List qx_E → Prop} (hT : TS h b B n S0 fp a) (hg : RG h b g) (hH : snd S0 → RC B n T F fp a M ∧ 0 < M.c 3 ∧ (M.ct 440 = 0 → M.c 2 = 0)) (hK : ∀ h' a', TS h' b B n (rs_ft B n T S0 M).1 fp a' → fr b h h' → (snd (rs_ft B n T S0 M).1 → RC B n T F fp a' (rs_ft B n T S0 M).2) → Q none h') : wp_W L xs (d + 9) 102 0 (lv_args 0 [.ref g]) [] h Q := by
  show wp_W L xs _ 102 0 [(0, .ref g)] [] h _
  obtain ⟨s0, hb, hw, hm0, h00, hq0⟩ := TS_x hT
  have hf : fr b h h := fr_rf
  refine wp_aload_n dq_102_0 rfl ?_
  refine wp_getf dq_102_1 fl_102_26 hg.2 rfl ?_
  refine wp_cv0 dq_102_4 mt_102_39 (ob_of (tb_c2 hb)) ⟨by decide +kernel, by decide +kernel⟩ (Nat.le_of_ble_eq_true rfl) (Nat.le_of_ble_eq_true rfl) (c_u2T hT) (fun v9 h9 q9 => ?_)
  obtain ⟨rfl, hT, hf9⟩ := q9
  have hg := RG_fr hg hf9
  have hf := fr_tr hf hf9
  clear hf9
  generalize hS1 : rs_is n 2 S0 = S1 at hT
  obtain ⟨s1, hb, hw, hm1, h01, hq1⟩ := TS_x hT
  refine wp_istore_n (lv' := [(0, .ref g), (1, .int (nI (rs_iv B n 2 S0)))]) dq_102_7 (by decide) rfl ?_
  refine wp_iconst (x := 0) dq_102_8 rfl ?_
  refine wp_istore_n (lv' := [(0, .ref g), (1, .int (nI (rs_iv B n 2 S0))), (2, .int 0)]) dq_102_9 (by decide) rfl ?_
  exact c_fL (iv2_lt hT) (rs_iv B n 2 S0) 0 S1 M h9 a [] (Or.inl rfl) hT hg hf (fun hq => hH (sd_is hS1 hq)) (by omega) (by rw [rs_ft, hS1] at hK; exact hK)
