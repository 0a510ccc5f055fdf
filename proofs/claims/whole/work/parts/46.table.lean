theorem c_ah {L : Nat} {xs : Nat → Int32} {d b n g F kd k : Nat} {B T : Nat → Nat} {fp : Int32} {S0 : rS} {h : List qx_E} {a : Nat → Nat → Int32} {M : rM} (hT : TS h b B n S0 fp a) (hC : snd S0 → RC B n T F fp a M ∧ k < M.c kd) (hg : RG h b g) (hkd : kd < 4) (hk : k < 16) (hk3 : kd = 3 → k = 0) (hR : snd S0 → PL B n T a) : wp_W L xs (d + 6) 91 0 (lv_args 0 [.ref g, .int (nI kd), .int (nI k)]) [] h (fun v h' => ∃ w a', v = some (kv w) ∧ (∀ x, w = some x → qx_en x = true) ∧ TS h' b B n (rs_ah B n T kd (16 * kd + k) M S0) fp a' ∧ fr b h h' ∧ (snd (rs_ah B n T kd (16 * kd + k) M S0) → w = oW (ah_w B n T kd S0) ∧ RC B n T F fp a' (mb_ah B n T kd (16 * kd + k) S0 M))) := c_ahK hT hC hg hkd hk hk3 hR (fun h' w a' h1 h2 h3 h4 => ⟨w, a', rfl, h1, h2, h3, h4⟩)
theorem isl9 : ∀ w, w < 10 → qx_en w = true → (f_isList w = 0 ↔ ¬ (4 ≤ w ∧ w ≤ 7)) := by decide +kernel
theorem isl {w : Nat} (he : qx_en w = true) : f_isList w = 0 ↔ ¬ (4 ≤ w ∧ w ≤ 7) := by
  have h1 : 1 ≤ w ∧ w ≤ 9 := by simpa [qx_en] using he
  exact isl9 w (by omega) he
theorem sd_ahS {B : Nat → Nat} {n : Nat} {T : Nat → Nat} {kd o : Nat} {M : rM} {S S' : rS} (e : rs_ah B n T kd o M S = S') (h : snd S') : snd S := sd_ah0 (sd_ah e h)
theorem ah_p {B : Nat → Nat} {n : Nat} {T : Nat → Nat} {S : rS} (h : snd (rs_ah2 B n T S)) : rs_ah2 B n T S = .inl (rs_p S + 6) ∧ rs_p S + 6 ≤ n ∧ tg B T (rs_iv B n 2 S) = 1 ∧ rs_iv B n 2 S = bu_U B (rs_p S) 2 ∧ ah_l B n T S = bu_U B (rs_p S + 2) 4 := by
  obtain ⟨a1, a2, a3⟩ := sd_isp rfl h
  have h1 := sd_is rfl h
  obtain ⟨b1, b2, b3⟩ := sp_ix rfl h1
  have e1 : rs_p (rs_ix B n T 1 false S) = rs_p S + 2 := by rw [b1]; rfl
  rw [e1] at a2 a3
  refine ⟨a3, by omega, ix_tg rfl h1, b3, ?_⟩
  unfold ah_l
  rw [iv_of rfl h, e1]
theorem ah4 {B : Nat → Nat} {n : Nat} {T : Nat → Nat} {kd o : Nat} {M : rM} {S S' : rS} (e : rs_ah B n T kd o M S = S') (h : snd S') (hw : ah_w B n T kd S ≠ 0) : S' = .inl (rs_p S + 6) := by
  have h2 := sd_ah e h
  unfold rs_ah at e
  rw [if_neg hw] at e
  rw [(sd_wc e h).2]
  exact (ah_p h2).1
theorem ah_kw {B : Nat → Nat} {n : Nat} {T : Nat → Nat} {kd w : Nat} {S : rS} (h : ah_w B n T kd S = w) (hw : w ≠ 0) : kw kd w = true ∧ w ≤ 9 := by
  subst h
  have h1 := fdR_in (l := tx B T (rs_iv B n 2 S)) (kd := kd) 9 0 hw
  exact ⟨h1.2.2.1, h1.2.1⟩
theorem kw3 {kd w : Nat} (h : kw kd w = true) : w ≤ 2 ∨ (w = 3 ∧ kd = 0) ∨ (w = 4 ∧ kd = 1) ∨ (5 ≤ w ∧ kd = 3) := by
  unfold kw at h
  simp only [Bool.or_eq_true, Bool.and_eq_true, beq_iff_eq, decide_eq_true_eq] at h
  omega
theorem mb_ah_c (B : Nat → Nat) (n : Nat) (T : Nat → Nat) (kd o : Nat) (S : rS) (M : rM) : (mb_ah B n T kd o S M).c = M.c ∧ (mb_ah B n T kd o S M).np = M.np := by
  unfold mb_ah
  split <;> exact ⟨rfl, rfl⟩
def rs_at1 (B : Nat → Nat) (n : Nat) (T : Nat → Nat) (kd o cty : Nat) (M : rM) (S : rS) : rS := if ah_w B n T kd S = 0 then rs_ah B n T kd o M S else if 4 ≤ ah_w B n T kd S ∧ ah_w B n T kd S ≤ 7 then rs_li B n T (ah_w B n T kd S) (rs_ah B n T kd o M S) else rs_sg B n T (ah_w B n T kd S) cty (rs_ah B n T kd o M S)
theorem rs_sg_e (B : Nat → Nat) (n : Nat) (T : Nat → Nat) (w cty : Nat) (e : Nat × Nat) : rs_sg B n T w cty (.inr e) = .inr e := by
  unfold rs_sg
  split <;> rfl
theorem at1_e {B : Nat → Nat} {n : Nat} {T : Nat → Nat} {kd o cty : Nat} {M : rM} {S : rS} {e : Nat × Nat} (h : rs_ah B n T kd o M S = .inr e) : rs_at1 B n T kd o cty M S = .inr e := by
  unfold rs_at1
  rw [h]
  repeat' split
  · rfl
  · exact rs_li_e ..
  · exact rs_sg_e ..
theorem at1_n {B : Nat → Nat} {n : Nat} {T : Nat → Nat} {kd o cty : Nat} {M : rM} {S S1 : rS} (e1 : rs_ah B n T kd o M S = S1) (hw : snd S1 → ah_w B n T kd S = 0) : rs_at1 B n T kd o cty M S = S1 := by
  rcases snd_or S1 with hs | ⟨e, rfl⟩
  · unfold rs_at1
    rw [if_pos (hw hs), e1]
  · exact at1_e e1
theorem at1_l {B : Nat → Nat} {n : Nat} {T : Nat → Nat} {kd o cty w : Nat} {M : rM} {S S1 S2 : rS} (e1 : rs_ah B n T kd o M S = S1) (hw : snd S1 → ah_w B n T kd S = w) (wl : 4 ≤ w ∧ w ≤ 7) (e2 : rs_li B n T w S1 = S2) : rs_at1 B n T kd o cty M S = S2 := by
  rcases snd_or S1 with hs | ⟨e, rfl⟩
  · unfold rs_at1
    rw [hw hs, if_neg (by omega), if_pos wl, e1, e2]
  · rw [rs_li_e] at e2
    rw [← e2]
    exact at1_e e1
theorem at1_s {B : Nat → Nat} {n : Nat} {T : Nat → Nat} {kd o cty w : Nat} {M : rM} {S S1 S2 : rS} (e1 : rs_ah B n T kd o M S = S1) (hw : snd S1 → ah_w B n T kd S = w) (h0 : w ≠ 0) (wl : ¬ (4 ≤ w ∧ w ≤ 7)) (e2 : rs_sg B n T w cty S1 = S2) : rs_at1 B n T kd o cty M S = S2 := by
  rcases snd_or S1 with hs | ⟨e, rfl⟩
  · unfold rs_at1
    rw [hw hs, if_neg h0, if_neg wl, e1, e2]
  · rw [rs_sg_e] at e2
    rw [← e2]
    exact at1_e e1
theorem rs_at1_e (B : Nat → Nat) (n : Nat) (T : Nat → Nat) (kd o cty : Nat) (M : rM) (e : Nat × Nat) : rs_at1 B n T kd o cty M (.inr e) = .inr e := at1_e (by unfold rs_ah; split <;> rfl)
def rs_tbL (B : Nat → Nat) (n : Nat) (T : Nat → Nat) (kd o cty : Nat) : Nat → rS → rM → rS × rM
  | 0, S, M => (S, M)
  | j + 1, S, M => rs_tbL B n T kd o cty j (rs_at1 B n T kd o cty M S) (mb_ah B n T kd o S M)
theorem rs_tbL_s (B : Nat → Nat) (n : Nat) (T : Nat → Nat) (kd o cty j : Nat) (S : rS) (M : rM) : rs_tbL B n T kd o cty (j + 1) S M = rs_tbL B n T kd o cty j (rs_at1 B n T kd o cty M S) (mb_ah B n T kd o S M) := rfl
theorem rs_tbL_e (B : Nat → Nat) (n : Nat) (T : Nat → Nat) (kd o cty : Nat) (e : Nat × Nat) : ∀ j M, (rs_tbL B n T kd o cty j (.inr e) M).1 = .inr e
  | 0, _ => rfl
  | j + 1, M => by rw [rs_tbL_s, rs_at1_e]; exact rs_tbL_e B n T kd o cty e j _
theorem tbL_c (B : Nat → Nat) (n : Nat) (T : Nat → Nat) (kd o cty : Nat) : ∀ j S M, (rs_tbL B n T kd o cty j S M).2.c = M.c ∧ (rs_tbL B n T kd o cty j S M).2.np = M.np
  | 0, _, _ => ⟨rfl, rfl⟩
  | j + 1, S, M => by
    have h := tbL_c B n T kd o cty j (rs_at1 B n T kd o cty M S) (mb_ah B n T kd o S M)
    rw [(mb_ah_c ..).1, (mb_ah_c ..).2] at h
    exact h
def rs_tb (B : Nat → Nat) (n : Nat) (T : Nat → Nat) (kd o cty : Nat) (S : rS) (M : rM) : rS × rM := rs_tbL B n T kd o cty (rs_iv B n 2 S) (rs_is n 2 S) M
theorem sg_ok {B : Nat → Nat} {n : Nat} {T : Nat → Nat} {F : Nat} {fp : Int32} {a1 : Nat → Nat → Int32} {M : rM} {kd k cty w : Nat} {S : rS} (hkd : kd < 3) (hX : RC B n T F fp a1 (mb_ah B n T kd (16 * kd + k) S M)) (hw : ah_w B n T kd S = w) (h0 : w ≠ 0) (wl : ¬ (4 ≤ w ∧ w ≤ 7)) (hk : k < M.c kd) (hc : cty = tyO B M kd k) (hY : kd = 0 → tg B T cty = 1 ∧ k_ft B T cty = true) : (w = 1 ∨ w = 2 ∨ w = 3 ∨ w = 8) ∧ (w = 3 → ∀ s, QF B n T s a1 → f_constantTag s a1 (f_typeOf s a1 (nI kd) (nI k)) = if ck B T cty = 99 then -1 else nI (ck B T cty)) := by
  have h1 := kw3 (ah_kw hw h0).1
  refine ⟨by omega, fun h3 s hQ => ?_⟩
  have hk1 : k < (mb_ah B n T kd (16 * kd + k) S M).c kd := by rw [(mb_ah_c ..).1]; exact hk
  have hn := hX.2.2.1.2.2.1 kd k hkd hk1
  rw [q_typeOf hQ hX.2.1 hX.2.2.1 hkd hk1, (mb_ah_c ..).2]
  rw [(mb_ah_c ..).2] at hn
  obtain ⟨y1, y2⟩ := hY (by omega)
  subst hc
  exact q_ctag hQ (QF_U2 hQ (by omega)) y1 y2
theorem ah44 {B : Nat → Nat} {n : Nat} {T : Nat → Nat} {kd o w : Nat} {M : rM} {S S' : rS} (e : rs_ah B n T kd o M S = S') (h : snd S') (hw : ah_w B n T kd S = w) (h0 : 1 ≤ w) : 4 ≤ rs_p S' := by
  rw [ah4 e h (by omega)]
  show 4 ≤ rs_p S + 6
  omega
theorem sd_li {B : Nat → Nat} {n : Nat} {T : Nat → Nat} {w : Nat} {S S' : rS} (e : rs_li B n T w S = S') (h : snd S') : snd S := by
  cases S with
  | inl q => exact snd_l q
  | inr e0 => rw [rs_li_e] at e; subst e; exact h
set_option maxRecDepth 100000 in
theorem c_tbL {L : Nat} {xs : Nat → Int32} {d b n g F : Nat} {B T : Nat → Nat} {fp : Int32} {kd k c cty : Nat} {h0 : List qx_E} {Q : Option Value → List qx_E → Prop} (hkd : kd < 3) (hk : k < 16) (hc9 : c < 65536) : ∀ j i S0 M (h : List qx_E) (a : Nat → Nat → Int32) (e : qx_L), (e = [] ∨ ∃ v : Value, e = [(5, v)]) → TS h b B n S0 fp a → RG h b g → fr b h0 h → (snd S0 → RC B n T F fp a M ∧ k < M.c kd ∧ cty = tyO B M kd k ∧ (kd = 0 → tg B T cty = 1 ∧ k_ft B T cty = true)) → i + j = c → (∀ h' a', TS h' b B n (rs_tbL B n T kd (16 * kd + k) cty j S0 M).1 fp a' → fr b h0 h' → (snd (rs_tbL B n T kd (16 * kd + k) cty j S0 M).1 → RC B n T F fp a' (rs_tbL B n T kd (16 * kd + k) cty j S0 M).2) → Q none h') → wp_W L xs (d + 7) 90 11 ((0, .ref g) :: (1, .int (nI kd)) :: (2, .int (nI k)) :: (3, .int (nI c)) :: (4, .int (nI i)) :: e) [] h Q := by
  intro j
  induction j with
  | zero =>
    intro i S0 M h a e he5 hT hg hf hH hi hK
    refine wp_iload dq_90_11 rfl ?_
    refine wp_iload_n dq_90_13 rfl ?_
    refine wp_ic_ge (tgt := 76) dq_90_14 rfl (fun c1 => ?_) (fun c1 => absurd (nI_le (by omega) (by omega)) c1)
    exact wp_vre dq_90_76 rfl (hK h a hT hf (fun hq => (hH hq).1))
  | succ j ih =>
    intro i S0 M h a e he5 hT hg hf hH hi hK
    obtain ⟨s0, hb, hw, hm0, h00, hq0⟩ := TS_x hT
    rcases snd_or S0 with hs | ⟨e0, rfl⟩
    rotate_left
    · have hE := hK h a (by rw [rs_tbL_e]; exact hT) hf (fun hq => by rw [rs_tbL_e] at hq; exact absurd hq not_snd)
      refine wp_iload dq_90_11 rfl ?_
      refine wp_iload_n dq_90_13 rfl ?_
      refine wp_ic_ge (tgt := 76) dq_90_14 rfl (fun c1 => absurd c1 (nI_ge (by omega) (by omega))) (fun c1 => ?_)
      refine wp_aload_n dq_90_17 rfl ?_
      refine wp_getf dq_90_18 fl_90_26 hg.2 rfl ?_
      refine wp_cve0 dq_90_21 mt_90_69 (ob_of (tb_c2 hb)) ⟨by decide +kernel, by decide +kernel⟩ (Nat.le_of_ble_eq_true rfl) (Nat.le_of_ble_eq_true rfl) (c_soundT hT) ?_
      refine wp_if_eq (tgt := 76) dq_90_24 rfl (fun c2 => wp_vre dq_90_76 rfl hE) (fun c2 => absurd rfl c2)
    · skip
      refine wp_iload dq_90_11 rfl ?_
      refine wp_iload_n dq_90_13 rfl ?_
      refine wp_ic_ge (tgt := 76) dq_90_14 rfl (fun c1 => ?_) (fun c1 => ?_)
      · exact absurd c1 (nI_ge (by omega) (by omega))
      · refine wp_aload_n dq_90_17 rfl ?_
        refine wp_getf dq_90_18 fl_90_26 hg.2 rfl ?_
        refine wp_cve0 dq_90_21 mt_90_69 (ob_of (tb_c2 hb)) ⟨by decide +kernel, by decide +kernel⟩ (Nat.le_of_ble_eq_true rfl) (Nat.le_of_ble_eq_true rfl) (c_soundT hT) ?_
        refine wp_if_eq (tgt := 76) dq_90_24 rfl (fun c2 => ?_) (fun c2 => ?_)
        · exact absurd c2 (ok_1 hs)
        · refine wp_aload_n dq_90_27 rfl ?_
          refine wp_iload_n dq_90_28 rfl ?_
          refine wp_iload_n dq_90_29 rfl ?_
          refine wp_cv2 dq_90_30 mt_90_145 (ob_of hg.2) ⟨by decide +kernel, by decide +kernel⟩ (Nat.le_of_ble_eq_true rfl) (Nat.le_of_ble_eq_true rfl) (c_ah (F := F) (M := M) (kd := kd) (k := k) hT (fun hq => ⟨(hH hq).1, (hH hq).2.1⟩) hg (by omega) hk (fun r => absurd r (by omega)) (fun hq => (hH hq).1.1)) (fun v9 h9 q9 => ?_)
          obtain ⟨w0, a1, rfl, hwe, hT, hf9, hX⟩ := q9
          have hg := RG_fr hg hf9
          have hf := fr_tr hf hf9
          clear hf9
          generalize hS1 : rs_ah B n T kd (16 * kd + k) M S0 = S1 at hT hX
          obtain ⟨s1, hb, hw, hm1, h01, hq1⟩ := TS_x hT
          cases w0 with
          | none =>
            have hww : snd S1 → ah_w B n T kd S0 = 0 := fun hq => oW_n (hX hq).1.symm
            refine wp_astoreN (lv' := [(0, .ref g), (1, .int (nI kd)), (2, .int (nI k)), (3, .int (nI c)), (4, .int (nI i)), (5, .null)]) dq_90_33 (by decide) (by rcases he5 with rfl | ⟨v, rfl⟩ <;> rfl) ?_
            refine wp_aloadN dq_90_35 rfl ?_
            refine wp_ifnullN (tgt := 57) dq_90_37 rfl ?_
            refine wp_aloadN dq_90_57 rfl ?_
            refine wp_ifnullN (tgt := 70) dq_90_59 rfl ?_
            refine wp_iinc (y := ((nI i) + 1)) (lv' := [(0, .ref g), (1, .int (nI kd)), (2, .int (nI k)), (3, .int (nI c)), (4, .int ((nI i) + 1)), (5, .null)]) dq_90_70 rfl rfl (by decide) rfl ?_
            refine wp_goto (tgt := 11) dq_90_73 rfl ?_
            have e9 := at1_n (cty := cty) hS1 hww
            rw [nI_1]
            rw [rs_tbL_s, e9] at hK
            refine ih (i + 1) S1 (mb_ah B n T kd (16 * kd + k) S0 M) _ a1 _ (Or.inr ⟨_, rfl⟩) hT hg hf (fun hq => ?_) (by omega) hK
            obtain ⟨f1, f2, f3, f4⟩ := hH (sd_ahS hS1 hq)
            exact ⟨(hX hq).2, by rw [(mb_ah_c ..).1]; exact f2, by rw [f3, tyO, tyO, (mb_ah_c ..).2], f4⟩
          | some w =>
            have he := hwe w rfl
            have hw1 : 1 ≤ w ∧ w ≤ 9 := by simpa [qx_en] using he
            have hww : snd S1 → ah_w B n T kd S0 = w := fun hq => oW_s (hX hq).1.symm
            refine wp_astoreK (lv' := [(0, .ref g), (1, .int (nI kd)), (2, .int (nI k)), (3, .int (nI c)), (4, .int (nI i)), (5, .retAddr w)]) dq_90_33 (by decide) (by rcases he5 with rfl | ⟨v, rfl⟩ <;> rfl) ?_
            refine wp_aloadK dq_90_35 rfl ?_
            refine wp_ifnullK dq_90_37 (by first | exact he | decide) ?_
            refine wp_aloadK dq_90_40 rfl ?_
            refine wp_cve0 dq_90_42 mt_90_158 (by show qx_ko w = _; exact ko_e he) ⟨by decide +kernel, by decide +kernel⟩ (Nat.le_of_ble_eq_true rfl) (Nat.le_of_ble_eq_true rfl) (c_isList he) ?_
            refine wp_if_eq (tgt := 57) dq_90_45 rfl (fun c3 => ?_) (fun c3 => ?_)
            · have wl := (isl he).mp c3
              refine wp_aloadK dq_90_57 rfl ?_
              refine wp_ifnullK dq_90_59 (by first | exact he | decide) ?_
              refine wp_aload_n dq_90_62 rfl ?_
              refine wp_iload_n dq_90_63 rfl ?_
              refine wp_iload_n dq_90_64 rfl ?_
              refine wp_aloadK dq_90_65 rfl ?_
              refine wp_cv3 dq_90_67 mt_90_165 (ob_of hg.2) ⟨by decide +kernel, by decide +kernel⟩ (Nat.le_of_ble_eq_true rfl) (Nat.le_of_ble_eq_true rfl) (c_sg (cty := cty) hT (fun hq => (hX hq).2.1) hg (fun hq => ah44 hS1 hq (hww hq) hw1.1) he (fun hq => sg_ok hkd (hX hq).2 (hww hq) (by omega) wl (hH (sd_ahS hS1 hq)).2.1 (hH (sd_ahS hS1 hq)).2.2.1 (hH (sd_ahS hS1 hq)).2.2.2)) (fun v9 h9 q9 => ?_)
              obtain ⟨rfl, hT, hf9⟩ := q9
              have hg := RG_fr hg hf9
              have hf := fr_tr hf hf9
              clear hf9
              generalize hS2 : rs_sg B n T w cty S1 = S2 at hT
              obtain ⟨s2, hb, hw, hm2, h02, hq2⟩ := TS_x hT
              refine wp_iinc (y := ((nI i) + 1)) (lv' := [(0, .ref g), (1, .int (nI kd)), (2, .int (nI k)), (3, .int (nI c)), (4, .int ((nI i) + 1)), (5, .retAddr w)]) dq_90_70 rfl rfl (by decide) rfl ?_
              refine wp_goto (tgt := 11) dq_90_73 rfl ?_
              have e9 := at1_s (cty := cty) hS1 hww (by omega) wl hS2
              rw [nI_1]
              rw [rs_tbL_s, e9] at hK
              refine ih (i + 1) S2 (mb_ah B n T kd (16 * kd + k) S0 M) _ a1 _ (Or.inr ⟨_, rfl⟩) hT hg hf (fun hq => ?_) (by omega) hK
              obtain ⟨f1, f2, f3, f4⟩ := hH (sd_ahS hS1 (sd_sg hS2 hq))
              exact ⟨(hX (sd_sg hS2 hq)).2, by rw [(mb_ah_c ..).1]; exact f2, by rw [f3, tyO, tyO, (mb_ah_c ..).2], f4⟩
            · have wl : 4 ≤ w ∧ w ≤ 7 := Decidable.byContradiction (fun r => c3 ((isl he).mpr r))
              refine wp_aload_n dq_90_48 rfl ?_
              refine wp_aloadK dq_90_49 rfl ?_
              refine wp_cv1 dq_90_51 mt_90_161 (ob_of hg.2) ⟨by decide +kernel, by decide +kernel⟩ (Nat.le_of_ble_eq_true rfl) (Nat.le_of_ble_eq_true rfl) (c_li hT (fun hq => (hX hq).2.1) hg (fun hq => ah44 hS1 hq (hww hq) hw1.1) he (fun hq => wl)) (fun v9 h9 q9 => ?_)
              obtain ⟨rfl, hT, hf9⟩ := q9
              have hg := RG_fr hg hf9
              have hf := fr_tr hf hf9
              clear hf9
              generalize hS2 : rs_li B n T w S1 = S2 at hT
              obtain ⟨s2, hb, hw, hm2, h02, hq2⟩ := TS_x hT
              refine wp_goto (tgt := 70) dq_90_54 rfl ?_
              refine wp_iinc (y := ((nI i) + 1)) (lv' := [(0, .ref g), (1, .int (nI kd)), (2, .int (nI k)), (3, .int (nI c)), (4, .int ((nI i) + 1)), (5, .retAddr w)]) dq_90_70 rfl rfl (by decide) rfl ?_
              refine wp_goto (tgt := 11) dq_90_73 rfl ?_
              have e9 := at1_l (cty := cty) hS1 hww wl hS2
              rw [nI_1]
              rw [rs_tbL_s, e9] at hK
              refine ih (i + 1) S2 (mb_ah B n T kd (16 * kd + k) S0 M) _ a1 _ (Or.inr ⟨_, rfl⟩) hT hg hf (fun hq => ?_) (by omega) hK
              obtain ⟨f1, f2, f3, f4⟩ := hH (sd_ahS hS1 (sd_li hS2 hq))
              exact ⟨(hX (sd_li hS2 hq)).2, by rw [(mb_ah_c ..).1]; exact f2, by rw [f3, tyO, tyO, (mb_ah_c ..).2], f4⟩
set_option maxRecDepth 100000 in
theorem c_tbK {L : Nat} {xs : Nat → Int32} {d b n g F kd k cty : Nat} {B T : Nat → Nat} {fp : Int32} {S0 : rS} {h : List qx_E} {a : Nat → Nat → Int32} {M : rM} {Q : Option Value → List qx_E → Prop} (hT : TS h b B n S0 fp a) (hg : RG h b g) (hkd : kd < 3) (hk : k < 16) (hH : snd S0 → RC B n T F fp a M ∧ k < M.c kd ∧ cty = tyO B M kd k ∧ (kd = 0 → tg B T cty = 1 ∧ k_ft B T cty = true)) (hK : ∀ h' a', TS h' b B n (rs_tb B n T kd (16 * kd + k) cty S0 M).1 fp a' → fr b h h' → (snd (rs_tb B n T kd (16 * kd + k) cty S0 M).1 → RC B n T F fp a' (rs_tb B n T kd (16 * kd + k) cty S0 M).2) → Q none h') : wp_W L xs (d + 7) 90 0 (lv_args 0 [.ref g, .int (nI kd), .int (nI k)]) [] h Q := by
  show wp_W L xs _ 90 0 [(0, .ref g), (1, .int (nI kd)), (2, .int (nI k))] [] h _
  obtain ⟨s0, hb, hw, hm0, h00, hq0⟩ := TS_x hT
  have hf : fr b h h := fr_rf
  refine wp_aload_n dq_90_0 rfl ?_
  refine wp_getf dq_90_1 fl_90_26 hg.2 rfl ?_
  refine wp_cv0 dq_90_4 mt_90_39 (ob_of (tb_c2 hb)) ⟨by decide +kernel, by decide +kernel⟩ (Nat.le_of_ble_eq_true rfl) (Nat.le_of_ble_eq_true rfl) (c_u2T hT) (fun v9 h9 q9 => ?_)
  obtain ⟨rfl, hT, hf9⟩ := q9
  have hg := RG_fr hg hf9
  have hf := fr_tr hf hf9
  clear hf9
  generalize hS1 : rs_is n 2 S0 = S1 at hT
  obtain ⟨s1, hb, hw, hm1, h01, hq1⟩ := TS_x hT
  refine wp_istore_n (lv' := [(0, .ref g), (1, .int (nI kd)), (2, .int (nI k)), (3, .int (nI (rs_iv B n 2 S0)))]) dq_90_7 (by decide) rfl ?_
  refine wp_iconst (x := 0) dq_90_8 rfl ?_
  refine wp_istore (lv' := [(0, .ref g), (1, .int (nI kd)), (2, .int (nI k)), (3, .int (nI (rs_iv B n 2 S0))), (4, .int 0)]) dq_90_9 (by decide) rfl ?_
  exact c_tbL hkd hk (iv2_lt hT) (rs_iv B n 2 S0) 0 S1 M h9 a [] (Or.inl rfl) hT hg hf (fun hq => hH (sd_is hS1 hq)) (by omega) (by rw [rs_tb, hS1] at hK; exact hK)
theorem c_tb {L : Nat} {xs : Nat → Int32} {d b n g F kd k cty : Nat} {B T : Nat → Nat} {fp : Int32} {S0 : rS} {h : List qx_E} {a : Nat → Nat → Int32} {M : rM} (hT : TS h b B n S0 fp a) (hg : RG h b g) (hkd : kd < 3) (hk : k < 16) (hH : snd S0 → RC B n T F fp a M ∧ k < M.c kd ∧ cty = tyO B M kd k ∧ (kd = 0 → tg B T cty = 1 ∧ k_ft B T cty = true)) : wp_W L xs (d + 7) 90 0 (lv_args 0 [.ref g, .int (nI kd), .int (nI k)]) [] h (fun v h' => v = none ∧ ∃ a', TS h' b B n (rs_tb B n T kd (16 * kd + k) cty S0 M).1 fp a' ∧ fr b h h' ∧ (snd (rs_tb B n T kd (16 * kd + k) cty S0 M).1 → RC B n T F fp a' (rs_tb B n T kd (16 * kd + k) cty S0 M).2)) := c_tbK hT hg hkd hk hH (fun h' a' h1 h2 h3 => ⟨rfl, a', h1, h2, h3⟩)
theorem c_mb {L : Nat} {xs : Nat → Int32} {d b n g F : Nat} {B T : Nat → Nat} {fp : Int32} {S0 : rS} {h : List qx_E} {a : Nat → Nat → Int32} {M : rM} {kd k : Nat} (hT : TS h b B n S0 fp a) (hC : snd S0 → RC B n T F fp a M) (hg : RG h b g) (hkd : kd < 3) (hk : k < 16) (hc9 : snd S0 → M.c kd = k) : wp_W L xs (d + 6) 78 0 (lv_args 0 [.ref g, .int (nI kd), .int (nI k)]) [] h (fun v h' => v = none ∧ ∃ a', TS h' b B n (rs_mb B n T F kd k M S0) fp a' ∧ fr b h h' ∧ (snd (rs_mb B n T F kd k M S0) → RC B n T F fp a' (mb_nt kd k (rs_is n 2 S0) M))) := c_mbK hT hC hg hkd hk hc9 (fun h' a' h1 h2 h3 => ⟨rfl, a', h1, h2, h3⟩)
