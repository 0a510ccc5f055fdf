theorem rs_mb_e (B : Nat → Nat) (n : Nat) (T : Nat → Nat) (F kd k : Nat) (M : rM) (e : Nat × Nat) : rs_mb B n T F kd k M (.inr e) = .inr e := rs_mbL_e ..
theorem rs_tb_e (B : Nat → Nat) (n : Nat) (T : Nat → Nat) (kd o cty : Nat) (M : rM) (e : Nat × Nat) : (rs_tb B n T kd o cty (.inr e) M).1 = .inr e := rs_tbL_e ..
theorem sd_mb {B : Nat → Nat} {n : Nat} {T : Nat → Nat} {F kd k : Nat} {M : rM} {S S' : rS} (e : rs_mb B n T F kd k M S = S') (h : snd S') : snd S := (sp_mb e h).2.2.1
theorem sd_tb {B : Nat → Nat} {n : Nat} {T : Nat → Nat} {kd o cty : Nat} {M : rM} {S S' : rS} (e : (rs_tb B n T kd o cty S M).1 = S') (h : snd S') : snd S := by
  cases S with
  | inl q => exact snd_l q
  | inr e0 => rw [rs_tb_e] at e; subst e; exact h
theorem nt_ty {B : Nat → Nat} {n : Nat} {T : Nat → Nat} {kd k : Nat} {M : rM} {S : rS} (h : snd (rs_nt B n T kd S)) : tyO B (mb_nt kd k S M) kd k = rs_iv B n 2 (rs_is n 2 S) ∧ nmO B (mb_nt kd k S M) kd k = rs_iv B n 2 S ∧ tg B T (tyO B (mb_nt kd k S M) kd k) = 1 ∧ tg B T (nmO B (mb_nt kd k S M) kd k) = 1 ∧ (kd ≠ 1 → k_ft B T (tyO B (mb_nt kd k S M) kd k) = true) := by
  obtain ⟨a1, a2, a3, a4, a5, a6, a7, a8⟩ := sp_nt rfl h
  have e : tyO B (mb_nt kd k S M) kd k = bu_U B (rs_p S + 2) 2 := by
    show bu_U B (updN M.np (16 * kd + k) (rs_p S) (16 * kd + k) + 2) 2 = _
    rw [updN_s]
  have e' : nmO B (mb_nt kd k S M) kd k = bu_U B (rs_p S) 2 := by
    show bu_U B (updN M.np (16 * kd + k) (rs_p S) (16 * kd + k)) 2 = _
    rw [updN_s]
  rw [e, e', ← a5, ← a4]
  exact ⟨rfl, rfl, a7, a6, fun hk => by rw [if_neg hk] at a8; exact a8⟩
def rs_m1 (B : Nat → Nat) (n : Nat) (T : Nat → Nat) (F kd k : Nat) (S : rS) (M : rM) : rS × rM := rs_tb B n T kd (16 * kd + k) (tyO B (mb_nt kd k (rs_is n 2 S) M) kd k) (rs_mb B n T F kd k M S) (mb_nt kd k (rs_is n 2 S) M)
def rs_msL (B : Nat → Nat) (n : Nat) (T : Nat → Nat) (F kd : Nat) : Nat → Nat → rS → rM → rS × rM
  | 0, _, S, M => (S, M)
  | j + 1, k, S, M => rs_msL B n T F kd j (k + 1) (rs_m1 B n T F kd k S M).1 (rs_m1 B n T F kd k S M).2
theorem rs_msL_s (B : Nat → Nat) (n : Nat) (T : Nat → Nat) (F kd j k : Nat) (S : rS) (M : rM) : rs_msL B n T F kd (j + 1) k S M = rs_msL B n T F kd j (k + 1) (rs_m1 B n T F kd k S M).1 (rs_m1 B n T F kd k S M).2 := rfl
theorem rs_msL_e (B : Nat → Nat) (n : Nat) (T : Nat → Nat) (F kd : Nat) (e : Nat × Nat) : ∀ j k M, (rs_msL B n T F kd j k (.inr e) M).1 = .inr e
  | 0, _, _ => rfl
  | j + 1, k, M => by
    have h : (rs_m1 B n T F kd k (.inr e) M).1 = .inr e := by unfold rs_m1; rw [rs_mb_e, rs_tb_e]
    rw [rs_msL_s, h]
    exact rs_msL_e B n T F kd e j (k + 1) _
def rs_ms (B : Nat → Nat) (n : Nat) (T : Nat → Nat) (F kd : Nat) (S : rS) (M : rM) : rS × rM := rs_msL B n T F kd (rs_iv B n 2 S) 0 (rs_w (decide (rs_iv B n 2 S ≤ 16)) 12 (rs_p S) (rs_is n 2 S)) M
theorem tb_c (B : Nat → Nat) (n : Nat) (T : Nat → Nat) (kd o cty : Nat) (S : rS) (M : rM) : (rs_tb B n T kd o cty S M).2.c = M.c ∧ (rs_tb B n T kd o cty S M).2.np = M.np := tbL_c ..
theorem nt_c (kd k : Nat) (S : rS) (M : rM) : (mb_nt kd k S M).c kd = k + 1 := updN_s
set_option maxRecDepth 100000 in
theorem c_msL {L : Nat} {xs : Nat → Int32} {d b n g F : Nat} {B T : Nat → Nat} {fp : Int32} {kd c : Nat} {y : Int32} {h0 : List qx_E} {Q : Option Value → List qx_E → Prop} (hkd : kd < 3) (hc9 : c < 65536) : ∀ j k S0 M (h : List qx_E) (a : Nat → Nat → Int32), TS h b B n S0 fp a → RG h b g → fr b h0 h → (snd S0 → RC B n T F fp a M ∧ M.c kd = k ∧ c ≤ 16) → k + j = c → (∀ h' a', TS h' b B n (rs_msL B n T F kd j k S0 M).1 fp a' → fr b h0 h' → (snd (rs_msL B n T F kd j k S0 M).1 → RC B n T F fp a' (rs_msL B n T F kd j k S0 M).2) → Q none h') → wp_W L xs (d + 8) 77 40 [(0, .ref g), (1, .int (nI kd)), (2, .int y), (3, .int (nI c)), (4, .int (nI k))] [] h Q := by
  intro j
  induction j with
  | zero =>
    intro k S0 M h a hT hg hf hH hi hK
    refine wp_iload dq_77_40 rfl ?_
    refine wp_iload_n dq_77_42 rfl ?_
    refine wp_ic_ge (tgt := 76) dq_77_43 rfl (fun c1 => ?_) (fun c1 => absurd (nI_le (by omega) (by omega)) c1)
    exact wp_vre dq_77_76 rfl (hK h a hT hf (fun hq => (hH hq).1))
  | succ j ih =>
    intro k S0 M h a hT hg hf hH hi hK
    obtain ⟨s0, hb, hw, hm0, h00, hq0⟩ := TS_x hT
    rcases snd_or S0 with hs | ⟨e0, rfl⟩
    rotate_left
    · have hE := hK h a (by rw [rs_msL_e]; exact hT) hf (fun hq => by rw [rs_msL_e] at hq; exact absurd hq not_snd)
      refine wp_iload dq_77_40 rfl ?_
      refine wp_iload_n dq_77_42 rfl ?_
      refine wp_ic_ge (tgt := 76) dq_77_43 rfl (fun c1 => absurd c1 (nI_ge (by omega) (by omega))) (fun c1 => ?_)
      refine wp_aload_n dq_77_46 rfl ?_
      refine wp_getf dq_77_47 fl_77_26 hg.2 rfl ?_
      refine wp_cve0 dq_77_50 mt_77_69 (ob_of (tb_c2 hb)) ⟨by decide +kernel, by decide +kernel⟩ (Nat.le_of_ble_eq_true rfl) (Nat.le_of_ble_eq_true rfl) (c_soundT hT) ?_
      refine wp_if_eq (tgt := 76) dq_77_53 rfl (fun c2 => wp_vre dq_77_76 rfl hE) (fun c2 => absurd rfl c2)
    · have hk16 : k < 16 := by have := (hH hs).2.2; omega
      refine wp_iload dq_77_40 rfl ?_
      refine wp_iload_n dq_77_42 rfl ?_
      refine wp_ic_ge (tgt := 76) dq_77_43 rfl (fun c1 => ?_) (fun c1 => ?_)
      · exact absurd c1 (nI_ge (by omega) (by omega))
      · refine wp_aload_n dq_77_46 rfl ?_
        refine wp_getf dq_77_47 fl_77_26 hg.2 rfl ?_
        refine wp_cve0 dq_77_50 mt_77_69 (ob_of (tb_c2 hb)) ⟨by decide +kernel, by decide +kernel⟩ (Nat.le_of_ble_eq_true rfl) (Nat.le_of_ble_eq_true rfl) (c_soundT hT) ?_
        refine wp_if_eq (tgt := 76) dq_77_53 rfl (fun c2 => ?_) (fun c2 => ?_)
        · exact absurd c2 (ok_1 hs)
        · refine wp_aload_n dq_77_56 rfl ?_
          refine wp_iload_n dq_77_57 rfl ?_
          refine wp_iload dq_77_58 rfl ?_
          refine wp_cv2 dq_77_60 mt_77_94 (ob_of hg.2) ⟨by decide +kernel, by decide +kernel⟩ (Nat.le_of_ble_eq_true rfl) (Nat.le_of_ble_eq_true rfl) (c_mb (F := F) (M := M) hT (fun hq => (hH hq).1) hg hkd hk16 (fun hq => (hH hq).2.1)) (fun v9 h9 q9 => ?_)
          obtain ⟨rfl, a1, hT, hf9, hX⟩ := q9
          have hg := RG_fr hg hf9
          have hf := fr_tr hf hf9
          clear hf9
          have hY : snd (rs_mb B n T F kd k M S0) → kd = 0 → tg B T (tyO B (mb_nt kd k (rs_is n 2 S0) M) kd k) = 1 ∧ k_ft B T (tyO B (mb_nt kd k (rs_is n 2 S0) M) kd k) = true := fun hq h0 => ⟨(nt_ty (sp_mb rfl hq).2.2.2.1).2.2.1, (nt_ty (sp_mb rfl hq).2.2.2.1).2.2.2.2 (by omega)⟩
          generalize hS1 : rs_mb B n T F kd k M S0 = S1 at hT hX hY
          obtain ⟨s1, hb, hw, hm1, h01, hq1⟩ := TS_x hT
          refine wp_aload_n dq_77_63 rfl ?_
          refine wp_iload_n dq_77_64 rfl ?_
          refine wp_iload dq_77_65 rfl ?_
          refine wp_cv2 dq_77_67 mt_77_98 (ob_of hg.2) ⟨by decide +kernel, by decide +kernel⟩ (Nat.le_of_ble_eq_true rfl) (Nat.le_of_ble_eq_true rfl) (c_tb (F := F) (kd := kd) (k := k) (M := mb_nt kd k (rs_is n 2 S0) M) (cty := tyO B (mb_nt kd k (rs_is n 2 S0) M) kd k) hT hg (by omega) hk16 (fun hq => ⟨hX hq, by rw [nt_c]; omega, rfl, hY hq⟩)) (fun v9 h9 q9 => ?_)
          obtain ⟨rfl, a2, hT, hf9, hX2⟩ := q9
          have hg := RG_fr hg hf9
          have hf := fr_tr hf hf9
          clear hf9
          refine wp_iinc (y := ((nI k) + 1)) (lv' := [(0, .ref g), (1, .int (nI kd)), (2, .int y), (3, .int (nI c)), (4, .int ((nI k) + 1))]) dq_77_70 rfl rfl (by decide) rfl ?_
          refine wp_goto (tgt := 40) dq_77_73 rfl ?_
          have e9 : rs_m1 B n T F kd k S0 M = rs_tb B n T kd (16 * kd + k) (tyO B (mb_nt kd k (rs_is n 2 S0) M) kd k) S1 (mb_nt kd k (rs_is n 2 S0) M) := by rw [rs_m1, hS1]
          rw [nI_1]
          rw [rs_msL_s, e9] at hK
          refine ih (k + 1) _ _ _ a2 hT hg hf (fun hq => ⟨hX2 hq, ?_, (hH (sd_mb hS1 (sd_tb rfl hq))).2.2⟩) (by omega) hK
          rw [(tb_c ..).1, nt_c]
set_option maxRecDepth 100000 in
theorem c_msK {L : Nat} {xs : Nat → Int32} {d b n g F : Nat} {B T : Nat → Nat} {fp : Int32} {S0 : rS} {h : List qx_E} {a : Nat → Nat → Int32} {M : rM} {Q : Option Value → List qx_E → Prop} {kd : Nat} (hT : TS h b B n S0 fp a) (hC : snd S0 → RC B n T F fp a M ∧ M.c kd = 0) (hg : RG h b g) (hkd : kd < 3) (hK : ∀ h' a', TS h' b B n (rs_ms B n T F kd S0 M).1 fp a' → fr b h h' → (snd (rs_ms B n T F kd S0 M).1 → RC B n T F fp a' (rs_ms B n T F kd S0 M).2) → Q none h') : wp_W L xs (d + 8) 77 0 (lv_args 0 [.ref g, .int (nI kd)]) [] h Q := by
  have hN9 : rs_iv B n 2 S0 < 65536 := iv2_lt hT
  show wp_W L xs _ 77 0 [(0, .ref g), (1, .int (nI kd))] [] h _
  obtain ⟨s0, hb, hw, hm0, h00, hq0⟩ := TS_x hT
  have hf : fr b h h := fr_rf
  refine wp_aload_n dq_77_0 rfl ?_
  refine wp_getf dq_77_1 fl_77_26 hg.2 rfl ?_
  refine wp_getf dq_77_4 fl_77_52 (tb_c2 hb) rfl ?_
  refine wp_istore_n (lv' := [(0, .ref g), (1, .int (nI kd)), (2, .int (s0 2))]) dq_77_7 (by decide) rfl ?_
  refine wp_aload_n dq_77_8 rfl ?_
  refine wp_getf dq_77_9 fl_77_26 hg.2 rfl ?_
  refine wp_cv0 dq_77_12 mt_77_39 (ob_of (tb_c2 hb)) ⟨by decide +kernel, by decide +kernel⟩ (Nat.le_of_ble_eq_true rfl) (Nat.le_of_ble_eq_true rfl) (c_u2T hT) (fun v9 h9 q9 => ?_)
  obtain ⟨rfl, hT, hf9⟩ := q9
  have hg := RG_fr hg hf9
  have hf := fr_tr hf hf9
  clear hf9
  generalize hS1 : rs_is n 2 S0 = S1 at hT
  obtain ⟨s1, hb, hw, hm1, h01, hq1⟩ := TS_x hT
  refine wp_istore_n (lv' := [(0, .ref g), (1, .int (nI kd)), (2, .int (s0 2)), (3, .int (nI (rs_iv B n 2 S0)))]) dq_77_15 (by decide) rfl ?_
  refine wp_aload_n dq_77_16 rfl ?_
  refine wp_getf dq_77_17 fl_77_26 hg.2 rfl ?_
  have hj20 : ∀ z9 : Int32, (snd S1 → z9 = bI ((decide (rs_iv B n 2 S0 ≤ 16)))) → wp_W L xs (d + 8) 77 31 [(0, .ref g), (1, .int (nI kd)), (2, .int (s0 2)), (3, .int (nI (rs_iv B n 2 S0)))] (.int z9 :: .ref (b + 2) :: []) h9 Q := by
    intro z9 hz9
    refine wp_bipush (x := 12) dq_77_31 rfl ?_
    refine wp_iload_n dq_77_33 rfl ?_
    refine wp_cv3 dq_77_34 mt_77_35 (ob_of (tb_c2 hb)) ⟨by decide +kernel, by decide +kernel⟩ (Nat.le_of_ble_eq_true rfl) (Nat.le_of_ble_eq_true rfl) (c_wantB (c := (decide (rs_iv B n 2 S0 ≤ 16))) (f := 12) (p := (rs_p S0)) hT (by decide) (fun hq => hz9 hq) (fun hq => TS_p hm0 (sd_is hS1 hq))) (fun v9 h9 q9 => ?_)
    obtain ⟨rfl, hT, hf9⟩ := q9
    have hg := RG_fr hg hf9
    have hf := fr_tr hf hf9
    clear hf9
    generalize hS2 : rs_w (decide (rs_iv B n 2 S0 ≤ 16)) 12 (rs_p S0) S1 = S2 at hT
    obtain ⟨s2, hb, hw, hm2, h02, hq2⟩ := TS_x hT
    refine wp_iconst (x := 0) dq_77_37 rfl ?_
    refine wp_istore (lv' := [(0, .ref g), (1, .int (nI kd)), (2, .int (s0 2)), (3, .int (nI (rs_iv B n 2 S0))), (4, .int 0)]) dq_77_38 (by decide) rfl ?_
    exact c_msL hkd hN9 (rs_iv B n 2 S0) 0 S2 M h9 a hT hg hf (fun hq => ⟨(hC (sd_is hS1 (sd_w hS2 hq))).1, (hC (sd_is hS1 (sd_w hS2 hq))).2, of_decide_eq_true (sd_wc hS2 hq).1⟩) (by omega) (by rw [rs_ms, hS1, hS2] at hK; exact hK)
  refine wp_iload_n dq_77_20 rfl ?_
  refine wp_bipush (x := 16) dq_77_21 rfl ?_
  refine wp_ic_gt (tgt := 30) dq_77_23 rfl (fun c1 => ?_) (fun c1 => ?_)
  · refine wp_iconst (x := 0) dq_77_30 rfl ?_
    exact hj20 _ (fun hq => by have xc1 : (decide (rs_iv B n 2 S0 ≤ 16)) = false := decide_eq_false (fun r => absurd c1 (nI_nlt (a := 16) r (by decide))); rw [xc1] <;> rfl)
  · refine wp_iconst (x := 1) dq_77_26 rfl ?_
    refine wp_goto (tgt := 31) dq_77_27 rfl ?_
    exact hj20 _ (fun hq => by have xc1 : (decide (rs_iv B n 2 S0 ≤ 16)) = true := decide_eq_true (by rcases Nat.lt_or_ge 16 (rs_iv B n 2 S0) with r | r; exact absurd (nI_lt (a := 16) r (by omega)) c1; exact r); rw [xc1] <;> rfl)
def rs_we (n : Nat) (S : rS) : rS := rs_w (rs_p S == n) 11 (rs_p S) S
set_option maxRecDepth 100000 in
theorem c_weK {L : Nat} {xs : Nat → Int32} {d b n g : Nat} {B : Nat → Nat} {fp : Int32} {S0 : rS} {h : List qx_E} {a : Nat → Nat → Int32} {Q : Option Value → List qx_E → Prop} (hT : TS h b B n S0 fp a) (hg : RG h b g) (hK : ∀ h', TS h' b B n (rs_we n S0) fp a → fr b h h' → Q none h') : wp_W L xs (d + 1) 104 0 (lv_args 0 [.ref g]) [] h Q := by
  show wp_W L xs _ 104 0 [(0, .ref g)] [] h _
  obtain ⟨s0, hb, hc, hO, hn, h00, hsz, hm0⟩ := id hT
  have hf : fr b h h := fr_rf
  refine wp_aload_n dq_104_0 rfl ?_
  refine wp_getf dq_104_1 fl_104_26 hg.2 rfl ?_
  have hj4 : ∀ z9 : Int32, (snd S0 → z9 = bI ((rs_p S0 == n))) → wp_W L xs (d + 1) 104 26 [(0, .ref g)] (.int z9 :: .ref (b + 2) :: []) h Q := by
    intro z9 hz9
    refine wp_bipush (x := 11) dq_104_26 rfl ?_
    refine wp_aload_n dq_104_28 rfl ?_
    refine wp_getf dq_104_29 fl_104_26 hg.2 rfl ?_
    refine wp_getf dq_104_32 fl_104_52 (tb_c2 hb) rfl ?_
    refine wp_cv3 dq_104_35 mt_104_35 (ob_of (tb_c2 hb)) ⟨by decide +kernel, by decide +kernel⟩ (Nat.le_of_ble_eq_true rfl) (Nat.le_of_ble_eq_true rfl) (c_wantB (c := (rs_p S0 == n)) (f := 11) (p := (rs_p S0)) hT (by decide) (fun hq => hz9 hq) (fun hq => TS_p hm0 hq)) (fun v9 h9 q9 => ?_)
    obtain ⟨rfl, hT, hf9⟩ := q9
    have hg := RG_fr hg hf9
    have hf := fr_tr hf hf9
    clear hf9
    generalize hS1 : rs_w (rs_p S0 == n) 11 (rs_p S0) S0 = S1 at hT
    obtain ⟨s1, hb, hw, hm1, h01, hq1⟩ := TS_x hT
    exact wp_vre dq_104_38 rfl (hK h9 (by rw [rs_we, hS1]; exact hT) hf)
  refine wp_aload_n dq_104_4 rfl ?_
  refine wp_getf dq_104_5 fl_104_26 hg.2 rfl ?_
  refine wp_getf dq_104_8 fl_104_52 (tb_c2 hb) rfl ?_
  refine wp_aload_n dq_104_11 rfl ?_
  refine wp_getf dq_104_12 fl_104_26 hg.2 rfl ?_
  refine wp_getf dq_104_15 fl_104_212 (tb_c2 hb) rfl ?_
  refine wp_ic_ne (tgt := 25) dq_104_18 rfl (fun c1 => ?_) (fun c1 => ?_)
  · refine wp_iconst (x := 0) dq_104_25 rfl ?_
    exact hj4 _ (fun hq => by have xc1 : (rs_p S0 == n) = false := beq_eq_false_iff_ne.mpr (fun r => c1 (by rw [TS_p hm0 hq, hsz, r])); rw [xc1] <;> rfl)
  · refine wp_iconst (x := 1) dq_104_21 rfl ?_
    refine wp_goto (tgt := 26) dq_104_22 rfl ?_
    exact hj4 _ (fun hq => by have xc1 : (rs_p S0 == n) = true := beq_iff_eq.mpr ((nI_eq (by have := TS_pn hm0; omega) (by omega)).mp (by rw [← TS_p hm0 hq, ← hsz]; exact c1)); rw [xc1] <;> rfl)
