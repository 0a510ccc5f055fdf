def rs_r1 (B : Nat → Nat) (n : Nat) (T : Nat → Nat) (k : Nat) (S : rS) (M : rM) : rS × rM := rs_tb B n T 2 (16 * 2 + k) (tyO B (mb_nt 2 k S M) 2 k) (rs_nt B n T 2 S) (mb_nt 2 k S M)
def rs_rcL (B : Nat → Nat) (n : Nat) (T : Nat → Nat) : Nat → Nat → rS → rM → rS × rM
  | 0, _, S, M => (S, M)
  | j + 1, k, S, M => rs_rcL B n T j (k + 1) (rs_r1 B n T k S M).1 (rs_r1 B n T k S M).2
theorem rs_rcL_s (B : Nat → Nat) (n : Nat) (T : Nat → Nat) (j k : Nat) (S : rS) (M : rM) : rs_rcL B n T (j + 1) k S M = rs_rcL B n T j (k + 1) (rs_r1 B n T k S M).1 (rs_r1 B n T k S M).2 := rfl
theorem rs_rcL_e (B : Nat → Nat) (n : Nat) (T : Nat → Nat) (e : Nat × Nat) : ∀ j k M, (rs_rcL B n T j k (.inr e) M).1 = .inr e
  | 0, _, _ => rfl
  | j + 1, k, M => by
    have h : (rs_r1 B n T k (.inr e) M).1 = .inr e := rs_tb_e ..
    rw [rs_rcL_s, h]
    exact rs_rcL_e B n T e j (k + 1) _
def rs_rc3 (B : Nat → Nat) (n : Nat) (S : rS) : rS := rs_w (decide (rs_iv B n 2 (rs_li1 B S) ≤ 16)) 12 (rs_p S) (rs_is n 2 (rs_li1 B S))
def rs_rc4 (B : Nat → Nat) (n : Nat) (T : Nat → Nat) (S : rS) (M : rM) : rS × rM := rs_rcL B n T (rs_iv B n 2 (rs_li1 B S)) 0 (rs_rc3 B n S) M
def rs_rc (B : Nat → Nat) (n : Nat) (T : Nat → Nat) (S : rS) (M : rM) : rS × rM := (rs_w (bu_U B (rs_p S - 4) 4 == rs_p (rs_rc4 B n T S M).1 - rs_p S) 10 (rs_p S - 4) (rs_rc4 B n T S M).1, (rs_rc4 B n T S M).2)
theorem rs_rc_e (B : Nat → Nat) (n : Nat) (T : Nat → Nat) (M : rM) (e : Nat × Nat) : (rs_rc B n T (.inr e) M).1 = .inr e := by
  have h : (rs_rc4 B n T (.inr e) M).1 = .inr e := rs_rcL_e ..
  unfold rs_rc
  dsimp only
  rw [h]
  rfl
set_option maxRecDepth 100000 in
theorem c_rcL {L : Nat} {xs : Nat → Int32} {d b n g F : Nat} {B T : Nat → Nat} {fp : Int32} {c : Nat} {x y : Int32} {z : Int64} {h0 : List qx_E} {Q : Option Value → List qx_E → Prop} (hc9 : c < 65536) : ∀ j k S0 M (h : List qx_E) (a : Nat → Nat → Int32), TS h b B n S0 fp a → RG h b g → fr b h0 h → (snd S0 → RC B n T F fp a M ∧ M.c 2 = k ∧ c ≤ 16) → k + j = c → (∀ h' a' k', TS h' b B n (rs_rcL B n T j k S0 M).1 fp a' → RG h' b g → fr b h0 h' → (snd (rs_rcL B n T j k S0 M).1 → RC B n T F fp a' (rs_rcL B n T j k S0 M).2) → wp_W L xs (d + 8) 103 116 [(0, .ref g), (1, .int x), (2, .int y), (3, .long z), (5, .int (nI c)), (6, .int (nI k'))] [] h' Q) → wp_W L xs (d + 8) 103 79 [(0, .ref g), (1, .int x), (2, .int y), (3, .long z), (5, .int (nI c)), (6, .int (nI k))] [] h Q := by
  intro j
  induction j with
  | zero =>
    intro k S0 M h a hT hg hf hH hi hK
    refine wp_iload dq_103_79 rfl ?_
    refine wp_iload dq_103_81 rfl ?_
    refine wp_ic_ge (tgt := 116) dq_103_83 rfl (fun c1 => ?_) (fun c1 => absurd (nI_le (by omega) (by omega)) c1)
    exact hK h a k hT hg hf (fun hq => (hH hq).1)
  | succ j ih =>
    intro k S0 M h a hT hg hf hH hi hK
    obtain ⟨s0, hb, hw, hm0, h00, hq0⟩ := TS_x hT
    rcases snd_or S0 with hs | ⟨e0, rfl⟩
    rotate_left
    · have hE := hK h a k (by rw [rs_rcL_e]; exact hT) hg hf (fun hq => by rw [rs_rcL_e] at hq; exact absurd hq not_snd)
      refine wp_iload dq_103_79 rfl ?_
      refine wp_iload dq_103_81 rfl ?_
      refine wp_ic_ge (tgt := 116) dq_103_83 rfl (fun c1 => absurd c1 (nI_ge (by omega) (by omega))) (fun c1 => ?_)
      refine wp_aload_n dq_103_86 rfl ?_
      refine wp_getf dq_103_87 fl_103_26 hg.2 rfl ?_
      refine wp_cve0 dq_103_90 mt_103_69 (ob_of (tb_c2 hb)) ⟨by decide +kernel, by decide +kernel⟩ (Nat.le_of_ble_eq_true rfl) (Nat.le_of_ble_eq_true rfl) (c_soundT hT) ?_
      refine wp_if_eq (tgt := 116) dq_103_93 rfl (fun c2 => hE) (fun c2 => absurd rfl c2)
    · have hk16 : k < 16 := by have := (hH hs).2.2; omega
      refine wp_iload dq_103_79 rfl ?_
      refine wp_iload dq_103_81 rfl ?_
      refine wp_ic_ge (tgt := 116) dq_103_83 rfl (fun c1 => ?_) (fun c1 => ?_)
      · exact absurd c1 (nI_ge (by omega) (by omega))
      · refine wp_aload_n dq_103_86 rfl ?_
        refine wp_getf dq_103_87 fl_103_26 hg.2 rfl ?_
        refine wp_cve0 dq_103_90 mt_103_69 (ob_of (tb_c2 hb)) ⟨by decide +kernel, by decide +kernel⟩ (Nat.le_of_ble_eq_true rfl) (Nat.le_of_ble_eq_true rfl) (c_soundT hT) ?_
        refine wp_if_eq (tgt := 116) dq_103_93 rfl (fun c2 => ?_) (fun c2 => ?_)
        · exact absurd c2 (ok_1 hs)
        · refine wp_aload_n dq_103_96 rfl ?_
          refine wp_iconst (x := 2) dq_103_97 rfl ?_
          refine wp_iload dq_103_98 rfl ?_
          refine wp_cv2 dq_103_100 mt_103_101 (ob_of hg.2) ⟨by decide +kernel, by decide +kernel⟩ (Nat.le_of_ble_eq_true rfl) (Nat.le_of_ble_eq_true rfl) (c_nt (F := F) (M := M) (kd := 2) (k := k) hT (fun hq => (hH hq).1) hg (by decide) hk16 (fun hq => (hH hq).2.1)) (fun v9 h9 q9 => ?_)
          obtain ⟨rfl, a1, hT, hf9, hX⟩ := q9
          have hg := RG_fr hg hf9
          have hf := fr_tr hf hf9
          clear hf9
          have hY : snd (rs_nt B n T 2 S0) → 2 = 0 → tg B T (tyO B (mb_nt 2 k S0 M) 2 k) = 1 ∧ k_ft B T (tyO B (mb_nt 2 k S0 M) 2 k) = true := fun hq h0 => absurd h0 (by decide)
          generalize hS1 : rs_nt B n T 2 S0 = S1 at hT hX hY
          obtain ⟨s1, hb, hw, hm1, h01, hq1⟩ := TS_x hT
          refine wp_aload_n dq_103_103 rfl ?_
          refine wp_iconst (x := 2) dq_103_104 rfl ?_
          refine wp_iload dq_103_105 rfl ?_
          refine wp_cv2 dq_103_107 mt_103_98 (ob_of hg.2) ⟨by decide +kernel, by decide +kernel⟩ (Nat.le_of_ble_eq_true rfl) (Nat.le_of_ble_eq_true rfl) (c_tb (F := F) (kd := 2) (k := k) (M := mb_nt 2 k S0 M) (cty := tyO B (mb_nt 2 k S0 M) 2 k) hT hg (by omega) hk16 (fun hq => ⟨hX hq, by rw [nt_c]; omega, rfl, hY hq⟩)) (fun v9 h9 q9 => ?_)
          obtain ⟨rfl, a2, hT, hf9, hX2⟩ := q9
          have hg := RG_fr hg hf9
          have hf := fr_tr hf hf9
          clear hf9
          refine wp_iinc (y := ((nI k) + 1)) (lv' := [(0, .ref g), (1, .int x), (2, .int y), (3, .long z), (5, .int (nI c)), (6, .int ((nI k) + 1))]) dq_103_110 rfl rfl (by decide) rfl ?_
          refine wp_goto (tgt := 79) dq_103_113 rfl ?_
          have e9 : rs_r1 B n T k S0 M = rs_tb B n T 2 (16 * 2 + k) (tyO B (mb_nt 2 k S0 M) 2 k) S1 (mb_nt 2 k S0 M) := by rw [rs_r1, hS1]
          rw [nI_1]
          rw [rs_rcL_s, e9] at hK
          refine ih (k + 1) _ _ _ a2 hT hg hf (fun hq => ⟨hX2 hq, ?_, (hH (sd_nt hS1 (sd_tb rfl hq))).2.2⟩) (by omega) hK
          rw [(tb_c ..).1, nt_c]
theorem rc_t {n : Nat} {s s9 : Nat → Int32} {S S9 : rS} (hm : tM s n S) (hq : snd S) (hl : rs_p S9 ≤ rs_p S) (h9 : s9 2 = nI (rs_p S9)) (hn : n ≤ 480 := by omega) : (s 2 - s9 2).toInt64 = lN (rs_p S - rs_p S9) := by
  have h1 := TS_pn hm
  rw [TS_p hm hq, h9, pk_sub hl, nI_l (by omega)]
theorem sp_at2 {B : Nat → Nat} {n : Nat} {T : Nat → Nat} {w : Nat} {S S' : rS} (e : rs_el B n T w S = S') (h : snd S') : rs_p S ≤ rs_p S' := by
  unfold rs_el at e
  split at e
  · obtain ⟨a1, a2, a3⟩ := sd_isp e h
    have h1 := sd_is e h
    obtain ⟨b1, -⟩ := sp_ix rfl h1
    have h2 := sd_ix rfl h1
    obtain ⟨c1, -⟩ := sp_ix rfl h2
    have h3 := sd_ix rfl h2
    obtain ⟨d1, -⟩ := sp_ix rfl h3
    rw [a3, b1, c1, d1]
    show rs_p S ≤ rs_p S + 2 + 2 + 2 + 2
    omega
  · rw [(sp_ix e h).1]
    show rs_p S ≤ rs_p S + 2
    omega
theorem sp_els {B : Nat → Nat} {n : Nat} {T : Nat → Nat} {w : Nat} : ∀ {j : Nat} {S S' : rS}, rs_els B n T w j S = S' → snd S' → rs_p S ≤ rs_p S' ∧ snd S
  | 0, S, S', e, h => by subst e; exact ⟨Nat.le_refl _, h⟩
  | j + 1, S, S', e, h => by
    obtain ⟨h1, h2⟩ := sp_els (j := j) e h
    exact ⟨Nat.le_trans (sp_at2 rfl h2) h1, sd_el rfl h2⟩
theorem sp_li {B : Nat → Nat} {n : Nat} {T : Nat → Nat} {w : Nat} {S S' : rS} (e : rs_li B n T w S = S') (h : snd S') : rs_p S ≤ rs_p S' := by
  obtain ⟨h1, h2⟩ := sp_els e h
  have h3 := sd_w rfl h2
  have e2 := (sd_wc rfl h2).2
  obtain ⟨a1, a2, a3⟩ := sd_isp rfl h3
  have h4 := (sd_wc rfl (sd_is rfl h3)).2
  have h5 : rs_li1 B S = S := h4
  rw [e2, a3, h5] at h1
  have h6 : rs_p S + 2 ≤ rs_p S' := h1
  omega
theorem sp_wl {B : Nat → Nat} {q : Nat} {S S' : rS} (e : rs_wl B q S = S') (h : snd S') : S' = S := (sd_wc e h).2
theorem sp_sg {B : Nat → Nat} {n : Nat} {T : Nat → Nat} {w cty : Nat} {S S' : rS} (e : rs_sg B n T w cty S = S') (h : snd S') : rs_p S ≤ rs_p S' := by
  unfold rs_sg at e
  split at e
  · rw [sp_wl e h]
    exact Nat.le_refl _
  · have h1 := sd_ix e h
    rw [(sp_ix e h).1, sp_wl rfl h1]
    show rs_p S ≤ rs_p S + 2
    omega
theorem sp_ah {B : Nat → Nat} {n : Nat} {T : Nat → Nat} {kd o : Nat} {M : rM} {S S' : rS} (e : rs_ah B n T kd o M S = S') (h : snd S') : rs_p S + 6 ≤ rs_p S' := by
  have h2 := sd_ah e h
  have h3 := (ah_p h2).1
  unfold rs_ah at e
  split at e
  · obtain ⟨a1, a2, a3⟩ := sd_isp e h
    rw [a3, h3]
    show rs_p S + 6 ≤ rs_p S + 6 + _
    omega
  · rw [(sd_wc e h).2, h3]
    exact Nat.le_refl _
theorem sp_at1 {B : Nat → Nat} {n : Nat} {T : Nat → Nat} {kd o cty : Nat} {M : rM} {S S' : rS} (e : rs_at1 B n T kd o cty M S = S') (h : snd S') : rs_p S + 6 ≤ rs_p S' ∧ snd S ∧ snd (rs_ah B n T kd o M S) := by
  unfold rs_at1 at e
  split at e
  · exact ⟨sp_ah e h, sd_ahS e h, by rw [e]; exact h⟩
  · split at e
    · have h1 := sd_li e h
      exact ⟨Nat.le_trans (sp_ah rfl h1) (sp_li e h), sd_ahS rfl h1, h1⟩
    · have h1 := sd_sg e h
      exact ⟨Nat.le_trans (sp_ah rfl h1) (sp_sg e h), sd_ahS rfl h1, h1⟩
theorem sp_tbL {B : Nat → Nat} {n : Nat} {T : Nat → Nat} {kd o cty : Nat} : ∀ {j : Nat} {S : rS} {M : rM}, snd (rs_tbL B n T kd o cty j S M).1 → rs_p S ≤ rs_p (rs_tbL B n T kd o cty j S M).1 ∧ snd S
  | 0, S, M, h => ⟨Nat.le_refl _, h⟩
  | j + 1, S, M, h => by
    rw [rs_tbL_s] at h ⊢
    obtain ⟨h1, h2⟩ := sp_tbL (j := j) h
    obtain ⟨h3, h4, -⟩ := sp_at1 rfl h2
    exact ⟨by omega, h4⟩
theorem sp_tb {B : Nat → Nat} {n : Nat} {T : Nat → Nat} {kd o cty : Nat} {S : rS} {M : rM} (h : snd (rs_tb B n T kd o cty S M).1) : rs_p S + 2 ≤ rs_p (rs_tb B n T kd o cty S M).1 ∧ snd S := by
  obtain ⟨h1, h2⟩ := sp_tbL h
  obtain ⟨a1, a2, a3⟩ := sd_isp rfl h2
  have ep : rs_p (rs_is n 2 S) = rs_p S + 2 := by rw [a3]; rfl
  rw [ep] at h1
  exact ⟨h1, sd_is rfl h2⟩
theorem sp_rcL {B : Nat → Nat} {n : Nat} {T : Nat → Nat} : ∀ {j k : Nat} {S : rS} {M : rM}, snd (rs_rcL B n T j k S M).1 → rs_p S ≤ rs_p (rs_rcL B n T j k S M).1 ∧ snd S
  | 0, k, S, M, h => ⟨Nat.le_refl _, h⟩
  | j + 1, k, S, M, h => by
    rw [rs_rcL_s] at h ⊢
    obtain ⟨h1, h2⟩ := sp_rcL (j := j) h
    obtain ⟨h3, h4⟩ := sp_tb h2
    obtain ⟨h5, h6, h7, -⟩ := sp_nt rfl h4
    have ep : rs_p (rs_nt B n T 2 S) = rs_p S + 4 := by rw [h5]; rfl
    rw [ep] at h3
    have h8 : rs_p S + 4 + 2 ≤ rs_p (rs_r1 B n T k S M).1 := h3
    exact ⟨by omega, h7⟩
theorem rc4_s {B : Nat → Nat} {n : Nat} {T : Nat → Nat} {S : rS} {M : rM} (h : snd (rs_rc4 B n T S M).1) : snd S ∧ rs_p S ≤ rs_p (rs_rc4 B n T S M).1 := by
  obtain ⟨h1, h2⟩ := sp_rcL h
  have h3 := sd_w rfl h2
  have e3 : rs_rc3 B n S = rs_is n 2 (rs_li1 B S) := (sd_wc rfl h2).2
  obtain ⟨a1, a2, a3⟩ := sd_isp rfl h3
  have h4 := sd_is rfl h3
  have e4 : rs_li1 B S = S := (sd_wc rfl h4).2
  have ep : rs_p (rs_rc3 B n S) = rs_p S + 2 := by rw [e3, a3, e4]; rfl
  rw [ep] at h1
  have h5 : rs_p S + 2 ≤ rs_p (rs_rc4 B n T S M).1 := h1
  exact ⟨sd_w rfl h4, by omega⟩
set_option maxRecDepth 100000 in
theorem c_rcT {L : Nat} {xs : Nat → Int32} {d b n g F : Nat} {B T : Nat → Nat} {fp : Int32} {S0 S9 : rS} {h h0 : List qx_E} {a5 a9 : Nat → Nat → Int32} {s9 : Nat → Int32} {M5 : rM} {c k : Int32} {Q : Option Value → List qx_E → Prop} {hm0 : tM s9 n S9} (hT : TS h b B n S0 fp a5) (hg : RG h b g) (hf : fr b h0 h) (hS : snd S0 → snd S9 ∧ rs_p S9 ≤ rs_p S0) (hL : snd S9 → s9 2 - 4 = nI (rs_p S9 - 4) ∧ f_numberAt s9 a9 (s9 2 - 4) 4 = lN (bu_U B (rs_p S9 - 4) 4) ∧ bu_U B (rs_p S9 - 4) 4 < 4294967296) (hX : snd S0 → RC B n T F fp a5 M5) (hK : ∀ h' a', TS h' b B n (rs_w (bu_U B (rs_p S9 - 4) 4 == rs_p S0 - rs_p S9) 10 (rs_p S9 - 4) S0) fp a' → fr b h0 h' → (snd (rs_w (bu_U B (rs_p S9 - 4) 4 == rs_p S0 - rs_p S9) 10 (rs_p S9 - 4) S0) → RC B n T F fp a' M5) → Q none h') : wp_W L xs (d + 8) 103 116 [(0, .ref g), (1, .int (s9 2)), (2, .int (s9 2 - 4)), (3, .long (f_numberAt s9 a9 (s9 2 - 4) 4)), (5, .int c), (6, .int k)] [] h Q := by
  have hm9 := hm0
  obtain ⟨s0, hb, hw, hm0, h00, hq0⟩ := TS_x hT
  have hn9 := hT.choose_spec.2.2.2.1
  refine wp_aload_n dq_103_116 rfl ?_
  refine wp_getf dq_103_117 fl_103_26 hg.2 rfl ?_
  have hj120 : ∀ z9 : Int32, (snd S0 → z9 = bI ((bu_U B (rs_p S9 - 4) 4 == rs_p S0 - rs_p S9))) → wp_W L xs (d + 8) 103 140 [(0, .ref g), (1, .int (s9 2)), (2, .int (s9 2 - 4)), (3, .long (f_numberAt s9 a9 (s9 2 - 4) 4)), (5, .int c), (6, .int k)] (.int z9 :: .ref (b + 2) :: []) h Q := by
    intro z9 hz9
    refine wp_bipush (x := 10) dq_103_140 rfl ?_
    refine wp_iload_n dq_103_142 rfl ?_
    refine wp_cv3 dq_103_143 mt_103_35 (ob_of (tb_c2 hb)) ⟨by decide +kernel, by decide +kernel⟩ (Nat.le_of_ble_eq_true rfl) (Nat.le_of_ble_eq_true rfl) (c_wantB (c := (bu_U B (rs_p S9 - 4) 4 == rs_p S0 - rs_p S9)) (f := 10) (p := (rs_p S9 - 4)) hT (by decide) (fun hq => hz9 hq) (fun hq => (hL (hS (id hq)).1).1)) (fun v9 h9 q9 => ?_)
    obtain ⟨rfl, hT, hf9⟩ := q9
    have hg := RG_fr hg hf9
    have hf := fr_tr hf hf9
    clear hf9
    generalize hS1 : rs_w (bu_U B (rs_p S9 - 4) 4 == rs_p S0 - rs_p S9) 10 (rs_p S9 - 4) S0 = S1 at hT
    obtain ⟨s1, hb, hw, hm1, h01, hq1⟩ := TS_x hT
    subst hS1
    exact wp_vre dq_103_146 rfl (hK h9 a5 hT hf (fun hq => hX (sd_w rfl hq)))
  refine wp_lload_n dq_103_120 rfl ?_
  refine wp_aload_n dq_103_121 rfl ?_
  refine wp_getf dq_103_122 fl_103_26 hg.2 rfl ?_
  refine wp_getf dq_103_125 fl_103_52 (tb_c2 hb) rfl ?_
  refine wp_iload_n dq_103_128 rfl ?_
  refine wp_isub dq_103_129 ?_
  refine wp_i2l dq_103_130 ?_
  refine wp_lcmp dq_103_131 ?_
  refine wp_if_ne (tgt := 139) dq_103_132 rfl (fun c1 => ?_) (fun c1 => ?_)
  · refine wp_iconst (x := 0) dq_103_139 rfl ?_
    exact hj120 _ (fun hq => by have xc1 : (bu_U B (rs_p S9 - 4) 4 == rs_p S0 - rs_p S9) = false := beq_eq_false_iff_ne.mpr (fun r => c1 (by rw [(hL (hS hq).1).2.1, rc_t hm0 hq (hS hq).2 (TS_p hm9 (hS hq).1)]; exact (lc_eq (by have := (hL (hS hq).1).2.2; omega) (by have := TS_pn hm0; omega)).mpr r)); rw [xc1] <;> rfl)
  · refine wp_iconst (x := 1) dq_103_135 rfl ?_
    refine wp_goto (tgt := 140) dq_103_136 rfl ?_
    exact hj120 _ (fun hq => by have xc1 : (bu_U B (rs_p S9 - 4) 4 == rs_p S0 - rs_p S9) = true := beq_iff_eq.mpr ((lc_eq (by have := (hL (hS hq).1).2.2; omega) (by have := TS_pn hm0; omega)).mp (by rw [← rc_t hm0 hq (hS hq).2 (TS_p hm9 (hS hq).1), ← (hL (hS hq).1).2.1]; exact c1)); rw [xc1] <;> rfl)
set_option maxRecDepth 100000 in
theorem c_rcK {L : Nat} {xs : Nat → Int32} {d b n g F : Nat} {B T : Nat → Nat} {fp : Int32} {S0 : rS} {h : List qx_E} {a : Nat → Nat → Int32} {M : rM} {Q : Option Value → List qx_E → Prop} (hT : TS h b B n S0 fp a) (hC : snd S0 → RC B n T F fp a M ∧ M.c 2 = 0) (hg : RG h b g) (h4 : snd S0 → 4 ≤ rs_p S0) (hK : ∀ h' a', TS h' b B n (rs_rc B n T S0 M).1 fp a' → fr b h h' → (snd (rs_rc B n T S0 M).1 → RC B n T F fp a' (rs_rc B n T S0 M).2) → Q none h') : wp_W L xs (d + 8) 103 0 (lv_args 0 [.ref g]) [] h Q := by
  show wp_W L xs _ 103 0 [(0, .ref g)] [] h _
  obtain ⟨s0, hb, hw, hm0, h00, hq0⟩ := TS_x hT
  have hf : fr b h h := fr_rf
  refine wp_aload_n dq_103_0 rfl ?_
  refine wp_getf dq_103_1 fl_103_26 hg.2 rfl ?_
  refine wp_getf dq_103_4 fl_103_52 (tb_c2 hb) rfl ?_
  refine wp_istore_n (lv' := [(0, .ref g), (1, .int (s0 2))]) dq_103_7 (by decide) rfl ?_
  refine wp_iload_n dq_103_8 rfl ?_
  refine wp_iconst (x := 4) dq_103_9 rfl ?_
  refine wp_isub dq_103_10 ?_
  refine wp_istore_n (lv' := [(0, .ref g), (1, .int (s0 2)), (2, .int ((s0 2) - 4))]) dq_103_11 (by decide) rfl ?_
  refine wp_aload_n dq_103_12 rfl ?_
  refine wp_getf dq_103_13 fl_103_26 hg.2 rfl ?_
  refine wp_iload_n dq_103_16 rfl ?_
  refine wp_iconst (x := 4) dq_103_17 rfl ?_
  refine wp_cve2 dq_103_18 mt_103_202 (ob_of (tb_c2 hb)) ⟨by decide +kernel, by decide +kernel⟩ (Nat.le_of_ble_eq_true rfl) (Nat.le_of_ble_eq_true rfl) (c_numAt 4 rfl (by decide) hb hw) ?_
  refine wp_lstore_n (lv' := [(0, .ref g), (1, .int (s0 2)), (2, .int ((s0 2) - 4)), (3, .long (f_numberAt s0 a ((s0 2) - 4) 4))]) dq_103_21 (by decide) rfl ?_
  refine wp_aload_n dq_103_22 rfl ?_
  refine wp_getf dq_103_23 fl_103_26 hg.2 rfl ?_
  have hj26 : ∀ z9 : Int32, (snd S0 → z9 = bI ((decide (2 ≤ bu_U B (rs_p S0 - 4) 4)))) → wp_W L xs (d + 8) 103 39 [(0, .ref g), (1, .int (s0 2)), (2, .int ((s0 2) - 4)), (3, .long (f_numberAt s0 a ((s0 2) - 4) 4))] (.int z9 :: .ref (b + 2) :: []) h Q := by
    intro z9 hz9
    refine wp_bipush (x := 10) dq_103_39 rfl ?_
    refine wp_iload_n dq_103_41 rfl ?_
    refine wp_cv3 dq_103_42 mt_103_35 (ob_of (tb_c2 hb)) ⟨by decide +kernel, by decide +kernel⟩ (Nat.le_of_ble_eq_true rfl) (Nat.le_of_ble_eq_true rfl) (c_wantB (c := (decide (2 ≤ bu_U B (rs_p S0 - 4) 4))) (f := 10) (p := (rs_p S0 - 4)) hT (by decide) (fun hq => hz9 hq) (fun hq => (wl_n (hq0 _ (hC hq).1.1.1 (hC hq).1.1.2.1) hm0 hq (h4 hq)).1)) (fun v9 h9 q9 => ?_)
    obtain ⟨rfl, hT, hf9⟩ := q9
    have hg := RG_fr hg hf9
    have hf := fr_tr hf hf9
    clear hf9
    generalize hS1 : rs_w (decide (2 ≤ bu_U B (rs_p S0 - 4) 4)) 10 (rs_p S0 - 4) S0 = S1 at hT
    obtain ⟨s1, hb, hw, hm1, h01, hq1⟩ := TS_x hT
    refine wp_aload_n dq_103_45 rfl ?_
    refine wp_getf dq_103_46 fl_103_26 hg.2 rfl ?_
    refine wp_cv0 dq_103_49 mt_103_39 (ob_of (tb_c2 hb)) ⟨by decide +kernel, by decide +kernel⟩ (Nat.le_of_ble_eq_true rfl) (Nat.le_of_ble_eq_true rfl) (c_u2T hT) (fun v9 h9 q9 => ?_)
    obtain ⟨rfl, hT, hf9⟩ := q9
    have hg := RG_fr hg hf9
    have hf := fr_tr hf hf9
    clear hf9
    generalize hS2 : rs_is n 2 S1 = S2 at hT
    obtain ⟨s2, hb, hw, hm2, h02, hq2⟩ := TS_x hT
    refine wp_istore (lv' := [(0, .ref g), (1, .int (s0 2)), (2, .int ((s0 2) - 4)), (3, .long (f_numberAt s0 a ((s0 2) - 4) 4)), (5, .int (nI (rs_iv B n 2 S1)))]) dq_103_52 (by decide) rfl ?_
    have hN9 : rs_iv B n 2 S1 < 65536 := iv2_lt hT
    refine wp_aload_n dq_103_54 rfl ?_
    refine wp_getf dq_103_55 fl_103_26 hg.2 rfl ?_
    have hj58 : ∀ z9 : Int32, (snd S2 → z9 = bI ((decide (rs_iv B n 2 S1 ≤ 16)))) → wp_W L xs (d + 8) 103 70 [(0, .ref g), (1, .int (s0 2)), (2, .int ((s0 2) - 4)), (3, .long (f_numberAt s0 a ((s0 2) - 4) 4)), (5, .int (nI (rs_iv B n 2 S1)))] (.int z9 :: .ref (b + 2) :: []) h9 Q := by
      intro z9 hz9
      refine wp_bipush (x := 12) dq_103_70 rfl ?_
      refine wp_iload_n dq_103_72 rfl ?_
      refine wp_cv3 dq_103_73 mt_103_35 (ob_of (tb_c2 hb)) ⟨by decide +kernel, by decide +kernel⟩ (Nat.le_of_ble_eq_true rfl) (Nat.le_of_ble_eq_true rfl) (c_wantB (c := (decide (rs_iv B n 2 S1 ≤ 16))) (f := 12) (p := (rs_p S0)) hT (by decide) (fun hq => hz9 hq) (fun hq => TS_p hm0 (sd_w hS1 (sd_is hS2 hq)))) (fun v9 h9 q9 => ?_)
      obtain ⟨rfl, hT, hf9⟩ := q9
      have hg := RG_fr hg hf9
      have hf := fr_tr hf hf9
      clear hf9
      generalize hS3 : rs_w (decide (rs_iv B n 2 S1 ≤ 16)) 12 (rs_p S0) S2 = S3 at hT
      obtain ⟨s3, hb, hw, hm3, h03, hq3⟩ := TS_x hT
      refine wp_iconst (x := 0) dq_103_76 rfl ?_
      refine wp_istore (lv' := [(0, .ref g), (1, .int (s0 2)), (2, .int ((s0 2) - 4)), (3, .long (f_numberAt s0 a ((s0 2) - 4) 4)), (5, .int (nI (rs_iv B n 2 S1))), (6, .int 0)]) dq_103_77 (by decide) rfl ?_
      have e3 : rs_rc3 B n S0 = S3 := by rw [rs_rc3, rs_li1, hS1, hS2, hS3]
      have e1 : rs_li1 B S0 = S1 := hS1
      refine c_rcL hN9 (rs_iv B n 2 S1) 0 S3 M h9 a hT hg hf (fun hq => ⟨(hC (sd_w hS1 (sd_is hS2 (sd_w hS3 hq)))).1, (hC (sd_w hS1 (sd_is hS2 (sd_w hS3 hq)))).2, of_decide_eq_true (sd_wc hS3 hq).1⟩) (by omega) (fun h5 a5 k5 hT5 hg5 hf5 hX5 => ?_)
      have e4 : rs_rcL B n T (rs_iv B n 2 S1) 0 S3 M = rs_rc4 B n T S0 M := by rw [rs_rc4, e1, e3]
      rw [e4] at hT5 hX5
      exact c_rcT (hm0 := hm0) hT5 hg5 hf5 (fun hq => rc4_s hq) (fun hq => wl_n (hq0 _ (hC hq).1.1.1 (hC hq).1.1.2.1) hm0 hq (h4 hq)) hX5 hK
    refine wp_iload dq_103_58 rfl ?_
    refine wp_bipush (x := 16) dq_103_60 rfl ?_
    refine wp_ic_gt (tgt := 69) dq_103_62 rfl (fun c1 => ?_) (fun c1 => ?_)
    · refine wp_iconst (x := 0) dq_103_69 rfl ?_
      exact hj58 _ (fun hq => by have xc1 : (decide (rs_iv B n 2 S1 ≤ 16)) = false := decide_eq_false (fun r => absurd c1 (nI_nlt (a := 16) r (by decide))); rw [xc1] <;> rfl)
    · refine wp_iconst (x := 1) dq_103_65 rfl ?_
      refine wp_goto (tgt := 70) dq_103_66 rfl ?_
      exact hj58 _ (fun hq => by have xc1 : (decide (rs_iv B n 2 S1 ≤ 16)) = true := decide_eq_true (by rcases Nat.lt_or_ge 16 (rs_iv B n 2 S1) with r | r; exact absurd (nI_lt (a := 16) r (by omega)) c1; exact r); rw [xc1] <;> rfl)
  refine wp_lload_n dq_103_26 rfl ?_
  refine wp_ldc2 (v := 2) dq_103_27 (by decide +kernel) ?_
  refine wp_lcmp dq_103_30 ?_
  refine wp_if_lt (tgt := 38) dq_103_31 rfl (fun c2 => ?_) (fun c2 => ?_)
  · refine wp_iconst (x := 0) dq_103_38 rfl ?_
    exact hj26 _ (fun hq => by have xc2 : (decide (2 ≤ bu_U B (rs_p S0 - 4) 4)) = false := decide_eq_false (fun r => absurd ((lc_lt (q := bu_U B (rs_p S0 - 4) 4) (r := 2) (by have := (wl_n (hq0 _ (hC hq).1.1.1 (hC hq).1.1.2.1) hm0 hq (h4 hq)).2.2; omega) (by decide)).mp (by rw [← (wl_n (hq0 _ (hC hq).1.1.1 (hC hq).1.1.2.1) hm0 hq (h4 hq)).2.1]; exact c2)) (by omega)); rw [xc2] <;> rfl)
  · refine wp_iconst (x := 1) dq_103_34 rfl ?_
    refine wp_goto (tgt := 39) dq_103_35 rfl ?_
    exact hj26 _ (fun hq => by have xc2 : (decide (2 ≤ bu_U B (rs_p S0 - 4) 4)) = true := decide_eq_true (by rcases Nat.lt_or_ge (bu_U B (rs_p S0 - 4) 4) 2 with r | r; exact absurd (by rw [(wl_n (hq0 _ (hC hq).1.1.1 (hC hq).1.1.2.1) hm0 hq (h4 hq)).2.1]; exact (lc_lt (r := 2) (by omega) (by decide)).mpr r) c2; exact r); rw [xc2] <;> rfl)
