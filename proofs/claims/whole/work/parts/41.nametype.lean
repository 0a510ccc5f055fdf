/-! THE MIRROR ON NATS: counts, places of names (owner 16 kd + k), places of contents (9 o + slot) -/
abbrev rM : Type := (Nat → Nat) × (Nat → Nat) × (Nat → Nat)
def rM.c (M : rM) : Nat → Nat := M.1
def rM.np (M : rM) : Nat → Nat := M.2.1
def rM.ct (M : rM) : Nat → Nat := M.2.2
def MR (a : Nat → Nat → Int32) (M : rM) : Prop := (∀ i, i < 4 → a 5 i = nI (M.c i)) ∧ (∀ kd k, kd < 3 → k < M.c kd → a 6 (16 * kd + k) = nI (M.np (16 * kd + k))) ∧ (∀ q, q < 441 → a 7 q = nI (M.ct q))
def MV (n : Nat) (M : rM) : Prop := (∀ i, i < 3 → M.c i ≤ 16) ∧ M.c 3 = 1 ∧ (∀ kd k, kd < 3 → k < M.c kd → M.np (16 * kd + k) + 4 ≤ n) ∧ (∀ q, M.ct q ≤ n)
def RC (B : Nat → Nat) (n : Nat) (T : Nat → Nat) (F : Nat) (fp : Int32) (a : Nat → Nat → Int32) (M : rM) : Prop := PL B n T a ∧ MR a M ∧ MV n M ∧ fp = nI F ∧ F + 8 ≤ n
theorem PL_o {B : Nat → Nat} {n : Nat} {T : Nat → Nat} {a a' : Nat → Nat → Int32} (h : ∀ q, q < 5 → a' q = a q) (hP : PL B n T a) : PL B n T a' := by
  obtain ⟨h1, h2, h3⟩ := hP
  refine ⟨fun j hj => ?_, h2, fun j hj ht => ?_⟩
  · rw [h 1 (by decide), h 2 (by decide), h 3 (by decide)]
    exact h1 j hj
  · rw [h 4 (by decide)]
    exact h3 j hj ht
section MQ
variable {B : Nat → Nat} {n : Nat} {T : Nat → Nat} {s : Nat → Int32} {a : Nat → Nat → Int32} {M : rM}
theorem q_has (hM : MR a M) (hV : MV n M) {kd k : Nat} (hkd : kd ≤ 3) (hk : k < 2 ^ 31) : f_has s a (nI kd) (nI k) = bI (decide (k < M.c kd)) := by
  have hc : M.c kd ≤ 16 := by
    rcases Nat.lt_or_ge kd 3 with r | r
    · exact hV.1 kd r
    · have e : kd = 3 := by omega
      rw [e, hV.2.1]; decide
  unfold f_has
  rw [if_neg (nI_pos (by omega)), if_neg (show ¬ 3 < nI kd from nI_nlt (a := 3) hkd (by decide)), if_neg (nI_pos hk), nI_clamp (by omega), hM.1 kd (by omega)]
  by_cases h : k < M.c kd
  · rw [if_neg (nI_ge h (by omega)), decide_eq_true h]; rfl
  · rw [if_pos (nI_le (by omega) hk), decide_eq_false h]; rfl
theorem q_hasN {kd : Nat} {k : Int32} (hkd : kd ≤ 3) (hk : k < 0) : f_has s a (nI kd) k = 0 := by
  unfold f_has
  rw [if_neg (nI_pos (by omega)), if_neg (show ¬ 3 < nI kd from nI_nlt (a := 3) hkd (by decide)), if_pos hk]
theorem q_nameOf (hQ : QF B n T s a) (hM : MR a M) (hV : MV n M) {kd k : Nat} (hkd : kd < 3) (hk : k < M.c kd) : f_nameOf s a (nI kd) (nI k) = nI (bu_U B (M.np (16 * kd + k)) 2) := by
  have hc := hV.1 kd hkd
  have hn := hV.2.2.1 kd k hkd hk
  unfold f_nameOf
  rw [q_has hM hV (by omega) (by omega), decide_eq_true hk, if_neg (show ¬ bI true = 0 by decide), show (16 : Int32) = nI 16 from rfl, pk_mul, nI_add, nI_clamp (by omega), hM.2.1 kd k hkd hk, QF_u2 hQ (by omega)]
theorem q_typeOf (hQ : QF B n T s a) (hM : MR a M) (hV : MV n M) {kd k : Nat} (hkd : kd < 3) (hk : k < M.c kd) : f_typeOf s a (nI kd) (nI k) = nI (bu_U B (M.np (16 * kd + k) + 2) 2) := by
  have hc := hV.1 kd hkd
  have hn := hV.2.2.1 kd k hkd hk
  unfold f_typeOf
  rw [q_has hM hV (by omega) (by omega), decide_eq_true hk, if_neg (show ¬ bI true = 0 by decide), show (16 : Int32) = nI 16 from rfl, pk_mul, nI_add, nI_clamp (by omega), hM.2.1 kd k hkd hk, show (2 : Int32) = nI 2 from rfl, nI_add, QF_u2 hQ (by omega)]
theorem q_slot {kd k w : Nat} (hkd : kd ≤ 3) (hk : k < 16) (hk3 : kd = 3 → k = 0) (hw : qx_en w = true) : (f_slotOf (nI kd) (nI k) w).toNatClampNeg = 9 * (16 * kd + k) + (w - 1) ∧ 9 * (16 * kd + k) + (w - 1) < 441 := by
  have h1 : 1 ≤ w ∧ w ≤ 9 := by simpa [qx_en] using hw
  unfold f_slotOf
  rw [show (16 : Int32) = nI 16 from rfl, pk_mul, nI_add, show (9 : Int32) = nI 9 from rfl, pk_mul, show Int32.ofNat (w - 1) = nI (w - 1) from rfl, nI_add, nI_clamp (by omega)]
  rcases Nat.lt_or_ge kd 3 with r | r
  · exact ⟨by omega, by omega⟩
  · have e : kd = 3 := by omega
    subst e
    have e2 := hk3 rfl
    subst e2
    exact ⟨by omega, by omega⟩
theorem q_content (hM : MR a M) (hV : MV n M) {kd k w : Nat} (hkd : kd ≤ 3) (hk : k < M.c kd) (hw : qx_en w = true) : f_contentOf s a (nI kd) (nI k) w = nI (M.ct (9 * (16 * kd + k) + (w - 1))) := by
  have hc : M.c kd ≤ 16 ∧ (kd = 3 → k = 0) := by
    rcases Nat.lt_or_ge kd 3 with r | r
    · exact ⟨hV.1 kd r, fun e => by omega⟩
    · have e : kd = 3 := by omega
      subst e
      rw [hV.2.1] at hk ⊢
      exact ⟨by decide, fun _ => by omega⟩
  obtain ⟨e1, e2⟩ := q_slot hkd (by omega) hc.2 hw
  unfold f_contentOf
  rw [q_has hM hV hkd (by omega), decide_eq_true hk, if_neg (show ¬ bI true = 0 by decide), e1, hM.2.2 _ e2]
end MQ
/-! names and types -/
def sp (B T : Nat → Nat) (i k : Nat) : Bool := decide (tg B T i = 1 ∧ tx B T i = wd k)
def rs_nt3 (B : Nat → Nat) (n : Nat) (T : Nat → Nat) (S : rS) : rS := rs_w (tg B T (rs_iv B n 2 (rs_is n 2 S)) == 1) 5 (rs_p S + 2) (rs_w (tg B T (rs_iv B n 2 S) == 1) 5 (rs_p S) (rs_is n 2 (rs_is n 2 S)))
def rs_nt (B : Nat → Nat) (n : Nat) (T : Nat → Nat) (kd : Nat) (S : rS) : rS := rs_w (tg B T (rs_iv B n 2 (rs_is n 2 S)) == 1 && (if kd = 1 then k_mt B T (rs_iv B n 2 (rs_is n 2 S)) else k_ft B T (rs_iv B n 2 (rs_is n 2 S)))) 8 (rs_p S + 2) (rs_w ((decide (kd = 1) && (sp B T (rs_iv B n 2 S) 14 || sp B T (rs_iv B n 2 S) 15)) || (tg B T (rs_iv B n 2 S) == 1 && k_mm B T (rs_iv B n 2 S))) 7 (rs_p S) (rs_nt3 B n T S))
def mb_nt (kd k : Nat) (S : rS) (M : rM) : rM := ⟨updN M.c kd (k + 1), updN M.np (16 * kd + k) (rs_p S), M.ct⟩
theorem sp_nt {B : Nat → Nat} {n : Nat} {T : Nat → Nat} {kd : Nat} {S S' : rS} (e : rs_nt B n T kd S = S') (h : snd S') : S' = .inl (rs_p S + 4) ∧ rs_p S + 4 ≤ n ∧ snd S ∧ rs_iv B n 2 S = bu_U B (rs_p S) 2 ∧ rs_iv B n 2 (rs_is n 2 S) = bu_U B (rs_p S + 2) 2 ∧ tg B T (rs_iv B n 2 S) = 1 ∧ tg B T (rs_iv B n 2 (rs_is n 2 S)) = 1 ∧ (if kd = 1 then k_mt B T (rs_iv B n 2 (rs_is n 2 S)) else k_ft B T (rs_iv B n 2 (rs_is n 2 S))) = true := by
  have h1 := sd_w e h
  have e1 := (sd_wc e h).2
  have f1 := (sd_wc e h).1
  have h2 := sd_w rfl h1
  have e2 := (sd_wc rfl h1).2
  have h3 := sd_w rfl h2
  have e3 := (sd_wc rfl h2).2
  have f3 := (sd_wc rfl h2).1
  have h4 := sd_w rfl h3
  have e4 := (sd_wc rfl h3).2
  have f4 := (sd_wc rfl h3).1
  obtain ⟨g1, g2, g3⟩ := sd_isp rfl h4
  have h5 := sd_is rfl h4
  obtain ⟨g4, g5, g6⟩ := sd_isp rfl h5
  have ep : rs_p (rs_is n 2 S) = rs_p S + 2 := by rw [g6]; rfl
  rw [Bool.and_eq_true] at f1
  refine ⟨?_, by omega, sd_is rfl h5, iv_of rfl h5, by rw [iv_of rfl h4, ep], beq_iff_eq.mp f4, beq_iff_eq.mp f3, f1.2⟩
  rw [e1, e2]
  unfold rs_nt3
  rw [e3, e4, g3, ep]
theorem MR_bg {n : Nat} {a : Nat → Nat → Int32} {M : rM} {kd k p : Nat} (hM : MR a M) (hV : MV n M) (hkd : kd < 3) (hk : k < 16) (hc : M.c kd = k) (hp : p + 4 ≤ n) : MR (tb_va (tb_va a 5 (upd (a 5) kd (nI (k + 1)))) 6 (upd (a 6) (16 * kd + k) (nI p))) ⟨updN M.c kd (k + 1), updN M.np (16 * kd + k) p, M.ct⟩ ∧ MV n ⟨updN M.c kd (k + 1), updN M.np (16 * kd + k) p, M.ct⟩ := by
  obtain ⟨m1, m2, m3⟩ := hM
  obtain ⟨v1, v2, v3, v4⟩ := hV
  refine ⟨⟨fun i hi => ?_, fun d j hd hj => ?_, fun q hq => m3 q hq⟩, fun i hi => ?_, (updN_n (show 3 ≠ kd by omega)).trans v2, fun d j hd hj => ?_, v4⟩
  · show upd (a 5) kd (nI (k + 1)) i = nI (updN M.c kd (k + 1) i)
    by_cases e : i = kd
    · subst e; rw [pk_us, updN_s]
    · rw [pk_un e, updN_n e]; exact m1 i hi
  · show upd (a 6) (16 * kd + k) (nI p) (16 * d + j) = nI (updN M.np (16 * kd + k) p (16 * d + j))
    have hj' : j < updN M.c kd (k + 1) d := hj
    by_cases e : d = kd
    · subst e
      rw [updN_s] at hj'
      by_cases e2 : j = k
      · subst e2; rw [pk_us, updN_s]
      · rw [pk_un (by omega), updN_n (by omega)]; exact m2 d j hd (by omega)
    · rw [updN_n e] at hj'
      have := v1 d hd
      rw [pk_un (by omega), updN_n (by omega)]; exact m2 d j hd hj'
  · show updN M.c kd (k + 1) i ≤ 16
    by_cases e : i = kd
    · subst e; rw [updN_s]; omega
    · rw [updN_n e]; exact v1 i hi
  · show updN M.np (16 * kd + k) p (16 * d + j) + 4 ≤ n
    have hj' : j < updN M.c kd (k + 1) d := hj
    by_cases e : d = kd
    · subst e
      rw [updN_s] at hj'
      by_cases e2 : j = k
      · subst e2; rw [updN_s]; exact hp
      · rw [updN_n (by omega)]; exact v3 d j hd (by omega)
    · rw [updN_n e] at hj'
      have := v1 d hd
      rw [updN_n (by omega)]; exact v3 d j hd hj'
theorem bg_o (a : Nat → Nat → Int32) (f g : Nat → Int32) : ∀ q, q < 5 → tb_va (tb_va a 5 f) 6 g q = a q := fun q hq => by
  show (if q = 6 then g else if q = 5 then f else a q) = a q
  rw [if_neg (by omega), if_neg (by omega)]
theorem RC_bg {B : Nat → Nat} {n : Nat} {T : Nat → Nat} {F : Nat} {fp y : Int32} {a : Nat → Nat → Int32} {M : rM} {kd k : Nat} {S S1 S2 : rS} (h : RC B n T F fp a M) (hkd : kd < 3) (hk : k < 16) (hc : M.c kd = k) (hy : y = nI (rs_p S)) (e1 : rs_is n 2 S = S1) (e2 : rs_is n 2 S1 = S2) (hq : snd S2) : RC B n T F fp (tb_va (tb_va a 5 (upd (a 5) kd (nI (k + 1)))) 6 (upd (a 6) (16 * kd + k) y)) (mb_nt kd k S M) := by
  obtain ⟨h1, h2, h3, h4, h5⟩ := h
  obtain ⟨g1, g2, g3⟩ := sd_isp e2 hq
  obtain ⟨g4, g5, g6⟩ := sd_isp e1 (sd_is e2 hq)
  rw [g6] at g2
  have g7 : rs_p S + 2 + 2 ≤ n := g2
  subst hy
  obtain ⟨b1, b2⟩ := MR_bg (p := rs_p S) h2 h3 hkd hk hc (by omega)
  exact ⟨PL_o (bg_o a _ _) h1, b1, b2, h4, h5⟩
theorem hp2 {y : Int32} {p : Nat} (h : y = nI p) : y + 2 = nI (p + 2) := by rw [h]; exact nI_add p 2
set_option maxRecDepth 100000 in
theorem c_ntK {L : Nat} {xs : Nat → Int32} {d b n g F : Nat} {B T : Nat → Nat} {fp : Int32} {S0 : rS} {h : List qx_E} {a : Nat → Nat → Int32} {M : rM} {Q : Option Value → List qx_E → Prop} {kd k : Nat} (hT : TS h b B n S0 fp a) (hC : snd S0 → RC B n T F fp a M) (hg : RG h b g) (hkd : kd < 3) (hk : k < 16) (hc9 : snd S0 → M.c kd = k) (hK : ∀ h' a', TS h' b B n (rs_nt B n T kd S0) fp a' → fr b h h' → (snd (rs_nt B n T kd S0) → RC B n T F fp a' (mb_nt kd k S0 M)) → Q none h') : wp_W L xs (d + 5) 79 0 (lv_args 0 [.ref g, .int (nI kd), .int (nI k)]) [] h Q := by
  show wp_W L xs _ 79 0 [(0, .ref g), (1, .int (nI kd)), (2, .int (nI k))] [] h _
  obtain ⟨s0, hb, hw, hm0, h00, hq0⟩ := TS_x hT
  have hf : fr b h h := fr_rf
  refine wp_aload_n dq_79_0 rfl ?_
  refine wp_getf dq_79_1 fl_79_26 hg.2 rfl ?_
  refine wp_getf dq_79_4 fl_79_52 (tb_c2 hb) rfl ?_
  refine wp_istore_n (lv' := [(0, .ref g), (1, .int (nI kd)), (2, .int (nI k)), (3, .int (s0 2))]) dq_79_7 (by decide) rfl ?_
  refine wp_aload_n dq_79_8 rfl ?_
  refine wp_getf dq_79_9 fl_79_26 hg.2 rfl ?_
  refine wp_cv0 dq_79_12 mt_79_39 (ob_of (tb_c2 hb)) ⟨by decide +kernel, by decide +kernel⟩ (Nat.le_of_ble_eq_true rfl) (Nat.le_of_ble_eq_true rfl) (c_u2T hT) (fun v9 h9 q9 => ?_)
  obtain ⟨rfl, hT, hf9⟩ := q9
  have hg := RG_fr hg hf9
  have hf := fr_tr hf hf9
  clear hf9
  generalize hS1 : rs_is n 2 S0 = S1 at hT
  obtain ⟨s1, hb, hw, hm1, h01, hq1⟩ := TS_x hT
  refine wp_istore (lv' := [(0, .ref g), (1, .int (nI kd)), (2, .int (nI k)), (3, .int (s0 2)), (4, .int (nI (rs_iv B n 2 S0)))]) dq_79_15 (by decide) rfl ?_
  refine wp_aload_n dq_79_17 rfl ?_
  refine wp_getf dq_79_18 fl_79_26 hg.2 rfl ?_
  refine wp_cv0 dq_79_21 mt_79_39 (ob_of (tb_c2 hb)) ⟨by decide +kernel, by decide +kernel⟩ (Nat.le_of_ble_eq_true rfl) (Nat.le_of_ble_eq_true rfl) (c_u2T hT) (fun v9 h9 q9 => ?_)
  obtain ⟨rfl, hT, hf9⟩ := q9
  have hg := RG_fr hg hf9
  have hf := fr_tr hf hf9
  clear hf9
  generalize hS2 : rs_is n 2 S1 = S2 at hT
  obtain ⟨s2, hb, hw, hm2, h02, hq2⟩ := TS_x hT
  refine wp_istore (lv' := [(0, .ref g), (1, .int (nI kd)), (2, .int (nI k)), (3, .int (s0 2)), (4, .int (nI (rs_iv B n 2 S0))), (5, .int (nI (rs_iv B n 2 S1)))]) dq_79_24 (by decide) rfl ?_
  have hN9 : rs_iv B n 2 S0 < 65536 := iv2_lt hT
  have hY9 : rs_iv B n 2 S1 < 65536 := iv2_lt hT
  refine wp_aload_n dq_79_26 rfl ?_
  refine wp_getf dq_79_27 fl_79_9 hg.2 rfl ?_
  refine wp_iload_n dq_79_30 rfl ?_
  refine wp_iload_n dq_79_31 rfl ?_
  refine wp_iload_n dq_79_32 rfl ?_
  refine wp_cv3 dq_79_33 mt_79_115 (ob_of (tb_c0 hb)) ⟨by decide +kernel, by decide +kernel⟩ (Nat.le_of_ble_eq_true rfl) (Nat.le_of_ble_eq_true rfl) (c_begin hT hkd hk) (fun v9 h9 q9 => ?_)
  obtain ⟨rfl, hT, hf9⟩ := q9
  have hg := RG_fr hg hf9
  have hf := fr_tr hf hf9
  clear hf9
  have hy0 : snd S0 → s0 2 = nI (rs_p S0) := TS_p hm0
  have hR : snd S0 → PL B n T (tb_va (tb_va a 5 (upd (a 5) kd (nI (k + 1)))) 6 (upd (a 6) (16 * kd + k) (s0 2))) := fun hq => PL_o (bg_o a _ _) (hC hq).1
  have hX : snd S2 → RC B n T F fp (tb_va (tb_va a 5 (upd (a 5) kd (nI (k + 1)))) 6 (upd (a 6) (16 * kd + k) (s0 2))) (mb_nt kd k S0 M) := fun hq => RC_bg (hC (sd_is hS1 (sd_is hS2 hq))) hkd hk (hc9 (sd_is hS1 (sd_is hS2 hq))) (hy0 (sd_is hS1 (sd_is hS2 hq))) hS1 hS2 hq
  generalize ha1 : tb_va (tb_va a 5 (upd (a 5) kd (nI (k + 1)))) 6 (upd (a 6) (16 * kd + k) (s0 2)) = a1 at hT hR hX
  obtain ⟨s2, hb, hw, hm2, h02, hq2⟩ := TS_x hT
  refine wp_aload_n dq_79_36 rfl ?_
  refine wp_getf dq_79_37 fl_79_26 hg.2 rfl ?_
  refine wp_aload_n dq_79_40 rfl ?_
  refine wp_getf dq_79_41 fl_79_21 hg.2 rfl ?_
  refine wp_iload dq_79_44 rfl ?_
  refine wp_iconst (x := 1) dq_79_46 rfl ?_
  refine wp_cve2 dq_79_47 mt_79_91 (ob_of (tb_c1 hb)) ⟨by decide +kernel, by decide +kernel⟩ (Nat.le_of_ble_eq_true rfl) (Nat.le_of_ble_eq_true rfl) (c_names hb) ?_
  refine wp_iconst (x := 5) dq_79_50 rfl ?_
  refine wp_iload_n dq_79_51 rfl ?_
  refine wp_cv3 dq_79_52 mt_79_35 (ob_of (tb_c2 hb)) ⟨by decide +kernel, by decide +kernel⟩ (Nat.le_of_ble_eq_true rfl) (Nat.le_of_ble_eq_true rfl) (c_wantB (c := (tg B T (rs_iv B n 2 S0) == 1)) (f := 5) (p := (rs_p S0)) hT (by decide) (fun hq => q_names (hq2 _ (hR (sd_is hS1 (sd_is hS2 hq))).1 (hR (sd_is hS1 (sd_is hS2 hq))).2.1) hN9 (t := 1) (by decide) (by decide)) (fun hq => hy0 (sd_is hS1 (sd_is hS2 hq)))) (fun v9 h9 q9 => ?_)
  obtain ⟨rfl, hT, hf9⟩ := q9
  have hg := RG_fr hg hf9
  have hf := fr_tr hf hf9
  clear hf9
  generalize hS3 : rs_w (tg B T (rs_iv B n 2 S0) == 1) 5 (rs_p S0) S2 = S3 at hT
  obtain ⟨s3, hb, hw, hm3, h03, hq3⟩ := TS_x hT
  refine wp_aload_n dq_79_55 rfl ?_
  refine wp_getf dq_79_56 fl_79_26 hg.2 rfl ?_
  refine wp_aload_n dq_79_59 rfl ?_
  refine wp_getf dq_79_60 fl_79_21 hg.2 rfl ?_
  refine wp_iload dq_79_63 rfl ?_
  refine wp_iconst (x := 1) dq_79_65 rfl ?_
  refine wp_cve2 dq_79_66 mt_79_91 (ob_of (tb_c1 hb)) ⟨by decide +kernel, by decide +kernel⟩ (Nat.le_of_ble_eq_true rfl) (Nat.le_of_ble_eq_true rfl) (c_names hb) ?_
  refine wp_iconst (x := 5) dq_79_69 rfl ?_
  refine wp_iload_n dq_79_70 rfl ?_
  refine wp_iconst (x := 2) dq_79_71 rfl ?_
  refine wp_iadd dq_79_72 ?_
  refine wp_cv3 dq_79_73 mt_79_35 (ob_of (tb_c2 hb)) ⟨by decide +kernel, by decide +kernel⟩ (Nat.le_of_ble_eq_true rfl) (Nat.le_of_ble_eq_true rfl) (c_wantB (c := (tg B T (rs_iv B n 2 S1) == 1)) (f := 5) (p := (rs_p S0 + 2)) hT (by decide) (fun hq => q_names (hq3 _ (hR (sd_is hS1 (sd_is hS2 (sd_w hS3 hq)))).1 (hR (sd_is hS1 (sd_is hS2 (sd_w hS3 hq)))).2.1) hY9 (t := 1) (by decide) (by decide)) (fun hq => hp2 (hy0 (sd_is hS1 (sd_is hS2 (sd_w hS3 hq)))))) (fun v9 h9 q9 => ?_)
  obtain ⟨rfl, hT, hf9⟩ := q9
  have hg := RG_fr hg hf9
  have hf := fr_tr hf hf9
  clear hf9
  generalize hS4 : rs_w (tg B T (rs_iv B n 2 S1) == 1) 5 (rs_p S0 + 2) S3 = S4 at hT
  obtain ⟨s4, hb, hw, hm4, h04, hq4⟩ := TS_x hT
  have hj76 : ∀ z6 : Int32, z6 = bI (decide (kd = 1)) → wp_W L xs (d + 5) 79 86 [(0, .ref g), (1, .int (nI kd)), (2, .int (nI k)), (3, .int (s0 2)), (4, .int (nI (rs_iv B n 2 S0))), (5, .int (nI (rs_iv B n 2 S1)))] (.int z6 :: []) h9 Q := by
    intro z6 hz6
    refine wp_istore (lv' := [(0, .ref g), (1, .int (nI kd)), (2, .int (nI k)), (3, .int (s0 2)), (4, .int (nI (rs_iv B n 2 S0))), (5, .int (nI (rs_iv B n 2 S1))), (6, .int z6)]) dq_79_86 (by decide) rfl ?_
    have hj88 : ∀ z9 : Int32, (snd S4 → z9 = bI ((decide (kd = 1) && (sp B T (rs_iv B n 2 S0) 14 || sp B T (rs_iv B n 2 S0) 15)))) → wp_W L xs (d + 5) 79 126 [(0, .ref g), (1, .int (nI kd)), (2, .int (nI k)), (3, .int (s0 2)), (4, .int (nI (rs_iv B n 2 S0))), (5, .int (nI (rs_iv B n 2 S1))), (6, .int z6)] (.int z9 :: []) h9 Q := by
      intro z9 hz9
      revert z9
      intro z7 hz7
      refine wp_istore (lv' := [(0, .ref g), (1, .int (nI kd)), (2, .int (nI k)), (3, .int (s0 2)), (4, .int (nI (rs_iv B n 2 S0))), (5, .int (nI (rs_iv B n 2 S1))), (6, .int z6), (7, .int z7)]) dq_79_126 (by decide) rfl ?_
      refine wp_aload_n dq_79_128 rfl ?_
      refine wp_getf dq_79_129 fl_79_26 hg.2 rfl ?_
      have hj132 : ∀ z9 : Int32, (snd S4 → z9 = bI (((decide (kd = 1) && (sp B T (rs_iv B n 2 S0) 14 || sp B T (rs_iv B n 2 S0) 15)) || (tg B T (rs_iv B n 2 S0) == 1 && k_mm B T (rs_iv B n 2 S0))))) → wp_W L xs (d + 5) 79 156 [(0, .ref g), (1, .int (nI kd)), (2, .int (nI k)), (3, .int (s0 2)), (4, .int (nI (rs_iv B n 2 S0))), (5, .int (nI (rs_iv B n 2 S1))), (6, .int z6), (7, .int z7)] (.int z9 :: .ref (b + 2) :: []) h9 Q := by
        intro z9 hz9
        refine wp_bipush (x := 7) dq_79_156 rfl ?_
        refine wp_iload_n dq_79_158 rfl ?_
        refine wp_cv3 dq_79_159 mt_79_35 (ob_of (tb_c2 hb)) ⟨by decide +kernel, by decide +kernel⟩ (Nat.le_of_ble_eq_true rfl) (Nat.le_of_ble_eq_true rfl) (c_wantB (c := ((decide (kd = 1) && (sp B T (rs_iv B n 2 S0) 14 || sp B T (rs_iv B n 2 S0) 15)) || (tg B T (rs_iv B n 2 S0) == 1 && k_mm B T (rs_iv B n 2 S0)))) (f := 7) (p := (rs_p S0)) hT (by decide) (fun hq => hz9 hq) (fun hq => hy0 (sd_is hS1 (sd_is hS2 (sd_w hS3 (sd_w hS4 hq)))))) (fun v9 h9 q9 => ?_)
        obtain ⟨rfl, hT, hf9⟩ := q9
        have hg := RG_fr hg hf9
        have hf := fr_tr hf hf9
        clear hf9
        generalize hS5 : rs_w ((decide (kd = 1) && (sp B T (rs_iv B n 2 S0) 14 || sp B T (rs_iv B n 2 S0) 15)) || (tg B T (rs_iv B n 2 S0) == 1 && k_mm B T (rs_iv B n 2 S0))) 7 (rs_p S0) S4 = S5 at hT
        obtain ⟨s5, hb, hw, hm5, h05, hq5⟩ := TS_x hT
        refine wp_aload_n dq_79_162 rfl ?_
        refine wp_getf dq_79_163 fl_79_26 hg.2 rfl ?_
        refine wp_aload_n dq_79_166 rfl ?_
        refine wp_getf dq_79_167 fl_79_21 hg.2 rfl ?_
        rcases Decidable.em (kd = 1) with hk1 | hk1
        · refine wp_iload dq_79_170 rfl ?_
          refine wp_iload dq_79_172 rfl ?_
          refine wp_if_eq (tgt := 182) dq_79_174 rfl (fun c1 => ?_) (fun c1 => ?_)
          · exact absurd (hz6.symm.trans c1) (by rw [decide_eq_true hk1]; decide)
          · refine wp_bipush (x := 8) dq_79_177 rfl ?_
            refine wp_goto (tgt := 183) dq_79_179 rfl ?_
            refine wp_cve2 dq_79_183 mt_79_128 (ob_of (tb_c1 hb)) ⟨by decide +kernel, by decide +kernel⟩ (Nat.le_of_ble_eq_true rfl) (Nat.le_of_ble_eq_true rfl) (c_hasShape hb) ?_
            have hz9 : snd S5 → f_hasShape s5 a1 (nI (rs_iv B n 2 S1)) 8 = bI (tg B T (rs_iv B n 2 S1) == 1 && (if kd = 1 then k_mt B T (rs_iv B n 2 S1) else k_ft B T (rs_iv B n 2 S1))) := fun hq => by rw [if_pos hk1]; exact q_sh8 (hq5 _ (hR (sd_is hS1 (sd_is hS2 (sd_w hS3 (sd_w hS4 (sd_w hS5 hq)))))).1 (hR (sd_is hS1 (sd_is hS2 (sd_w hS3 (sd_w hS4 (sd_w hS5 hq)))))).2.1) ((hR (sd_is hS1 (sd_is hS2 (sd_w hS3 (sd_w hS4 (sd_w hS5 hq)))))).2.2) hY9
            refine wp_bipush (x := 8) dq_79_186 rfl ?_
            refine wp_iload_n dq_79_188 rfl ?_
            refine wp_iconst (x := 2) dq_79_189 rfl ?_
            refine wp_iadd dq_79_190 ?_
            refine wp_cv3 dq_79_191 mt_79_35 (ob_of (tb_c2 hb)) ⟨by decide +kernel, by decide +kernel⟩ (Nat.le_of_ble_eq_true rfl) (Nat.le_of_ble_eq_true rfl) (c_wantB (c := (tg B T (rs_iv B n 2 S1) == 1 && (if kd = 1 then k_mt B T (rs_iv B n 2 S1) else k_ft B T (rs_iv B n 2 S1)))) (f := 8) (p := (rs_p S0 + 2)) hT (by decide) (fun hq => hz9 hq) (fun hq => hp2 (hy0 (sd_is hS1 (sd_is hS2 (sd_w hS3 (sd_w hS4 (sd_w hS5 hq)))))))) (fun v9 h9 q9 => ?_)
            obtain ⟨rfl, hT, hf9⟩ := q9
            have hg := RG_fr hg hf9
            have hf := fr_tr hf hf9
            clear hf9
            generalize hS6 : rs_w (tg B T (rs_iv B n 2 S1) == 1 && (if kd = 1 then k_mt B T (rs_iv B n 2 S1) else k_ft B T (rs_iv B n 2 S1))) 8 (rs_p S0 + 2) S5 = S6 at hT
            obtain ⟨s6, hb, hw, hm6, h06, hq6⟩ := TS_x hT
            have e6 : rs_nt B n T kd S0 = S6 := by simp only [rs_nt, rs_nt3, hS1, hS2, hS3, hS4, hS5, hS6]
            rw [e6] at hK
            exact wp_vre dq_79_194 rfl (hK h9 a1 hT hf (fun hq => hX (sd_w hS3 (sd_w hS4 (sd_w hS5 (sd_w hS6 hq))))))
        · refine wp_iload dq_79_170 rfl ?_
          refine wp_iload dq_79_172 rfl ?_
          refine wp_if_eq (tgt := 182) dq_79_174 rfl (fun c2 => ?_) (fun c2 => ?_)
          · refine wp_iconst (x := 4) dq_79_182 rfl ?_
            refine wp_cve2 dq_79_183 mt_79_128 (ob_of (tb_c1 hb)) ⟨by decide +kernel, by decide +kernel⟩ (Nat.le_of_ble_eq_true rfl) (Nat.le_of_ble_eq_true rfl) (c_hasShape hb) ?_
            have hz9 : snd S5 → f_hasShape s5 a1 (nI (rs_iv B n 2 S1)) 4 = bI (tg B T (rs_iv B n 2 S1) == 1 && (if kd = 1 then k_mt B T (rs_iv B n 2 S1) else k_ft B T (rs_iv B n 2 S1))) := fun hq => by rw [if_neg hk1]; exact q_sh4 (hq5 _ (hR (sd_is hS1 (sd_is hS2 (sd_w hS3 (sd_w hS4 (sd_w hS5 hq)))))).1 (hR (sd_is hS1 (sd_is hS2 (sd_w hS3 (sd_w hS4 (sd_w hS5 hq)))))).2.1) ((hR (sd_is hS1 (sd_is hS2 (sd_w hS3 (sd_w hS4 (sd_w hS5 hq)))))).2.2) hY9
            refine wp_bipush (x := 8) dq_79_186 rfl ?_
            refine wp_iload_n dq_79_188 rfl ?_
            refine wp_iconst (x := 2) dq_79_189 rfl ?_
            refine wp_iadd dq_79_190 ?_
            refine wp_cv3 dq_79_191 mt_79_35 (ob_of (tb_c2 hb)) ⟨by decide +kernel, by decide +kernel⟩ (Nat.le_of_ble_eq_true rfl) (Nat.le_of_ble_eq_true rfl) (c_wantB (c := (tg B T (rs_iv B n 2 S1) == 1 && (if kd = 1 then k_mt B T (rs_iv B n 2 S1) else k_ft B T (rs_iv B n 2 S1)))) (f := 8) (p := (rs_p S0 + 2)) hT (by decide) (fun hq => hz9 hq) (fun hq => hp2 (hy0 (sd_is hS1 (sd_is hS2 (sd_w hS3 (sd_w hS4 (sd_w hS5 hq)))))))) (fun v9 h9 q9 => ?_)
            obtain ⟨rfl, hT, hf9⟩ := q9
            have hg := RG_fr hg hf9
            have hf := fr_tr hf hf9
            clear hf9
            generalize hS6 : rs_w (tg B T (rs_iv B n 2 S1) == 1 && (if kd = 1 then k_mt B T (rs_iv B n 2 S1) else k_ft B T (rs_iv B n 2 S1))) 8 (rs_p S0 + 2) S5 = S6 at hT
            obtain ⟨s6, hb, hw, hm6, h06, hq6⟩ := TS_x hT
            have e6 : rs_nt B n T kd S0 = S6 := by simp only [rs_nt, rs_nt3, hS1, hS2, hS3, hS4, hS5, hS6]
            rw [e6] at hK
            exact wp_vre dq_79_194 rfl (hK h9 a1 hT hf (fun hq => hX (sd_w hS3 (sd_w hS4 (sd_w hS5 (sd_w hS6 hq))))))
          · exact absurd (hz6.trans (by rw [decide_eq_false hk1]; rfl)) c2
      refine wp_iload dq_79_132 rfl ?_
      refine wp_if_ne (tgt := 151) dq_79_134 rfl (fun c3 => ?_) (fun c3 => ?_)
      · refine wp_iconst (x := 1) dq_79_151 rfl ?_
        refine wp_goto (tgt := 156) dq_79_152 rfl ?_
        exact hj132 _ (fun hq => by have hQ := (hq4 _ (hR (sd_is hS1 (sd_is hS2 (sd_w hS3 (sd_w hS4 hq))))).1 (hR (sd_is hS1 (sd_is hS2 (sd_w hS3 (sd_w hS4 hq))))).2.1); have xc3 : (decide (kd = 1) && (sp B T (rs_iv B n 2 S0) 14 || sp B T (rs_iv B n 2 S0) 15)) = true := bx_1 (hz7 hq) c3; rw [xc3] <;> rfl)
      · refine wp_aload_n dq_79_137 rfl ?_
        refine wp_getf dq_79_138 fl_79_21 hg.2 rfl ?_
        refine wp_iload dq_79_141 rfl ?_
        refine wp_bipush (x := 16) dq_79_143 rfl ?_
        refine wp_cve2 dq_79_145 mt_79_128 (ob_of (tb_c1 hb)) ⟨by decide +kernel, by decide +kernel⟩ (Nat.le_of_ble_eq_true rfl) (Nat.le_of_ble_eq_true rfl) (c_hasShape hb) ?_
        refine wp_if_eq (tgt := 155) dq_79_148 rfl (fun c4 => ?_) (fun c4 => ?_)
        · refine wp_iconst (x := 0) dq_79_155 rfl ?_
          exact hj132 _ (fun hq => by have hQ := (hq4 _ (hR (sd_is hS1 (sd_is hS2 (sd_w hS3 (sd_w hS4 hq))))).1 (hR (sd_is hS1 (sd_is hS2 (sd_w hS3 (sd_w hS4 hq))))).2.1); have xc3 : (decide (kd = 1) && (sp B T (rs_iv B n 2 S0) 14 || sp B T (rs_iv B n 2 S0) 15)) = false := bx_0 (hz7 hq) c3; have xc4 : (tg B T (rs_iv B n 2 S0) == 1 && k_mm B T (rs_iv B n 2 S0)) = false := bx_0 (q_sh16 hQ ((hR (sd_is hS1 (sd_is hS2 (sd_w hS3 (sd_w hS4 hq))))).2.2) hN9) c4; rw [xc3, xc4] <;> rfl)
        · refine wp_iconst (x := 1) dq_79_151 rfl ?_
          refine wp_goto (tgt := 156) dq_79_152 rfl ?_
          exact hj132 _ (fun hq => by have hQ := (hq4 _ (hR (sd_is hS1 (sd_is hS2 (sd_w hS3 (sd_w hS4 hq))))).1 (hR (sd_is hS1 (sd_is hS2 (sd_w hS3 (sd_w hS4 hq))))).2.1); have xc3 : (decide (kd = 1) && (sp B T (rs_iv B n 2 S0) 14 || sp B T (rs_iv B n 2 S0) 15)) = false := bx_0 (hz7 hq) c3; have xc4 : (tg B T (rs_iv B n 2 S0) == 1 && k_mm B T (rs_iv B n 2 S0)) = true := bx_1 (q_sh16 hQ ((hR (sd_is hS1 (sd_is hS2 (sd_w hS3 (sd_w hS4 hq))))).2.2) hN9) c4; rw [xc3, xc4] <;> rfl)
    refine wp_iload dq_79_88 rfl ?_
    refine wp_if_eq (tgt := 125) dq_79_90 rfl (fun c5 => ?_) (fun c5 => ?_)
    · refine wp_iconst (x := 0) dq_79_125 rfl ?_
      exact hj88 _ (fun hq => by have hQ := (hq4 _ (hR (sd_is hS1 (sd_is hS2 (sd_w hS3 (sd_w hS4 hq))))).1 (hR (sd_is hS1 (sd_is hS2 (sd_w hS3 (sd_w hS4 hq))))).2.1); have xc5 : (decide (kd = 1)) = false := bx_0 (hz6) c5; rw [xc5] <;> rfl)
    · refine wp_aload_n dq_79_93 rfl ?_
      refine wp_getf dq_79_94 fl_79_21 hg.2 rfl ?_
      refine wp_iload dq_79_97 rfl ?_
      refine wp_ldc (v := .retAddr 14) dq_79_99 (by decide +kernel) ?_
      refine wp_cve2 dq_79_101 mt_79_120 (ob_of (tb_c1 hb)) ⟨by decide +kernel, by decide +kernel⟩ (Nat.le_of_ble_eq_true rfl) (Nat.le_of_ble_eq_true rfl) (c_spells (by decide) hb hw) ?_
      refine wp_if_ne (tgt := 121) dq_79_104 rfl (fun c6 => ?_) (fun c6 => ?_)
      · refine wp_iconst (x := 1) dq_79_121 rfl ?_
        refine wp_goto (tgt := 126) dq_79_122 rfl ?_
        exact hj88 _ (fun hq => by have hQ := (hq4 _ (hR (sd_is hS1 (sd_is hS2 (sd_w hS3 (sd_w hS4 hq))))).1 (hR (sd_is hS1 (sd_is hS2 (sd_w hS3 (sd_w hS4 hq))))).2.1); have xc5 : (decide (kd = 1)) = true := bx_1 (hz6) c5; have xc6 : (sp B T (rs_iv B n 2 S0) 14) = true := bx_1 (q_spells hQ hN9 (by decide)) c6; rw [xc5, xc6] <;> rfl)
      · refine wp_aload_n dq_79_107 rfl ?_
        refine wp_getf dq_79_108 fl_79_21 hg.2 rfl ?_
        refine wp_iload dq_79_111 rfl ?_
        refine wp_ldc (v := .retAddr 15) dq_79_113 (by decide +kernel) ?_
        refine wp_cve2 dq_79_115 mt_79_120 (ob_of (tb_c1 hb)) ⟨by decide +kernel, by decide +kernel⟩ (Nat.le_of_ble_eq_true rfl) (Nat.le_of_ble_eq_true rfl) (c_spells (by decide) hb hw) ?_
        refine wp_if_eq (tgt := 125) dq_79_118 rfl (fun c7 => ?_) (fun c7 => ?_)
        · refine wp_iconst (x := 0) dq_79_125 rfl ?_
          exact hj88 _ (fun hq => by have hQ := (hq4 _ (hR (sd_is hS1 (sd_is hS2 (sd_w hS3 (sd_w hS4 hq))))).1 (hR (sd_is hS1 (sd_is hS2 (sd_w hS3 (sd_w hS4 hq))))).2.1); have xc5 : (decide (kd = 1)) = true := bx_1 (hz6) c5; have xc6 : (sp B T (rs_iv B n 2 S0) 14) = false := bx_0 (q_spells hQ hN9 (by decide)) c6; have xc7 : (sp B T (rs_iv B n 2 S0) 15) = false := bx_0 (q_spells hQ hN9 (by decide)) c7; rw [xc5, xc6, xc7] <;> rfl)
        · refine wp_iconst (x := 1) dq_79_121 rfl ?_
          refine wp_goto (tgt := 126) dq_79_122 rfl ?_
          exact hj88 _ (fun hq => by have hQ := (hq4 _ (hR (sd_is hS1 (sd_is hS2 (sd_w hS3 (sd_w hS4 hq))))).1 (hR (sd_is hS1 (sd_is hS2 (sd_w hS3 (sd_w hS4 hq))))).2.1); have xc5 : (decide (kd = 1)) = true := bx_1 (hz6) c5; have xc6 : (sp B T (rs_iv B n 2 S0) 14) = false := bx_0 (q_spells hQ hN9 (by decide)) c6; have xc7 : (sp B T (rs_iv B n 2 S0) 15) = true := bx_1 (q_spells hQ hN9 (by decide)) c7; rw [xc5, xc6, xc7] <;> rfl)
  refine wp_iload_n dq_79_76 rfl ?_
  refine wp_iconst (x := 1) dq_79_77 rfl ?_
  refine wp_ic_ne (tgt := 85) dq_79_78 rfl (fun c8 => ?_) (fun c8 => ?_)
  · refine wp_iconst (x := 0) dq_79_85 rfl ?_
    exact hj76 _ (by rw [decide_eq_false (fun r => c8 (by rw [r]; rfl))]; rfl)
  · refine wp_iconst (x := 1) dq_79_81 rfl ?_
    refine wp_goto (tgt := 86) dq_79_82 rfl ?_
    exact hj76 _ (by rw [decide_eq_true ((nI_eq (b := 1) (by omega) (by decide)).mp c8)]; rfl)
