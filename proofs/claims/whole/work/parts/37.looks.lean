theorem rs_lk_e (B T : Nat → Nat) (i : Nat) (e : Nat × Nat) : rs_lk B T i (.inr e) = .inr e := by
  unfold rs_lk
  repeat' split
  all_goals rfl
theorem sd_lk {B T : Nat → Nat} {i : Nat} {S S' : rS} (e : rs_lk B T i S = S') (h : snd S') : snd S := by
  cases S with
  | inl q => exact ⟨q, rfl⟩
  | inr e0 => rw [rs_lk_e] at e; rw [← e] at h; exact h
def rs_lks (B T : Nat → Nat) : Nat → Nat → rS → rS
  | 0, _, S => S
  | j + 1, i, S => rs_lks B T j (i + 1) (rs_lk B T i S)
theorem rs_lks_e (B T : Nat → Nat) (e : Nat × Nat) : ∀ j i, rs_lks B T j i (.inr e) = .inr e
  | 0, _ => rfl
  | j + 1, i => by
    show rs_lks B T j (i + 1) (rs_lk B T i (.inr e)) = _
    rw [rs_lk_e]
    exact rs_lks_e B T e j (i + 1)
theorem lk_id {B T : Nat → Nat} {i : Nat} {S : rS} (h : snd (rs_lk B T i S)) : rs_lk B T i S = S := by
  unfold rs_lk at h ⊢
  by_cases g1 : tg B T i = 7
  · rw [if_pos g1] at h ⊢
    have e1 := (sd_wc rfl h).2
    rw [e1] at h ⊢
    exact (sd_wc rfl h).2
  · rw [if_neg g1] at h ⊢
    by_cases g2 : tg B T i = 8
    · rw [if_pos g2] at h ⊢
      exact (sd_wc rfl h).2
    · rw [if_neg g2] at h ⊢
      by_cases g3 : tg B T i = 9 ∨ tg B T i = 10 ∨ tg B T i = 11
      · rw [if_pos g3] at h ⊢
        exact (sd_wc rfl h).2
      · rw [if_neg g3] at h ⊢
        by_cases g4 : tg B T i = 12
        · rw [if_pos g4] at h ⊢
          have e1 := (sd_wc rfl h).2
          rw [e1] at h ⊢
          have e2 := (sd_wc rfl h).2
          rw [e2] at h ⊢
          exact (sd_wc rfl h).2
        · exact if_neg g4
theorem lks_id {B T : Nat → Nat} : ∀ {j i : Nat} {S : rS}, snd (rs_lks B T j i S) → rs_lks B T j i S = S ∧ ∀ k, i ≤ k → k < i + j → rs_lk B T k S = S
  | 0, i, S, h => ⟨rfl, fun k h1 h2 => by omega⟩
  | j + 1, i, S, h => by
    obtain ⟨e1, e2⟩ := lks_id (j := j) (i := i + 1) (S := rs_lk B T i S) h
    have h2 : snd (rs_lks B T j (i + 1) (rs_lk B T i S)) := h
    rw [e1] at h2
    have e3 := lk_id h2
    rw [e3] at e1 e2
    refine ⟨by show rs_lks B T j (i + 1) (rs_lk B T i S) = S; rw [e3]; exact e1, fun k h3 h4 => ?_⟩
    rcases Nat.eq_or_lt_of_le h3 with h5 | h5
    · rw [← h5]; exact e3
    · exact e2 k h5 (by omega)
theorem c_lk {L : Nat} {xs : Nat → Int32} {d b n i : Nat} {B T : Nat → Nat} {fp : Int32} {S0 : rS} {h : List qx_E} {a : Nat → Nat → Int32} (hT : TS h b B n S0 fp a) (hR : snd S0 → PL B n T a) (hs : snd S0) (hi : i < 64) : wp_W L xs (d + 5) 53 0 (lv_args 0 [.ref (b + 1), .int (nI i)]) [] h (fun v h' => v = none ∧ TS h' b B n (rs_lk B T i S0) fp a ∧ fr b h h') := c_lkK hT hR hs hi (fun h' h1 h2 => ⟨rfl, h1, h2⟩)
set_option maxRecDepth 100000 in
theorem c_l2 {L : Nat} {xs : Nat → Int32} {d b n : Nat} {B T : Nat → Nat} {fp : Int32} {h0 : List qx_E} {a : Nat → Nat → Int32} {e : qx_L} {Q : Option Value → List qx_E → Prop} (he : e = [] ∨ ∃ v : Int32, e = [(2, .int v)]) : ∀ j i S (h : List qx_E), TS h b B n S fp a → (snd S → PL B n T a) → fr b h0 h → i + j = 64 → (∀ h', TS h' b B n (rs_lks B T j i S) fp a → fr b h0 h' → Q none h') → wp_W L xs (d + 6) 24 67 ((0, .ref (b + 1)) :: (1, .int (nI i)) :: e) [] h Q := by
  intro j
  induction j with
  | zero =>
    intro i S h hT hR hf hi hK
    refine wp_iload_n dq_24_67 rfl ?_
    refine wp_bipush (x := 64) dq_24_68 rfl ?_
    refine wp_ic_ge (tgt := 94) dq_24_70 rfl (fun c1 => ?_) (fun c1 => absurd (nI_le (a := 64) (by omega) (by omega)) c1)
    exact wp_vre dq_24_94 rfl (hK h hT hf)
  | succ j ih =>
    intro i S h hT hR hf hi hK
    obtain ⟨s0, hb, -⟩ := id hT
    cases S with
    | inr e0 =>
      have hE := wp_vre (L := L) (xs := xs) (d := d + 6) (lv := (0, .ref (b + 1)) :: (1, .int (nI i)) :: e) dq_24_94 rfl (hK h (by rw [rs_lks_e]; exact hT) hf)
      refine wp_iload_n dq_24_67 rfl ?_
      refine wp_bipush (x := 64) dq_24_68 rfl ?_
      refine wp_ic_ge (tgt := 94) dq_24_70 rfl (fun c1 => hE) (fun c1 => ?_)
      refine wp_aload_n dq_24_73 rfl ?_
      refine wp_getf dq_24_74 fl_24_12 (tb_c1 hb) rfl ?_
      refine wp_cve0 dq_24_77 mt_24_37 (ob_of (tb_c2 hb)) ⟨by decide +kernel, by decide +kernel⟩ (Nat.le_of_ble_eq_true rfl) (Nat.le_of_ble_eq_true rfl) (c_soundT hT) ?_
      refine wp_if_eq (tgt := 94) dq_24_80 rfl (fun c2 => hE) (fun c2 => absurd rfl c2)
    | inl p =>
      refine wp_iload_n dq_24_67 rfl ?_
      refine wp_bipush (x := 64) dq_24_68 rfl ?_
      refine wp_ic_ge (tgt := 94) dq_24_70 rfl (fun c1 => ?_) (fun c1 => ?_)
      · exact absurd c1 (nI_ge (b := 64) (by omega) (by decide))
      · refine wp_aload_n dq_24_73 rfl ?_
        refine wp_getf dq_24_74 fl_24_12 (tb_c1 hb) rfl ?_
        refine wp_cve0 dq_24_77 mt_24_37 (ob_of (tb_c2 hb)) ⟨by decide +kernel, by decide +kernel⟩ (Nat.le_of_ble_eq_true rfl) (Nat.le_of_ble_eq_true rfl) (c_soundT hT) ?_
        refine wp_if_eq (tgt := 94) dq_24_80 rfl (fun c2 => ?_) (fun c2 => ?_)
        · exact absurd c2 (by show ¬ (1 : Int32) = 0; decide)
        · refine wp_aload_n dq_24_83 rfl ?_
          refine wp_iload_n dq_24_84 rfl ?_
          refine wp_cv1 dq_24_85 mt_24_83 (ob_of (tb_c1 hb)) ⟨by decide +kernel, by decide +kernel⟩ (Nat.le_of_ble_eq_true rfl) (Nat.le_of_ble_eq_true rfl) (c_lk hT (fun hq => hR hq) (snd_l p) (by omega)) (fun v9 h9 q9 => ?_)
          obtain ⟨rfl, hT, hf9⟩ := q9
          have hf := fr_tr hf hf9
          clear hf9
          obtain ⟨s1, hb, -⟩ := id hT
          refine wp_iinc (y := (nI i + 1)) (lv' := (0, .ref (b + 1)) :: (1, .int (nI i + 1)) :: e) dq_24_88 rfl rfl (by decide) (by rcases he with rfl | ⟨v, rfl⟩ <;> rfl) ?_
          refine wp_goto (tgt := 67) dq_24_91 rfl ?_
          rw [nI_1]
          exact ih (i + 1) _ _ hT (fun hq => hR (sd_lk rfl hq)) hf (by omega) hK
set_option maxRecDepth 100000 in
theorem c_l1 {L : Nat} {xs : Nat → Int32} {d b n : Nat} {B T : Nat → Nat} {fp : Int32} {p : Nat} {h0 : List qx_E} {Q : Option Value → List qx_E → Prop} (hG : PG B n T) : ∀ j i (h : List qx_E) (a : Nat → Nat → Int32) (e : qx_L), TS h b B n (.inl p) fp a → PR B T a → fr b h0 h → (∀ k, 1 ≤ k → k < i → tg B T k = 1 → a 4 k = shv (k_cn B T k) (k_ft B T k) (B (T k + 3) == 91) (k_mt B T k) (k_mm B T k)) → (e = [] ∨ ∃ v : Int32, e = [(2, .int v)]) → i + j = 64 → 1 ≤ i → (∀ h' a' e', (e' = [] ∨ ∃ v : Int32, e' = [(2, .int v)]) → TS h' b B n (.inl p) fp a' → fr b h0 h' → PR B T a' → SH B T a' → (∀ q, q ≠ 4 → a' q = a q) → wp_W L xs (d + 8) 24 65 ((0, .ref (b + 1)) :: (1, .int (nI 64)) :: e') [] h' Q) → wp_W L xs (d + 8) 24 2 ((0, .ref (b + 1)) :: (1, .int (nI i)) :: e) [] h Q := by
  intro j
  induction j with
  | zero =>
    intro i h a e hT hP hf hsh he hi h1i hK
    have hi64 : i = 64 := by omega
    subst hi64
    refine wp_iload_n dq_24_2 rfl ?_
    refine wp_bipush (x := 64) dq_24_3 rfl ?_
    refine wp_ic_ge (tgt := 65) dq_24_5 rfl (fun c1 => ?_) (fun c1 => absurd (nI_le (a := 64) (by omega) (by omega)) c1)
    exact hK h a e he hT hf hP (fun k hk h3 => hsh k (tx_in hG h3).1 hk h3) (fun _ _ => rfl)
  | succ j ih =>
    intro i h a e hT hP hf hsh he hi h1i hK
    obtain ⟨s0, hb, hc, hO, hn, h01, h11, hm⟩ := id hT
    have hQ0 : QF B n T s0 a := ⟨hO, hn, h11, hP, hG⟩
    have hw := TS_tw hc hn h11 hm
    have hcl : (nI i).toNatClampNeg = i := nI_clamp (by omega)
    have hin : qx_in (nI i) 64 = true := qx_in_n (by omega) (by decide)
    have hg12 := PG_tg hG i
    refine wp_iload_n dq_24_2 rfl ?_
    refine wp_bipush (x := 64) dq_24_3 rfl ?_
    refine wp_ic_ge (tgt := 65) dq_24_5 rfl (fun c1 => ?_) (fun c1 => ?_)
    · exact absurd c1 (nI_ge (b := 64) (by omega) (by decide))
    · refine wp_aload_n dq_24_8 rfl ?_
      refine wp_getf dq_24_9 fl_24_12 (tb_c1 hb) rfl ?_
      refine wp_cve0 dq_24_12 mt_24_37 (ob_of (tb_c2 hb)) ⟨by decide +kernel, by decide +kernel⟩ (Nat.le_of_ble_eq_true rfl) (Nat.le_of_ble_eq_true rfl) (c_soundT hT) ?_
      refine wp_if_eq (tgt := 65) dq_24_15 rfl (fun c2 => ?_) (fun c2 => ?_)
      · exact absurd c2 (by show ¬ (1 : Int32) = 0; decide)
      · refine wp_aload_n dq_24_18 rfl ?_
        refine wp_getf dq_24_19 fl_24_18 (tb_c1 hb) rfl ?_
        refine wp_iload_n dq_24_22 rfl ?_
        refine wp_iald dq_24_23 (tb_c4 hb) hin ?_
        rw [hcl, QF_tg hQ0 (by omega)]
        refine wp_iconst (x := 1) dq_24_24 rfl ?_
        refine wp_ic_ne (tgt := 59) dq_24_25 rfl (fun c3 => ?_) (fun c3 => ?_)
        · refine wp_iinc (y := (nI i + 1)) (lv' := (0, .ref (b + 1)) :: (1, .int (nI i + 1)) :: e) dq_24_59 rfl rfl (by decide) (by rcases he with rfl | ⟨v, rfl⟩ <;> rfl) ?_
          refine wp_goto (tgt := 2) dq_24_62 rfl ?_
          rw [nI_1]
          refine ih (i + 1) _ _ _ hT hP hf (fun k h1 h2 h3 => ?_) he (by omega) (by omega) hK
          by_cases hk : k = i
          · subst hk
            exact absurd (by rw [h3]; rfl) c3
          · exact hsh k h1 (by omega) h3
        · refine wp_aload_n dq_24_28 rfl ?_
          refine wp_getf dq_24_29 fl_24_22 (tb_c1 hb) rfl ?_
          refine wp_iload_n dq_24_32 rfl ?_
          have ht1 : tg B T i = 1 := (nI_eq (b := 1) (by omega) (by decide)).mp c3
          obtain ⟨i1, i2, i3, i4, i5⟩ := tx_in hG ht1
          refine wp_iald dq_24_33 (tb_c5 hb) hin ?_
          rw [hcl, QF_pl hQ0 (by omega) i3]
          refine wp_iconst (x := 3) dq_24_34 rfl ?_
          refine wp_iadd dq_24_35 ?_
          rw [show (3 : Int32) = nI 3 from rfl, nI_add]
          refine wp_istore_n (lv' := [(0, .ref (b + 1)), (1, .int (nI i)), (2, .int (nI (T i + 3)))]) dq_24_36 (by decide) (by rcases he with rfl | ⟨v, rfl⟩ <;> rfl) ?_
          refine wp_aload_n dq_24_37 rfl ?_
          refine wp_getf dq_24_38 fl_24_28 (tb_c1 hb) rfl ?_
          refine wp_iload_n dq_24_41 rfl ?_
          refine wp_aload_n dq_24_42 rfl ?_
          refine wp_getf dq_24_43 fl_24_12 (tb_c1 hb) rfl ?_
          refine wp_iload_n dq_24_46 rfl ?_
          refine wp_iload_n dq_24_47 rfl ?_
          refine wp_aload_n dq_24_48 rfl ?_
          refine wp_getf dq_24_49 fl_24_25 (tb_c1 hb) rfl ?_
          refine wp_iload_n dq_24_52 rfl ?_
          refine wp_iald dq_24_53 (tb_c6 hb) hin ?_
          rw [hcl, QF_ln hQ0 ht1]
          refine wp_iadd dq_24_54 ?_
          rw [nI_add]
          refine wp_cse3 dq_24_55 (by decide +kernel) mt_24_77 (by decide +kernel) (Nat.le_of_ble_eq_true rfl) (Nat.le_of_ble_eq_true rfl) (c_shapes (q := te B T i) hb hw (QF_gB hQ0) (by unfold te; omega) (by unfold te; omega)) ?_
          rw [sh_of hQ0 ht1]
          refine wp_a4 dq_24_58 hin hb hf (fun h hb hf => ?_)
          rw [hcl] at hb
          refine wp_iinc (y := (nI i + 1)) (lv' := (0, .ref (b + 1)) :: (1, .int (nI i + 1)) :: [(2, .int (nI (T i + 3)))]) dq_24_59 rfl rfl (by decide) rfl ?_
          refine wp_goto (tgt := 2) dq_24_62 rfl ?_
          rw [nI_1]
          have hT : TS h b B n (.inl p) fp (tb_va a 4 (upd (a 4) i (shv (k_cn B T i) (k_ft B T i) (B (T i + 3) == 91) (k_mt B T i) (k_mm B T i)))) := ⟨_, hb, hc, hO, hn, h01, h11, hm⟩
          refine ih (i + 1) _ _ _ hT hP hf (fun k h1 h2 h3 => ?_) (Or.inr ⟨_, rfl⟩) (by omega) (by omega) (fun h3 a3 e3 he3 hT3 hf3 hP3 hS3 ho3 => hK h3 a3 e3 he3 hT3 hf3 hP3 hS3 (fun q hq => (ho3 q hq).trans (if_neg hq)))
          · by_cases hk : k = i
            · subst hk
              exact pk_us
            · exact (pk_un hk).trans (hsh k h1 (by omega) h3)
set_option maxRecDepth 100000 in
theorem c_lks {L : Nat} {xs : Nat → Int32} {d b n : Nat} {B T : Nat → Nat} {fp : Int32} {S0 : rS} {h : List qx_E} {a : Nat → Nat → Int32} (hT : TS h b B n S0 fp a) (hR : snd S0 → PR B T a ∧ PG B n T) : wp_W L xs (d + 8) 24 0 (lv_args 0 [.ref (b + 1)]) [] h (fun v h' => v = none ∧ ∃ a', TS h' b B n (rs_lks B T 63 1 S0) fp a' ∧ fr b h h' ∧ (∀ q, q ≠ 4 → a' q = a q) ∧ (snd (rs_lks B T 63 1 S0) → PL B n T a')) := by
  show wp_W L xs _ 24 0 [(0, .ref (b + 1))] [] h _
  obtain ⟨s0, hb, -⟩ := id hT
  refine wp_iconst (x := 1) dq_24_0 rfl ?_
  refine wp_istore_n (lv' := (0, .ref (b + 1)) :: (1, .int 1) :: []) dq_24_1 (by decide) rfl ?_
  cases S0 with
  | inr e0 =>
    have hX : wp_W L xs (d + 8) 24 65 ((0, .ref (b + 1)) :: (1, .int 1) :: []) [] h (fun v h' => v = none ∧ ∃ a', TS h' b B n (rs_lks B T 63 1 (.inr e0)) fp a' ∧ fr b h h' ∧ (∀ q, q ≠ 4 → a' q = a q) ∧ (snd (rs_lks B T 63 1 (.inr e0)) → PL B n T a')) := by
      refine wp_iconst (x := 1) dq_24_65 rfl ?_
      refine wp_istore_n (lv' := (0, .ref (b + 1)) :: (1, .int (nI 1)) :: []) dq_24_66 (by decide) rfl ?_
      refine c_l2 (d := d + 2) (Or.inl rfl) 63 1 (.inr e0) h hT (fun hq => absurd hq not_snd) fr_rf (by decide) (fun h' hT' hf' => ⟨rfl, a, hT', hf', fun _ _ => rfl, fun hq => ?_⟩)
      rw [rs_lks_e] at hq
      exact absurd hq not_snd
    refine wp_iload_n dq_24_2 rfl ?_
    refine wp_bipush (x := 64) dq_24_3 rfl ?_
    refine wp_ic_ge (tgt := 65) dq_24_5 rfl (fun c1 => hX) (fun c1 => ?_)
    refine wp_aload_n dq_24_8 rfl ?_
    refine wp_getf dq_24_9 fl_24_12 (tb_c1 hb) rfl ?_
    refine wp_cve0 dq_24_12 mt_24_37 (ob_of (tb_c2 hb)) ⟨by decide +kernel, by decide +kernel⟩ (Nat.le_of_ble_eq_true rfl) (Nat.le_of_ble_eq_true rfl) (c_soundT hT) ?_
    refine wp_if_eq (tgt := 65) dq_24_15 rfl (fun c2 => hX) (fun c2 => absurd rfl c2)
  | inl p =>
    obtain ⟨hP, hG⟩ := hR (snd_l p)
    refine c_l1 (p := p) hG 63 1 h a [] hT hP fr_rf (fun k h1 h2 _ => by omega) (Or.inl rfl) (by decide) (by decide) (fun h1 a1 e1 he1 hT1 hf1 hP1 hS1 ho1 => ?_)
    refine wp_iconst (x := 1) dq_24_65 rfl ?_
    refine wp_istore_n (lv' := (0, .ref (b + 1)) :: (1, .int (nI 1)) :: e1) dq_24_66 (by decide) (by rcases he1 with rfl | ⟨v, rfl⟩ <;> rfl) ?_
    exact c_l2 (d := d + 2) he1 63 1 (.inl p) h1 hT1 (fun _ => ⟨hP1, hG, hS1⟩) hf1 (by decide) (fun h' hT' hf' => ⟨rfl, a1, hT', hf', ho1, fun _ => ⟨hP1, hG, hS1⟩⟩)
