/-! attributes: the word that a text is in a table of the kind (0: none) -/
def kw (kd w : Nat) : Bool := decide (w ≤ 2) || (w == 3 && kd == 0) || (w == 4 && kd == 1) || (decide (5 ≤ w) && kd == 3)
def fdR (l : List Nat) (kd : Nat) : Nat → Nat → Nat
  | 0, _ => 0
  | j + 1, i => if kw kd (i + 1) = true ∧ l = wd (qx_ttl.getD i 0) then i + 1 else fdR l kd j (i + 1)
def fdN (l : List Nat) (kd : Nat) : Nat := fdR l kd 9 0
theorem kw_tb : ∀ kd, kd < 4 → ∀ i, i < 9 → ((((qx_etb.getD i 0 >>> (nI kd &&& 31)) &&& 1) = 0) ↔ kw kd (i + 1) = false) := by decide +kernel
theorem fdR_in {l : List Nat} {kd : Nat} : ∀ j i, fdR l kd j i ≠ 0 → i < fdR l kd j i ∧ fdR l kd j i ≤ i + j ∧ kw kd (fdR l kd j i) = true ∧ l = wd (qx_ttl.getD (fdR l kd j i - 1) 0)
  | 0, i, h => absurd rfl h
  | j + 1, i, h => by
    unfold fdR at h ⊢
    by_cases c : kw kd (i + 1) = true ∧ l = wd (qx_ttl.getD i 0)
    · rw [if_pos c]
      exact ⟨by omega, by omega, c.1, c.2⟩
    · rw [if_neg c] at h ⊢
      obtain ⟨h1, h2, h3⟩ := fdR_in j (i + 1) h
      exact ⟨by omega, by omega, h3⟩
def oW (w : Nat) : Option Nat := if w = 0 then none else some w
theorem q_fdR {B : Nat → Nat} {n : Nat} {T : Nat → Nat} {s : Nat → Int32} {a : Nat → Nat → Int32} (hQ : QF B n T s a) {i kd : Nat} (hi : i < 65536) (hkd : kd < 4) (ht : tg B T i = 1) : ∀ j k, k + j = 9 → f_fdL s a (nI i) (nI kd) j k = oW (fdR (tx B T i) kd j k)
  | 0, k, _ => rfl
  | j + 1, k, hk => by
    have ih := q_fdR hQ hi hkd ht j (k + 1) (by omega)
    unfold f_fdL fdR
    rw [ih, q_spells hQ hi (ttl_in k (by omega))]
    have ht2 := kw_tb kd hkd k (by omega)
    by_cases c1 : kw kd (k + 1) = true
    · rw [if_neg (fun r => by rw [ht2.mp r] at c1; cases c1)]
      by_cases c2 : tx B T i = wd (qx_ttl.getD k 0)
      · rw [decide_eq_true (⟨ht, c2⟩ : tg B T i = 1 ∧ _), if_neg (show ¬ bI true = 0 by decide), if_pos ⟨c1, c2⟩]
        rfl
      · rw [decide_eq_false (fun r => c2 r.2 : ¬ (tg B T i = 1 ∧ _)), if_pos (show bI false = 0 from rfl), if_neg (fun r => c2 r.2)]
    · rw [if_pos (ht2.mpr (by rcases Bool.eq_false_or_eq_true (kw kd (k + 1)) with r | r; exact absurd r c1; exact r)), if_neg (fun r => c1 r.1)]
theorem fdL_en {s : Nat → Int32} {a : Nat → Nat → Int32} {x y : Int32} {w : Nat} : ∀ j i, i + j = 9 → f_fdL s a x y j i = some w → qx_en w = true
  | 0, i, _, e => by cases e
  | j + 1, i, hi, e => by
    unfold f_fdL at e
    split at e
    · exact fdL_en j (i + 1) (by omega) e
    · split at e
      · exact fdL_en j (i + 1) (by omega) e
      · cases e
        simp [qx_en]
        omega
/-! the head of an attribute, in the table of the owner o -/
def ah_w (B : Nat → Nat) (n : Nat) (T : Nat → Nat) (kd : Nat) (S : rS) : Nat := fdN (tx B T (rs_iv B n 2 S)) kd
def ah_l (B : Nat → Nat) (n : Nat) (T : Nat → Nat) (S : rS) : Nat := rs_iv B n 4 (rs_ix B n T 1 false S)
def rs_ah2 (B : Nat → Nat) (n : Nat) (T : Nat → Nat) (S : rS) : rS := rs_is n 4 (rs_ix B n T 1 false S)
def rs_ah (B : Nat → Nat) (n : Nat) (T : Nat → Nat) (kd o : Nat) (M : rM) (S : rS) : rS := if ah_w B n T kd S = 0 then rs_is n (ah_l B n T S) (rs_ah2 B n T S) else rs_w (M.ct (9 * o + (ah_w B n T kd S - 1)) == 0) 9 (rs_p S) (rs_ah2 B n T S)
def mb_ah (B : Nat → Nat) (n : Nat) (T : Nat → Nat) (kd o : Nat) (S : rS) (M : rM) : rM := if ah_w B n T kd S = 0 then M else ⟨M.c, M.np, updN M.ct (9 * o + (ah_w B n T kd S - 1)) (rs_p (rs_ah2 B n T S))⟩
theorem sd_ah {B : Nat → Nat} {n : Nat} {T : Nat → Nat} {kd o : Nat} {M : rM} {S S' : rS} (e : rs_ah B n T kd o M S = S') (h : snd S') : snd (rs_ah2 B n T S) := by
  unfold rs_ah at e
  split at e
  · exact sd_is e h
  · exact sd_w e h
theorem sd_ah0 {B : Nat → Nat} {n : Nat} {T : Nat → Nat} {S : rS} (h : snd (rs_ah2 B n T S)) : snd S := sd_ix rfl (sd_is rfl h)
theorem ah_none {B : Nat → Nat} {n : Nat} {T : Nat → Nat} {kd o : Nat} {M : rM} {S S1 S2 S3 : rS} (e1 : rs_ix B n T 1 false S = S1) (e2 : rs_is n 4 S1 = S2) (e3 : rs_is n (rs_iv B n 4 S1) S2 = S3) (hw : snd S2 → ah_w B n T kd S = 0) : rs_ah B n T kd o M S = S3 := by
  have h2 : rs_ah2 B n T S = S2 := by rw [rs_ah2, e1, e2]
  unfold rs_ah
  rw [h2]
  rcases snd_or S2 with hs | ⟨e, rfl⟩
  · rw [if_pos (hw hs), ah_l, e1, e3]
  · subst e3
    split <;> rfl
theorem ah_some {B : Nat → Nat} {n : Nat} {T : Nat → Nat} {kd o w : Nat} {M : rM} {S S1 S2 S3 : rS} (e1 : rs_ix B n T 1 false S = S1) (e2 : rs_is n 4 S1 = S2) (e3 : rs_w (M.ct (9 * o + (w - 1)) == 0) 9 (rs_p S) S2 = S3) (h0 : w ≠ 0) (hw : snd S2 → ah_w B n T kd S = w) : rs_ah B n T kd o M S = S3 := by
  have h2 : rs_ah2 B n T S = S2 := by rw [rs_ah2, e1, e2]
  unfold rs_ah
  rw [h2]
  rcases snd_or S2 with hs | ⟨e, rfl⟩
  · rw [hw hs, if_neg h0, e3]
  · subst e3
    split <;> rfl
theorem ix_tg {B : Nat → Nat} {n : Nat} {T : Nat → Nat} {t : Nat} {S S' : rS} (e : rs_ix B n T t false S = S') (h : snd S') : tg B T (rs_iv B n 2 S) = t := by
  have h1 := (sd_wc e h).1
  rw [Bool.false_and, Bool.false_or] at h1
  exact beq_iff_eq.mp h1
theorem MR_kp {n : Nat} {a a' : Nat → Nat → Int32} {M : rM} {q p : Nat} (hM : MR a M) (hV : MV n M) (ho : ∀ i, i ≠ 7 → a' i = a i) (h7 : a' 7 = upd (a 7) q (nI p)) (hp : p ≤ n) : MR a' ⟨M.c, M.np, updN M.ct q p⟩ ∧ MV n ⟨M.c, M.np, updN M.ct q p⟩ := by
  obtain ⟨m1, m2, m3⟩ := hM
  obtain ⟨v1, v2, v3, v4⟩ := hV
  refine ⟨⟨fun i hi => by rw [ho 5 (by decide)]; exact m1 i hi, fun d j hd hj => by rw [ho 6 (by decide)]; exact m2 d j hd hj, fun i hi => ?_⟩, v1, v2, v3, fun i => ?_⟩
  · rw [h7]
    show _ = nI (updN M.ct q p i)
    by_cases e : i = q
    · subst e; rw [pk_us, updN_s]
    · rw [pk_un e, updN_n e]; exact m3 i hi
  · show updN M.ct q p i ≤ n
    by_cases e : i = q
    · subst e; rw [updN_s]; exact hp
    · rw [updN_n e]; exact v4 i
theorem oW_s {x w : Nat} (h : oW x = some w) : x = w := by
  unfold oW at h
  split at h
  · cases h
  · injection h
theorem oW_n {x : Nat} (h : oW x = none) : x = 0 := by
  unfold oW at h
  split at h
  · assumption
  · cases h
set_option maxRecDepth 100000 in
theorem c_ahK {L : Nat} {xs : Nat → Int32} {d b n g F kd k : Nat} {B T : Nat → Nat} {fp : Int32} {S0 : rS} {h : List qx_E} {a : Nat → Nat → Int32} {M : rM} {Q : Option Value → List qx_E → Prop} (hT : TS h b B n S0 fp a) (hC : snd S0 → RC B n T F fp a M ∧ k < M.c kd) (hg : RG h b g) (hkd : kd < 4) (hk : k < 16) (hk3 : kd = 3 → k = 0) (hR : snd S0 → PL B n T a) (hK : ∀ h' w a', (∀ x, w = some x → qx_en x = true) → TS h' b B n (rs_ah B n T kd (16 * kd + k) M S0) fp a' → fr b h h' → (snd (rs_ah B n T kd (16 * kd + k) M S0) → w = oW (ah_w B n T kd S0) ∧ RC B n T F fp a' (mb_ah B n T kd (16 * kd + k) S0 M)) → Q (some (kv w)) h') : wp_W L xs (d + 6) 91 0 (lv_args 0 [.ref g, .int (nI kd), .int (nI k)]) [] h Q := by
  show wp_W L xs _ 91 0 [(0, .ref g), (1, .int (nI kd)), (2, .int (nI k))] [] h _
  obtain ⟨s0, hb, hw, hm0, h00, hq0⟩ := TS_x hT
  have hf : fr b h h := fr_rf
  refine wp_aload_n dq_91_0 rfl ?_
  refine wp_getf dq_91_1 fl_91_26 hg.2 rfl ?_
  refine wp_getf dq_91_4 fl_91_52 (tb_c2 hb) rfl ?_
  refine wp_istore_n (lv' := [(0, .ref g), (1, .int (nI kd)), (2, .int (nI k)), (3, .int (s0 2))]) dq_91_7 (by decide) rfl ?_
  refine wp_aload_n dq_91_8 rfl ?_
  refine wp_iconst (x := 1) dq_91_9 rfl ?_
  refine wp_iconst (x := 0) dq_91_10 rfl ?_
  refine wp_cv2 dq_91_11 mt_91_84 (ob_of hg.2) ⟨by decide +kernel, by decide +kernel⟩ (Nat.le_of_ble_eq_true rfl) (Nat.le_of_ble_eq_true rfl) (c_ix (t := 1) (mz := false) hT (fun hq => hR hq) hg (fun _ s i hi hQ => q_names hQ hi (t := 1) (by decide) (by decide))) (fun v9 h9 q9 => ?_)
  obtain ⟨rfl, hT, hf9⟩ := q9
  have hg := RG_fr hg hf9
  have hf := fr_tr hf hf9
  clear hf9
  generalize hS1 : rs_ix B n T 1 false S0 = S1 at hT
  obtain ⟨s1, hb, hw, hm1, h01, hq1⟩ := TS_x hT
  refine wp_istore (lv' := [(0, .ref g), (1, .int (nI kd)), (2, .int (nI k)), (3, .int (s0 2)), (4, .int (nI (rs_iv B n 2 S0)))]) dq_91_14 (by decide) rfl ?_
  refine wp_aload_n dq_91_16 rfl ?_
  refine wp_getf dq_91_17 fl_91_26 hg.2 rfl ?_
  refine wp_iconst (x := 4) dq_91_20 rfl ?_
  refine wp_cv1 dq_91_21 mt_91_27 (ob_of (tb_c2 hb)) ⟨by decide +kernel, by decide +kernel⟩ (Nat.le_of_ble_eq_true rfl) (Nat.le_of_ble_eq_true rfl) (c_itemT (k := 4) hT (by decide)) (fun v9 h9 q9 => ?_)
  obtain ⟨rfl, hT, hf9⟩ := q9
  have hg := RG_fr hg hf9
  have hf := fr_tr hf hf9
  clear hf9
  generalize hS2 : rs_is n 4 S1 = S2 at hT
  obtain ⟨s2, hb, hw, hm2, h02, hq2⟩ := TS_x hT
  refine wp_lstore (lv' := [(0, .ref g), (1, .int (nI kd)), (2, .int (nI k)), (3, .int (s0 2)), (4, .int (nI (rs_iv B n 2 S0))), (5, .long (lN (rs_iv B n 4 S1)))]) dq_91_24 (by decide) rfl ?_
  have hL9 : rs_iv B n 4 S1 < 2 ^ 32 := iv_lt (k := 4) hT
  have hN9 : rs_iv B n 2 S0 < 65536 := iv2_lt hT
  refine wp_aload_n dq_91_26 rfl ?_
  refine wp_getf dq_91_27 fl_91_21 hg.2 rfl ?_
  refine wp_iload dq_91_30 rfl ?_
  refine wp_iload_n dq_91_32 rfl ?_
  refine wp_cse3 dq_91_33 (by decide +kernel) mt_91_169 (by decide +kernel) (Nat.le_of_ble_eq_true rfl) (Nat.le_of_ble_eq_true rfl) (c_find hb hw) ?_
  have hfq : snd S2 → f_fdL s2 a (nI (rs_iv B n 2 S0)) (nI kd) 9 0 = oW (ah_w B n T kd S0) := fun hq => q_fdR (hq2 _ (hR (sd_ix hS1 (sd_is hS2 hq))).1 (hR (sd_ix hS1 (sd_is hS2 hq))).2.1) hN9 hkd (ix_tg hS1 (sd_is hS2 hq)) 9 0 rfl
  cases hfd : f_fdL s2 a (nI (rs_iv B n 2 S0)) (nI kd) 9 0 with
  | none =>
    have hww : snd S2 → ah_w B n T kd S0 = 0 := fun hq => oW_n ((hfq hq).symm.trans hfd)
    refine wp_astoreN (lv' := [(0, .ref g), (1, .int (nI kd)), (2, .int (nI k)), (3, .int (s0 2)), (4, .int (nI (rs_iv B n 2 S0))), (5, .long (lN (rs_iv B n 4 S1))), (7, .null)]) dq_91_36 (by decide) rfl ?_
    refine wp_aloadN dq_91_38 rfl ?_
    refine wp_ifnonnullN dq_91_40 ?_
    refine wp_aload_n dq_91_43 rfl ?_
    refine wp_getf dq_91_44 fl_91_26 hg.2 rfl ?_
    refine wp_lload dq_91_47 rfl ?_
    refine wp_cv1 dq_91_49 mt_91_173 (ob_of (tb_c2 hb)) ⟨by decide +kernel, by decide +kernel⟩ (Nat.le_of_ble_eq_true rfl) (Nat.le_of_ble_eq_true rfl) (c_skipT (q := (rs_iv B n 4 S1)) hT hL9) (fun v9 h9 q9 => ?_)
    obtain ⟨rfl, hT, hf9⟩ := q9
    have hg := RG_fr hg hf9
    have hf := fr_tr hf hf9
    clear hf9
    generalize hS3 : rs_is n (rs_iv B n 4 S1) S2 = S3 at hT
    obtain ⟨s3, hb, hw, hm3, h03, hq3⟩ := TS_x hT
    refine wp_null dq_91_52 ?_
    have e3 := ah_none (kd := kd) (o := 16 * kd + k) (M := M) hS1 hS2 hS3 hww
    rw [e3] at hK
    refine wp_areN dq_91_53 rfl (hK h9 none a (fun x hx => by cases hx) hT hf (fun hq => ?_))
    have hq2 := sd_is hS3 hq
    rw [hww hq2, mb_ah, if_pos (hww hq2)]
    exact ⟨rfl, (hC (sd_ix hS1 (sd_is hS2 (sd_is hS3 hq)))).1⟩
  | some w =>
    have he := fdL_en 9 0 rfl hfd
    have hw1 : 1 ≤ w ∧ w ≤ 9 := by simpa [qx_en] using he
    have hww : snd S2 → ah_w B n T kd S0 = w := fun hq => oW_s ((hfq hq).symm.trans hfd)
    refine wp_astoreK (lv' := [(0, .ref g), (1, .int (nI kd)), (2, .int (nI k)), (3, .int (s0 2)), (4, .int (nI (rs_iv B n 2 S0))), (5, .long (lN (rs_iv B n 4 S1))), (7, .retAddr w)]) dq_91_36 (by decide) rfl ?_
    refine wp_aloadK dq_91_38 rfl ?_
    refine wp_ifnonnullK (tgt := 54) dq_91_40 (by first | exact he | decide) rfl ?_
    refine wp_aload_n dq_91_54 rfl ?_
    refine wp_getf dq_91_55 fl_91_26 hg.2 rfl ?_
    have hj58 : ∀ z9 : Int32, (snd S2 → z9 = bI ((M.ct (9 * (16 * kd + k) + (w - 1)) == 0))) → wp_W L xs (d + 6) 91 77 [(0, .ref g), (1, .int (nI kd)), (2, .int (nI k)), (3, .int (s0 2)), (4, .int (nI (rs_iv B n 2 S0))), (5, .long (lN (rs_iv B n 4 S1))), (7, .retAddr w)] (.int z9 :: .ref (b + 2) :: []) h9 Q := by
      intro z9 hz9
      refine wp_bipush (x := 9) dq_91_77 rfl ?_
      refine wp_iload_n dq_91_79 rfl ?_
      refine wp_cv3 dq_91_80 mt_91_35 (ob_of (tb_c2 hb)) ⟨by decide +kernel, by decide +kernel⟩ (Nat.le_of_ble_eq_true rfl) (Nat.le_of_ble_eq_true rfl) (c_wantB (c := (M.ct (9 * (16 * kd + k) + (w - 1)) == 0)) (f := 9) (p := (rs_p S0)) hT (by decide) (fun hq => hz9 hq) (fun hq => TS_p hm0 (sd_ix hS1 (sd_is hS2 hq)))) (fun v9 h9 q9 => ?_)
      obtain ⟨rfl, hT, hf9⟩ := q9
      have hg := RG_fr hg hf9
      have hf := fr_tr hf hf9
      clear hf9
      generalize hS3 : rs_w (M.ct (9 * (16 * kd + k) + (w - 1)) == 0) 9 (rs_p S0) S2 = S3 at hT
      obtain ⟨s3, hb, hw, hm3, h03, hq3⟩ := TS_x hT
      refine wp_aload_n dq_91_83 rfl ?_
      refine wp_getf dq_91_84 fl_91_9 hg.2 rfl ?_
      refine wp_iload_n dq_91_87 rfl ?_
      refine wp_iload_n dq_91_88 rfl ?_
      refine wp_aloadK dq_91_89 rfl ?_
      refine wp_aload_n dq_91_91 rfl ?_
      refine wp_getf dq_91_92 fl_91_26 hg.2 rfl ?_
      refine wp_getf dq_91_95 fl_91_52 (tb_c2 hb) rfl ?_
      refine wp_cv4 dq_91_98 mt_91_181 (ob_of (tb_c0 hb)) ⟨by decide +kernel, by decide +kernel⟩ (Nat.le_of_ble_eq_true rfl) (Nat.le_of_ble_eq_true rfl) (c_keep hT he) (fun v9 h9 q9 => ?_)
      obtain ⟨rfl, a1, hT, hf9, ho1, h71⟩ := q9
      have hg := RG_fr hg hf9
      have hf := fr_tr hf hf9
      clear hf9
      refine wp_aloadK dq_91_101 rfl ?_
      have e3 := ah_some (kd := kd) (o := 16 * kd + k) hS1 hS2 hS3 (by omega) hww
      rw [e3] at hK
      refine wp_areK dq_91_103 rfl (hK h9 (some w) a1 (fun x hx => by cases hx; exact he) hT hf (fun hq => ?_))
      have hq2 := sd_w hS3 hq
      have e2 : rs_ah2 B n T S0 = S2 := by rw [rs_ah2, hS1, hS2]
      rw [hww hq2, mb_ah, hww hq2, if_neg (show ¬ w = 0 by omega), e2]
      obtain ⟨⟨c1, c2, c3, c4, c5⟩, c6⟩ := hC (sd_ix hS1 (sd_is hS2 (sd_w hS3 hq)))
      obtain ⟨q1, q2⟩ := q_slot (by omega) hk hk3 he
      have h7 := h71 ⟨by rw [q_has c2 c3 (by omega) (by omega), decide_eq_true c6]; decide, trivial⟩
      rw [q1, show s3 2 = nI (rs_p S2) by rw [TS_p hm3 hq, (sd_wc hS3 hq).2]] at h7
      obtain ⟨r1, r2⟩ := MR_kp c2 c3 ho1 h7 (TS_pn hm2)
      exact ⟨(if_neg (show ¬ w = 0 by omega)).symm, PL_o (fun q hq => ho1 q (by omega)) c1, r1, r2, c4, c5⟩
    refine wp_aload_n dq_91_58 rfl ?_
    refine wp_getf dq_91_59 fl_91_9 hg.2 rfl ?_
    refine wp_iload_n dq_91_62 rfl ?_
    refine wp_iload_n dq_91_63 rfl ?_
    refine wp_aloadK dq_91_64 rfl ?_
    refine wp_cve3 dq_91_66 mt_91_177 (ob_of (tb_c0 hb)) ⟨by decide +kernel, by decide +kernel⟩ (Nat.le_of_ble_eq_true rfl) (Nat.le_of_ble_eq_true rfl) (c_contentOf he hb hw) ?_
    refine wp_if_ne (tgt := 76) dq_91_69 rfl (fun c1 => ?_) (fun c1 => ?_)
    · refine wp_iconst (x := 0) dq_91_76 rfl ?_
      exact hj58 _ (fun hq => by have hQ := (hq2 _ (hR (sd_ix hS1 (sd_is hS2 hq))).1 (hR (sd_ix hS1 (sd_is hS2 hq))).2.1); have xc1 : (M.ct (9 * (16 * kd + k) + (w - 1)) == 0) = false := beq_eq_false_iff_ne.mpr (fun r => c1 (by rw [q_content (s := s2) (hC (sd_ix hS1 (sd_is hS2 hq))).1.2.1 (hC (sd_ix hS1 (sd_is hS2 hq))).1.2.2.1 (by omega) (hC (sd_ix hS1 (sd_is hS2 hq))).2 he, r]; rfl)); rw [xc1] <;> rfl)
    · refine wp_iconst (x := 1) dq_91_72 rfl ?_
      refine wp_goto (tgt := 77) dq_91_73 rfl ?_
      exact hj58 _ (fun hq => by have hQ := (hq2 _ (hR (sd_ix hS1 (sd_is hS2 hq))).1 (hR (sd_ix hS1 (sd_is hS2 hq))).2.1); have xc1 : (M.ct (9 * (16 * kd + k) + (w - 1)) == 0) = true := beq_iff_eq.mpr ((nI0 (by have := (hC (sd_ix hS1 (sd_is hS2 hq))).1.2.2.1.2.2.2 (9 * (16 * kd + k) + (w - 1)); have := QF_n hQ; omega)).mp (by rw [← q_content (s := s2) (hC (sd_ix hS1 (sd_is hS2 hq))).1.2.1 (hC (sd_ix hS1 (sd_is hS2 hq))).1.2.2.1 (by omega) (hC (sd_ix hS1 (sd_is hS2 hq))).2 he]; exact c1)); rw [xc1] <;> rfl)
