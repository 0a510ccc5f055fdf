theorem ah_bad {B : Nat → Nat} {n : Nat} {T : Nat → Nat} {kd o : Nat} {M : rM} {S : rS} {e : Nat × Nat} (h : rs_ah2 B n T S = .inr e) : rs_ah B n T kd o M S = .inr e := by
  unfold rs_ah
  rw [h]
  split <;> rfl
theorem sk_is {n k : Nat} {S : rS} (h : rsb (rs_ro n k S) = false) : rs_ro n k S = rs_is n k S := by
  cases S with
  | inl p =>
    by_cases c : p + k ≤ n
    · rw [show rs_ro n k (.inl p) = .inl p from if_pos c] at h
      cases h
    · rw [show rs_ro n k (.inl p) = .inr (1, n) from if_neg c]
      exact (if_neg c).symm
  | inr e => rfl
theorem sk_ok {n k : Nat} {S : rS} (h : rsb (rs_ro n k S) = true) : rs_ro n k S = S ∧ snd S ∧ rs_p S + k ≤ n ∧ rs_is n k S = .inl (rs_p S + k) := by
  cases S with
  | inl p =>
    by_cases c : p + k ≤ n
    · exact ⟨if_pos c, snd_l p, c, if_pos c⟩
    · rw [show rs_ro n k (.inl p) = .inr (1, n) from if_neg c] at h
      cases h
  | inr e => cases h
/-- at is moved -/
theorem wp_tat {L : Nat} {xs : Nat → Int32} {d m pc k p q n : Nat} {lv : qx_L} {r : List Value} {h : List qx_E} {Q : Option Value → List qx_E → Prop} {B : Nat → Nat} {N : Nat → Int32} {z : rZ} (hd : decode (qx_code m) pc = .ok (.putfield k, 3)) (hf : qx_fld m k = some (5, 7) ∧ qx_pok m k = true) (hT : TR h B n (.inl p) N z) (hq : q ≤ n) (kk : ∀ h', TR h' B n (.inl q) N z → wp_W L xs d m (pc + 3) lv r h' Q) : wp_W L xs d m pc lv (.int (nI q) :: .ref 13 :: r) h Q := by
  obtain ⟨s, fa, hb, hfr, hn, h0, h1, h2, hm, hB⟩ := hT
  exact wp_m3 hd hf hb hfr (fun h' hb hfr => kk h' ⟨_, fa, hb, hfr, hn, h0, h1, h2, ⟨hq, rfl, hm.2.2.1, hm.2.2.2⟩, hB⟩)
theorem TR_v4 {h : List qx_E} {B : Nat → Nat} {n : Nat} {S S' : rS} {N : Nat → Int32} {z : rZ} (hT : TR h B n S N z) : rs_iv B n 4 S' < 4294967296 := by
  cases S' with
  | inl p =>
    show (if p + 4 ≤ n then bu_U B p 4 else 0) < 4294967296
    split
    · exact bu_lt (k := 4) (fun j hj => TR_B hT _ (by omega))
    · decide
  | inr e => exact (by decide : (0 : Nat) < 4294967296)
theorem mb_w {B : Nat → Nat} {n : Nat} {T : Nat → Nat} {kd o w : Nat} {S : rS} {M : rM} (hw : ah_w B n T kd S = w) (h0 : w ≠ 0) : mb_ah B n T kd o S M = (M.c, M.np, updN M.ct (9 * o + (w - 1)) (rs_p (rs_ah2 B n T S))) := by
  unfold mb_ah
  rw [hw, if_neg h0]
theorem ah_s {B : Nat → Nat} {n : Nat} {T : Nat → Nat} {kd o w : Nat} {S : rS} {M : rM} (hw : ah_w B n T kd S = w) (h0 : w ≠ 0) : rs_ah B n T kd o M S = rs_w (M.ct (9 * o + (w - 1)) == 0) 9 (rs_p S) (rs_ah2 B n T S) := by
  unfold rs_ah
  rw [hw, if_neg h0]
theorem ah_0 {B : Nat → Nat} {n : Nat} {T : Nat → Nat} {kd o : Nat} {S : rS} {M : rM} (hw : ah_w B n T kd S = 0) : rs_ah B n T kd o M S = rs_is n (ah_l B n T S) (rs_ah2 B n T S) ∧ mb_ah B n T kd o S M = M := by
  unfold rs_ah mb_ah
  rw [hw, if_pos rfl, if_pos rfl]
  exact ⟨rfl, rfl⟩
set_option maxRecDepth 100000 in
theorem c_tmL {L : Nat} {xs : Nat → Int32} {d n : Nat} {B T : Nat → Nat} {z : rZ} {Q : Option Value → List qx_E → Prop} {kd o cty kind b c : Nat} (hkd : (kind = 100 ∧ kd = 0) ∨ (kind = 230 ∧ kd = 1)) (hb9 : 100 ≤ b ∧ b < 490) (hc9 : c < 65536) : ∀ j i sn S0 M N (h : List qx_E), TR h B n S0 N z → (snd S0 → PQ B n T N ∧ NOm kd B N M o b ∧ sbt sn M.ct o ∧ (kd = 0 → N (b + 2) = nI cty ∧ tg B T cty = 1)) → i + j = c → (∀ h' N', TR h' B n (rs_tbL B n T kd o cty j S0 M).1 N' z → (snd (rs_tbL B n T kd o cty j S0 M).1 → NOm kd B N' (rs_tbL B n T kd o cty j S0 M).2 o b ∧ ∀ q, (q < b + 3 ∨ b + 8 ≤ q) → N' q = N q) → Q none h') → wp_W L xs (d + 7) 166 11 [(0, .ref 13), (1, .int (nI kind)), (2, .int (nI b)), (3, .int (nI c)), (4, .int (nI sn)), (5, .int (nI i))] [] h Q := by
  intro j
  induction j with
  | zero =>
    intro i sn S0 M N h hT hI hi hK
    refine wp_iload dq_166_11 rfl ?_
    refine wp_iload_n dq_166_13 rfl ?_
    refine wp_ic_geN (tgt := 188) dq_166_14 rfl (by omega) (by omega) (fun c1 => ?_) (fun c1 => absurd c1 (by omega))
    exact wp_vre dq_166_188 rfl (hK h N hT (fun hq => ⟨(hI hq).2.1, fun _ _ => rfl⟩))
  | succ j ih =>
    intro i sn S0 M N h hT hI hi hK
    rcases snd_or S0 with hs | ⟨e, rfl⟩
    · obtain ⟨hP, hNO, hsn, hcty⟩ := hI hs
      obtain ⟨s0, fa0, hb, hz0, hc0, hp0⟩ := TR_x hT
      obtain ⟨s0, fa0, hb, hz0, hc0, hp0⟩ := TR_x hT
      have ho := mw_0 hb
      rw [hp0 hs, hc0.mpr hs] at ho
      refine wp_iload dq_166_11 rfl ?_
      refine wp_iload_n dq_166_13 rfl ?_
      refine wp_ic_geN (tgt := 188) dq_166_14 rfl (by omega) (by omega) (fun c1 => ?_) (fun c1 => ?_)
      · exact absurd c1 (by omega)
      · refine wp_aload_n dq_166_17 rfl ?_
        refine wp_getf (w := .int (nI 0)) dq_166_18 fl_166_116 ho rfl ?_
        refine wp_if_neN (tgt := 188) dq_166_21 rfl (by omega) (fun c9 => absurd c9 (by decide)) (fun _ => ?_)
        refine wp_aload_n dq_166_24 rfl ?_
        refine wp_getf (w := .int (nI (rs_p S0))) dq_166_25 fl_166_119 ho rfl ?_
        refine wp_istore (lv' := [(0, .ref 13), (1, .int (nI kind)), (2, .int (nI b)), (3, .int (nI c)), (4, .int (nI sn)), (5, .int (nI i)), (6, .int (nI (rs_p S0)))]) dq_166_28 (by decide) rfl ?_
        refine wp_aload_n dq_166_30 rfl ?_
        refine wp_iconst (x := nI 1) dq_166_31 rfl ?_
        refine wp_iconst (x := nI 0) dq_166_32 rfl ?_
        refine wp_cv2 (P := fun v h' => v = some (.int (nI (rs_iv B n 2 S0))) ∧ TR h' B n (rs_ix B n T 1 false S0) N z) dq_166_33 mt_166_173 (ob_of (mw_0 hb)) ⟨by decide +kernel, by decide +kernel⟩ (Nat.le_of_ble_eq_true rfl) (Nat.le_of_ble_eq_true rfl) (c_mix (T := T) (t := 1) (mz := false) hT (fun hq => hP) (by decide) (fun h' k1 => ⟨rfl, k1⟩)) (fun v9 h9 q9 => ?_)
        obtain ⟨rfl, hT⟩ := q9
        generalize hS1 : rs_ix B n T 1 false S0 = S1 at hT
        obtain ⟨s1, fa1, hb, hz1, hc1, hp1⟩ := TR_x hT
        have hv : rs_iv B n 2 S0 < 65536 := TR_v hT
        refine wp_istore (lv' := [(0, .ref 13), (1, .int (nI kind)), (2, .int (nI b)), (3, .int (nI c)), (4, .int (nI sn)), (5, .int (nI i)), (6, .int (nI (rs_p S0))), (7, .int (nI (rs_iv B n 2 S0)))]) dq_166_36 (by decide) rfl ?_
        refine wp_aload_n dq_166_38 rfl ?_
        refine wp_getf (w := .int (s1 3)) dq_166_39 fl_166_119 (mw_0 hb) rfl ?_
        refine wp_istore (lv' := [(0, .ref 13), (1, .int (nI kind)), (2, .int (nI b)), (3, .int (nI c)), (4, .int (nI sn)), (5, .int (nI i)), (6, .int (nI (rs_p S0))), (7, .int (nI (rs_iv B n 2 S0))), (8, .int (s1 3))]) dq_166_42 (by decide) rfl ?_
        refine wp_aload_n dq_166_44 rfl ?_
        refine wp_cv0 (P := fun v h' => v = some (.long (lN (rs_iv B n 4 S1))) ∧ TR h' B n (rs_is n 4 S1) N z) dq_166_45 mt_166_144 (ob_of (mw_0 hb)) ⟨by decide +kernel, by decide +kernel⟩ (Nat.le_of_ble_eq_true rfl) (Nat.le_of_ble_eq_true rfl) (c_u4 hT (fun h' k1 => ⟨rfl, k1⟩)) (fun v9 h9 q9 => ?_)
        obtain ⟨rfl, hT⟩ := q9
        generalize hS2 : rs_is n 4 S1 = S2 at hT
        obtain ⟨s2, fa2, hb, hz2, hc2, hp2⟩ := TR_x hT
        have hl9 : rs_iv B n 4 S1 < 4294967296 := TR_v4 hT
        have e2 : rs_ah2 B n T S0 = S2 := by rw [rs_ah2, hS1, hS2]
        refine wp_lstore (lv' := [(0, .ref 13), (1, .int (nI kind)), (2, .int (nI b)), (3, .int (nI c)), (4, .int (nI sn)), (5, .int (nI i)), (6, .int (nI (rs_p S0))), (7, .int (nI (rs_iv B n 2 S0))), (8, .int (s1 3)), (9, .long (lN (rs_iv B n 4 S1)))]) dq_166_48 (by decide) rfl ?_
        refine wp_aload_n dq_166_50 rfl ?_
        refine wp_getf (w := .int (s2 4)) dq_166_51 fl_166_116 (mw_0 hb) rfl ?_
        refine wp_if_eq (tgt := 58) dq_166_54 rfl (fun c2 => ?_) (fun c2 => ?_)
        · have hq2 : snd S2 := hc2.mp c2
          have hq1 := sd_is hS2 hq2
          obtain ⟨g1, g2, g3, g4, g5⟩ := ah_p (by rw [e2]; exact hq2)
          rw [e2] at g1
          have g6 : rs_p S2 = rs_p S0 + 6 := by rw [g1]; rfl
          have g7 : ah_l B n T S0 = rs_iv B n 4 S1 := by rw [ah_l, hS1]
          have g8 : s1 3 = nI (rs_p S0 + 2) := by rw [hp1 hq1, (sp_ix hS1 hq1).1]; rfl
          rw [g7] at g5
          have hk12 := kn_12 (tx B T (rs_iv B n 2 S0))
          have hn9 := TR_n hT
          refine wp_aload_n dq_166_58 rfl ?_
          refine wp_iload dq_166_59 rfl ?_
          have hkn := c_kn (L := L) (xs := xs) (d := d + 2) (TR_A hT) hP g3
          have haw : ah_w B n T kd S0 = if kw2 kd (kn (tx B T (rs_iv B n 2 S0))) = true then kn (tx B T (rs_iv B n 2 S0)) else 0 := fd_kn (by omega)
          generalize kn (tx B T (rs_iv B n 2 S0)) = w at hkn haw hk12
          refine wp_cve1 dq_166_61 mt_166_160 (ob_of (mw_0 hb)) ⟨by decide +kernel, by decide +kernel⟩ (Nat.le_of_ble_eq_true rfl) (Nat.le_of_ble_eq_true rfl) (hkn) ?_
          refine wp_istore (lv' := [(0, .ref 13), (1, .int (nI kind)), (2, .int (nI b)), (3, .int (nI c)), (4, .int (nI sn)), (5, .int (nI i)), (6, .int (nI (rs_p S0))), (7, .int (nI (rs_iv B n 2 S0))), (8, .int (s1 3)), (9, .long (lN (rs_iv B n 4 S1))), (11, .int (nI w))]) dq_166_64 (by decide) rfl ?_
          refine wp_iload_n dq_166_66 rfl ?_
          refine wp_iload dq_166_67 rfl ?_
          refine wp_cse2 dq_166_69 (by decide +kernel) mt_166_210 (by decide +kernel) (Nat.le_of_ble_eq_true rfl) (Nat.le_of_ble_eq_true rfl) (c_knows (kd := kd) (by omega) hk12) ?_
          refine wp_if_neB (tgt := 99) dq_166_72 rfl (fun c3 => ?_) (fun c3 => ?_)
          · have hkw := kw2_t.mp c3
            have haw1 : ah_w B n T kd S0 = w := by rw [haw, if_pos c3]
            have hw0 : w ≠ 0 := by omega
            have hsnb := hsn.1
            have hj99 : ∀ h, TR h B n (rs_w (M.ct (9 * o + (w - 1)) == 0) 9 (rs_p S0) S2) N z → wp_W L xs (d + 7) 166 117 [(0, .ref 13), (1, .int (nI kind)), (2, .int (nI b)), (3, .int (nI c)), (4, .int (nI sn)), (5, .int (nI i)), (6, .int (nI (rs_p S0))), (7, .int (nI (rs_iv B n 2 S0))), (8, .int (s1 3)), (9, .long (lN (rs_iv B n 4 S1))), (11, .int (nI w))] ([]) h Q := by
              intro h hT
              generalize hS3 : rs_w (M.ct (9 * o + (w - 1)) == 0) 9 (rs_p S0) S2 = S3 at hT
              obtain ⟨s3, fa3, hb, hz3, hc3, hp3⟩ := TR_x hT
              have e3 : rs_ah B n T kd o M S0 = S3 := by rw [ah_s haw1 hw0, e2, hS3]
              have hLL : snd S3 → rs_iv B n 4 S1 = bu_U B (rs_p S3 - 4) 4 ∧ s1 3 = nI (rs_p S3 - 4) := fun hq => by
                have q1 := (sd_wc hS3 hq).2
                rw [q1, g6, show rs_p S0 + 6 - 4 = rs_p S0 + 2 by omega]
                exact ⟨g5, g8⟩
              have e4 := mb_w (o := o) (M := M) haw1 hw0
              rw [e2, g6] at e4
              obtain ⟨s3, fa3, hb, -⟩ := TR_x hT
              refine wp_iload dq_166_117 rfl ?_
              refine wp_iconst (x := nI 1) dq_166_119 rfl ?_
              refine wp_iload dq_166_120 rfl ?_
              refine wp_mark dq_166_122 dq_166_123 (by omega) (by omega) ?_
              refine wp_istore (lv' := [(0, .ref 13), (1, .int (nI kind)), (2, .int (nI b)), (3, .int (nI c)), (4, .int (nI (sn ||| 2 ^ w))), (5, .int (nI i)), (6, .int (nI (rs_p S0))), (7, .int (nI (rs_iv B n 2 S0))), (8, .int (s1 3)), (9, .long (lN (rs_iv B n 4 S1))), (11, .int (nI w))]) dq_166_124 (by decide) rfl ?_
              refine wp_iload dq_166_126 rfl ?_
              refine wp_bipush (x := nI 9) dq_166_128 rfl ?_
              refine wp_ic_neN (tgt := 144) dq_166_130 rfl (by omega) (by omega) (fun c4 => ?_) (fun c4 => ?_)
              · refine wp_iload dq_166_144 rfl ?_
                refine wp_iconst (x := nI 4) dq_166_146 rfl ?_
                refine wp_ic_ltN (tgt := 171) dq_166_147 rfl (by omega) (by omega) (fun c5 => ?_) (fun c5 => ?_)
                · refine wp_aload_n dq_166_171 rfl ?_
                  refine wp_iload dq_166_172 rfl ?_
                  refine wp_iload_n dq_166_174 rfl ?_
                  refine wp_lload dq_166_175 rfl ?_
                  refine wp_iload dq_166_177 rfl ?_
                  have hwx : w = 1 ∨ w = 2 ∨ w = 3 := by omega
                  rcases hwx with rfl | rfl | rfl
                  · refine wp_cv4 (P := fun v h' => v = none ∧ ∃ N', TR h' B n (rs_sg B n T 1 cty S3) N' z ∧ (snd (rs_sg B n T 1 cty S3) → N' = upd N (fx_i 1 b) (nI (if 1 = 2 then 1 else bu_U B (rs_p S3) 2)))) dq_166_179 mt_166_221 (ob_of (mw_0 hb)) ⟨by decide +kernel, by decide +kernel⟩ (Nat.le_of_ble_eq_true rfl) (Nat.le_of_ble_eq_true rfl) (c_fx1 (T := T) (d := d) (hL := fun hq => hLL hq) (hl9 := hl9) (hb9 := by omega) (hP := fun _ => hP) (hT := hT) (hK := fun h' N' k1 k2 => ⟨rfl, N', k1, k2⟩)) (fun v9 h9 q9 => ?_)
                    obtain ⟨rfl, N1, hT, hN1⟩ := q9
                    generalize hS4 : rs_sg B n T 1 cty S3 = S4 at hT hN1
                    refine wp_iinc (y := nI (i + 1)) (lv' := [(0, .ref 13), (1, .int (nI kind)), (2, .int (nI b)), (3, .int (nI c)), (4, .int (nI (sn ||| 2 ^ 1))), (5, .int (nI (i + 1))), (6, .int (nI (rs_p S0))), (7, .int (nI (rs_iv B n 2 S0))), (8, .int (s1 3)), (9, .long (lN (rs_iv B n 4 S1))), (11, .int (nI 1))]) dq_166_182 rfl (nI_add _ _) (by decide) rfl ?_
                    refine wp_goto (tgt := 11) dq_166_185 rfl ?_
                    rw [rs_tbL_s] at hK
                    have e9 : rs_at1 B n T kd o cty M S0 = S4 := at1_s (w := 1) e3 (fun _ => haw1) (by decide) (by decide) hS4
                    rw [e9, e4] at hK
                    refine wp_fg (l := [(0, .ref 13), (1, .int (nI kind)), (2, .int (nI b)), (3, .int (nI c)), (4, .int (nI (sn ||| 2 ^ 1))), (5, .int (nI (i + 1)))]) (e := [(6, .int (nI (rs_p S0))), (7, .int (nI (rs_iv B n 2 S0))), (8, .int (s1 3)), (9, .long (lN (rs_iv B n 4 S1))), (11, .int (nI 1))]) rfl rfl rfl ?_
                    refine ih (i + 1) _ _ _ N1 _ hT (fun hq => ?_) (by omega) (fun h' N' k1 k2 => hK h' N' k1 (fun hq => ?_))
                    · have q3 := sd_sg hS4 hq
                      have q4 := (sd_wc hS3 q3).2
                      have q5 := hN1 hq
                      rw [q4, g6, show fx_i 1 b = b + 3 from by unfold fx_i; rw [if_pos rfl, if_neg (by omega)]] at q5
                      subst q5
                      exact ⟨PQ_u hP (by omega) (by omega), NOm_1 hNO (by omega), sbt_s hsn (by decide) (by decide) (by omega), fun hk => by rw [pk_un (by omega)]; exact hcty hk⟩
                    · obtain ⟨q1, q2⟩ := k2 hq
                      refine ⟨q1, fun q hq9 => (q2 q hq9).trans ?_⟩
                      have q3 := (sp_tbL hq).2
                      have q5 := hN1 q3
                      rw [show fx_i 1 b = b + 3 from by unfold fx_i; rw [if_pos rfl, if_neg (by omega)]] at q5
                      rw [q5]
                      exact pk_un (by omega)
                  · refine wp_cv4 (P := fun v h' => v = none ∧ ∃ N', TR h' B n (rs_sg B n T 2 cty S3) N' z ∧ (snd (rs_sg B n T 2 cty S3) → N' = upd N (fx_i 2 b) (nI (if 2 = 2 then 1 else bu_U B (rs_p S3) 2)))) dq_166_179 mt_166_221 (ob_of (mw_0 hb)) ⟨by decide +kernel, by decide +kernel⟩ (Nat.le_of_ble_eq_true rfl) (Nat.le_of_ble_eq_true rfl) (c_fx2 (T := T) (d := d) (hL := fun hq => hLL hq) (hl9 := hl9) (hb9 := by omega) (hP := fun _ => hP) (hT := hT) (hK := fun h' N' k1 k2 => ⟨rfl, N', k1, k2⟩)) (fun v9 h9 q9 => ?_)
                    obtain ⟨rfl, N1, hT, hN1⟩ := q9
                    generalize hS4 : rs_sg B n T 2 cty S3 = S4 at hT hN1
                    refine wp_iinc (y := nI (i + 1)) (lv' := [(0, .ref 13), (1, .int (nI kind)), (2, .int (nI b)), (3, .int (nI c)), (4, .int (nI (sn ||| 2 ^ 2))), (5, .int (nI (i + 1))), (6, .int (nI (rs_p S0))), (7, .int (nI (rs_iv B n 2 S0))), (8, .int (s1 3)), (9, .long (lN (rs_iv B n 4 S1))), (11, .int (nI 2))]) dq_166_182 rfl (nI_add _ _) (by decide) rfl ?_
                    refine wp_goto (tgt := 11) dq_166_185 rfl ?_
                    rw [rs_tbL_s] at hK
                    have e9 : rs_at1 B n T kd o cty M S0 = S4 := at1_s (w := 2) e3 (fun _ => haw1) (by decide) (by decide) hS4
                    rw [e9, e4] at hK
                    refine wp_fg (l := [(0, .ref 13), (1, .int (nI kind)), (2, .int (nI b)), (3, .int (nI c)), (4, .int (nI (sn ||| 2 ^ 2))), (5, .int (nI (i + 1)))]) (e := [(6, .int (nI (rs_p S0))), (7, .int (nI (rs_iv B n 2 S0))), (8, .int (s1 3)), (9, .long (lN (rs_iv B n 4 S1))), (11, .int (nI 2))]) rfl rfl rfl ?_
                    refine ih (i + 1) _ _ _ N1 _ hT (fun hq => ?_) (by omega) (fun h' N' k1 k2 => hK h' N' k1 (fun hq => ?_))
                    · have q3 := sd_sg hS4 hq
                      have q4 := (sd_wc hS3 q3).2
                      have q5 := hN1 hq
                      rw [q4, g6, show fx_i 2 b = b + 4 from by unfold fx_i; rw [if_neg (by decide), if_pos rfl, if_neg (by omega)]] at q5
                      subst q5
                      exact ⟨PQ_u hP (by omega) (by omega), NOm_2 hNO (by omega), sbt_s hsn (by decide) (by decide) (by omega), fun hk => by rw [pk_un (by omega)]; exact hcty hk⟩
                    · obtain ⟨q1, q2⟩ := k2 hq
                      refine ⟨q1, fun q hq9 => (q2 q hq9).trans ?_⟩
                      have q3 := (sp_tbL hq).2
                      have q5 := hN1 q3
                      rw [show fx_i 2 b = b + 4 from by unfold fx_i; rw [if_neg (by decide), if_pos rfl, if_neg (by omega)]] at q5
                      rw [q5]
                      exact pk_un (by omega)
                  · refine wp_cv4 (P := fun v h' => v = none ∧ ∃ N', TR h' B n (rs_sg B n T 3 cty S3) N' z ∧ (snd (rs_sg B n T 3 cty S3) → N' = upd N (fx_i 3 b) (nI (if 3 = 2 then 1 else bu_U B (rs_p S3) 2)))) dq_166_179 mt_166_221 (ob_of (mw_0 hb)) ⟨by decide +kernel, by decide +kernel⟩ (Nat.le_of_ble_eq_true rfl) (Nat.le_of_ble_eq_true rfl) (c_fx3 (T := T) (d := d) (hL := fun hq => hLL hq) (hl9 := hl9) (hb9 := by omega) (hP := fun _ => hP) (hY := fun hq => hcty (by omega)) (hT := hT) (hK := fun h' N' k1 k2 => ⟨rfl, N', k1, k2⟩)) (fun v9 h9 q9 => ?_)
                    obtain ⟨rfl, N1, hT, hN1⟩ := q9
                    generalize hS4 : rs_sg B n T 3 cty S3 = S4 at hT hN1
                    refine wp_iinc (y := nI (i + 1)) (lv' := [(0, .ref 13), (1, .int (nI kind)), (2, .int (nI b)), (3, .int (nI c)), (4, .int (nI (sn ||| 2 ^ 3))), (5, .int (nI (i + 1))), (6, .int (nI (rs_p S0))), (7, .int (nI (rs_iv B n 2 S0))), (8, .int (s1 3)), (9, .long (lN (rs_iv B n 4 S1))), (11, .int (nI 3))]) dq_166_182 rfl (nI_add _ _) (by decide) rfl ?_
                    refine wp_goto (tgt := 11) dq_166_185 rfl ?_
                    rw [rs_tbL_s] at hK
                    have e9 : rs_at1 B n T kd o cty M S0 = S4 := at1_s (w := 3) e3 (fun _ => haw1) (by decide) (by decide) hS4
                    rw [e9, e4] at hK
                    refine wp_fg (l := [(0, .ref 13), (1, .int (nI kind)), (2, .int (nI b)), (3, .int (nI c)), (4, .int (nI (sn ||| 2 ^ 3))), (5, .int (nI (i + 1)))]) (e := [(6, .int (nI (rs_p S0))), (7, .int (nI (rs_iv B n 2 S0))), (8, .int (s1 3)), (9, .long (lN (rs_iv B n 4 S1))), (11, .int (nI 3))]) rfl rfl rfl ?_
                    refine ih (i + 1) _ _ _ N1 _ hT (fun hq => ?_) (by omega) (fun h' N' k1 k2 => hK h' N' k1 (fun hq => ?_))
                    · have q3 := sd_sg hS4 hq
                      have q4 := (sd_wc hS3 q3).2
                      have q5 := hN1 hq
                      rw [q4, g6, show fx_i 3 b = b + 5 from rfl] at q5
                      subst q5
                      exact ⟨PQ_u hP (by omega) (by omega), NOm_3 hNO (by omega), sbt_s hsn (by decide) (by decide) (by omega), fun hk => by rw [pk_un (by omega)]; exact hcty hk⟩
                    · obtain ⟨q1, q2⟩ := k2 hq
                      refine ⟨q1, fun q hq9 => (q2 q hq9).trans ?_⟩
                      have q3 := (sp_tbL hq).2
                      have q5 := hN1 q3
                      rw [show fx_i 3 b = b + 5 from rfl] at q5
                      rw [q5]
                      exact pk_un (by omega)
                · refine wp_iload dq_166_150 rfl ?_
                  refine wp_bipush (x := nI 7) dq_166_152 rfl ?_
                  refine wp_ic_gtN (tgt := 171) dq_166_154 rfl (by omega) (by omega) (fun c6 => ?_) (fun c6 => ?_)
                  · exact absurd c6 (by omega)
                  · refine wp_aload_n dq_166_157 rfl ?_
                    refine wp_iload dq_166_158 rfl ?_
                    refine wp_iload_n dq_166_160 rfl ?_
                    refine wp_lload dq_166_161 rfl ?_
                    refine wp_iload dq_166_163 rfl ?_
                    refine wp_cv4 (P := fun v h' => v = none ∧ ∃ N', TR h' B n (rs_li B n T w S3) N' z ∧ (snd (rs_li B n T w S3) → N' = upd (upd N (f4 w b) (nI (bu_U B (rs_p S3) 2))) (f4 w b + 1) (nI (rs_p S3 + 2)))) dq_166_165 mt_166_217 (ob_of (mw_0 hb)) ⟨by decide +kernel, by decide +kernel⟩ (Nat.le_of_ble_eq_true rfl) (Nat.le_of_ble_eq_true rfl) (c_mli (T := T) (d := d + 2) (hw := by omega) (hL := fun hq => hLL hq) (hl9 := hl9) (hb9 := by omega) (hP := fun _ => hP) (hT := hT) (hK := fun h' N' k1 k2 => ⟨rfl, N', k1, k2⟩)) (fun v9 h9 q9 => ?_)
                    obtain ⟨rfl, N1, hT, hN1⟩ := q9
                    generalize hS4 : rs_li B n T w S3 = S4 at hT hN1
                    refine wp_goto (tgt := 182) dq_166_168 rfl ?_
                    refine wp_iinc (y := nI (i + 1)) (lv' := [(0, .ref 13), (1, .int (nI kind)), (2, .int (nI b)), (3, .int (nI c)), (4, .int (nI (sn ||| 2 ^ w))), (5, .int (nI (i + 1))), (6, .int (nI (rs_p S0))), (7, .int (nI (rs_iv B n 2 S0))), (8, .int (s1 3)), (9, .long (lN (rs_iv B n 4 S1))), (11, .int (nI w))]) dq_166_182 rfl (nI_add _ _) (by decide) rfl ?_
                    refine wp_goto (tgt := 11) dq_166_185 rfl ?_
                    have w4 : w = 4 := by omega
                    subst w4
                    rw [rs_tbL_s] at hK
                    have e9 : rs_at1 B n T kd o cty M S0 = S4 := at1_l (w := 4) e3 (fun _ => haw1) (by decide) hS4
                    rw [e9, e4] at hK
                    refine wp_fg (l := [(0, .ref 13), (1, .int (nI kind)), (2, .int (nI b)), (3, .int (nI c)), (4, .int (nI (sn ||| 2 ^ 4))), (5, .int (nI (i + 1)))]) (e := [(6, .int (nI (rs_p S0))), (7, .int (nI (rs_iv B n 2 S0))), (8, .int (s1 3)), (9, .long (lN (rs_iv B n 4 S1))), (11, .int (nI 4))]) rfl rfl rfl ?_
                    refine ih (i + 1) _ _ _ N1 _ hT (fun hq => ?_) (by omega) (fun h' N' k1 k2 => hK h' N' k1 (fun hq => ?_))
                    · have q3 := sd_li hS4 hq
                      have q4 := (sd_wc hS3 q3).2
                      have q5 := hN1 hq
                      rw [q4, g6, show f4 4 b = b + 6 from rfl] at q5
                      subst q5
                      exact ⟨PQ_u (PQ_u hP (by omega) (by omega)) (by omega) (by omega), NOm_4 hNO (by omega), sbt_s hsn (by decide) (by decide) (by omega), fun hk => by rw [pk_un (by omega), pk_un (by omega)]; exact hcty hk⟩
                    · obtain ⟨q1, q2⟩ := k2 hq
                      refine ⟨q1, fun q hq9 => (q2 q hq9).trans ?_⟩
                      have q3 := (sp_tbL hq).2
                      have q5 := hN1 q3
                      rw [show f4 4 b = b + 6 from rfl] at q5
                      rw [q5, pk_un (by omega), pk_un (by omega)]
              · exact absurd c4 (by omega)
            refine wp_iload dq_166_99 rfl ?_
            refine wp_iload dq_166_101 rfl ?_
            refine wp_seen dq_166_103 dq_166_104 dq_166_105 (by omega) (by omega) ?_
            have hz2 := Nat.mod_lt (sn / 2 ^ w) (show 0 < 2 by decide)
            refine wp_if_eqN (tgt := 117) dq_166_106 rfl (by omega) (fun c7 => ?_) (fun c7 => ?_)
            · exact hj99 _ (by rw [w_T (fun hq => beq_iff_eq.mpr ((sbt_z hsn hkw.1 hkw.2.1).mp c7))]; exact hT)
            · refine wp_aload_n dq_166_109 rfl ?_
              refine wp_bipush (x := nI 9) dq_166_110 rfl ?_
              refine wp_iload dq_166_112 rfl ?_
              refine wp_cv2 (P := fun v h' => v = none ∧ TR h' B n (rs_w false 9 (rs_p S0) S2) N z) dq_166_114 mt_166_122 (ob_of (mw_0 hb)) ⟨by decide +kernel, by decide +kernel⟩ (Nat.le_of_ble_eq_true rfl) (Nat.le_of_ble_eq_true rfl) (c_fail hT (by decide) (fun hq => rfl) (fun h' k1 => ⟨rfl, k1⟩)) (fun v9 h9 q9 => ?_)
              obtain ⟨rfl, hT⟩ := q9
              exact hj99 _ (by rw [w_F (fun hq => beq_eq_false_iff_ne.mpr (fun r => c7 ((sbt_z hsn hkw.1 hkw.2.1).mpr r)))]; exact hT)
          · refine wp_aload_n dq_166_75 rfl ?_
            refine wp_lload dq_166_76 rfl ?_
            have haw0 : ah_w B n T kd S0 = 0 := by rw [haw, if_neg (by rw [c3]; decide)]
            refine wp_cv1 (P := fun v h' => v = some (.int (bI (rsb (rs_ro n (rs_iv B n 4 S1) S2)))) ∧ TR h' B n (rs_ro n (rs_iv B n 4 S1) S2) N z) dq_166_78 mt_166_126 (ob_of (mw_0 hb)) ⟨by decide +kernel, by decide +kernel⟩ (Nat.le_of_ble_eq_true rfl) (Nat.le_of_ble_eq_true rfl) (c_room hT (by omega) (fun h' k1 => ⟨rfl, k1⟩)) (fun v9 h9 q9 => ?_)
            obtain ⟨rfl, hT⟩ := q9
            generalize hS3 : rs_ro n (rs_iv B n 4 S1) S2 = S3 at hT
            obtain ⟨s3, fa3, hb, hz3, hc3, hp3⟩ := TR_x hT
            refine wp_if_eqB (tgt := 182) dq_166_81 rfl (fun c8 => ?_) (fun c8 => ?_)
            · refine wp_iinc (y := nI (i + 1)) (lv' := [(0, .ref 13), (1, .int (nI kind)), (2, .int (nI b)), (3, .int (nI c)), (4, .int (nI sn)), (5, .int (nI (i + 1))), (6, .int (nI (rs_p S0))), (7, .int (nI (rs_iv B n 2 S0))), (8, .int (s1 3)), (9, .long (lN (rs_iv B n 4 S1))), (11, .int (nI w))]) dq_166_182 rfl (nI_add _ _) (by decide) rfl ?_
              refine wp_goto (tgt := 11) dq_166_185 rfl ?_
              rw [rs_tbL_s] at hK
              have e9 : rs_at1 B n T kd o cty M S0 = S3 := at1_n (by rw [(ah_0 haw0).1, g7, e2, ← sk_is (by rw [hS3]; exact c8), hS3]) (fun _ => haw0)
              rw [e9, (ah_0 haw0).2] at hK
              refine wp_fg (l := [(0, .ref 13), (1, .int (nI kind)), (2, .int (nI b)), (3, .int (nI c)), (4, .int (nI sn)), (5, .int (nI (i + 1)))]) (e := [(6, .int (nI (rs_p S0))), (7, .int (nI (rs_iv B n 2 S0))), (8, .int (s1 3)), (9, .long (lN (rs_iv B n 4 S1))), (11, .int (nI w))]) rfl rfl rfl ?_
              exact ih (i + 1) sn _ M N _ hT (fun _ => ⟨hP, hNO, hsn, hcty⟩) (by omega) hK
            · obtain ⟨k1, k2, k3, k4⟩ := sk_ok (n := n) (k := rs_iv B n 4 S1) (S := S2) (by rw [hS3]; exact c8)
              have e3 : S3 = .inl (rs_p S2) := by rw [← hS3, k1]; exact snd_p k2
              rw [e3] at hT
              have ho := mw_0 hb
              rw [hp3 (by rw [e3]; exact snd_l _), show rs_p S3 = rs_p S2 by rw [e3]; rfl] at ho
              refine wp_aload_n dq_166_84 rfl ?_
              refine wp_dup dq_166_85 rfl ?_
              refine wp_getf (w := .int (nI (rs_p S2))) dq_166_86 fl_166_119 ho rfl ?_
              refine wp_lload dq_166_89 rfl ?_
              refine wp_l2iN dq_166_91 ?_
              refine wp_iaddN dq_166_92 ?_
              refine wp_tat dq_166_93 fp_166_119 hT k3 (fun h hT => ?_)
              rw [← k4] at hT
              refine wp_goto (tgt := 182) dq_166_96 rfl ?_
              refine wp_iinc (y := nI (i + 1)) (lv' := [(0, .ref 13), (1, .int (nI kind)), (2, .int (nI b)), (3, .int (nI c)), (4, .int (nI sn)), (5, .int (nI (i + 1))), (6, .int (nI (rs_p S0))), (7, .int (nI (rs_iv B n 2 S0))), (8, .int (s1 3)), (9, .long (lN (rs_iv B n 4 S1))), (11, .int (nI w))]) dq_166_182 rfl (nI_add _ _) (by decide) rfl ?_
              refine wp_goto (tgt := 11) dq_166_185 rfl ?_
              rw [rs_tbL_s] at hK
              have e9 : rs_at1 B n T kd o cty M S0 = rs_is n (rs_iv B n 4 S1) S2 := at1_n (by rw [(ah_0 haw0).1, g7, e2]) (fun _ => haw0)
              rw [e9, (ah_0 haw0).2] at hK
              refine wp_fg (l := [(0, .ref 13), (1, .int (nI kind)), (2, .int (nI b)), (3, .int (nI c)), (4, .int (nI sn)), (5, .int (nI (i + 1)))]) (e := [(6, .int (nI (rs_p S0))), (7, .int (nI (rs_iv B n 2 S0))), (8, .int (s1 3)), (9, .long (lN (rs_iv B n 4 S1))), (11, .int (nI w))]) rfl rfl rfl ?_
              exact ih (i + 1) sn _ M N _ hT (fun _ => ⟨hP, hNO, hsn, hcty⟩) (by omega) hK
        · obtain ⟨e0, rfl⟩ : ∃ e, S2 = .inr e := by
            rcases snd_or S2 with r | r
            · exact absurd (hc2.mpr r) c2
            · exact r
          have e9 : rs_at1 B n T kd o cty M S0 = .inr e0 := at1_e (ah_bad e2)
          rw [rs_tbL_s, e9] at hK
          exact wp_vre dq_166_57 rfl (hK _ N (by rw [rs_tbL_e]; exact hT) (fun hq => absurd hq (by rw [rs_tbL_e]; exact not_snd)))
    · obtain ⟨s0, fa0, hb, -, hc0, -⟩ := TR_x hT
      refine wp_iload dq_166_11 rfl ?_
      refine wp_iload_n dq_166_13 rfl ?_
      refine wp_ic_geN (tgt := 188) dq_166_14 rfl (by omega) (by omega) (fun c1 => absurd c1 (by omega)) (fun c1 => ?_)
      refine wp_aload_n dq_166_17 rfl ?_
      refine wp_getf dq_166_18 fl_166_116 (mw_0 hb) rfl ?_
      refine wp_if_ne (tgt := 188) dq_166_21 rfl (fun c1 => ?_) (fun c1 => absurd (hc0.mp c1) not_snd)
      exact wp_vre dq_166_188 rfl (hK h N (by rw [rs_tbL_e]; exact hT) (fun hq => absurd hq (by rw [rs_tbL_e]; exact not_snd)))
