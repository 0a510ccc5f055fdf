def f_fitMember (s : Nat → Int32) (a : Nat → Nat → Int32) (x : Int32) (k : Int32) (fl : Int32) : Int32 := (if x = 0 then (f_fitField fl (f_isInterface (f_fileFlags s a ))) else (if (f_spells s a (f_nameOf s a x k) 15) = 0 then (if (f_fitMethod fl (f_isInterface (f_fileFlags s a )) (f_spells s a (f_nameOf s a x k) 14)) = 0 then 0 else 1) else 1))
theorem b_fitMember (s : Nat → Int32) (a : Nat → Nat → Int32) (x : Int32) (k : Int32) (fl : Int32) : f_fitMember s a x k fl = 0 ∨ f_fitMember s a x k fl = 1 := by
  unfold f_fitMember
  repeat' split
  all_goals first | exact b_fitField _ _ | exact Or.inl rfl | exact Or.inr rfl
set_option maxRecDepth 100000 in
theorem c_fitMember {L : Nat} {xs : Nat → Int32} {d : Nat} {h : List qx_E} {b g : Nat} {s : Nat → Int32} {a : Nat → Nat → Int32} {x : Int32} {k : Int32} {fl : Int32} (hb : tb h b s a) (hw : tw s a) (hg : RG h b g) : qe_E L xs (d + 5) 81 [.ref g, .int x, .int k, .int fl] h (some (.int (f_fitMember s a x k fl))) h := by
  show wp_W L xs _ 81 0 [(0, .ref g), (1, .int x), (2, .int k), (3, .int fl)] [] h _
  refine wp_aload_n dq_81_0 rfl ?_
  refine wp_getf dq_81_1 fl_81_9 hg.2 rfl ?_
  refine wp_cve0 dq_81_4 mt_81_131 (ob_of (tb_c0 hb)) ⟨by decide +kernel, by decide +kernel⟩ (Nat.le_of_ble_eq_true rfl) (Nat.le_of_ble_eq_true rfl) (c_fileFlags hb hw) ?_
  refine wp_cse1 dq_81_7 (by decide +kernel) mt_81_134 (by decide +kernel) (Nat.le_of_ble_eq_true rfl) (Nat.le_of_ble_eq_true rfl) (c_isInterface ) ?_
  refine wp_istore (lv' := [(0, .ref g), (1, .int x), (2, .int k), (3, .int fl), (4, .int (f_isInterface (f_fileFlags s a )))]) dq_81_10 (by decide) rfl ?_
  refine wp_iload_n dq_81_12 rfl ?_
  refine wp_if_ne (tgt := 23) dq_81_13 rfl (fun c1 => ?_) (fun c1 => ?_)
  · refine wp_aload_n dq_81_23 rfl ?_
    refine wp_getf dq_81_24 fl_81_9 hg.2 rfl ?_
    refine wp_iload_n dq_81_27 rfl ?_
    refine wp_iload_n dq_81_28 rfl ?_
    refine wp_cve2 dq_81_29 mt_81_108 (ob_of (tb_c0 hb)) ⟨by decide +kernel, by decide +kernel⟩ (Nat.le_of_ble_eq_true rfl) (Nat.le_of_ble_eq_true rfl) (c_nameOf hb hw) ?_
    refine wp_istore (lv' := [(0, .ref g), (1, .int x), (2, .int k), (3, .int fl), (4, .int (f_isInterface (f_fileFlags s a ))), (5, .int (f_nameOf s a x k))]) dq_81_32 (by decide) rfl ?_
    refine wp_aload_n dq_81_34 rfl ?_
    refine wp_getf dq_81_35 fl_81_21 hg.2 rfl ?_
    refine wp_iload dq_81_38 rfl ?_
    refine wp_ldc (v := .retAddr 15) dq_81_40 (by decide +kernel) ?_
    refine wp_cve2 dq_81_42 mt_81_120 (ob_of (tb_c1 hb)) ⟨by decide +kernel, by decide +kernel⟩ (Nat.le_of_ble_eq_true rfl) (Nat.le_of_ble_eq_true rfl) (c_spells (by decide) hb hw) ?_
    refine wp_if_ne (tgt := 68) dq_81_45 rfl (fun c2 => ?_) (fun c2 => ?_)
    · refine wp_iconst (x := 1) dq_81_68 rfl ?_
      refine wp_goto (tgt := 73) dq_81_69 rfl ?_
      exact wp_ire dq_81_73 rfl ⟨by decide, Or.inr (Or.inl rfl)⟩ ⟨by rw [f_fitMember, if_neg c1, if_neg c2], rfl⟩
    · refine wp_iload_n dq_81_48 rfl ?_
      refine wp_iload dq_81_49 rfl ?_
      refine wp_aload_n dq_81_51 rfl ?_
      refine wp_getf dq_81_52 fl_81_21 hg.2 rfl ?_
      refine wp_iload dq_81_55 rfl ?_
      refine wp_ldc (v := .retAddr 14) dq_81_57 (by decide +kernel) ?_
      refine wp_cve2 dq_81_59 mt_81_120 (ob_of (tb_c1 hb)) ⟨by decide +kernel, by decide +kernel⟩ (Nat.le_of_ble_eq_true rfl) (Nat.le_of_ble_eq_true rfl) (c_spells (by decide) hb hw) ?_
      refine wp_cse3 dq_81_62 (by decide +kernel) mt_81_141 (by decide +kernel) (Nat.le_of_ble_eq_true rfl) (Nat.le_of_ble_eq_true rfl) (c_fitMethod ) ?_
      refine wp_if_eq (tgt := 72) dq_81_65 rfl (fun c3 => ?_) (fun c3 => ?_)
      · refine wp_iconst (x := 0) dq_81_72 rfl ?_
        exact wp_ire dq_81_73 rfl ⟨by decide, Or.inr (Or.inl rfl)⟩ ⟨by rw [f_fitMember, if_neg c1, if_pos c2, if_pos c3], rfl⟩
      · refine wp_iconst (x := 1) dq_81_68 rfl ?_
        refine wp_goto (tgt := 73) dq_81_69 rfl ?_
        exact wp_ire dq_81_73 rfl ⟨by decide, Or.inr (Or.inl rfl)⟩ ⟨by rw [f_fitMember, if_neg c1, if_pos c2, if_neg c3], rfl⟩
  · refine wp_iload_n dq_81_16 rfl ?_
    refine wp_iload dq_81_17 rfl ?_
    refine wp_cse2 dq_81_19 (by decide +kernel) mt_81_137 (by decide +kernel) (Nat.le_of_ble_eq_true rfl) (Nat.le_of_ble_eq_true rfl) (c_fitField ) ?_
    exact wp_ire dq_81_22 rfl ⟨nb_01 (b_fitField _ _), Or.inr (Or.inl rfl)⟩ ⟨by rw [f_fitMember, if_pos c1], rfl⟩

def k_fit (B T : Nat → Nat) (ff kd nm fl : Nat) : Bool := if kd = 0 then f_fitField (nI fl) (f_isInterface (nI ff)) == 1 else (sp B T nm 15 || f_fitMethod (nI fl) (f_isInterface (nI ff)) (bI (sp B T nm 14)) == 1)
theorem bq {x : Int32} (h : x = 0 ∨ x = 1) : x = bI (x == 1) := bI_of h beq_iff_eq.symm
theorem q_fit {B : Nat → Nat} {n : Nat} {T : Nat → Nat} {s : Nat → Int32} {a : Nat → Nat → Int32} {M : rM} (hQ : QF B n T s a) (hM : MR a M) (hV : MV n M) {F kd k fl : Nat} (h0 : s 0 = nI F) (hF : F + 8 ≤ n) (hkd : kd < 3) (hk : k < M.c kd) : f_fitMember s a (nI kd) (nI k) (nI fl) = bI (k_fit B T (bu_U B F 2) kd (bu_U B (M.np (16 * kd + k)) 2) fl) := by
  have hn := hV.2.2.1 kd k hkd hk
  have hff : f_fileFlags s a = nI (bu_U B F 2) := by unfold f_fileFlags; rw [h0, QF_u2 hQ (by omega)]
  unfold f_fitMember k_fit
  rw [hff]
  by_cases h : kd = 0
  · rw [if_pos h, if_pos (by rw [h]; rfl)]
    exact bq (b_fitField _ _)
  · rw [if_neg h, if_neg (nI_ne0 (by omega) (by omega)), q_nameOf hQ hM hV hkd hk, q_spells hQ (QF_U2 hQ (by omega)) (by decide), q_spells hQ (QF_U2 hQ (by omega)) (by decide)]
    show _ = bI (sp B T (bu_U B (M.np (16 * kd + k)) 2) 15 || _)
    unfold sp
    cases hx : decide (tg B T (bu_U B (M.np (16 * kd + k)) 2) = 1 ∧ tx B T (bu_U B (M.np (16 * kd + k)) 2) = wd 15) with
    | true => rw [if_neg (show ¬ bI true = 0 by decide)]; rfl
    | false =>
      rw [if_pos (show bI false = 0 from rfl), Bool.false_or]
      rcases b_fitMethod (nI fl) (f_isInterface (nI (bu_U B F 2))) (bI (decide (tg B T (bu_U B (M.np (16 * kd + k)) 2) = 1 ∧ tx B T (bu_U B (M.np (16 * kd + k)) 2) = wd 14))) with r | r
      · rw [r]; rfl
      · rw [r]; rfl
theorem c_nt {L : Nat} {xs : Nat → Int32} {d b n g F : Nat} {B T : Nat → Nat} {fp : Int32} {S0 : rS} {h : List qx_E} {a : Nat → Nat → Int32} {M : rM} {kd k : Nat} (hT : TS h b B n S0 fp a) (hC : snd S0 → RC B n T F fp a M) (hg : RG h b g) (hkd : kd < 3) (hk : k < 16) (hc9 : snd S0 → M.c kd = k) : wp_W L xs (d + 5) 79 0 (lv_args 0 [.ref g, .int (nI kd), .int (nI k)]) [] h (fun v h' => v = none ∧ ∃ a', TS h' b B n (rs_nt B n T kd S0) fp a' ∧ fr b h h' ∧ (snd (rs_nt B n T kd S0) → RC B n T F fp a' (mb_nt kd k S0 M))) := c_ntK hT hC hg hkd hk hc9 (fun h' a' h1 h2 h3 => ⟨rfl, a', h1, h2, h3⟩)
def nmO (B : Nat → Nat) (M : rM) (kd i : Nat) : Nat := bu_U B (M.np (16 * kd + i)) 2
def tyO (B : Nat → Nat) (M : rM) (kd i : Nat) : Nat := bu_U B (M.np (16 * kd + i) + 2) 2
def rs_mbL (B T : Nat → Nat) (M : rM) (kd k p : Nat) : Nat → Nat → rS → rS
  | 0, _, S => S
  | j + 1, i, S => rs_mbL B T M kd k p j (i + 1) (rs_w (!(sm B T (nmO B M kd i) (nmO B M kd k) && sm B T (tyO B M kd i) (tyO B M kd k))) 9 p S)
theorem rs_mbL_s (B T : Nat → Nat) (M : rM) (kd k p j i : Nat) (S : rS) : rs_mbL B T M kd k p (j + 1) i S = rs_mbL B T M kd k p j (i + 1) (rs_w (!(sm B T (nmO B M kd i) (nmO B M kd k) && sm B T (tyO B M kd i) (tyO B M kd k))) 9 p S) := rfl
theorem rs_mbL_e (B T : Nat → Nat) (M : rM) (kd k p : Nat) (e : Nat × Nat) : ∀ j i, rs_mbL B T M kd k p j i (.inr e) = .inr e
  | 0, _ => rfl
  | j + 1, i => rs_mbL_e B T M kd k p e j (i + 1)
theorem mbL_id {B T : Nat → Nat} {M : rM} {kd k p : Nat} : ∀ {j i : Nat} {S S' : rS}, rs_mbL B T M kd k p j i S = S' → snd S' → S' = S
  | 0, _, S, S', e, h => e.symm
  | j + 1, i, S, S', e, h => by
    have h1 := mbL_id (j := j) (i := i + 1) e h
    rw [h1] at h ⊢
    exact (sd_wc rfl h).2
def rs_mb (B : Nat → Nat) (n : Nat) (T : Nat → Nat) (F kd k : Nat) (M : rM) (S : rS) : rS := rs_mbL B T (mb_nt kd k (rs_is n 2 S) M) kd k (rs_p S) k 0 (rs_w (k_fit B T (bu_U B F 2) kd (rs_iv B n 2 (rs_is n 2 S)) (rs_iv B n 2 S)) 6 (rs_p S) (rs_nt B n T kd (rs_is n 2 S)))
theorem sp_mb {B : Nat → Nat} {n : Nat} {T : Nat → Nat} {F kd k : Nat} {M : rM} {S S' : rS} (e : rs_mb B n T F kd k M S = S') (h : snd S') : S' = .inl (rs_p S + 6) ∧ rs_p S + 6 ≤ n ∧ snd S ∧ snd (rs_nt B n T kd (rs_is n 2 S)) ∧ rs_p (rs_is n 2 S) = rs_p S + 2 ∧ rs_iv B n 2 S = bu_U B (rs_p S) 2 := by
  have h1 := mbL_id e h
  rw [h1] at h ⊢
  have h2 := sd_w rfl h
  have e2 := (sd_wc rfl h).2
  obtain ⟨g1, g2, g3, -⟩ := sp_nt rfl h2
  obtain ⟨g4, g5, g6⟩ := sd_isp rfl g3
  have ep : rs_p (rs_is n 2 S) = rs_p S + 2 := by rw [g6]; rfl
  rw [ep] at g1 g2
  exact ⟨e2.trans g1, by omega, sd_is rfl g3, h2, ep, iv_of rfl g3⟩
set_option maxRecDepth 100000 in
theorem c_mbL {L : Nat} {xs : Nat → Int32} {d b n g : Nat} {B T : Nat → Nat} {fp : Int32} {a : Nat → Nat → Int32} {F p kd k : Nat} {y f : Int32} {M : rM} {h0 : List qx_E} {Q : Option Value → List qx_E → Prop} (hkd : kd < 3) (hk : k < 16) : ∀ j i S0 (h : List qx_E) (e : qx_L), (e = [] ∨ ∃ v : Int32, e = [(6, .int v)]) → TS h b B n S0 fp a → RG h b g → fr b h0 h → (snd S0 → RC B n T F fp a M ∧ M.c kd = k + 1 ∧ y = nI p) → i + j = k → (∀ h', TS h' b B n (rs_mbL B T M kd k p j i S0) fp a → fr b h0 h' → Q none h') → wp_W L xs (d + 6) 78 44 ((0, .ref g) :: (1, .int (nI kd)) :: (2, .int (nI k)) :: (3, .int y) :: (4, .int f) :: (5, .int (nI i)) :: e) [] h Q := by
  intro j
  induction j with
  | zero =>
    intro i S0 h e he hT hg hf hH hi hK
    refine wp_iload dq_78_44 rfl ?_
    refine wp_iload_n dq_78_46 rfl ?_
    refine wp_ic_ge (tgt := 151) dq_78_47 rfl (fun c1 => ?_) (fun c1 => absurd (nI_le (by omega) (by omega)) c1)
    exact wp_vre dq_78_151 rfl (hK h hT hf)
  | succ j ih =>
    intro i S0 h e he hT hg hf hH hi hK
    obtain ⟨s0, hb, hw, hm0, h00, hq0⟩ := TS_x hT
    rcases snd_or S0 with hs | ⟨e0, rfl⟩
    rotate_left
    · have hE := hK h (by rw [rs_mbL_e]; exact hT) hf
      refine wp_iload dq_78_44 rfl ?_
      refine wp_iload_n dq_78_46 rfl ?_
      refine wp_ic_ge (tgt := 151) dq_78_47 rfl (fun c1 => absurd c1 (nI_ge (by omega) (by omega))) (fun c1 => ?_)
      refine wp_aload_n dq_78_50 rfl ?_
      refine wp_getf dq_78_51 fl_78_26 hg.2 rfl ?_
      refine wp_cve0 dq_78_54 mt_78_69 (ob_of (tb_c2 hb)) ⟨by decide +kernel, by decide +kernel⟩ (Nat.le_of_ble_eq_true rfl) (Nat.le_of_ble_eq_true rfl) (c_soundT hT) ?_
      refine wp_if_eq (tgt := 151) dq_78_57 rfl (fun c2 => wp_vre dq_78_151 rfl hE) (fun c2 => absurd rfl c2)
    · rcases he with rfl | ⟨v, rfl⟩
      · skip
        refine wp_iload dq_78_44 rfl ?_
        refine wp_iload_n dq_78_46 rfl ?_
        refine wp_ic_ge (tgt := 151) dq_78_47 rfl (fun c1 => ?_) (fun c1 => ?_)
        · exact absurd c1 (nI_ge (by omega) (by omega))
        · refine wp_aload_n dq_78_50 rfl ?_
          refine wp_getf dq_78_51 fl_78_26 hg.2 rfl ?_
          refine wp_cve0 dq_78_54 mt_78_69 (ob_of (tb_c2 hb)) ⟨by decide +kernel, by decide +kernel⟩ (Nat.le_of_ble_eq_true rfl) (Nat.le_of_ble_eq_true rfl) (c_soundT hT) ?_
          refine wp_if_eq (tgt := 151) dq_78_57 rfl (fun c2 => ?_) (fun c2 => ?_)
          · exact absurd c2 (ok_1 hs)
          · have hj60 : ∀ z9 : Int32, (snd S0 → z9 = bI ((sm B T (nmO B M kd i) (nmO B M kd k) && sm B T (tyO B M kd i) (tyO B M kd k)))) → wp_W L xs (d + 6) 78 123 [(0, .ref g), (1, .int (nI kd)), (2, .int (nI k)), (3, .int y), (4, .int f), (5, .int (nI i))] (.int z9 :: []) h Q := by
              intro z9 hz9
              revert z9
              intro z6 hz6
              refine wp_istore (lv' := [(0, .ref g), (1, .int (nI kd)), (2, .int (nI k)), (3, .int y), (4, .int f), (5, .int (nI i)), (6, .int z6)]) dq_78_123 (by decide) rfl ?_
              refine wp_aload_n dq_78_125 rfl ?_
              refine wp_getf dq_78_126 fl_78_26 hg.2 rfl ?_
              have hj129 : ∀ z9 : Int32, (snd S0 → z9 = bI (!(sm B T (nmO B M kd i) (nmO B M kd k) && sm B T (tyO B M kd i) (tyO B M kd k)))) → wp_W L xs (d + 6) 78 139 [(0, .ref g), (1, .int (nI kd)), (2, .int (nI k)), (3, .int y), (4, .int f), (5, .int (nI i)), (6, .int z6)] (.int z9 :: .ref (b + 2) :: []) h Q := by
                intro z9 hz9
                refine wp_bipush (x := 9) dq_78_139 rfl ?_
                refine wp_iload_n dq_78_141 rfl ?_
                refine wp_cv3 dq_78_142 mt_78_35 (ob_of (tb_c2 hb)) ⟨by decide +kernel, by decide +kernel⟩ (Nat.le_of_ble_eq_true rfl) (Nat.le_of_ble_eq_true rfl) (c_wantB (c := (!(sm B T (nmO B M kd i) (nmO B M kd k) && sm B T (tyO B M kd i) (tyO B M kd k)))) (f := 9) (p := p) hT (by decide) (fun hq => hz9 hq) (fun hq => (hH hq).2.2)) (fun v9 h9 q9 => ?_)
                obtain ⟨rfl, hT, hf9⟩ := q9
                have hg := RG_fr hg hf9
                have hf := fr_tr hf hf9
                clear hf9
                generalize hS1 : rs_w (!(sm B T (nmO B M kd i) (nmO B M kd k) && sm B T (tyO B M kd i) (tyO B M kd k))) 9 p S0 = S1 at hT
                obtain ⟨s1, hb, hw, hm1, h01, hq1⟩ := TS_x hT
                refine wp_iinc (y := ((nI i) + 1)) (lv' := [(0, .ref g), (1, .int (nI kd)), (2, .int (nI k)), (3, .int y), (4, .int f), (5, .int ((nI i) + 1)), (6, .int z6)]) dq_78_145 rfl rfl (by decide) rfl ?_
                refine wp_goto (tgt := 44) dq_78_148 rfl ?_
                rw [nI_1]
                rw [rs_mbL_s, hS1] at hK
                exact ih (i + 1) S1 _ _ (Or.inr ⟨_, rfl⟩) hT hg hf (fun hq => hH (sd_w hS1 hq)) (by omega) hK
              refine wp_iload dq_78_129 rfl ?_
              refine wp_if_ne (tgt := 138) dq_78_131 rfl (fun c3 => ?_) (fun c3 => ?_)
              · refine wp_iconst (x := 0) dq_78_138 rfl ?_
                exact hj129 _ (fun hq => by have hQ := hq0 _ (hH hq).1.1.1 (hH hq).1.1.2.1; have xc3 : (sm B T (nmO B M kd i) (nmO B M kd k) && sm B T (tyO B M kd i) (tyO B M kd k)) = true := bx_1 (hz6 hq) c3; rw [xc3] <;> rfl)
              · refine wp_iconst (x := 1) dq_78_134 rfl ?_
                refine wp_goto (tgt := 139) dq_78_135 rfl ?_
                exact hj129 _ (fun hq => by have hQ := hq0 _ (hH hq).1.1.1 (hH hq).1.1.2.1; have xc3 : (sm B T (nmO B M kd i) (nmO B M kd k) && sm B T (tyO B M kd i) (tyO B M kd k)) = false := bx_0 (hz6 hq) c3; rw [xc3] <;> rfl)
            refine wp_aload_n dq_78_60 rfl ?_
            refine wp_getf dq_78_61 fl_78_21 hg.2 rfl ?_
            refine wp_aload_n dq_78_64 rfl ?_
            refine wp_getf dq_78_65 fl_78_9 hg.2 rfl ?_
            refine wp_iload_n dq_78_68 rfl ?_
            refine wp_iload dq_78_69 rfl ?_
            refine wp_cve2 dq_78_71 mt_78_108 (ob_of (tb_c0 hb)) ⟨by decide +kernel, by decide +kernel⟩ (Nat.le_of_ble_eq_true rfl) (Nat.le_of_ble_eq_true rfl) (c_nameOf hb hw) ?_
            refine wp_aload_n dq_78_74 rfl ?_
            refine wp_getf dq_78_75 fl_78_9 hg.2 rfl ?_
            refine wp_iload_n dq_78_78 rfl ?_
            refine wp_iload_n dq_78_79 rfl ?_
            refine wp_cve2 dq_78_80 mt_78_108 (ob_of (tb_c0 hb)) ⟨by decide +kernel, by decide +kernel⟩ (Nat.le_of_ble_eq_true rfl) (Nat.le_of_ble_eq_true rfl) (c_nameOf hb hw) ?_
            refine wp_cve2 dq_78_83 mt_78_80 (ob_of (tb_c1 hb)) ⟨by decide +kernel, by decide +kernel⟩ (Nat.le_of_ble_eq_true rfl) (Nat.le_of_ble_eq_true rfl) (c_same hb hw) ?_
            refine wp_if_eq (tgt := 122) dq_78_86 rfl (fun c4 => ?_) (fun c4 => ?_)
            · refine wp_iconst (x := 0) dq_78_122 rfl ?_
              exact hj60 _ (fun hq => by have hQ := hq0 _ (hH hq).1.1.1 (hH hq).1.1.2.1; have xc4 : (sm B T (nmO B M kd i) (nmO B M kd k)) = false := bx_0 (by rw [q_nameOf (k := i) hQ (hH hq).1.2.1 (hH hq).1.2.2.1 hkd (by have := (hH hq).2.1; omega), q_nameOf (k := k) hQ (hH hq).1.2.1 (hH hq).1.2.2.1 hkd (by have := (hH hq).2.1; omega)]; exact q_same hQ (QF_U2 hQ (by have := (hH hq).1.2.2.1.2.2.1 kd i hkd (by have := (hH hq).2.1; omega); omega)) (QF_U2 hQ (by have := (hH hq).1.2.2.1.2.2.1 kd k hkd (by have := (hH hq).2.1; omega); omega))) c4; rw [xc4] <;> rfl)
            · refine wp_aload_n dq_78_89 rfl ?_
              refine wp_getf dq_78_90 fl_78_21 hg.2 rfl ?_
              refine wp_aload_n dq_78_93 rfl ?_
              refine wp_getf dq_78_94 fl_78_9 hg.2 rfl ?_
              refine wp_iload_n dq_78_97 rfl ?_
              refine wp_iload dq_78_98 rfl ?_
              refine wp_cve2 dq_78_100 mt_78_112 (ob_of (tb_c0 hb)) ⟨by decide +kernel, by decide +kernel⟩ (Nat.le_of_ble_eq_true rfl) (Nat.le_of_ble_eq_true rfl) (c_typeOf hb hw) ?_
              refine wp_aload_n dq_78_103 rfl ?_
              refine wp_getf dq_78_104 fl_78_9 hg.2 rfl ?_
              refine wp_iload_n dq_78_107 rfl ?_
              refine wp_iload_n dq_78_108 rfl ?_
              refine wp_cve2 dq_78_109 mt_78_112 (ob_of (tb_c0 hb)) ⟨by decide +kernel, by decide +kernel⟩ (Nat.le_of_ble_eq_true rfl) (Nat.le_of_ble_eq_true rfl) (c_typeOf hb hw) ?_
              refine wp_cve2 dq_78_112 mt_78_80 (ob_of (tb_c1 hb)) ⟨by decide +kernel, by decide +kernel⟩ (Nat.le_of_ble_eq_true rfl) (Nat.le_of_ble_eq_true rfl) (c_same hb hw) ?_
              refine wp_if_eq (tgt := 122) dq_78_115 rfl (fun c5 => ?_) (fun c5 => ?_)
              · refine wp_iconst (x := 0) dq_78_122 rfl ?_
                exact hj60 _ (fun hq => by have hQ := hq0 _ (hH hq).1.1.1 (hH hq).1.1.2.1; have xc4 : (sm B T (nmO B M kd i) (nmO B M kd k)) = true := bx_1 (by rw [q_nameOf (k := i) hQ (hH hq).1.2.1 (hH hq).1.2.2.1 hkd (by have := (hH hq).2.1; omega), q_nameOf (k := k) hQ (hH hq).1.2.1 (hH hq).1.2.2.1 hkd (by have := (hH hq).2.1; omega)]; exact q_same hQ (QF_U2 hQ (by have := (hH hq).1.2.2.1.2.2.1 kd i hkd (by have := (hH hq).2.1; omega); omega)) (QF_U2 hQ (by have := (hH hq).1.2.2.1.2.2.1 kd k hkd (by have := (hH hq).2.1; omega); omega))) c4; have xc5 : (sm B T (tyO B M kd i) (tyO B M kd k)) = false := bx_0 (by rw [q_typeOf (k := i) hQ (hH hq).1.2.1 (hH hq).1.2.2.1 hkd (by have := (hH hq).2.1; omega), q_typeOf (k := k) hQ (hH hq).1.2.1 (hH hq).1.2.2.1 hkd (by have := (hH hq).2.1; omega)]; exact q_same hQ (QF_U2 hQ (by have := (hH hq).1.2.2.1.2.2.1 kd i hkd (by have := (hH hq).2.1; omega); omega)) (QF_U2 hQ (by have := (hH hq).1.2.2.1.2.2.1 kd k hkd (by have := (hH hq).2.1; omega); omega))) c5; rw [xc4, xc5] <;> rfl)
              · refine wp_iconst (x := 1) dq_78_118 rfl ?_
                refine wp_goto (tgt := 123) dq_78_119 rfl ?_
                exact hj60 _ (fun hq => by have hQ := hq0 _ (hH hq).1.1.1 (hH hq).1.1.2.1; have xc4 : (sm B T (nmO B M kd i) (nmO B M kd k)) = true := bx_1 (by rw [q_nameOf (k := i) hQ (hH hq).1.2.1 (hH hq).1.2.2.1 hkd (by have := (hH hq).2.1; omega), q_nameOf (k := k) hQ (hH hq).1.2.1 (hH hq).1.2.2.1 hkd (by have := (hH hq).2.1; omega)]; exact q_same hQ (QF_U2 hQ (by have := (hH hq).1.2.2.1.2.2.1 kd i hkd (by have := (hH hq).2.1; omega); omega)) (QF_U2 hQ (by have := (hH hq).1.2.2.1.2.2.1 kd k hkd (by have := (hH hq).2.1; omega); omega))) c4; have xc5 : (sm B T (tyO B M kd i) (tyO B M kd k)) = true := bx_1 (by rw [q_typeOf (k := i) hQ (hH hq).1.2.1 (hH hq).1.2.2.1 hkd (by have := (hH hq).2.1; omega), q_typeOf (k := k) hQ (hH hq).1.2.1 (hH hq).1.2.2.1 hkd (by have := (hH hq).2.1; omega)]; exact q_same hQ (QF_U2 hQ (by have := (hH hq).1.2.2.1.2.2.1 kd i hkd (by have := (hH hq).2.1; omega); omega)) (QF_U2 hQ (by have := (hH hq).1.2.2.1.2.2.1 kd k hkd (by have := (hH hq).2.1; omega); omega))) c5; rw [xc4, xc5] <;> rfl)
      · skip
        refine wp_iload dq_78_44 rfl ?_
        refine wp_iload_n dq_78_46 rfl ?_
        refine wp_ic_ge (tgt := 151) dq_78_47 rfl (fun c1 => ?_) (fun c1 => ?_)
        · exact absurd c1 (nI_ge (by omega) (by omega))
        · refine wp_aload_n dq_78_50 rfl ?_
          refine wp_getf dq_78_51 fl_78_26 hg.2 rfl ?_
          refine wp_cve0 dq_78_54 mt_78_69 (ob_of (tb_c2 hb)) ⟨by decide +kernel, by decide +kernel⟩ (Nat.le_of_ble_eq_true rfl) (Nat.le_of_ble_eq_true rfl) (c_soundT hT) ?_
          refine wp_if_eq (tgt := 151) dq_78_57 rfl (fun c2 => ?_) (fun c2 => ?_)
          · exact absurd c2 (ok_1 hs)
          · have hj60 : ∀ z9 : Int32, (snd S0 → z9 = bI ((sm B T (nmO B M kd i) (nmO B M kd k) && sm B T (tyO B M kd i) (tyO B M kd k)))) → wp_W L xs (d + 6) 78 123 [(0, .ref g), (1, .int (nI kd)), (2, .int (nI k)), (3, .int y), (4, .int f), (5, .int (nI i)), (6, .int v)] (.int z9 :: []) h Q := by
              intro z9 hz9
              revert z9
              intro z6 hz6
              refine wp_istore (lv' := [(0, .ref g), (1, .int (nI kd)), (2, .int (nI k)), (3, .int y), (4, .int f), (5, .int (nI i)), (6, .int z6)]) dq_78_123 (by decide) rfl ?_
              refine wp_aload_n dq_78_125 rfl ?_
              refine wp_getf dq_78_126 fl_78_26 hg.2 rfl ?_
              have hj129 : ∀ z9 : Int32, (snd S0 → z9 = bI (!(sm B T (nmO B M kd i) (nmO B M kd k) && sm B T (tyO B M kd i) (tyO B M kd k)))) → wp_W L xs (d + 6) 78 139 [(0, .ref g), (1, .int (nI kd)), (2, .int (nI k)), (3, .int y), (4, .int f), (5, .int (nI i)), (6, .int z6)] (.int z9 :: .ref (b + 2) :: []) h Q := by
                intro z9 hz9
                refine wp_bipush (x := 9) dq_78_139 rfl ?_
                refine wp_iload_n dq_78_141 rfl ?_
                refine wp_cv3 dq_78_142 mt_78_35 (ob_of (tb_c2 hb)) ⟨by decide +kernel, by decide +kernel⟩ (Nat.le_of_ble_eq_true rfl) (Nat.le_of_ble_eq_true rfl) (c_wantB (c := (!(sm B T (nmO B M kd i) (nmO B M kd k) && sm B T (tyO B M kd i) (tyO B M kd k)))) (f := 9) (p := p) hT (by decide) (fun hq => hz9 hq) (fun hq => (hH hq).2.2)) (fun v9 h9 q9 => ?_)
                obtain ⟨rfl, hT, hf9⟩ := q9
                have hg := RG_fr hg hf9
                have hf := fr_tr hf hf9
                clear hf9
                generalize hS1 : rs_w (!(sm B T (nmO B M kd i) (nmO B M kd k) && sm B T (tyO B M kd i) (tyO B M kd k))) 9 p S0 = S1 at hT
                obtain ⟨s1, hb, hw, hm1, h01, hq1⟩ := TS_x hT
                refine wp_iinc (y := ((nI i) + 1)) (lv' := [(0, .ref g), (1, .int (nI kd)), (2, .int (nI k)), (3, .int y), (4, .int f), (5, .int ((nI i) + 1)), (6, .int z6)]) dq_78_145 rfl rfl (by decide) rfl ?_
                refine wp_goto (tgt := 44) dq_78_148 rfl ?_
                rw [nI_1]
                rw [rs_mbL_s, hS1] at hK
                exact ih (i + 1) S1 _ _ (Or.inr ⟨_, rfl⟩) hT hg hf (fun hq => hH (sd_w hS1 hq)) (by omega) hK
              refine wp_iload dq_78_129 rfl ?_
              refine wp_if_ne (tgt := 138) dq_78_131 rfl (fun c3 => ?_) (fun c3 => ?_)
              · refine wp_iconst (x := 0) dq_78_138 rfl ?_
                exact hj129 _ (fun hq => by have hQ := hq0 _ (hH hq).1.1.1 (hH hq).1.1.2.1; have xc3 : (sm B T (nmO B M kd i) (nmO B M kd k) && sm B T (tyO B M kd i) (tyO B M kd k)) = true := bx_1 (hz6 hq) c3; rw [xc3] <;> rfl)
              · refine wp_iconst (x := 1) dq_78_134 rfl ?_
                refine wp_goto (tgt := 139) dq_78_135 rfl ?_
                exact hj129 _ (fun hq => by have hQ := hq0 _ (hH hq).1.1.1 (hH hq).1.1.2.1; have xc3 : (sm B T (nmO B M kd i) (nmO B M kd k) && sm B T (tyO B M kd i) (tyO B M kd k)) = false := bx_0 (hz6 hq) c3; rw [xc3] <;> rfl)
            refine wp_aload_n dq_78_60 rfl ?_
            refine wp_getf dq_78_61 fl_78_21 hg.2 rfl ?_
            refine wp_aload_n dq_78_64 rfl ?_
            refine wp_getf dq_78_65 fl_78_9 hg.2 rfl ?_
            refine wp_iload_n dq_78_68 rfl ?_
            refine wp_iload dq_78_69 rfl ?_
            refine wp_cve2 dq_78_71 mt_78_108 (ob_of (tb_c0 hb)) ⟨by decide +kernel, by decide +kernel⟩ (Nat.le_of_ble_eq_true rfl) (Nat.le_of_ble_eq_true rfl) (c_nameOf hb hw) ?_
            refine wp_aload_n dq_78_74 rfl ?_
            refine wp_getf dq_78_75 fl_78_9 hg.2 rfl ?_
            refine wp_iload_n dq_78_78 rfl ?_
            refine wp_iload_n dq_78_79 rfl ?_
            refine wp_cve2 dq_78_80 mt_78_108 (ob_of (tb_c0 hb)) ⟨by decide +kernel, by decide +kernel⟩ (Nat.le_of_ble_eq_true rfl) (Nat.le_of_ble_eq_true rfl) (c_nameOf hb hw) ?_
            refine wp_cve2 dq_78_83 mt_78_80 (ob_of (tb_c1 hb)) ⟨by decide +kernel, by decide +kernel⟩ (Nat.le_of_ble_eq_true rfl) (Nat.le_of_ble_eq_true rfl) (c_same hb hw) ?_
            refine wp_if_eq (tgt := 122) dq_78_86 rfl (fun c4 => ?_) (fun c4 => ?_)
            · refine wp_iconst (x := 0) dq_78_122 rfl ?_
              exact hj60 _ (fun hq => by have hQ := hq0 _ (hH hq).1.1.1 (hH hq).1.1.2.1; have xc4 : (sm B T (nmO B M kd i) (nmO B M kd k)) = false := bx_0 (by rw [q_nameOf (k := i) hQ (hH hq).1.2.1 (hH hq).1.2.2.1 hkd (by have := (hH hq).2.1; omega), q_nameOf (k := k) hQ (hH hq).1.2.1 (hH hq).1.2.2.1 hkd (by have := (hH hq).2.1; omega)]; exact q_same hQ (QF_U2 hQ (by have := (hH hq).1.2.2.1.2.2.1 kd i hkd (by have := (hH hq).2.1; omega); omega)) (QF_U2 hQ (by have := (hH hq).1.2.2.1.2.2.1 kd k hkd (by have := (hH hq).2.1; omega); omega))) c4; rw [xc4] <;> rfl)
            · refine wp_aload_n dq_78_89 rfl ?_
              refine wp_getf dq_78_90 fl_78_21 hg.2 rfl ?_
              refine wp_aload_n dq_78_93 rfl ?_
              refine wp_getf dq_78_94 fl_78_9 hg.2 rfl ?_
              refine wp_iload_n dq_78_97 rfl ?_
              refine wp_iload dq_78_98 rfl ?_
              refine wp_cve2 dq_78_100 mt_78_112 (ob_of (tb_c0 hb)) ⟨by decide +kernel, by decide +kernel⟩ (Nat.le_of_ble_eq_true rfl) (Nat.le_of_ble_eq_true rfl) (c_typeOf hb hw) ?_
              refine wp_aload_n dq_78_103 rfl ?_
              refine wp_getf dq_78_104 fl_78_9 hg.2 rfl ?_
              refine wp_iload_n dq_78_107 rfl ?_
              refine wp_iload_n dq_78_108 rfl ?_
              refine wp_cve2 dq_78_109 mt_78_112 (ob_of (tb_c0 hb)) ⟨by decide +kernel, by decide +kernel⟩ (Nat.le_of_ble_eq_true rfl) (Nat.le_of_ble_eq_true rfl) (c_typeOf hb hw) ?_
              refine wp_cve2 dq_78_112 mt_78_80 (ob_of (tb_c1 hb)) ⟨by decide +kernel, by decide +kernel⟩ (Nat.le_of_ble_eq_true rfl) (Nat.le_of_ble_eq_true rfl) (c_same hb hw) ?_
              refine wp_if_eq (tgt := 122) dq_78_115 rfl (fun c5 => ?_) (fun c5 => ?_)
              · refine wp_iconst (x := 0) dq_78_122 rfl ?_
                exact hj60 _ (fun hq => by have hQ := hq0 _ (hH hq).1.1.1 (hH hq).1.1.2.1; have xc4 : (sm B T (nmO B M kd i) (nmO B M kd k)) = true := bx_1 (by rw [q_nameOf (k := i) hQ (hH hq).1.2.1 (hH hq).1.2.2.1 hkd (by have := (hH hq).2.1; omega), q_nameOf (k := k) hQ (hH hq).1.2.1 (hH hq).1.2.2.1 hkd (by have := (hH hq).2.1; omega)]; exact q_same hQ (QF_U2 hQ (by have := (hH hq).1.2.2.1.2.2.1 kd i hkd (by have := (hH hq).2.1; omega); omega)) (QF_U2 hQ (by have := (hH hq).1.2.2.1.2.2.1 kd k hkd (by have := (hH hq).2.1; omega); omega))) c4; have xc5 : (sm B T (tyO B M kd i) (tyO B M kd k)) = false := bx_0 (by rw [q_typeOf (k := i) hQ (hH hq).1.2.1 (hH hq).1.2.2.1 hkd (by have := (hH hq).2.1; omega), q_typeOf (k := k) hQ (hH hq).1.2.1 (hH hq).1.2.2.1 hkd (by have := (hH hq).2.1; omega)]; exact q_same hQ (QF_U2 hQ (by have := (hH hq).1.2.2.1.2.2.1 kd i hkd (by have := (hH hq).2.1; omega); omega)) (QF_U2 hQ (by have := (hH hq).1.2.2.1.2.2.1 kd k hkd (by have := (hH hq).2.1; omega); omega))) c5; rw [xc4, xc5] <;> rfl)
              · refine wp_iconst (x := 1) dq_78_118 rfl ?_
                refine wp_goto (tgt := 123) dq_78_119 rfl ?_
                exact hj60 _ (fun hq => by have hQ := hq0 _ (hH hq).1.1.1 (hH hq).1.1.2.1; have xc4 : (sm B T (nmO B M kd i) (nmO B M kd k)) = true := bx_1 (by rw [q_nameOf (k := i) hQ (hH hq).1.2.1 (hH hq).1.2.2.1 hkd (by have := (hH hq).2.1; omega), q_nameOf (k := k) hQ (hH hq).1.2.1 (hH hq).1.2.2.1 hkd (by have := (hH hq).2.1; omega)]; exact q_same hQ (QF_U2 hQ (by have := (hH hq).1.2.2.1.2.2.1 kd i hkd (by have := (hH hq).2.1; omega); omega)) (QF_U2 hQ (by have := (hH hq).1.2.2.1.2.2.1 kd k hkd (by have := (hH hq).2.1; omega); omega))) c4; have xc5 : (sm B T (tyO B M kd i) (tyO B M kd k)) = true := bx_1 (by rw [q_typeOf (k := i) hQ (hH hq).1.2.1 (hH hq).1.2.2.1 hkd (by have := (hH hq).2.1; omega), q_typeOf (k := k) hQ (hH hq).1.2.1 (hH hq).1.2.2.1 hkd (by have := (hH hq).2.1; omega)]; exact q_same hQ (QF_U2 hQ (by have := (hH hq).1.2.2.1.2.2.1 kd i hkd (by have := (hH hq).2.1; omega); omega)) (QF_U2 hQ (by have := (hH hq).1.2.2.1.2.2.1 kd k hkd (by have := (hH hq).2.1; omega); omega))) c5; rw [xc4, xc5] <;> rfl)
theorem sd_nt {B : Nat → Nat} {n : Nat} {T : Nat → Nat} {kd : Nat} {S S' : rS} (e : rs_nt B n T kd S = S') (h : snd S') : snd S := (sp_nt e h).2.2.1
theorem fit_m {B : Nat → Nat} {n : Nat} {T : Nat → Nat} {F : Nat} {fp : Int32} {s : Nat → Int32} {a : Nat → Nat → Int32} {M : rM} {kd k fl : Nat} {S1 S2 : rS} (e : rs_nt B n T kd S1 = S2) (hX : RC B n T F fp a (mb_nt kd k S1 M)) (hQ : QF B n T s a) (h0 : s 0 = fp) (hkd : kd < 3) (hq : snd S2) : f_fitMember s a (nI kd) (nI k) (nI fl) = bI (k_fit B T (bu_U B F 2) kd (rs_iv B n 2 S1) fl) := by
  have hk : k < (mb_nt kd k S1 M).c kd := by
    show k < updN M.c kd (k + 1) kd
    rw [updN_s]; omega
  rw [q_fit hQ hX.2.1 hX.2.2.1 (h0.trans hX.2.2.2.1) hX.2.2.2.2 hkd hk, (sp_nt e hq).2.2.2.1]
  show bI (k_fit B T (bu_U B F 2) kd (bu_U B (updN M.np (16 * kd + k) (rs_p S1) (16 * kd + k)) 2) fl) = _
  rw [updN_s]
set_option maxRecDepth 100000 in
theorem c_mbK {L : Nat} {xs : Nat → Int32} {d b n g F : Nat} {B T : Nat → Nat} {fp : Int32} {S0 : rS} {h : List qx_E} {a : Nat → Nat → Int32} {M : rM} {Q : Option Value → List qx_E → Prop} {kd k : Nat} (hT : TS h b B n S0 fp a) (hC : snd S0 → RC B n T F fp a M) (hg : RG h b g) (hkd : kd < 3) (hk : k < 16) (hc9 : snd S0 → M.c kd = k) (hK : ∀ h' a', TS h' b B n (rs_mb B n T F kd k M S0) fp a' → fr b h h' → (snd (rs_mb B n T F kd k M S0) → RC B n T F fp a' (mb_nt kd k (rs_is n 2 S0) M)) → Q none h') : wp_W L xs (d + 6) 78 0 (lv_args 0 [.ref g, .int (nI kd), .int (nI k)]) [] h Q := by
  show wp_W L xs _ 78 0 [(0, .ref g), (1, .int (nI kd)), (2, .int (nI k))] [] h _
  obtain ⟨s0, hb, hw, hm0, h00, hq0⟩ := TS_x hT
  have hf : fr b h h := fr_rf
  refine wp_aload_n dq_78_0 rfl ?_
  refine wp_getf dq_78_1 fl_78_26 hg.2 rfl ?_
  refine wp_getf dq_78_4 fl_78_52 (tb_c2 hb) rfl ?_
  refine wp_istore_n (lv' := [(0, .ref g), (1, .int (nI kd)), (2, .int (nI k)), (3, .int (s0 2))]) dq_78_7 (by decide) rfl ?_
  refine wp_aload_n dq_78_8 rfl ?_
  refine wp_getf dq_78_9 fl_78_26 hg.2 rfl ?_
  refine wp_cv0 dq_78_12 mt_78_39 (ob_of (tb_c2 hb)) ⟨by decide +kernel, by decide +kernel⟩ (Nat.le_of_ble_eq_true rfl) (Nat.le_of_ble_eq_true rfl) (c_u2T hT) (fun v9 h9 q9 => ?_)
  obtain ⟨rfl, hT, hf9⟩ := q9
  have hg := RG_fr hg hf9
  have hf := fr_tr hf hf9
  clear hf9
  generalize hS1 : rs_is n 2 S0 = S1 at hT
  obtain ⟨s1, hb, hw, hm1, h01, hq1⟩ := TS_x hT
  refine wp_istore (lv' := [(0, .ref g), (1, .int (nI kd)), (2, .int (nI k)), (3, .int (s0 2)), (4, .int (nI (rs_iv B n 2 S0)))]) dq_78_15 (by decide) rfl ?_
  refine wp_aload_n dq_78_17 rfl ?_
  refine wp_iload_n dq_78_18 rfl ?_
  refine wp_iload_n dq_78_19 rfl ?_
  refine wp_cv2 dq_78_20 mt_78_101 (ob_of hg.2) ⟨by decide +kernel, by decide +kernel⟩ (Nat.le_of_ble_eq_true rfl) (Nat.le_of_ble_eq_true rfl) (c_nt (F := F) (M := M) hT (fun hq => hC (sd_is hS1 hq)) hg hkd hk (fun hq => hc9 (sd_is hS1 hq))) (fun v9 h9 q9 => ?_)
  obtain ⟨rfl, a1, hT, hf9, hX⟩ := q9
  have hg := RG_fr hg hf9
  have hf := fr_tr hf hf9
  clear hf9
  generalize hS2 : rs_nt B n T kd S1 = S2 at hT hX
  obtain ⟨s2, hb, hw, hm2, h02, hq2⟩ := TS_x hT
  refine wp_aload_n dq_78_23 rfl ?_
  refine wp_getf dq_78_24 fl_78_26 hg.2 rfl ?_
  refine wp_aload_n dq_78_27 rfl ?_
  refine wp_iload_n dq_78_28 rfl ?_
  refine wp_iload_n dq_78_29 rfl ?_
  refine wp_iload dq_78_30 rfl ?_
  refine wp_cve3 dq_78_32 mt_78_104 (ob_of hg.2) ⟨by decide +kernel, by decide +kernel⟩ (Nat.le_of_ble_eq_true rfl) (Nat.le_of_ble_eq_true rfl) (c_fitMember hb hw hg) ?_
  refine wp_bipush (x := 6) dq_78_35 rfl ?_
  refine wp_iload_n dq_78_37 rfl ?_
  refine wp_cv3 dq_78_38 mt_78_35 (ob_of (tb_c2 hb)) ⟨by decide +kernel, by decide +kernel⟩ (Nat.le_of_ble_eq_true rfl) (Nat.le_of_ble_eq_true rfl) (c_wantB (c := (k_fit B T (bu_U B F 2) kd (rs_iv B n 2 S1) (rs_iv B n 2 S0))) (f := 6) (p := (rs_p S0)) hT (by decide) (fun hq => fit_m hS2 (hX hq) (hq2 _ (hX hq).1.1 (hX hq).1.2.1) h02 hkd hq) (fun hq => TS_p hm0 (sd_is hS1 (sd_nt hS2 hq)))) (fun v9 h9 q9 => ?_)
  obtain ⟨rfl, hT, hf9⟩ := q9
  have hg := RG_fr hg hf9
  have hf := fr_tr hf hf9
  clear hf9
  generalize hS3 : rs_w (k_fit B T (bu_U B F 2) kd (rs_iv B n 2 S1) (rs_iv B n 2 S0)) 6 (rs_p S0) S2 = S3 at hT
  obtain ⟨s3, hb, hw, hm3, h03, hq3⟩ := TS_x hT
  refine wp_iconst (x := 0) dq_78_41 rfl ?_
  refine wp_istore (lv' := [(0, .ref g), (1, .int (nI kd)), (2, .int (nI k)), (3, .int (s0 2)), (4, .int (nI (rs_iv B n 2 S0))), (5, .int 0)]) dq_78_42 (by decide) rfl ?_
  refine c_mbL (F := F) (M := mb_nt kd k S1 M) (p := rs_p S0) hkd hk k 0 S3 h9 [] (Or.inl rfl) hT hg hf (fun hq => ⟨hX (sd_w hS3 hq), ?_, TS_p hm0 (sd_is hS1 (sd_nt hS2 (sd_w hS3 hq)))⟩) (by omega) (fun h' h1 h2 => hK h' a1 ?_ h2 (fun hq => ?_))
  · show updN M.c kd (k + 1) kd = k + 1
    exact updN_s
  · rw [rs_mb, hS1, hS2, hS3]
    exact h1
  · have hq3 := (sp_mb rfl hq).2.2.2.1
    rw [hS1] at hq3 ⊢
    rw [hS2] at hq3
    exact hX hq3
