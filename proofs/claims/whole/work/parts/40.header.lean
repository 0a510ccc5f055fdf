theorem snd_or (S : rS) : snd S ∨ ∃ e, S = .inr e := by
  cases S with
  | inl q => exact Or.inl (snd_l q)
  | inr e => exact Or.inr ⟨e, rfl⟩
theorem ok_1 {S : rS} (h : snd S) : ¬ rs_ok S = 0 := by
  obtain ⟨q, rfl⟩ := h
  show ¬ (1 : Int32) = 0
  decide
theorem sp_ix {B : Nat → Nat} {n : Nat} {T : Nat → Nat} {t : Nat} {mz : Bool} {S S' : rS} (e : rs_ix B n T t mz S = S') (h : snd S') : S' = .inl (rs_p S + 2) ∧ rs_p S + 2 ≤ n ∧ rs_iv B n 2 S = bu_U B (rs_p S) 2 := by
  have h1 := (sd_wc e h).2
  have h2 := sd_w e h
  obtain ⟨e1, e2, e3⟩ := sd_isp (rfl : rs_is n 2 S = _) h2
  exact ⟨h1.trans e3, e2, iv_of rfl h2⟩
theorem sp_nc {B : Nat → Nat} {n : Nat} {T : Nat → Nat} {mz : Bool} {S S' : rS} (e : rs_nc B n T mz S = S') (h : snd S') : S' = .inl (rs_p S + 2) ∧ rs_p S + 2 ≤ n ∧ rs_iv B n 2 S = bu_U B (rs_p S) 2 := by
  have h1 := (sd_wc e h).2
  have h2 := sd_w e h
  obtain ⟨e1, e2, e3⟩ := sp_ix rfl h2
  exact ⟨h1.trans e1, e2, e3⟩
def x_if (B T : Nat → Nat) (F j : Nat) : Nat := cT B T (bu_U B (F + 8 + 2 * j) 2)
def sm (B T : Nat → Nat) (x y : Nat) : Bool := decide (tg B T x = 1 ∧ tg B T y = 1 ∧ tx B T x = tx B T y)
def rs_ifL (B T : Nat → Nat) (F nm p : Nat) : Nat → Nat → rS → rS
  | 0, _, S => S
  | j + 1, i, S => rs_ifL B T F nm p j (i + 1) (rs_w (!(sm B T (x_if B T F i) nm)) 9 p S)
theorem rs_ifL_s (B T : Nat → Nat) (F nm p j i : Nat) (S : rS) : rs_ifL B T F nm p (j + 1) i S = rs_ifL B T F nm p j (i + 1) (rs_w (!(sm B T (x_if B T F i) nm)) 9 p S) := rfl
theorem rs_ifL_e (B T : Nat → Nat) (F nm p : Nat) (e : Nat × Nat) : ∀ j i, rs_ifL B T F nm p j i (.inr e) = .inr e
  | 0, _ => rfl
  | j + 1, i => rs_ifL_e B T F nm p e j (i + 1)
theorem ifL_id {B T : Nat → Nat} {F nm p : Nat} : ∀ {j i : Nat} {S S' : rS}, rs_ifL B T F nm p j i S = S' → snd S' → S' = S
  | 0, _, S, S', e, h => e.symm
  | j + 1, i, S, S', e, h => by
    have h1 := ifL_id (j := j) (i := i + 1) e h
    rw [h1] at h ⊢
    exact (sd_wc rfl h).2
def rs_if (B : Nat → Nat) (n : Nat) (T : Nat → Nat) (F k : Nat) (S : rS) : rS := rs_ifL B T F (cT B T (rs_iv B n 2 S)) (rs_p S) k 0 (rs_nc B n T false S)
theorem sp_if {B : Nat → Nat} {n : Nat} {T : Nat → Nat} {F k : Nat} {S S' : rS} (e : rs_if B n T F k S = S') (h : snd S') : S' = .inl (rs_p S + 2) ∧ rs_p S + 2 ≤ n ∧ snd S := by
  have h1 := ifL_id e h
  rw [h1] at h ⊢
  obtain ⟨a1, a2, -⟩ := sp_nc rfl h
  exact ⟨a1, a2, sd_nc rfl h⟩
def rs_ifs (B : Nat → Nat) (n : Nat) (T : Nat → Nat) (F : Nat) : Nat → Nat → rS → rS
  | 0, _, S => S
  | j + 1, k, S => rs_ifs B n T F j (k + 1) (rs_if B n T F k S)
theorem rs_ifs_s (B : Nat → Nat) (n : Nat) (T : Nat → Nat) (F j k : Nat) (S : rS) : rs_ifs B n T F (j + 1) k S = rs_ifs B n T F j (k + 1) (rs_if B n T F k S) := rfl
theorem rs_if_e (B : Nat → Nat) (n : Nat) (T : Nat → Nat) (F k : Nat) (e : Nat × Nat) : rs_if B n T F k (.inr e) = .inr e := rs_ifL_e _ _ _ _ _ _ _ _
theorem rs_ifs_e (B : Nat → Nat) (n : Nat) (T : Nat → Nat) (F : Nat) (e : Nat × Nat) : ∀ j k, rs_ifs B n T F j k (.inr e) = .inr e
  | 0, _ => rfl
  | j + 1, k => by rw [rs_ifs_s, rs_if_e]; exact rs_ifs_e B n T F e j (k + 1)
theorem sp_ifs {B : Nat → Nat} {n : Nat} {T : Nat → Nat} {F : Nat} : ∀ {j k : Nat} {S S' : rS}, rs_ifs B n T F j k S = S' → snd S' → S' = .inl (rs_p S + 2 * j) ∧ snd S
  | 0, k, S, S', e, h => by subst e; exact ⟨snd_p h, h⟩
  | j + 1, k, S, S', e, h => by
    obtain ⟨h1, h2⟩ := sp_ifs (j := j) (k := k + 1) e h
    obtain ⟨h3, h4, h5⟩ := sp_if rfl h2
    rw [h3] at h1
    exact ⟨h1.trans (congrArg Sum.inl (by show rs_p S + 2 + 2 * j = rs_p S + 2 * (j + 1); omega)), h5⟩
theorem q_if {B : Nat → Nat} {n : Nat} {T : Nat → Nat} {s : Nat → Int32} {a : Nat → Nat → Int32} (hQ : QF B n T s a) {F j : Nat} (h0 : s 0 = nI F) (hj : j < bu_U B (F + 6) 2) (hn : F + 8 + 2 * j + 2 ≤ n) : f_interfaceText s a (nI j) = nI (x_if B T F j) := by
  have h480 := QF_n hQ
  have h1 := QF_U2 hQ (p := F + 6) (by omega)
  have h2 : f_interfaces s a = nI (bu_U B (F + 6) 2) := by
    unfold f_interfaces
    rw [h0, show (6 : Int32) = nI 6 from rfl, nI_add, QF_u2 hQ (by omega)]
  unfold f_interfaceText
  rw [if_neg (nI_pos (by omega)), h2, if_neg (nI_ge hj (by omega)), h0, show (8 : Int32) = nI 8 from rfl, show (2 : Int32) = nI 2 from rfl, pk_mul, nI_add, nI_add, QF_u2 hQ (by omega), q_classText hQ (QF_U2 hQ (by omega))]
  rfl
theorem cT_lt {B : Nat → Nat} {n : Nat} {T : Nat → Nat} {s : Nat → Int32} {a : Nat → Nat → Int32} (hQ : QF B n T s a) (i : Nat) : cT B T i < 65536 := q_ctlt hQ
theorem wp_pT {L : Nat} {xs : Nat → Int32} {d m pc k b n : Nat} {lv : qx_L} {r : List Value} {h h0 : List qx_E} {Q : Option Value → List qx_E → Prop} {B : Nat → Nat} {S : rS} {fp x : Int32} {a : Nat → Nat → Int32} (hd : decode (qx_code m) pc = .ok (.putfield k, 3)) (hf : qx_fld m k = some (1, 2) ∧ qx_pok m k = true) (hT : TS h b B n S fp a) (hr : fr b h0 h) (kk : ∀ h', TS h' b B n S x a → fr b h0 h' → wp_W L xs d m (pc + 3) lv r h' Q) : wp_W L xs d m pc lv (.int x :: .ref b :: r) h Q := by
  obtain ⟨s, hb, hc, hO, hn, h0, h1, hm⟩ := hT
  refine wp_p0 hd hf hb hr (fun h' hb' hr' => kk h' ⟨upd s 0 x, hb', hc, hO, hn, rfl, h1, ?_⟩ hr')
  cases S with
  | inl p => exact hm
  | inr e => exact hm
set_option maxRecDepth 100000 in
theorem c_ifL {L : Nat} {xs : Nat → Int32} {d b n g : Nat} {B T : Nat → Nat} {fp : Int32} {a : Nat → Nat → Int32} {F nm p k : Nat} {y z : Int32} {h0 : List qx_E} {Q : Option Value → List qx_E → Prop} (hk : k < 65536) : ∀ j i S0 (h : List qx_E), TS h b B n S0 fp a → RG h b g → fr b h0 h → (snd S0 → PL B n T a ∧ fp = nI F ∧ F + 8 + 2 * k + 2 ≤ n ∧ k < bu_U B (F + 6) 2 ∧ (z = nI nm ∧ nm < 65536) ∧ y = nI p) → i + j = k → (∀ h', TS h' b B n (rs_ifL B T F nm p j i S0) fp a → fr b h0 h' → Q none h') → wp_W L xs (d + 5) 73 25 [(0, .ref g), (1, .int (nI k)), (2, .int y), (3, .int z), (4, .int (nI i))] [] h Q := by
  intro j
  induction j with
  | zero =>
    intro i S0 h hT hg hf hH hi hK
    refine wp_iload dq_73_25 rfl ?_
    refine wp_iload_n dq_73_27 rfl ?_
    refine wp_ic_ge (tgt := 82) dq_73_28 rfl (fun c1 => ?_) (fun c1 => absurd (nI_le (by omega) (by omega)) c1)
    exact wp_vre dq_73_82 rfl (hK h hT hf)
  | succ j ih =>
    intro i S0 h hT hg hf hH hi hK
    obtain ⟨s0, hb, hw, hm0, h00, hq0⟩ := TS_x hT
    rcases snd_or S0 with hs | ⟨e0, rfl⟩
    rotate_left
    · have hE := hK h (by rw [rs_ifL_e]; exact hT) hf
      refine wp_iload dq_73_25 rfl ?_
      refine wp_iload_n dq_73_27 rfl ?_
      refine wp_ic_ge (tgt := 82) dq_73_28 rfl (fun c1 => absurd c1 (nI_ge (by omega) (by omega))) (fun c1 => ?_)
      refine wp_aload_n dq_73_31 rfl ?_
      refine wp_getf dq_73_32 fl_73_26 hg.2 rfl ?_
      refine wp_cve0 dq_73_35 mt_73_69 (ob_of (tb_c2 hb)) ⟨by decide +kernel, by decide +kernel⟩ (Nat.le_of_ble_eq_true rfl) (Nat.le_of_ble_eq_true rfl) (c_soundT hT) ?_
      refine wp_if_eq (tgt := 82) dq_73_38 rfl (fun c2 => wp_vre dq_73_82 rfl hE) (fun c2 => absurd rfl c2)
    · skip
      refine wp_iload dq_73_25 rfl ?_
      refine wp_iload_n dq_73_27 rfl ?_
      refine wp_ic_ge (tgt := 82) dq_73_28 rfl (fun c1 => ?_) (fun c1 => ?_)
      · exact absurd c1 (nI_ge (by omega) (by omega))
      · refine wp_aload_n dq_73_31 rfl ?_
        refine wp_getf dq_73_32 fl_73_26 hg.2 rfl ?_
        refine wp_cve0 dq_73_35 mt_73_69 (ob_of (tb_c2 hb)) ⟨by decide +kernel, by decide +kernel⟩ (Nat.le_of_ble_eq_true rfl) (Nat.le_of_ble_eq_true rfl) (c_soundT hT) ?_
        refine wp_if_eq (tgt := 82) dq_73_38 rfl (fun c2 => ?_) (fun c2 => ?_)
        · exact absurd c2 (ok_1 hs)
        · refine wp_aload_n dq_73_41 rfl ?_
          refine wp_getf dq_73_42 fl_73_26 hg.2 rfl ?_
          have hj45 : ∀ z9 : Int32, (snd S0 → z9 = bI (!(sm B T (x_if B T F i) nm))) → wp_W L xs (d + 5) 73 70 [(0, .ref g), (1, .int (nI k)), (2, .int y), (3, .int z), (4, .int (nI i))] (.int z9 :: .ref (b + 2) :: []) h Q := by
            intro z9 hz9
            refine wp_bipush (x := 9) dq_73_70 rfl ?_
            refine wp_iload_n dq_73_72 rfl ?_
            refine wp_cv3 dq_73_73 mt_73_35 (ob_of (tb_c2 hb)) ⟨by decide +kernel, by decide +kernel⟩ (Nat.le_of_ble_eq_true rfl) (Nat.le_of_ble_eq_true rfl) (c_wantB (c := (!(sm B T (x_if B T F i) nm))) (f := 9) (p := p) hT (by decide) (fun hq => hz9 hq) (fun hq => (hH hq).2.2.2.2.2)) (fun v9 h9 q9 => ?_)
            obtain ⟨rfl, hT, hf9⟩ := q9
            have hg := RG_fr hg hf9
            have hf := fr_tr hf hf9
            clear hf9
            generalize hS1 : rs_w (!(sm B T (x_if B T F i) nm)) 9 p S0 = S1 at hT
            obtain ⟨s1, hb, hw, hm1, h01, hq1⟩ := TS_x hT
            refine wp_iinc (y := ((nI i) + 1)) (lv' := [(0, .ref g), (1, .int (nI k)), (2, .int y), (3, .int z), (4, .int ((nI i) + 1))]) dq_73_76 rfl rfl (by decide) rfl ?_
            refine wp_goto (tgt := 25) dq_73_79 rfl ?_
            rw [nI_1]
            rw [rs_ifL_s, hS1] at hK
            exact ih (i + 1) S1 _ hT hg hf (fun hq => hH (sd_w hS1 hq)) (by omega) hK
          refine wp_aload_n dq_73_45 rfl ?_
          refine wp_getf dq_73_46 fl_73_21 hg.2 rfl ?_
          refine wp_aload_n dq_73_49 rfl ?_
          refine wp_getf dq_73_50 fl_73_9 hg.2 rfl ?_
          refine wp_iload dq_73_53 rfl ?_
          refine wp_cve1 dq_73_55 mt_73_76 (ob_of (tb_c0 hb)) ⟨by decide +kernel, by decide +kernel⟩ (Nat.le_of_ble_eq_true rfl) (Nat.le_of_ble_eq_true rfl) (c_interfaceText hb hw) ?_
          refine wp_iload_n dq_73_58 rfl ?_
          refine wp_cve2 dq_73_59 mt_73_80 (ob_of (tb_c1 hb)) ⟨by decide +kernel, by decide +kernel⟩ (Nat.le_of_ble_eq_true rfl) (Nat.le_of_ble_eq_true rfl) (c_same hb hw) ?_
          refine wp_if_ne (tgt := 69) dq_73_62 rfl (fun c3 => ?_) (fun c3 => ?_)
          · refine wp_iconst (x := 0) dq_73_69 rfl ?_
            exact hj45 _ (fun hq => by have hQ := hq0 _ (hH hq).1.1 (hH hq).1.2.1; have xc3 : (sm B T (x_if B T F i) nm) = true := bx_1 (by rw [q_if hQ (h00.trans (hH hq).2.1) (by have := (hH hq).2.2.2.1; omega) (by have := (hH hq).2.2.1; omega), (hH hq).2.2.2.2.1.1]; exact q_same hQ (cT_lt hQ _) (hH hq).2.2.2.2.1.2) c3; rw [xc3] <;> rfl)
          · refine wp_iconst (x := 1) dq_73_65 rfl ?_
            refine wp_goto (tgt := 70) dq_73_66 rfl ?_
            exact hj45 _ (fun hq => by have hQ := hq0 _ (hH hq).1.1 (hH hq).1.2.1; have xc3 : (sm B T (x_if B T F i) nm) = false := bx_0 (by rw [q_if hQ (h00.trans (hH hq).2.1) (by have := (hH hq).2.2.2.1; omega) (by have := (hH hq).2.2.1; omega), (hH hq).2.2.2.2.1.1]; exact q_same hQ (cT_lt hQ _) (hH hq).2.2.2.2.1.2) c3; rw [xc3] <;> rfl)
set_option maxRecDepth 100000 in
theorem c_ifK {L : Nat} {xs : Nat → Int32} {d b n g : Nat} {B T : Nat → Nat} {fp : Int32} {S0 : rS} {h : List qx_E} {a : Nat → Nat → Int32} {Q : Option Value → List qx_E → Prop} {F k : Nat} (hT : TS h b B n S0 fp a) (hR : snd S0 → PL B n T a) (hg : RG h b g) (hF : snd S0 → fp = nI F ∧ rs_p S0 = F + 8 + 2 * k ∧ k < bu_U B (F + 6) 2) (hk : k < 65536) (hK : ∀ h', TS h' b B n (rs_if B n T F k S0) fp a → fr b h h' → Q none h') : wp_W L xs (d + 5) 73 0 (lv_args 0 [.ref g, .int (nI k)]) [] h Q := by
  show wp_W L xs _ 73 0 [(0, .ref g), (1, .int (nI k))] [] h _
  obtain ⟨s0, hb, hw, hm0, h00, hq0⟩ := TS_x hT
  have hf : fr b h h := fr_rf
  refine wp_aload_n dq_73_0 rfl ?_
  refine wp_getf dq_73_1 fl_73_26 hg.2 rfl ?_
  refine wp_getf dq_73_4 fl_73_52 (tb_c2 hb) rfl ?_
  refine wp_istore_n (lv' := [(0, .ref g), (1, .int (nI k)), (2, .int (s0 2))]) dq_73_7 (by decide) rfl ?_
  refine wp_aload_n dq_73_8 rfl ?_
  refine wp_iconst (x := 0) dq_73_9 rfl ?_
  refine wp_cv1 dq_73_10 mt_73_65 (ob_of hg.2) ⟨by decide +kernel, by decide +kernel⟩ (Nat.le_of_ble_eq_true rfl) (Nat.le_of_ble_eq_true rfl) (c_nc (mz := false) hT (fun hq => hR hq) hg) (fun v9 h9 q9 => ?_)
  obtain ⟨rfl, hT, hf9⟩ := q9
  have hg := RG_fr hg hf9
  have hf := fr_tr hf hf9
  clear hf9
  generalize hS1 : rs_nc B n T false S0 = S1 at hT
  obtain ⟨s1, hb, hw, hm1, h01, hq1⟩ := TS_x hT
  refine wp_aload_n dq_73_13 rfl ?_
  refine wp_getf dq_73_14 fl_73_9 hg.2 rfl ?_
  refine wp_iload_n dq_73_17 rfl ?_
  refine wp_cve1 dq_73_18 mt_73_76 (ob_of (tb_c0 hb)) ⟨by decide +kernel, by decide +kernel⟩ (Nat.le_of_ble_eq_true rfl) (Nat.le_of_ble_eq_true rfl) (c_interfaceText hb hw) ?_
  refine wp_istore_n (lv' := [(0, .ref g), (1, .int (nI k)), (2, .int (s0 2)), (3, .int (f_interfaceText s1 a (nI k)))]) dq_73_21 (by decide) rfl ?_
  refine wp_iconst (x := 0) dq_73_22 rfl ?_
  refine wp_istore (lv' := [(0, .ref g), (1, .int (nI k)), (2, .int (s0 2)), (3, .int (f_interfaceText s1 a (nI k))), (4, .int 0)]) dq_73_23 (by decide) rfl ?_
  refine c_ifL (F := F) (nm := cT B T (rs_iv B n 2 S0)) (p := rs_p S0) hk k 0 S1 h9 hT hg hf (fun hq => ?_) (by omega) (fun h' h1 h2 => hK h' (by rw [rs_if, hS1]; exact h1) h2)
  have hs := sd_nc hS1 hq
  obtain ⟨f1, f2, f3⟩ := hF hs
  obtain ⟨g1, g2, g3⟩ := sp_nc hS1 hq
  have hQ := hq1 _ (hR hs).1 (hR hs).2.1
  refine ⟨hR hs, f1, by omega, f3, ⟨?_, cT_lt hQ _⟩, TS_p hm0 hs⟩
  rw [q_if hQ (h01.trans f1) f3 (by omega), g3, f2]
  rfl
theorem c_if {L : Nat} {xs : Nat → Int32} {d b n g : Nat} {B T : Nat → Nat} {fp : Int32} {S0 : rS} {h : List qx_E} {a : Nat → Nat → Int32} {F k : Nat} (hT : TS h b B n S0 fp a) (hR : snd S0 → PL B n T a) (hg : RG h b g) (hF : snd S0 → fp = nI F ∧ rs_p S0 = F + 8 + 2 * k ∧ k < bu_U B (F + 6) 2) (hk : k < 65536) : wp_W L xs (d + 5) 73 0 (lv_args 0 [.ref g, .int (nI k)]) [] h (fun v h' => v = none ∧ TS h' b B n (rs_if B n T F k S0) fp a ∧ fr b h h') := c_ifK hT hR hg hF hk (fun h' h1 h2 => ⟨rfl, h1, h2⟩)
def rs_h1 (B : Nat → Nat) (n : Nat) (S : rS) : rS := rs_w (f_fitFile (nI (rs_iv B n 2 S)) == 1) 6 (rs_p S) (rs_is n 2 S)
def rs_h2 (B : Nat → Nat) (n : Nat) (T : Nat → Nat) (S : rS) : rS := rs_nc B n T true (rs_nc B n T false (rs_h1 B n S))
def rs_hd (B : Nat → Nat) (n : Nat) (T : Nat → Nat) (S : rS) : rS := rs_ifs B n T (rs_p S) (rs_iv B n 2 (rs_h2 B n T S)) 0 (rs_is n 2 (rs_h2 B n T S))
theorem sp_h2 {B : Nat → Nat} {n : Nat} {T : Nat → Nat} {S S' : rS} (e : rs_is n 2 (rs_h2 B n T S) = S') (h : snd S') : S' = .inl (rs_p S + 8) ∧ rs_p S + 8 ≤ n ∧ rs_iv B n 2 (rs_h2 B n T S) = bu_U B (rs_p S + 6) 2 ∧ snd S := by
  obtain ⟨a1, a2, a3⟩ := sd_isp e h
  have h2 := sd_is e h
  obtain ⟨b1, b2, b3⟩ := sp_nc (rfl : rs_h2 B n T S = _) h2
  have h3 := sd_nc (rfl : rs_h2 B n T S = _) h2
  obtain ⟨c1, c2, c3⟩ := sp_nc rfl h3
  have h4 := sd_nc rfl h3
  have d1 := (sd_wc rfl h4).2
  have h5 := sd_w rfl h4
  obtain ⟨d2, d3, d4⟩ := sd_isp rfl h5
  have e1 : rs_p (rs_h1 B n S) = rs_p S + 2 := by rw [rs_h1, d1, d4]; rfl
  have e2 : rs_p (rs_nc B n T false (rs_h1 B n S)) = rs_p S + 4 := by rw [c1, e1]; rfl
  have e3 : rs_p (rs_h2 B n T S) = rs_p S + 6 := by rw [b1, e2]; rfl
  rw [e3] at a2 a3
  refine ⟨a3, by omega, ?_, sd_is rfl h5⟩
  rw [iv_of e h, e3]
theorem sp_hd {B : Nat → Nat} {n : Nat} {T : Nat → Nat} {S S' : rS} (e : rs_hd B n T S = S') (h : snd S') : S' = .inl (rs_p S + 8 + 2 * bu_U B (rs_p S + 6) 2) ∧ rs_p S + 8 ≤ n ∧ snd S := by
  obtain ⟨h1, h2⟩ := sp_ifs e h
  obtain ⟨h3, h4, h5, h6⟩ := sp_h2 rfl h2
  rw [h3, h5] at h1
  exact ⟨h1, h4, h6⟩
set_option maxRecDepth 100000 in
theorem c_ifsL {L : Nat} {xs : Nat → Int32} {d b n g : Nat} {B T : Nat → Nat} {fp : Int32} {a : Nat → Nat → Int32} {F c : Nat} {h0 : List qx_E} {Q : Option Value → List qx_E → Prop} (hc9 : c < 65536) : ∀ j k S0 (h : List qx_E), TS h b B n S0 fp a → RG h b g → fr b h0 h → (snd S0 → PL B n T a ∧ fp = nI F ∧ c = bu_U B (F + 6) 2 ∧ rs_p S0 = F + 8 + 2 * k) → k + j = c → (∀ h', TS h' b B n (rs_ifs B n T F j k S0) fp a → fr b h0 h' → Q none h') → wp_W L xs (d + 6) 64 60 [(0, .ref g), (1, .int (nI c)), (2, .int (nI k))] [] h Q := by
  intro j
  induction j with
  | zero =>
    intro k S0 h hT hg hf hH hi hK
    refine wp_iload_n dq_64_60 rfl ?_
    refine wp_iload_n dq_64_61 rfl ?_
    refine wp_ic_ge (tgt := 86) dq_64_62 rfl (fun c1 => ?_) (fun c1 => absurd (nI_le (by omega) (by omega)) c1)
    exact wp_vre dq_64_86 rfl (hK h hT hf)
  | succ j ih =>
    intro k S0 h hT hg hf hH hi hK
    obtain ⟨s0, hb, hw, hm0, h00, hq0⟩ := TS_x hT
    rcases snd_or S0 with hs | ⟨e0, rfl⟩
    rotate_left
    · have hE := hK h (by rw [rs_ifs_e]; exact hT) hf
      refine wp_iload_n dq_64_60 rfl ?_
      refine wp_iload_n dq_64_61 rfl ?_
      refine wp_ic_ge (tgt := 86) dq_64_62 rfl (fun c1 => absurd c1 (nI_ge (by omega) (by omega))) (fun c1 => ?_)
      refine wp_aload_n dq_64_65 rfl ?_
      refine wp_getf dq_64_66 fl_64_26 hg.2 rfl ?_
      refine wp_cve0 dq_64_69 mt_64_69 (ob_of (tb_c2 hb)) ⟨by decide +kernel, by decide +kernel⟩ (Nat.le_of_ble_eq_true rfl) (Nat.le_of_ble_eq_true rfl) (c_soundT hT) ?_
      refine wp_if_eq (tgt := 86) dq_64_72 rfl (fun c2 => wp_vre dq_64_86 rfl hE) (fun c2 => absurd rfl c2)
    · skip
      refine wp_iload_n dq_64_60 rfl ?_
      refine wp_iload_n dq_64_61 rfl ?_
      refine wp_ic_ge (tgt := 86) dq_64_62 rfl (fun c1 => ?_) (fun c1 => ?_)
      · exact absurd c1 (nI_ge (by omega) (by omega))
      · refine wp_aload_n dq_64_65 rfl ?_
        refine wp_getf dq_64_66 fl_64_26 hg.2 rfl ?_
        refine wp_cve0 dq_64_69 mt_64_69 (ob_of (tb_c2 hb)) ⟨by decide +kernel, by decide +kernel⟩ (Nat.le_of_ble_eq_true rfl) (Nat.le_of_ble_eq_true rfl) (c_soundT hT) ?_
        refine wp_if_eq (tgt := 86) dq_64_72 rfl (fun c2 => ?_) (fun c2 => ?_)
        · exact absurd c2 (ok_1 hs)
        · refine wp_aload_n dq_64_75 rfl ?_
          refine wp_iload_n dq_64_76 rfl ?_
          refine wp_cv1 dq_64_77 mt_64_73 (ob_of hg.2) ⟨by decide +kernel, by decide +kernel⟩ (Nat.le_of_ble_eq_true rfl) (Nat.le_of_ble_eq_true rfl) (c_if (F := F) (k := k) hT (fun hq => (hH hq).1) hg (fun hq => ⟨(hH hq).2.1, (hH hq).2.2.2, by have := (hH hq).2.2.1; omega⟩) (by omega)) (fun v9 h9 q9 => ?_)
          obtain ⟨rfl, hT, hf9⟩ := q9
          have hg := RG_fr hg hf9
          have hf := fr_tr hf hf9
          clear hf9
          generalize hS1 : rs_if B n T F k S0 = S1 at hT
          obtain ⟨s1, hb, hw, hm1, h01, hq1⟩ := TS_x hT
          refine wp_iinc (y := ((nI k) + 1)) (lv' := [(0, .ref g), (1, .int (nI c)), (2, .int ((nI k) + 1))]) dq_64_80 rfl rfl (by decide) rfl ?_
          refine wp_goto (tgt := 60) dq_64_83 rfl ?_
          rw [nI_1]
          rw [rs_ifs_s, hS1] at hK
          refine ih (k + 1) S1 _ hT hg hf (fun hq => ?_) (by omega) hK
          obtain ⟨g1, g2, g3⟩ := sp_if hS1 hq
          obtain ⟨f1, f2, f3, f4⟩ := hH g3
          exact ⟨f1, f2, f3, by rw [g1, f4]; show F + 8 + 2 * k + 2 = F + 8 + 2 * (k + 1); omega⟩
theorem fit_b {x : Int32} : f_fitFile x = bI (f_fitFile x == 1) := bI_of (b_fitFile x) beq_iff_eq.symm
set_option maxRecDepth 100000 in
theorem c_hdK {L : Nat} {xs : Nat → Int32} {d b n g : Nat} {B T : Nat → Nat} {fp : Int32} {S0 : rS} {h : List qx_E} {a : Nat → Nat → Int32} {Q : Option Value → List qx_E → Prop} (hT : TS h b B n S0 fp a) (hR : snd S0 → PL B n T a) (hg : RG h b g) (hK : ∀ h' y, TS h' b B n (rs_hd B n T S0) y a → fr b h h' → (snd S0 → y = nI (rs_p S0)) → Q none h') : wp_W L xs (d + 6) 64 0 (lv_args 0 [.ref g]) [] h Q := by
  show wp_W L xs _ 64 0 [(0, .ref g)] [] h _
  obtain ⟨s0, hb, hw, hm0, h00, hq0⟩ := TS_x hT
  have hf : fr b h h := fr_rf
  refine wp_aload_n dq_64_0 rfl ?_
  refine wp_getf dq_64_1 fl_64_9 hg.2 rfl ?_
  refine wp_aload_n dq_64_4 rfl ?_
  refine wp_getf dq_64_5 fl_64_26 hg.2 rfl ?_
  refine wp_getf dq_64_8 fl_64_52 (tb_c2 hb) rfl ?_
  have hfy : snd S0 → s0 2 = nI (rs_p S0) := TS_p hm0
  generalize s0 2 = y9 at hfy ⊢
  refine wp_pT dq_64_11 fp_64_56 hT hf (fun h1 hT hf => ?_)
  have hg := RG_fr hg hf
  obtain ⟨s0, hb, hw, hm0, h00, hq0⟩ := TS_x hT
  refine wp_aload_n dq_64_14 rfl ?_
  refine wp_getf dq_64_15 fl_64_26 hg.2 rfl ?_
  refine wp_aload_n dq_64_18 rfl ?_
  refine wp_getf dq_64_19 fl_64_26 hg.2 rfl ?_
  refine wp_cv0 dq_64_22 mt_64_39 (ob_of (tb_c2 hb)) ⟨by decide +kernel, by decide +kernel⟩ (Nat.le_of_ble_eq_true rfl) (Nat.le_of_ble_eq_true rfl) (c_u2T hT) (fun v9 h9 q9 => ?_)
  obtain ⟨rfl, hT, hf9⟩ := q9
  have hg := RG_fr hg hf9
  have hf := fr_tr hf hf9
  clear hf9
  generalize hS1 : rs_is n 2 S0 = S1 at hT
  obtain ⟨s1, hb, hw, hm1, h01, hq1⟩ := TS_x hT
  refine wp_cse1 dq_64_25 (by decide +kernel) mt_64_59 (by decide +kernel) (Nat.le_of_ble_eq_true rfl) (Nat.le_of_ble_eq_true rfl) (c_fitFile ) ?_
  refine wp_bipush (x := 6) dq_64_28 rfl ?_
  refine wp_aload_n dq_64_30 rfl ?_
  refine wp_getf dq_64_31 fl_64_9 hg.2 rfl ?_
  refine wp_getf dq_64_34 fl_64_56 (tb_c0 hb) rfl ?_
  refine wp_cv3 dq_64_37 mt_64_35 (ob_of (tb_c2 hb)) ⟨by decide +kernel, by decide +kernel⟩ (Nat.le_of_ble_eq_true rfl) (Nat.le_of_ble_eq_true rfl) (c_wantB (c := (f_fitFile (nI (rs_iv B n 2 S0)) == 1)) (f := 6) (p := (rs_p S0)) hT (by decide) (fun hq => fit_b) (fun hq => h01.trans (hfy (sd_is hS1 hq)))) (fun v9 h9 q9 => ?_)
  obtain ⟨rfl, hT, hf9⟩ := q9
  have hg := RG_fr hg hf9
  have hf := fr_tr hf hf9
  clear hf9
  generalize hS2 : rs_w (f_fitFile (nI (rs_iv B n 2 S0)) == 1) 6 (rs_p S0) S1 = S2 at hT
  obtain ⟨s2, hb, hw, hm2, h02, hq2⟩ := TS_x hT
  refine wp_aload_n dq_64_40 rfl ?_
  refine wp_iconst (x := 0) dq_64_41 rfl ?_
  refine wp_cv1 dq_64_42 mt_64_65 (ob_of hg.2) ⟨by decide +kernel, by decide +kernel⟩ (Nat.le_of_ble_eq_true rfl) (Nat.le_of_ble_eq_true rfl) (c_nc (mz := false) hT (fun hq => hR (sd_is hS1 (sd_w hS2 hq))) hg) (fun v9 h9 q9 => ?_)
  obtain ⟨rfl, hT, hf9⟩ := q9
  have hg := RG_fr hg hf9
  have hf := fr_tr hf hf9
  clear hf9
  generalize hS3 : rs_nc B n T false S2 = S3 at hT
  obtain ⟨s3, hb, hw, hm3, h03, hq3⟩ := TS_x hT
  refine wp_aload_n dq_64_45 rfl ?_
  refine wp_iconst (x := 1) dq_64_46 rfl ?_
  refine wp_cv1 dq_64_47 mt_64_65 (ob_of hg.2) ⟨by decide +kernel, by decide +kernel⟩ (Nat.le_of_ble_eq_true rfl) (Nat.le_of_ble_eq_true rfl) (c_nc (mz := true) hT (fun hq => hR (sd_is hS1 (sd_w hS2 (sd_nc hS3 hq)))) hg) (fun v9 h9 q9 => ?_)
  obtain ⟨rfl, hT, hf9⟩ := q9
  have hg := RG_fr hg hf9
  have hf := fr_tr hf hf9
  clear hf9
  generalize hS4 : rs_nc B n T true S3 = S4 at hT
  obtain ⟨s4, hb, hw, hm4, h04, hq4⟩ := TS_x hT
  refine wp_aload_n dq_64_50 rfl ?_
  refine wp_getf dq_64_51 fl_64_26 hg.2 rfl ?_
  refine wp_cv0 dq_64_54 mt_64_39 (ob_of (tb_c2 hb)) ⟨by decide +kernel, by decide +kernel⟩ (Nat.le_of_ble_eq_true rfl) (Nat.le_of_ble_eq_true rfl) (c_u2T hT) (fun v9 h9 q9 => ?_)
  obtain ⟨rfl, hT, hf9⟩ := q9
  have hg := RG_fr hg hf9
  have hf := fr_tr hf hf9
  clear hf9
  generalize hS5 : rs_is n 2 S4 = S5 at hT
  obtain ⟨s5, hb, hw, hm5, h05, hq5⟩ := TS_x hT
  refine wp_istore_n (lv' := [(0, .ref g), (1, .int (nI (rs_iv B n 2 S4)))]) dq_64_57 (by decide) rfl ?_
  refine wp_iconst (x := 0) dq_64_58 rfl ?_
  refine wp_istore_n (lv' := [(0, .ref g), (1, .int (nI (rs_iv B n 2 S4))), (2, .int 0)]) dq_64_59 (by decide) rfl ?_
  have e2 : rs_h2 B n T S0 = S4 := by rw [rs_h2, rs_h1, hS1, hS2, hS3, hS4]
  refine c_ifsL (F := rs_p S0) (c := rs_iv B n 2 S4) (iv2_lt hT) (rs_iv B n 2 S4) 0 S5 h9 hT hg hf (fun hq => ?_) (by omega) (fun h' h1 h2 => hK h' y9 (by rw [rs_hd, e2, hS5]; exact h1) h2 hfy)
  have hq2 := sp_h2 (by rw [e2]; exact hS5) hq
  rw [e2] at hq2
  exact ⟨hR hq2.2.2.2, hfy hq2.2.2.2, hq2.2.2.1, by rw [hq2.1]; rfl⟩
