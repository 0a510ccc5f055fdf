theorem nc_7 {B : Nat → Nat} {n : Nat} {T : Nat → Nat} {S S' : rS} (e : rs_nc B n T false S = S') (h : snd S') : tg B T (rs_iv B n 2 S) = 7 := by
  have h1 := sd_w e h
  have h2 := (sd_wc rfl h1).1
  rw [Bool.false_and, Bool.false_or] at h2
  exact beq_iff_eq.mp h2
theorem cT_7 {B T : Nat → Nat} {i : Nat} (h : tg B T i = 7) : cT B T i = bu_U B (T i + 1) 2 := if_pos h
set_option maxRecDepth 100000 in
theorem c_mifI {L : Nat} {xs : Nat → Int32} {d n : Nat} {B T : Nat → Nat} {N : Nat → Int32} {z : rZ} {Q : Option Value → List qx_E → Prop} {F c k p ix : Nat} {y : Int32} (hc9 : c < 65536) (hP0 : PQ B n T N ∧ LK B T) (hp : p = F + 8 + 2 * k) (hpn : p ≤ n) (hE : ∀ i, i < k → tg B T (bu_U B (F + 8 + 2 * i) 2) = 7) : ∀ g i S0 (h : List qx_E), TR h B n S0 N z → (snd S0 → tg B T ix = 7) → i + g = k → (∀ h', TR h' B n (rs_ifL B T F (cT B T ix) p g i S0) N z → wp_W L xs (d + 4) 158 90 [(0, .ref 13), (1, .int (nI c)), (2, .int y), (3, .int (nI k))] [] h' Q) → wp_W L xs (d + 4) 158 39 [(0, .ref 13), (1, .int (nI c)), (2, .int y), (3, .int (nI k)), (4, .int (nI p)), (5, .int (nI ix)), (6, .int (nI (F + 8 + 2 * i)))] [] h Q := by
  have hn9 := hP0.1.1
  intro g
  induction g with
  | zero =>
    intro i S0 h hT hX hi hK
    refine wp_iload dq_158_39 rfl ?_
    refine wp_iload dq_158_41 rfl ?_
    refine wp_ic_geN (tgt := 90) dq_158_43 rfl (by omega) (by omega) (fun c1 => ?_) (fun c1 => absurd c1 (by omega))
    refine wp_fg (l := [(0, .ref 13), (1, .int (nI c)), (2, .int y), (3, .int (nI k))]) (e := [(4, .int (nI p)), (5, .int (nI ix)), (6, .int (nI (F + 8 + 2 * i)))]) rfl rfl rfl ?_
    exact hK h hT
  | succ g ih =>
    intro i S0 h hT hX hi hK
    obtain ⟨s0, fa0, hb, hz0, hc0, hp0⟩ := TR_x hT
    refine wp_iload dq_158_39 rfl ?_
    refine wp_iload dq_158_41 rfl ?_
    refine wp_ic_geN (tgt := 90) dq_158_43 rfl (by omega) (by omega) (fun c1 => ?_) (fun c1 => ?_)
    · exact absurd c1 (by omega)
    · refine wp_aload_n dq_158_46 rfl ?_
      refine wp_getf (w := .int (s0 4)) dq_158_47 fl_158_116 (mw_0 hb) rfl ?_
      refine wp_if_ne (tgt := 90) dq_158_50 rfl (fun c2 => ?_) (fun c2 => ?_)
      · refine wp_fg (l := [(0, .ref 13), (1, .int (nI c)), (2, .int y), (3, .int (nI k))]) (e := [(4, .int (nI p)), (5, .int (nI ix)), (6, .int (nI (F + 8 + 2 * i)))]) rfl rfl rfl ?_
        refine hK _ ?_
        obtain ⟨e0, rfl⟩ : ∃ e, S0 = .inr e := by
          rcases snd_or S0 with r | r
          · exact absurd (hc0.mpr r) c2
          · exact r
        rw [rs_ifL_e]
        exact hT
      · have hj53 : ∀ h, TR h B n (rs_w (!(sm B T (x_if B T F i) (cT B T ix))) 9 p S0) N z → wp_W L xs (d + 4) 158 84 [(0, .ref 13), (1, .int (nI c)), (2, .int y), (3, .int (nI k)), (4, .int (nI p)), (5, .int (nI ix)), (6, .int (nI (F + 8 + 2 * i)))] ([]) h Q := by
          intro h hT
          generalize hS1 : rs_w (!(sm B T (x_if B T F i) (cT B T ix))) 9 p S0 = S1 at hT
          obtain ⟨s1, fa1, hb, hz1, hc1, hp1⟩ := TR_x hT
          refine wp_iinc (y := nI ((F + 8 + 2 * i) + 2)) (lv' := [(0, .ref 13), (1, .int (nI c)), (2, .int y), (3, .int (nI k)), (4, .int (nI p)), (5, .int (nI ix)), (6, .int (nI ((F + 8 + 2 * i) + 2)))]) dq_158_84 rfl (nI_add _ _) (by decide) rfl ?_
          refine wp_goto (tgt := 39) dq_158_87 rfl ?_
          rw [show F + 8 + 2 * i + 2 = F + 8 + 2 * (i + 1) by omega]
          exact ih (i + 1) S1 _ hT (fun hq => hX (sd_w hS1 hq)) (by omega) (by rw [← hS1, ← rs_ifL_s]; exact hK)
        refine wp_aload_n dq_158_53 rfl ?_
        refine wp_aload_n dq_158_54 rfl ?_
        refine wp_iload dq_158_55 rfl ?_
        have hq0 : snd S0 := hc0.mp c2
        have h7 := hX hq0
        have hP := hP0
        have h1 : tg B T (cT B T ix) = 1 := by rw [cT_7 h7]; exact hP.2 _ h7
        have hE1 := hE i (by omega)
        have h2 : tg B T (x_if B T F i) = 1 := by unfold x_if; rw [cT_7 hE1]; exact hP.2 _ hE1
        have ho7 := c_operand (L := L) (xs := xs) (d := d + 1) (TR_A hT) hP.1 (i := ix) (by omega)
        rw [← cT_7 h7] at ho7
        refine wp_cve1 dq_158_57 mt_158_148 (ob_of (mw_0 hb)) ⟨by decide +kernel, by decide +kernel⟩ (Nat.le_of_ble_eq_true rfl) (Nat.le_of_ble_eq_true rfl) (ho7) ?_
        refine wp_aload_n dq_158_60 rfl ?_
        refine wp_aload_n dq_158_61 rfl ?_
        refine wp_iload dq_158_62 rfl ?_
        refine wp_cve1 dq_158_64 mt_158_42 (ob_of (mw_0 hb)) ⟨by decide +kernel, by decide +kernel⟩ (Nat.le_of_ble_eq_true rfl) (Nat.le_of_ble_eq_true rfl) (c_two (d := d + 2) (TR_A hT) (by omega)) ?_
        have ho8 := c_operand (L := L) (xs := xs) (d := d + 1) (TR_A hT) hP.1 (i := (bu_U B (F + 8 + 2 * i) 2)) (by omega)
        rw [← cT_7 hE1] at ho8
        refine wp_cve1 dq_158_67 mt_158_148 (ob_of (mw_0 hb)) ⟨by decide +kernel, by decide +kernel⟩ (Nat.le_of_ble_eq_true rfl) (Nat.le_of_ble_eq_true rfl) (ho8) ?_
        refine wp_cve2 dq_158_70 mt_158_180 (ob_of (mw_0 hb)) ⟨by decide +kernel, by decide +kernel⟩ (Nat.le_of_ble_eq_true rfl) (Nat.le_of_ble_eq_true rfl) (c_alike (d := d) (TR_A hT) hP.1 h1 h2) ?_
        refine wp_if_eqB (tgt := 84) dq_158_73 rfl (fun c3 => ?_) (fun c3 => ?_)
        · exact hj53 _ (by rw [w_T (fun hq => by rw [show sm B T (x_if B T F i) (cT B T ix) = false from decide_eq_false (fun r => of_decide_eq_false c3 r.2.2.symm)]; rfl)]; exact hT)
        · refine wp_aload_n dq_158_76 rfl ?_
          refine wp_bipush (x := nI 9) dq_158_77 rfl ?_
          refine wp_iload dq_158_79 rfl ?_
          refine wp_cv2 (P := fun v h' => v = none ∧ TR h' B n (rs_w false 9 p S0) N z) dq_158_81 mt_158_122 (ob_of (mw_0 hb)) ⟨by decide +kernel, by decide +kernel⟩ (Nat.le_of_ble_eq_true rfl) (Nat.le_of_ble_eq_true rfl) (c_fail hT (by decide) (fun hq => rfl) (fun h' k1 => ⟨rfl, k1⟩)) (fun v9 h9 q9 => ?_)
          obtain ⟨rfl, hT⟩ := q9
          exact hj53 _ (by rw [w_F (fun hq => by rw [show sm B T (x_if B T F i) (cT B T ix) = true from decide_eq_true ⟨h2, h1, (of_decide_eq_true c3).symm⟩]; rfl)]; exact hT)
set_option maxRecDepth 100000 in
theorem c_mifL {L : Nat} {xs : Nat → Int32} {d n : Nat} {B T : Nat → Nat} {N : Nat → Int32} {z : rZ} {Q : Option Value → List qx_E → Prop} {F c : Nat} {y : Int32} (hc9 : c < 65536) : ∀ j k S0 (h : List qx_E), TR h B n S0 N z → (snd S0 → (PQ B n T N ∧ LK B T) ∧ rs_p S0 = F + 8 + 2 * k ∧ (∀ i, i < k → tg B T (bu_U B (F + 8 + 2 * i) 2) = 7) ∧ y = nI (F + 8)) → k + j = c → (∀ h', TR h' B n (rs_ifs B n T F j k S0) N z → wp_W L xs (d + 6) 158 96 [(0, .ref 13), (1, .int (nI c)), (2, .int y)] [] h' Q) → wp_W L xs (d + 6) 158 12 [(0, .ref 13), (1, .int (nI c)), (2, .int y), (3, .int (nI k))] [] h Q := by
  intro j
  induction j with
  | zero =>
    intro k S0 h hT hI hi hK
    refine wp_iload_n dq_158_12 rfl ?_
    refine wp_iload_n dq_158_13 rfl ?_
    refine wp_ic_geN (tgt := 96) dq_158_14 rfl (by omega) (by omega) (fun c1 => ?_) (fun c1 => absurd c1 (by omega))
    refine wp_fg (l := [(0, .ref 13), (1, .int (nI c)), (2, .int y)]) (e := [(3, .int (nI k))]) rfl rfl rfl ?_
    exact hK h hT
  | succ j ih =>
    intro k S0 h hT hI hi hK
    rcases snd_or S0 with hs | ⟨e, rfl⟩
    · obtain ⟨hP, hp9, hE, hy⟩ := hI hs
      have hn9 := hP.1.1
      have hpn := TR_pn hT
      subst hy
      rw [rs_ifs_s] at hK
      obtain ⟨s0, fa0, hb, hz0, hc0, hp0⟩ := TR_x hT
      obtain ⟨s0, fa0, hb, hz0, hc0, hp0⟩ := TR_x hT
      have ho := mw_0 hb
      rw [hp0 hs, hc0.mpr hs] at ho
      refine wp_iload_n dq_158_12 rfl ?_
      refine wp_iload_n dq_158_13 rfl ?_
      refine wp_ic_geN (tgt := 96) dq_158_14 rfl (by omega) (by omega) (fun c1 => ?_) (fun c1 => ?_)
      · exact absurd c1 (by omega)
      · refine wp_aload_n dq_158_17 rfl ?_
        refine wp_getf (w := .int (nI 0)) dq_158_18 fl_158_116 ho rfl ?_
        refine wp_if_neN (tgt := 96) dq_158_21 rfl (by omega) (fun c9 => absurd c9 (by decide)) (fun _ => ?_)
        refine wp_aload_n dq_158_24 rfl ?_
        refine wp_getf (w := .int (nI (rs_p S0))) dq_158_25 fl_158_119 ho rfl ?_
        refine wp_istore (lv' := [(0, .ref 13), (1, .int (nI c)), (2, .int (nI (F + 8))), (3, .int (nI k)), (4, .int (nI (rs_p S0)))]) dq_158_28 (by decide) rfl ?_
        refine wp_aload_n dq_158_30 rfl ?_
        refine wp_cv0 (P := fun v h' => v = some (.int (nI (rs_iv B n 2 S0))) ∧ TR h' B n (rs_nc B n T false S0) N z) dq_158_31 mt_158_177 (ob_of (mw_0 hb)) ⟨by decide +kernel, by decide +kernel⟩ (Nat.le_of_ble_eq_true rfl) (Nat.le_of_ble_eq_true rfl) (c_named (d := d) hT (fun hq => hP) (fun h' k1 => ⟨rfl, k1⟩)) (fun v9 h9 q9 => ?_)
        obtain ⟨rfl, hT⟩ := q9
        generalize hS1 : rs_nc B n T false S0 = S1 at hT
        obtain ⟨s1, fa1, hb, hz1, hc1, hp1⟩ := TR_x hT
        have hv : rs_iv B n 2 S0 < 65536 := TR_v hT
        refine wp_istore (lv' := [(0, .ref 13), (1, .int (nI c)), (2, .int (nI (F + 8))), (3, .int (nI k)), (4, .int (nI (rs_p S0))), (5, .int (nI (rs_iv B n 2 S0)))]) dq_158_34 (by decide) rfl ?_
        refine wp_iload_n dq_158_36 rfl ?_
        refine wp_istore (lv' := [(0, .ref 13), (1, .int (nI c)), (2, .int (nI (F + 8))), (3, .int (nI k)), (4, .int (nI (rs_p S0))), (5, .int (nI (rs_iv B n 2 S0))), (6, .int (nI (F + 8)))]) dq_158_37 (by decide) rfl ?_
        refine c_mifI (d := d + 2) (ix := rs_iv B n 2 S0) hc9 hP hp9 hpn hE k 0 S1 _ hT (fun hq => nc_7 hS1 hq) (by omega) (fun h hT => ?_)
        have e9 : rs_ifL B T F (cT B T (rs_iv B n 2 S0)) (rs_p S0) k 0 S1 = rs_if B n T F k S0 := by rw [rs_if, hS1]
        rw [e9] at hT
        refine wp_iinc (y := nI (k + 1)) (lv' := [(0, .ref 13), (1, .int (nI c)), (2, .int (nI (F + 8))), (3, .int (nI (k + 1)))]) dq_158_90 rfl (nI_add _ _) (by decide) rfl ?_
        refine wp_goto (tgt := 12) dq_158_93 rfl ?_
        refine ih (k + 1) _ _ hT (fun hq => ?_) (by omega) hK
        obtain ⟨g1, g2, g3⟩ := sp_if rfl hq
        have g4 := ifL_id e9 hq
        rw [g4] at hq
        refine ⟨hP, by rw [g1]; show rs_p S0 + 2 = _; omega, fun i hi => ?_, rfl⟩
        rcases Nat.lt_or_ge i k with r | r
        · exact hE i r
        · rw [show i = k by omega, ← hp9, ← (sp_nc hS1 hq).2.2]
          exact nc_7 hS1 hq
    · obtain ⟨s0, fa0, hb, -, hc0, -⟩ := TR_x hT
      rw [rs_ifs_e] at hK
      refine wp_iload_n dq_158_12 rfl ?_
      refine wp_iload_n dq_158_13 rfl ?_
      refine wp_ic_geN (tgt := 96) dq_158_14 rfl (by omega) (by omega) (fun c1 => absurd c1 (by omega)) (fun c1 => ?_)
      refine wp_aload_n dq_158_17 rfl ?_
      refine wp_getf dq_158_18 fl_158_116 (mw_0 hb) rfl ?_
      refine wp_if_ne (tgt := 96) dq_158_21 rfl (fun c1 => ?_) (fun c1 => absurd (hc0.mp c1) not_snd)
      refine wp_fg (l := [(0, .ref 13), (1, .int (nI c)), (2, .int y)]) (e := [(3, .int (nI k))]) rfl rfl rfl ?_
      exact hK h hT
set_option maxRecDepth 100000 in
theorem c_mifs {L : Nat} {xs : Nat → Int32} {d n : Nat} {B T : Nat → Nat} {N : Nat → Int32} {z : rZ} {S0 : rS} {h : List qx_E} {Q : Option Value → List qx_E → Prop} (hT : TR h B n S0 N z) {F : Nat} (hP : snd S0 → (PQ B n T N ∧ LK B T) ∧ rs_p S0 = F + 6) (hK : ∀ h' y, TR h' B n (rs_ifs B n T F (rs_iv B n 2 S0) 0 (rs_is n 2 S0)) (upd (upd N 5 (nI (rs_iv B n 2 S0))) 6 y) z → (snd (rs_ifs B n T F (rs_iv B n 2 S0) 0 (rs_is n 2 S0)) → y = nI (F + 8)) → Q none h') : wp_W L xs (d + 6) 158 0 (lv_args 0 [.ref 13]) [] h Q := by
  show wp_W L xs _ 158 0 [(0, .ref 13)] [] h Q
  obtain ⟨s0, fa0, hb, hz0, hc0, hp0⟩ := TR_x hT
  refine wp_aload_n dq_158_0 rfl ?_
  refine wp_cv0 (P := fun v h' => v = some (.int (nI (rs_iv B n 2 S0))) ∧ TR h' B n (rs_is n 2 S0) N z) dq_158_1 mt_158_134 (ob_of (mw_0 hb)) ⟨by decide +kernel, by decide +kernel⟩ (Nat.le_of_ble_eq_true rfl) (Nat.le_of_ble_eq_true rfl) (c_u2 hT (fun h' k1 => ⟨rfl, k1⟩)) (fun v9 h9 q9 => ?_)
  obtain ⟨rfl, hT⟩ := q9
  generalize hS1 : rs_is n 2 S0 = S1 at hT
  obtain ⟨s1, fa1, hb, hz1, hc1, hp1⟩ := TR_x hT
  have hv1 : rs_iv B n 2 S0 < 65536 := TR_v hT
  refine wp_istore_n (lv' := [(0, .ref 13), (1, .int (nI (rs_iv B n 2 S0)))]) dq_158_4 (by decide) rfl ?_
  refine wp_aload_n dq_158_5 rfl ?_
  refine wp_getf (w := .int (s1 3)) dq_158_6 fl_158_119 (mw_0 hb) rfl ?_
  refine wp_istore_n (lv' := [(0, .ref 13), (1, .int (nI (rs_iv B n 2 S0))), (2, .int (s1 3))]) dq_158_9 (by decide) rfl ?_
  refine wp_iconst (x := nI 0) dq_158_10 rfl ?_
  refine wp_istore_n (lv' := [(0, .ref 13), (1, .int (nI (rs_iv B n 2 S0))), (2, .int (s1 3)), (3, .int (nI 0))]) dq_158_11 (by decide) rfl ?_
  refine c_mifL (T := T) (F := F) hv1 (rs_iv B n 2 S0) 0 S1 _ hT (fun hq => ?_) (by omega) (fun h hT => ?_)
  · obtain ⟨g1, g2⟩ := hP (sd_is hS1 hq)
    obtain ⟨g3, g4, g5⟩ := sd_isp hS1 hq
    have g6 : rs_p S1 = F + 8 := by rw [g5]; show rs_p S0 + 2 = _; omega
    exact ⟨g1, g6, fun i hi => by omega, by rw [hp1 hq, g6]⟩
  obtain ⟨s2, fa2, hb, -⟩ := TR_x hT
  refine wp_aload_n dq_158_96 rfl ?_
  refine wp_getf (w := .ref 15) dq_158_97 fl_158_13 (mw_0 hb) rfl ?_
  refine wp_iconst (x := nI 5) dq_158_100 rfl ?_
  refine wp_iload_n dq_158_101 rfl ?_
  refine wp_tn dq_158_102 (by omega) hT (fun h hT => ?_)
  obtain ⟨s2, fa2, hb, -⟩ := TR_x hT
  refine wp_aload_n dq_158_103 rfl ?_
  refine wp_getf (w := .ref 15) dq_158_104 fl_158_13 (mw_0 hb) rfl ?_
  refine wp_bipush (x := nI 6) dq_158_107 rfl ?_
  refine wp_iload_n dq_158_109 rfl ?_
  refine wp_tn dq_158_110 (by omega) hT (fun h hT => ?_)
  obtain ⟨s2, fa2, hb, -⟩ := TR_x hT
  refine wp_vre dq_158_111 rfl (hK _ _ (by rw [hS1]; exact hT) (fun hq => ?_))
  rw [hS1] at hq
  have hq1 := (sp_ifs rfl hq).2
  obtain ⟨g3, g4, g5⟩ := sd_isp hS1 hq1
  have g7 := (hP (sd_is hS1 hq1)).2
  rw [hp1 hq1, g5]
  show nI (rs_p S0 + 2) = _
  rw [g7]
