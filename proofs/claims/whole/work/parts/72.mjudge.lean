theorem wp_ic_neBB {L : Nat} {xs : Nat → Int32} {d m pc tgt : Nat} {off : Int} {a b : Bool} {lv : qx_L} {r : List Value} {h : List qx_E} {Q : Option Value → List qx_E → Prop} (hd : decode (qx_code m) pc = .ok (.if_icmp .ne off, 3)) (ht : (pc : Int) + off = (tgt : Int)) (kt : ¬ a = b → wp_W L xs d m tgt lv r h Q) (kf : a = b → wp_W L xs d m (pc + 3) lv r h Q) : wp_W L xs d m pc lv (.int (bI b) :: .int (bI a) :: r) h Q := wp_ic_ne hd ht (fun c => kt (fun q => c ((bI_e a b).mpr q))) (fun c => kf ((bI_e a b).mp c))
def rs_J (B T : Nat → Nat) (kd nm ty p : Nat) (S : rS) : rS := rs_w (tg B T ty == 1 && (if kd = 1 then k_mt B T ty else k_ft B T ty)) 8 (p + 2) (rs_w ((decide (kd = 1) && (sp B T nm 14 || sp B T nm 15)) || (tg B T nm == 1 && k_mm B T nm)) 7 p (rs_w (tg B T ty == 1) 5 (p + 2) (rs_w (tg B T nm == 1) 5 p S)))
theorem J_nt {B : Nat → Nat} {n : Nat} {T : Nat → Nat} {kd p : Nat} {S : rS} (hp : snd S → rs_p S = p) : rs_J B T kd (rs_iv B n 2 S) (rs_iv B n 2 (rs_is n 2 S)) p (rs_is n 2 (rs_is n 2 S)) = rs_nt B n T kd S := by
  cases S with
  | inl q =>
    have : q = p := hp (snd_l q)
    subst this
    rfl
  | inr e => rfl
set_option maxRecDepth 100000 in
theorem c_judge {L : Nat} {xs : Nat → Int32} {d n : Nat} {B T : Nat → Nat} {N : Nat → Int32} {z : rZ} {S0 : rS} {h : List qx_E} {Q : Option Value → List qx_E → Prop} {kind kd nm ty p : Nat} {x : Int32} (hT : TR h B n S0 N z) (hk : (kind = 100 ∧ kd = 0) ∨ (kind = 230 ∧ kd = 1) ∨ (kind = 360 ∧ kd = 2)) (hx : snd S0 → x = nI p ∧ p < 1000 ∧ PQ B n T N) (hnm : nm < 65536) (hty : ty < 65536) (hK : ∀ h', TR h' B n (rs_J B T kd nm ty p S0) N z → Q none h') : wp_W L xs (d + 5) 163 0 (lv_args 0 [.ref 13, .int (nI kind), .int x, .int (nI nm), .int (nI ty)]) [] h Q := by
  obtain ⟨s0, fa0, hb, -, hc0, -⟩ := TR_x hT
  cases S0 with
  | inl p0 =>
    obtain ⟨rfl, hp9, hP⟩ := hx (snd_l p0)
    show wp_W L xs _ 163 0 [(0, .ref 13), (1, .int (nI kind)), (2, .int (nI p)), (3, .int (nI nm)), (4, .int (nI ty))] [] h Q
    refine wp_aload_n dq_163_0 rfl ?_
    refine wp_getf (w := .int (s0 4)) dq_163_1 fl_163_116 (mw_0 hb) rfl ?_
    refine wp_if_eq (tgt := 8) dq_163_4 rfl (fun c1 => ?_) (fun c1 => ?_)
    · refine wp_aload_n dq_163_8 rfl ?_
      refine wp_iload_n dq_163_9 rfl ?_
      have ht10 := PG_tg hP.2.1 nm
      refine wp_cve1 dq_163_10 mt_163_138 (ob_of (mw_0 hb)) ⟨by decide +kernel, by decide +kernel⟩ (Nat.le_of_ble_eq_true rfl) (Nat.le_of_ble_eq_true rfl) (c_tag (d := d + 3) (TR_A hT) hP (by omega)) ?_
      refine wp_iconst (x := nI 1) dq_163_13 rfl ?_
      refine wp_ic_eqN (tgt := 26) dq_163_14 rfl (by omega) (by omega) (fun c2 => ?_) (fun c2 => ?_)
      · refine wp_aload_n dq_163_26 rfl ?_
        refine wp_iload dq_163_27 rfl ?_
        have ht29 := PG_tg hP.2.1 ty
        refine wp_cve1 dq_163_29 mt_163_138 (ob_of (mw_0 hb)) ⟨by decide +kernel, by decide +kernel⟩ (Nat.le_of_ble_eq_true rfl) (Nat.le_of_ble_eq_true rfl) (c_tag (d := d + 3) (TR_A hT) hP (by omega)) ?_
        refine wp_iconst (x := nI 1) dq_163_32 rfl ?_
        refine wp_ic_eqN (tgt := 47) dq_163_33 rfl (by omega) (by omega) (fun c3 => ?_) (fun c3 => ?_)
        · refine wp_aload_n dq_163_47 rfl ?_
          refine wp_iload_n dq_163_48 rfl ?_
          refine wp_cve1 dq_163_49 mt_163_157 (ob_of (mw_0 hb)) ⟨by decide +kernel, by decide +kernel⟩ (Nat.le_of_ble_eq_true rfl) (Nat.le_of_ble_eq_true rfl) (c_ism (d := d + 1) (TR_A hT) hP c2) ?_
          refine wp_if_neB (tgt := 82) dq_163_52 rfl (fun c4 => ?_) (fun c4 => ?_)
          · refine wp_iload_n dq_163_82 rfl ?_
            refine wp_sipush (x := nI 230) dq_163_83 rfl ?_
            refine wp_ic_neN (tgt := 101) dq_163_86 rfl (by omega) (by omega) (fun c5 => ?_) (fun c5 => ?_)
            · refine wp_aload_n dq_163_101 rfl ?_
              refine wp_iload dq_163_102 rfl ?_
              refine wp_cve1 dq_163_104 mt_163_154 (ob_of (mw_0 hb)) ⟨by decide +kernel, by decide +kernel⟩ (Nat.le_of_ble_eq_true rfl) (Nat.le_of_ble_eq_true rfl) (c_isft (d := d + 1) (TR_A hT) hP c3) ?_
              refine wp_if_neB (tgt := 119) dq_163_107 rfl (fun c6 => ?_) (fun c6 => ?_)
              · have k9 : ¬ kd = 1 := by omega
                exact wp_vre dq_163_119 rfl (hK _ (by rw [show rs_J B T kd nm ty p (.inl p0) = .inl p0 by simp [rs_J, rs_w, sp, c2, c3, c4, c6, k9]]; exact hT))
              · refine wp_aload_n dq_163_110 rfl ?_
                refine wp_bipush (x := nI 8) dq_163_111 rfl ?_
                refine wp_iload_n dq_163_113 rfl ?_
                refine wp_iconst (x := nI 2) dq_163_114 rfl ?_
                refine wp_iaddN dq_163_115 ?_
                refine wp_cv2 (P := fun v h' => v = none ∧ TR h' B n (.inr (8, (p + 2))) N z) dq_163_116 mt_163_122 (ob_of (mw_0 hb)) ⟨by decide +kernel, by decide +kernel⟩ (Nat.le_of_ble_eq_true rfl) (Nat.le_of_ble_eq_true rfl) (c_fail hT (by decide) (fun hq => rfl) (fun h' k1 => ⟨rfl, k1⟩)) (fun v9 h9 q9 => ?_)
                obtain ⟨rfl, hT⟩ := q9
                have k9 : ¬ kd = 1 := by omega
                exact wp_vre dq_163_119 rfl (hK _ (by rw [show rs_J B T kd nm ty p (.inl p0) = .inr (8, (p + 2)) by simp [rs_J, rs_w, sp, c2, c3, c4, c6, k9]]; exact hT))
            · refine wp_aload_n dq_163_89 rfl ?_
              refine wp_iload dq_163_90 rfl ?_
              refine wp_cve1 dq_163_92 mt_163_163 (ob_of (mw_0 hb)) ⟨by decide +kernel, by decide +kernel⟩ (Nat.le_of_ble_eq_true rfl) (Nat.le_of_ble_eq_true rfl) (c_ismt (d := d + 1) (TR_A hT) hP c3) ?_
              refine wp_if_neB (tgt := 119) dq_163_95 rfl (fun c7 => ?_) (fun c7 => ?_)
              · have k9 : kd = 1 := by omega
                exact wp_vre dq_163_119 rfl (hK _ (by rw [show rs_J B T kd nm ty p (.inl p0) = .inl p0 by simp [rs_J, rs_w, sp, c2, c3, c4, c7, k9]]; exact hT))
              · refine wp_goto (tgt := 110) dq_163_98 rfl ?_
                refine wp_aload_n dq_163_110 rfl ?_
                refine wp_bipush (x := nI 8) dq_163_111 rfl ?_
                refine wp_iload_n dq_163_113 rfl ?_
                refine wp_iconst (x := nI 2) dq_163_114 rfl ?_
                refine wp_iaddN dq_163_115 ?_
                refine wp_cv2 (P := fun v h' => v = none ∧ TR h' B n (.inr (8, (p + 2))) N z) dq_163_116 mt_163_122 (ob_of (mw_0 hb)) ⟨by decide +kernel, by decide +kernel⟩ (Nat.le_of_ble_eq_true rfl) (Nat.le_of_ble_eq_true rfl) (c_fail hT (by decide) (fun hq => rfl) (fun h' k1 => ⟨rfl, k1⟩)) (fun v9 h9 q9 => ?_)
                obtain ⟨rfl, hT⟩ := q9
                have k9 : kd = 1 := by omega
                exact wp_vre dq_163_119 rfl (hK _ (by rw [show rs_J B T kd nm ty p (.inl p0) = .inr (8, (p + 2)) by simp [rs_J, rs_w, sp, c2, c3, c4, c7, k9]]; exact hT))
          · refine wp_iload_n dq_163_55 rfl ?_
            refine wp_sipush (x := nI 230) dq_163_56 rfl ?_
            refine wp_ic_neN (tgt := 72) dq_163_59 rfl (by omega) (by omega) (fun c8 => ?_) (fun c8 => ?_)
            · refine wp_aload_n dq_163_72 rfl ?_
              refine wp_bipush (x := nI 7) dq_163_73 rfl ?_
              refine wp_iload_n dq_163_75 rfl ?_
              refine wp_cv2 (P := fun v h' => v = none ∧ TR h' B n (.inr (7, p)) N z) dq_163_76 mt_163_122 (ob_of (mw_0 hb)) ⟨by decide +kernel, by decide +kernel⟩ (Nat.le_of_ble_eq_true rfl) (Nat.le_of_ble_eq_true rfl) (c_fail hT (by decide) (fun hq => rfl) (fun h' k1 => ⟨rfl, k1⟩)) (fun v9 h9 q9 => ?_)
              obtain ⟨rfl, hT⟩ := q9
              refine wp_goto (tgt := 119) dq_163_79 rfl ?_
              have k9 : ¬ kd = 1 := by omega
              exact wp_vre dq_163_119 rfl (hK _ (by rw [show rs_J B T kd nm ty p (.inl p0) = .inr (7, p) by simp [rs_J, rs_w, sp, c2, c3, c4, k9]]; exact hT))
            · refine wp_aload_n dq_163_62 rfl ?_
              refine wp_iload_n dq_163_63 rfl ?_
              have hk12 := kn_12 (tx B T nm)
              refine wp_cve1 dq_163_64 mt_163_160 (ob_of (mw_0 hb)) ⟨by decide +kernel, by decide +kernel⟩ (Nat.le_of_ble_eq_true rfl) (Nat.le_of_ble_eq_true rfl) (c_kn (d := d) (TR_A hT) hP c2) ?_
              refine wp_bipush (x := nI 11) dq_163_67 rfl ?_
              refine wp_ic_geN (tgt := 82) dq_163_69 rfl (by omega) (by omega) (fun c9 => ?_) (fun c9 => ?_)
              · refine wp_iload_n dq_163_82 rfl ?_
                refine wp_sipush (x := nI 230) dq_163_83 rfl ?_
                refine wp_ic_neN (tgt := 101) dq_163_86 rfl (by omega) (by omega) (fun c10 => ?_) (fun c10 => ?_)
                · exact absurd c10 (by omega)
                · refine wp_aload_n dq_163_89 rfl ?_
                  refine wp_iload dq_163_90 rfl ?_
                  refine wp_cve1 dq_163_92 mt_163_163 (ob_of (mw_0 hb)) ⟨by decide +kernel, by decide +kernel⟩ (Nat.le_of_ble_eq_true rfl) (Nat.le_of_ble_eq_true rfl) (c_ismt (d := d + 1) (TR_A hT) hP c3) ?_
                  refine wp_if_neB (tgt := 119) dq_163_95 rfl (fun c11 => ?_) (fun c11 => ?_)
                  · have k9 : kd = 1 := by omega
                    have j9 : tx B T nm = wd 14 ∨ tx B T nm = wd 15 := (show kn (tx B T nm) = 11 ∨ kn (tx B T nm) = 12 by omega).imp kn_11.mp kn_12i.mp
                    exact wp_vre dq_163_119 rfl (hK _ (by rw [show rs_J B T kd nm ty p (.inl p0) = .inl p0 by simp [rs_J, rs_w, sp, c2, c3, c4, c11, k9, j9]]; exact hT))
                  · refine wp_goto (tgt := 110) dq_163_98 rfl ?_
                    refine wp_aload_n dq_163_110 rfl ?_
                    refine wp_bipush (x := nI 8) dq_163_111 rfl ?_
                    refine wp_iload_n dq_163_113 rfl ?_
                    refine wp_iconst (x := nI 2) dq_163_114 rfl ?_
                    refine wp_iaddN dq_163_115 ?_
                    refine wp_cv2 (P := fun v h' => v = none ∧ TR h' B n (.inr (8, (p + 2))) N z) dq_163_116 mt_163_122 (ob_of (mw_0 hb)) ⟨by decide +kernel, by decide +kernel⟩ (Nat.le_of_ble_eq_true rfl) (Nat.le_of_ble_eq_true rfl) (c_fail hT (by decide) (fun hq => rfl) (fun h' k1 => ⟨rfl, k1⟩)) (fun v9 h9 q9 => ?_)
                    obtain ⟨rfl, hT⟩ := q9
                    have k9 : kd = 1 := by omega
                    have j9 : tx B T nm = wd 14 ∨ tx B T nm = wd 15 := (show kn (tx B T nm) = 11 ∨ kn (tx B T nm) = 12 by omega).imp kn_11.mp kn_12i.mp
                    exact wp_vre dq_163_119 rfl (hK _ (by rw [show rs_J B T kd nm ty p (.inl p0) = .inr (8, (p + 2)) by simp [rs_J, rs_w, sp, c2, c3, c4, c11, k9, j9]]; exact hT))
              · refine wp_aload_n dq_163_72 rfl ?_
                refine wp_bipush (x := nI 7) dq_163_73 rfl ?_
                refine wp_iload_n dq_163_75 rfl ?_
                refine wp_cv2 (P := fun v h' => v = none ∧ TR h' B n (.inr (7, p)) N z) dq_163_76 mt_163_122 (ob_of (mw_0 hb)) ⟨by decide +kernel, by decide +kernel⟩ (Nat.le_of_ble_eq_true rfl) (Nat.le_of_ble_eq_true rfl) (c_fail hT (by decide) (fun hq => rfl) (fun h' k1 => ⟨rfl, k1⟩)) (fun v9 h9 q9 => ?_)
                obtain ⟨rfl, hT⟩ := q9
                refine wp_goto (tgt := 119) dq_163_79 rfl ?_
                have k9 : kd = 1 := by omega
                have j9 : ¬ tx B T nm = wd 14 ∧ ¬ tx B T nm = wd 15 := ⟨fun r => by have := kn_11.mpr r; omega, fun r => by have := kn_12i.mpr r; omega⟩
                exact wp_vre dq_163_119 rfl (hK _ (by rw [show rs_J B T kd nm ty p (.inl p0) = .inr (7, p) by simp [rs_J, rs_w, sp, c2, c3, c4, k9, j9]]; exact hT))
        · refine wp_aload_n dq_163_36 rfl ?_
          refine wp_iconst (x := nI 5) dq_163_37 rfl ?_
          refine wp_iload_n dq_163_38 rfl ?_
          refine wp_iconst (x := nI 2) dq_163_39 rfl ?_
          refine wp_iaddN dq_163_40 ?_
          refine wp_cv2 (P := fun v h' => v = none ∧ TR h' B n (.inr (5, (p + 2))) N z) dq_163_41 mt_163_122 (ob_of (mw_0 hb)) ⟨by decide +kernel, by decide +kernel⟩ (Nat.le_of_ble_eq_true rfl) (Nat.le_of_ble_eq_true rfl) (c_fail hT (by decide) (fun hq => rfl) (fun h' k1 => ⟨rfl, k1⟩)) (fun v9 h9 q9 => ?_)
          obtain ⟨rfl, hT⟩ := q9
          refine wp_goto (tgt := 119) dq_163_44 rfl ?_
          exact wp_vre dq_163_119 rfl (hK _ (by rw [show rs_J B T kd nm ty p (.inl p0) = .inr (5, (p + 2)) by simp [rs_J, rs_w, sp, c2, c3]]; exact hT))
      · refine wp_aload_n dq_163_17 rfl ?_
        refine wp_iconst (x := nI 5) dq_163_18 rfl ?_
        refine wp_iload_n dq_163_19 rfl ?_
        refine wp_cv2 (P := fun v h' => v = none ∧ TR h' B n (.inr (5, p)) N z) dq_163_20 mt_163_122 (ob_of (mw_0 hb)) ⟨by decide +kernel, by decide +kernel⟩ (Nat.le_of_ble_eq_true rfl) (Nat.le_of_ble_eq_true rfl) (c_fail hT (by decide) (fun hq => rfl) (fun h' k1 => ⟨rfl, k1⟩)) (fun v9 h9 q9 => ?_)
        obtain ⟨rfl, hT⟩ := q9
        refine wp_goto (tgt := 119) dq_163_23 rfl ?_
        exact wp_vre dq_163_119 rfl (hK _ (by rw [show rs_J B T kd nm ty p (.inl p0) = .inr (5, p) by simp [rs_J, rs_w, sp, c2]]; exact hT))
    · exact absurd (hc0.mpr (snd_l p0)) c1
  | inr e =>
    show wp_W L xs _ 163 0 [(0, .ref 13), (1, .int (nI kind)), (2, .int x), (3, .int (nI nm)), (4, .int (nI ty))] [] h Q
    refine wp_aload_n dq_163_0 rfl ?_
    refine wp_getf dq_163_1 fl_163_116 (mw_0 hb) rfl ?_
    refine wp_if_eq (tgt := 8) dq_163_4 rfl (fun c1 => absurd (hc0.mp c1) not_snd) (fun c1 => ?_)
    exact wp_vre dq_163_7 rfl (hK _ hT)
set_option maxRecDepth 100000 in
theorem c_bflag {L : Nat} {xs : Nat → Int32} {d n : Nat} {B : Nat → Nat} {N : Nat → Int32} {z : rZ} {S0 : rS} {h : List qx_E} {kind kd f w ff : Nat} (hT : TR h B n S0 N z) (hk : (kind = 100 ∧ kd = 0) ∨ (kind = 230 ∧ kd = 1)) (hf : f < 65536) (hw : w ≤ 12) (hN1 : N 1 = nI ff) : qe_E L xs (d + 1) 164 [.ref 13, .int (nI kind), .int (nI f), .int (nI w)] h (some (.int (bI (bflag kd f (hs ff 512) (w == 11) (w == 12))))) h := by
  obtain ⟨s0, fa0, hb, -⟩ := TR_x hT
  show wp_W L xs _ 164 0 [(0, .ref 13), (1, .int (nI kind)), (2, .int (nI f)), (3, .int (nI w))] [] h _
  refine wp_aload_n dq_164_0 rfl ?_
  refine wp_getf (w := .ref 15) dq_164_1 fl_164_13 (mw_0 hb) rfl ?_
  refine wp_iconst (x := nI 1) dq_164_4 rfl ?_
  refine wp_ialdV (z := (nI ff)) dq_164_5 (mw_2 hb) (by omega) (by decide) (hN1) ?_
  refine wp_sipush (x := nI 512) dq_164_6 rfl ?_
  refine wp_cse2 dq_164_9 (by decide +kernel) mt_164_187 (by decide +kernel) (Nat.le_of_ble_eq_true rfl) (Nat.le_of_ble_eq_true rfl) (c_mhas) ?_
  refine wp_istore (lv' := [(0, .ref 13), (1, .int (nI kind)), (2, .int (nI f)), (3, .int (nI w)), (4, .int (bI (hs ff 512)))]) dq_164_12 (by decide) rfl ?_
  refine wp_iload_n dq_164_14 rfl ?_
  refine wp_bipush (x := nI 12) dq_164_15 rfl ?_
  refine wp_ic_neN (tgt := 29) dq_164_17 rfl (by omega) (by omega) (fun c1 => ?_) (fun c1 => ?_)
  · refine wp_iload_n dq_164_29 rfl ?_
    refine wp_cse1 dq_164_30 (by decide +kernel) mt_164_190 (by decide +kernel) (Nat.le_of_ble_eq_true rfl) (Nat.le_of_ble_eq_true rfl) (c_single hf) ?_
    refine wp_if_neB (tgt := 38) dq_164_33 rfl (fun c2 => ?_) (fun c2 => ?_)
    · refine wp_iload_n dq_164_38 rfl ?_
      refine wp_bipush (x := nI 100) dq_164_39 rfl ?_
      refine wp_ic_neN (tgt := 82) dq_164_41 rfl (by omega) (by omega) (fun c3 => ?_) (fun c3 => ?_)
      · refine wp_iload_n dq_164_82 rfl ?_
        refine wp_sipush (x := nI 1024) dq_164_83 rfl ?_
        refine wp_cse2 dq_164_86 (by decide +kernel) mt_164_187 (by decide +kernel) (Nat.le_of_ble_eq_true rfl) (Nat.le_of_ble_eq_true rfl) (c_mhas) ?_
        refine wp_if_eqB (tgt := 104) dq_164_89 rfl (fun c4 => ?_) (fun c4 => ?_)
        · refine wp_iload_n dq_164_104 rfl ?_
          refine wp_bipush (x := nI 11) dq_164_105 rfl ?_
          refine wp_ic_neN (tgt := 122) dq_164_107 rfl (by omega) (by omega) (fun c5 => ?_) (fun c5 => ?_)
          · refine wp_iload dq_164_122 rfl ?_
            refine wp_if_eqB (tgt := 144) dq_164_124 rfl (fun c6 => ?_) (fun c6 => ?_)
            · refine wp_iconst (x := nI 0) dq_164_144 rfl ?_
              have w12 : (w == 12) = false := beq_eq_false_iff_ne.mpr c1
              have w11 : (w == 11) = false := beq_eq_false_iff_ne.mpr c5
              have k9 : kd = 1 := by omega
              exact wp_ire dq_164_145 rfl ⟨rfl, Or.inr (Or.inl rfl)⟩ ⟨sb0 (by simp [bflag, w12, c2, c4, w11, c6, k9]), rfl⟩
            · refine wp_iload_n dq_164_127 rfl ?_
              refine wp_iconst (x := nI 1) dq_164_128 rfl ?_
              refine wp_cse2 dq_164_129 (by decide +kernel) mt_164_187 (by decide +kernel) (Nat.le_of_ble_eq_true rfl) (Nat.le_of_ble_eq_true rfl) (c_mhas) ?_
              refine wp_iload_n dq_164_132 rfl ?_
              refine wp_iconst (x := nI 2) dq_164_133 rfl ?_
              refine wp_cse2 dq_164_134 (by decide +kernel) mt_164_187 (by decide +kernel) (Nat.le_of_ble_eq_true rfl) (Nat.le_of_ble_eq_true rfl) (c_mhas) ?_
              refine wp_ic_neBB (tgt := 144) dq_164_137 rfl (fun c7 => ?_) (fun c7 => ?_)
              · refine wp_iconst (x := nI 0) dq_164_144 rfl ?_
                have w12 : (w == 12) = false := beq_eq_false_iff_ne.mpr c1
                have w11 : (w == 11) = false := beq_eq_false_iff_ne.mpr c5
                have k9 : kd = 1 := by omega
                exact wp_ire dq_164_145 rfl ⟨rfl, Or.inr (Or.inl rfl)⟩ ⟨sb0 (by simp [bflag, w12, c2, c4, w11, c6, c7, k9]), rfl⟩
              · refine wp_iconst (x := nI 1) dq_164_140 rfl ?_
                refine wp_goto (tgt := 145) dq_164_141 rfl ?_
                have w12 : (w == 12) = false := beq_eq_false_iff_ne.mpr c1
                have w11 : (w == 11) = false := beq_eq_false_iff_ne.mpr c5
                have k9 : kd = 1 := by omega
                exact wp_ire dq_164_145 rfl ⟨rfl, Or.inr (Or.inl rfl)⟩ ⟨sb1 (by simp [bflag, w12, c2, c4, w11, c6, c7, k9]), rfl⟩
          · refine wp_iload_n dq_164_110 rfl ?_
            refine wp_sipush (x := nI 1336) dq_164_111 rfl ?_
            refine wp_cse2 dq_164_114 (by decide +kernel) mt_164_187 (by decide +kernel) (Nat.le_of_ble_eq_true rfl) (Nat.le_of_ble_eq_true rfl) (c_mhas) ?_
            refine wp_if_eqB (tgt := 122) dq_164_117 rfl (fun c8 => ?_) (fun c8 => ?_)
            · refine wp_iload dq_164_122 rfl ?_
              refine wp_if_eqB (tgt := 144) dq_164_124 rfl (fun c9 => ?_) (fun c9 => ?_)
              · refine wp_iconst (x := nI 0) dq_164_144 rfl ?_
                have w12 : (w == 12) = false := beq_eq_false_iff_ne.mpr c1
                have w11 : (w == 11) = true := beq_iff_eq.mpr c5
                have k9 : kd = 1 := by omega
                exact wp_ire dq_164_145 rfl ⟨rfl, Or.inr (Or.inl rfl)⟩ ⟨sb0 (by simp [bflag, w12, c2, c4, w11, c8, c9, k9]), rfl⟩
              · refine wp_iload_n dq_164_127 rfl ?_
                refine wp_iconst (x := nI 1) dq_164_128 rfl ?_
                refine wp_cse2 dq_164_129 (by decide +kernel) mt_164_187 (by decide +kernel) (Nat.le_of_ble_eq_true rfl) (Nat.le_of_ble_eq_true rfl) (c_mhas) ?_
                refine wp_iload_n dq_164_132 rfl ?_
                refine wp_iconst (x := nI 2) dq_164_133 rfl ?_
                refine wp_cse2 dq_164_134 (by decide +kernel) mt_164_187 (by decide +kernel) (Nat.le_of_ble_eq_true rfl) (Nat.le_of_ble_eq_true rfl) (c_mhas) ?_
                refine wp_ic_neBB (tgt := 144) dq_164_137 rfl (fun c10 => ?_) (fun c10 => ?_)
                · refine wp_iconst (x := nI 0) dq_164_144 rfl ?_
                  have w12 : (w == 12) = false := beq_eq_false_iff_ne.mpr c1
                  have w11 : (w == 11) = true := beq_iff_eq.mpr c5
                  have k9 : kd = 1 := by omega
                  exact wp_ire dq_164_145 rfl ⟨rfl, Or.inr (Or.inl rfl)⟩ ⟨sb0 (by simp [bflag, w12, c2, c4, w11, c8, c9, c10, k9]), rfl⟩
                · refine wp_iconst (x := nI 1) dq_164_140 rfl ?_
                  refine wp_goto (tgt := 145) dq_164_141 rfl ?_
                  have w12 : (w == 12) = false := beq_eq_false_iff_ne.mpr c1
                  have w11 : (w == 11) = true := beq_iff_eq.mpr c5
                  have k9 : kd = 1 := by omega
                  exact wp_ire dq_164_145 rfl ⟨rfl, Or.inr (Or.inl rfl)⟩ ⟨sb1 (by simp [bflag, w12, c2, c4, w11, c8, c9, c10, k9]), rfl⟩
            · refine wp_iconst (x := nI 1) dq_164_120 rfl ?_
              have w12 : (w == 12) = false := beq_eq_false_iff_ne.mpr c1
              have w11 : (w == 11) = true := beq_iff_eq.mpr c5
              have k9 : kd = 1 := by omega
              exact wp_ire dq_164_121 rfl ⟨rfl, Or.inr (Or.inl rfl)⟩ ⟨sb1 (by simp [bflag, w12, c2, c4, w11, c8, k9]), rfl⟩
        · refine wp_iload_n dq_164_92 rfl ?_
          refine wp_sipush (x := nI 314) dq_164_93 rfl ?_
          refine wp_cse2 dq_164_96 (by decide +kernel) mt_164_187 (by decide +kernel) (Nat.le_of_ble_eq_true rfl) (Nat.le_of_ble_eq_true rfl) (c_mhas) ?_
          refine wp_if_eqB (tgt := 104) dq_164_99 rfl (fun c11 => ?_) (fun c11 => ?_)
          · refine wp_iload_n dq_164_104 rfl ?_
            refine wp_bipush (x := nI 11) dq_164_105 rfl ?_
            refine wp_ic_neN (tgt := 122) dq_164_107 rfl (by omega) (by omega) (fun c12 => ?_) (fun c12 => ?_)
            · refine wp_iload dq_164_122 rfl ?_
              refine wp_if_eqB (tgt := 144) dq_164_124 rfl (fun c13 => ?_) (fun c13 => ?_)
              · refine wp_iconst (x := nI 0) dq_164_144 rfl ?_
                have w12 : (w == 12) = false := beq_eq_false_iff_ne.mpr c1
                have w11 : (w == 11) = false := beq_eq_false_iff_ne.mpr c12
                have k9 : kd = 1 := by omega
                exact wp_ire dq_164_145 rfl ⟨rfl, Or.inr (Or.inl rfl)⟩ ⟨sb0 (by simp [bflag, w12, c2, c4, c11, w11, c13, k9]), rfl⟩
              · refine wp_iload_n dq_164_127 rfl ?_
                refine wp_iconst (x := nI 1) dq_164_128 rfl ?_
                refine wp_cse2 dq_164_129 (by decide +kernel) mt_164_187 (by decide +kernel) (Nat.le_of_ble_eq_true rfl) (Nat.le_of_ble_eq_true rfl) (c_mhas) ?_
                refine wp_iload_n dq_164_132 rfl ?_
                refine wp_iconst (x := nI 2) dq_164_133 rfl ?_
                refine wp_cse2 dq_164_134 (by decide +kernel) mt_164_187 (by decide +kernel) (Nat.le_of_ble_eq_true rfl) (Nat.le_of_ble_eq_true rfl) (c_mhas) ?_
                refine wp_ic_neBB (tgt := 144) dq_164_137 rfl (fun c14 => ?_) (fun c14 => ?_)
                · refine wp_iconst (x := nI 0) dq_164_144 rfl ?_
                  have w12 : (w == 12) = false := beq_eq_false_iff_ne.mpr c1
                  have w11 : (w == 11) = false := beq_eq_false_iff_ne.mpr c12
                  have k9 : kd = 1 := by omega
                  exact wp_ire dq_164_145 rfl ⟨rfl, Or.inr (Or.inl rfl)⟩ ⟨sb0 (by simp [bflag, w12, c2, c4, c11, w11, c13, c14, k9]), rfl⟩
                · refine wp_iconst (x := nI 1) dq_164_140 rfl ?_
                  refine wp_goto (tgt := 145) dq_164_141 rfl ?_
                  have w12 : (w == 12) = false := beq_eq_false_iff_ne.mpr c1
                  have w11 : (w == 11) = false := beq_eq_false_iff_ne.mpr c12
                  have k9 : kd = 1 := by omega
                  exact wp_ire dq_164_145 rfl ⟨rfl, Or.inr (Or.inl rfl)⟩ ⟨sb1 (by simp [bflag, w12, c2, c4, c11, w11, c13, c14, k9]), rfl⟩
            · refine wp_iload_n dq_164_110 rfl ?_
              refine wp_sipush (x := nI 1336) dq_164_111 rfl ?_
              refine wp_cse2 dq_164_114 (by decide +kernel) mt_164_187 (by decide +kernel) (Nat.le_of_ble_eq_true rfl) (Nat.le_of_ble_eq_true rfl) (c_mhas) ?_
              refine wp_if_eqB (tgt := 122) dq_164_117 rfl (fun c15 => ?_) (fun c15 => ?_)
              · refine wp_iload dq_164_122 rfl ?_
                refine wp_if_eqB (tgt := 144) dq_164_124 rfl (fun c16 => ?_) (fun c16 => ?_)
                · refine wp_iconst (x := nI 0) dq_164_144 rfl ?_
                  have w12 : (w == 12) = false := beq_eq_false_iff_ne.mpr c1
                  have w11 : (w == 11) = true := beq_iff_eq.mpr c12
                  have k9 : kd = 1 := by omega
                  exact wp_ire dq_164_145 rfl ⟨rfl, Or.inr (Or.inl rfl)⟩ ⟨sb0 (by simp [bflag, w12, c2, c4, c11, w11, c15, c16, k9]), rfl⟩
                · refine wp_iload_n dq_164_127 rfl ?_
                  refine wp_iconst (x := nI 1) dq_164_128 rfl ?_
                  refine wp_cse2 dq_164_129 (by decide +kernel) mt_164_187 (by decide +kernel) (Nat.le_of_ble_eq_true rfl) (Nat.le_of_ble_eq_true rfl) (c_mhas) ?_
                  refine wp_iload_n dq_164_132 rfl ?_
                  refine wp_iconst (x := nI 2) dq_164_133 rfl ?_
                  refine wp_cse2 dq_164_134 (by decide +kernel) mt_164_187 (by decide +kernel) (Nat.le_of_ble_eq_true rfl) (Nat.le_of_ble_eq_true rfl) (c_mhas) ?_
                  refine wp_ic_neBB (tgt := 144) dq_164_137 rfl (fun c17 => ?_) (fun c17 => ?_)
                  · refine wp_iconst (x := nI 0) dq_164_144 rfl ?_
                    have w12 : (w == 12) = false := beq_eq_false_iff_ne.mpr c1
                    have w11 : (w == 11) = true := beq_iff_eq.mpr c12
                    have k9 : kd = 1 := by omega
                    exact wp_ire dq_164_145 rfl ⟨rfl, Or.inr (Or.inl rfl)⟩ ⟨sb0 (by simp [bflag, w12, c2, c4, c11, w11, c15, c16, c17, k9]), rfl⟩
                  · refine wp_iconst (x := nI 1) dq_164_140 rfl ?_
                    refine wp_goto (tgt := 145) dq_164_141 rfl ?_
                    have w12 : (w == 12) = false := beq_eq_false_iff_ne.mpr c1
                    have w11 : (w == 11) = true := beq_iff_eq.mpr c12
                    have k9 : kd = 1 := by omega
                    exact wp_ire dq_164_145 rfl ⟨rfl, Or.inr (Or.inl rfl)⟩ ⟨sb1 (by simp [bflag, w12, c2, c4, c11, w11, c15, c16, c17, k9]), rfl⟩
              · refine wp_iconst (x := nI 1) dq_164_120 rfl ?_
                have w12 : (w == 12) = false := beq_eq_false_iff_ne.mpr c1
                have w11 : (w == 11) = true := beq_iff_eq.mpr c12
                have k9 : kd = 1 := by omega
                exact wp_ire dq_164_121 rfl ⟨rfl, Or.inr (Or.inl rfl)⟩ ⟨sb1 (by simp [bflag, w12, c2, c4, c11, w11, c15, k9]), rfl⟩
          · refine wp_iconst (x := nI 1) dq_164_102 rfl ?_
            have w12 : (w == 12) = false := beq_eq_false_iff_ne.mpr c1
            have k9 : kd = 1 := by omega
            exact wp_ire dq_164_103 rfl ⟨rfl, Or.inr (Or.inl rfl)⟩ ⟨sb1 (by simp [bflag, w12, c2, c4, c11, k9]), rfl⟩
      · refine wp_iload_n dq_164_44 rfl ?_
        refine wp_bipush (x := nI 16) dq_164_45 rfl ?_
        refine wp_cse2 dq_164_47 (by decide +kernel) mt_164_187 (by decide +kernel) (Nat.le_of_ble_eq_true rfl) (Nat.le_of_ble_eq_true rfl) (c_mhas) ?_
        refine wp_if_eqB (tgt := 62) dq_164_50 rfl (fun c18 => ?_) (fun c18 => ?_)
        · refine wp_iload dq_164_62 rfl ?_
          refine wp_if_eqB (tgt := 80) dq_164_64 rfl (fun c19 => ?_) (fun c19 => ?_)
          · refine wp_iconst (x := nI 0) dq_164_80 rfl ?_
            have w12 : (w == 12) = false := beq_eq_false_iff_ne.mpr c1
            have k9 : kd = 0 := by omega
            exact wp_ire dq_164_81 rfl ⟨rfl, Or.inr (Or.inl rfl)⟩ ⟨sb0 (by simp [bflag, w12, c2, c18, c19, k9]), rfl⟩
          · refine wp_iload_n dq_164_67 rfl ?_
            refine wp_bipush (x := nI 25) dq_164_68 rfl ?_
            refine wp_iand dq_164_70 ?_
            refine wp_bipush (x := nI 25) dq_164_71 rfl ?_
            refine wp_ic_eq (tgt := 80) dq_164_73 rfl (fun c20 => ?_) (fun c20 => ?_)
            · refine wp_iconst (x := nI 0) dq_164_80 rfl ?_
              have w12 : (w == 12) = false := beq_eq_false_iff_ne.mpr c1
              have k9 : kd = 0 := by omega
              exact wp_ire dq_164_81 rfl ⟨rfl, Or.inr (Or.inl rfl)⟩ ⟨sb0 (by simp [bflag, w12, c2, c18, c19, c20, k9]), rfl⟩
            · refine wp_iconst (x := nI 1) dq_164_76 rfl ?_
              refine wp_goto (tgt := 81) dq_164_77 rfl ?_
              have w12 : (w == 12) = false := beq_eq_false_iff_ne.mpr c1
              have k9 : kd = 0 := by omega
              exact wp_ire dq_164_81 rfl ⟨rfl, Or.inr (Or.inl rfl)⟩ ⟨sb1 (by simp [bflag, w12, c2, c18, c19, c20, k9]), rfl⟩
        · refine wp_iload_n dq_164_53 rfl ?_
          refine wp_bipush (x := nI 64) dq_164_54 rfl ?_
          refine wp_cse2 dq_164_56 (by decide +kernel) mt_164_187 (by decide +kernel) (Nat.le_of_ble_eq_true rfl) (Nat.le_of_ble_eq_true rfl) (c_mhas) ?_
          refine wp_if_neB (tgt := 76) dq_164_59 rfl (fun c21 => ?_) (fun c21 => ?_)
          · refine wp_iconst (x := nI 1) dq_164_76 rfl ?_
            refine wp_goto (tgt := 81) dq_164_77 rfl ?_
            have w12 : (w == 12) = false := beq_eq_false_iff_ne.mpr c1
            have k9 : kd = 0 := by omega
            exact wp_ire dq_164_81 rfl ⟨rfl, Or.inr (Or.inl rfl)⟩ ⟨sb1 (by simp [bflag, w12, c2, c18, c21, k9]), rfl⟩
          · refine wp_iload dq_164_62 rfl ?_
            refine wp_if_eqB (tgt := 80) dq_164_64 rfl (fun c22 => ?_) (fun c22 => ?_)
            · refine wp_iconst (x := nI 0) dq_164_80 rfl ?_
              have w12 : (w == 12) = false := beq_eq_false_iff_ne.mpr c1
              have k9 : kd = 0 := by omega
              exact wp_ire dq_164_81 rfl ⟨rfl, Or.inr (Or.inl rfl)⟩ ⟨sb0 (by simp [bflag, w12, c2, c18, c21, c22, k9]), rfl⟩
            · refine wp_iload_n dq_164_67 rfl ?_
              refine wp_bipush (x := nI 25) dq_164_68 rfl ?_
              refine wp_iand dq_164_70 ?_
              refine wp_bipush (x := nI 25) dq_164_71 rfl ?_
              refine wp_ic_eq (tgt := 80) dq_164_73 rfl (fun c23 => ?_) (fun c23 => ?_)
              · refine wp_iconst (x := nI 0) dq_164_80 rfl ?_
                have w12 : (w == 12) = false := beq_eq_false_iff_ne.mpr c1
                have k9 : kd = 0 := by omega
                exact wp_ire dq_164_81 rfl ⟨rfl, Or.inr (Or.inl rfl)⟩ ⟨sb0 (by simp [bflag, w12, c2, c18, c21, c22, c23, k9]), rfl⟩
              · refine wp_iconst (x := nI 1) dq_164_76 rfl ?_
                refine wp_goto (tgt := 81) dq_164_77 rfl ?_
                have w12 : (w == 12) = false := beq_eq_false_iff_ne.mpr c1
                have k9 : kd = 0 := by omega
                exact wp_ire dq_164_81 rfl ⟨rfl, Or.inr (Or.inl rfl)⟩ ⟨sb1 (by simp [bflag, w12, c2, c18, c21, c22, c23, k9]), rfl⟩
    · refine wp_iconst (x := nI 1) dq_164_36 rfl ?_
      have w12 : (w == 12) = false := beq_eq_false_iff_ne.mpr c1
      exact wp_ire dq_164_37 rfl ⟨rfl, Or.inr (Or.inl rfl)⟩ ⟨sb1 (by simp [bflag, w12, c2]), rfl⟩
  · refine wp_iload_n dq_164_20 rfl ?_
    refine wp_sipush (x := nI 230) dq_164_21 rfl ?_
    refine wp_ic_neN (tgt := 29) dq_164_24 rfl (by omega) (by omega) (fun c24 => ?_) (fun c24 => ?_)
    · refine wp_iload_n dq_164_29 rfl ?_
      refine wp_cse1 dq_164_30 (by decide +kernel) mt_164_190 (by decide +kernel) (Nat.le_of_ble_eq_true rfl) (Nat.le_of_ble_eq_true rfl) (c_single hf) ?_
      refine wp_if_neB (tgt := 38) dq_164_33 rfl (fun c25 => ?_) (fun c25 => ?_)
      · refine wp_iload_n dq_164_38 rfl ?_
        refine wp_bipush (x := nI 100) dq_164_39 rfl ?_
        refine wp_ic_neN (tgt := 82) dq_164_41 rfl (by omega) (by omega) (fun c26 => ?_) (fun c26 => ?_)
        · exact absurd c26 (by omega)
        · refine wp_iload_n dq_164_44 rfl ?_
          refine wp_bipush (x := nI 16) dq_164_45 rfl ?_
          refine wp_cse2 dq_164_47 (by decide +kernel) mt_164_187 (by decide +kernel) (Nat.le_of_ble_eq_true rfl) (Nat.le_of_ble_eq_true rfl) (c_mhas) ?_
          refine wp_if_eqB (tgt := 62) dq_164_50 rfl (fun c27 => ?_) (fun c27 => ?_)
          · refine wp_iload dq_164_62 rfl ?_
            refine wp_if_eqB (tgt := 80) dq_164_64 rfl (fun c28 => ?_) (fun c28 => ?_)
            · refine wp_iconst (x := nI 0) dq_164_80 rfl ?_
              have w12 : (w == 12) = true := beq_iff_eq.mpr c1
              have k9 : kd = 0 := by omega
              exact wp_ire dq_164_81 rfl ⟨rfl, Or.inr (Or.inl rfl)⟩ ⟨sb0 (by simp [bflag, w12, c25, c27, c28, k9]), rfl⟩
            · refine wp_iload_n dq_164_67 rfl ?_
              refine wp_bipush (x := nI 25) dq_164_68 rfl ?_
              refine wp_iand dq_164_70 ?_
              refine wp_bipush (x := nI 25) dq_164_71 rfl ?_
              refine wp_ic_eq (tgt := 80) dq_164_73 rfl (fun c29 => ?_) (fun c29 => ?_)
              · refine wp_iconst (x := nI 0) dq_164_80 rfl ?_
                have w12 : (w == 12) = true := beq_iff_eq.mpr c1
                have k9 : kd = 0 := by omega
                exact wp_ire dq_164_81 rfl ⟨rfl, Or.inr (Or.inl rfl)⟩ ⟨sb0 (by simp [bflag, w12, c25, c27, c28, c29, k9]), rfl⟩
              · refine wp_iconst (x := nI 1) dq_164_76 rfl ?_
                refine wp_goto (tgt := 81) dq_164_77 rfl ?_
                have w12 : (w == 12) = true := beq_iff_eq.mpr c1
                have k9 : kd = 0 := by omega
                exact wp_ire dq_164_81 rfl ⟨rfl, Or.inr (Or.inl rfl)⟩ ⟨sb1 (by simp [bflag, w12, c25, c27, c28, c29, k9]), rfl⟩
          · refine wp_iload_n dq_164_53 rfl ?_
            refine wp_bipush (x := nI 64) dq_164_54 rfl ?_
            refine wp_cse2 dq_164_56 (by decide +kernel) mt_164_187 (by decide +kernel) (Nat.le_of_ble_eq_true rfl) (Nat.le_of_ble_eq_true rfl) (c_mhas) ?_
            refine wp_if_neB (tgt := 76) dq_164_59 rfl (fun c30 => ?_) (fun c30 => ?_)
            · refine wp_iconst (x := nI 1) dq_164_76 rfl ?_
              refine wp_goto (tgt := 81) dq_164_77 rfl ?_
              have w12 : (w == 12) = true := beq_iff_eq.mpr c1
              have k9 : kd = 0 := by omega
              exact wp_ire dq_164_81 rfl ⟨rfl, Or.inr (Or.inl rfl)⟩ ⟨sb1 (by simp [bflag, w12, c25, c27, c30, k9]), rfl⟩
            · refine wp_iload dq_164_62 rfl ?_
              refine wp_if_eqB (tgt := 80) dq_164_64 rfl (fun c31 => ?_) (fun c31 => ?_)
              · refine wp_iconst (x := nI 0) dq_164_80 rfl ?_
                have w12 : (w == 12) = true := beq_iff_eq.mpr c1
                have k9 : kd = 0 := by omega
                exact wp_ire dq_164_81 rfl ⟨rfl, Or.inr (Or.inl rfl)⟩ ⟨sb0 (by simp [bflag, w12, c25, c27, c30, c31, k9]), rfl⟩
              · refine wp_iload_n dq_164_67 rfl ?_
                refine wp_bipush (x := nI 25) dq_164_68 rfl ?_
                refine wp_iand dq_164_70 ?_
                refine wp_bipush (x := nI 25) dq_164_71 rfl ?_
                refine wp_ic_eq (tgt := 80) dq_164_73 rfl (fun c32 => ?_) (fun c32 => ?_)
                · refine wp_iconst (x := nI 0) dq_164_80 rfl ?_
                  have w12 : (w == 12) = true := beq_iff_eq.mpr c1
                  have k9 : kd = 0 := by omega
                  exact wp_ire dq_164_81 rfl ⟨rfl, Or.inr (Or.inl rfl)⟩ ⟨sb0 (by simp [bflag, w12, c25, c27, c30, c31, c32, k9]), rfl⟩
                · refine wp_iconst (x := nI 1) dq_164_76 rfl ?_
                  refine wp_goto (tgt := 81) dq_164_77 rfl ?_
                  have w12 : (w == 12) = true := beq_iff_eq.mpr c1
                  have k9 : kd = 0 := by omega
                  exact wp_ire dq_164_81 rfl ⟨rfl, Or.inr (Or.inl rfl)⟩ ⟨sb1 (by simp [bflag, w12, c25, c27, c30, c31, c32, k9]), rfl⟩
      · refine wp_iconst (x := nI 1) dq_164_36 rfl ?_
        have w12 : (w == 12) = true := beq_iff_eq.mpr c1
        have k9 : kd = 0 := by omega
        exact wp_ire dq_164_37 rfl ⟨rfl, Or.inr (Or.inl rfl)⟩ ⟨sb1 (by simp [bflag, w12, c25, k9]), rfl⟩
    · refine wp_iconst (x := nI 0) dq_164_27 rfl ?_
      have w12 : (w == 12) = true := beq_iff_eq.mpr c1
      have k9 : kd = 1 := by omega
      exact wp_ire dq_164_28 rfl ⟨rfl, Or.inr (Or.inl rfl)⟩ ⟨sb0 (by simp [bflag, w12, k9]), rfl⟩
set_option maxRecDepth 100000 in
theorem c_few {L : Nat} {xs : Nat → Int32} {d n : Nat} {B : Nat → Nat} {N : Nat → Int32} {z : rZ} {S0 : rS} {h : List qx_E} {Q : Option Value → List qx_E → Prop} (hT : TR h B n S0 N z)  (hK : ∀ h', TR h' B n (rs_w (decide (rs_iv B n 2 S0 ≤ 16)) 12 (rs_p S0) (rs_is n 2 S0)) N z → Q (some (.int (nI (rs_iv B n 2 S0)))) h') : wp_W L xs (d + 3) 161 0 (lv_args 0 [.ref 13]) [] h Q := by
  show wp_W L xs _ 161 0 [(0, .ref 13)] [] h Q
  obtain ⟨s0, fa0, hb, hz0, hc0, hp0⟩ := TR_x hT
  refine wp_aload_n dq_161_0 rfl ?_
  refine wp_getf (w := .int (s0 3)) dq_161_1 fl_161_119 (mw_0 hb) rfl ?_
  refine wp_istore_n (lv' := [(0, .ref 13), (1, .int (s0 3))]) dq_161_4 (by decide) rfl ?_
  refine wp_aload_n dq_161_5 rfl ?_
  refine wp_cv0 (P := fun v h' => v = some (.int (nI (rs_iv B n 2 S0))) ∧ TR h' B n (rs_is n 2 S0) N z) dq_161_6 mt_161_134 (ob_of (mw_0 hb)) ⟨by decide +kernel, by decide +kernel⟩ (Nat.le_of_ble_eq_true rfl) (Nat.le_of_ble_eq_true rfl) (c_u2 hT (fun h' k1 => ⟨rfl, k1⟩)) (fun v9 h9 q9 => ?_)
  obtain ⟨rfl, hT⟩ := q9
  generalize hS1 : rs_is n 2 S0 = S1 at hT
  obtain ⟨s1, fa1, hb, hz1, hc1, hp1⟩ := TR_x hT
  have hv6 : rs_iv B n 2 S0 < 65536 := TR_v hT
  refine wp_istore_n (lv' := [(0, .ref 13), (1, .int (s0 3)), (2, .int (nI (rs_iv B n 2 S0)))]) dq_161_9 (by decide) rfl ?_
  have hj10 : ∀ h, TR h B n (rs_w (decide (rs_iv B n 2 S0 ≤ 16)) 12 (rs_p S0) S1) N z → wp_W L xs (d + 3) 161 23 [(0, .ref 13), (1, .int (s0 3)), (2, .int (nI (rs_iv B n 2 S0)))] ([]) h Q := by
    intro h hT
    generalize hS2 : rs_w (decide (rs_iv B n 2 S0 ≤ 16)) 12 (rs_p S0) S1 = S2 at hT
    obtain ⟨s2, fa2, hb, hz2, hc2, hp2⟩ := TR_x hT
    refine wp_iload_n dq_161_23 rfl ?_
    exact wp_ire dq_161_24 rfl ⟨rfl, Or.inl rfl⟩ (hK _ (by rw [hS1, hS2]; exact hT))
  refine wp_iload_n dq_161_10 rfl ?_
  refine wp_bipush (x := nI 16) dq_161_11 rfl ?_
  refine wp_ic_leN (tgt := 23) dq_161_13 rfl (by omega) (by omega) (fun c1 => ?_) (fun c1 => ?_)
  · exact hj10 _ (by rw [w_T (fun hq => decide_eq_true c1)]; exact hT)
  · refine wp_aload_n dq_161_16 rfl ?_
    refine wp_bipush (x := nI 12) dq_161_17 rfl ?_
    refine wp_iload_n dq_161_19 rfl ?_
    refine wp_cv2 (P := fun v h' => v = none ∧ TR h' B n (rs_w false 12 (rs_p S0) S1) N z) dq_161_20 mt_161_122 (ob_of (mw_0 hb)) ⟨by decide +kernel, by decide +kernel⟩ (Nat.le_of_ble_eq_true rfl) (Nat.le_of_ble_eq_true rfl) (c_fail hT (by decide) (fun hq => hp0 (sd_is hS1 hq)) (fun h' k1 => ⟨rfl, k1⟩)) (fun v9 h9 q9 => ?_)
    obtain ⟨rfl, hT⟩ := q9
    exact hj10 _ (by rw [w_F (fun hq => decide_eq_false c1)]; exact hT)
