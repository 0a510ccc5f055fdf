theorem w_T {C : Bool} {c p : Nat} {S : rS} (h : snd S → C = true) : rs_w C c p S = S := by
  cases S with
  | inl q => rw [h (snd_l q)]; rfl
  | inr e => rfl
theorem w_F {C : Bool} {c p : Nat} {S : rS} (h : snd S → C = false) : rs_w C c p S = rs_w false c p S := by
  cases S with
  | inl q => rw [h (snd_l q)]
  | inr e => rfl
set_option maxRecDepth 100000 in
theorem c_mix {L : Nat} {xs : Nat → Int32} {d n : Nat} {B T : Nat → Nat} {N : Nat → Int32} {z : rZ} {S0 : rS} {h : List qx_E} {Q : Option Value → List qx_E → Prop} (hT : TR h B n S0 N z) {t : Nat} {mz : Bool} (hP : snd S0 → PQ B n T N) (ht : t < 2147483648) (hK : ∀ h', TR h' B n (rs_ix B n T t mz S0) N z → Q (some (.int (nI (rs_iv B n 2 S0)))) h') : wp_W L xs (d + 3) 157 0 (lv_args 0 [.ref 13, .int (nI t), .int (bI mz)]) [] h Q := by
  show wp_W L xs _ 157 0 [(0, .ref 13), (1, .int (nI t)), (2, .int (bI mz))] [] h Q
  obtain ⟨s0, fa0, hb, hz0, hc0, hp0⟩ := TR_x hT
  refine wp_aload_n dq_157_0 rfl ?_
  refine wp_getf (w := .int (s0 3)) dq_157_1 fl_157_119 (mw_0 hb) rfl ?_
  refine wp_istore_n (lv' := [(0, .ref 13), (1, .int (nI t)), (2, .int (bI mz)), (3, .int (s0 3))]) dq_157_4 (by decide) rfl ?_
  refine wp_aload_n dq_157_5 rfl ?_
  refine wp_cv0 (P := fun v h' => v = some (.int (nI (rs_iv B n 2 S0))) ∧ TR h' B n (rs_is n 2 S0) N z) dq_157_6 mt_157_134 (ob_of (mw_0 hb)) ⟨by decide +kernel, by decide +kernel⟩ (Nat.le_of_ble_eq_true rfl) (Nat.le_of_ble_eq_true rfl) (c_u2 hT (fun h' k1 => ⟨rfl, k1⟩)) (fun v9 h9 q9 => ?_)
  obtain ⟨rfl, hT⟩ := q9
  generalize hS1 : rs_is n 2 S0 = S1 at hT
  obtain ⟨s1, fa1, hb, hz1, hc1, hp1⟩ := TR_x hT
  have hv6 : rs_iv B n 2 S0 < 65536 := TR_v hT
  refine wp_istore (lv' := [(0, .ref 13), (1, .int (nI t)), (2, .int (bI mz)), (3, .int (s0 3)), (4, .int (nI (rs_iv B n 2 S0)))]) dq_157_9 (by decide) rfl ?_
  have hj11 : ∀ h, TR h B n (rs_w ((mz && rs_iv B n 2 S0 == 0) || tg B T (rs_iv B n 2 S0) == t) 5 (rs_p S0) S1) N z → wp_W L xs (d + 3) 157 43 [(0, .ref 13), (1, .int (nI t)), (2, .int (bI mz)), (3, .int (s0 3)), (4, .int (nI (rs_iv B n 2 S0)))] ([]) h Q := by
    intro h hT
    generalize hS2 : rs_w ((mz && rs_iv B n 2 S0 == 0) || tg B T (rs_iv B n 2 S0) == t) 5 (rs_p S0) S1 = S2 at hT
    obtain ⟨s2, fa2, hb, hz2, hc2, hp2⟩ := TR_x hT
    refine wp_iload dq_157_43 rfl ?_
    exact wp_ire dq_157_45 rfl ⟨rfl, Or.inl rfl⟩ (hK _ (by rw [rs_ix, hS1, hS2]; exact hT))
  refine wp_aload_n dq_157_11 rfl ?_
  refine wp_getf (w := .int (s1 4)) dq_157_12 fl_157_116 (mw_0 hb) rfl ?_
  refine wp_if_ne (tgt := 43) dq_157_15 rfl (fun c1 => ?_) (fun c1 => ?_)
  · exact hj11 _ (by rw [w_T (fun hq => absurd (hc1.mpr hq) c1)]; exact hT)
  · refine wp_aload_n dq_157_18 rfl ?_
    refine wp_iload dq_157_19 rfl ?_
    have hq1 : snd S1 := hc1.mp c1
    have htg := PG_tg (hP (sd_is hS1 hq1)).2.1 (rs_iv B n 2 S0)
    refine wp_cve1 dq_157_21 mt_157_138 (ob_of (mw_0 hb)) ⟨by decide +kernel, by decide +kernel⟩ (Nat.le_of_ble_eq_true rfl) (Nat.le_of_ble_eq_true rfl) (c_tag (d := d + 1) (TR_A hT) (hP (sd_is hS1 hq1)) (by omega)) ?_
    refine wp_iload_n dq_157_24 rfl ?_
    refine wp_ic_eqN (tgt := 43) dq_157_25 rfl (by omega) (by omega) (fun c2 => ?_) (fun c2 => ?_)
    · exact hj11 _ (by rw [w_T (fun hq => by rw [c2, beq_self_eq_true, Bool.or_true])]; exact hT)
    · refine wp_iload_n dq_157_28 rfl ?_
      refine wp_if_eqB (tgt := 37) dq_157_29 rfl (fun c3 => ?_) (fun c3 => ?_)
      · refine wp_aload_n dq_157_37 rfl ?_
        refine wp_iconst (x := nI 5) dq_157_38 rfl ?_
        refine wp_iload_n dq_157_39 rfl ?_
        refine wp_cv2 (P := fun v h' => v = none ∧ TR h' B n (rs_w false 5 (rs_p S0) S1) N z) dq_157_40 mt_157_122 (ob_of (mw_0 hb)) ⟨by decide +kernel, by decide +kernel⟩ (Nat.le_of_ble_eq_true rfl) (Nat.le_of_ble_eq_true rfl) (c_fail hT (by decide) (fun hq => hp0 (sd_is hS1 hq)) (fun h' k1 => ⟨rfl, k1⟩)) (fun v9 h9 q9 => ?_)
        obtain ⟨rfl, hT⟩ := q9
        exact hj11 _ (by rw [w_F (fun hq => by rw [show (tg B T (rs_iv B n 2 S0) == t) = false from beq_eq_false_iff_ne.mpr c2, Bool.or_false]; rw [c3]; rfl)]; exact hT)
      · refine wp_iload dq_157_32 rfl ?_
        refine wp_if_eqN (tgt := 43) dq_157_34 rfl (by omega) (fun c4 => ?_) (fun c4 => ?_)
        · exact hj11 _ (by rw [w_T (fun hq => by rw [show (tg B T (rs_iv B n 2 S0) == t) = false from beq_eq_false_iff_ne.mpr c2, Bool.or_false]; rw [c3, Bool.true_and]; exact beq_iff_eq.mpr c4)]; exact hT)
        · refine wp_aload_n dq_157_37 rfl ?_
          refine wp_iconst (x := nI 5) dq_157_38 rfl ?_
          refine wp_iload_n dq_157_39 rfl ?_
          refine wp_cv2 (P := fun v h' => v = none ∧ TR h' B n (rs_w false 5 (rs_p S0) S1) N z) dq_157_40 mt_157_122 (ob_of (mw_0 hb)) ⟨by decide +kernel, by decide +kernel⟩ (Nat.le_of_ble_eq_true rfl) (Nat.le_of_ble_eq_true rfl) (c_fail hT (by decide) (fun hq => hp0 (sd_is hS1 hq)) (fun h' k1 => ⟨rfl, k1⟩)) (fun v9 h9 q9 => ?_)
          obtain ⟨rfl, hT⟩ := q9
          exact hj11 _ (by rw [w_F (fun hq => by rw [show (tg B T (rs_iv B n 2 S0) == t) = false from beq_eq_false_iff_ne.mpr c2, Bool.or_false]; rw [c3, Bool.true_and]; exact beq_eq_false_iff_ne.mpr c4)]; exact hT)
