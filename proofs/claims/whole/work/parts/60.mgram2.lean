set_option maxRecDepth 100000 in
theorem c_iscn {L : Nat} {xs : Nat → Int32} {d n : Nat} {B T : Nat → Nat} {N : Nat → Int32} {h : List qx_E} (hA : AW h B n N) (hP : PQ B n T N) {i : Nat} (ht : tg B T i = 1) : qe_E L xs (d + 3) 141 [.ref 13, .int (nI i)] h (some (.int (bI (k_cn B T i)))) h := by
  obtain ⟨s, fa, fb, fc, fd, hb, -⟩ := id hA
  have hn9 := AW_n hA
  obtain ⟨a1, a2, a3, a4, a5, a6⟩ := pq_t hP ht
  have hte : te B T i = T i + 3 + tl B T i := rfl
  show wp_W L xs _ 141 0 [(0, .ref 13), (1, .int (nI i))] [] h _
  refine wp_aload_n dq_141_0 rfl ?_
  refine wp_aload_n dq_141_1 rfl ?_
  refine wp_iload_n dq_141_2 rfl ?_
  refine wp_cve1 dq_141_3 mt_141_45 (ob_of (mw_0 hb)) ⟨by decide +kernel, by decide +kernel⟩ (Nat.le_of_ble_eq_true rfl) (Nat.le_of_ble_eq_true rfl) (c_start (d := d + 1) hA hP (by rw [ht]; decide)) ?_
  refine wp_aload_n dq_141_6 rfl ?_
  refine wp_iload_n dq_141_7 rfl ?_
  refine wp_cve1 dq_141_8 mt_141_45 (ob_of (mw_0 hb)) ⟨by decide +kernel, by decide +kernel⟩ (Nat.le_of_ble_eq_true rfl) (Nat.le_of_ble_eq_true rfl) (c_start (d := d + 1) hA hP (by rw [ht]; decide)) ?_
  refine wp_aload_n dq_141_11 rfl ?_
  refine wp_iload_n dq_141_12 rfl ?_
  refine wp_cve1 dq_141_13 mt_141_48 (ob_of (mw_0 hb)) ⟨by decide +kernel, by decide +kernel⟩ (Nat.le_of_ble_eq_true rfl) (Nat.le_of_ble_eq_true rfl) (c_count (d := d) hA hP (by rw [ht]; decide)) ?_
  refine wp_iaddN dq_141_16 ?_
  refine wp_cve2 dq_141_17 mt_141_109 (ob_of (mw_0 hb)) ⟨by decide +kernel, by decide +kernel⟩ (Nat.le_of_ble_eq_true rfl) (Nat.le_of_ble_eq_true rfl) (c_cnm (d := d + 1) hA (by omega) (by omega)) ?_
  exact wp_ire dq_141_20 rfl ⟨bI_n _, Or.inr (Or.inl rfl)⟩ ⟨rfl, rfl⟩
set_option maxRecDepth 100000 in
theorem c_isft {L : Nat} {xs : Nat → Int32} {d n : Nat} {B T : Nat → Nat} {N : Nat → Int32} {h : List qx_E} (hA : AW h B n N) (hP : PQ B n T N) {i : Nat} (ht : tg B T i = 1) : qe_E L xs (d + 3) 147 [.ref 13, .int (nI i)] h (some (.int (bI (k_ft B T i)))) h := by
  obtain ⟨s, fa, fb, fc, fd, hb, -⟩ := id hA
  have hn9 := AW_n hA
  obtain ⟨a1, a2, a3, a4, a5, a6⟩ := pq_t hP ht
  have hte : te B T i = T i + 3 + tl B T i := rfl
  show wp_W L xs _ 147 0 [(0, .ref 13), (1, .int (nI i))] [] h _
  refine wp_aload_n dq_147_0 rfl ?_
  refine wp_aload_n dq_147_1 rfl ?_
  refine wp_iload_n dq_147_2 rfl ?_
  refine wp_cve1 dq_147_3 mt_147_45 (ob_of (mw_0 hb)) ⟨by decide +kernel, by decide +kernel⟩ (Nat.le_of_ble_eq_true rfl) (Nat.le_of_ble_eq_true rfl) (c_start (d := d + 1) hA hP (by rw [ht]; decide)) ?_
  refine wp_aload_n dq_147_6 rfl ?_
  refine wp_iload_n dq_147_7 rfl ?_
  refine wp_cve1 dq_147_8 mt_147_45 (ob_of (mw_0 hb)) ⟨by decide +kernel, by decide +kernel⟩ (Nat.le_of_ble_eq_true rfl) (Nat.le_of_ble_eq_true rfl) (c_start (d := d + 1) hA hP (by rw [ht]; decide)) ?_
  refine wp_aload_n dq_147_11 rfl ?_
  refine wp_iload_n dq_147_12 rfl ?_
  refine wp_cve1 dq_147_13 mt_147_48 (ob_of (mw_0 hb)) ⟨by decide +kernel, by decide +kernel⟩ (Nat.le_of_ble_eq_true rfl) (Nat.le_of_ble_eq_true rfl) (c_count (d := d) hA hP (by rw [ht]; decide)) ?_
  refine wp_iaddN dq_147_16 ?_
  refine wp_cve2 dq_147_17 mt_147_113 (ob_of (mw_0 hb)) ⟨by decide +kernel, by decide +kernel⟩ (Nat.le_of_ble_eq_true rfl) (Nat.le_of_ble_eq_true rfl) (c_ftm (d := d) hA (by omega) (by omega)) ?_
  refine wp_aload_n dq_147_20 rfl ?_
  refine wp_iload_n dq_147_21 rfl ?_
  refine wp_cve1 dq_147_22 mt_147_45 (ob_of (mw_0 hb)) ⟨by decide +kernel, by decide +kernel⟩ (Nat.le_of_ble_eq_true rfl) (Nat.le_of_ble_eq_true rfl) (c_start (d := d + 1) hA hP (by rw [ht]; decide)) ?_
  refine wp_aload_n dq_147_25 rfl ?_
  refine wp_iload_n dq_147_26 rfl ?_
  refine wp_cve1 dq_147_27 mt_147_48 (ob_of (mw_0 hb)) ⟨by decide +kernel, by decide +kernel⟩ (Nat.le_of_ble_eq_true rfl) (Nat.le_of_ble_eq_true rfl) (c_count (d := d) hA hP (by rw [ht]; decide)) ?_
  refine wp_iaddN dq_147_30 ?_
  refine wp_ic_ne (tgt := 38) dq_147_31 rfl (fun c1 => ?_) (fun c1 => ?_)
  · refine wp_iconst (x := nI 0) dq_147_38 rfl ?_
    exact wp_ire dq_147_39 rfl ⟨rfl, Or.inr (Or.inl rfl)⟩ ⟨sv0 (fun r => c1 ((oI_eq (fun k e => by have := gm_ft_in (by omega) e; omega) (by omega)).mpr r)), rfl⟩
  · refine wp_iconst (x := nI 1) dq_147_34 rfl ?_
    refine wp_goto (tgt := 39) dq_147_35 rfl ?_
    exact wp_ire dq_147_39 rfl ⟨rfl, Or.inr (Or.inl rfl)⟩ ⟨sv1 ((oI_eq (fun k e => by have := gm_ft_in (by omega) e; omega) (by omega)).mp c1), rfl⟩
theorem gm_bm {c : Nat} : gm_badm c = true ↔ c = 46 ∨ c = 59 ∨ c = 91 ∨ c = 47 ∨ c = 60 ∨ c = 62 := by
  unfold gm_badm
  simp only [Bool.or_eq_true, beq_iff_eq, or_assoc]
set_option maxRecDepth 100000 in
theorem c_ismL {L : Nat} {xs : Nat → Int32} {d n : Nat} {B T : Nat → Nat} {N : Nat → Int32} {h : List qx_E} (hA : AW h B n N) (hP : PQ B n T N) {i : Nat} (ht : tg B T i = 1) : ∀ j k, k + j = tl B T i → wp_W L xs (d + 3) 149 2 [(0, .ref 13), (1, .int (nI i)), (2, .int (nI k))] [] h (fun v h' => v = some (.int (bI (gm_mmL B j (T i + 3 + k) && decide (0 < tl B T i)))) ∧ h' = h) := by
  obtain ⟨s, fa, fb, fc, fd, hb, -⟩ := id hA
  have hn9 := AW_n hA
  obtain ⟨a1, a2, a3, a4, a5, a6⟩ := pq_t hP ht
  have hte : te B T i = T i + 3 + tl B T i := rfl
  intro j
  induction j with
  | zero =>
    intro k hk
    rw [show (gm_mmL B 0 (T i + 3 + k) && decide (0 < tl B T i)) = decide (0 < tl B T i) from Bool.true_and _]
    refine wp_iload_n dq_149_2 rfl ?_
    refine wp_aload_n dq_149_3 rfl ?_
    refine wp_iload_n dq_149_4 rfl ?_
    refine wp_cve1 dq_149_5 mt_149_48 (ob_of (mw_0 hb)) ⟨by decide +kernel, by decide +kernel⟩ (Nat.le_of_ble_eq_true rfl) (Nat.le_of_ble_eq_true rfl) (c_count (d := d) hA hP (by rw [ht]; decide)) ?_
    refine wp_ic_geN (tgt := 45) dq_149_8 rfl (by omega) (by omega) (fun c1 => ?_) (fun c1 => ?_)
    · refine wp_aload_n dq_149_45 rfl ?_
      refine wp_iload_n dq_149_46 rfl ?_
      refine wp_cve1 dq_149_47 mt_149_48 (ob_of (mw_0 hb)) ⟨by decide +kernel, by decide +kernel⟩ (Nat.le_of_ble_eq_true rfl) (Nat.le_of_ble_eq_true rfl) (c_count (d := d) hA hP (by rw [ht]; decide)) ?_
      refine wp_if_leN (tgt := 57) dq_149_50 rfl (by omega) (fun c2 => ?_) (fun c2 => ?_)
      · refine wp_iconst (x := nI 0) dq_149_57 rfl ?_
        exact wp_ire dq_149_58 rfl ⟨rfl, Or.inr (Or.inl rfl)⟩ ⟨sv0 (by omega), rfl⟩
      · refine wp_iconst (x := nI 1) dq_149_53 rfl ?_
        refine wp_goto (tgt := 58) dq_149_54 rfl ?_
        exact wp_ire dq_149_58 rfl ⟨rfl, Or.inr (Or.inl rfl)⟩ ⟨sv1 (by omega), rfl⟩
    · exact absurd c1 (by omega)
  | succ j ih =>
    intro k hk
    have hB := a6 k (by omega)
    refine wp_iload_n dq_149_2 rfl ?_
    refine wp_aload_n dq_149_3 rfl ?_
    refine wp_iload_n dq_149_4 rfl ?_
    refine wp_cve1 dq_149_5 mt_149_48 (ob_of (mw_0 hb)) ⟨by decide +kernel, by decide +kernel⟩ (Nat.le_of_ble_eq_true rfl) (Nat.le_of_ble_eq_true rfl) (c_count (d := d) hA hP (by rw [ht]; decide)) ?_
    refine wp_ic_geN (tgt := 45) dq_149_8 rfl (by omega) (by omega) (fun c1 => ?_) (fun c1 => ?_)
    · exact absurd c1 (by omega)
    · refine wp_aload_n dq_149_11 rfl ?_
      refine wp_iload_n dq_149_12 rfl ?_
      refine wp_iload_n dq_149_13 rfl ?_
      refine wp_cve2 dq_149_14 mt_149_53 (ob_of (mw_0 hb)) ⟨by decide +kernel, by decide +kernel⟩ (Nat.le_of_ble_eq_true rfl) (Nat.le_of_ble_eq_true rfl) (c_char (d := d) hA hP ht (j := k) (by omega)) ?_
      refine wp_istore_n (lv' := [(0, .ref 13), (1, .int (nI i)), (2, .int (nI k)), (3, .int (nI (B (T i + 3 + k))))]) dq_149_17 (by decide) rfl ?_
      refine wp_iload_n dq_149_18 rfl ?_
      refine wp_cse1 dq_149_19 (by decide +kernel) mt_149_105 (by decide +kernel) (Nat.le_of_ble_eq_true rfl) (Nat.le_of_ble_eq_true rfl) (c_plain (by omega)) ?_
      refine wp_if_eqB (tgt := 37) dq_149_22 rfl (fun c2 => ?_) (fun c2 => ?_)
      · refine wp_iconst (x := nI 0) dq_149_37 rfl ?_
        have e9 : gm_mmL B (j + 1) (T i + 3 + k) = false := if_pos (gm_bm.mpr (by have h9 := pl_f.mp c2; omega))
        exact wp_ire dq_149_38 rfl ⟨rfl, Or.inr (Or.inl rfl)⟩ ⟨sb0 (by rw [e9]; rfl), rfl⟩
      · refine wp_iload_n dq_149_25 rfl ?_
        refine wp_bipush (x := nI 60) dq_149_26 rfl ?_
        refine wp_ic_eqN (tgt := 37) dq_149_28 rfl (by omega) (by omega) (fun c3 => ?_) (fun c3 => ?_)
        · refine wp_iconst (x := nI 0) dq_149_37 rfl ?_
          have e9 : gm_mmL B (j + 1) (T i + 3 + k) = false := if_pos (gm_bm.mpr (by have h9 := pl_t.mp c2; omega))
          exact wp_ire dq_149_38 rfl ⟨rfl, Or.inr (Or.inl rfl)⟩ ⟨sb0 (by rw [e9]; rfl), rfl⟩
        · refine wp_iload_n dq_149_31 rfl ?_
          refine wp_bipush (x := nI 62) dq_149_32 rfl ?_
          refine wp_ic_neN (tgt := 39) dq_149_34 rfl (by omega) (by omega) (fun c4 => ?_) (fun c4 => ?_)
          · refine wp_iinc (y := nI (k + 1)) (lv' := [(0, .ref 13), (1, .int (nI i)), (2, .int (nI (k + 1))), (3, .int (nI (B (T i + 3 + k))))]) dq_149_39 rfl (nI_add _ _) (by decide) rfl ?_
            refine wp_goto (tgt := 2) dq_149_42 rfl ?_
            refine wp_fg (l := [(0, .ref 13), (1, .int (nI i)), (2, .int (nI (k + 1)))]) (e := [(3, .int (nI (B (T i + 3 + k))))]) rfl rfl rfl ?_
            have h9 := pl_t.mp c2
            have e9 : gm_mmL B (j + 1) (T i + 3 + k) = gm_mmL B j (T i + 3 + (k + 1)) := if_neg (fun r => by have := gm_bm.mp r; omega)
            rw [e9]
            exact ih (k + 1) (by omega)
          · refine wp_iconst (x := nI 0) dq_149_37 rfl ?_
            have e9 : gm_mmL B (j + 1) (T i + 3 + k) = false := if_pos (gm_bm.mpr (by have h9 := pl_t.mp c2; omega))
            exact wp_ire dq_149_38 rfl ⟨rfl, Or.inr (Or.inl rfl)⟩ ⟨sb0 (by rw [e9]; rfl), rfl⟩
set_option maxRecDepth 100000 in
theorem c_ism {L : Nat} {xs : Nat → Int32} {d n : Nat} {B T : Nat → Nat} {N : Nat → Int32} {h : List qx_E} (hA : AW h B n N) (hP : PQ B n T N) {i : Nat} (ht : tg B T i = 1) : qe_E L xs (d + 3) 149 [.ref 13, .int (nI i)] h (some (.int (bI (k_mm B T i)))) h := by
  obtain ⟨s, fa, fb, fc, fd, hb, -⟩ := id hA
  have hn9 := AW_n hA
  obtain ⟨a1, a2, a3, a4, a5, a6⟩ := pq_t hP ht
  have hte : te B T i = T i + 3 + tl B T i := rfl
  show wp_W L xs _ 149 0 [(0, .ref 13), (1, .int (nI i))] [] h _
  refine wp_iconst (x := nI 0) dq_149_0 rfl ?_
  refine wp_istore_n (lv' := [(0, .ref 13), (1, .int (nI i)), (2, .int (nI 0))]) dq_149_1 (by decide) rfl ?_
  rw [show k_mm B T i = (gm_mmL B (tl B T i) (T i + 3 + 0) && decide (0 < tl B T i)) by unfold k_mm gm_mm te; rw [Nat.add_sub_cancel_left, Nat.add_zero]; congr 1; exact decide_eq_decide.mpr (by omega)]
  exact c_ismL hA hP ht (tl B T i) 0 (by omega)
theorem mtL_n (B : Nat → Nat) (q : Nat) : ∀ j, gm_mtL B q j none = none
  | 0 => rfl
  | _ + 1 => rfl
set_option maxRecDepth 100000 in
theorem c_mtmL {L : Nat} {xs : Nat → Int32} {d n : Nat} {B : Nat → Nat} {N : Nat → Int32} {h : List qx_E} {q i : Nat} {Q : Option Value → List qx_E → Prop} (hA : AW h B n N) (hq : q ≤ n) : ∀ j x, (∀ k, x = some k → k ≤ q ∧ q ≤ k + j) → wp_W L xs (d + 3) 152 63 [(0, .ref 13), (1, .int (nI i)), (2, .int (oI (gm_mtL B q j x))), (3, .int (nI q))] [] h Q → wp_W L xs (d + 3) 152 34 [(0, .ref 13), (1, .int (nI i)), (2, .int (oI x)), (3, .int (nI q))] [] h Q := by
  obtain ⟨s, fa, fb, fc, fd, hb, -⟩ := id hA
  have hn9 := AW_n hA
  intro j
  induction j using Nat.strongRecOn with
  | ind j ih =>
  intro x hx hK
  cases x with
  | none =>
    rw [mtL_n] at hK
    refine wp_iload_n dq_152_34 rfl ?_
    refine wp_if_lt (tgt := 63) dq_152_35 rfl (fun _ => hK) (fun c => absurd (by decide) c)
  | some k =>
    obtain ⟨hk1, hk2⟩ := hx k rfl
    have hB : k < q → B k < 256 := fun r => AW_B hA (by omega)
    show wp_W L xs _ 152 34 [(0, .ref 13), (1, .int (nI i)), (2, .int (nI k)), (3, .int (nI q))] [] h Q
    refine wp_iload_n dq_152_34 rfl ?_
    refine wp_if_ltN (tgt := 63) dq_152_35 rfl (by omega) (fun c1 => ?_) (fun c1 => ?_)
    · have e9 : gm_mtL B q j (some k) = some k := by
        cases j with
        | zero => rfl
        | succ j => exact if_neg (by omega)
      rw [e9] at hK
      exact hK
    · refine wp_iload_n dq_152_38 rfl ?_
      refine wp_iload_n dq_152_39 rfl ?_
      refine wp_ic_geN (tgt := 63) dq_152_40 rfl (by omega) (by omega) (fun c2 => ?_) (fun c2 => ?_)
      · have e9 : gm_mtL B q j (some k) = some k := by
          cases j with
          | zero => rfl
          | succ j => exact if_neg (by omega)
        rw [e9] at hK
        exact hK
      · refine wp_aload_n dq_152_43 rfl ?_
        refine wp_iload_n dq_152_44 rfl ?_
        refine wp_cve1 dq_152_45 mt_152_35 (ob_of (mw_0 hb)) ⟨by decide +kernel, by decide +kernel⟩ (Nat.le_of_ble_eq_true rfl) (Nat.le_of_ble_eq_true rfl) (c_byteAt hA (by omega)) ?_
        refine wp_bipush (x := nI 41) dq_152_48 rfl ?_
        refine wp_ic_eqN (tgt := 63) dq_152_50 rfl (by omega) (by omega) (fun c3 => ?_) (fun c3 => ?_)
        · have e9 : gm_mtL B q j (some k) = some k := by
            cases j with
            | zero => rfl
            | succ j => exact if_neg (by omega)
          rw [e9] at hK
          exact hK
        · refine wp_aload_n dq_152_53 rfl ?_
          refine wp_iload_n dq_152_54 rfl ?_
          refine wp_iload_n dq_152_55 rfl ?_
          refine wp_cve2 dq_152_56 mt_152_113 (ob_of (mw_0 hb)) ⟨by decide +kernel, by decide +kernel⟩ (Nat.le_of_ble_eq_true rfl) (Nat.le_of_ble_eq_true rfl) (c_ftm (d := d) hA (by omega) (by omega)) ?_
          refine wp_istore_n (lv' := [(0, .ref 13), (1, .int (nI i)), (2, .int (oI (gm_ft B k q))), (3, .int (nI q))]) dq_152_59 (by decide) rfl ?_
          refine wp_goto (tgt := 34) dq_152_60 rfl ?_
          have hk9 : k < q := by omega
          cases j with
          | zero => omega
          | succ j =>
            have e9 : gm_mtL B q (j + 1) (some k) = gm_mtL B q j (gm_ft B k q) := if_pos ⟨by omega, by omega⟩
            rw [e9] at hK
            exact ih j (Nat.lt_succ_self j) (gm_ft B k q) (fun k1 e1 => by have := gm_ft_in (by omega) e1; omega) hK
theorem gm_ft_q (B : Nat → Nat) (q : Nat) : gm_ft B q q = none := by
  have := gm_br_in (B := B) (Nat.le_refl q)
  unfold gm_ft
  rw [if_pos this.1]
/-- where the loop over the types ends -/
theorem mtL_e {B : Nat → Nat} {q : Nat} : ∀ j x, (∀ k, x = some k → k ≤ q ∧ q ≤ k + j) → ∀ k, gm_mtL B q j x = some k → k < q → B k = 41
  | 0, x, hx, k, e, hk => by
    have := hx k e
    omega
  | j + 1, none, hx, k, e, hk => by cases e
  | j + 1, some k0, hx, k, e, hk => by
    have h0 := hx k0 rfl
    unfold gm_mtL at e
    split at e
    · rename_i hc
      exact mtL_e j _ (fun k1 e1 => by have := gm_ft_in (by omega) e1; omega) k e hk
    · rename_i hc
      cases e
      rcases Decidable.em (B k0 = 41) with r | r
      · exact r
      · exact absurd ⟨hk, r⟩ hc
set_option maxRecDepth 100000 in
theorem c_mtmE {L : Nat} {xs : Nat → Int32} {d n : Nat} {B : Nat → Nat} {N : Nat → Int32} {h : List qx_E} {q i : Nat} (hA : AW h B n N) (hq : q ≤ n) (h0 : 0 < q) : ∀ x, (∀ k, x = some k → k ≤ q ∧ (k < q → B k = 41)) → wp_W L xs (d + 3) 152 63 [(0, .ref 13), (1, .int (nI i)), (2, .int (oI x)), (3, .int (nI q))] [] h (fun v h' => v = some (.int (bI (gm_mtE B q x))) ∧ h' = h) := by
  obtain ⟨s, fa, fb, fc, fd, hb, -⟩ := id hA
  have hn9 := AW_n hA
  intro x hx
  cases x with
  | none =>
    refine wp_iload_n dq_152_63 rfl ?_
    refine wp_if_lt (tgt := 74) dq_152_64 rfl (fun _ => ?_) (fun c => absurd (by decide) c)
    refine wp_iconst (x := nI 0) dq_152_74 rfl ?_
    exact wp_ire dq_152_75 rfl ⟨rfl, Or.inr (Or.inl rfl)⟩ ⟨rfl, rfl⟩
  | some k =>
    obtain ⟨hk1, h41⟩ := hx k rfl
    have hB : k + 1 < q → B (k + 1) < 256 := fun r => AW_B hA (by omega)
    show wp_W L xs _ 152 63 [(0, .ref 13), (1, .int (nI i)), (2, .int (nI k)), (3, .int (nI q))] [] h _
    refine wp_iload_n dq_152_63 rfl ?_
    refine wp_if_ltN (tgt := 74) dq_152_64 rfl (by omega) (fun c1 => ?_) (fun c1 => ?_)
    · refine wp_iconst (x := nI 0) dq_152_74 rfl ?_
      have e7 : gm_mtE B q (some k) = false := by
        show (if k < q ∧ B k = 41 then (decide (k + 2 = q ∧ B (k + 1) = 86) || decide (gm_ft B (k + 1) q = some q)) else false) = false
        split
        · rw [decide_eq_false (by omega), Bool.false_or, show k + 1 = q by omega, gm_ft_q]
          rfl
        · rfl
      exact wp_ire dq_152_75 rfl ⟨rfl, Or.inr (Or.inl rfl)⟩ ⟨sb0 e7, rfl⟩
    · refine wp_iload_n dq_152_67 rfl ?_
      refine wp_iload_n dq_152_68 rfl ?_
      refine wp_iconst (x := nI 1) dq_152_69 rfl ?_
      refine wp_isubN dq_152_70 (by omega) ?_
      refine wp_ic_ltN (tgt := 76) dq_152_71 rfl (by omega) (by omega) (fun c2 => ?_) (fun c2 => ?_)
      · refine wp_aload_n dq_152_76 rfl ?_
        refine wp_iload_n dq_152_77 rfl ?_
        refine wp_iconst (x := nI 1) dq_152_78 rfl ?_
        refine wp_iaddN dq_152_79 ?_
        refine wp_cve1 dq_152_80 mt_152_35 (ob_of (mw_0 hb)) ⟨by decide +kernel, by decide +kernel⟩ (Nat.le_of_ble_eq_true rfl) (Nat.le_of_ble_eq_true rfl) (c_byteAt hA (by omega)) ?_
        refine wp_bipush (x := nI 86) dq_152_83 rfl ?_
        refine wp_ic_neN (tgt := 95) dq_152_85 rfl (by omega) (by omega) (fun c3 => ?_) (fun c3 => ?_)
        · refine wp_aload_n dq_152_95 rfl ?_
          refine wp_iload_n dq_152_96 rfl ?_
          refine wp_iconst (x := nI 1) dq_152_97 rfl ?_
          refine wp_iaddN dq_152_98 ?_
          refine wp_iload_n dq_152_99 rfl ?_
          refine wp_cve2 dq_152_100 mt_152_113 (ob_of (mw_0 hb)) ⟨by decide +kernel, by decide +kernel⟩ (Nat.le_of_ble_eq_true rfl) (Nat.le_of_ble_eq_true rfl) (c_ftm (d := d) hA (by omega) (by omega)) ?_
          refine wp_iload_n dq_152_103 rfl ?_
          have e7 : gm_mtE B q (some k) = (decide (k + 2 = q ∧ B (k + 1) = 86) || decide (gm_ft B (k + 1) q = some q)) := if_pos ⟨by omega, h41 (by omega)⟩
          have e8 : ¬ (k + 2 = q ∧ B (k + 1) = 86) := by omega
          rw [decide_eq_false e8, Bool.false_or] at e7
          rw [e7]
          refine wp_ic_ne (tgt := 111) dq_152_104 rfl (fun c1 => ?_) (fun c1 => ?_)
          · refine wp_iconst (x := nI 0) dq_152_111 rfl ?_
            exact wp_ire dq_152_112 rfl ⟨rfl, Or.inr (Or.inl rfl)⟩ ⟨sv0 (fun r => c1 ((oI_eq (fun k e => by have := gm_ft_in (by omega) e; omega) (by omega)).mpr r)), rfl⟩
          · refine wp_iconst (x := nI 1) dq_152_107 rfl ?_
            refine wp_goto (tgt := 112) dq_152_108 rfl ?_
            exact wp_ire dq_152_112 rfl ⟨rfl, Or.inr (Or.inl rfl)⟩ ⟨sv1 ((oI_eq (fun k e => by have := gm_ft_in (by omega) e; omega) (by omega)).mp c1), rfl⟩
        · refine wp_iload_n dq_152_88 rfl ?_
          refine wp_iconst (x := nI 2) dq_152_89 rfl ?_
          refine wp_iaddN dq_152_90 ?_
          refine wp_iload_n dq_152_91 rfl ?_
          refine wp_ic_eqN (tgt := 107) dq_152_92 rfl (by omega) (by omega) (fun c4 => ?_) (fun c4 => ?_)
          · refine wp_iconst (x := nI 1) dq_152_107 rfl ?_
            refine wp_goto (tgt := 112) dq_152_108 rfl ?_
            have e7 : gm_mtE B q (some k) = true := by
              show (if k < q ∧ B k = 41 then (decide (k + 2 = q ∧ B (k + 1) = 86) || decide (gm_ft B (k + 1) q = some q)) else false) = true
              rw [if_pos ⟨by omega, h41 (by omega)⟩, decide_eq_true ⟨by omega, by omega⟩]
              rfl
            exact wp_ire dq_152_112 rfl ⟨rfl, Or.inr (Or.inl rfl)⟩ ⟨sb1 e7, rfl⟩
          · refine wp_aload_n dq_152_95 rfl ?_
            refine wp_iload_n dq_152_96 rfl ?_
            refine wp_iconst (x := nI 1) dq_152_97 rfl ?_
            refine wp_iaddN dq_152_98 ?_
            refine wp_iload_n dq_152_99 rfl ?_
            refine wp_cve2 dq_152_100 mt_152_113 (ob_of (mw_0 hb)) ⟨by decide +kernel, by decide +kernel⟩ (Nat.le_of_ble_eq_true rfl) (Nat.le_of_ble_eq_true rfl) (c_ftm (d := d) hA (by omega) (by omega)) ?_
            refine wp_iload_n dq_152_103 rfl ?_
            have e7 : gm_mtE B q (some k) = (decide (k + 2 = q ∧ B (k + 1) = 86) || decide (gm_ft B (k + 1) q = some q)) := if_pos ⟨by omega, h41 (by omega)⟩
            have e8 : ¬ (k + 2 = q ∧ B (k + 1) = 86) := by omega
            rw [decide_eq_false e8, Bool.false_or] at e7
            rw [e7]
            refine wp_ic_ne (tgt := 111) dq_152_104 rfl (fun c1 => ?_) (fun c1 => ?_)
            · refine wp_iconst (x := nI 0) dq_152_111 rfl ?_
              exact wp_ire dq_152_112 rfl ⟨rfl, Or.inr (Or.inl rfl)⟩ ⟨sv0 (fun r => c1 ((oI_eq (fun k e => by have := gm_ft_in (by omega) e; omega) (by omega)).mpr r)), rfl⟩
            · refine wp_iconst (x := nI 1) dq_152_107 rfl ?_
              refine wp_goto (tgt := 112) dq_152_108 rfl ?_
              exact wp_ire dq_152_112 rfl ⟨rfl, Or.inr (Or.inl rfl)⟩ ⟨sv1 ((oI_eq (fun k e => by have := gm_ft_in (by omega) e; omega) (by omega)).mp c1), rfl⟩
      · refine wp_iconst (x := nI 0) dq_152_74 rfl ?_
        have e7 : gm_mtE B q (some k) = false := by
          show (if k < q ∧ B k = 41 then (decide (k + 2 = q ∧ B (k + 1) = 86) || decide (gm_ft B (k + 1) q = some q)) else false) = false
          split
          · rw [decide_eq_false (by omega), Bool.false_or, show k + 1 = q by omega, gm_ft_q]
            rfl
          · rfl
        exact wp_ire dq_152_75 rfl ⟨rfl, Or.inr (Or.inl rfl)⟩ ⟨sb0 e7, rfl⟩
set_option maxRecDepth 100000 in
theorem c_ismt {L : Nat} {xs : Nat → Int32} {d n : Nat} {B T : Nat → Nat} {N : Nat → Int32} {h : List qx_E} (hA : AW h B n N) (hP : PQ B n T N) {i : Nat} (ht : tg B T i = 1) : qe_E L xs (d + 3) 152 [.ref 13, .int (nI i)] h (some (.int (bI (k_mt B T i)))) h := by
  obtain ⟨s, fa, fb, fc, fd, hb, -⟩ := id hA
  have hn9 := AW_n hA
  obtain ⟨a1, a2, a3, a4, a5, a6⟩ := pq_t hP ht
  have hte : te B T i = T i + 3 + tl B T i := rfl
  have hB : 0 < tl B T i → B (T i + 3) < 256 := fun r => AW_B hA (by omega)
  show wp_W L xs _ 152 0 [(0, .ref 13), (1, .int (nI i))] [] h _
  refine wp_aload_n dq_152_0 rfl ?_
  refine wp_iload_n dq_152_1 rfl ?_
  refine wp_cve1 dq_152_2 mt_152_45 (ob_of (mw_0 hb)) ⟨by decide +kernel, by decide +kernel⟩ (Nat.le_of_ble_eq_true rfl) (Nat.le_of_ble_eq_true rfl) (c_start (d := d + 1) hA hP (by rw [ht]; decide)) ?_
  refine wp_istore_n (lv' := [(0, .ref 13), (1, .int (nI i)), (2, .int (nI (T i + 3)))]) dq_152_5 (by decide) rfl ?_
  refine wp_iload_n dq_152_6 rfl ?_
  refine wp_aload_n dq_152_7 rfl ?_
  refine wp_iload_n dq_152_8 rfl ?_
  refine wp_cve1 dq_152_9 mt_152_48 (ob_of (mw_0 hb)) ⟨by decide +kernel, by decide +kernel⟩ (Nat.le_of_ble_eq_true rfl) (Nat.le_of_ble_eq_true rfl) (c_count (d := d) hA hP (by rw [ht]; decide)) ?_
  refine wp_iaddN dq_152_12 ?_
  refine wp_istore_n (lv' := [(0, .ref 13), (1, .int (nI i)), (2, .int (nI (T i + 3))), (3, .int (nI ((T i + 3) + (tl B T i))))]) dq_152_13 (by decide) rfl ?_
  refine wp_iload_n dq_152_14 rfl ?_
  refine wp_iload_n dq_152_15 rfl ?_
  refine wp_ic_eqN (tgt := 29) dq_152_16 rfl (by omega) (by omega) (fun c1 => ?_) (fun c1 => ?_)
  · refine wp_iconst (x := nI 0) dq_152_29 rfl ?_
    exact wp_ire dq_152_30 rfl ⟨rfl, Or.inr (Or.inl rfl)⟩ ⟨sb0 (show gm_mt B (T i + 3) (te B T i) = false from if_neg (fun r => by unfold te at r; omega)), rfl⟩
  · refine wp_aload_n dq_152_19 rfl ?_
    refine wp_iload_n dq_152_20 rfl ?_
    refine wp_cve1 dq_152_21 mt_152_35 (ob_of (mw_0 hb)) ⟨by decide +kernel, by decide +kernel⟩ (Nat.le_of_ble_eq_true rfl) (Nat.le_of_ble_eq_true rfl) (c_byteAt hA (by omega)) ?_
    refine wp_bipush (x := nI 40) dq_152_24 rfl ?_
    refine wp_ic_eqN (tgt := 31) dq_152_26 rfl (by omega) (by omega) (fun c2 => ?_) (fun c2 => ?_)
    · refine wp_iinc (y := nI ((T i + 3) + 1)) (lv' := [(0, .ref 13), (1, .int (nI i)), (2, .int (nI ((T i + 3) + 1))), (3, .int (nI ((T i + 3) + (tl B T i))))]) dq_152_31 rfl (nI_add _ _) (by decide) rfl ?_
      have h40 : B (T i + 3) = 40 := c2
      have e9 : k_mt B T i = gm_mtE B (T i + 3 + tl B T i) (gm_mtL B (T i + 3 + tl B T i) (tl B T i) (some (T i + 3 + 1))) := by
        unfold k_mt te gm_mt
        rw [if_pos ⟨by omega, h40⟩, Nat.add_sub_cancel_left]
      rw [e9]
      have hx9 : ∀ k, some (T i + 3 + 1) = some k → k ≤ T i + 3 + tl B T i ∧ T i + 3 + tl B T i ≤ k + tl B T i := fun k e => by cases e; omega
      exact c_mtmL hA (by omega) (tl B T i) (some (T i + 3 + 1)) hx9 (c_mtmE hA (by omega) (by omega) _ (fun k e => ⟨gm_mtL_in _ _ (fun k e => (hx9 k e).1) k e, mtL_e _ _ hx9 k e⟩))
    · refine wp_iconst (x := nI 0) dq_152_29 rfl ?_
      exact wp_ire dq_152_30 rfl ⟨rfl, Or.inr (Or.inl rfl)⟩ ⟨sb0 (show gm_mt B (T i + 3) (te B T i) = false from if_neg (fun r => by unfold te at r; omega)), rfl⟩
set_option maxRecDepth 100000 in
theorem c_alL {L : Nat} {xs : Nat → Int32} {d n : Nat} {B T : Nat → Nat} {N : Nat → Int32} {h : List qx_E} (hA : AW h B n N) (hP : PQ B n T N) {i j : Nat} (ht : tg B T i = 1) (hu : tg B T j = 1) (he : tl B T i = tl B T j) : ∀ g k, k + g = tl B T i → (∀ mm, mm < k → B (T i + 3 + mm) = B (T j + 3 + mm)) → wp_W L xs (d + 3) 159 17 [(0, .ref 13), (1, .int (nI i)), (2, .int (nI j)), (3, .int (nI k))] [] h (fun v h' => v = some (.int (bI (decide (tx B T i = tx B T j)))) ∧ h' = h) := by
  obtain ⟨s, fa, fb, fc, fd, hb, -⟩ := id hA
  have hn9 := AW_n hA
  obtain ⟨a1, a2, a3, a4, a5, a6⟩ := pq_t hP ht
  obtain ⟨b1, b2, b3, b4, b5, b6⟩ := pq_t hP hu
  intro g
  induction g with
  | zero =>
    intro k hi hk
    refine wp_iload_n dq_159_17 rfl ?_
    refine wp_aload_n dq_159_18 rfl ?_
    refine wp_iload_n dq_159_19 rfl ?_
    refine wp_cve1 dq_159_20 mt_159_48 (ob_of (mw_0 hb)) ⟨by decide +kernel, by decide +kernel⟩ (Nat.le_of_ble_eq_true rfl) (Nat.le_of_ble_eq_true rfl) (c_count (d := d) hA hP (by rw [ht]; decide)) ?_
    refine wp_ic_geN (tgt := 49) dq_159_23 rfl (by omega) (by omega) (fun c1 => ?_) (fun c1 => ?_)
    · refine wp_iconst (x := nI 1) dq_159_49 rfl ?_
      exact wp_ire dq_159_50 rfl ⟨rfl, Or.inr (Or.inl rfl)⟩ ⟨sv1 (tx_eq.mpr ⟨he, fun mm hm => hk mm (by omega)⟩), rfl⟩
    · exact absurd c1 (by omega)
  | succ g ih =>
    intro k hi hk
    have hB := a6 k (by omega)
    have hB2 := b6 k (by omega)
    refine wp_iload_n dq_159_17 rfl ?_
    refine wp_aload_n dq_159_18 rfl ?_
    refine wp_iload_n dq_159_19 rfl ?_
    refine wp_cve1 dq_159_20 mt_159_48 (ob_of (mw_0 hb)) ⟨by decide +kernel, by decide +kernel⟩ (Nat.le_of_ble_eq_true rfl) (Nat.le_of_ble_eq_true rfl) (c_count (d := d) hA hP (by rw [ht]; decide)) ?_
    refine wp_ic_geN (tgt := 49) dq_159_23 rfl (by omega) (by omega) (fun c1 => ?_) (fun c1 => ?_)
    · exact absurd c1 (by omega)
    · refine wp_aload_n dq_159_26 rfl ?_
      refine wp_iload_n dq_159_27 rfl ?_
      refine wp_iload_n dq_159_28 rfl ?_
      refine wp_cve2 dq_159_29 mt_159_53 (ob_of (mw_0 hb)) ⟨by decide +kernel, by decide +kernel⟩ (Nat.le_of_ble_eq_true rfl) (Nat.le_of_ble_eq_true rfl) (c_char (d := d) hA hP ht (j := k) (by omega)) ?_
      refine wp_aload_n dq_159_32 rfl ?_
      refine wp_iload_n dq_159_33 rfl ?_
      refine wp_iload_n dq_159_34 rfl ?_
      refine wp_cve2 dq_159_35 mt_159_53 (ob_of (mw_0 hb)) ⟨by decide +kernel, by decide +kernel⟩ (Nat.le_of_ble_eq_true rfl) (Nat.le_of_ble_eq_true rfl) (c_char (d := d) hA hP hu (j := k) (by omega)) ?_
      refine wp_ic_eqN (tgt := 43) dq_159_38 rfl (by omega) (by omega) (fun c2 => ?_) (fun c2 => ?_)
      · refine wp_iinc (y := nI (k + 1)) (lv' := [(0, .ref 13), (1, .int (nI i)), (2, .int (nI j)), (3, .int (nI (k + 1)))]) dq_159_43 rfl (nI_add _ _) (by decide) rfl ?_
        refine wp_goto (tgt := 17) dq_159_46 rfl ?_
        refine ih (k + 1) (by omega) (fun mm hm => ?_)
        rcases Nat.lt_or_ge mm k with r | r
        · exact hk mm r
        · rw [show mm = k by omega]
          exact c2
      · refine wp_iconst (x := nI 0) dq_159_41 rfl ?_
        exact wp_ire dq_159_42 rfl ⟨rfl, Or.inr (Or.inl rfl)⟩ ⟨sv0 (fun r => c2 ((tx_eq.mp r).2 k (by omega))), rfl⟩
set_option maxRecDepth 100000 in
theorem c_alike {L : Nat} {xs : Nat → Int32} {d n : Nat} {B T : Nat → Nat} {N : Nat → Int32} {h : List qx_E} (hA : AW h B n N) (hP : PQ B n T N) {i j : Nat} (ht : tg B T i = 1) (hu : tg B T j = 1) : qe_E L xs (d + 3) 159 [.ref 13, .int (nI i), .int (nI j)] h (some (.int (bI (decide (tx B T i = tx B T j))))) h := by
  obtain ⟨s, fa, fb, fc, fd, hb, -⟩ := id hA
  have hn9 := AW_n hA
  obtain ⟨a1, a2, a3, a4, a5, a6⟩ := pq_t hP ht
  obtain ⟨b1, b2, b3, b4, b5, b6⟩ := pq_t hP hu
  show wp_W L xs _ 159 0 [(0, .ref 13), (1, .int (nI i)), (2, .int (nI j))] [] h _
  refine wp_aload_n dq_159_0 rfl ?_
  refine wp_iload_n dq_159_1 rfl ?_
  refine wp_cve1 dq_159_2 mt_159_48 (ob_of (mw_0 hb)) ⟨by decide +kernel, by decide +kernel⟩ (Nat.le_of_ble_eq_true rfl) (Nat.le_of_ble_eq_true rfl) (c_count (d := d) hA hP (by rw [ht]; decide)) ?_
  refine wp_aload_n dq_159_5 rfl ?_
  refine wp_iload_n dq_159_6 rfl ?_
  refine wp_cve1 dq_159_7 mt_159_48 (ob_of (mw_0 hb)) ⟨by decide +kernel, by decide +kernel⟩ (Nat.le_of_ble_eq_true rfl) (Nat.le_of_ble_eq_true rfl) (c_count (d := d) hA hP (by rw [hu]; decide)) ?_
  refine wp_ic_eqN (tgt := 15) dq_159_10 rfl (by omega) (by omega) (fun c1 => ?_) (fun c1 => ?_)
  · refine wp_iconst (x := nI 0) dq_159_15 rfl ?_
    refine wp_istore_n (lv' := [(0, .ref 13), (1, .int (nI i)), (2, .int (nI j)), (3, .int (nI 0))]) dq_159_16 (by decide) rfl ?_
    exact c_alL hA hP ht hu c1 (tl B T i) 0 (by omega) (fun mm hm => by omega)
  · refine wp_iconst (x := nI 0) dq_159_13 rfl ?_
    exact wp_ire dq_159_14 rfl ⟨rfl, Or.inr (Or.inl rfl)⟩ ⟨sv0 (fun r => c1 (tx_eq.mp r).1), rfl⟩
/-! words as numbers: eight characters a number -/
def pkw (C : Nat → Nat) (lo : Nat) : Nat → Nat
  | 0 => 0
  | t + 1 => pkw C lo t * 128 + C (lo + t)
theorem pkw_lt {C : Nat → Nat} {lo : Nat} : ∀ t, (∀ m, m < t → C (lo + m) < 128) → pkw C lo t < 128 ^ t
  | 0, _ => Nat.one_pos
  | t + 1, h => by
    have h1 := pkw_lt t (fun m hm => h m (by omega))
    have h2 := h t (by omega)
    show pkw C lo t * 128 + C (lo + t) < 128 ^ (t + 1)
    rw [Nat.pow_succ]
    omega
theorem pkw_inj {C W : Nat → Nat} {lo : Nat} : ∀ t, (∀ m, m < t → C (lo + m) < 128) → (∀ m, m < t → W (lo + m) < 128) → pkw C lo t = pkw W lo t → ∀ m, m < t → C (lo + m) = W (lo + m)
  | 0, _, _, _, m, hm => by omega
  | t + 1, h1, h2, e, m, hm => by
    have e1 : pkw C lo t * 128 + C (lo + t) = pkw W lo t * 128 + W (lo + t) := e
    have a1 := h1 t (by omega)
    have a2 := h2 t (by omega)
    rcases Nat.lt_or_ge m t with r | r
    · exact pkw_inj t (fun m hm => h1 m (by omega)) (fun m hm => h2 m (by omega)) (by omega) m r
    · rw [show m = t by omega]
      omega
theorem pkw_c {C W : Nat → Nat} {lo : Nat} : ∀ t, (∀ m, m < t → C (lo + m) = W (lo + m)) → pkw C lo t = pkw W lo t
  | 0, _ => rfl
  | t + 1, h => by
    show pkw C lo t * 128 + C (lo + t) = pkw W lo t * 128 + W (lo + t)
    rw [pkw_c t (fun m hm => h m (by omega)), h t (by omega)]
theorem sm_7 {C : Nat → Nat} {x k : Nat} (h : x = pkw C (8 * (k / 8)) (k % 8)) : x * 128 + C k = pkw C (8 * (k / 8)) (k % 8 + 1) := by
  rw [h]
  show _ = pkw C (8 * (k / 8)) (k % 8) * 128 + C (8 * (k / 8) + k % 8)
  rw [Nat.div_add_mod]
theorem sm_9 {C W : Nat → Nat} {k : Nat} (h1 : ∀ m, m < 8 * (k / 8) → C m = W m) (hC : ∀ m, m < k + 1 → C m < 128) (hW : ∀ m, m < k + 1 → W m < 128) (e : pkw C (8 * (k / 8)) (k % 8 + 1) = pkw W (8 * (k / 8)) (k % 8 + 1)) : ∀ m, m < k + 1 → C m = W m := by
  intro m hm
  have hk := Nat.div_add_mod k 8
  have e8 := pkw_inj (k % 8 + 1) (fun m hm => hC _ (by omega)) (fun m hm => hW _ (by omega)) e
  rcases Nat.lt_or_ge m (8 * (k / 8)) with r | r
  · exact h1 m r
  · have := e8 (m - 8 * (k / 8)) (by omega)
    rw [Nat.add_sub_cancel' r] at this
    exact this
theorem sm_0 {C W : Nat → Nat} {k : Nat} (h : ∀ m, m < k + 1 → C m = W m) : pkw C (8 * (k / 8)) (k % 8 + 1) = pkw W (8 * (k / 8)) (k % 8 + 1) := pkw_c _ (fun m hm => h _ (by have := Nat.div_add_mod k 8; omega))
theorem sm_a {k : Nat} (h : ¬ k % 8 = 7) : (k + 1) / 8 = k / 8 ∧ (k + 1) % 8 = k % 8 + 1 := by omega
theorem sm_b {k : Nat} (h : k % 8 = 7) : 8 * ((k + 1) / 8) = k + 1 ∧ (k + 1) % 8 = 0 := by omega
theorem sm_d {k lo : Nat} (h : lo % 8 = 0) (h1 : lo ≤ k) (h2 : k < lo + 8) : 8 * (k / 8) = lo := by omega
def pkb (w : List Nat) (lo : Nat) : Nat := pkw (fun m => w.getD m 0) lo (min 8 (w.length - lo))
theorem pkb_lt {w : List Nat} (hw : ∀ m, m < w.length → w.getD m 0 < 128) (lo : Nat) : pkb w lo < 72057594037927936 := by
  have h1 := pkw_lt (C := fun m => w.getD m 0) (lo := lo) (min 8 (w.length - lo)) (fun m hm => hw (lo + m) (by omega))
  have h2 : 128 ^ (min 8 (w.length - lo)) ≤ 128 ^ 8 := Nat.pow_le_pow_right (by decide) (by omega)
  unfold pkb
  have h3 : 128 ^ 8 = 72057594037927936 := by decide
  omega
theorem sm_6 {w : List Nat} {c k lo : Nat} (hc : w.length = c) (hk : k < c) (hb : k % 8 = 7 ∨ k = c - 1) (hlo : 8 * (k / 8) = lo) : pkb w lo = pkw (fun m => w.getD m 0) (8 * (k / 8)) (k % 8 + 1) := by
  rw [pkb, hlo, hc, show min 8 (c - lo) = k % 8 + 1 by omega]
set_option maxRecDepth 100000 in
theorem c_samL {L : Nat} {xs : Nat → Int32} {d n : Nat} {B T : Nat → Nat} {N : Nat → Int32} {h : List qx_E} (hA : AW h B n N) (hP : PQ B n T N) {i : Nat} (ht : tg B T i = 1) {w : List Nat} {c x0 x1 x2 : Nat} (hc : w.length = c) (hw : ∀ m, m < c → w.getD m 0 < 128) (hc0 : 0 < c) (hc9 : c ≤ 24) (h0 : pkb w 0 = x0) (h1 : pkb w 8 = x1) (h2 : pkb w 16 = x2) (hl : tl B T i = c) : ∀ g k x, k + g = c → (k < c → (∀ mm, mm < 8 * (k / 8) → B (T i + 3 + mm) = w.getD mm 0) ∧ x = pkw (fun m => B (T i + 3 + m)) (8 * (k / 8)) (k % 8)) → (k = c → ∀ mm, mm < c → B (T i + 3 + mm) = w.getD mm 0) → wp_W L xs (d + 3) 151 17 [(0, .ref 13), (1, .int (nI i)), (2, .int (nI c)), (3, .long (lN x0)), (5, .long (lN x1)), (7, .long (lN x2)), (9, .long (lN x)), (11, .int (nI k))] [] h (fun v h' => v = some (.int (bI (decide (tx B T i = w)))) ∧ h' = h) := by
  obtain ⟨s, fa, fb, fc, fd, hb, -⟩ := id hA
  have hn9 := AW_n hA
  obtain ⟨a1, a2, a3, a4, a5, a6⟩ := pq_t hP ht
  have hte : te B T i = T i + 3 + tl B T i := rfl
  have hx0 := pkb_lt (hc ▸ hw) 0
  have hx1 := pkb_lt (hc ▸ hw) 8
  have hx2 := pkb_lt (hc ▸ hw) 16
  rw [h0] at hx0
  rw [h1] at hx1
  rw [h2] at hx2
  have hC : ∀ mm, mm < c → B (T i + 3 + mm) < 128 := fun mm hm => by have := a6 mm (by omega); omega
  intro g
  induction g with
  | zero =>
    intro k x hi _ hE
    refine wp_iload dq_151_17 rfl ?_
    refine wp_iload_n dq_151_19 rfl ?_
    refine wp_ic_geN (tgt := 103) dq_151_20 rfl (by omega) (by omega) (fun c1 => ?_) (fun c1 => absurd c1 (by omega))
    refine wp_iconst (x := nI 1) dq_151_103 rfl ?_
    exact wp_ire dq_151_104 rfl ⟨rfl, Or.inr (Or.inl rfl)⟩ ⟨sv1 (tx_iff.mpr ⟨by omega, fun mm hm => hE (by omega) mm (by omega)⟩), rfl⟩
  | succ g ih =>
    intro k x hi hI _
    have hkc : k < c := by omega
    obtain ⟨hI1, hI2⟩ := hI hkc
    have hB := a6 k (by omega)
    have hxx := pkw_lt (C := (fun m => B (T i + 3 + m))) (lo := 8 * (k / 8)) (k % 8) (fun mm hm => hC _ (by omega))
    have hxy : 128 ^ (k % 8) ≤ 128 ^ 7 := Nat.pow_le_pow_right (by decide) (by omega)
    rw [← hI2] at hxx
    have hxz : 128 ^ 7 = 562949953421312 := by decide
    refine wp_iload dq_151_17 rfl ?_
    refine wp_iload_n dq_151_19 rfl ?_
    refine wp_ic_geN (tgt := 103) dq_151_20 rfl (by omega) (by omega) (fun c1 => ?_) (fun c1 => ?_)
    · exact absurd c1 (by omega)
    · refine wp_lload dq_151_23 rfl ?_
      refine wp_ldc2 (v := lN 128) dq_151_25 (by decide +kernel) ?_
      refine wp_lmulN dq_151_28 ?_
      refine wp_aload_n dq_151_29 rfl ?_
      refine wp_iload_n dq_151_30 rfl ?_
      refine wp_iload dq_151_31 rfl ?_
      refine wp_cve2 dq_151_33 mt_151_53 (ob_of (mw_0 hb)) ⟨by decide +kernel, by decide +kernel⟩ (Nat.le_of_ble_eq_true rfl) (Nat.le_of_ble_eq_true rfl) (c_char (d := d) hA hP ht (j := k) (by omega)) ?_
      refine wp_i2lN dq_151_36 (by omega) ?_
      refine wp_laddN dq_151_37 ?_
      refine wp_lstore (lv' := [(0, .ref 13), (1, .int (nI i)), (2, .int (nI c)), (3, .long (lN x0)), (5, .long (lN x1)), (7, .long (lN x2)), (9, .long (lN ((x * 128) + (B (T i + 3 + k))))), (11, .int (nI k))]) dq_151_38 (by decide) rfl ?_
      refine wp_iload dq_151_40 rfl ?_
      refine wp_bipush (x := nI 8) dq_151_42 rfl ?_
      refine wp_iremN dq_151_44 (by omega) (by decide) (by decide) ?_
      refine wp_bipush (x := nI 7) dq_151_45 rfl ?_
      refine wp_ic_eqN (tgt := 61) dq_151_47 rfl (by omega) (by omega) (fun c2 => ?_) (fun c2 => ?_)
      · refine wp_lload dq_151_61 rfl ?_
        refine wp_iload dq_151_63 rfl ?_
        refine wp_bipush (x := nI 8) dq_151_65 rfl ?_
        refine wp_ic_geN (tgt := 74) dq_151_67 rfl (by omega) (by omega) (fun c3 => ?_) (fun c3 => ?_)
        · refine wp_iload dq_151_74 rfl ?_
          refine wp_bipush (x := nI 16) dq_151_76 rfl ?_
          refine wp_ic_geN (tgt := 86) dq_151_78 rfl (by omega) (by omega) (fun c4 => ?_) (fun c4 => ?_)
          · refine wp_lload dq_151_86 rfl ?_
            refine wp_lc_eqN (tgt := 94) dq_151_88 dq_151_89 rfl (by omega) (by omega) (fun c5 => ?_) (fun c5 => ?_)
            · refine wp_lconst (x := lN 0) dq_151_94 rfl ?_
              refine wp_lstore (lv' := [(0, .ref 13), (1, .int (nI i)), (2, .int (nI c)), (3, .long (lN x0)), (5, .long (lN x1)), (7, .long (lN x2)), (9, .long (lN 0)), (11, .int (nI k))]) dq_151_95 (by decide) rfl ?_
              refine wp_iinc (y := nI (k + 1)) (lv' := [(0, .ref 13), (1, .int (nI i)), (2, .int (nI c)), (3, .long (lN x0)), (5, .long (lN x1)), (7, .long (lN x2)), (9, .long (lN 0)), (11, .int (nI (k + 1)))]) dq_151_97 rfl (nI_add _ _) (by decide) rfl ?_
              refine wp_goto (tgt := 17) dq_151_100 rfl ?_
              have e6 := h2.symm.trans (sm_6 (lo := 16) hc hkc (Or.inl c2) (sm_d (by decide) (by omega) (by omega)))
              have e9 := sm_9 hI1 (fun mm hm => hC mm (by omega)) (fun mm hm => hw mm (by omega)) ((sm_7 (C := (fun m => B (T i + 3 + m))) hI2).symm.trans (c5.trans e6))
              have hm9 := sm_b c2
              refine ih (k + 1) 0 (by omega) (fun hk9 => ⟨?_, ?_⟩) (fun hk9 mm hm => e9 mm (by omega))
              · rw [hm9.1]
                exact e9
              · rw [hm9.2]
                rfl
            · refine wp_iconst (x := nI 0) dq_151_92 rfl ?_
              have e6 := h2.symm.trans (sm_6 (lo := 16) hc hkc (Or.inl c2) (sm_d (by decide) (by omega) (by omega)))
              exact wp_ire dq_151_93 rfl ⟨rfl, Or.inr (Or.inl rfl)⟩ ⟨sv0 (fun r => c5 ((sm_7 (C := (fun m => B (T i + 3 + m))) hI2).trans ((sm_0 (fun mm hm => (tx_iff.mp r).2 mm (by omega))).trans e6.symm))), rfl⟩
          · refine wp_lload dq_151_81 rfl ?_
            refine wp_goto (tgt := 88) dq_151_83 rfl ?_
            refine wp_lc_eqN (tgt := 94) dq_151_88 dq_151_89 rfl (by omega) (by omega) (fun c6 => ?_) (fun c6 => ?_)
            · refine wp_lconst (x := lN 0) dq_151_94 rfl ?_
              refine wp_lstore (lv' := [(0, .ref 13), (1, .int (nI i)), (2, .int (nI c)), (3, .long (lN x0)), (5, .long (lN x1)), (7, .long (lN x2)), (9, .long (lN 0)), (11, .int (nI k))]) dq_151_95 (by decide) rfl ?_
              refine wp_iinc (y := nI (k + 1)) (lv' := [(0, .ref 13), (1, .int (nI i)), (2, .int (nI c)), (3, .long (lN x0)), (5, .long (lN x1)), (7, .long (lN x2)), (9, .long (lN 0)), (11, .int (nI (k + 1)))]) dq_151_97 rfl (nI_add _ _) (by decide) rfl ?_
              refine wp_goto (tgt := 17) dq_151_100 rfl ?_
              have e6 := h1.symm.trans (sm_6 (lo := 8) hc hkc (Or.inl c2) (sm_d (by decide) (by omega) (by omega)))
              have e9 := sm_9 hI1 (fun mm hm => hC mm (by omega)) (fun mm hm => hw mm (by omega)) ((sm_7 (C := (fun m => B (T i + 3 + m))) hI2).symm.trans (c6.trans e6))
              have hm9 := sm_b c2
              refine ih (k + 1) 0 (by omega) (fun hk9 => ⟨?_, ?_⟩) (fun hk9 mm hm => e9 mm (by omega))
              · rw [hm9.1]
                exact e9
              · rw [hm9.2]
                rfl
            · refine wp_iconst (x := nI 0) dq_151_92 rfl ?_
              have e6 := h1.symm.trans (sm_6 (lo := 8) hc hkc (Or.inl c2) (sm_d (by decide) (by omega) (by omega)))
              exact wp_ire dq_151_93 rfl ⟨rfl, Or.inr (Or.inl rfl)⟩ ⟨sv0 (fun r => c6 ((sm_7 (C := (fun m => B (T i + 3 + m))) hI2).trans ((sm_0 (fun mm hm => (tx_iff.mp r).2 mm (by omega))).trans e6.symm))), rfl⟩
        · refine wp_lload_n dq_151_70 rfl ?_
          refine wp_goto (tgt := 88) dq_151_71 rfl ?_
          refine wp_lc_eqN (tgt := 94) dq_151_88 dq_151_89 rfl (by omega) (by omega) (fun c7 => ?_) (fun c7 => ?_)
          · refine wp_lconst (x := lN 0) dq_151_94 rfl ?_
            refine wp_lstore (lv' := [(0, .ref 13), (1, .int (nI i)), (2, .int (nI c)), (3, .long (lN x0)), (5, .long (lN x1)), (7, .long (lN x2)), (9, .long (lN 0)), (11, .int (nI k))]) dq_151_95 (by decide) rfl ?_
            refine wp_iinc (y := nI (k + 1)) (lv' := [(0, .ref 13), (1, .int (nI i)), (2, .int (nI c)), (3, .long (lN x0)), (5, .long (lN x1)), (7, .long (lN x2)), (9, .long (lN 0)), (11, .int (nI (k + 1)))]) dq_151_97 rfl (nI_add _ _) (by decide) rfl ?_
            refine wp_goto (tgt := 17) dq_151_100 rfl ?_
            have e6 := h0.symm.trans (sm_6 (lo := 0) hc hkc (Or.inl c2) (sm_d (by decide) (by omega) (by omega)))
            have e9 := sm_9 hI1 (fun mm hm => hC mm (by omega)) (fun mm hm => hw mm (by omega)) ((sm_7 (C := (fun m => B (T i + 3 + m))) hI2).symm.trans (c7.trans e6))
            have hm9 := sm_b c2
            refine ih (k + 1) 0 (by omega) (fun hk9 => ⟨?_, ?_⟩) (fun hk9 mm hm => e9 mm (by omega))
            · rw [hm9.1]
              exact e9
            · rw [hm9.2]
              rfl
          · refine wp_iconst (x := nI 0) dq_151_92 rfl ?_
            have e6 := h0.symm.trans (sm_6 (lo := 0) hc hkc (Or.inl c2) (sm_d (by decide) (by omega) (by omega)))
            exact wp_ire dq_151_93 rfl ⟨rfl, Or.inr (Or.inl rfl)⟩ ⟨sv0 (fun r => c7 ((sm_7 (C := (fun m => B (T i + 3 + m))) hI2).trans ((sm_0 (fun mm hm => (tx_iff.mp r).2 mm (by omega))).trans e6.symm))), rfl⟩
      · refine wp_iload dq_151_50 rfl ?_
        refine wp_iload_n dq_151_52 rfl ?_
        refine wp_iconst (x := nI 1) dq_151_53 rfl ?_
        refine wp_isubN dq_151_54 (by omega) ?_
        refine wp_ic_eqN (tgt := 61) dq_151_55 rfl (by omega) (by omega) (fun c8 => ?_) (fun c8 => ?_)
        · refine wp_lload dq_151_61 rfl ?_
          refine wp_iload dq_151_63 rfl ?_
          refine wp_bipush (x := nI 8) dq_151_65 rfl ?_
          refine wp_ic_geN (tgt := 74) dq_151_67 rfl (by omega) (by omega) (fun c9 => ?_) (fun c9 => ?_)
          · refine wp_iload dq_151_74 rfl ?_
            refine wp_bipush (x := nI 16) dq_151_76 rfl ?_
            refine wp_ic_geN (tgt := 86) dq_151_78 rfl (by omega) (by omega) (fun c10 => ?_) (fun c10 => ?_)
            · refine wp_lload dq_151_86 rfl ?_
              refine wp_lc_eqN (tgt := 94) dq_151_88 dq_151_89 rfl (by omega) (by omega) (fun c11 => ?_) (fun c11 => ?_)
              · refine wp_lconst (x := lN 0) dq_151_94 rfl ?_
                refine wp_lstore (lv' := [(0, .ref 13), (1, .int (nI i)), (2, .int (nI c)), (3, .long (lN x0)), (5, .long (lN x1)), (7, .long (lN x2)), (9, .long (lN 0)), (11, .int (nI k))]) dq_151_95 (by decide) rfl ?_
                refine wp_iinc (y := nI (k + 1)) (lv' := [(0, .ref 13), (1, .int (nI i)), (2, .int (nI c)), (3, .long (lN x0)), (5, .long (lN x1)), (7, .long (lN x2)), (9, .long (lN 0)), (11, .int (nI (k + 1)))]) dq_151_97 rfl (nI_add _ _) (by decide) rfl ?_
                refine wp_goto (tgt := 17) dq_151_100 rfl ?_
                have e6 := h2.symm.trans (sm_6 (lo := 16) hc hkc (Or.inr c8) (sm_d (by decide) (by omega) (by omega)))
                have e9 := sm_9 hI1 (fun mm hm => hC mm (by omega)) (fun mm hm => hw mm (by omega)) ((sm_7 (C := (fun m => B (T i + 3 + m))) hI2).symm.trans (c11.trans e6))
                exact ih (k + 1) 0 (by omega) (fun hk9 => absurd hk9 (by omega)) (fun hk9 mm hm => e9 mm (by omega))
              · refine wp_iconst (x := nI 0) dq_151_92 rfl ?_
                have e6 := h2.symm.trans (sm_6 (lo := 16) hc hkc (Or.inr c8) (sm_d (by decide) (by omega) (by omega)))
                exact wp_ire dq_151_93 rfl ⟨rfl, Or.inr (Or.inl rfl)⟩ ⟨sv0 (fun r => c11 ((sm_7 (C := (fun m => B (T i + 3 + m))) hI2).trans ((sm_0 (fun mm hm => (tx_iff.mp r).2 mm (by omega))).trans e6.symm))), rfl⟩
            · refine wp_lload dq_151_81 rfl ?_
              refine wp_goto (tgt := 88) dq_151_83 rfl ?_
              refine wp_lc_eqN (tgt := 94) dq_151_88 dq_151_89 rfl (by omega) (by omega) (fun c12 => ?_) (fun c12 => ?_)
              · refine wp_lconst (x := lN 0) dq_151_94 rfl ?_
                refine wp_lstore (lv' := [(0, .ref 13), (1, .int (nI i)), (2, .int (nI c)), (3, .long (lN x0)), (5, .long (lN x1)), (7, .long (lN x2)), (9, .long (lN 0)), (11, .int (nI k))]) dq_151_95 (by decide) rfl ?_
                refine wp_iinc (y := nI (k + 1)) (lv' := [(0, .ref 13), (1, .int (nI i)), (2, .int (nI c)), (3, .long (lN x0)), (5, .long (lN x1)), (7, .long (lN x2)), (9, .long (lN 0)), (11, .int (nI (k + 1)))]) dq_151_97 rfl (nI_add _ _) (by decide) rfl ?_
                refine wp_goto (tgt := 17) dq_151_100 rfl ?_
                have e6 := h1.symm.trans (sm_6 (lo := 8) hc hkc (Or.inr c8) (sm_d (by decide) (by omega) (by omega)))
                have e9 := sm_9 hI1 (fun mm hm => hC mm (by omega)) (fun mm hm => hw mm (by omega)) ((sm_7 (C := (fun m => B (T i + 3 + m))) hI2).symm.trans (c12.trans e6))
                exact ih (k + 1) 0 (by omega) (fun hk9 => absurd hk9 (by omega)) (fun hk9 mm hm => e9 mm (by omega))
              · refine wp_iconst (x := nI 0) dq_151_92 rfl ?_
                have e6 := h1.symm.trans (sm_6 (lo := 8) hc hkc (Or.inr c8) (sm_d (by decide) (by omega) (by omega)))
                exact wp_ire dq_151_93 rfl ⟨rfl, Or.inr (Or.inl rfl)⟩ ⟨sv0 (fun r => c12 ((sm_7 (C := (fun m => B (T i + 3 + m))) hI2).trans ((sm_0 (fun mm hm => (tx_iff.mp r).2 mm (by omega))).trans e6.symm))), rfl⟩
          · refine wp_lload_n dq_151_70 rfl ?_
            refine wp_goto (tgt := 88) dq_151_71 rfl ?_
            refine wp_lc_eqN (tgt := 94) dq_151_88 dq_151_89 rfl (by omega) (by omega) (fun c13 => ?_) (fun c13 => ?_)
            · refine wp_lconst (x := lN 0) dq_151_94 rfl ?_
              refine wp_lstore (lv' := [(0, .ref 13), (1, .int (nI i)), (2, .int (nI c)), (3, .long (lN x0)), (5, .long (lN x1)), (7, .long (lN x2)), (9, .long (lN 0)), (11, .int (nI k))]) dq_151_95 (by decide) rfl ?_
              refine wp_iinc (y := nI (k + 1)) (lv' := [(0, .ref 13), (1, .int (nI i)), (2, .int (nI c)), (3, .long (lN x0)), (5, .long (lN x1)), (7, .long (lN x2)), (9, .long (lN 0)), (11, .int (nI (k + 1)))]) dq_151_97 rfl (nI_add _ _) (by decide) rfl ?_
              refine wp_goto (tgt := 17) dq_151_100 rfl ?_
              have e6 := h0.symm.trans (sm_6 (lo := 0) hc hkc (Or.inr c8) (sm_d (by decide) (by omega) (by omega)))
              have e9 := sm_9 hI1 (fun mm hm => hC mm (by omega)) (fun mm hm => hw mm (by omega)) ((sm_7 (C := (fun m => B (T i + 3 + m))) hI2).symm.trans (c13.trans e6))
              exact ih (k + 1) 0 (by omega) (fun hk9 => absurd hk9 (by omega)) (fun hk9 mm hm => e9 mm (by omega))
            · refine wp_iconst (x := nI 0) dq_151_92 rfl ?_
              have e6 := h0.symm.trans (sm_6 (lo := 0) hc hkc (Or.inr c8) (sm_d (by decide) (by omega) (by omega)))
              exact wp_ire dq_151_93 rfl ⟨rfl, Or.inr (Or.inl rfl)⟩ ⟨sv0 (fun r => c13 ((sm_7 (C := (fun m => B (T i + 3 + m))) hI2).trans ((sm_0 (fun mm hm => (tx_iff.mp r).2 mm (by omega))).trans e6.symm))), rfl⟩
        · refine wp_goto (tgt := 97) dq_151_58 rfl ?_
          refine wp_iinc (y := nI (k + 1)) (lv' := [(0, .ref 13), (1, .int (nI i)), (2, .int (nI c)), (3, .long (lN x0)), (5, .long (lN x1)), (7, .long (lN x2)), (9, .long (lN ((x * 128) + (B (T i + 3 + k))))), (11, .int (nI (k + 1)))]) dq_151_97 rfl (nI_add _ _) (by decide) rfl ?_
          refine wp_goto (tgt := 17) dq_151_100 rfl ?_
          have hm9 := sm_a c2
          refine ih (k + 1) _ (by omega) (fun hk9 => ⟨?_, ?_⟩) (fun hk9 => absurd hk9 (by omega))
          · rw [hm9.1]
            exact hI1
          · rw [hm9.1, hm9.2, sm_7 hI2]
set_option maxRecDepth 100000 in
theorem c_sam {L : Nat} {xs : Nat → Int32} {d n : Nat} {B T : Nat → Nat} {N : Nat → Int32} {h : List qx_E} (hA : AW h B n N) (hP : PQ B n T N) {i : Nat} (ht : tg B T i = 1) {w : List Nat} {c x0 x1 x2 : Nat} (hc : w.length = c) (hw : ∀ m, m < c → w.getD m 0 < 128) (hc0 : 0 < c) (hc9 : c ≤ 24) (h0 : pkb w 0 = x0) (h1 : pkb w 8 = x1) (h2 : pkb w 16 = x2) : qe_E L xs (d + 3) 151 [.ref 13, .int (nI i), .int (nI c), .long (lN x0), .long (lN x1), .long (lN x2)] h (some (.int (bI (decide (tx B T i = w))))) h := by
  obtain ⟨s, fa, fb, fc, fd, hb, -⟩ := id hA
  have hn9 := AW_n hA
  obtain ⟨a1, a2, a3, a4, a5, a6⟩ := pq_t hP ht
  have hte : te B T i = T i + 3 + tl B T i := rfl
  show wp_W L xs _ 151 0 [(0, .ref 13), (1, .int (nI i)), (2, .int (nI c)), (3, .long (lN x0)), (5, .long (lN x1)), (7, .long (lN x2))] [] h _
  refine wp_aload_n dq_151_0 rfl ?_
  refine wp_iload_n dq_151_1 rfl ?_
  refine wp_cve1 dq_151_2 mt_151_48 (ob_of (mw_0 hb)) ⟨by decide +kernel, by decide +kernel⟩ (Nat.le_of_ble_eq_true rfl) (Nat.le_of_ble_eq_true rfl) (c_count (d := d) hA hP (by rw [ht]; decide)) ?_
  refine wp_iload_n dq_151_5 rfl ?_
  refine wp_ic_eqN (tgt := 11) dq_151_6 rfl (by omega) (by omega) (fun c1 => ?_) (fun c1 => ?_)
  · refine wp_lconst (x := lN 0) dq_151_11 rfl ?_
    refine wp_lstore (lv' := [(0, .ref 13), (1, .int (nI i)), (2, .int (nI c)), (3, .long (lN x0)), (5, .long (lN x1)), (7, .long (lN x2)), (9, .long (lN 0))]) dq_151_12 (by decide) rfl ?_
    refine wp_iconst (x := nI 0) dq_151_14 rfl ?_
    refine wp_istore (lv' := [(0, .ref 13), (1, .int (nI i)), (2, .int (nI c)), (3, .long (lN x0)), (5, .long (lN x1)), (7, .long (lN x2)), (9, .long (lN 0)), (11, .int (nI 0))]) dq_151_15 (by decide) rfl ?_
    exact c_samL hA hP ht hc hw hc0 hc9 h0 h1 h2 c1 c 0 0 (by omega) (fun _ => ⟨fun mm hm => by omega, rfl⟩) (fun r => by omega)
  · refine wp_iconst (x := nI 0) dq_151_9 rfl ?_
    exact wp_ire dq_151_10 rfl ⟨rfl, Or.inr (Or.inl rfl)⟩ ⟨sv0 (fun r => c1 ((tx_iff.mp r).1.trans hc)), rfl⟩
def kn (l : List Nat) : Nat := if l = wd 23 then 1 else if l = wd 18 then 2 else if l = wd 19 then 3 else if l = wd 25 then 4 else if l = wd 17 then 5 else if l = wd 21 then 6 else if l = wd 22 then 7 else if l = wd 24 then 8 else if l = wd 20 then 9 else if l = wd 16 then 10 else if l = wd 14 then 11 else if l = wd 15 then 12 else 0
set_option maxRecDepth 100000 in
theorem c_kn {L : Nat} {xs : Nat → Int32} {d n : Nat} {B T : Nat → Nat} {N : Nat → Int32} {h : List qx_E} (hA : AW h B n N) (hP : PQ B n T N) {i : Nat} (ht : tg B T i = 1) : qe_E L xs (d + 4) 150 [.ref 13, .int (nI i)] h (some (.int (nI (kn (tx B T i))))) h := by
  obtain ⟨s, fa, fb, fc, fd, hb, -⟩ := id hA
  have hn9 := AW_n hA
  show wp_W L xs _ 150 0 [(0, .ref 13), (1, .int (nI i))] [] h _
  refine wp_aload_n dq_150_0 rfl ?_
  refine wp_iload_n dq_150_1 rfl ?_
  refine wp_bipush (x := nI 9) dq_150_2 rfl ?_
  refine wp_ldc2 (v := lN 47190209803926258) dq_150_4 (by decide +kernel) ?_
  refine wp_ldc2 (v := lN 101) dq_150_7 (by decide +kernel) ?_
  refine wp_lconst (x := lN 0) dq_150_10 rfl ?_
  refine wp_cve5 dq_150_11 mt_150_61 (ob_of (mw_0 hb)) ⟨by decide +kernel, by decide +kernel⟩ (Nat.le_of_ble_eq_true rfl) (Nat.le_of_ble_eq_true rfl) (c_sam (d := d) hA hP ht (w := wd 23) (by decide +kernel) (by decide +kernel) (by decide) (by decide) (by decide +kernel) (by decide +kernel) (by decide +kernel)) ?_
  refine wp_if_eqB (tgt := 19) dq_150_14 rfl (fun c1 => ?_) (fun c1 => ?_)
  · refine wp_aload_n dq_150_19 rfl ?_
    refine wp_iload_n dq_150_20 rfl ?_
    refine wp_bipush (x := nI 10) dq_150_21 rfl ?_
    refine wp_ldc2 (v := lN 38728678636056820) dq_150_23 (by decide +kernel) ?_
    refine wp_ldc2 (v := lN 13028) dq_150_26 (by decide +kernel) ?_
    refine wp_lconst (x := lN 0) dq_150_29 rfl ?_
    refine wp_cve5 dq_150_30 mt_150_61 (ob_of (mw_0 hb)) ⟨by decide +kernel, by decide +kernel⟩ (Nat.le_of_ble_eq_true rfl) (Nat.le_of_ble_eq_true rfl) (c_sam (d := d) hA hP ht (w := wd 18) (by decide +kernel) (by decide +kernel) (by decide) (by decide) (by decide +kernel) (by decide +kernel) (by decide +kernel)) ?_
    refine wp_if_eqB (tgt := 38) dq_150_33 rfl (fun c2 => ?_) (fun c2 => ?_)
    · refine wp_aload_n dq_150_38 rfl ?_
      refine wp_iload_n dq_150_39 rfl ?_
      refine wp_bipush (x := nI 13) dq_150_40 rfl ?_
      refine wp_ldc2 (v := lN 38209640728131444) dq_150_42 (by decide +kernel) ?_
      refine wp_ldc2 (v := lN 23290657509) dq_150_45 (by decide +kernel) ?_
      refine wp_lconst (x := lN 0) dq_150_48 rfl ?_
      refine wp_cve5 dq_150_49 mt_150_61 (ob_of (mw_0 hb)) ⟨by decide +kernel, by decide +kernel⟩ (Nat.le_of_ble_eq_true rfl) (Nat.le_of_ble_eq_true rfl) (c_sam (d := d) hA hP ht (w := wd 19) (by decide +kernel) (by decide +kernel) (by decide) (by decide) (by decide +kernel) (by decide +kernel) (by decide +kernel)) ?_
      refine wp_if_eqB (tgt := 57) dq_150_52 rfl (fun c3 => ?_) (fun c3 => ?_)
      · refine wp_aload_n dq_150_57 rfl ?_
        refine wp_iload_n dq_150_58 rfl ?_
        refine wp_bipush (x := nI 10) dq_150_59 rfl ?_
        refine wp_ldc2 (v := lN 39374741330277615) dq_150_61 (by decide +kernel) ?_
        refine wp_ldc2 (v := lN 14195) dq_150_64 (by decide +kernel) ?_
        refine wp_lconst (x := lN 0) dq_150_67 rfl ?_
        refine wp_cve5 dq_150_68 mt_150_61 (ob_of (mw_0 hb)) ⟨by decide +kernel, by decide +kernel⟩ (Nat.le_of_ble_eq_true rfl) (Nat.le_of_ble_eq_true rfl) (c_sam (d := d) hA hP ht (w := wd 25) (by decide +kernel) (by decide +kernel) (by decide) (by decide) (by decide +kernel) (by decide +kernel) (by decide +kernel)) ?_
        refine wp_if_eqB (tgt := 76) dq_150_71 rfl (fun c4 => ?_) (fun c4 => ?_)
        · refine wp_aload_n dq_150_76 rfl ?_
          refine wp_iload_n dq_150_77 rfl ?_
          refine wp_bipush (x := nI 12) dq_150_78 rfl ?_
          refine wp_ldc2 (v := lN 41582938639365729) dq_150_80 (by decide +kernel) ?_
          refine wp_ldc2 (v := lN 243069683) dq_150_83 (by decide +kernel) ?_
          refine wp_lconst (x := lN 0) dq_150_86 rfl ?_
          refine wp_cve5 dq_150_87 mt_150_61 (ob_of (mw_0 hb)) ⟨by decide +kernel, by decide +kernel⟩ (Nat.le_of_ble_eq_true rfl) (Nat.le_of_ble_eq_true rfl) (c_sam (d := d) hA hP ht (w := wd 17) (by decide +kernel) (by decide +kernel) (by decide) (by decide) (by decide +kernel) (by decide +kernel) (by decide +kernel)) ?_
          refine wp_if_eqB (tgt := 95) dq_150_90 rfl (fun c5 => ?_) (fun c5 => ?_)
          · refine wp_aload_n dq_150_95 rfl ?_
            refine wp_iload_n dq_150_96 rfl ?_
            refine wp_bipush (x := nI 11) dq_150_97 rfl ?_
            refine wp_ldc2 (v := lN 44358281736058594) dq_150_99 (by decide +kernel) ?_
            refine wp_ldc2 (v := lN 1669491) dq_150_102 (by decide +kernel) ?_
            refine wp_lconst (x := lN 0) dq_150_105 rfl ?_
            refine wp_cve5 dq_150_106 mt_150_61 (ob_of (mw_0 hb)) ⟨by decide +kernel, by decide +kernel⟩ (Nat.le_of_ble_eq_true rfl) (Nat.le_of_ble_eq_true rfl) (c_sam (d := d) hA hP ht (w := wd 21) (by decide +kernel) (by decide +kernel) (by decide) (by decide) (by decide +kernel) (by decide +kernel) (by decide +kernel)) ?_
            refine wp_if_eqB (tgt := 115) dq_150_109 rfl (fun c6 => ?_) (fun c6 => ?_)
            · refine wp_aload_n dq_150_115 rfl ?_
              refine wp_iload_n dq_150_116 rfl ?_
              refine wp_bipush (x := nI 19) dq_150_117 rfl ?_
              refine wp_ldc2 (v := lN 45484145463081573) dq_150_119 (by decide +kernel) ?_
              refine wp_ldc2 (v := lN 56664079808016627) dq_150_122 (by decide +kernel) ?_
              refine wp_ldc2 (v := lN 1897203) dq_150_125 (by decide +kernel) ?_
              refine wp_cve5 dq_150_128 mt_150_61 (ob_of (mw_0 hb)) ⟨by decide +kernel, by decide +kernel⟩ (Nat.le_of_ble_eq_true rfl) (Nat.le_of_ble_eq_true rfl) (c_sam (d := d) hA hP ht (w := wd 22) (by decide +kernel) (by decide +kernel) (by decide) (by decide) (by decide +kernel) (by decide +kernel) (by decide +kernel)) ?_
              refine wp_if_eqB (tgt := 137) dq_150_131 rfl (fun c7 => ?_) (fun c7 => ?_)
              · refine wp_aload_n dq_150_137 rfl ?_
                refine wp_iload_n dq_150_138 rfl ?_
                refine wp_bipush (x := nI 8) dq_150_139 rfl ?_
                refine wp_ldc2 (v := lN 44358281725737460) dq_150_141 (by decide +kernel) ?_
                refine wp_lconst (x := lN 0) dq_150_144 rfl ?_
                refine wp_lconst (x := lN 0) dq_150_145 rfl ?_
                refine wp_cve5 dq_150_146 mt_150_61 (ob_of (mw_0 hb)) ⟨by decide +kernel, by decide +kernel⟩ (Nat.le_of_ble_eq_true rfl) (Nat.le_of_ble_eq_true rfl) (c_sam (d := d) hA hP ht (w := wd 24) (by decide +kernel) (by decide +kernel) (by decide) (by decide) (by decide +kernel) (by decide +kernel) (by decide +kernel)) ?_
                refine wp_if_eqB (tgt := 155) dq_150_149 rfl (fun c8 => ?_) (fun c8 => ?_)
                · refine wp_aload_n dq_150_155 rfl ?_
                  refine wp_iload_n dq_150_156 rfl ?_
                  refine wp_bipush (x := nI 6) dq_150_157 rfl ?_
                  refine wp_ldc2 (v := lN 2844819978596) dq_150_159 (by decide +kernel) ?_
                  refine wp_lconst (x := lN 0) dq_150_162 rfl ?_
                  refine wp_lconst (x := lN 0) dq_150_163 rfl ?_
                  refine wp_cve5 dq_150_164 mt_150_61 (ob_of (mw_0 hb)) ⟨by decide +kernel, by decide +kernel⟩ (Nat.le_of_ble_eq_true rfl) (Nat.le_of_ble_eq_true rfl) (c_sam (d := d) hA hP ht (w := wd 20) (by decide +kernel) (by decide +kernel) (by decide) (by decide) (by decide +kernel) (by decide +kernel) (by decide +kernel)) ?_
                  refine wp_if_eqB (tgt := 173) dq_150_167 rfl (fun c9 => ?_) (fun c9 => ?_)
                  · refine wp_aload_n dq_150_173 rfl ?_
                    refine wp_iload_n dq_150_174 rfl ?_
                    refine wp_bipush (x := nI 18) dq_150_175 rfl ?_
                    refine wp_ldc2 (v := lN 43253754164409953) dq_150_177 (by decide +kernel) ?_
                    refine wp_ldc2 (v := lN 62379131099985134) dq_150_180 (by decide +kernel) ?_
                    refine wp_ldc2 (v := lN 13243) dq_150_183 (by decide +kernel) ?_
                    refine wp_cve5 dq_150_186 mt_150_61 (ob_of (mw_0 hb)) ⟨by decide +kernel, by decide +kernel⟩ (Nat.le_of_ble_eq_true rfl) (Nat.le_of_ble_eq_true rfl) (c_sam (d := d) hA hP ht (w := wd 16) (by decide +kernel) (by decide +kernel) (by decide) (by decide) (by decide +kernel) (by decide +kernel) (by decide +kernel)) ?_
                    refine wp_if_eqB (tgt := 195) dq_150_189 rfl (fun c10 => ?_) (fun c10 => ?_)
                    · refine wp_aload_n dq_150_195 rfl ?_
                      refine wp_iload_n dq_150_196 rfl ?_
                      refine wp_bipush (x := nI 6) dq_150_197 rfl ?_
                      refine wp_ldc2 (v := lN 2090002446910) dq_150_199 (by decide +kernel) ?_
                      refine wp_lconst (x := lN 0) dq_150_202 rfl ?_
                      refine wp_lconst (x := lN 0) dq_150_203 rfl ?_
                      refine wp_cve5 dq_150_204 mt_150_61 (ob_of (mw_0 hb)) ⟨by decide +kernel, by decide +kernel⟩ (Nat.le_of_ble_eq_true rfl) (Nat.le_of_ble_eq_true rfl) (c_sam (d := d) hA hP ht (w := wd 14) (by decide +kernel) (by decide +kernel) (by decide) (by decide) (by decide +kernel) (by decide +kernel) (by decide +kernel)) ?_
                      refine wp_if_eqB (tgt := 213) dq_150_207 rfl (fun c11 => ?_) (fun c11 => ?_)
                      · refine wp_aload_n dq_150_213 rfl ?_
                        refine wp_iload_n dq_150_214 rfl ?_
                        refine wp_bipush (x := nI 8) dq_150_215 rfl ?_
                        refine wp_ldc2 (v := lN 34216143079766590) dq_150_217 (by decide +kernel) ?_
                        refine wp_lconst (x := lN 0) dq_150_220 rfl ?_
                        refine wp_lconst (x := lN 0) dq_150_221 rfl ?_
                        refine wp_cve5 dq_150_222 mt_150_61 (ob_of (mw_0 hb)) ⟨by decide +kernel, by decide +kernel⟩ (Nat.le_of_ble_eq_true rfl) (Nat.le_of_ble_eq_true rfl) (c_sam (d := d) hA hP ht (w := wd 15) (by decide +kernel) (by decide +kernel) (by decide) (by decide) (by decide +kernel) (by decide +kernel) (by decide +kernel)) ?_
                        refine wp_if_eqB (tgt := 231) dq_150_225 rfl (fun c12 => ?_) (fun c12 => ?_)
                        · refine wp_iconst (x := nI 0) dq_150_231 rfl ?_
                          exact wp_ire dq_150_232 rfl ⟨rfl, Or.inl rfl⟩ ⟨by rw [kn, if_neg (of_decide_eq_false c1), if_neg (of_decide_eq_false c2), if_neg (of_decide_eq_false c3), if_neg (of_decide_eq_false c4), if_neg (of_decide_eq_false c5), if_neg (of_decide_eq_false c6), if_neg (of_decide_eq_false c7), if_neg (of_decide_eq_false c8), if_neg (of_decide_eq_false c9), if_neg (of_decide_eq_false c10), if_neg (of_decide_eq_false c11), if_neg (of_decide_eq_false c12)], rfl⟩
                        · refine wp_bipush (x := nI 12) dq_150_228 rfl ?_
                          exact wp_ire dq_150_230 rfl ⟨rfl, Or.inl rfl⟩ ⟨by rw [kn, if_neg (of_decide_eq_false c1), if_neg (of_decide_eq_false c2), if_neg (of_decide_eq_false c3), if_neg (of_decide_eq_false c4), if_neg (of_decide_eq_false c5), if_neg (of_decide_eq_false c6), if_neg (of_decide_eq_false c7), if_neg (of_decide_eq_false c8), if_neg (of_decide_eq_false c9), if_neg (of_decide_eq_false c10), if_neg (of_decide_eq_false c11), if_pos (of_decide_eq_true c12)], rfl⟩
                      · refine wp_bipush (x := nI 11) dq_150_210 rfl ?_
                        exact wp_ire dq_150_212 rfl ⟨rfl, Or.inl rfl⟩ ⟨by rw [kn, if_neg (of_decide_eq_false c1), if_neg (of_decide_eq_false c2), if_neg (of_decide_eq_false c3), if_neg (of_decide_eq_false c4), if_neg (of_decide_eq_false c5), if_neg (of_decide_eq_false c6), if_neg (of_decide_eq_false c7), if_neg (of_decide_eq_false c8), if_neg (of_decide_eq_false c9), if_neg (of_decide_eq_false c10), if_pos (of_decide_eq_true c11)], rfl⟩
                    · refine wp_bipush (x := nI 10) dq_150_192 rfl ?_
                      exact wp_ire dq_150_194 rfl ⟨rfl, Or.inl rfl⟩ ⟨by rw [kn, if_neg (of_decide_eq_false c1), if_neg (of_decide_eq_false c2), if_neg (of_decide_eq_false c3), if_neg (of_decide_eq_false c4), if_neg (of_decide_eq_false c5), if_neg (of_decide_eq_false c6), if_neg (of_decide_eq_false c7), if_neg (of_decide_eq_false c8), if_neg (of_decide_eq_false c9), if_pos (of_decide_eq_true c10)], rfl⟩
                  · refine wp_bipush (x := nI 9) dq_150_170 rfl ?_
                    exact wp_ire dq_150_172 rfl ⟨rfl, Or.inl rfl⟩ ⟨by rw [kn, if_neg (of_decide_eq_false c1), if_neg (of_decide_eq_false c2), if_neg (of_decide_eq_false c3), if_neg (of_decide_eq_false c4), if_neg (of_decide_eq_false c5), if_neg (of_decide_eq_false c6), if_neg (of_decide_eq_false c7), if_neg (of_decide_eq_false c8), if_pos (of_decide_eq_true c9)], rfl⟩
                · refine wp_bipush (x := nI 8) dq_150_152 rfl ?_
                  exact wp_ire dq_150_154 rfl ⟨rfl, Or.inl rfl⟩ ⟨by rw [kn, if_neg (of_decide_eq_false c1), if_neg (of_decide_eq_false c2), if_neg (of_decide_eq_false c3), if_neg (of_decide_eq_false c4), if_neg (of_decide_eq_false c5), if_neg (of_decide_eq_false c6), if_neg (of_decide_eq_false c7), if_pos (of_decide_eq_true c8)], rfl⟩
              · refine wp_bipush (x := nI 7) dq_150_134 rfl ?_
                exact wp_ire dq_150_136 rfl ⟨rfl, Or.inl rfl⟩ ⟨by rw [kn, if_neg (of_decide_eq_false c1), if_neg (of_decide_eq_false c2), if_neg (of_decide_eq_false c3), if_neg (of_decide_eq_false c4), if_neg (of_decide_eq_false c5), if_neg (of_decide_eq_false c6), if_pos (of_decide_eq_true c7)], rfl⟩
            · refine wp_bipush (x := nI 6) dq_150_112 rfl ?_
              exact wp_ire dq_150_114 rfl ⟨rfl, Or.inl rfl⟩ ⟨by rw [kn, if_neg (of_decide_eq_false c1), if_neg (of_decide_eq_false c2), if_neg (of_decide_eq_false c3), if_neg (of_decide_eq_false c4), if_neg (of_decide_eq_false c5), if_pos (of_decide_eq_true c6)], rfl⟩
          · refine wp_iconst (x := nI 5) dq_150_93 rfl ?_
            exact wp_ire dq_150_94 rfl ⟨rfl, Or.inl rfl⟩ ⟨by rw [kn, if_neg (of_decide_eq_false c1), if_neg (of_decide_eq_false c2), if_neg (of_decide_eq_false c3), if_neg (of_decide_eq_false c4), if_pos (of_decide_eq_true c5)], rfl⟩
        · refine wp_iconst (x := nI 4) dq_150_74 rfl ?_
          exact wp_ire dq_150_75 rfl ⟨rfl, Or.inl rfl⟩ ⟨by rw [kn, if_neg (of_decide_eq_false c1), if_neg (of_decide_eq_false c2), if_neg (of_decide_eq_false c3), if_pos (of_decide_eq_true c4)], rfl⟩
      · refine wp_iconst (x := nI 3) dq_150_55 rfl ?_
        exact wp_ire dq_150_56 rfl ⟨rfl, Or.inl rfl⟩ ⟨by rw [kn, if_neg (of_decide_eq_false c1), if_neg (of_decide_eq_false c2), if_pos (of_decide_eq_true c3)], rfl⟩
    · refine wp_iconst (x := nI 2) dq_150_36 rfl ?_
      exact wp_ire dq_150_37 rfl ⟨rfl, Or.inl rfl⟩ ⟨by rw [kn, if_neg (of_decide_eq_false c1), if_pos (of_decide_eq_true c2)], rfl⟩
  · refine wp_iconst (x := nI 1) dq_150_17 rfl ?_
    exact wp_ire dq_150_18 rfl ⟨rfl, Or.inl rfl⟩ ⟨by rw [kn, if_pos (of_decide_eq_true c1)], rfl⟩
