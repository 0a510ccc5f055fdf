theorem sv1 {P : Prop} [Decidable P] (h : P) : some (Value.int (nI 1)) = some (.int (bI (decide P))) := by rw [decide_eq_true h]; rfl
theorem sv0 {P : Prop} [Decidable P] (h : ¬ P) : some (Value.int (nI 0)) = some (.int (bI (decide P))) := by rw [decide_eq_false h]; rfl
theorem sb1 {c : Bool} (h : c = true) : some (Value.int (nI 1)) = some (.int (bI c)) := by rw [h]; rfl
theorem sb0 {c : Bool} (h : c = false) : some (Value.int (nI 0)) = some (.int (bI c)) := by rw [h]; rfl
def pl (c : Nat) : Bool := decide (c ≠ 46 ∧ c ≠ 59 ∧ c ≠ 91 ∧ c ≠ 47)
theorem pl_bad {c : Nat} : gm_bad c = true ↔ c = 46 ∨ c = 59 ∨ c = 91 := by
  unfold gm_bad
  rw [Bool.or_eq_true, Bool.or_eq_true, beq_iff_eq, beq_iff_eq, beq_iff_eq, or_assoc]
theorem pl_t {c : Nat} : pl c = true ↔ c ≠ 46 ∧ c ≠ 59 ∧ c ≠ 91 ∧ c ≠ 47 := decide_eq_true_iff
theorem pl_f {c : Nat} : pl c = false ↔ ¬ (c ≠ 46 ∧ c ≠ 59 ∧ c ≠ 91 ∧ c ≠ 47) := decide_eq_false_iff_not
set_option maxRecDepth 100000 in
theorem c_plain {L : Nat} {xs : Nat → Int32} {d : Nat} {h : List qx_E} {c : Nat} (hc : c < 256) : qe_E L xs d 145 [.int (nI c)] h (some (.int (bI (pl c)))) h := by
  show wp_W L xs _ 145 0 [(0, .int (nI c))] [] h _
  refine wp_iload_n dq_145_0 rfl ?_
  refine wp_bipush (x := nI 46) dq_145_1 rfl ?_
  refine wp_ic_eqN (tgt := 28) dq_145_3 rfl (by omega) (by omega) (fun c1 => ?_) (fun c1 => ?_)
  · refine wp_iconst (x := nI 0) dq_145_28 rfl ?_
    exact wp_ire dq_145_29 rfl ⟨rfl, Or.inr (Or.inl rfl)⟩ ⟨sv0 (by omega), rfl⟩
  · refine wp_iload_n dq_145_6 rfl ?_
    refine wp_bipush (x := nI 59) dq_145_7 rfl ?_
    refine wp_ic_eqN (tgt := 28) dq_145_9 rfl (by omega) (by omega) (fun c2 => ?_) (fun c2 => ?_)
    · refine wp_iconst (x := nI 0) dq_145_28 rfl ?_
      exact wp_ire dq_145_29 rfl ⟨rfl, Or.inr (Or.inl rfl)⟩ ⟨sv0 (by omega), rfl⟩
    · refine wp_iload_n dq_145_12 rfl ?_
      refine wp_bipush (x := nI 91) dq_145_13 rfl ?_
      refine wp_ic_eqN (tgt := 28) dq_145_15 rfl (by omega) (by omega) (fun c3 => ?_) (fun c3 => ?_)
      · refine wp_iconst (x := nI 0) dq_145_28 rfl ?_
        exact wp_ire dq_145_29 rfl ⟨rfl, Or.inr (Or.inl rfl)⟩ ⟨sv0 (by omega), rfl⟩
      · refine wp_iload_n dq_145_18 rfl ?_
        refine wp_bipush (x := nI 47) dq_145_19 rfl ?_
        refine wp_ic_eqN (tgt := 28) dq_145_21 rfl (by omega) (by omega) (fun c4 => ?_) (fun c4 => ?_)
        · refine wp_iconst (x := nI 0) dq_145_28 rfl ?_
          exact wp_ire dq_145_29 rfl ⟨rfl, Or.inr (Or.inl rfl)⟩ ⟨sv0 (by omega), rfl⟩
        · refine wp_iconst (x := nI 1) dq_145_24 rfl ?_
          refine wp_goto (tgt := 29) dq_145_25 rfl ?_
          exact wp_ire dq_145_29 rfl ⟨rfl, Or.inr (Or.inl rfl)⟩ ⟨sv1 (by omega), rfl⟩
set_option maxRecDepth 100000 in
theorem c_cnmL {L : Nat} {xs : Nat → Int32} {d n : Nat} {B : Nat → Nat} {N : Nat → Int32} {h : List qx_E} {q : Nat} {x : Int32} (hA : AW h B n N) (hq : q ≤ n) : ∀ j i part, i + j = q → part ≤ i → wp_W L xs (d + 1) 144 5 [(0, .ref 13), (1, .int x), (2, .int (nI q)), (3, .int (bI (decide (part = i)))), (4, .int (nI i))] [] h (fun v h' => v = some (.int (bI (gm_cnL B q j i part))) ∧ h' = h) := by
  obtain ⟨s, fa, fb, fc, fd, hb, -⟩ := id hA
  have hn9 := AW_n hA
  intro j
  induction j with
  | zero =>
    intro i part hi hp
    refine wp_iload dq_144_5 rfl ?_
    refine wp_iload_n dq_144_7 rfl ?_
    refine wp_ic_geN (tgt := 56) dq_144_8 rfl (by omega) (by omega) (fun c1 => ?_) (fun c1 => absurd c1 (by omega))
    refine wp_iload_n dq_144_56 rfl ?_
    refine wp_if_neB (tgt := 64) dq_144_57 rfl (fun c2 => ?_) (fun c2 => ?_)
    · refine wp_iconst (x := nI 0) dq_144_64 rfl ?_
      exact wp_ire dq_144_65 rfl ⟨rfl, Or.inr (Or.inl rfl)⟩ ⟨sv0 (by have := of_decide_eq_true c2; omega), rfl⟩
    · refine wp_iconst (x := nI 1) dq_144_60 rfl ?_
      refine wp_goto (tgt := 65) dq_144_61 rfl ?_
      exact wp_ire dq_144_65 rfl ⟨rfl, Or.inr (Or.inl rfl)⟩ ⟨sv1 (by have := of_decide_eq_false c2; omega), rfl⟩
  | succ j ih =>
    intro i part hi hp
    have hB := AW_B hA (show i < n by omega)
    refine wp_iload dq_144_5 rfl ?_
    refine wp_iload_n dq_144_7 rfl ?_
    refine wp_ic_geN (tgt := 56) dq_144_8 rfl (by omega) (by omega) (fun c1 => ?_) (fun c1 => ?_)
    · exact absurd c1 (by omega)
    · refine wp_aload_n dq_144_11 rfl ?_
      refine wp_iload dq_144_12 rfl ?_
      refine wp_cve1 dq_144_14 mt_144_35 (ob_of (mw_0 hb)) ⟨by decide +kernel, by decide +kernel⟩ (Nat.le_of_ble_eq_true rfl) (Nat.le_of_ble_eq_true rfl) (c_byteAt hA (by omega)) ?_
      refine wp_istore (lv' := [(0, .ref 13), (1, .int x), (2, .int (nI q)), (3, .int (bI (decide (part = i)))), (4, .int (nI i)), (5, .int (nI (B i)))]) dq_144_17 (by decide) rfl ?_
      refine wp_iload dq_144_19 rfl ?_
      refine wp_bipush (x := nI 47) dq_144_21 rfl ?_
      refine wp_ic_neN (tgt := 35) dq_144_23 rfl (by omega) (by omega) (fun c2 => ?_) (fun c2 => ?_)
      · refine wp_iload dq_144_35 rfl ?_
        refine wp_cse1 dq_144_37 (by decide +kernel) mt_144_105 (by decide +kernel) (Nat.le_of_ble_eq_true rfl) (Nat.le_of_ble_eq_true rfl) (c_plain hB) ?_
        refine wp_if_eqB (tgt := 48) dq_144_40 rfl (fun c3 => ?_) (fun c3 => ?_)
        · refine wp_iconst (x := nI 0) dq_144_48 rfl ?_
          have h9 := pl_f.mp c3
          have e9 : gm_cnL B q (j + 1) i part = false := by
            show (if gm_bad (B i) = true ∨ (B i = 47 ∧ i = part) then false else gm_cnL B q j (i + 1) (if B i = 47 then i + 1 else part)) = _
            rw [if_pos (by rw [pl_bad]; omega)]
          exact wp_ire dq_144_49 rfl ⟨rfl, Or.inr (Or.inl rfl)⟩ ⟨sb0 e9, rfl⟩
        · refine wp_iconst (x := nI 0) dq_144_43 rfl ?_
          refine wp_istore_n (lv' := [(0, .ref 13), (1, .int x), (2, .int (nI q)), (3, .int (nI 0)), (4, .int (nI i)), (5, .int (nI (B i)))]) dq_144_44 (by decide) rfl ?_
          refine wp_goto (tgt := 50) dq_144_45 rfl ?_
          refine wp_iinc (y := nI (i + 1)) (lv' := [(0, .ref 13), (1, .int x), (2, .int (nI q)), (3, .int (nI 0)), (4, .int (nI (i + 1))), (5, .int (nI (B i)))]) dq_144_50 rfl (nI_add _ _) (by decide) rfl ?_
          refine wp_goto (tgt := 5) dq_144_53 rfl ?_
          refine wp_fg (l := [(0, .ref 13), (1, .int x), (2, .int (nI q)), (3, .int (nI 0)), (4, .int (nI (i + 1)))]) (e := [(5, .int (nI (B i)))]) rfl rfl rfl ?_
          have h9 := pl_t.mp c3
          have e9 : gm_cnL B q (j + 1) i part = gm_cnL B q j (i + 1) part := by
            show (if gm_bad (B i) = true ∨ (B i = 47 ∧ i = part) then false else gm_cnL B q j (i + 1) (if B i = 47 then i + 1 else part)) = _
            rw [if_neg (by rw [pl_bad]; omega), if_neg (by omega)]
          rw [e9, show nI 0 = bI (decide (part = i + 1)) by rw [decide_eq_false (by omega)]; rfl]
          exact ih (i + 1) part (by omega) (by omega)
      · refine wp_iload_n dq_144_26 rfl ?_
        refine wp_if_neB (tgt := 35) dq_144_27 rfl (fun c4 => ?_) (fun c4 => ?_)
        · refine wp_iload dq_144_35 rfl ?_
          refine wp_cse1 dq_144_37 (by decide +kernel) mt_144_105 (by decide +kernel) (Nat.le_of_ble_eq_true rfl) (Nat.le_of_ble_eq_true rfl) (c_plain hB) ?_
          refine wp_if_eqB (tgt := 48) dq_144_40 rfl (fun c5 => ?_) (fun c5 => ?_)
          · refine wp_iconst (x := nI 0) dq_144_48 rfl ?_
            have h9 := pl_f.mp c5
            have e9 : gm_cnL B q (j + 1) i part = false := by
              show (if gm_bad (B i) = true ∨ (B i = 47 ∧ i = part) then false else gm_cnL B q j (i + 1) (if B i = 47 then i + 1 else part)) = _
              rw [if_pos (by rw [pl_bad]; have := of_decide_eq_true c4; omega)]
            exact wp_ire dq_144_49 rfl ⟨rfl, Or.inr (Or.inl rfl)⟩ ⟨sb0 e9, rfl⟩
          · refine wp_iconst (x := nI 0) dq_144_43 rfl ?_
            refine wp_istore_n (lv' := [(0, .ref 13), (1, .int x), (2, .int (nI q)), (3, .int (nI 0)), (4, .int (nI i)), (5, .int (nI (B i)))]) dq_144_44 (by decide) rfl ?_
            refine wp_goto (tgt := 50) dq_144_45 rfl ?_
            refine wp_iinc (y := nI (i + 1)) (lv' := [(0, .ref 13), (1, .int x), (2, .int (nI q)), (3, .int (nI 0)), (4, .int (nI (i + 1))), (5, .int (nI (B i)))]) dq_144_50 rfl (nI_add _ _) (by decide) rfl ?_
            refine wp_goto (tgt := 5) dq_144_53 rfl ?_
            refine wp_fg (l := [(0, .ref 13), (1, .int x), (2, .int (nI q)), (3, .int (nI 0)), (4, .int (nI (i + 1)))]) (e := [(5, .int (nI (B i)))]) rfl rfl rfl ?_
            have h9 := pl_t.mp c5
            have e9 : gm_cnL B q (j + 1) i part = gm_cnL B q j (i + 1) part := by
              show (if gm_bad (B i) = true ∨ (B i = 47 ∧ i = part) then false else gm_cnL B q j (i + 1) (if B i = 47 then i + 1 else part)) = _
              rw [if_neg (by rw [pl_bad]; omega), if_neg (by omega)]
            rw [e9, show nI 0 = bI (decide (part = i + 1)) by rw [decide_eq_false (by omega)]; rfl]
            exact ih (i + 1) part (by omega) (by omega)
        · refine wp_iconst (x := nI 1) dq_144_30 rfl ?_
          refine wp_istore_n (lv' := [(0, .ref 13), (1, .int x), (2, .int (nI q)), (3, .int (nI 1)), (4, .int (nI i)), (5, .int (nI (B i)))]) dq_144_31 (by decide) rfl ?_
          refine wp_goto (tgt := 50) dq_144_32 rfl ?_
          refine wp_iinc (y := nI (i + 1)) (lv' := [(0, .ref 13), (1, .int x), (2, .int (nI q)), (3, .int (nI 1)), (4, .int (nI (i + 1))), (5, .int (nI (B i)))]) dq_144_50 rfl (nI_add _ _) (by decide) rfl ?_
          refine wp_goto (tgt := 5) dq_144_53 rfl ?_
          refine wp_fg (l := [(0, .ref 13), (1, .int x), (2, .int (nI q)), (3, .int (nI 1)), (4, .int (nI (i + 1)))]) (e := [(5, .int (nI (B i)))]) rfl rfl rfl ?_
          have e9 : gm_cnL B q (j + 1) i part = gm_cnL B q j (i + 1) (i + 1) := by
            show (if gm_bad (B i) = true ∨ (B i = 47 ∧ i = part) then false else gm_cnL B q j (i + 1) (if B i = 47 then i + 1 else part)) = _
            rw [if_neg (by rw [pl_bad]; have := of_decide_eq_false c4; omega), if_pos (by omega)]
          rw [e9, show nI 1 = bI (decide (i + 1 = i + 1)) by rw [decide_eq_true rfl]; rfl]
          exact ih (i + 1) (i + 1) (by omega) (by omega)
set_option maxRecDepth 100000 in
theorem c_cnm {L : Nat} {xs : Nat → Int32} {d n : Nat} {B : Nat → Nat} {N : Nat → Int32} {h : List qx_E} {p q : Nat} (hA : AW h B n N) (hp : p ≤ q) (hq : q ≤ n) : qe_E L xs (d + 1) 144 [.ref 13, .int (nI p), .int (nI q)] h (some (.int (bI (gm_cn B p q)))) h := by
  obtain ⟨s, fa, fb, fc, fd, hb, -⟩ := id hA
  have hn9 := AW_n hA
  show wp_W L xs _ 144 0 [(0, .ref 13), (1, .int (nI p)), (2, .int (nI q))] [] h _
  refine wp_iconst (x := nI 1) dq_144_0 rfl ?_
  refine wp_istore_n (lv' := [(0, .ref 13), (1, .int (nI p)), (2, .int (nI q)), (3, .int (nI 1))]) dq_144_1 (by decide) rfl ?_
  refine wp_iload_n dq_144_2 rfl ?_
  refine wp_istore (lv' := [(0, .ref 13), (1, .int (nI p)), (2, .int (nI q)), (3, .int (nI 1)), (4, .int (nI p))]) dq_144_3 (by decide) rfl ?_
  rw [show nI 1 = bI (decide (p = p)) by rw [decide_eq_true rfl]; rfl]
  exact c_cnmL hA hq (q - p) p p (by omega) (Nat.le_refl p)
set_option maxRecDepth 100000 in
theorem c_ftL1 {L : Nat} {xs : Nat → Int32} {d n : Nat} {B : Nat → Nat} {N : Nat → Int32} {h : List qx_E} {p q k c : Nat} {Q : Option Value → List qx_E → Prop} (hA : AW h B n N) (hq : q ≤ n) : ∀ j i, i + j = q → wp_W L xs (d + 2) 148 23 [(0, .ref 13), (1, .int (nI p)), (2, .int (nI q)), (3, .int (nI (gm_wh B (fun c => c == 91) j i)))] [] h Q → wp_W L xs (d + 2) 148 2 [(0, .ref 13), (1, .int (nI p)), (2, .int (nI q)), (3, .int (nI i))] [] h Q := by
  obtain ⟨s, fa, fb, fc, fd, hb, -⟩ := id hA
  have hn9 := AW_n hA
  intro j
  induction j with
  | zero =>
    intro i hi hK
    refine wp_iload_n dq_148_2 rfl ?_
    refine wp_iload_n dq_148_3 rfl ?_
    refine wp_ic_geN (tgt := 23) dq_148_4 rfl (by omega) (by omega) (fun c1 => hK) (fun c1 => absurd c1 (by omega))
  | succ j ih =>
    intro i hi hK
    have hB := AW_B hA (show i < n by omega)
    refine wp_iload_n dq_148_2 rfl ?_
    refine wp_iload_n dq_148_3 rfl ?_
    refine wp_ic_geN (tgt := 23) dq_148_4 rfl (by omega) (by omega) (fun c1 => ?_) (fun c1 => ?_)
    · exact absurd c1 (by omega)
    · refine wp_aload_n dq_148_7 rfl ?_
      refine wp_iload_n dq_148_8 rfl ?_
      refine wp_cve1 dq_148_9 mt_148_35 (ob_of (mw_0 hb)) ⟨by decide +kernel, by decide +kernel⟩ (Nat.le_of_ble_eq_true rfl) (Nat.le_of_ble_eq_true rfl) (c_byteAt hA (by omega)) ?_
      refine wp_bipush (x := nI 91) dq_148_12 rfl ?_
      refine wp_ic_neN (tgt := 23) dq_148_14 rfl (by omega) (by omega) (fun c2 => ?_) (fun c2 => ?_)
      · have e9 : gm_wh B (fun c => c == 91) (j + 1) i = i := if_neg (by simpa using c2)
        rw [e9] at hK
        exact hK
      · refine wp_iinc (y := nI (i + 1)) (lv' := [(0, .ref 13), (1, .int (nI p)), (2, .int (nI q)), (3, .int (nI (i + 1)))]) dq_148_17 rfl (nI_add _ _) (by decide) rfl ?_
        refine wp_goto (tgt := 2) dq_148_20 rfl ?_
        have e9 : gm_wh B (fun c => c == 91) (j + 1) i = gm_wh B (fun c => c == 91) j (i + 1) := if_pos (by simpa using c2)
        rw [e9] at hK
        exact ih (i + 1) (by omega) hK
set_option maxRecDepth 100000 in
theorem c_ftL2 {L : Nat} {xs : Nat → Int32} {d n : Nat} {B : Nat → Nat} {N : Nat → Int32} {h : List qx_E} {p q k c : Nat} {Q : Option Value → List qx_E → Prop} (hA : AW h B n N) (hq : q ≤ n) : ∀ j i, i + j = q → wp_W L xs (d + 2) 148 143 [(0, .ref 13), (1, .int (nI p)), (2, .int (nI q)), (3, .int (nI k)), (4, .int (nI c)), (5, .int (nI (gm_wh B (fun c => c != 59) j i)))] [] h Q → wp_W L xs (d + 2) 148 120 [(0, .ref 13), (1, .int (nI p)), (2, .int (nI q)), (3, .int (nI k)), (4, .int (nI c)), (5, .int (nI i))] [] h Q := by
  obtain ⟨s, fa, fb, fc, fd, hb, -⟩ := id hA
  have hn9 := AW_n hA
  intro j
  induction j with
  | zero =>
    intro i hi hK
    refine wp_iload dq_148_120 rfl ?_
    refine wp_iload_n dq_148_122 rfl ?_
    refine wp_ic_geN (tgt := 143) dq_148_123 rfl (by omega) (by omega) (fun c1 => hK) (fun c1 => absurd c1 (by omega))
  | succ j ih =>
    intro i hi hK
    have hB := AW_B hA (show i < n by omega)
    refine wp_iload dq_148_120 rfl ?_
    refine wp_iload_n dq_148_122 rfl ?_
    refine wp_ic_geN (tgt := 143) dq_148_123 rfl (by omega) (by omega) (fun c1 => ?_) (fun c1 => ?_)
    · exact absurd c1 (by omega)
    · refine wp_aload_n dq_148_126 rfl ?_
      refine wp_iload dq_148_127 rfl ?_
      refine wp_cve1 dq_148_129 mt_148_35 (ob_of (mw_0 hb)) ⟨by decide +kernel, by decide +kernel⟩ (Nat.le_of_ble_eq_true rfl) (Nat.le_of_ble_eq_true rfl) (c_byteAt hA (by omega)) ?_
      refine wp_bipush (x := nI 59) dq_148_132 rfl ?_
      refine wp_ic_eqN (tgt := 143) dq_148_134 rfl (by omega) (by omega) (fun c2 => ?_) (fun c2 => ?_)
      · have e9 : gm_wh B (fun c => c != 59) (j + 1) i = i := if_neg (by simpa using c2)
        rw [e9] at hK
        exact hK
      · refine wp_iinc (y := nI (i + 1)) (lv' := [(0, .ref 13), (1, .int (nI p)), (2, .int (nI q)), (3, .int (nI k)), (4, .int (nI c)), (5, .int (nI (i + 1)))]) dq_148_137 rfl (nI_add _ _) (by decide) rfl ?_
        refine wp_goto (tgt := 120) dq_148_140 rfl ?_
        have e9 : gm_wh B (fun c => c != 59) (j + 1) i = gm_wh B (fun c => c != 59) j (i + 1) := if_pos (by simpa using c2)
        rw [e9] at hK
        exact ih (i + 1) (by omega) hK
theorem gm_pr {c : Nat} : gm_prim c = true ↔ c = 66 ∨ c = 67 ∨ c = 68 ∨ c = 70 ∨ c = 73 ∨ c = 74 ∨ c = 83 ∨ c = 90 := by
  unfold gm_prim
  simp only [Bool.or_eq_true, beq_iff_eq, or_assoc]
theorem so_1 {x y : Int32} (h : x = y) : some (Value.int x) = some (.int y) := by rw [h]
set_option maxRecDepth 100000 in
theorem c_ftm {L : Nat} {xs : Nat → Int32} {d n : Nat} {B : Nat → Nat} {N : Nat → Int32} {h : List qx_E} {p q : Nat} (hA : AW h B n N) (hp : p ≤ q) (hq : q ≤ n) : qe_E L xs (d + 2) 148 [.ref 13, .int (nI p), .int (nI q)] h (some (.int (oI (gm_ft B p q)))) h := by
  obtain ⟨s, fa, fb, fc, fd, hb, -⟩ := id hA
  have hn9 := AW_n hA
  show wp_W L xs _ 148 0 [(0, .ref 13), (1, .int (nI p)), (2, .int (nI q))] [] h _
  refine wp_iload_n dq_148_0 rfl ?_
  refine wp_istore_n (lv' := [(0, .ref 13), (1, .int (nI p)), (2, .int (nI q)), (3, .int (nI p))]) dq_148_1 (by decide) rfl ?_
  have hK := gm_br_in (B := B) hp
  have hBk : gm_br B p q < q → B (gm_br B p q) < 256 := fun r => AW_B hA (by omega)
  refine c_ftL1 (k := 0) (c := 0) hA hq (q - p) p (by omega) ?_
  show wp_W L xs _ 148 23 [(0, .ref 13), (1, .int (nI p)), (2, .int (nI q)), (3, .int (nI (gm_br B p q)))] [] h _
  refine wp_iload_n dq_148_23 rfl ?_
  refine wp_iload_n dq_148_24 rfl ?_
  refine wp_ic_eqN (tgt := 37) dq_148_25 rfl (by omega) (by omega) (fun c1 => ?_) (fun c1 => ?_)
  · refine wp_iconst (x := -1) dq_148_37 rfl ?_
    exact wp_ire dq_148_38 rfl ⟨rfl, Or.inl rfl⟩ ⟨so_1 (by rw [show gm_ft B p q = none by unfold gm_ft; rw [if_pos (by omega)]]; rfl), rfl⟩
  · refine wp_iload_n dq_148_28 rfl ?_
    refine wp_iload_n dq_148_29 rfl ?_
    refine wp_isubN dq_148_30 (by omega) ?_
    refine wp_sipush (x := nI 255) dq_148_31 rfl ?_
    refine wp_ic_leN (tgt := 39) dq_148_34 rfl (by omega) (by omega) (fun c2 => ?_) (fun c2 => ?_)
    · refine wp_aload_n dq_148_39 rfl ?_
      refine wp_iload_n dq_148_40 rfl ?_
      refine wp_cve1 dq_148_41 mt_148_35 (ob_of (mw_0 hb)) ⟨by decide +kernel, by decide +kernel⟩ (Nat.le_of_ble_eq_true rfl) (Nat.le_of_ble_eq_true rfl) (c_byteAt hA (by omega)) ?_
      refine wp_istore (lv' := [(0, .ref 13), (1, .int (nI p)), (2, .int (nI q)), (3, .int (nI (gm_br B p q))), (4, .int (nI (B (gm_br B p q))))]) dq_148_44 (by decide) rfl ?_
      refine wp_iload dq_148_46 rfl ?_
      refine wp_bipush (x := nI 66) dq_148_48 rfl ?_
      refine wp_ic_eqN (tgt := 102) dq_148_50 rfl (by omega) (by omega) (fun c3 => ?_) (fun c3 => ?_)
      · refine wp_iload_n dq_148_102 rfl ?_
        refine wp_iconst (x := nI 1) dq_148_103 rfl ?_
        refine wp_iaddN dq_148_104 ?_
        exact wp_ire dq_148_105 rfl ⟨rfl, Or.inl rfl⟩ ⟨so_1 (by rw [show gm_ft B p q = some ((gm_br B p q) + 1) by unfold gm_ft; rw [if_neg (by omega), if_pos (by omega), if_neg (by omega), if_pos (gm_pr.mpr (by omega))]]; rfl), rfl⟩
      · refine wp_iload dq_148_53 rfl ?_
        refine wp_bipush (x := nI 67) dq_148_55 rfl ?_
        refine wp_ic_eqN (tgt := 102) dq_148_57 rfl (by omega) (by omega) (fun c4 => ?_) (fun c4 => ?_)
        · refine wp_iload_n dq_148_102 rfl ?_
          refine wp_iconst (x := nI 1) dq_148_103 rfl ?_
          refine wp_iaddN dq_148_104 ?_
          exact wp_ire dq_148_105 rfl ⟨rfl, Or.inl rfl⟩ ⟨so_1 (by rw [show gm_ft B p q = some ((gm_br B p q) + 1) by unfold gm_ft; rw [if_neg (by omega), if_pos (by omega), if_neg (by omega), if_pos (gm_pr.mpr (by omega))]]; rfl), rfl⟩
        · refine wp_iload dq_148_60 rfl ?_
          refine wp_bipush (x := nI 68) dq_148_62 rfl ?_
          refine wp_ic_eqN (tgt := 102) dq_148_64 rfl (by omega) (by omega) (fun c5 => ?_) (fun c5 => ?_)
          · refine wp_iload_n dq_148_102 rfl ?_
            refine wp_iconst (x := nI 1) dq_148_103 rfl ?_
            refine wp_iaddN dq_148_104 ?_
            exact wp_ire dq_148_105 rfl ⟨rfl, Or.inl rfl⟩ ⟨so_1 (by rw [show gm_ft B p q = some ((gm_br B p q) + 1) by unfold gm_ft; rw [if_neg (by omega), if_pos (by omega), if_neg (by omega), if_pos (gm_pr.mpr (by omega))]]; rfl), rfl⟩
          · refine wp_iload dq_148_67 rfl ?_
            refine wp_bipush (x := nI 70) dq_148_69 rfl ?_
            refine wp_ic_eqN (tgt := 102) dq_148_71 rfl (by omega) (by omega) (fun c6 => ?_) (fun c6 => ?_)
            · refine wp_iload_n dq_148_102 rfl ?_
              refine wp_iconst (x := nI 1) dq_148_103 rfl ?_
              refine wp_iaddN dq_148_104 ?_
              exact wp_ire dq_148_105 rfl ⟨rfl, Or.inl rfl⟩ ⟨so_1 (by rw [show gm_ft B p q = some ((gm_br B p q) + 1) by unfold gm_ft; rw [if_neg (by omega), if_pos (by omega), if_neg (by omega), if_pos (gm_pr.mpr (by omega))]]; rfl), rfl⟩
            · refine wp_iload dq_148_74 rfl ?_
              refine wp_bipush (x := nI 73) dq_148_76 rfl ?_
              refine wp_ic_eqN (tgt := 102) dq_148_78 rfl (by omega) (by omega) (fun c7 => ?_) (fun c7 => ?_)
              · refine wp_iload_n dq_148_102 rfl ?_
                refine wp_iconst (x := nI 1) dq_148_103 rfl ?_
                refine wp_iaddN dq_148_104 ?_
                exact wp_ire dq_148_105 rfl ⟨rfl, Or.inl rfl⟩ ⟨so_1 (by rw [show gm_ft B p q = some ((gm_br B p q) + 1) by unfold gm_ft; rw [if_neg (by omega), if_pos (by omega), if_neg (by omega), if_pos (gm_pr.mpr (by omega))]]; rfl), rfl⟩
              · refine wp_iload dq_148_81 rfl ?_
                refine wp_bipush (x := nI 74) dq_148_83 rfl ?_
                refine wp_ic_eqN (tgt := 102) dq_148_85 rfl (by omega) (by omega) (fun c8 => ?_) (fun c8 => ?_)
                · refine wp_iload_n dq_148_102 rfl ?_
                  refine wp_iconst (x := nI 1) dq_148_103 rfl ?_
                  refine wp_iaddN dq_148_104 ?_
                  exact wp_ire dq_148_105 rfl ⟨rfl, Or.inl rfl⟩ ⟨so_1 (by rw [show gm_ft B p q = some ((gm_br B p q) + 1) by unfold gm_ft; rw [if_neg (by omega), if_pos (by omega), if_neg (by omega), if_pos (gm_pr.mpr (by omega))]]; rfl), rfl⟩
                · refine wp_iload dq_148_88 rfl ?_
                  refine wp_bipush (x := nI 83) dq_148_90 rfl ?_
                  refine wp_ic_eqN (tgt := 102) dq_148_92 rfl (by omega) (by omega) (fun c9 => ?_) (fun c9 => ?_)
                  · refine wp_iload_n dq_148_102 rfl ?_
                    refine wp_iconst (x := nI 1) dq_148_103 rfl ?_
                    refine wp_iaddN dq_148_104 ?_
                    exact wp_ire dq_148_105 rfl ⟨rfl, Or.inl rfl⟩ ⟨so_1 (by rw [show gm_ft B p q = some ((gm_br B p q) + 1) by unfold gm_ft; rw [if_neg (by omega), if_pos (by omega), if_neg (by omega), if_pos (gm_pr.mpr (by omega))]]; rfl), rfl⟩
                  · refine wp_iload dq_148_95 rfl ?_
                    refine wp_bipush (x := nI 90) dq_148_97 rfl ?_
                    refine wp_ic_neN (tgt := 106) dq_148_99 rfl (by omega) (by omega) (fun c10 => ?_) (fun c10 => ?_)
                    · refine wp_iload dq_148_106 rfl ?_
                      refine wp_bipush (x := nI 76) dq_148_108 rfl ?_
                      refine wp_ic_eqN (tgt := 115) dq_148_110 rfl (by omega) (by omega) (fun c11 => ?_) (fun c11 => ?_)
                      · refine wp_iload_n dq_148_115 rfl ?_
                        refine wp_iconst (x := nI 1) dq_148_116 rfl ?_
                        refine wp_iaddN dq_148_117 ?_
                        refine wp_istore (lv' := [(0, .ref 13), (1, .int (nI p)), (2, .int (nI q)), (3, .int (nI (gm_br B p q))), (4, .int (nI (B (gm_br B p q)))), (5, .int (nI ((gm_br B p q) + 1)))]) dq_148_118 (by decide) rfl ?_
                        have hE := gm_cl_in (B := B) (p := gm_br B p q + 1) (q := q) (by omega)
                        refine c_ftL2 hA hq (q - (gm_br B p q + 1)) (gm_br B p q + 1) (by omega) ?_
                        show wp_W L xs _ 148 143 [(0, .ref 13), (1, .int (nI p)), (2, .int (nI q)), (3, .int (nI (gm_br B p q))), (4, .int (nI (B (gm_br B p q)))), (5, .int (nI (gm_cl B (gm_br B p q + 1) q)))] [] h _
                        refine wp_iload dq_148_143 rfl ?_
                        refine wp_iload_n dq_148_145 rfl ?_
                        refine wp_ic_geN (tgt := 168) dq_148_146 rfl (by omega) (by omega) (fun c12 => ?_) (fun c12 => ?_)
                        · refine wp_iconst (x := -1) dq_148_168 rfl ?_
                          exact wp_ire dq_148_169 rfl ⟨rfl, Or.inl rfl⟩ ⟨so_1 (by rw [show gm_ft B p q = none by unfold gm_ft; rw [if_neg (by omega), if_pos (by omega), if_pos (by omega), if_pos (by omega)]]; rfl), rfl⟩
                        · refine wp_aload_n dq_148_149 rfl ?_
                          refine wp_iload_n dq_148_150 rfl ?_
                          refine wp_iconst (x := nI 1) dq_148_151 rfl ?_
                          refine wp_iaddN dq_148_152 ?_
                          refine wp_iload dq_148_153 rfl ?_
                          refine wp_cve2 dq_148_155 mt_148_109 (ob_of (mw_0 hb)) ⟨by decide +kernel, by decide +kernel⟩ (Nat.le_of_ble_eq_true rfl) (Nat.le_of_ble_eq_true rfl) (c_cnm (d := d) hA (by omega) (by omega)) ?_
                          refine wp_if_eqB (tgt := 168) dq_148_158 rfl (fun c13 => ?_) (fun c13 => ?_)
                          · refine wp_iconst (x := -1) dq_148_168 rfl ?_
                            exact wp_ire dq_148_169 rfl ⟨rfl, Or.inl rfl⟩ ⟨so_1 (by rw [show gm_ft B p q = none by unfold gm_ft; rw [if_neg (by omega), if_pos (by omega), if_pos (by omega), if_neg (by omega), if_neg (by rw [c13]; decide)]]; rfl), rfl⟩
                          · refine wp_iload dq_148_161 rfl ?_
                            refine wp_iconst (x := nI 1) dq_148_163 rfl ?_
                            refine wp_iaddN dq_148_164 ?_
                            refine wp_goto (tgt := 169) dq_148_165 rfl ?_
                            exact wp_ire dq_148_169 rfl ⟨rfl, Or.inl rfl⟩ ⟨so_1 (by rw [show gm_ft B p q = some ((gm_cl B (gm_br B p q + 1) q) + 1) by unfold gm_ft; rw [if_neg (by omega), if_pos (by omega), if_pos (by omega), if_neg (by omega), if_pos c13]]; rfl), rfl⟩
                      · refine wp_iconst (x := -1) dq_148_113 rfl ?_
                        exact wp_ire dq_148_114 rfl ⟨rfl, Or.inl rfl⟩ ⟨so_1 (by rw [show gm_ft B p q = none by unfold gm_ft; rw [if_neg (by omega), if_pos (by omega), if_neg (by omega), if_neg (fun r => by have := gm_pr.mp r; omega)]]; rfl), rfl⟩
                    · refine wp_iload_n dq_148_102 rfl ?_
                      refine wp_iconst (x := nI 1) dq_148_103 rfl ?_
                      refine wp_iaddN dq_148_104 ?_
                      exact wp_ire dq_148_105 rfl ⟨rfl, Or.inl rfl⟩ ⟨so_1 (by rw [show gm_ft B p q = some ((gm_br B p q) + 1) by unfold gm_ft; rw [if_neg (by omega), if_pos (by omega), if_neg (by omega), if_pos (gm_pr.mpr (by omega))]]; rfl), rfl⟩
    · refine wp_iconst (x := -1) dq_148_37 rfl ?_
      exact wp_ire dq_148_38 rfl ⟨rfl, Or.inl rfl⟩ ⟨so_1 (by rw [show gm_ft B p q = none by unfold gm_ft; rw [if_neg (by omega), if_neg (by omega)]]; rfl), rfl⟩
