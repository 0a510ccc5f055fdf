/-! shapes of stretches of the tape, on Nats: B the bytes -/
def gB (s : Nat → Int32) (a : Nat → Nat → Int32) (B : Nat → Nat) (n : Nat) : Prop := n ≤ 480 ∧ ∀ j, j < n → f_u1At s a (nI j) = nI (B j) ∧ B j < 256
def gm_bad (c : Nat) : Bool := c == 46 || c == 59 || c == 91
def gm_prim (c : Nat) : Bool := c == 66 || c == 67 || c == 68 || c == 70 || c == 73 || c == 74 || c == 83 || c == 90
def gm_badm (c : Nat) : Bool := c == 46 || c == 59 || c == 91 || c == 47 || c == 60 || c == 62
def gm_ch (c : Nat) : Int32 := ((nI c : Int32).toUInt32 % 65536).toInt32
theorem gm_can : ∀ c, c < 256 → f_canEncode (gm_ch c) = 1 := by decide +kernel
theorem gm_i1 : ∀ c, c < 256 → (0 ≤ sx_i (sx_t 11) (gm_ch c).toInt8.toInt32 (sx_t 11).length 0 ↔ gm_bad c = true) := by decide +kernel
theorem gm_i2 : ∀ c, c < 256 → (sx_i (sx_t 12) (gm_ch c).toInt8.toInt32 (sx_t 12).length 0 < 0 ↔ gm_prim c = false) := by decide +kernel
theorem gm_i3 : ∀ c, c < 256 → (sx_i (sx_t 13) (gm_ch c).toInt8.toInt32 (sx_t 13).length 0 < 0 ↔ gm_badm c = false) := by decide +kernel
def gm_cnL (B : Nat → Nat) (q : Nat) : Nat → Nat → Nat → Bool
  | 0, _, part => decide (part < q)
  | j + 1, i, part => if gm_bad (B i) = true ∨ (B i = 47 ∧ i = part) then false else gm_cnL B q j (i + 1) (if B i = 47 then i + 1 else part)
def gm_cn (B : Nat → Nat) (p q : Nat) : Bool := gm_cnL B q (q - p) p p
def bI (c : Bool) : Int32 := if c = true then 1 else 0
theorem bI_n (c : Bool) : narrow .boolean (.int (bI c)) = .int (bI c) := by cases c <;> rfl
set_option maxRecDepth 100000 in
theorem c_cnL {L : Nat} {xs : Nat → Int32} {d b n : Nat} {B : Nat → Nat} {h : List qx_E} {s : Nat → Int32} {a : Nat → Nat → Int32} {q : Nat} {x : Int32} {Q : Option Value → List qx_E → Prop} (hb : tb h b s a) (hw : tw s a) (hg : gB s a B n) (hq9 : q ≤ n) : ∀ j i part (e : qx_L), (∀ part i (v : Int32), qx_st1 ((0, .ref (b + 2)) :: (1, .int x) :: (2, .int (nI q)) :: (3, .int (nI part)) :: (4, .int (nI i)) :: e) 5 (.int v) = [(0, .ref (b + 2)), (1, .int x), (2, .int (nI q)), (3, .int (nI part)), (4, .int (nI i)), (5, .int v)]) → i + j = q → part ≤ i → Q (some (.int (bI (gm_cnL B q j i part)))) h → wp_W L xs (d + 4) 26 5 ((0, .ref (b + 2)) :: (1, .int x) :: (2, .int (nI q)) :: (3, .int (nI part)) :: (4, .int (nI i)) :: e) [] h Q := by
  have hn9 := hg.1
  intro j
  induction j with
  | zero =>
    intro i part e he hi hp hq
    refine wp_iload dq_26_5 rfl ?_
    refine wp_iload_n dq_26_7 rfl ?_
    refine wp_ic_ge (tgt := 63) dq_26_8 rfl (fun c1 => ?_) (fun c1 => absurd (nI_le (by omega) (by omega)) c1)
    refine wp_iload_n dq_26_63 rfl ?_
    refine wp_iload_n dq_26_64 rfl ?_
    refine wp_ic_ge (tgt := 72) dq_26_65 rfl (fun c2 => ?_) (fun c2 => ?_)
    · refine wp_iconst (x := 0) dq_26_72 rfl ?_
      unfold gm_cnL at hq
      rw [show decide (part < q) = false by simp; exact (Nat.not_lt.mp (fun r => nI_ge r (by omega) c2))] at hq
      exact wp_ire dq_26_73 rfl ⟨rfl, Or.inr (Or.inl rfl)⟩ hq
    · refine wp_iconst (x := 1) dq_26_68 rfl ?_
      refine wp_goto (tgt := 73) dq_26_69 rfl ?_
      unfold gm_cnL at hq
      rw [show decide (part < q) = true by simp; rcases Nat.lt_or_ge part q with r | r; exact r; exact absurd (nI_le r (by omega)) c2] at hq
      exact wp_ire dq_26_73 rfl ⟨rfl, Or.inr (Or.inl rfl)⟩ hq
  | succ j ih =>
    intro i part e he hi hp hq
    have hB := (hg.2 i (by omega)).2
    refine wp_iload dq_26_5 rfl ?_
    refine wp_iload_n dq_26_7 rfl ?_
    refine wp_ic_ge (tgt := 63) dq_26_8 rfl (fun c1 => ?_) (fun c1 => ?_)
    · refine wp_iload_n dq_26_63 rfl ?_
      refine wp_iload_n dq_26_64 rfl ?_
      refine wp_ic_ge (tgt := 72) dq_26_65 rfl (fun c2 => ?_) (fun c2 => ?_)
      · refine wp_iconst (x := 0) dq_26_72 rfl ?_
        exact absurd c1 (nI_ge (by omega) (by omega))
      · refine wp_iconst (x := 1) dq_26_68 rfl ?_
        refine wp_goto (tgt := 73) dq_26_69 rfl ?_
        exact absurd c1 (nI_ge (by omega) (by omega))
    · refine wp_aload_n dq_26_11 rfl ?_
      refine wp_iload dq_26_12 rfl ?_
      refine wp_cve1 dq_26_14 mt_26_17 (ob_of (tb_c2 hb)) ⟨by decide +kernel, by decide +kernel⟩ (Nat.le_of_ble_eq_true rfl) (Nat.le_of_ble_eq_true rfl) (c_u1At hb hw) ?_
      rw [(hg.2 i (by omega)).1]
      refine wp_istore (lv' := [(0, .ref (b + 2)), (1, .int x), (2, .int (nI q)), (3, .int (nI part)), (4, .int (nI i)), (5, .int (nI (B i)))]) dq_26_17 (by decide) (he part i _) ?_
      refine wp_ldc (v := .retAddr 11) dq_26_19 (by decide +kernel) ?_
      refine wp_iload dq_26_21 rfl ?_
      refine wp_i2c dq_26_23 ?_
      refine wp_cve1 dq_26_24 mt_26_31 (by show qx_ko 11 = _; exact ko_s (by decide)) ⟨by decide +kernel, by decide +kernel⟩ (Nat.le_of_ble_eq_true rfl) (Nat.le_of_ble_eq_true rfl) (c_ix1 (k := 11) (y := gm_ch (B i)) (by decide) (gm_can (B i) hB)) ?_
      refine wp_if_ge (tgt := 43) dq_26_27 rfl (fun c3 => ?_) (fun c3 => ?_)
      · refine wp_iconst (x := 0) dq_26_43 rfl ?_
        unfold gm_cnL at hq
        rw [if_pos (Or.inl ((gm_i1 (B i) hB).mp c3))] at hq
        exact wp_ire dq_26_44 rfl ⟨rfl, Or.inr (Or.inl rfl)⟩ hq
      · refine wp_iload dq_26_30 rfl ?_
        refine wp_bipush (x := 47) dq_26_32 rfl ?_
        refine wp_ic_ne (tgt := 45) dq_26_34 rfl (fun c4 => ?_) (fun c4 => ?_)
        · refine wp_iload dq_26_45 rfl ?_
          refine wp_bipush (x := 47) dq_26_47 rfl ?_
          refine wp_ic_ne (tgt := 57) dq_26_49 rfl (fun c5 => ?_) (fun c5 => ?_)
          · refine wp_iinc (y := ((nI i) + 1)) (lv' := [(0, .ref (b + 2)), (1, .int x), (2, .int (nI q)), (3, .int (nI part)), (4, .int ((nI i) + 1)), (5, .int (nI (B i)))]) dq_26_57 rfl rfl (by decide) rfl ?_
            refine wp_goto (tgt := 5) dq_26_60 rfl ?_
            have hn : ¬ B i = 47 := fun q1 => c4 (by rw [q1]; rfl)
            rw [nI_1]
            unfold gm_cnL at hq
            rw [if_neg (by rintro (q1 | ⟨q1, q2⟩); exact c3 ((gm_i1 (B i) hB).mpr q1); exact hn q1), if_neg hn] at hq
            exact ih (i + 1) part _ (fun _ _ _ => rfl) (by omega) (by omega) hq
          · refine wp_iload dq_26_52 rfl ?_
            refine wp_iconst (x := 1) dq_26_54 rfl ?_
            refine wp_iadd dq_26_55 ?_
            refine wp_istore_n (lv' := [(0, .ref (b + 2)), (1, .int x), (2, .int (nI q)), (3, .int ((nI i) + 1)), (4, .int (nI i)), (5, .int (nI (B i)))]) dq_26_56 (by decide) rfl ?_
            refine wp_iinc (y := ((nI i) + 1)) (lv' := [(0, .ref (b + 2)), (1, .int x), (2, .int (nI q)), (3, .int ((nI i) + 1)), (4, .int ((nI i) + 1)), (5, .int (nI (B i)))]) dq_26_57 rfl rfl (by decide) rfl ?_
            refine wp_goto (tgt := 5) dq_26_60 rfl ?_
            exact absurd c5 c4
        · refine wp_iload dq_26_37 rfl ?_
          refine wp_iload_n dq_26_39 rfl ?_
          refine wp_ic_ne (tgt := 45) dq_26_40 rfl (fun c6 => ?_) (fun c6 => ?_)
          · refine wp_iload dq_26_45 rfl ?_
            refine wp_bipush (x := 47) dq_26_47 rfl ?_
            refine wp_ic_ne (tgt := 57) dq_26_49 rfl (fun c7 => ?_) (fun c7 => ?_)
            · refine wp_iinc (y := ((nI i) + 1)) (lv' := [(0, .ref (b + 2)), (1, .int x), (2, .int (nI q)), (3, .int (nI part)), (4, .int ((nI i) + 1)), (5, .int (nI (B i)))]) dq_26_57 rfl rfl (by decide) rfl ?_
              refine wp_goto (tgt := 5) dq_26_60 rfl ?_
              exact absurd c4 c7
            · refine wp_iload dq_26_52 rfl ?_
              refine wp_iconst (x := 1) dq_26_54 rfl ?_
              refine wp_iadd dq_26_55 ?_
              refine wp_istore_n (lv' := [(0, .ref (b + 2)), (1, .int x), (2, .int (nI q)), (3, .int ((nI i) + 1)), (4, .int (nI i)), (5, .int (nI (B i)))]) dq_26_56 (by decide) rfl ?_
              refine wp_iinc (y := ((nI i) + 1)) (lv' := [(0, .ref (b + 2)), (1, .int x), (2, .int (nI q)), (3, .int ((nI i) + 1)), (4, .int ((nI i) + 1)), (5, .int (nI (B i)))]) dq_26_57 rfl rfl (by decide) rfl ?_
              refine wp_goto (tgt := 5) dq_26_60 rfl ?_
              have h47 : B i = 47 := (nI_eq (b := 47) (by omega) (by decide)).mp c4
              rw [nI_1]
              unfold gm_cnL at hq
              rw [if_neg (by rintro (q1 | ⟨q1, q2⟩); exact c3 ((gm_i1 (B i) hB).mpr q1); exact c6 (by rw [q2])), if_pos h47] at hq
              exact ih (i + 1) (i + 1) _ (fun _ _ _ => rfl) (by omega) (by omega) hq
          · refine wp_iconst (x := 0) dq_26_43 rfl ?_
            have h47 : B i = 47 := (nI_eq (b := 47) (by omega) (by decide)).mp c4
            have hpt : i = part := (nI_eq (by omega) (by omega)).mp c6
            unfold gm_cnL at hq
            rw [if_pos (Or.inr ⟨h47, hpt⟩)] at hq
            exact wp_ire dq_26_44 rfl ⟨rfl, Or.inr (Or.inl rfl)⟩ hq
set_option maxRecDepth 100000 in
theorem c_cn {L : Nat} {xs : Nat → Int32} {d b n : Nat} {B : Nat → Nat} {h : List qx_E} {s : Nat → Int32} {a : Nat → Nat → Int32} {p q : Nat} (hb : tb h b s a) (hw : tw s a) (hg : gB s a B n) (hp9 : p ≤ q) (hq9 : q ≤ n) : qe_E L xs (d + 4) 26 [.ref (b + 2), .int (nI p), .int (nI q)] h (some (.int (bI (gm_cn B p q)))) h := by
  show wp_W L xs _ 26 0 [(0, .ref (b + 2)), (1, .int (nI p)), (2, .int (nI q))] [] h _
  refine wp_iload_n dq_26_0 rfl ?_
  refine wp_istore_n (lv' := [(0, .ref (b + 2)), (1, .int (nI p)), (2, .int (nI q)), (3, .int (nI p))]) dq_26_1 (by decide) rfl ?_
  refine wp_iload_n dq_26_2 rfl ?_
  refine wp_istore (lv' := [(0, .ref (b + 2)), (1, .int (nI p)), (2, .int (nI q)), (3, .int (nI p)), (4, .int (nI p))]) dq_26_3 (by decide) rfl ?_
  exact c_cnL hb hw hg hq9 (q - p) p p [] (fun _ _ _ => rfl) (by omega) (by omega) ⟨rfl, rfl⟩
def gm_mmL (B : Nat → Nat) : Nat → Nat → Bool
  | 0, _ => true
  | j + 1, i => if gm_badm (B i) = true then false else gm_mmL B j (i + 1)
def gm_mm (B : Nat → Nat) (p q : Nat) : Bool := gm_mmL B (q - p) p && decide (p < q)
set_option maxRecDepth 100000 in
theorem c_mmL {L : Nat} {xs : Nat → Int32} {d b n : Nat} {B : Nat → Nat} {h : List qx_E} {s : Nat → Int32} {a : Nat → Nat → Int32} {p q : Nat} {Q : Option Value → List qx_E → Prop} (hb : tb h b s a) (hw : tw s a) (hg : gB s a B n) (hp9 : p ≤ q) (hq9 : q ≤ n) : ∀ j i, i + j = q → Q (some (.int (bI (gm_mmL B j i && decide (p < q))))) h → wp_W L xs (d + 4) 52 2 [(0, .ref (b + 2)), (1, .int (nI p)), (2, .int (nI q)), (3, .int (nI i))] [] h Q := by
  have hn9 := hg.1
  intro j
  induction j with
  | zero =>
    intro i hi hq
    refine wp_iload_n dq_52_2 rfl ?_
    refine wp_iload_n dq_52_3 rfl ?_
    refine wp_ic_ge (tgt := 29) dq_52_4 rfl (fun c1 => ?_) (fun c1 => absurd (nI_le (by omega) (by omega)) c1)
    refine wp_iload_n dq_52_29 rfl ?_
    refine wp_iload_n dq_52_30 rfl ?_
    refine wp_ic_ge (tgt := 38) dq_52_31 rfl (fun c2 => ?_) (fun c2 => ?_)
    · refine wp_iconst (x := 0) dq_52_38 rfl ?_
      unfold gm_mmL at hq
      rw [Bool.true_and, show decide (p < q) = false by simp; exact (Nat.not_lt.mp (fun r => nI_ge r (by omega) c2))] at hq
      exact wp_ire dq_52_39 rfl ⟨rfl, Or.inr (Or.inl rfl)⟩ hq
    · refine wp_iconst (x := 1) dq_52_34 rfl ?_
      refine wp_goto (tgt := 39) dq_52_35 rfl ?_
      unfold gm_mmL at hq
      rw [Bool.true_and, show decide (p < q) = true by simp; rcases Nat.lt_or_ge p q with r | r; exact r; exact absurd (nI_le r (by omega)) c2] at hq
      exact wp_ire dq_52_39 rfl ⟨rfl, Or.inr (Or.inl rfl)⟩ hq
  | succ j ih =>
    intro i hi hq
    have hB := (hg.2 i (by omega)).2
    refine wp_iload_n dq_52_2 rfl ?_
    refine wp_iload_n dq_52_3 rfl ?_
    refine wp_ic_ge (tgt := 29) dq_52_4 rfl (fun c1 => ?_) (fun c1 => ?_)
    · refine wp_iload_n dq_52_29 rfl ?_
      refine wp_iload_n dq_52_30 rfl ?_
      refine wp_ic_ge (tgt := 38) dq_52_31 rfl (fun c2 => ?_) (fun c2 => ?_)
      · refine wp_iconst (x := 0) dq_52_38 rfl ?_
        exact absurd c1 (nI_ge (by omega) (by omega))
      · refine wp_iconst (x := 1) dq_52_34 rfl ?_
        refine wp_goto (tgt := 39) dq_52_35 rfl ?_
        exact absurd c1 (nI_ge (by omega) (by omega))
    · refine wp_ldc (v := .retAddr 13) dq_52_7 (by decide +kernel) ?_
      refine wp_aload_n dq_52_9 rfl ?_
      refine wp_iload_n dq_52_10 rfl ?_
      refine wp_cve1 dq_52_11 mt_52_17 (ob_of (tb_c2 hb)) ⟨by decide +kernel, by decide +kernel⟩ (Nat.le_of_ble_eq_true rfl) (Nat.le_of_ble_eq_true rfl) (c_u1At hb hw) ?_
      rw [(hg.2 i (by omega)).1]
      refine wp_i2c dq_52_14 ?_
      refine wp_cve1 dq_52_15 mt_52_31 (by show qx_ko 13 = _; exact ko_s (by decide)) ⟨by decide +kernel, by decide +kernel⟩ (Nat.le_of_ble_eq_true rfl) (Nat.le_of_ble_eq_true rfl) (c_ix1 (k := 13) (y := gm_ch (B i)) (by decide) (gm_can (B i) hB)) ?_
      refine wp_if_lt (tgt := 23) dq_52_18 rfl (fun c3 => ?_) (fun c3 => ?_)
      · refine wp_iinc (y := ((nI i) + 1)) (lv' := [(0, .ref (b + 2)), (1, .int (nI p)), (2, .int (nI q)), (3, .int ((nI i) + 1))]) dq_52_23 rfl rfl (by decide) rfl ?_
        refine wp_goto (tgt := 2) dq_52_26 rfl ?_
        rw [nI_1]
        unfold gm_mmL at hq
        rw [if_neg (by rw [(gm_i3 (B i) hB).mp c3]; decide)] at hq
        exact ih (i + 1) (by omega) hq
      · refine wp_iconst (x := 0) dq_52_21 rfl ?_
        unfold gm_mmL at hq
        rw [if_pos (by rcases Bool.eq_false_or_eq_true (gm_badm (B i)) with r | r; exact r; exact absurd ((gm_i3 (B i) hB).mpr r) c3)] at hq
        exact wp_ire dq_52_22 rfl ⟨rfl, Or.inr (Or.inl rfl)⟩ hq
set_option maxRecDepth 100000 in
theorem c_mm {L : Nat} {xs : Nat → Int32} {d b n : Nat} {B : Nat → Nat} {h : List qx_E} {s : Nat → Int32} {a : Nat → Nat → Int32} {p q : Nat} (hb : tb h b s a) (hw : tw s a) (hg : gB s a B n) (hp9 : p ≤ q) (hq9 : q ≤ n) : qe_E L xs (d + 4) 52 [.ref (b + 2), .int (nI p), .int (nI q)] h (some (.int (bI (gm_mm B p q)))) h := by
  show wp_W L xs _ 52 0 [(0, .ref (b + 2)), (1, .int (nI p)), (2, .int (nI q))] [] h _
  refine wp_iload_n dq_52_0 rfl ?_
  refine wp_istore_n (lv' := [(0, .ref (b + 2)), (1, .int (nI p)), (2, .int (nI q)), (3, .int (nI p))]) dq_52_1 (by decide) rfl ?_
  exact c_mmL hb hw hg hp9 hq9 (q - p) p (by omega) ⟨rfl, rfl⟩
