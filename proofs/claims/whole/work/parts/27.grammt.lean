def gm_mtL (B : Nat → Nat) (q : Nat) : Nat → Option Nat → Option Nat
  | 0, x => x
  | _ + 1, none => none
  | j + 1, some k => if k < q ∧ ¬ B k = 41 then gm_mtL B q j (gm_ft B k q) else some k
def gm_mtE (B : Nat → Nat) (q : Nat) (x : Option Nat) : Bool := match x with
  | none => false
  | some k => if k < q ∧ B k = 41 then (decide (k + 2 = q ∧ B (k + 1) = 86) || decide (gm_ft B (k + 1) q = some q)) else false
def gm_mt (B : Nat → Nat) (p q : Nat) : Bool := if p < q ∧ B p = 40 then gm_mtE B q (gm_mtL B q (q - p) (some (p + 1))) else false
theorem gm_mtL_in {B : Nat → Nat} {q : Nat} : ∀ j x, (∀ k, x = some k → k ≤ q) → ∀ k, gm_mtL B q j x = some k → k ≤ q
  | 0, x, hx, k, e => hx k e
  | j + 1, none, hx, k, e => by cases e
  | j + 1, some k0, hx, k, e => by
    unfold gm_mtL at e
    split at e
    · rename_i hc
      exact gm_mtL_in j _ (fun k1 e1 => (gm_ft_in (by omega) e1).2) k e
    · cases e
      exact hx _ rfl
theorem oI_ne {k : Nat} (hk : k < 2 ^ 31) : ¬ nI k = -1 := by
  intro e
  have h1 : (nI k).toInt = (-1 : Int32).toInt := by rw [e]
  rw [nI_toInt hk] at h1
  have h2 : (-1 : Int32).toInt = -1 := by decide
  omega
theorem oI_eq {x : Option Nat} {q : Nat} (hx : ∀ k, x = some k → k < 2 ^ 31) (hq : q < 2 ^ 31) : oI x = nI q ↔ x = some q := by
  cases x with
  | none => exact ⟨fun e => absurd e.symm (oI_ne hq), fun e => by cases e⟩
  | some k => exact ⟨fun e => by rw [(nI_eq (hx k rfl) hq).mp e], fun e => by cases e; rfl⟩
set_option maxRecDepth 100000 in
theorem c_mtL {L : Nat} {xs : Nat → Int32} {d b n : Nat} {B : Nat → Nat} {h : List qx_E} {s : Nat → Int32} {a : Nat → Nat → Int32} {p q : Nat} {Q : Option Value → List qx_E → Prop} (hb : tb h b s a) (hw : tw s a) (hg : gB s a B n) (hq9 : q ≤ n) : ∀ j t x, t + j = q → (∀ k, x = some k → k ≤ q) → (∀ z : Int32, wp_W L xs (d + 6) 51 63 [(0, .ref (b + 2)), (1, .int (nI p)), (2, .int (nI q)), (3, .int (oI (gm_mtL B q j x))), (4, .int z)] [] h Q) → wp_W L xs (d + 6) 51 24 [(0, .ref (b + 2)), (1, .int (nI p)), (2, .int (nI q)), (3, .int (oI x)), (4, .int (nI t))] [] h Q := by
  have hn9 := hg.1
  intro j
  induction j with
  | zero =>
    intro t x hi hx hK
    refine wp_iload dq_51_24 rfl ?_
    refine wp_iload_n dq_51_26 rfl ?_
    exact wp_ic_ge (tgt := 63) dq_51_27 rfl (fun c1 => hK _) (fun c1 => absurd (nI_le (by omega) (by omega)) c1)
  | succ j ih =>
    intro t x hi hx hK
    cases x with
    | none =>
      change wp_W L xs _ 51 24 [(0, .ref (b + 2)), (1, .int (nI p)), (2, .int (nI q)), (3, .int (-1)), (4, .int (nI t))] [] h Q
      refine wp_iload dq_51_24 rfl ?_
      refine wp_iload_n dq_51_26 rfl ?_
      refine wp_ic_ge (tgt := 63) dq_51_27 rfl (fun c1 => ?_) (fun c1 => ?_)
      · exact absurd c1 (nI_ge (by omega) (by omega))
      · refine wp_iload_n dq_51_30 rfl ?_
        refine wp_iconst (x := -1) dq_51_31 rfl ?_
        refine wp_ic_eq (tgt := 63) dq_51_32 rfl (fun c2 => ?_) (fun c2 => ?_)
        · exact hK (nI t)
        · exact absurd rfl c2
    | some k =>
      have hk9 := hx k rfl
      change wp_W L xs _ 51 24 [(0, .ref (b + 2)), (1, .int (nI p)), (2, .int (nI q)), (3, .int (nI k)), (4, .int (nI t))] [] h Q
      refine wp_iload dq_51_24 rfl ?_
      refine wp_iload_n dq_51_26 rfl ?_
      refine wp_ic_ge (tgt := 63) dq_51_27 rfl (fun c1 => ?_) (fun c1 => ?_)
      · exact absurd c1 (nI_ge (by omega) (by omega))
      · refine wp_iload_n dq_51_30 rfl ?_
        refine wp_iconst (x := -1) dq_51_31 rfl ?_
        refine wp_ic_eq (tgt := 63) dq_51_32 rfl (fun c2 => ?_) (fun c2 => ?_)
        · exact absurd c2 (oI_ne (by omega))
        · refine wp_iload_n dq_51_35 rfl ?_
          refine wp_iload_n dq_51_36 rfl ?_
          refine wp_ic_ge (tgt := 63) dq_51_37 rfl (fun c3 => ?_) (fun c3 => ?_)
          · have hK2 := hK (nI t)
            unfold gm_mtL at hK2
            rw [if_neg (fun r => absurd c3 (nI_ge r.1 (by omega)))] at hK2
            exact hK2
          · refine wp_aload_n dq_51_40 rfl ?_
            refine wp_iload_n dq_51_41 rfl ?_
            have hkq : k < q := by rcases Nat.lt_or_ge k q with r | r; exact r; exact absurd (nI_le r (by omega)) c3
            have hB := (hg.2 k (by omega)).2
            refine wp_cve1 dq_51_42 mt_51_17 (ob_of (tb_c2 hb)) ⟨by decide +kernel, by decide +kernel⟩ (Nat.le_of_ble_eq_true rfl) (Nat.le_of_ble_eq_true rfl) (c_u1At hb hw) ?_
            rw [(hg.2 k (by omega)).1]
            refine wp_bipush (x := 41) dq_51_45 rfl ?_
            refine wp_ic_eq (tgt := 63) dq_51_47 rfl (fun c4 => ?_) (fun c4 => ?_)
            · have hK2 := hK (nI t)
              unfold gm_mtL at hK2
              rw [if_neg (fun r => r.2 ((nI_eq (b := 41) (by omega) (by decide)).mp c4))] at hK2
              exact hK2
            · refine wp_aload_n dq_51_50 rfl ?_
              refine wp_iload_n dq_51_51 rfl ?_
              refine wp_iload_n dq_51_52 rfl ?_
              refine wp_cse3 dq_51_53 (by decide +kernel) mt_51_13 (by decide +kernel) (Nat.le_of_ble_eq_true rfl) (Nat.le_of_ble_eq_true rfl) (c_ft hb hw hg (by omega) hq9) ?_
              refine wp_istore_n (lv' := [(0, .ref (b + 2)), (1, .int (nI p)), (2, .int (nI q)), (3, .int (oI (gm_ft B k q))), (4, .int (nI t))]) dq_51_56 (by decide) rfl ?_
              refine wp_iinc (y := ((nI t) + 1)) (lv' := [(0, .ref (b + 2)), (1, .int (nI p)), (2, .int (nI q)), (3, .int (oI (gm_ft B k q))), (4, .int ((nI t) + 1))]) dq_51_57 rfl rfl (by decide) rfl ?_
              refine wp_goto (tgt := 24) dq_51_60 rfl ?_
              rw [nI_1]
              unfold gm_mtL at hK
              rw [if_pos ⟨hkq, fun r => c4 (by rw [r]; rfl)⟩] at hK
              exact ih (t + 1) _ (by omega) (fun k1 e1 => (gm_ft_in (by omega) e1).2) hK
set_option maxRecDepth 100000 in
theorem c_mtE {L : Nat} {xs : Nat → Int32} {d b n : Nat} {B : Nat → Nat} {h : List qx_E} {s : Nat → Int32} {a : Nat → Nat → Int32} {p q : Nat} {z : Int32} {x : Option Nat} {Q : Option Value → List qx_E → Prop} (hb : tb h b s a) (hw : tw s a) (hg : gB s a B n) (hq9 : q ≤ n) (hx : ∀ k, x = some k → k ≤ q) (hq : Q (some (.int (bI (gm_mtE B q x)))) h) : wp_W L xs (d + 6) 51 63 [(0, .ref (b + 2)), (1, .int (nI p)), (2, .int (nI q)), (3, .int (oI x)), (4, .int z)] [] h Q := by
  have hn9 := hg.1
  cases x with
  | none =>
    refine wp_iload_n dq_51_63 rfl ?_
    refine wp_iconst (x := -1) dq_51_64 rfl ?_
    refine wp_ic_eq (tgt := 83) dq_51_65 rfl (fun c1 => ?_) (fun c1 => absurd rfl c1)
    refine wp_iconst (x := 0) dq_51_83 rfl ?_
    exact wp_ire dq_51_84 rfl ⟨rfl, Or.inr (Or.inl rfl)⟩ hq
  | some k =>
    have hk9 := hx k rfl
    change wp_W L xs _ 51 63 [(0, .ref (b + 2)), (1, .int (nI p)), (2, .int (nI q)), (3, .int (nI k)), (4, .int z)] [] h Q
    refine wp_iload_n dq_51_63 rfl ?_
    refine wp_iconst (x := -1) dq_51_64 rfl ?_
    refine wp_ic_eq (tgt := 83) dq_51_65 rfl (fun c1 => ?_) (fun c1 => ?_)
    · refine wp_iconst (x := 0) dq_51_83 rfl ?_
      exact absurd c1 (oI_ne (by omega))
    · refine wp_iload_n dq_51_68 rfl ?_
      refine wp_iload_n dq_51_69 rfl ?_
      refine wp_ic_ge (tgt := 83) dq_51_70 rfl (fun c2 => ?_) (fun c2 => ?_)
      · have hy1 : ¬ k < q := fun r => absurd c2 (nI_ge r (by omega))
        refine wp_iconst (x := 0) dq_51_83 rfl ?_
        exact wp_ire dq_51_84 rfl ⟨rfl, Or.inr (Or.inl rfl)⟩ (by rw [gm_mtE, if_neg (fun r => hy1 r.1)] at hq; exact hq)
      · have hy1 : k < q := by rcases Nat.lt_or_ge k q with r | r; exact r; exact absurd (nI_le r (by omega)) c2
        refine wp_aload_n dq_51_73 rfl ?_
        refine wp_iload_n dq_51_74 rfl ?_
        have hB := (hg.2 k (by omega)).2
        refine wp_cve1 dq_51_75 mt_51_17 (ob_of (tb_c2 hb)) ⟨by decide +kernel, by decide +kernel⟩ (Nat.le_of_ble_eq_true rfl) (Nat.le_of_ble_eq_true rfl) (c_u1At hb hw) ?_
        rw [(hg.2 k (by omega)).1]
        refine wp_bipush (x := 41) dq_51_78 rfl ?_
        refine wp_ic_eq (tgt := 85) dq_51_80 rfl (fun c3 => ?_) (fun c3 => ?_)
        · have hy2 : B k = 41 := (nI_eq (b := 41) (by omega) (by decide)).mp c3
          refine wp_iload_n dq_51_85 rfl ?_
          refine wp_iconst (x := 2) dq_51_86 rfl ?_
          refine wp_iadd dq_51_87 ?_
          refine wp_iload_n dq_51_88 rfl ?_
          refine wp_ic_ne (tgt := 108) dq_51_89 rfl (fun c4 => ?_) (fun c4 => ?_)
          · have hy3 : ¬ k + 2 = q := fun r => c4 (by rw [← r, ← nI_add]; rfl)
            refine wp_iconst (x := 0) dq_51_108 rfl ?_
            refine wp_istore (lv' := [(0, .ref (b + 2)), (1, .int (nI p)), (2, .int (nI q)), (3, .int (nI k)), (4, .int 0)]) dq_51_109 (by decide) rfl ?_
            refine wp_iload dq_51_111 rfl ?_
            refine wp_if_ne (tgt := 128) dq_51_113 rfl (fun c5 => ?_) (fun c5 => ?_)
            · refine wp_iconst (x := 1) dq_51_128 rfl ?_
              refine wp_goto (tgt := 133) dq_51_129 rfl ?_
              exact absurd c5 (by decide)
            · refine wp_aload_n dq_51_116 rfl ?_
              refine wp_iload_n dq_51_117 rfl ?_
              refine wp_iconst (x := 1) dq_51_118 rfl ?_
              refine wp_iadd dq_51_119 ?_
              rw [nI_1]
              refine wp_iload_n dq_51_120 rfl ?_
              refine wp_cse3 dq_51_121 (by decide +kernel) mt_51_13 (by decide +kernel) (Nat.le_of_ble_eq_true rfl) (Nat.le_of_ble_eq_true rfl) (c_ft hb hw hg (by omega) hq9) ?_
              refine wp_iload_n dq_51_124 rfl ?_
              refine wp_ic_ne (tgt := 132) dq_51_125 rfl (fun c6 => ?_) (fun c6 => ?_)
              · have hy5 : ¬ gm_ft B (k + 1) q = some q := fun r => c6 (by rw [r]; rfl)
                refine wp_iconst (x := 0) dq_51_132 rfl ?_
                rw [gm_mtE, if_pos ⟨hy1, hy2⟩] at hq
                simp only [hy3, hy5, decide_true, decide_false, true_and, false_and, and_false, and_true, and_self, Bool.true_or, Bool.false_or, Bool.or_true, Bool.or_false] at hq
                exact wp_ire dq_51_133 rfl ⟨rfl, Or.inr (Or.inl rfl)⟩ hq
              · have hy5 : gm_ft B (k + 1) q = some q := (oI_eq (fun k2 e2 => by have := gm_ft_in (by omega) e2; omega) (by omega)).mp c6
                refine wp_iconst (x := 1) dq_51_128 rfl ?_
                refine wp_goto (tgt := 133) dq_51_129 rfl ?_
                rw [gm_mtE, if_pos ⟨hy1, hy2⟩] at hq
                simp only [hy3, hy5, decide_true, decide_false, true_and, false_and, and_false, and_true, and_self, Bool.true_or, Bool.false_or, Bool.or_true, Bool.or_false] at hq
                exact wp_ire dq_51_133 rfl ⟨rfl, Or.inr (Or.inl rfl)⟩ hq
          · have hy3 : k + 2 = q := (nI_eq (by omega) (by omega)).mp (by rw [← nI_add]; exact c4)
            refine wp_aload_n dq_51_92 rfl ?_
            refine wp_iload_n dq_51_93 rfl ?_
            refine wp_iconst (x := 1) dq_51_94 rfl ?_
            refine wp_iadd dq_51_95 ?_
            rw [nI_1]
            have hB2 := (hg.2 (k + 1) (by omega)).2
            refine wp_cve1 dq_51_96 mt_51_17 (ob_of (tb_c2 hb)) ⟨by decide +kernel, by decide +kernel⟩ (Nat.le_of_ble_eq_true rfl) (Nat.le_of_ble_eq_true rfl) (c_u1At hb hw) ?_
            rw [(hg.2 (k + 1) (by omega)).1]
            refine wp_bipush (x := 86) dq_51_99 rfl ?_
            refine wp_ic_ne (tgt := 108) dq_51_101 rfl (fun c7 => ?_) (fun c7 => ?_)
            · have hy4 : ¬ B (k + 1) = 86 := fun r => c7 (by rw [r]; rfl)
              refine wp_iconst (x := 0) dq_51_108 rfl ?_
              refine wp_istore (lv' := [(0, .ref (b + 2)), (1, .int (nI p)), (2, .int (nI q)), (3, .int (nI k)), (4, .int 0)]) dq_51_109 (by decide) rfl ?_
              refine wp_iload dq_51_111 rfl ?_
              refine wp_if_ne (tgt := 128) dq_51_113 rfl (fun c8 => ?_) (fun c8 => ?_)
              · refine wp_iconst (x := 1) dq_51_128 rfl ?_
                refine wp_goto (tgt := 133) dq_51_129 rfl ?_
                exact absurd c8 (by decide)
              · refine wp_aload_n dq_51_116 rfl ?_
                refine wp_iload_n dq_51_117 rfl ?_
                refine wp_iconst (x := 1) dq_51_118 rfl ?_
                refine wp_iadd dq_51_119 ?_
                rw [nI_1]
                refine wp_iload_n dq_51_120 rfl ?_
                refine wp_cse3 dq_51_121 (by decide +kernel) mt_51_13 (by decide +kernel) (Nat.le_of_ble_eq_true rfl) (Nat.le_of_ble_eq_true rfl) (c_ft hb hw hg (by omega) hq9) ?_
                refine wp_iload_n dq_51_124 rfl ?_
                refine wp_ic_ne (tgt := 132) dq_51_125 rfl (fun c9 => ?_) (fun c9 => ?_)
                · have hy5 : ¬ gm_ft B (k + 1) q = some q := fun r => c9 (by rw [r]; rfl)
                  refine wp_iconst (x := 0) dq_51_132 rfl ?_
                  rw [gm_mtE, if_pos ⟨hy1, hy2⟩] at hq
                  simp only [hy3, hy4, hy5, decide_true, decide_false, true_and, false_and, and_false, and_true, and_self, Bool.true_or, Bool.false_or, Bool.or_true, Bool.or_false] at hq
                  exact wp_ire dq_51_133 rfl ⟨rfl, Or.inr (Or.inl rfl)⟩ hq
                · have hy5 : gm_ft B (k + 1) q = some q := (oI_eq (fun k2 e2 => by have := gm_ft_in (by omega) e2; omega) (by omega)).mp c9
                  refine wp_iconst (x := 1) dq_51_128 rfl ?_
                  refine wp_goto (tgt := 133) dq_51_129 rfl ?_
                  rw [gm_mtE, if_pos ⟨hy1, hy2⟩] at hq
                  simp only [hy3, hy4, hy5, decide_true, decide_false, true_and, false_and, and_false, and_true, and_self, Bool.true_or, Bool.false_or, Bool.or_true, Bool.or_false] at hq
                  exact wp_ire dq_51_133 rfl ⟨rfl, Or.inr (Or.inl rfl)⟩ hq
            · have hy4 : B (k + 1) = 86 := (nI_eq (b := 86) (by omega) (by decide)).mp c7
              refine wp_iconst (x := 1) dq_51_104 rfl ?_
              refine wp_goto (tgt := 109) dq_51_105 rfl ?_
              refine wp_istore (lv' := [(0, .ref (b + 2)), (1, .int (nI p)), (2, .int (nI q)), (3, .int (nI k)), (4, .int 1)]) dq_51_109 (by decide) rfl ?_
              refine wp_iload dq_51_111 rfl ?_
              refine wp_if_ne (tgt := 128) dq_51_113 rfl (fun c10 => ?_) (fun c10 => ?_)
              · refine wp_iconst (x := 1) dq_51_128 rfl ?_
                refine wp_goto (tgt := 133) dq_51_129 rfl ?_
                rw [gm_mtE, if_pos ⟨hy1, hy2⟩] at hq
                simp only [hy3, hy4, decide_true, decide_false, true_and, false_and, and_false, and_true, and_self, Bool.true_or, Bool.false_or, Bool.or_true, Bool.or_false] at hq
                exact wp_ire dq_51_133 rfl ⟨rfl, Or.inr (Or.inl rfl)⟩ hq
              · refine wp_aload_n dq_51_116 rfl ?_
                refine wp_iload_n dq_51_117 rfl ?_
                refine wp_iconst (x := 1) dq_51_118 rfl ?_
                refine wp_iadd dq_51_119 ?_
                rw [nI_1]
                refine wp_iload_n dq_51_120 rfl ?_
                refine wp_cse3 dq_51_121 (by decide +kernel) mt_51_13 (by decide +kernel) (Nat.le_of_ble_eq_true rfl) (Nat.le_of_ble_eq_true rfl) (c_ft hb hw hg (by omega) hq9) ?_
                refine wp_iload_n dq_51_124 rfl ?_
                refine wp_ic_ne (tgt := 132) dq_51_125 rfl (fun c11 => ?_) (fun c11 => ?_)
                · have hy5 : ¬ gm_ft B (k + 1) q = some q := fun r => c11 (by rw [r]; rfl)
                  refine wp_iconst (x := 0) dq_51_132 rfl ?_
                  exact absurd c10 (by decide)
                · have hy5 : gm_ft B (k + 1) q = some q := (oI_eq (fun k2 e2 => by have := gm_ft_in (by omega) e2; omega) (by omega)).mp c11
                  refine wp_iconst (x := 1) dq_51_128 rfl ?_
                  refine wp_goto (tgt := 133) dq_51_129 rfl ?_
                  exact absurd c10 (by decide)
        · have hy2 : ¬ B k = 41 := fun r => c3 (by rw [r]; rfl)
          refine wp_iconst (x := 0) dq_51_83 rfl ?_
          exact wp_ire dq_51_84 rfl ⟨rfl, Or.inr (Or.inl rfl)⟩ (by rw [gm_mtE, if_neg (fun r => hy2 r.2)] at hq; exact hq)
set_option maxRecDepth 100000 in
theorem c_mt {L : Nat} {xs : Nat → Int32} {d b n : Nat} {B : Nat → Nat} {h : List qx_E} {s : Nat → Int32} {a : Nat → Nat → Int32} {p q : Nat} (hb : tb h b s a) (hw : tw s a) (hg : gB s a B n) (hp9 : p ≤ q) (hq9 : q ≤ n) : qe_E L xs (d + 6) 51 [.ref (b + 2), .int (nI p), .int (nI q)] h (some (.int (bI (gm_mt B p q)))) h := by
  have hn9 := hg.1
  show wp_W L xs _ 51 0 [(0, .ref (b + 2)), (1, .int (nI p)), (2, .int (nI q))] [] h _
  refine wp_iload_n dq_51_0 rfl ?_
  refine wp_iload_n dq_51_1 rfl ?_
  refine wp_ic_ge (tgt := 15) dq_51_2 rfl (fun c1 => ?_) (fun c1 => ?_)
  · have hy1 : ¬ p < q := fun r => absurd c1 (nI_ge r (by omega))
    refine wp_iconst (x := 0) dq_51_15 rfl ?_
    exact wp_ire dq_51_16 rfl ⟨rfl, Or.inr (Or.inl rfl)⟩ ⟨by rw [gm_mt, if_neg (fun r => hy1 r.1)]; rfl, rfl⟩
  · have hy1 : p < q := by rcases Nat.lt_or_ge p q with r | r; exact r; exact absurd (nI_le r (by omega)) c1
    refine wp_aload_n dq_51_5 rfl ?_
    refine wp_iload_n dq_51_6 rfl ?_
    have hB := (hg.2 p (by omega)).2
    refine wp_cve1 dq_51_7 mt_51_17 (ob_of (tb_c2 hb)) ⟨by decide +kernel, by decide +kernel⟩ (Nat.le_of_ble_eq_true rfl) (Nat.le_of_ble_eq_true rfl) (c_u1At hb hw) ?_
    rw [(hg.2 p (by omega)).1]
    refine wp_bipush (x := 40) dq_51_10 rfl ?_
    refine wp_ic_eq (tgt := 17) dq_51_12 rfl (fun c2 => ?_) (fun c2 => ?_)
    · have hy2 : B p = 40 := (nI_eq (b := 40) (by omega) (by decide)).mp c2
      refine wp_iload_n dq_51_17 rfl ?_
      refine wp_iconst (x := 1) dq_51_18 rfl ?_
      refine wp_iadd dq_51_19 ?_
      refine wp_istore_n (lv' := [(0, .ref (b + 2)), (1, .int (nI p)), (2, .int (nI q)), (3, .int ((nI p) + 1))]) dq_51_20 (by decide) rfl ?_
      refine wp_iload_n dq_51_21 rfl ?_
      refine wp_istore (lv' := [(0, .ref (b + 2)), (1, .int (nI p)), (2, .int (nI q)), (3, .int ((nI p) + 1)), (4, .int (nI p))]) dq_51_22 (by decide) rfl ?_
      rw [nI_1]
      refine c_mtL hb hw hg hq9 (q - p) p (some (p + 1)) (by omega) (fun k e => by cases e; omega) (fun z => ?_)
      exact c_mtE hb hw hg hq9 (gm_mtL_in (q - p) (some (p + 1)) (fun k e => by cases e; omega)) ⟨by rw [gm_mt, if_pos ⟨hy1, hy2⟩], rfl⟩
    · have hy2 : ¬ B p = 40 := fun r => c2 (by rw [r]; rfl)
      refine wp_iconst (x := 0) dq_51_15 rfl ?_
      exact wp_ire dq_51_16 rfl ⟨rfl, Or.inr (Or.inl rfl)⟩ ⟨by rw [gm_mt, if_neg (fun r => hy2 r.2)]; rfl, rfl⟩
def f_shapes (s : Nat → Int32) (a : Nat → Nat → Int32) (B : Nat → Nat) (p : Nat) (q : Nat) : Int32 := (if (bI (gm_cn B p q)) = 0 then (if (oI (gm_ft B p q)) = (nI q) then (if (f_u1At s a (nI p)) = 91 then (if (bI (gm_mt B p q)) = 0 then (if (bI (gm_mm B p q)) = 0 then (0 ||| 6) else ((0 ||| 6) ||| 16)) else (if (bI (gm_mm B p q)) = 0 then ((0 ||| 6) ||| 8) else (((0 ||| 6) ||| 8) ||| 16))) else (if (bI (gm_mt B p q)) = 0 then (if (bI (gm_mm B p q)) = 0 then (0 ||| 4) else ((0 ||| 4) ||| 16)) else (if (bI (gm_mm B p q)) = 0 then ((0 ||| 4) ||| 8) else (((0 ||| 4) ||| 8) ||| 16)))) else (if (bI (gm_mt B p q)) = 0 then (if (bI (gm_mm B p q)) = 0 then 0 else (0 ||| 16)) else (if (bI (gm_mm B p q)) = 0 then (0 ||| 8) else ((0 ||| 8) ||| 16)))) else (if (oI (gm_ft B p q)) = (nI q) then (if (f_u1At s a (nI p)) = 91 then (if (bI (gm_mt B p q)) = 0 then (if (bI (gm_mm B p q)) = 0 then (1 ||| 6) else ((1 ||| 6) ||| 16)) else (if (bI (gm_mm B p q)) = 0 then ((1 ||| 6) ||| 8) else (((1 ||| 6) ||| 8) ||| 16))) else (if (bI (gm_mt B p q)) = 0 then (if (bI (gm_mm B p q)) = 0 then (1 ||| 4) else ((1 ||| 4) ||| 16)) else (if (bI (gm_mm B p q)) = 0 then ((1 ||| 4) ||| 8) else (((1 ||| 4) ||| 8) ||| 16)))) else (if (bI (gm_mt B p q)) = 0 then (if (bI (gm_mm B p q)) = 0 then 1 else (1 ||| 16)) else (if (bI (gm_mm B p q)) = 0 then (1 ||| 8) else ((1 ||| 8) ||| 16)))))
set_option maxRecDepth 100000 in
theorem c_shapes {L : Nat} {xs : Nat → Int32} {d : Nat} {h : List qx_E} {b n : Nat} {s : Nat → Int32} {a : Nat → Nat → Int32} {B : Nat → Nat} {p : Nat} {q : Nat} (hb : tb h b s a) (hw : tw s a) (hg : gB s a B n) (hp9 : p ≤ q) (hq9 : q ≤ n) : qe_E L xs (d + 7) 25 [.ref (b + 2), .int (nI p), .int (nI q)] h (some (.int (f_shapes s a B p q))) h := by
  show wp_W L xs _ 25 0 [(0, .ref (b + 2)), (1, .int (nI p)), (2, .int (nI q))] [] h _
  refine wp_aload_n dq_25_0 rfl ?_
  refine wp_iload_n dq_25_1 rfl ?_
  refine wp_iload_n dq_25_2 rfl ?_
  refine wp_cse3 dq_25_3 (by decide +kernel) mt_25_7 (by decide +kernel) (Nat.le_of_ble_eq_true rfl) (Nat.le_of_ble_eq_true rfl) (c_cn hb hw hg hp9 hq9) ?_
  refine wp_if_eq (tgt := 13) dq_25_6 rfl (fun c1 => ?_) (fun c1 => ?_)
  · refine wp_iconst (x := 0) dq_25_13 rfl ?_
    refine wp_istore_n (lv' := [(0, .ref (b + 2)), (1, .int (nI p)), (2, .int (nI q)), (3, .int 0)]) dq_25_14 (by decide) rfl ?_
    refine wp_aload_n dq_25_15 rfl ?_
    refine wp_iload_n dq_25_16 rfl ?_
    refine wp_iload_n dq_25_17 rfl ?_
    refine wp_cse3 dq_25_18 (by decide +kernel) mt_25_13 (by decide +kernel) (Nat.le_of_ble_eq_true rfl) (Nat.le_of_ble_eq_true rfl) (c_ft hb hw hg hp9 hq9) ?_
    refine wp_iload_n dq_25_21 rfl ?_
    refine wp_ic_ne (tgt := 44) dq_25_22 rfl (fun c2 => ?_) (fun c2 => ?_)
    · refine wp_aload_n dq_25_44 rfl ?_
      refine wp_iload_n dq_25_45 rfl ?_
      refine wp_iload_n dq_25_46 rfl ?_
      refine wp_cse3 dq_25_47 (by decide +kernel) mt_25_23 (by decide +kernel) (Nat.le_of_ble_eq_true rfl) (Nat.le_of_ble_eq_true rfl) (c_mt hb hw hg hp9 hq9) ?_
      refine wp_if_eq (tgt := 58) dq_25_50 rfl (fun c3 => ?_) (fun c3 => ?_)
      · refine wp_aload_n dq_25_58 rfl ?_
        refine wp_iload_n dq_25_59 rfl ?_
        refine wp_iload_n dq_25_60 rfl ?_
        refine wp_cse3 dq_25_61 (by decide +kernel) mt_25_26 (by decide +kernel) (Nat.le_of_ble_eq_true rfl) (Nat.le_of_ble_eq_true rfl) (c_mm hb hw hg hp9 hq9) ?_
        refine wp_if_eq (tgt := 72) dq_25_64 rfl (fun c4 => ?_) (fun c4 => ?_)
        · refine wp_iload_n dq_25_72 rfl ?_
          exact wp_ire dq_25_73 rfl ⟨rfl, Or.inl rfl⟩ ⟨by rw [f_shapes, if_pos c1, if_neg c2, if_pos c3, if_pos c4], rfl⟩
        · refine wp_iload_n dq_25_67 rfl ?_
          refine wp_bipush (x := 16) dq_25_68 rfl ?_
          refine wp_ior dq_25_70 ?_
          refine wp_istore_n (lv' := [(0, .ref (b + 2)), (1, .int (nI p)), (2, .int (nI q)), (3, .int (0 ||| 16))]) dq_25_71 (by decide) rfl ?_
          refine wp_iload_n dq_25_72 rfl ?_
          exact wp_ire dq_25_73 rfl ⟨rfl, Or.inl rfl⟩ ⟨by rw [f_shapes, if_pos c1, if_neg c2, if_pos c3, if_neg c4], rfl⟩
      · refine wp_iload_n dq_25_53 rfl ?_
        refine wp_bipush (x := 8) dq_25_54 rfl ?_
        refine wp_ior dq_25_56 ?_
        refine wp_istore_n (lv' := [(0, .ref (b + 2)), (1, .int (nI p)), (2, .int (nI q)), (3, .int (0 ||| 8))]) dq_25_57 (by decide) rfl ?_
        refine wp_aload_n dq_25_58 rfl ?_
        refine wp_iload_n dq_25_59 rfl ?_
        refine wp_iload_n dq_25_60 rfl ?_
        refine wp_cse3 dq_25_61 (by decide +kernel) mt_25_26 (by decide +kernel) (Nat.le_of_ble_eq_true rfl) (Nat.le_of_ble_eq_true rfl) (c_mm hb hw hg hp9 hq9) ?_
        refine wp_if_eq (tgt := 72) dq_25_64 rfl (fun c5 => ?_) (fun c5 => ?_)
        · refine wp_iload_n dq_25_72 rfl ?_
          exact wp_ire dq_25_73 rfl ⟨rfl, Or.inl rfl⟩ ⟨by rw [f_shapes, if_pos c1, if_neg c2, if_neg c3, if_pos c5], rfl⟩
        · refine wp_iload_n dq_25_67 rfl ?_
          refine wp_bipush (x := 16) dq_25_68 rfl ?_
          refine wp_ior dq_25_70 ?_
          refine wp_istore_n (lv' := [(0, .ref (b + 2)), (1, .int (nI p)), (2, .int (nI q)), (3, .int ((0 ||| 8) ||| 16))]) dq_25_71 (by decide) rfl ?_
          refine wp_iload_n dq_25_72 rfl ?_
          exact wp_ire dq_25_73 rfl ⟨rfl, Or.inl rfl⟩ ⟨by rw [f_shapes, if_pos c1, if_neg c2, if_neg c3, if_neg c5], rfl⟩
    · refine wp_iload_n dq_25_25 rfl ?_
      refine wp_aload_n dq_25_26 rfl ?_
      refine wp_iload_n dq_25_27 rfl ?_
      refine wp_cve1 dq_25_28 mt_25_17 (ob_of (tb_c2 hb)) ⟨by decide +kernel, by decide +kernel⟩ (Nat.le_of_ble_eq_true rfl) (Nat.le_of_ble_eq_true rfl) (c_u1At hb hw) ?_
      refine wp_bipush (x := 91) dq_25_31 rfl ?_
      refine wp_ic_ne (tgt := 41) dq_25_33 rfl (fun c6 => ?_) (fun c6 => ?_)
      · refine wp_iconst (x := 4) dq_25_41 rfl ?_
        refine wp_ior dq_25_42 ?_
        refine wp_istore_n (lv' := [(0, .ref (b + 2)), (1, .int (nI p)), (2, .int (nI q)), (3, .int (0 ||| 4))]) dq_25_43 (by decide) rfl ?_
        refine wp_aload_n dq_25_44 rfl ?_
        refine wp_iload_n dq_25_45 rfl ?_
        refine wp_iload_n dq_25_46 rfl ?_
        refine wp_cse3 dq_25_47 (by decide +kernel) mt_25_23 (by decide +kernel) (Nat.le_of_ble_eq_true rfl) (Nat.le_of_ble_eq_true rfl) (c_mt hb hw hg hp9 hq9) ?_
        refine wp_if_eq (tgt := 58) dq_25_50 rfl (fun c7 => ?_) (fun c7 => ?_)
        · refine wp_aload_n dq_25_58 rfl ?_
          refine wp_iload_n dq_25_59 rfl ?_
          refine wp_iload_n dq_25_60 rfl ?_
          refine wp_cse3 dq_25_61 (by decide +kernel) mt_25_26 (by decide +kernel) (Nat.le_of_ble_eq_true rfl) (Nat.le_of_ble_eq_true rfl) (c_mm hb hw hg hp9 hq9) ?_
          refine wp_if_eq (tgt := 72) dq_25_64 rfl (fun c8 => ?_) (fun c8 => ?_)
          · refine wp_iload_n dq_25_72 rfl ?_
            exact wp_ire dq_25_73 rfl ⟨rfl, Or.inl rfl⟩ ⟨by rw [f_shapes, if_pos c1, if_pos c2, if_neg c6, if_pos c7, if_pos c8], rfl⟩
          · refine wp_iload_n dq_25_67 rfl ?_
            refine wp_bipush (x := 16) dq_25_68 rfl ?_
            refine wp_ior dq_25_70 ?_
            refine wp_istore_n (lv' := [(0, .ref (b + 2)), (1, .int (nI p)), (2, .int (nI q)), (3, .int ((0 ||| 4) ||| 16))]) dq_25_71 (by decide) rfl ?_
            refine wp_iload_n dq_25_72 rfl ?_
            exact wp_ire dq_25_73 rfl ⟨rfl, Or.inl rfl⟩ ⟨by rw [f_shapes, if_pos c1, if_pos c2, if_neg c6, if_pos c7, if_neg c8], rfl⟩
        · refine wp_iload_n dq_25_53 rfl ?_
          refine wp_bipush (x := 8) dq_25_54 rfl ?_
          refine wp_ior dq_25_56 ?_
          refine wp_istore_n (lv' := [(0, .ref (b + 2)), (1, .int (nI p)), (2, .int (nI q)), (3, .int ((0 ||| 4) ||| 8))]) dq_25_57 (by decide) rfl ?_
          refine wp_aload_n dq_25_58 rfl ?_
          refine wp_iload_n dq_25_59 rfl ?_
          refine wp_iload_n dq_25_60 rfl ?_
          refine wp_cse3 dq_25_61 (by decide +kernel) mt_25_26 (by decide +kernel) (Nat.le_of_ble_eq_true rfl) (Nat.le_of_ble_eq_true rfl) (c_mm hb hw hg hp9 hq9) ?_
          refine wp_if_eq (tgt := 72) dq_25_64 rfl (fun c9 => ?_) (fun c9 => ?_)
          · refine wp_iload_n dq_25_72 rfl ?_
            exact wp_ire dq_25_73 rfl ⟨rfl, Or.inl rfl⟩ ⟨by rw [f_shapes, if_pos c1, if_pos c2, if_neg c6, if_neg c7, if_pos c9], rfl⟩
          · refine wp_iload_n dq_25_67 rfl ?_
            refine wp_bipush (x := 16) dq_25_68 rfl ?_
            refine wp_ior dq_25_70 ?_
            refine wp_istore_n (lv' := [(0, .ref (b + 2)), (1, .int (nI p)), (2, .int (nI q)), (3, .int (((0 ||| 4) ||| 8) ||| 16))]) dq_25_71 (by decide) rfl ?_
            refine wp_iload_n dq_25_72 rfl ?_
            exact wp_ire dq_25_73 rfl ⟨rfl, Or.inl rfl⟩ ⟨by rw [f_shapes, if_pos c1, if_pos c2, if_neg c6, if_neg c7, if_neg c9], rfl⟩
      · refine wp_bipush (x := 6) dq_25_36 rfl ?_
        refine wp_goto (tgt := 42) dq_25_38 rfl ?_
        refine wp_ior dq_25_42 ?_
        refine wp_istore_n (lv' := [(0, .ref (b + 2)), (1, .int (nI p)), (2, .int (nI q)), (3, .int (0 ||| 6))]) dq_25_43 (by decide) rfl ?_
        refine wp_aload_n dq_25_44 rfl ?_
        refine wp_iload_n dq_25_45 rfl ?_
        refine wp_iload_n dq_25_46 rfl ?_
        refine wp_cse3 dq_25_47 (by decide +kernel) mt_25_23 (by decide +kernel) (Nat.le_of_ble_eq_true rfl) (Nat.le_of_ble_eq_true rfl) (c_mt hb hw hg hp9 hq9) ?_
        refine wp_if_eq (tgt := 58) dq_25_50 rfl (fun c10 => ?_) (fun c10 => ?_)
        · refine wp_aload_n dq_25_58 rfl ?_
          refine wp_iload_n dq_25_59 rfl ?_
          refine wp_iload_n dq_25_60 rfl ?_
          refine wp_cse3 dq_25_61 (by decide +kernel) mt_25_26 (by decide +kernel) (Nat.le_of_ble_eq_true rfl) (Nat.le_of_ble_eq_true rfl) (c_mm hb hw hg hp9 hq9) ?_
          refine wp_if_eq (tgt := 72) dq_25_64 rfl (fun c11 => ?_) (fun c11 => ?_)
          · refine wp_iload_n dq_25_72 rfl ?_
            exact wp_ire dq_25_73 rfl ⟨rfl, Or.inl rfl⟩ ⟨by rw [f_shapes, if_pos c1, if_pos c2, if_pos c6, if_pos c10, if_pos c11], rfl⟩
          · refine wp_iload_n dq_25_67 rfl ?_
            refine wp_bipush (x := 16) dq_25_68 rfl ?_
            refine wp_ior dq_25_70 ?_
            refine wp_istore_n (lv' := [(0, .ref (b + 2)), (1, .int (nI p)), (2, .int (nI q)), (3, .int ((0 ||| 6) ||| 16))]) dq_25_71 (by decide) rfl ?_
            refine wp_iload_n dq_25_72 rfl ?_
            exact wp_ire dq_25_73 rfl ⟨rfl, Or.inl rfl⟩ ⟨by rw [f_shapes, if_pos c1, if_pos c2, if_pos c6, if_pos c10, if_neg c11], rfl⟩
        · refine wp_iload_n dq_25_53 rfl ?_
          refine wp_bipush (x := 8) dq_25_54 rfl ?_
          refine wp_ior dq_25_56 ?_
          refine wp_istore_n (lv' := [(0, .ref (b + 2)), (1, .int (nI p)), (2, .int (nI q)), (3, .int ((0 ||| 6) ||| 8))]) dq_25_57 (by decide) rfl ?_
          refine wp_aload_n dq_25_58 rfl ?_
          refine wp_iload_n dq_25_59 rfl ?_
          refine wp_iload_n dq_25_60 rfl ?_
          refine wp_cse3 dq_25_61 (by decide +kernel) mt_25_26 (by decide +kernel) (Nat.le_of_ble_eq_true rfl) (Nat.le_of_ble_eq_true rfl) (c_mm hb hw hg hp9 hq9) ?_
          refine wp_if_eq (tgt := 72) dq_25_64 rfl (fun c12 => ?_) (fun c12 => ?_)
          · refine wp_iload_n dq_25_72 rfl ?_
            exact wp_ire dq_25_73 rfl ⟨rfl, Or.inl rfl⟩ ⟨by rw [f_shapes, if_pos c1, if_pos c2, if_pos c6, if_neg c10, if_pos c12], rfl⟩
          · refine wp_iload_n dq_25_67 rfl ?_
            refine wp_bipush (x := 16) dq_25_68 rfl ?_
            refine wp_ior dq_25_70 ?_
            refine wp_istore_n (lv' := [(0, .ref (b + 2)), (1, .int (nI p)), (2, .int (nI q)), (3, .int (((0 ||| 6) ||| 8) ||| 16))]) dq_25_71 (by decide) rfl ?_
            refine wp_iload_n dq_25_72 rfl ?_
            exact wp_ire dq_25_73 rfl ⟨rfl, Or.inl rfl⟩ ⟨by rw [f_shapes, if_pos c1, if_pos c2, if_pos c6, if_neg c10, if_neg c12], rfl⟩
  · refine wp_iconst (x := 1) dq_25_9 rfl ?_
    refine wp_goto (tgt := 14) dq_25_10 rfl ?_
    refine wp_istore_n (lv' := [(0, .ref (b + 2)), (1, .int (nI p)), (2, .int (nI q)), (3, .int 1)]) dq_25_14 (by decide) rfl ?_
    refine wp_aload_n dq_25_15 rfl ?_
    refine wp_iload_n dq_25_16 rfl ?_
    refine wp_iload_n dq_25_17 rfl ?_
    refine wp_cse3 dq_25_18 (by decide +kernel) mt_25_13 (by decide +kernel) (Nat.le_of_ble_eq_true rfl) (Nat.le_of_ble_eq_true rfl) (c_ft hb hw hg hp9 hq9) ?_
    refine wp_iload_n dq_25_21 rfl ?_
    refine wp_ic_ne (tgt := 44) dq_25_22 rfl (fun c13 => ?_) (fun c13 => ?_)
    · refine wp_aload_n dq_25_44 rfl ?_
      refine wp_iload_n dq_25_45 rfl ?_
      refine wp_iload_n dq_25_46 rfl ?_
      refine wp_cse3 dq_25_47 (by decide +kernel) mt_25_23 (by decide +kernel) (Nat.le_of_ble_eq_true rfl) (Nat.le_of_ble_eq_true rfl) (c_mt hb hw hg hp9 hq9) ?_
      refine wp_if_eq (tgt := 58) dq_25_50 rfl (fun c14 => ?_) (fun c14 => ?_)
      · refine wp_aload_n dq_25_58 rfl ?_
        refine wp_iload_n dq_25_59 rfl ?_
        refine wp_iload_n dq_25_60 rfl ?_
        refine wp_cse3 dq_25_61 (by decide +kernel) mt_25_26 (by decide +kernel) (Nat.le_of_ble_eq_true rfl) (Nat.le_of_ble_eq_true rfl) (c_mm hb hw hg hp9 hq9) ?_
        refine wp_if_eq (tgt := 72) dq_25_64 rfl (fun c15 => ?_) (fun c15 => ?_)
        · refine wp_iload_n dq_25_72 rfl ?_
          exact wp_ire dq_25_73 rfl ⟨rfl, Or.inl rfl⟩ ⟨by rw [f_shapes, if_neg c1, if_neg c13, if_pos c14, if_pos c15], rfl⟩
        · refine wp_iload_n dq_25_67 rfl ?_
          refine wp_bipush (x := 16) dq_25_68 rfl ?_
          refine wp_ior dq_25_70 ?_
          refine wp_istore_n (lv' := [(0, .ref (b + 2)), (1, .int (nI p)), (2, .int (nI q)), (3, .int (1 ||| 16))]) dq_25_71 (by decide) rfl ?_
          refine wp_iload_n dq_25_72 rfl ?_
          exact wp_ire dq_25_73 rfl ⟨rfl, Or.inl rfl⟩ ⟨by rw [f_shapes, if_neg c1, if_neg c13, if_pos c14, if_neg c15], rfl⟩
      · refine wp_iload_n dq_25_53 rfl ?_
        refine wp_bipush (x := 8) dq_25_54 rfl ?_
        refine wp_ior dq_25_56 ?_
        refine wp_istore_n (lv' := [(0, .ref (b + 2)), (1, .int (nI p)), (2, .int (nI q)), (3, .int (1 ||| 8))]) dq_25_57 (by decide) rfl ?_
        refine wp_aload_n dq_25_58 rfl ?_
        refine wp_iload_n dq_25_59 rfl ?_
        refine wp_iload_n dq_25_60 rfl ?_
        refine wp_cse3 dq_25_61 (by decide +kernel) mt_25_26 (by decide +kernel) (Nat.le_of_ble_eq_true rfl) (Nat.le_of_ble_eq_true rfl) (c_mm hb hw hg hp9 hq9) ?_
        refine wp_if_eq (tgt := 72) dq_25_64 rfl (fun c16 => ?_) (fun c16 => ?_)
        · refine wp_iload_n dq_25_72 rfl ?_
          exact wp_ire dq_25_73 rfl ⟨rfl, Or.inl rfl⟩ ⟨by rw [f_shapes, if_neg c1, if_neg c13, if_neg c14, if_pos c16], rfl⟩
        · refine wp_iload_n dq_25_67 rfl ?_
          refine wp_bipush (x := 16) dq_25_68 rfl ?_
          refine wp_ior dq_25_70 ?_
          refine wp_istore_n (lv' := [(0, .ref (b + 2)), (1, .int (nI p)), (2, .int (nI q)), (3, .int ((1 ||| 8) ||| 16))]) dq_25_71 (by decide) rfl ?_
          refine wp_iload_n dq_25_72 rfl ?_
          exact wp_ire dq_25_73 rfl ⟨rfl, Or.inl rfl⟩ ⟨by rw [f_shapes, if_neg c1, if_neg c13, if_neg c14, if_neg c16], rfl⟩
    · refine wp_iload_n dq_25_25 rfl ?_
      refine wp_aload_n dq_25_26 rfl ?_
      refine wp_iload_n dq_25_27 rfl ?_
      refine wp_cve1 dq_25_28 mt_25_17 (ob_of (tb_c2 hb)) ⟨by decide +kernel, by decide +kernel⟩ (Nat.le_of_ble_eq_true rfl) (Nat.le_of_ble_eq_true rfl) (c_u1At hb hw) ?_
      refine wp_bipush (x := 91) dq_25_31 rfl ?_
      refine wp_ic_ne (tgt := 41) dq_25_33 rfl (fun c17 => ?_) (fun c17 => ?_)
      · refine wp_iconst (x := 4) dq_25_41 rfl ?_
        refine wp_ior dq_25_42 ?_
        refine wp_istore_n (lv' := [(0, .ref (b + 2)), (1, .int (nI p)), (2, .int (nI q)), (3, .int (1 ||| 4))]) dq_25_43 (by decide) rfl ?_
        refine wp_aload_n dq_25_44 rfl ?_
        refine wp_iload_n dq_25_45 rfl ?_
        refine wp_iload_n dq_25_46 rfl ?_
        refine wp_cse3 dq_25_47 (by decide +kernel) mt_25_23 (by decide +kernel) (Nat.le_of_ble_eq_true rfl) (Nat.le_of_ble_eq_true rfl) (c_mt hb hw hg hp9 hq9) ?_
        refine wp_if_eq (tgt := 58) dq_25_50 rfl (fun c18 => ?_) (fun c18 => ?_)
        · refine wp_aload_n dq_25_58 rfl ?_
          refine wp_iload_n dq_25_59 rfl ?_
          refine wp_iload_n dq_25_60 rfl ?_
          refine wp_cse3 dq_25_61 (by decide +kernel) mt_25_26 (by decide +kernel) (Nat.le_of_ble_eq_true rfl) (Nat.le_of_ble_eq_true rfl) (c_mm hb hw hg hp9 hq9) ?_
          refine wp_if_eq (tgt := 72) dq_25_64 rfl (fun c19 => ?_) (fun c19 => ?_)
          · refine wp_iload_n dq_25_72 rfl ?_
            exact wp_ire dq_25_73 rfl ⟨rfl, Or.inl rfl⟩ ⟨by rw [f_shapes, if_neg c1, if_pos c13, if_neg c17, if_pos c18, if_pos c19], rfl⟩
          · refine wp_iload_n dq_25_67 rfl ?_
            refine wp_bipush (x := 16) dq_25_68 rfl ?_
            refine wp_ior dq_25_70 ?_
            refine wp_istore_n (lv' := [(0, .ref (b + 2)), (1, .int (nI p)), (2, .int (nI q)), (3, .int ((1 ||| 4) ||| 16))]) dq_25_71 (by decide) rfl ?_
            refine wp_iload_n dq_25_72 rfl ?_
            exact wp_ire dq_25_73 rfl ⟨rfl, Or.inl rfl⟩ ⟨by rw [f_shapes, if_neg c1, if_pos c13, if_neg c17, if_pos c18, if_neg c19], rfl⟩
        · refine wp_iload_n dq_25_53 rfl ?_
          refine wp_bipush (x := 8) dq_25_54 rfl ?_
          refine wp_ior dq_25_56 ?_
          refine wp_istore_n (lv' := [(0, .ref (b + 2)), (1, .int (nI p)), (2, .int (nI q)), (3, .int ((1 ||| 4) ||| 8))]) dq_25_57 (by decide) rfl ?_
          refine wp_aload_n dq_25_58 rfl ?_
          refine wp_iload_n dq_25_59 rfl ?_
          refine wp_iload_n dq_25_60 rfl ?_
          refine wp_cse3 dq_25_61 (by decide +kernel) mt_25_26 (by decide +kernel) (Nat.le_of_ble_eq_true rfl) (Nat.le_of_ble_eq_true rfl) (c_mm hb hw hg hp9 hq9) ?_
          refine wp_if_eq (tgt := 72) dq_25_64 rfl (fun c20 => ?_) (fun c20 => ?_)
          · refine wp_iload_n dq_25_72 rfl ?_
            exact wp_ire dq_25_73 rfl ⟨rfl, Or.inl rfl⟩ ⟨by rw [f_shapes, if_neg c1, if_pos c13, if_neg c17, if_neg c18, if_pos c20], rfl⟩
          · refine wp_iload_n dq_25_67 rfl ?_
            refine wp_bipush (x := 16) dq_25_68 rfl ?_
            refine wp_ior dq_25_70 ?_
            refine wp_istore_n (lv' := [(0, .ref (b + 2)), (1, .int (nI p)), (2, .int (nI q)), (3, .int (((1 ||| 4) ||| 8) ||| 16))]) dq_25_71 (by decide) rfl ?_
            refine wp_iload_n dq_25_72 rfl ?_
            exact wp_ire dq_25_73 rfl ⟨rfl, Or.inl rfl⟩ ⟨by rw [f_shapes, if_neg c1, if_pos c13, if_neg c17, if_neg c18, if_neg c20], rfl⟩
      · refine wp_bipush (x := 6) dq_25_36 rfl ?_
        refine wp_goto (tgt := 42) dq_25_38 rfl ?_
        refine wp_ior dq_25_42 ?_
        refine wp_istore_n (lv' := [(0, .ref (b + 2)), (1, .int (nI p)), (2, .int (nI q)), (3, .int (1 ||| 6))]) dq_25_43 (by decide) rfl ?_
        refine wp_aload_n dq_25_44 rfl ?_
        refine wp_iload_n dq_25_45 rfl ?_
        refine wp_iload_n dq_25_46 rfl ?_
        refine wp_cse3 dq_25_47 (by decide +kernel) mt_25_23 (by decide +kernel) (Nat.le_of_ble_eq_true rfl) (Nat.le_of_ble_eq_true rfl) (c_mt hb hw hg hp9 hq9) ?_
        refine wp_if_eq (tgt := 58) dq_25_50 rfl (fun c21 => ?_) (fun c21 => ?_)
        · refine wp_aload_n dq_25_58 rfl ?_
          refine wp_iload_n dq_25_59 rfl ?_
          refine wp_iload_n dq_25_60 rfl ?_
          refine wp_cse3 dq_25_61 (by decide +kernel) mt_25_26 (by decide +kernel) (Nat.le_of_ble_eq_true rfl) (Nat.le_of_ble_eq_true rfl) (c_mm hb hw hg hp9 hq9) ?_
          refine wp_if_eq (tgt := 72) dq_25_64 rfl (fun c22 => ?_) (fun c22 => ?_)
          · refine wp_iload_n dq_25_72 rfl ?_
            exact wp_ire dq_25_73 rfl ⟨rfl, Or.inl rfl⟩ ⟨by rw [f_shapes, if_neg c1, if_pos c13, if_pos c17, if_pos c21, if_pos c22], rfl⟩
          · refine wp_iload_n dq_25_67 rfl ?_
            refine wp_bipush (x := 16) dq_25_68 rfl ?_
            refine wp_ior dq_25_70 ?_
            refine wp_istore_n (lv' := [(0, .ref (b + 2)), (1, .int (nI p)), (2, .int (nI q)), (3, .int ((1 ||| 6) ||| 16))]) dq_25_71 (by decide) rfl ?_
            refine wp_iload_n dq_25_72 rfl ?_
            exact wp_ire dq_25_73 rfl ⟨rfl, Or.inl rfl⟩ ⟨by rw [f_shapes, if_neg c1, if_pos c13, if_pos c17, if_pos c21, if_neg c22], rfl⟩
        · refine wp_iload_n dq_25_53 rfl ?_
          refine wp_bipush (x := 8) dq_25_54 rfl ?_
          refine wp_ior dq_25_56 ?_
          refine wp_istore_n (lv' := [(0, .ref (b + 2)), (1, .int (nI p)), (2, .int (nI q)), (3, .int ((1 ||| 6) ||| 8))]) dq_25_57 (by decide) rfl ?_
          refine wp_aload_n dq_25_58 rfl ?_
          refine wp_iload_n dq_25_59 rfl ?_
          refine wp_iload_n dq_25_60 rfl ?_
          refine wp_cse3 dq_25_61 (by decide +kernel) mt_25_26 (by decide +kernel) (Nat.le_of_ble_eq_true rfl) (Nat.le_of_ble_eq_true rfl) (c_mm hb hw hg hp9 hq9) ?_
          refine wp_if_eq (tgt := 72) dq_25_64 rfl (fun c23 => ?_) (fun c23 => ?_)
          · refine wp_iload_n dq_25_72 rfl ?_
            exact wp_ire dq_25_73 rfl ⟨rfl, Or.inl rfl⟩ ⟨by rw [f_shapes, if_neg c1, if_pos c13, if_pos c17, if_neg c21, if_pos c23], rfl⟩
          · refine wp_iload_n dq_25_67 rfl ?_
            refine wp_bipush (x := 16) dq_25_68 rfl ?_
            refine wp_ior dq_25_70 ?_
            refine wp_istore_n (lv' := [(0, .ref (b + 2)), (1, .int (nI p)), (2, .int (nI q)), (3, .int (((1 ||| 6) ||| 8) ||| 16))]) dq_25_71 (by decide) rfl ?_
            refine wp_iload_n dq_25_72 rfl ?_
            exact wp_ire dq_25_73 rfl ⟨rfl, Or.inl rfl⟩ ⟨by rw [f_shapes, if_neg c1, if_pos c13, if_pos c17, if_neg c21, if_neg c23], rfl⟩

