/-! a frame may have more variables than a run needs -/
def ss : List Nat → Bool
  | [] => true
  | [_] => true
  | a :: b :: l => decide (a < b) && ss (b :: l)
def so (l : qx_L) : Prop := l.Pairwise (fun a b => a.1 < b.1)
theorem so_of : ∀ l : qx_L, ss (l.map fun q => q.1) = true → so l
  | [], _ => List.Pairwise.nil
  | [_], _ => List.pairwise_singleton _ _
  | (a, v) :: (b, w) :: l, h => by
    have h1 : (decide (a < b) && ss (b :: l.map fun q => q.1)) = true := h
    rw [Bool.and_eq_true, decide_eq_true_eq] at h1
    have h2 := so_of ((b, w) :: l) h1.2
    refine List.Pairwise.cons (fun q hq => ?_) h2
    rcases List.mem_cons.mp hq with rfl | hq
    · exact h1.1
    · exact Nat.lt_trans h1.1 (List.rel_of_pairwise_cons h2 hq)
theorem lk_no : ∀ (l : qx_L) (i : Nat), (∀ q ∈ l, q.1 ≠ i) → qx_lk l i = none
  | [], _, _ => rfl
  | (j, v) :: l, i, h => by
    unfold qx_lk
    rw [if_neg (h (j, v) List.mem_cons_self)]
    exact lk_no l i (fun q hq => h q (List.mem_cons_of_mem _ hq))
theorem lk_fi (p : Nat × Value → Bool) : ∀ (l : qx_L) (i : Nat), so l → qx_lk (l.filter p) i = match qx_lk l i with
    | some v => if p (i, v) = true then some v else none
    | none => none
  | [], _, _ => rfl
  | (j, v) :: l, i, h => by
    have h2 := List.Pairwise.of_cons h
    have ih := lk_fi p l i h2
    by_cases hj : j = i
    · subst hj
      have hno : qx_lk l j = none := lk_no l j (fun q hq => by have := List.rel_of_pairwise_cons h hq; have h5 : j < q.1 := this; omega)
      rw [hno] at ih
      have e1 : qx_lk ((j, v) :: l) j = some v := if_pos rfl
      rw [e1]
      by_cases hp : p (j, v) = true
      · rw [List.filter_cons_of_pos hp]
        show (if j = j then some v else _) = if p (j, v) = true then some v else none
        rw [if_pos rfl, if_pos hp]
      · rw [List.filter_cons_of_neg hp, ih]
        show none = if p (j, v) = true then some v else none
        rw [if_neg hp]
    · have e1 : qx_lk ((j, v) :: l) i = qx_lk l i := if_neg hj
      rw [e1, ← ih]
      by_cases hp : p (j, v) = true
      · rw [List.filter_cons_of_pos hp]
        exact if_neg hj
      · rw [List.filter_cons_of_neg hp]
theorem lk_ins (i : Nat) (v : Value) : ∀ (l : qx_L) (j : Nat), (∀ q ∈ l, q.1 ≠ i) → qx_lk (qx_ins i v l) j = if j = i then some v else qx_lk l j
  | [], j, _ => by
    show (if i = j then some v else none) = _
    by_cases h : j = i
    · rw [if_pos h, if_pos h.symm]
    · rw [if_neg h, if_neg (Ne.symm h)]
      rfl
  | (k, w) :: l, j, h => by
    have hk : k ≠ i := h (k, w) List.mem_cons_self
    unfold qx_ins
    by_cases hi : i < k
    · rw [if_pos hi]
      show (if i = j then some v else qx_lk ((k, w) :: l) j) = _
      by_cases e : j = i
      · rw [if_pos e, if_pos e.symm]
      · rw [if_neg e, if_neg (Ne.symm e)]
    · rw [if_neg hi]
      show (if k = j then some w else qx_lk (qx_ins i v l) j) = if j = i then some v else (if k = j then some w else qx_lk l j)
      rw [lk_ins i v l j (fun q hq => h q (List.mem_cons_of_mem _ hq))]
      by_cases e : k = j
      · subst e
        rw [if_pos rfl, if_neg hk, if_pos rfl]
      · rw [if_neg e, if_neg e]
theorem so_ins (i : Nat) (v : Value) : ∀ l : qx_L, so l → (∀ q ∈ l, q.1 ≠ i) → so (qx_ins i v l) ∧ ∀ q ∈ qx_ins i v l, q.1 = i ∨ q ∈ l
  | [], _, _ => ⟨List.pairwise_singleton _ _, fun q hq => Or.inl (by rw [List.mem_singleton.mp hq])⟩
  | (k, w) :: l, h, hn => by
    have hk : k ≠ i := hn (k, w) List.mem_cons_self
    unfold qx_ins
    by_cases hi : i < k
    · rw [if_pos hi]
      refine ⟨List.Pairwise.cons (fun q hq => ?_) h, fun q hq => ?_⟩
      · rcases List.mem_cons.mp hq with rfl | hq
        · exact hi
        · exact Nat.lt_trans hi (List.rel_of_pairwise_cons h hq)
      · rcases List.mem_cons.mp hq with rfl | hq
        · exact Or.inl rfl
        · exact Or.inr hq
    · rw [if_neg hi]
      obtain ⟨h1, h2⟩ := so_ins i v l (List.Pairwise.of_cons h) (fun q hq => hn q (List.mem_cons_of_mem _ hq))
      refine ⟨List.Pairwise.cons (fun q hq => ?_) h1, fun q hq => ?_⟩
      · rcases h2 q hq with e | hq
        · show k < q.1
          omega
        · exact List.rel_of_pairwise_cons h hq
      · rcases List.mem_cons.mp hq with rfl | hq
        · exact Or.inr List.mem_cons_self
        · rcases h2 q hq with e | hq
          · exact Or.inl e
          · exact Or.inr (List.mem_cons_of_mem _ hq)
def ext (l l2 : qx_L) : Prop := so l ∧ so l2 ∧ ∀ i v, qx_lk l i = some v → qx_lk l2 i = some v
theorem ext_st {l l2 : qx_L} {i : Nat} {v : Value} (p : Nat × Value → Bool) (hp : ∀ q, p q = true → q.1 ≠ i) (h : ext l l2) : ext (qx_ins i v (l.filter p)) (qx_ins i v (l2.filter p)) := by
  obtain ⟨h1, h2, h3⟩ := h
  have n1 : ∀ q ∈ l.filter p, q.1 ≠ i := fun q hq => hp q (List.mem_filter.mp hq).2
  have n2 : ∀ q ∈ l2.filter p, q.1 ≠ i := fun q hq => hp q (List.mem_filter.mp hq).2
  refine ⟨(so_ins i v _ (h1.filter p) n1).1, (so_ins i v _ (h2.filter p) n2).1, fun j w hw => ?_⟩
  rw [lk_ins i v _ j n1] at hw
  rw [lk_ins i v _ j n2]
  by_cases e : j = i
  · rw [if_pos e] at hw ⊢
    exact hw
  · rw [if_neg e] at hw ⊢
    rw [lk_fi p l j h1] at hw
    rw [lk_fi p l2 j h2]
    cases hl : qx_lk l j with
    | none => rw [hl] at hw; cases hw
    | some u =>
      rw [hl] at hw
      rw [h3 j u hl]
      exact hw
theorem ext_1 {l l2 : qx_L} {i : Nat} {v : Value} (h : ext l l2) : ext (qx_st1 l i v) (qx_st1 l2 i v) := ext_st _ (fun q hq => by
  rw [Bool.and_eq_true] at hq
  have := hq.1
  rw [Bool.not_eq_true', beq_eq_false_iff_ne] at this
  exact this) h
theorem ext_2 {l l2 : qx_L} {i : Nat} {v : Value} (h : ext l l2) : ext (qx_st2 l i v) (qx_st2 l2 i v) := ext_st _ (fun q hq => by
  rw [Bool.and_eq_true] at hq
  have := hq.1
  rw [Bool.not_eq_true', beq_eq_false_iff_ne] at this
  exact this) h
theorem g_some {α : Type} {a b : Nat} {x : Option α} {y : α} (e : qx_g a b x = some y) : a = b ∧ x = some y := by
  unfold qx_g at e
  split at e
  · exact ⟨by assumption, e⟩
  · cases e
theorem g_eq {α : Type} {a b : Nat} {x : Option α} (e : a = b) : qx_g a b x = x := if_pos e
/-- what leaves the variables alone -/
def keeps (f : qx_L → Option qx_S) : Prop := ∀ l, f l = (f []).map (fun r => (r.1, l, r.2.2))
theorem kp_ext {f : qx_L → Option qx_S} {l l2 : qx_L} {r : qx_S} (hk : keeps f) (h : ext l l2) (e : f l = some r) : ∃ l3, f l2 = some (r.1, l3, r.2.2) ∧ ext r.2.1 l3 := by
  rw [hk l] at e
  rw [hk l2]
  cases hf : f [] with
  | none => rw [hf] at e; cases e
  | some q =>
    rw [hf] at e
    cases e
    exact ⟨l2, rfl, h⟩
theorem step_ext {L : Nat} {xs : Nat → Int32} {d m pc : Nat} {i : Instr} {len : Nat} {l l2 : qx_L} {st : List Value} {hp : List qx_E} {r : qx_S} (h : ext l l2) (e : qx_step L xs d m pc i len l st hp = some r) : ∃ l3, qx_step L xs d m pc i len l2 st hp = some (r.1, l3, r.2.2) ∧ ext r.2.1 l3 := by
  cases i
  case iinc k n =>
    replace e := g_some e
    obtain ⟨h9, e⟩ := e
    subst h9
    show ∃ l3, qx_g 3 3 _ = _ ∧ _
    rw [g_eq rfl]
    split at e
    · rename_i x hx
      rw [h.2.2 _ _ hx]
      dsimp only
      split at e
      · rename_i hk
        cases e
        exact ⟨_, if_pos hk, ext_1 h⟩
      · cases e
    · cases e
  case iload k =>
    replace e := g_some e
    obtain ⟨h9, e⟩ := e
    subst h9
    show ∃ l3, qx_g 2 2 _ = _ ∧ _
    rw [g_eq rfl]
    unfold qx_ldI at e ⊢
    split at e
    · rename_i x hx
      rw [h.2.2 _ _ hx]
      cases e
      exact ⟨_, rfl, h⟩
    · cases e
  case iload_n k =>
    replace e := g_some e
    obtain ⟨h9, e⟩ := e
    subst h9
    show ∃ l3, qx_g 1 1 _ = _ ∧ _
    rw [g_eq rfl]
    unfold qx_ldI at e ⊢
    split at e
    · rename_i x hx
      rw [h.2.2 _ _ hx]
      cases e
      exact ⟨_, rfl, h⟩
    · cases e
  case lload k =>
    replace e := g_some e
    obtain ⟨h9, e⟩ := e
    subst h9
    show ∃ l3, qx_g 2 2 _ = _ ∧ _
    rw [g_eq rfl]
    unfold qx_ldL at e ⊢
    split at e
    · rename_i x hx
      rw [h.2.2 _ _ hx]
      cases e
      exact ⟨_, rfl, h⟩
    · cases e
  case lload_n k =>
    replace e := g_some e
    obtain ⟨h9, e⟩ := e
    subst h9
    show ∃ l3, qx_g 1 1 _ = _ ∧ _
    rw [g_eq rfl]
    unfold qx_ldL at e ⊢
    split at e
    · rename_i x hx
      rw [h.2.2 _ _ hx]
      cases e
      exact ⟨_, rfl, h⟩
    · cases e
  case aload k =>
    replace e := g_some e
    obtain ⟨h9, e⟩ := e
    subst h9
    show ∃ l3, qx_g 2 2 _ = _ ∧ _
    rw [g_eq rfl]
    unfold qx_ldA at e ⊢
    split at e
    · rename_i x hx
      rw [h.2.2 _ _ hx]
      cases e
      exact ⟨_, rfl, h⟩
    · rename_i x hx
      rw [h.2.2 _ _ hx]
      cases e
      exact ⟨_, rfl, h⟩
    · rename_i hx
      rw [h.2.2 _ _ hx]
      cases e
      exact ⟨_, rfl, h⟩
    · cases e
  case aload_n k =>
    replace e := g_some e
    obtain ⟨h9, e⟩ := e
    subst h9
    show ∃ l3, qx_g 1 1 _ = _ ∧ _
    rw [g_eq rfl]
    unfold qx_ldA at e ⊢
    split at e
    · rename_i x hx
      rw [h.2.2 _ _ hx]
      cases e
      exact ⟨_, rfl, h⟩
    · rename_i x hx
      rw [h.2.2 _ _ hx]
      cases e
      exact ⟨_, rfl, h⟩
    · rename_i hx
      rw [h.2.2 _ _ hx]
      cases e
      exact ⟨_, rfl, h⟩
    · cases e
  case istore k =>
    replace e := g_some e
    obtain ⟨h9, e⟩ := e
    subst h9
    show ∃ l3, qx_g 2 2 _ = _ ∧ _
    rw [g_eq rfl]
    unfold qx_stI at e ⊢
    split at e
    · try dsimp only
      split at e
      · rename_i hk
        cases e
        exact ⟨_, if_pos hk, ext_1 h⟩
      · cases e
    · cases e
  case istore_n k =>
    replace e := g_some e
    obtain ⟨h9, e⟩ := e
    subst h9
    show ∃ l3, qx_g 1 1 _ = _ ∧ _
    rw [g_eq rfl]
    unfold qx_stI at e ⊢
    split at e
    · try dsimp only
      split at e
      · rename_i hk
        cases e
        exact ⟨_, if_pos hk, ext_1 h⟩
      · cases e
    · cases e
  case lstore k =>
    replace e := g_some e
    obtain ⟨h9, e⟩ := e
    subst h9
    show ∃ l3, qx_g 2 2 _ = _ ∧ _
    rw [g_eq rfl]
    unfold qx_stL at e ⊢
    split at e
    · try dsimp only
      split at e
      · rename_i hk
        cases e
        exact ⟨_, if_pos hk, ext_2 h⟩
      · cases e
    · cases e
  case lstore_n k =>
    replace e := g_some e
    obtain ⟨h9, e⟩ := e
    subst h9
    show ∃ l3, qx_g 1 1 _ = _ ∧ _
    rw [g_eq rfl]
    unfold qx_stL at e ⊢
    split at e
    · try dsimp only
      split at e
      · rename_i hk
        cases e
        exact ⟨_, if_pos hk, ext_2 h⟩
      · cases e
    · cases e
  case astore k =>
    replace e := g_some e
    obtain ⟨h9, e⟩ := e
    subst h9
    show ∃ l3, qx_g 2 2 _ = _ ∧ _
    rw [g_eq rfl]
    unfold qx_stA at e ⊢
    split at e <;> first
      | ((try dsimp only); split at e <;> first | (rename_i hk; cases e; exact ⟨_, if_pos hk, ext_1 h⟩) | cases e)
      | cases e
  case astore_n k =>
    replace e := g_some e
    obtain ⟨h9, e⟩ := e
    subst h9
    show ∃ l3, qx_g 1 1 _ = _ ∧ _
    rw [g_eq rfl]
    unfold qx_stA at e ⊢
    split at e <;> first
      | ((try dsimp only); split at e <;> first | (rename_i hk; cases e; exact ⟨_, if_pos hk, ext_1 h⟩) | cases e)
      | cases e
  all_goals first
    | (cases e; done)
    | refine kp_ext (f := fun l => qx_step L xs d m pc _ len l st hp) (fun l => ?_) h e
  all_goals first
    | rfl
    | (simp only [qx_step, qx_g, qx_to, qx_if, qx_ii, qx_ll, qx_li, qx_i1, qx_l1, qx_ald, qx_aln, qx_ast, qx_cpy, qx_nwa, qx_gf, qx_pf]
       repeat' split
       all_goals first | rfl | (simp_all; done))
theorem re_ext {L : Nat} {xs : Nat → Int32} {d m pc : Nat} {i : Instr} {len : Nat} {l l2 : qx_L} {st : List Value} {hp : List qx_E} {v : Option Value} (e : qx_re m i len st = some v) : qx_step L xs d m pc i len l2 st hp = none := by
  unfold qx_re at e
  split at e
  all_goals first
    | rfl
    | cases e
theorem ca_ext {L : Nat} {xs : Nat → Int32} {d m pc : Nat} {i : Instr} {len : Nat} {l l2 : qx_L} {st : List Value} {hp : List qx_E} {v : Nat × Nat} (e : qx_ca m i len st hp = some v) (hs : qx_step L xs d m pc i len l st hp = none) : qx_step L xs d m pc i len l2 st hp = none := by
  have hk : keeps (fun l => qx_step L xs d m pc i len l st hp) := by
    intro l
    unfold qx_ca at e
    split at e
    all_goals first
      | cases e
      | (simp only [qx_step, qx_g, qx_cpy]
         repeat' split
         all_goals first | rfl | (simp_all; done))
  have h1 := hk l
  have h2 := hk l2
  dsimp only at h1 h2
  rw [hs] at h1
  rw [h2]
  cases hf : qx_step L xs d m pc i len [] st hp with
  | none => rfl
  | some q => rw [hf] at h1; cases h1
theorem run_ext {L : Nat} {xs : Nat → Int32} : ∀ (n d m pc : Nat) (l l2 : qx_L) (st : List Value) (hp : List qx_E) (r : Option Value × List qx_E), ext l l2 → qx_run L xs n d m pc l st hp = some r → qx_run L xs n d m pc l2 st hp = some r := by
  intro n
  induction n with
  | zero => intro d m pc l l2 st hp r _ e; cases e
  | succ n ih =>
    intro d m pc l l2 st hp r hx e
    unfold qx_run at e ⊢
    cases hd : decode (qx_code m) pc with
    | error z => rw [hd] at e; cases e
    | ok q =>
      obtain ⟨i, len⟩ := q
      rw [hd] at e
      dsimp only at e ⊢
      cases hs : qx_step L xs d m pc i len l st hp with
      | some q =>
        obtain ⟨pc', l', st', h'⟩ := q
        rw [hs] at e
        dsimp only at e
        obtain ⟨l3, e1, e2⟩ := step_ext hx hs
        rw [e1]
        dsimp only
        exact ih _ _ _ _ _ _ _ _ e2 e
      | none =>
        rw [hs] at e
        dsimp only at e
        cases hr : qx_re m i len st with
        | some v =>
          rw [hr] at e
          rw [re_ext (l := l) hr]
          dsimp only
          exact e
        | none =>
          rw [hr] at e
          dsimp only at e
          cases hc : qx_ca m i len st hp with
          | none => rw [hc] at e; cases e
          | some y =>
            obtain ⟨y, k⟩ := y
            rw [hc] at e
            rw [ca_ext hc hs]
            dsimp only at e ⊢
            split at e
            · rename_i hg
              rw [if_pos hg]
              cases hk : qx_run L xs n (d - 1) y 0 (lv_args 0 (st.take k).reverse) [] hp with
              | none => rw [hk] at e; cases e
              | some w =>
                obtain ⟨v, h'⟩ := w
                rw [hk] at e
                dsimp only at e ⊢
                exact ih _ _ _ _ _ _ _ _ hx e
            · cases e
theorem ap_lk : ∀ (l e : qx_L) (i : Nat) (v : Value), qx_lk l i = some v → qx_lk (l ++ e) i = some v
  | [], _, _, _, h => by cases h
  | (j, w) :: l, e, i, v, h => by
    show (if j = i then some w else qx_lk (l ++ e) i) = some v
    have h1 : (if j = i then some w else qx_lk l i) = some v := h
    by_cases hj : j = i
    · rw [if_pos hj] at h1 ⊢
      exact h1
    · rw [if_neg hj] at h1 ⊢
      exact ap_lk l e i v h1

theorem wp_fg {L : Nat} {xs : Nat → Int32} {d m pc : Nat} {l e lv : qx_L} {st : List Value} {h : List qx_E} {Q : Option Value → List qx_E → Prop} (hl : l ++ e = lv) (h1 : ss (l.map fun q => q.1) = true) (h2 : ss (lv.map fun q => q.1) = true) (k : wp_W L xs d m pc l st h Q) : wp_W L xs d m pc lv st h Q := by
  subst hl
  obtain ⟨n, v, h', e1, q⟩ := k
  exact ⟨n, v, h', run_ext _ _ _ _ _ _ _ _ _ ⟨so_of _ h1, so_of _ h2, fun i v hv => ap_lk _ _ i v hv⟩ e1, q⟩
