/-! what a step of the small machine says, read backwards -/
section QXI
variable {pc pc' i nL len L d m k : Nat} {xs : Nat → Int32} {lv : qx_L} {st : List Value} {h : List qx_E} {q : qx_S}
theorem qx_g_inv {α : Type} {a b : Nat} {x : Option α} {y : α} (e : qx_g a b x = some y) : a = b ∧ x = some y := by
  unfold qx_g at e
  split at e
  · exact ⟨by assumption, e⟩
  · cases e
theorem qx_tg_inv {off : Int} {t : Nat} (e : qx_tg pc off = some t) : (pc : Int) + off = (t : Int) := by
  unfold qx_tg at e
  split at e
  · rename_i h0
    have e2 := Option.some.inj e
    omega
  · cases e
theorem qx_to_inv {off : Int} (e : qx_to pc off lv st h = some q) : ∃ t : Nat, (pc : Int) + off = (t : Int) ∧ (t, lv, st, h) = q := by
  unfold qx_to at e
  split at e
  · rename_i t ht
    exact ⟨t, qx_tg_inv ht, Option.some.inj e⟩
  · cases e
theorem qx_if_inv {c : Bool} {off : Int} (e : qx_if c pc off lv st h = some q) : ∃ t : Nat, (pc : Int) + off = (t : Int) ∧ (if c = true then t else pc + 3, lv, st, h) = q := by
  unfold qx_if at e
  split at e
  · rename_i t ht
    exact ⟨t, qx_tg_inv ht, Option.some.inj e⟩
  · cases e
theorem qx_ldI_inv (e : qx_ldI pc' i lv st h = some q) : ∃ x, qx_lk lv i = some (.int x) ∧ (pc', lv, .int x :: st, h) = q := by
  unfold qx_ldI at e
  split at e
  · exact ⟨_, by assumption, Option.some.inj e⟩
  · cases e
theorem qx_ldL_inv (e : qx_ldL pc' i lv st h = some q) : ∃ x, qx_lk lv i = some (.long x) ∧ (pc', lv, .long x :: st, h) = q := by
  unfold qx_ldL at e
  split at e
  · exact ⟨_, by assumption, Option.some.inj e⟩
  · cases e
theorem qx_ldA_inv (e : qx_ldA pc' i lv st h = some q) : ∃ v, qx_lk lv i = some v ∧ (v = .null ∨ (∃ x, v = .ref x) ∨ ∃ x, v = .retAddr x) ∧ (pc', lv, v :: st, h) = q := by
  unfold qx_ldA at e
  split at e
  · exact ⟨_, by assumption, Or.inr (Or.inl ⟨_, rfl⟩), Option.some.inj e⟩
  · exact ⟨_, by assumption, Or.inr (Or.inr ⟨_, rfl⟩), Option.some.inj e⟩
  · exact ⟨_, by assumption, Or.inl rfl, Option.some.inj e⟩
  · cases e
theorem qx_stI_inv (e : qx_stI nL pc' i lv st h = some q) : ∃ x r, st = .int x :: r ∧ i < nL ∧ (pc', qx_st1 lv i (.int x), r, h) = q := by
  unfold qx_stI at e
  split at e
  · split at e
    · exact ⟨_, _, rfl, by assumption, Option.some.inj e⟩
    · cases e
  · cases e
theorem qx_stL_inv (e : qx_stL nL pc' i lv st h = some q) : ∃ x r, st = .long x :: r ∧ i + 1 < nL ∧ (pc', qx_st2 lv i (.long x), r, h) = q := by
  unfold qx_stL at e
  split at e
  · split at e
    · exact ⟨_, _, rfl, by assumption, Option.some.inj e⟩
    · cases e
  · cases e
theorem qx_stA_inv (e : qx_stA nL pc' i lv st h = some q) : ∃ v r, st = v :: r ∧ i < nL ∧ (v = .null ∨ (∃ x, v = .ref x) ∨ ∃ x, v = .retAddr x) ∧ (pc', qx_st1 lv i v, r, h) = q := by
  unfold qx_stA at e
  split at e
  · split at e
    · exact ⟨_, _, rfl, by assumption, Or.inr (Or.inl ⟨_, rfl⟩), Option.some.inj e⟩
    · cases e
  · split at e
    · exact ⟨_, _, rfl, by assumption, Or.inr (Or.inr ⟨_, rfl⟩), Option.some.inj e⟩
    · cases e
  · split at e
    · exact ⟨_, _, rfl, by assumption, Or.inl rfl, Option.some.inj e⟩
    · cases e
  · cases e
theorem qx_ii_inv {f : Int32 → Int32 → Int32} (e : qx_ii f pc lv st h = some q) : ∃ x y r, st = .int y :: .int x :: r ∧ (pc + 1, lv, .int (f x y) :: r, h) = q := by
  unfold qx_ii at e
  split at e
  · exact ⟨_, _, _, rfl, Option.some.inj e⟩
  · cases e
theorem qx_ll_inv {f : Int64 → Int64 → Int64} (e : qx_ll f pc lv st h = some q) : ∃ x y r, st = .long y :: .long x :: r ∧ (pc + 1, lv, .long (f x y) :: r, h) = q := by
  unfold qx_ll at e
  split at e
  · exact ⟨_, _, _, rfl, Option.some.inj e⟩
  · cases e
theorem qx_li_inv {f : Int64 → Int32 → Int64} (e : qx_li f pc lv st h = some q) : ∃ x y r, st = .int y :: .long x :: r ∧ (pc + 1, lv, .long (f x y) :: r, h) = q := by
  unfold qx_li at e
  split at e
  · exact ⟨_, _, _, rfl, Option.some.inj e⟩
  · cases e
theorem qx_i1_inv {f : Int32 → Value} (e : qx_i1 f pc lv st h = some q) : ∃ x r, st = .int x :: r ∧ (pc + 1, lv, f x :: r, h) = q := by
  unfold qx_i1 at e
  split at e
  · exact ⟨_, _, rfl, Option.some.inj e⟩
  · cases e
theorem qx_l1_inv {f : Int64 → Value} (e : qx_l1 f pc lv st h = some q) : ∃ x r, st = .long x :: r ∧ (pc + 1, lv, f x :: r, h) = q := by
  unfold qx_l1 at e
  split at e
  · exact ⟨_, _, rfl, Option.some.inj e⟩
  · cases e
theorem qx_in_inv {j : Int32} {n : Nat} (e : qx_in j n = true) : vp_in j n := by
  unfold qx_in at e
  intro hn
  rcases hn with hn | hn <;> simp [hn] at e
theorem qx_ald_inv {ty : FieldType} (e : qx_ald ty L xs pc lv st h = some q) : ∃ j r, vp_in j L ∧ ty = .int ∧ st = .int j :: .retAddr 0 :: r ∧ (pc + 1, lv, .int (xs j.toNatClampNeg) :: r, h) = q ∨ (∃ k n f, st = .int j :: .ref k :: r ∧ h[k]? = some (.inl (ty, n, f)) ∧ vp_in j n ∧ (pc + 1, lv, .int (f j.toNatClampNeg) :: r, h) = q) ∨ ∃ k n f, st = .int j :: .retAddr (k + 1) :: r ∧ qx_ka (k + 1) = some (ty, n, f) ∧ vp_in j n ∧ (pc + 1, lv, f j.toNatClampNeg :: r, h) = q := by
  unfold qx_ald at e
  split at e
  · split at e
    · split at e
      · rename_i hc
        obtain ⟨rfl, hc⟩ := hc
        exact ⟨_, _, Or.inr (Or.inl ⟨_, _, _, rfl, by assumption, qx_in_inv hc, Option.some.inj e⟩)⟩
      · cases e
    · cases e
  · split at e
    · rename_i hc
      obtain ⟨rfl, hc⟩ := hc
      exact ⟨_, _, Or.inl ⟨qx_in_inv hc, rfl, rfl, Option.some.inj e⟩⟩
    · cases e
  · split at e
    · split at e
      · rename_i hc
        obtain ⟨rfl, hc⟩ := hc
        exact ⟨_, _, Or.inr (Or.inr ⟨_, _, _, rfl, by assumption, qx_in_inv hc, Option.some.inj e⟩)⟩
      · cases e
    · cases e
  · cases e
theorem qx_aln_inv (e : qx_aln L pc lv st h = some q) : ∃ r, (st = .retAddr 0 :: r ∧ (pc + 1, lv, .int (Int32.ofNat L) :: r, h) = q) ∨ (∃ k t n f, st = .ref k :: r ∧ h[k]? = some (.inl (t, n, f)) ∧ (t = .int ∨ t = .byte) ∧ (pc + 1, lv, .int (Int32.ofNat n) :: r, h) = q) ∨ ∃ k t n f, st = .retAddr (k + 1) :: r ∧ qx_ka (k + 1) = some (t, n, f) ∧ (pc + 1, lv, .int (Int32.ofNat n) :: r, h) = q := by
  unfold qx_aln at e
  split at e
  · split at e
    · split at e
      · exact ⟨_, Or.inr (Or.inl ⟨_, _, _, _, rfl, by assumption, by assumption, Option.some.inj e⟩)⟩
      · cases e
    · cases e
  · exact ⟨_, Or.inl ⟨rfl, Option.some.inj e⟩⟩
  · split at e
    · exact ⟨_, Or.inr (Or.inr ⟨_, _, _, _, rfl, by assumption, Option.some.inj e⟩)⟩
    · cases e
  · cases e
theorem qx_ast_inv {ty : FieldType} (e : qx_ast ty pc lv st h = some q) : ∃ x j k r n f, st = .int x :: .int j :: .ref k :: r ∧ h[k]? = some (.inl (ty, n, f)) ∧ vp_in j n ∧ (pc + 1, lv, r, h.set k (.inl (ty, n, upd f j.toNatClampNeg (vp_nar ty x)))) = q := by
  unfold qx_ast at e
  split at e
  · split at e
    · split at e
      · rename_i hc
        obtain ⟨rfl, hc⟩ := hc
        exact ⟨_, _, _, _, _, _, rfl, by assumption, qx_in_inv hc, Option.some.inj e⟩
      · cases e
    · cases e
  · cases e
theorem qx_cpy_inv (e : qx_cpy d pc lv st h = some q) : ∃ n dp k1 sp k0 r n0 f n1 g, st = .int n :: .int dp :: .ref k1 :: .int sp :: .ref k0 :: r ∧ h[k0]? = some (.inl (.byte, n0, f)) ∧ h[k1]? = some (.inl (.byte, n1, g)) ∧ 1 ≤ d ∧ (r.map fun v => v.category).sum ≤ 8 ∧ ¬ sp < 0 ∧ ¬ dp < 0 ∧ ¬ n < 0 ∧ sp.toNatClampNeg + n.toNatClampNeg ≤ n0 ∧ dp.toNatClampNeg + n.toNatClampNeg ≤ n1 ∧ (∀ i, i < n.toNatClampNeg → fits .byte (.int (f (sp.toNatClampNeg + i))) = true) ∧ (pc + 3, lv, r, h.set k1 (.inl (.byte, n1, va_cpy f g sp.toNatClampNeg dp.toNatClampNeg n.toNatClampNeg))) = q := by
  unfold qx_cpy at e
  split at e
  · split at e
    · split at e
      · rename_i hc
        obtain ⟨rfl, rfl, h1, h2, h3, h4, h5, h6, h7, h8⟩ := hc
        exact ⟨_, _, _, _, _, _, _, _, _, _, rfl, by assumption, by assumption, h1, h2, h3, h4, h5, h6, h7, h8, Option.some.inj e⟩
      · cases e
    · cases e
  · cases e
theorem qx_nwa_inv {at_ : ArrayType} (e : qx_nwa at_ pc lv st h = some q) : ∃ n r, st = .int n :: r ∧ (at_ = .int ∨ at_ = .byte) ∧ ¬ n < 0 ∧ n.toNatClampNeg * 4 ≤ 536870912 ∧ (pc + 2, lv, .ref h.length :: r, h ++ [.inl (newarray.typeOf at_, n.toNatClampNeg, fun _ => 0)]) = q := by
  unfold qx_nwa at e
  split at e
  · split at e
    · rename_i hc
      exact ⟨_, _, rfl, hc.1, hc.2.1, hc.2.2, Option.some.inj e⟩
    · cases e
  · cases e
theorem qx_ob_inv {v : Value} {o : Nat × List Value} (e : qx_ob h v = some o) : (∃ k, v = .ref k ∧ h[k]? = some (.inr o)) ∨ ∃ k, v = .retAddr k ∧ qx_ko k = some o := by
  unfold qx_ob at e
  split at e
  · split at e
    · rename_i h1
      cases e
      exact Or.inl ⟨_, rfl, h1⟩
    · cases e
  · exact Or.inr ⟨_, rfl, e⟩
  · cases e
theorem qx_gf_inv (e : qx_gf m k pc lv st h = some q) : ∃ v r ci fs j w, st = v :: r ∧ qx_ob h v = some (ci, fs) ∧ qx_fld m k = some (ci, j) ∧ fs[j]? = some w ∧ (pc + 3, lv, w :: r, h) = q := by
  unfold qx_gf at e
  split at e
  · split at e
    · split at e
      · rename_i hc
        subst hc
        split at e
        · exact ⟨_, _, _, _, _, _, rfl, by assumption, by assumption, by assumption, Option.some.inj e⟩
        · cases e
      · cases e
    · cases e
  · cases e
theorem qx_pf_inv (e : qx_pf m k pc lv st h = some q) : ∃ v a r ci fs j, st = v :: .ref a :: r ∧ h[a]? = some (.inr (ci, fs)) ∧ qx_fld m k = some (ci, j) ∧ j < fs.length ∧ qx_fit (qx_fty ci j) v = true ∧ qx_pok m k = true ∧ (pc + 3, lv, r, h.set a (.inr (ci, fs.set j v))) = q := by
  unfold qx_pf at e
  split at e
  · split at e
    · split at e
      · rename_i hc
        obtain ⟨rfl, h1, h2, h3⟩ := hc
        exact ⟨_, _, _, _, _, _, rfl, by assumption, by assumption, h1, h2, h3, Option.some.inj e⟩
      · cases e
    · cases e
  · cases e
end QXI
