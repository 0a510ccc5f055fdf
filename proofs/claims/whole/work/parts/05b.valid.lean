/-! the tables' rows are words of the Statement, or what the start gives -/
theorem qx_tb {i : Nat} {w : Cond} (h : tables_1[i]? = some w) (g : goodWord w = true) : w ∈ qx_gt := List.mem_filter.mpr ⟨List.mem_append_right _ (List.mem_of_getElem? h), g⟩
theorem qx_lb {i : Nat} {w : Cond} (h : lw_tbl[i]? = some w) (g : goodWord w = true) : w ∈ qx_gt := List.mem_filter.mpr ⟨List.mem_of_getElem? h, g⟩
set_option maxRecDepth 100000 in
theorem qx_own0 : ∀ m, m < 188 → qx_cn (qx_cl m) = (qx_y m).cls := by decide +kernel
theorem qx_own (m : Nat) : qx_cn (qx_cl m) = (qx_y m).cls := by
  by_cases hm : m < 188
  · exact qx_own0 m hm
  · have h1 : qx_cl m = 8 := by unfold qx_cl; rw [List.getD_eq_getElem?_getD, List.getElem?_eq_none (by show 188 ≤ m; omega)]; rfl
    have h2 : qx_y m = x := by unfold qx_y; rw [List.getD_eq_getElem?_getD, List.getElem?_eq_none (by show 188 ≤ m; omega)]; rfl
    rw [h1, h2]; rfl
theorem qx_cs_eq {ci N : Nat} {C : String} {T : u_T} (h : qx_cs[ci]? = some (C, T, N)) : ci < 6 ∧ C = qx_cn ci ∧ T = qx_kT ci ∧ N = qx_cN ci := by
  match ci, h with
  | 0, h => cases h; exact ⟨by decide, rfl, rfl, rfl⟩
  | 1, h => cases h; exact ⟨by decide, rfl, rfl, rfl⟩
  | 2, h => cases h; exact ⟨by decide, rfl, rfl, rfl⟩
  | 3, h => cases h; exact ⟨by decide, rfl, rfl, rfl⟩
  | 4, h => cases h; exact ⟨by decide, rfl, rfl, rfl⟩
  | 5, h => cases h; exact ⟨by decide, rfl, rfl, rfl⟩
  | n + 6, h => exact absurd h (by simp [qx_cs])
theorem qx_cs_of {ci : Nat} (h : ci < 6) : qx_cs[ci]? = some (qx_cn ci, qx_kT ci, qx_cN ci) := by
  match ci, h with
  | 0, _ => rfl
  | 1, _ => rfl
  | 2, _ => rfl
  | 3, _ => rfl
  | 4, _ => rfl
  | 5, _ => rfl
set_option maxRecDepth 100000 in
theorem qx_uw0 : ∀ w ∈ u_ws (qx_cn 0) (qx_kT 0) (qx_cN 0), w ∈ qx_gt := by
  intro w hw
  have h1 : u_ws (qx_cn 0) (qx_kT 0) (qx_cN 0) = [115, 117, 119, 121, 123].filterMap (fun i => tables_1[i]?) := by decide +kernel
  have h2 : (u_ws (qx_cn 0) (qx_kT 0) (qx_cN 0)).all goodWord = true := by decide +kernel
  have g := List.all_eq_true.mp h2 w hw
  rw [h1] at hw
  obtain ⟨i, -, hi⟩ := List.mem_filterMap.mp hw
  exact qx_tb hi g
set_option maxRecDepth 100000 in
theorem qx_uw1 : ∀ w ∈ u_ws (qx_cn 1) (qx_kT 1) (qx_cN 1), w ∈ qx_gt := by
  intro w hw
  have h1 : u_ws (qx_cn 1) (qx_kT 1) (qx_cN 1) = [97, 99, 101, 103, 105, 107].filterMap (fun i => tables_1[i]?) := by decide +kernel
  have h2 : (u_ws (qx_cn 1) (qx_kT 1) (qx_cN 1)).all goodWord = true := by decide +kernel
  have g := List.all_eq_true.mp h2 w hw
  rw [h1] at hw
  obtain ⟨i, -, hi⟩ := List.mem_filterMap.mp hw
  exact qx_tb hi g
set_option maxRecDepth 100000 in
theorem qx_uw2 : ∀ w ∈ u_ws (qx_cn 2) (qx_kT 2) (qx_cN 2), w ∈ qx_gt := by
  intro w hw
  have h1 : u_ws (qx_cn 2) (qx_kT 2) (qx_cN 2) = [74, 76, 78, 80, 82].filterMap (fun i => tables_1[i]?) := by decide +kernel
  have h2 : (u_ws (qx_cn 2) (qx_kT 2) (qx_cN 2)).all goodWord = true := by decide +kernel
  have g := List.all_eq_true.mp h2 w hw
  rw [h1] at hw
  obtain ⟨i, -, hi⟩ := List.mem_filterMap.mp hw
  exact qx_tb hi g
set_option maxRecDepth 100000 in
theorem qx_uw3 : ∀ w ∈ u_ws (qx_cn 3) (qx_kT 3) (qx_cN 3), w ∈ qx_gt := by
  intro w hw
  have h1 : u_ws (qx_cn 3) (qx_kT 3) (qx_cN 3) = [56, 58, 60, 62, 64].filterMap (fun i => tables_1[i]?) := by decide +kernel
  have h2 : (u_ws (qx_cn 3) (qx_kT 3) (qx_cN 3)).all goodWord = true := by decide +kernel
  have g := List.all_eq_true.mp h2 w hw
  rw [h1] at hw
  obtain ⟨i, -, hi⟩ := List.mem_filterMap.mp hw
  exact qx_tb hi g
set_option maxRecDepth 100000 in
theorem qx_uw4 : ∀ w ∈ u_ws (qx_cn 4) (qx_kT 4) (qx_cN 4), w ∈ qx_gt := by
  intro w hw
  have h1 : u_ws (qx_cn 4) (qx_kT 4) (qx_cN 4) = [151, 153, 155].filterMap (fun i => tables_1[i]?) := by decide +kernel
  have h2 : (u_ws (qx_cn 4) (qx_kT 4) (qx_cN 4)).all goodWord = true := by decide +kernel
  have g := List.all_eq_true.mp h2 w hw
  rw [h1] at hw
  obtain ⟨i, -, hi⟩ := List.mem_filterMap.mp hw
  exact qx_tb hi g
set_option maxRecDepth 100000 in
theorem qx_uw5 : ∀ w ∈ u_ws (qx_cn 5) (qx_kT 5) (qx_cN 5), w ∈ qx_gt := by
  intro w hw
  have h1 : u_ws (qx_cn 5) (qx_kT 5) (qx_cN 5) = [683, 685, 687, 689, 691, 693, 695, 697, 699, 701].filterMap (fun i => tables_1[i]?) := by decide +kernel
  have h2 : (u_ws (qx_cn 5) (qx_kT 5) (qx_cN 5)).all goodWord = true := by decide +kernel
  have g := List.all_eq_true.mp h2 w hw
  rw [h1] at hw
  obtain ⟨i, -, hi⟩ := List.mem_filterMap.mp hw
  exact qx_tb hi g
theorem qx_uw {ci : Nat} (h : ci < 6) : ∀ w ∈ u_ws (qx_cn ci) (qx_kT ci) (qx_cN ci), w ∈ qx_gt := by
  match ci, h with
  | 0, _ => exact qx_uw0
  | 1, _ => exact qx_uw1
  | 2, _ => exact qx_uw2
  | 3, _ => exact qx_uw3
  | 4, _ => exact qx_uw4
  | 5, _ => exact qx_uw5
theorem qx_cls_ok {ci N : Nat} {C : String} {T : u_T} (h : qx_cs[ci]? = some (C, T, N)) : (∀ k, k < N → parseFieldDescriptor (T k).2.2.1 = some (qx_fty ci k)) ∧ (∀ a, a < N → ∀ b, b < N → a ≠ b → (T a).2.1 ≠ (T b).2.1) := by
  match ci, h with
  | 0, h => cases h; exact ⟨by decide +kernel, by decide +kernel⟩
  | 1, h => cases h; exact ⟨by decide +kernel, by decide +kernel⟩
  | 2, h => cases h; exact ⟨by decide +kernel, by decide +kernel⟩
  | 3, h => cases h; exact ⟨by decide +kernel, by decide +kernel⟩
  | 4, h => cases h; exact ⟨by decide +kernel, by decide +kernel⟩
  | 5, h => cases h; exact ⟨by decide +kernel, by decide +kernel⟩
  | n + 6, h => exact absurd h (by simp [qx_cs])
def qx_fw (r : Nat × Nat × Nat × Nat × Nat × Nat) : Cond := if r.2.2.2.2.1 = 0 then .fieldLink (qx_cn r.1) r.2.1 (qx_kT r.2.2.1 r.2.2.2.1).1 (qx_kT r.2.2.1 r.2.2.2.1).2.1 (qx_kT r.2.2.1 r.2.2.2.1).2.2.1 else .fieldLinkNest (qx_cn r.1) r.2.1 (qx_kT r.2.2.1 r.2.2.2.1).1 (qx_kT r.2.2.1 r.2.2.2.1).2.1 (qx_kT r.2.2.1 r.2.2.2.1).2.2.1 qx_host
set_option maxRecDepth 100000 in
theorem qx_fr_ok : ∀ r ∈ qx_fr, tables_1[r.2.2.2.2.2]? = some (qx_fw r) := by decide +kernel
set_option maxRecDepth 100000 in
theorem qx_fr_nest : ∀ r ∈ qx_fr, ¬ r.2.2.2.2.1 = 0 → (qx_cn r.1, r.2.1, (qx_kT r.2.2.1 r.2.2.2.1).1, (qx_kT r.2.2.1 r.2.2.2.1).2.1, (qx_kT r.2.2.1 r.2.2.2.1).2.2.1) ∈ qx_kNF := by decide +kernel
set_option maxRecDepth 100000 in
theorem qx_fr_in : ∀ r ∈ qx_fr, r.2.2.1 < 6 → r.2.2.2.1 < qx_cN r.2.2.1 := by decide +kernel
theorem qx_frow_inv {c k : Nat} {r : Nat × Nat × Nat × Nat × Nat × Nat} (h : qx_frow c k = some r) : r ∈ qx_fr ∧ r.1 = c ∧ r.2.1 = k := by
  have h1 := List.mem_of_find?_eq_some h
  have h2 := List.find?_some h
  simp only [Bool.and_eq_true, beq_iff_eq] at h2
  exact ⟨h1, h2.1, h2.2⟩
theorem qx_fld_inv {m k ci j : Nat} (h : qx_fld m k = some (ci, j)) : ∃ r, qx_frow (qx_cl m) k = some r ∧ r.2.2.1 = ci ∧ r.2.2.2.1 = j := by
  unfold qx_fld at h
  split at h
  · rename_i r hr
    cases h
    exact ⟨r, hr, rfl, rfl⟩
  · cases h
theorem qx_fldk {m k ci j : Nat} (hf : qx_fld m k = some (ci, j)) : Cond.fieldLink (qx_y m).cls k (qx_kT ci j).1 (qx_kT ci j).2.1 (qx_kT ci j).2.2.1 ∈ qx_gt ∨ ((qx_y m).cls, k, (qx_kT ci j).1, (qx_kT ci j).2.1, (qx_kT ci j).2.2.1) ∈ qx_kNF := by
  obtain ⟨r, hr, rfl, rfl⟩ := qx_fld_inv hf
  obtain ⟨h1, h2, h3⟩ := qx_frow_inv hr
  have h4 := qx_fr_ok r h1
  by_cases hn : r.2.2.2.2.1 = 0
  · unfold qx_fw at h4
    rw [if_pos hn, h2, h3, qx_own] at h4
    exact Or.inl (qx_tb h4 rfl)
  · have h5 := qx_fr_nest r h1 hn
    rw [h2, h3, qx_own] at h5
    exact Or.inr h5
theorem qx_fldk_ok {m k ci j a : Nat} {fs : List Value} (hf : qx_fld m k = some (ci, j)) (_ : qx_ko a = some (ci, fs)) : Cond.fieldLink (qx_y m).cls k (qx_kT ci j).1 (qx_kT ci j).2.1 (qx_kT ci j).2.2.1 ∈ qx_gt ∨ ((qx_y m).cls, k, (qx_kT ci j).1, (qx_kT ci j).2.1, (qx_kT ci j).2.2.1) ∈ qx_kNF := qx_fldk hf
theorem qx_fld_ok {m k ci j N : Nat} {C : String} {T : u_T} (hf : qx_fld m k = some (ci, j)) (hc : qx_cs[ci]? = some (C, T, N)) : (∀ w ∈ u_ws C T N, w ∈ qx_gt) ∧ j < N ∧ (Cond.fieldLink (qx_y m).cls k (T j).1 (T j).2.1 (T j).2.2.1 ∈ qx_gt ∨ ((qx_y m).cls, k, (T j).1, (T j).2.1, (T j).2.2.1) ∈ qx_kNF) := by
  obtain ⟨h6, rfl, rfl, rfl⟩ := qx_cs_eq hc
  have h7 := qx_fldk hf
  obtain ⟨r, hr, rfl, rfl⟩ := qx_fld_inv hf
  exact ⟨qx_uw h6, qx_fr_in r (qx_frow_inv hr).1 h6, h7⟩
theorem qx_pok_ok {m k ci j N : Nat} {C : String} {T : u_T} (hf : qx_fld m k = some (ci, j)) (hp : qx_pok m k = true) (hc : qx_cs[ci]? = some (C, T, N)) : (T j).2.2.2 = false ∨ ((T j).2.2.2 = true ∧ (qx_y m).name = "<init>" ∧ (T j).1 = (qx_y m).cls ∧ Cond.fieldLink (qx_y m).cls k (T j).1 (T j).2.1 (T j).2.2.1 ∈ qx_gt) := by
  obtain ⟨h6, rfl, rfl, rfl⟩ := qx_cs_eq hc
  obtain ⟨r, hr, rfl, rfl⟩ := qx_fld_inv hf
  unfold qx_pok at hp
  rw [hr] at hp
  simp only [Bool.or_eq_true, Bool.not_eq_true', Bool.and_eq_true, beq_iff_eq] at hp
  by_cases hfin : (qx_kT r.2.2.1 r.2.2.2.1).2.2.2 = false
  · exact Or.inl hfin
  · rcases hp with hp | ⟨⟨h1, h2⟩, h3⟩
    · exact absurd hp hfin
    · obtain ⟨q1, q2, q3⟩ := qx_frow_inv hr
      have h4 := qx_fr_ok r q1
      unfold qx_fw at h4
      rw [if_pos h1, q2, q3, qx_own] at h4
      exact Or.inr ⟨by simpa using hfin, h2, h3, qx_tb h4 rfl⟩
set_option maxRecDepth 100000 in
theorem qx_nr_ok : ∀ r ∈ qx_nr, r.2.2.1 < 6 ∧ tables_1[r.2.2.2]? = some (.classLink (qx_cn r.1) r.2.1 (qx_cn r.2.2.1)) := by decide +kernel
set_option maxRecDepth 100000 in
theorem qx_insx : ∀ ci, ci < 6 → tables_1[[21, 29, 35, 41, 143, 668].getD ci 0]? = some (.instantiable (qx_cn ci) (qx_cN ci)) := by decide +kernel
set_option maxRecDepth 100000 in
theorem qx_ini6 : ∀ ci, ci < 6 → tables_1[[1, 2, 3, 4, 6, 5].getD ci 0]? = some (.initialized (qx_cn ci)) := by decide +kernel
theorem qx_dfv : ∀ ci, ci < 6 → ∀ j, j < qx_cN ci → defaultValue (qx_fty ci j) = vp_V (qx_df ci) j := by decide +kernel
theorem qx_dfm (aK : Nat → Option Nat) (base : Nat) {ci : Nat} (h : ci < 6) : (qx_df ci).map (qx_cv aK base) = qx_df ci := by
  match ci, h with
  | 0, _ => rfl
  | 1, _ => rfl
  | 2, _ => rfl
  | 3, _ => rfl
  | 4, _ => rfl
  | 5, _ => rfl
theorem qx_new_ok {m k ci : Nat} {fs : List Value} (h : qx_new m k = some (ci, fs)) : ∃ C T, qx_cs[ci]? = some (C, T, qx_cN ci) ∧ (∀ w ∈ u_ws C T (qx_cN ci), w ∈ qx_gt) ∧ (∀ k, k < qx_cN ci → parseFieldDescriptor (T k).2.2.1 = some (qx_fty ci k)) ∧ Cond.classLink (qx_y m).cls k C ∈ qx_gt ∧ Cond.instantiable C (qx_cN ci) ∈ qx_gt ∧ Cond.initialized C ∈ qx_gt ∧ (∀ j, j < qx_cN ci → defaultValue (qx_fty ci j) = vp_V fs j) ∧ (∀ (aK : Nat → Option Nat) (base : Nat), fs.map (qx_cv aK base) = fs) := by
  unfold qx_new at h
  split at h
  · rename_i r hr
    cases h
    have h1 := List.mem_of_find?_eq_some hr
    have h2 := List.find?_some hr
    simp only [Bool.and_eq_true, beq_iff_eq] at h2
    obtain ⟨h6, h4⟩ := qx_nr_ok r h1
    rw [h2.1, h2.2, qx_own] at h4
    refine ⟨qx_cn r.2.2.1, qx_kT r.2.2.1, qx_cs_of h6, qx_uw h6, (qx_cls_ok (qx_cs_of h6)).1, qx_tb h4 rfl, qx_tb (qx_insx _ h6) rfl, qx_tb (qx_ini6 _ h6) rfl, qx_dfv _ h6, fun aK base => qx_dfm aK base h6⟩
  · cases h
set_option maxRecDepth 100000 in
theorem qx_lr_ok : ∀ r ∈ qx_lr, tables_1[r.2.2.2]? = some (.constant (qx_cn r.1) r.2.1 r.2.2.1) := by decide +kernel
set_option maxRecDepth 100000 in
theorem qx_l2r_ok : ∀ r ∈ qx_l2r, tables_1[r.2.2.2]? = some (.constantLong (qx_cn r.1) r.2.1 r.2.2.1) := by decide +kernel
theorem qx_ldcw_ok {m k : Nat} {v : Int32} (h : qx_ldcw m k = some v) : Cond.constant (qx_y m).cls k v ∈ qx_gt := by
  unfold qx_ldcw at h
  split at h
  · rename_i r hr
    cases h
    have h2 := List.find?_some hr
    simp only [Bool.and_eq_true, beq_iff_eq] at h2
    have h4 := qx_lr_ok r (List.mem_of_find?_eq_some hr)
    rw [h2.1, h2.2, qx_own] at h4
    exact qx_tb h4 rfl
  · cases h
theorem qx_ldc2_ok {m k : Nat} {v : Int64} (h : qx_ldc2 m k = some v) : Cond.constantLong (qx_y m).cls k v ∈ qx_gt := by
  unfold qx_ldc2 at h
  split at h
  · rename_i r hr
    cases h
    have h2 := List.find?_some hr
    simp only [Bool.and_eq_true, beq_iff_eq] at h2
    have h4 := qx_l2r_ok r (List.mem_of_find?_eq_some hr)
    rw [h2.1, h2.2, qx_own] at h4
    exact qx_tb h4 rfl
  · cases h
theorem qx_ldc_ok {m k : Nat} {v : Value} (h : qx_ldc m k = some v) : (∃ x, v = .int x ∧ Cond.constant (qx_y m).cls k x ∈ qx_gt) ∨ ∃ y tx, v = .retAddr y ∧ ((qx_y m).cls, k, tx, y) ∈ qx_kR := by
  unfold qx_ldc at h
  split at h
  · rename_i r hr
    cases h
    have h2 := List.find?_some hr
    simp only [Bool.and_eq_true, beq_iff_eq] at h2
    have h4 := qx_lr_ok r (List.mem_of_find?_eq_some hr)
    rw [h2.1, h2.2, qx_own] at h4
    exact Or.inl ⟨_, rfl, qx_tb h4 rfl⟩
  · split at h
    · rename_i r hr
      cases h
      have h2 := List.find?_some hr
      simp only [Bool.and_eq_true, beq_iff_eq] at h2
      refine Or.inr ⟨_, r.2.2.1, rfl, List.mem_map.mpr ⟨r, List.mem_of_find?_eq_some hr, ?_⟩⟩
      rw [h2.1, h2.2, qx_own]
    · cases h
def qx_zw (r : Nat × Nat × Nat × Nat × Nat) (z : String × String × String × Value) : Cond := if r.2.2.2.1 = 0 then .fieldLink (qx_cn r.1) r.2.1 z.1 z.2.1 z.2.2.1 else .fieldLinkNest (qx_cn r.1) r.2.1 z.1 z.2.1 z.2.2.1 qx_host
set_option maxRecDepth 100000 in
theorem qx_zr_ok : ∀ r ∈ qx_zr, r.2.2.2.1 = 0 ∧ ∀ z ∈ (qx_kZ[r.2.2.1]?).toList, tables_1[r.2.2.2.2]? = some (qx_zw r z) := by decide +kernel
theorem qx_sta_ok {m k : Nat} {v : Value} (h : qx_sta m k = some v) : ∃ C n dd, (C, n, dd, v) ∈ qx_kZ ∧ (Cond.fieldLink (qx_y m).cls k C n dd ∈ qx_gt ∨ ((qx_y m).cls, k, C, n, dd) ∈ qx_kNF) := by
  unfold qx_sta at h
  split at h
  · rename_i r hr
    have h2 := List.find?_some hr
    simp only [Bool.and_eq_true, beq_iff_eq] at h2
    obtain ⟨h3, h4⟩ := qx_zr_ok r (List.mem_of_find?_eq_some hr)
    cases hz : qx_kZ[r.2.2.1]? with
    | none => rw [hz] at h; cases h
    | some z =>
      rw [hz] at h
      cases h
      have h5 := h4 z (by rw [hz]; exact List.mem_singleton.mpr rfl)
      unfold qx_zw at h5
      rw [if_pos h3, h2.1, h2.2, qx_own] at h5
      exact ⟨z.1, z.2.1, z.2.2.1, List.mem_of_getElem? hz, Or.inl (qx_tb h5 rfl)⟩
  · cases h
set_option maxRecDepth 100000 in
theorem qx_oir_ok : ∀ r ∈ qx_oir, tables_1[r.2.2]? = some (.methodLink (qx_cn r.1) r.2.1 objectInit) := by decide +kernel
theorem qx_oi_ok {m k : Nat} (h : qx_oi m k = true) : Cond.methodLink (qx_y m).cls k objectInit ∈ qx_gt := by
  unfold qx_oi at h
  obtain ⟨r, hr⟩ := Option.isSome_iff_exists.mp h
  have h2 := List.find?_some hr
  simp only [Bool.and_eq_true, beq_iff_eq] at h2
  have h4 := qx_oir_ok r (List.mem_of_find?_eq_some hr)
  rw [h2.1, h2.2, qx_own] at h4
  exact qx_tb h4 rfl
set_option maxRecDepth 100000 in
theorem qx_cpr_ok : ∀ r ∈ qx_cpr, tables_1[r.2.2]? = some (.methodLink (qx_cn r.1) r.2.1 arraycopyName) := by decide +kernel
set_option maxRecDepth 100000 in
theorem qx_oi_inst : Cond.instanceMethod objectInit ∈ qx_gt := qx_tb (i := 26) rfl rfl
set_option maxRecDepth 100000 in
theorem qx_oi_code : Cond.code objectInit ⟨#[0xb1]⟩ 1 none ∈ qx_gt := qx_tb (i := 27) rfl rfl
set_option maxRecDepth 100000 in
theorem qx_cp_ok {m k : Nat} (h : qx_cp m k = true) : Cond.methodLink (qx_y m).cls k arraycopyName ∈ qx_gt ∧ Cond.native arraycopyName ∈ qx_gt ∧ Cond.static arraycopyName ∈ qx_gt ∧ Cond.initialized "java/lang/System" ∈ qx_gt := by
  unfold qx_cp at h
  obtain ⟨r, hr⟩ := Option.isSome_iff_exists.mp h
  have h2 := List.find?_some hr
  simp only [Bool.and_eq_true, beq_iff_eq] at h2
  have h4 := qx_cpr_ok r (List.mem_of_find?_eq_some hr)
  rw [h2.1, h2.2, qx_own] at h4
  exact ⟨qx_tb h4 rfl, qx_tb (i := 164) rfl rfl, qx_tb (i := 163) rfl rfl, qx_tb (i := 7) rfl rfl⟩
set_option maxRecDepth 100000 in
theorem qx_arr_ok {at_ : ArrayType} (h : at_ = .int ∨ at_ = .byte) : Cond.arrayClass (newarray.typeOf at_) ∈ qx_gt := by
  rcases h with rfl | rfl
  · exact qx_tb (i := 85) rfl rfl
  · exact qx_tb (i := 67) rfl rfl
theorem qx_fit_ok {aK : Nat → Option Nat} {base : Nat} {ty : FieldType} {v : Value} (h : qx_fit ty v = true) : narrow ty (qx_cv aK base v) = qx_cv aK base v ∧ fits ty (qx_cv aK base v) = true := by
  unfold qx_fit at h
  split at h
  · exact ⟨rfl, rfl⟩
  · exact ⟨rfl, rfl⟩
  · rename_i z
    simp only [Bool.or_eq_true, beq_iff_eq] at h
    rcases h with rfl | rfl <;> exact ⟨rfl, rfl⟩
  · exact ⟨rfl, rfl⟩
  · exact ⟨rfl, rfl⟩
  · rename_i k
    have e : qx_cv aK base (.retAddr k) = va_rf (aK k) := rfl
    rw [e]
    cases aK k <;> exact ⟨rfl, rfl⟩
  · exact ⟨rfl, rfl⟩
  · exact ⟨rfl, rfl⟩
  · cases h
theorem qx_rr_ok {r : Option FieldType} (h : qx_rr r = true) : ∃ rt, r = some rt ∧ ((∃ n, rt = .object n) ∨ ∃ t, rt = .array t) := by
  unfold qx_rr at h
  split at h
  · exact ⟨_, rfl, Or.inl ⟨_, rfl⟩⟩
  · exact ⟨_, rfl, Or.inr ⟨_, rfl⟩⟩
  · cases h
def qx_cix : List Nat := [24, 32, 38, 44, 129, 133, 137, 141, 146, 161, 168, 172, 175, 180, 184, 188, 192, 198, 203, 207, 211, 216, 220, 228, 234, 237, 240, 244, 249, 253, 257, 263, 267, 270, 273, 276, 279, 282, 285, 291, 294, 297, 300, 305, 308, 311, 320, 323, 326, 330, 334, 338, 341, 346, 350, 354, 358, 363, 369, 372, 375, 378, 381, 384, 389, 392, 395, 398, 401, 405, 409, 414, 418, 423, 427, 431, 437, 441, 445, 449, 453, 461, 465, 469, 472, 475, 482, 486, 489, 493, 497, 501, 504, 512, 515, 519, 523, 527, 535, 541, 547, 552, 556, 562, 566, 571, 575, 579, 583, 589, 593, 604, 608, 612, 616, 620, 629, 636, 644, 650, 657, 664, 671, 707, 712, 716, 720, 724, 728, 733, 737, 742, 747, 751, 755, 759, 763, 767, 771, 775, 779, 783, 787, 791, 795, 798, 802, 806, 810, 814, 818, 824, 849, 852, 855, 859, 863, 867, 871, 875, 879, 883, 887, 891, 895, 898, 902, 905, 909, 913, 917, 921, 925, 930, 934, 938, 942, 946, 950, 954, 958, 962, 966, 970, 974, 978, 983, 989]
def qx_iix : List Nat := [23, 31, 37, 43, 127, 131, 135, 139, 145, 159, 166, 170, 174, 178, 182, 186, 190, 196, 201, 205, 209, 215, 219, 226, 232, 236, 239, 242, 247, 251, 255, 261, 265, 269, 272, 275, 278, 281, 284, 290, 293, 296, 299, 304, 307, 310, 319, 322, 325, 329, 333, 337, 340, 345, 348, 352, 356, 361, 367, 371, 374, 377, 380, 383, 387, 391, 394, 397, 400, 404, 408, 412, 416, 422, 425, 429, 435, 439, 444, 448, 451, 460, 463, 468, 471, 474, 480, 484, 488, 491, 496, 500, 503, 510, 514, 517, 521, 526, 534, 540, 545, 550, 554, 561, 564, 570, 573, 577, 581, 587, 591, 602, 606, 610, 614, 618, 628, 634, 642, 648, 655, 662, 670, 705, 710, 714, 718, 723, 727, 732, 736, 741, 746, 750, 754, 758, 762, 766, 770, 774, 778, 782, 786, 790, 794, 797, 801, 805, 809, 813, 817, 823, 848, 851, 854, 858, 862, 866, 870, 874, 878, 882, 886, 890, 894, 897, 901, 904, 908, 912, 916, 920, 924, 928, 932, 936, 941, 945, 948, 953, 957, 961, 965, 968, 972, 976, 982, 987]
def qx_six : List Nat := [0, 0, 0, 0, 193, 197, 201, 205, 0, 225, 232, 236, 0, 244, 248, 252, 256, 262, 267, 271, 275, 0, 1, 292, 298, 0, 0, 308, 313, 317, 321, 327, 331, 0, 0, 0, 0, 0, 0, 0, 0, 0, 0, 0, 0, 0, 0, 0, 0, 0, 0, 0, 0, 2, 414, 418, 422, 427, 433, 0, 0, 0, 0, 0, 453, 0, 0, 0, 0, 3, 4, 478, 482, 5, 491, 495, 501, 505, 6, 7, 517, 8, 529, 0, 0, 0, 546, 550, 0, 557, 9, 10, 0, 576, 0, 583, 587, 11, 12, 13, 611, 616, 620, 14, 630, 15, 639, 643, 647, 653, 657, 668, 672, 676, 680, 684, 16, 700, 708, 714, 721, 728, 0, 771, 776, 780, 784, 17, 18, 19, 20, 21, 22, 23, 24, 25, 26, 27, 28, 29, 30, 31, 32, 33, 34, 0, 35, 36, 37, 38, 39, 40, 41, 0, 0, 42, 43, 44, 45, 46, 47, 48, 49, 50, 51, 0, 52, 0, 53, 54, 55, 56, 57, 994, 998, 1002, 58, 59, 1014, 60, 61, 62, 63, 1034, 1038, 1042, 64, 1053]
def qx_nix : List Nat := [1, 2, 3, 4, 1, 1, 1, 1, 6, 4, 2, 3, 8, 6, 4, 4, 4, 4, 6, 3, 4, 3, 3, 4, 3, 9, 9, 4, 10, 10, 10, 10, 10, 11, 11, 12, 12, 11, 13, 13, 13, 13, 10, 14, 13, 13, 13, 15, 15, 15, 9, 9, 9, 3, 4, 3, 3, 3, 10, 11, 10, 14, 13, 13, 6, 16, 16, 16, 16, 6, 6, 3, 3, 6, 2, 2, 3, 6, 6, 6, 2, 6, 2, 16, 16, 17, 2, 2, 16, 2, 6, 6, 19, 2, 2, 2, 19, 6, 6, 6, 3, 3, 6, 6, 6, 1, 1, 1, 2, 2, 2, 1, 2, 2, 1, 2, 2, 1, 1, 1, 3, 1, 5, 5, 5, 5, 5, 5, 5, 5, 5, 5, 5, 5, 5, 5, 5, 5, 5, 5, 5, 5, 5, 5, 5, 5, 5, 5, 5, 5, 5, 5, 5, 5, 5, 5, 5, 5, 5, 5, 5, 5, 5, 5, 5, 5, 5, 5, 5, 5, 5, 5, 5, 5, 5, 5, 5, 5, 5, 5, 5, 5, 5, 5, 5, 5, 5, 5]
set_option maxRecDepth 100000 in
theorem qx_cwl : (List.range 188).map (fun y => Cond.code (qx_y y) (qx_code y) (qx_mL y) (qx_rt y)) = qx_cix.filterMap (fun i => tables_1[i]?) := rfl
theorem qx_cw1 : ∀ y, y < 188 → ∃ i : Nat, tables_1[i]? = some (.code (qx_y y) (qx_code y) (qx_mL y) (qx_rt y)) := by
  intro y hy
  have h1 : Cond.code (qx_y y) (qx_code y) (qx_mL y) (qx_rt y) ∈ (List.range 188).map (fun y => Cond.code (qx_y y) (qx_code y) (qx_mL y) (qx_rt y)) := List.mem_map.mpr ⟨y, List.mem_range.mpr hy, rfl⟩
  rw [qx_cwl] at h1
  obtain ⟨i, -, hi⟩ := List.mem_filterMap.mp h1
  exact ⟨i, hi⟩
set_option maxRecDepth 100000 in
theorem qx_cw2 : ∀ y, y < 188 → plainFor (qx_y y) = true ∧ 19 + qx_mL y ≤ qx_KK ∧ (qx_y y).cls ≠ "java/lang/invoke/MethodHandle" ∧ (qx_y y).cls ≠ "java/lang/invoke/VarHandle" := by decide +kernel
set_option maxRecDepth 100000 in
theorem qx_cw3 : ∀ y, y < 188 → tables_1[qx_nix.getD y 0]? = some (.initialized (qx_y y).cls) := by decide +kernel
set_option maxRecDepth 100000 in
theorem qx_cw4 : ∀ y, y < 188 → (qx_kd y = 1 → tables_1[qx_iix.getD y 0]? = some (.static (qx_y y))) ∧ (¬ qx_kd y = 1 → tables_1[qx_iix.getD y 0]? = some (.instanceMethod (qx_y y))) := by decide +kernel
set_option maxRecDepth 100000 in
theorem qx_cw5 : ∀ y, y < 188 → qx_kd y = 0 → lw_tbl[qx_six.getD y 0]? = some (.selects (qx_y y).cls (qx_y y) (qx_y y)) := by decide +kernel
set_option maxRecDepth 100000 in
theorem qx_cw6 : ∀ y, y < 188 → qx_kd y = 2 → (qx_y y).name = "<init>" ∧ qx_rt y = none := by decide +kernel
theorem qx_code_ok {y : Nat} (hy : y < qx_NM) : Cond.code (qx_y y) (qx_code y) (qx_mL y) (qx_rt y) ∈ qx_gt ∧ plainFor (qx_y y) = true ∧ 19 + qx_mL y ≤ qx_KK ∧ Cond.initialized (qx_y y).cls ∈ qx_gt ∧ ((qx_y y).cls ≠ "java/lang/invoke/MethodHandle" ∧ (qx_y y).cls ≠ "java/lang/invoke/VarHandle") :=
  ⟨(qx_cw1 y hy).elim (fun _ hi => qx_tb hi rfl), (qx_cw2 y hy).1, (qx_cw2 y hy).2.1, qx_tb (qx_cw3 y hy) rfl, (qx_cw2 y hy).2.2⟩
theorem qx_ow_ok {y ci N : Nat} {C : String} {T : u_T} (_ : y < qx_NM) (hci : ci = qx_ow y) (hc : qx_cs[ci]? = some (C, T, N)) : (qx_y y).cls = C := by
  obtain ⟨-, rfl, -, -⟩ := qx_cs_eq hc
  rw [hci]
  exact (qx_own y).symm
theorem qx_owk_ok {y ci a : Nat} {fs : List Value} (_ : y < qx_NM) (hci : ci = qx_ow y) (_ : qx_ko a = some (ci, fs)) : (qx_y y).cls = qx_kn ci := by
  rw [hci]
  exact (qx_own y).symm
def qx_mw (r : Nat × Nat × Nat × Nat × Nat × Nat) : Cond := if r.2.2.2.2.1 = 0 then .methodLink (qx_cn r.1) r.2.1 (qx_y r.2.2.1) else .methodLinkNest (qx_cn r.1) r.2.1 (qx_y r.2.2.1) qx_host
set_option maxRecDepth 100000 in
theorem qx_mr_ok : ∀ r ∈ qx_mr, r.2.2.1 < 188 ∧ tables_1[r.2.2.2.2.2]? = some (qx_mw r) := by decide +kernel
set_option maxRecDepth 100000 in
theorem qx_mr_np : ∀ r ∈ qx_mr, (parseMethodDescriptor (qx_y r.2.2.1).desc).map (fun d => d.parameters.length) = some r.2.2.2.1 := by decide +kernel
set_option maxRecDepth 100000 in
theorem qx_mr_nest : ∀ r ∈ qx_mr, ¬ r.2.2.2.2.1 = 0 → (qx_cn r.1, r.2.1, qx_y r.2.2.1) ∈ qx_kNM := by decide +kernel
theorem qx_mth_ok {m k y n : Nat} (h : qx_mth m k = some (y, n)) : y < qx_NM ∧ (parseMethodDescriptor (qx_y y).desc).map (fun d => d.parameters.length) = some n ∧ (Cond.methodLink (qx_y m).cls k (qx_y y) ∈ qx_gt ∨ ((qx_y m).cls, k, qx_y y) ∈ qx_kNM) := by
  unfold qx_mth at h
  split at h
  · rename_i r hr
    cases h
    have h1 := List.mem_of_find?_eq_some hr
    have h2 := List.find?_some hr
    simp only [Bool.and_eq_true, beq_iff_eq] at h2
    obtain ⟨h3, h4⟩ := qx_mr_ok r h1
    refine ⟨h3, qx_mr_np r h1, ?_⟩
    by_cases hn : r.2.2.2.2.1 = 0
    · unfold qx_mw at h4
      rw [if_pos hn, h2.1, h2.2, qx_own] at h4
      exact Or.inl (qx_tb h4 rfl)
    · have h5 := qx_mr_nest r h1 hn
      rw [h2.1, h2.2, qx_own] at h5
      exact Or.inr h5
  · cases h
theorem qx_ca_ok {m len y k : Nat} {i : Instr} {st : List Value} {h : List qx_E} (e : qx_ca m i len st h = some (y, k)) : y < qx_NM ∧ len = 3 ∧
    ((∃ ix nn, i = .invokevirtual ix ∧ k = nn + 1 ∧ ∃ recv, st[nn]? = some recv ∧ (∃ ci fs, qx_ob h recv = some (ci, fs) ∧ ci = qx_ow y) ∧ (Cond.methodLink (qx_y m).cls ix (qx_y y) ∈ qx_gt ∨ ((qx_y m).cls, ix, qx_y y) ∈ qx_kNM) ∧ Cond.instanceMethod (qx_y y) ∈ qx_gt ∧ Cond.selects (qx_y y).cls (qx_y y) (qx_y y) ∈ qx_gt ∧ (parseMethodDescriptor (qx_y y).desc).map (fun d => d.parameters.length) = some nn) ∨
     (∃ ix, i = .invokestatic ix ∧ (Cond.methodLink (qx_y m).cls ix (qx_y y) ∈ qx_gt ∨ ((qx_y m).cls, ix, qx_y y) ∈ qx_kNM) ∧ Cond.static (qx_y y) ∈ qx_gt ∧ (parseMethodDescriptor (qx_y y).desc).map (fun d => d.parameters.length) = some k) ∨
     (∃ ix nn, i = .invokespecial ix ∧ k = nn + 1 ∧ ∃ b, st[nn]? = some (.ref b) ∧ (Cond.methodLink (qx_y m).cls ix (qx_y y) ∈ qx_gt ∨ ((qx_y m).cls, ix, qx_y y) ∈ qx_kNM) ∧ Cond.instanceMethod (qx_y y) ∈ qx_gt ∧ (qx_y y).name = "<init>" ∧ qx_rt y = none ∧ (parseMethodDescriptor (qx_y y).desc).map (fun d => d.parameters.length) = some nn)) := by
  unfold qx_ca at e
  split at e
  · rename_i ix
    split at e
    · rename_i hlen
      split at e
      · rename_i y' n hm
        split at e
        · rename_i recv hr
          split at e
          · rename_i ci fs ho
            split at e
            · rename_i hci
              cases e
              obtain ⟨h1, h2, h3⟩ := qx_mth_ok hm
              exact ⟨h1, hlen, Or.inl ⟨ix, n, rfl, rfl, recv, hr, ⟨ci, fs, ho, hci.1⟩, h3, qx_tb ((qx_cw4 y h1).2 (by rw [hci.2]; decide)) rfl, qx_lb (qx_cw5 y h1 hci.2) rfl, h2⟩⟩
            · cases e
          · cases e
        · cases e
      · cases e
    · cases e
  · rename_i ix
    split at e
    · rename_i hlen
      split at e
      · rename_i y' n hm
        split at e
        · rename_i hkd
          cases e
          obtain ⟨h1, h2, h3⟩ := qx_mth_ok hm
          exact ⟨h1, hlen, Or.inr (Or.inl ⟨ix, rfl, h3, qx_tb ((qx_cw4 y h1).1 hkd) rfl, h2⟩)⟩
        · cases e
      · cases e
    · cases e
  · rename_i ix
    split at e
    · rename_i hlen
      split at e
      · rename_i y' n hm
        split at e
        · rename_i b hr
          split at e
          · rename_i hkd
            cases e
            obtain ⟨h1, h2, h3⟩ := qx_mth_ok hm
            exact ⟨h1, hlen, Or.inr (Or.inr ⟨ix, n, rfl, rfl, b, hr, h3, qx_tb ((qx_cw4 y h1).2 (by rw [hkd]; decide)) rfl, (qx_cw6 y h1 hkd).1, (qx_cw6 y h1 hkd).2, h2⟩)⟩
          · cases e
        · cases e
      · cases e
    · cases e
  · cases e
