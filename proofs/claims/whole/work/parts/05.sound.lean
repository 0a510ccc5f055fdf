/-! THE SMALL MACHINE AND THE REAL ONE. base: the heap's size at the law's start; cell k of the small heap stands at base + k; constant k at aK k. -/
def qx_cv (aK : Nat → Option Nat) (base : Nat) : Value → Value
  | .ref k => .ref (base + k)
  | .retAddr k => va_rf (aK k)
  | .int x => .int x
  | .long x => .long x
  | .float x => .float x
  | .double x => .double x
  | .null => .null
def qx_ce (cT : FieldType → ClassId) (aK : Nat → Option Nat) (base : Nat) : qx_E → va_E
  | .inl a => .inl (cT a.1, a.2.1, .inl a.2.2)
  | .inr o => .inr (o.1, o.2.map (qx_cv aK base))
def qx_cw (cT : FieldType → ClassId) (aK : Nat → Option Nat) (base : Nat) (h : List qx_E) : va_W := h.mapIdx (fun k c => (base + k, qx_ce cT aK base c))
def qx_cq (aK : Nat → Option Nat) (base : Nat) (q : Nat × Value) : Nat × Value := (q.1, qx_cv aK base q.2)
def qx_tys (cT : FieldType → ClassId) : List (ClassId × FieldType) := [(cT .int, .int), (cT .byte, .byte)]
def qx_slE : qx_E → Nat
  | .inl a => a.2.1
  | .inr o => qx_cN o.1
def qx_sl (h : List qx_E) : Nat := (h.map qx_slE).sum
section QXA
variable {cT : FieldType → ClassId} {aK : Nat → Option Nat} {base : Nat} {h : List qx_E}
theorem qx_cvk {k a : Nat} (e : aK k = some a) : qx_cv aK base (.retAddr k) = .ref a := by show va_rf (aK k) = _; rw [e]; rfl
theorem qx_cat (v : Value) : (qx_cv aK base v).category = v.category := by
  cases v
  case retAddr k =>
    show (va_rf (aK k)).category = 1
    cases aK k <;> rfl
  all_goals rfl
theorem qx_cw_at (k : Nat) : (qx_cw cT aK base h)[k]? = (h[k]?).map (fun c => (base + k, qx_ce cT aK base c)) := by simp [qx_cw]
theorem qx_cw_some {k : Nat} {c : qx_E} (e : h[k]? = some c) : (qx_cw cT aK base h)[k]? = some (base + k, qx_ce cT aK base c) := by rw [qx_cw_at, e]; rfl
theorem qx_cw_set (k : Nat) (c : qx_E) : (qx_cw cT aK base h).set k (base + k, qx_ce cT aK base c) = qx_cw cT aK base (h.set k c) := by
  simp [qx_cw, List.mapIdx_set]
theorem qx_cw_push (c : qx_E) : qx_cw cT aK base h ++ [(base + h.length, qx_ce cT aK base c)] = qx_cw cT aK base (h ++ [c]) := by
  simp [qx_cw, List.mapIdx_append]
theorem qx_cw_D : va_D (fun q => base ≤ q) (qx_cw cT aK base h) := by
  refine ⟨fun i j p q hi hj e => ?_, fun k q hk => ?_⟩
  · rw [qx_cw_at] at hi hj
    cases h1 : h[i]? <;> rw [h1] at hi <;> cases hi
    cases h2 : h[j]? <;> rw [h2] at hj <;> cases hj
    exact Nat.add_left_cancel e
  · rw [qx_cw_at] at hk
    cases h1 : h[k]? <;> rw [h1] at hk <;> cases hk
    exact Nat.le_add_right _ _
theorem qx_lk_mem {lv : qx_L} {i : Nat} {v : Value} (e : qx_lk lv i = some v) : (i, v) ∈ lv := by
  induction lv with
  | nil => cases e
  | cons a l ih =>
    obtain ⟨j, w⟩ := a
    unfold qx_lk at e
    split at e
    · rename_i hj
      subst hj
      cases e
      exact List.mem_cons_self
    · exact List.mem_cons_of_mem _ (ih e)
theorem qx_lk_at {lv : qx_L} {i nL : Nat} {v : Value} {ls : Array Slot} (e : qx_lk lv i = some v) (hl : lv_has ls nL (lv.map (qx_cq aK base))) : ls[i]? = some (.val (qx_cv aK base v)) :=
  hl.2.2 (i, qx_cv aK base v) (List.mem_map.mpr ⟨(i, v), qx_lk_mem e, rfl⟩)
theorem qx_ins_mem {i : Nat} {v : Value} {l : qx_L} {q : Nat × Value} (e : q ∈ qx_ins i v l) : q = (i, v) ∨ q ∈ l := by
  induction l with
  | nil => exact Or.inl (List.mem_singleton.mp e)
  | cons a l ih =>
    obtain ⟨j, w⟩ := a
    unfold qx_ins at e
    split at e
    · rcases List.mem_cons.mp e with e | e
      · exact Or.inl e
      · exact Or.inr e
    · rcases List.mem_cons.mp e with e | e
      · exact Or.inr (e ▸ List.mem_cons_self)
      · rcases ih e with e | e
        · exact Or.inl e
        · exact Or.inr (List.mem_cons_of_mem _ e)
theorem qx_has_sub {ls : Array Slot} {nL : Nat} {l l' : List (Nat × Value)} (hl : lv_has ls nL l) (hs : ∀ q ∈ l', q ∈ l) : lv_has ls nL l' := ⟨hl.1, hl.2.1, fun q hq => hl.2.2 q (hs q hq)⟩
theorem qx_st1_sub {lv : qx_L} {i : Nat} {v : Value} : ∀ q ∈ (qx_st1 lv i v).map (qx_cq aK base), q ∈ (i, qx_cv aK base v) :: (lv.map (qx_cq aK base)).filter (fun q => !(q.1 == i) && !(q.1 + 1 == i && q.2.category == 2)) := by
  intro q hq
  obtain ⟨q0, h0, rfl⟩ := List.mem_map.mp hq
  rcases qx_ins_mem h0 with rfl | h1
  · exact List.mem_cons_self
  · obtain ⟨h2, h3⟩ := List.mem_filter.mp h1
    refine List.mem_cons_of_mem _ (List.mem_filter.mpr ⟨List.mem_map.mpr ⟨q0, h2, rfl⟩, ?_⟩)
    simp only [qx_cq, qx_cat]
    exact h3
theorem qx_st2_sub {lv : qx_L} {i : Nat} {v : Value} : ∀ q ∈ (qx_st2 lv i v).map (qx_cq aK base), q ∈ (i, qx_cv aK base v) :: (lv.map (qx_cq aK base)).filter (fun q => !(q.1 == i) && (!(q.1 == i + 1) && !(q.1 + 1 == i && q.2.category == 2))) := by
  intro q hq
  obtain ⟨q0, h0, rfl⟩ := List.mem_map.mp hq
  rcases qx_ins_mem h0 with rfl | h1
  · exact List.mem_cons_self
  · obtain ⟨h2, h3⟩ := List.mem_filter.mp h1
    refine List.mem_cons_of_mem _ (List.mem_filter.mpr ⟨List.mem_map.mpr ⟨q0, h2, rfl⟩, ?_⟩)
    simp only [qx_cq, qx_cat]
    exact h3
theorem qx_sum_cat (r : List Value) : ((r.map (qx_cv aK base)).map fun v => v.category).sum = (r.map fun v => v.category).sum := by
  rw [List.map_map]
  congr 1
  exact List.map_congr_left fun v _ => qx_cat v
theorem qx_sl_set {k : Nat} {c c' : qx_E} (e : h[k]? = some c) (hs : qx_slE c' = qx_slE c) : qx_sl (h.set k c') = qx_sl h := by
  unfold qx_sl
  congr 1
  refine List.ext_getElem? fun i => ?_
  simp only [List.getElem?_map, List.getElem?_set]
  by_cases hi : k = i
  · subst hi
    rw [if_pos rfl, e]
    have hlt := (List.getElem?_eq_some_iff.mp e).1
    simp [hlt, hs]
  · rw [if_neg hi]
theorem qx_sl_push (c : qx_E) : qx_sl (h ++ [c]) = qx_sl h + qx_slE c := by simp [qx_sl]
end QXA
/-- the heap behind a step: the same, one cell changed, one cell more -/
def qx_hp (h h' : List qx_E) : Prop := h' = h ∨ (∃ k c c', h[k]? = some c ∧ qx_slE c' = qx_slE c ∧ h' = h.set k c') ∨ ∃ c, h' = h ++ [c]
theorem qx_hp_le {h h' : List qx_E} (e : qx_hp h h') : h.length ≤ h'.length ∧ qx_sl h ≤ qx_sl h' := by
  rcases e with rfl | ⟨k, c, c', e, hs, rfl⟩ | ⟨c, rfl⟩
  · exact ⟨Nat.le_refl _, Nat.le_refl _⟩
  · rw [qx_sl_set e hs, List.length_set]
    exact ⟨Nat.le_refl _, Nat.le_refl _⟩
  · rw [qx_sl_push]
    simp only [List.length_append, List.length_cons, List.length_nil]
    exact ⟨by omega, by omega⟩
/-- what is constant: the script (0), constant objects, constant arrays, statics, strings, links within the nest -/
def qx_KC (aK : Nat → Option Nat) (base L : Nat) (xs : Nat → Int32) (U : State) : Prop :=
  (∃ a, aK 0 = some a ∧ va_T .int a L (fun j => .int (xs j)) (fun q => base ≤ q) U U.heap) ∧
  (∀ k ci fs, qx_ko k = some (ci, fs) → ∃ a, aK k = some a ∧ va_O (qx_kn ci) a (fun q => base ≤ q) U U.heap ∧ ∀ j v, fs[j]? = some v → va_OF (qx_kT ci j).1 (qx_kT ci j).2.1 (qx_kT ci j).2.2.1 (qx_cv aK base v) a (fun q => base ≤ q) U U.heap) ∧
  (∀ k t n f, qx_ka (k + 1) = some (t, n, f) → ∃ a, aK (k + 1) = some a ∧ va_T t a n (fun j => qx_cv aK base (f j)) (fun q => base ≤ q) U U.heap) ∧
  (∀ q ∈ qx_kZ, va_Z q.1 q.2.1 q.2.2.1 (qx_cv aK base q.2.2.2) (fun q => base ≤ q) U U.heap) ∧
  (∀ q ∈ qx_kR, ∃ a, aK q.2.2.2 = some a ∧ vk_R q.1 q.2.1 q.2.2.1 a U) ∧
  (∀ q ∈ qx_kNF, va_Nw (.fieldLinkNest q.1 q.2.1 q.2.2.1 q.2.2.2.1 q.2.2.2.2 qx_host) U) ∧
  (∀ q ∈ qx_kNM, va_Nw (.methodLinkNest q.1 q.2.1 q.2.2 qx_host) U) ∧
  (∀ x, qx_en x = true → ∃ a, aK x = some a) ∧ (∀ x y, qx_en x = true → qx_en y = true → aK x = aK y → x = y)
theorem qx_KC.go {aK : Nat → Option Nat} {base L : Nat} {xs : Nat → Int32} {s U : State} {H : Heap} {locs : List Loc} (hk : qx_KC aK base L xs s) (hS : va_S (fun q => base ≤ q) s.heap H locs) (hU : U.heap = H) (hW : s.WarmedH U.vm) : qx_KC aK base L xs U := by
  obtain ⟨⟨a0, e0, k1⟩, k2, k3, k4, k5, k6, k7, k8⟩ := hk
  have ha := hW.alike
  have hq : ∀ a : Nat, a < s.heap.size → ¬ base ≤ a → U.heap[a]? = s.heap[a]? := fun a h1 h2 => by rw [hU]; exact hS.2.1 a h1 h2
  refine ⟨⟨a0, e0, (k1.kept hq).moved ha⟩, fun k ci fs e => ?_, fun k t n f e => ?_, fun q hm => ((k4 q hm).kept hq).moved ha, fun q hm => ?_, fun q hm => (k6 q hm).warmF hW, fun q hm => (k7 q hm).warmM hW, k8⟩
  · obtain ⟨a, e1, h1, h2⟩ := k2 k ci fs e
    exact ⟨a, e1, (h1.kept hq).moved ha, fun j v ev => ((h2 j v ev).kept hq).moved ha⟩
  · obtain ⟨a, e1, h1⟩ := k3 k t n f e
    exact ⟨a, e1, (h1.kept hq).moved ha⟩
  · obtain ⟨a, e1, h1⟩ := k5 q hm
    exact ⟨a, e1, h1.warm hW⟩
/-- what holds at a method's entry, for all of its body -/
def qx_C (p : Program) (s : State) (mI : MethodId) (args : Array Value) (meth : Method) (c : Code) (m : Nat) (D : va_G) (cT : FieldType → ClassId) (aK : Nat → Option Nat) (base L : Nat) (xs : Nat → Int32) : Prop :=
  p.tables.exec = Jvm.exec ∧ c.code = qx_code m ∧ c.maxLocals = qx_mL m ∧ meth.sig.returnType = qx_rt m ∧ s.vm.findClass (qx_y m).cls = some mI.cls ∧ (∀ w ∈ qx_gt, w.before args s = true) ∧ va_K D qx_cs (qx_tys cT) s ∧ meth.locks = false ∧ meth.name = (qx_y m).name ∧ qx_KC aK base L xs s
/-- the small heap and the real one -/
def qx_R (s : State) (D : va_G) (cT : FieldType → ClassId) (aK : Nat → Option Nat) (base n0 sl0 : Nat) (h : List qx_E) (H : Heap) (locs : List Loc) (cells slots : Nat) : Prop :=
  va_P D qx_cs (qx_cw cT aK base h) H ∧ va_S (fun q => base ≤ q) s.heap H locs ∧ s.heap.size = base + n0 ∧ n0 + cells = h.length ∧ sl0 + slots = qx_sl h
