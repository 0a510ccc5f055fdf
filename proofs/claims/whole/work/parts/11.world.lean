/-! ONE Tables WITH ITS Pool AND Tape, at handles b to b + 10. s: 0 flagsPlace, 1 size, 2 at, 3 code, 4 wrongPlace; a: 0 row, 1 tags, 2 places, 3 lengths, 4 shapes, 5 counts, 6 namePlaces, 7 contents -/
def tb (h : List qx_E) (b : Nat) (s : Nat → Int32) (a : Nat → Nat → Int32) : Prop :=
  h[b]? = some (.inr (1, [.ref (b + 1), .ref (b + 2), .int (s 0), .ref (b + 8), .ref (b + 9), .ref (b + 10)])) ∧
  h[b + 1]? = some (.inr (2, [.ref (b + 2), .ref (b + 4), .ref (b + 5), .ref (b + 6), .ref (b + 7)])) ∧
  h[b + 2]? = some (.inr (3, [.ref (b + 3), .int (s 1), .int (s 2), .int (s 3), .int (s 4)])) ∧
  h[b + 3]? = some (.inl (.byte, 480, a 0)) ∧
  h[b + 4]? = some (.inl (.int, 64, a 1)) ∧
  h[b + 5]? = some (.inl (.int, 64, a 2)) ∧
  h[b + 6]? = some (.inl (.int, 64, a 3)) ∧
  h[b + 7]? = some (.inl (.int, 64, a 4)) ∧
  h[b + 8]? = some (.inl (.int, 4, a 5)) ∧
  h[b + 9]? = some (.inl (.int, 49, a 6)) ∧
  h[b + 10]? = some (.inl (.int, 441, a 7))
/-- nothing but those cells has changed -/
def fr (b : Nat) (h h' : List qx_E) : Prop := h'.length = h.length ∧ ∀ k, (k < b ∨ b + 10 < k) → h'[k]? = h[k]?
def tb_ua (a : Nat → Nat → Int32) (i j : Nat) (x : Int32) : Nat → Nat → Int32 := fun k => if k = i then upd (a i) j x else a k
def tb_va (a : Nat → Nat → Int32) (i : Nat) (f : Nat → Int32) : Nat → Nat → Int32 := fun k => if k = i then f else a k
theorem fr_rf {b : Nat} {h : List qx_E} : fr b h h := ⟨rfl, fun _ _ => rfl⟩
theorem fr_tr {b : Nat} {h h1 h2 : List qx_E} (e1 : fr b h h1) (e2 : fr b h1 h2) : fr b h h2 := ⟨e2.1.trans e1.1, fun k hk => (e2.2 k hk).trans (e1.2 k hk)⟩
theorem fr_set {b k : Nat} {h0 h : List qx_E} {c : qx_E} (e : fr b h0 h) (h1 : b ≤ k) (h2 : k ≤ b + 10) : fr b h0 (h.set k c) := ⟨by rw [List.length_set]; exact e.1, fun q hq => by rw [List.getElem?_set_ne (by omega)]; exact e.2 q hq⟩
theorem ob_of {h : List qx_E} {k : Nat} {o : Nat × List Value} (e : h[k]? = some (.inr o)) : qx_ob h (.ref k) = some o := by unfold qx_ob; simp only [e]
theorem st_eq {h : List qx_E} {k : Nat} {c c' : qx_E} (e : h[k]? = some c) : (h.set k c')[k]? = some c' := by rw [List.getElem?_set_self ((List.getElem?_eq_some_iff.mp e).1)]
theorem st_ne {h : List qx_E} {j k : Nat} {c c' : qx_E} (e : h[k]? = some c) (hn : j ≠ k) : (h.set j c')[k]? = some c := by rw [List.getElem?_set_ne hn]; exact e
section TB
variable {h h0 : List qx_E} {b : Nat} {s : Nat → Int32} {a : Nat → Nat → Int32}
theorem tb_c0 (hb : tb h b s a) : h[b]? = some (.inr (1, [.ref (b + 1), .ref (b + 2), .int (s 0), .ref (b + 8), .ref (b + 9), .ref (b + 10)])) := hb.1
theorem tb_c1 (hb : tb h b s a) : h[b + 1]? = some (.inr (2, [.ref (b + 2), .ref (b + 4), .ref (b + 5), .ref (b + 6), .ref (b + 7)])) := hb.2.1
theorem tb_c2 (hb : tb h b s a) : h[b + 2]? = some (.inr (3, [.ref (b + 3), .int (s 1), .int (s 2), .int (s 3), .int (s 4)])) := hb.2.2.1
theorem tb_c3 (hb : tb h b s a) : h[b + 3]? = some (.inl (.byte, 480, a 0)) := hb.2.2.2.1
theorem tb_c4 (hb : tb h b s a) : h[b + 4]? = some (.inl (.int, 64, a 1)) := hb.2.2.2.2.1
theorem tb_c5 (hb : tb h b s a) : h[b + 5]? = some (.inl (.int, 64, a 2)) := hb.2.2.2.2.2.1
theorem tb_c6 (hb : tb h b s a) : h[b + 6]? = some (.inl (.int, 64, a 3)) := hb.2.2.2.2.2.2.1
theorem tb_c7 (hb : tb h b s a) : h[b + 7]? = some (.inl (.int, 64, a 4)) := hb.2.2.2.2.2.2.2.1
theorem tb_c8 (hb : tb h b s a) : h[b + 8]? = some (.inl (.int, 4, a 5)) := hb.2.2.2.2.2.2.2.2.1
theorem tb_c9 (hb : tb h b s a) : h[b + 9]? = some (.inl (.int, 49, a 6)) := hb.2.2.2.2.2.2.2.2.2.1
theorem tb_c10 (hb : tb h b s a) : h[b + 10]? = some (.inl (.int, 441, a 7)) := hb.2.2.2.2.2.2.2.2.2.2
theorem tb_q0 (hb : tb h b s a) (x : Int32) : tb (h.set b (.inr (1, [.ref (b + 1), .ref (b + 2), .int (s 0), .ref (b + 8), .ref (b + 9), .ref (b + 10)].set 2 (.int x)))) b (upd s 0 x) a := by
  obtain ⟨c0, c1, c2, c3, c4, c5, c6, c7, c8, c9, c10⟩ := hb
  exact ⟨st_eq c0, st_ne c1 (by omega), st_ne c2 (by omega), st_ne c3 (by omega), st_ne c4 (by omega), st_ne c5 (by omega), st_ne c6 (by omega), st_ne c7 (by omega), st_ne c8 (by omega), st_ne c9 (by omega), st_ne c10 (by omega)⟩
theorem tb_q1 (hb : tb h b s a) (x : Int32) : tb (h.set (b + 2) (.inr (3, [.ref (b + 3), .int (s 1), .int (s 2), .int (s 3), .int (s 4)].set 1 (.int x)))) b (upd s 1 x) a := by
  obtain ⟨c0, c1, c2, c3, c4, c5, c6, c7, c8, c9, c10⟩ := hb
  exact ⟨st_ne c0 (by omega), st_ne c1 (by omega), st_eq c2, st_ne c3 (by omega), st_ne c4 (by omega), st_ne c5 (by omega), st_ne c6 (by omega), st_ne c7 (by omega), st_ne c8 (by omega), st_ne c9 (by omega), st_ne c10 (by omega)⟩
theorem tb_q2 (hb : tb h b s a) (x : Int32) : tb (h.set (b + 2) (.inr (3, [.ref (b + 3), .int (s 1), .int (s 2), .int (s 3), .int (s 4)].set 2 (.int x)))) b (upd s 2 x) a := by
  obtain ⟨c0, c1, c2, c3, c4, c5, c6, c7, c8, c9, c10⟩ := hb
  exact ⟨st_ne c0 (by omega), st_ne c1 (by omega), st_eq c2, st_ne c3 (by omega), st_ne c4 (by omega), st_ne c5 (by omega), st_ne c6 (by omega), st_ne c7 (by omega), st_ne c8 (by omega), st_ne c9 (by omega), st_ne c10 (by omega)⟩
theorem tb_q3 (hb : tb h b s a) (x : Int32) : tb (h.set (b + 2) (.inr (3, [.ref (b + 3), .int (s 1), .int (s 2), .int (s 3), .int (s 4)].set 3 (.int x)))) b (upd s 3 x) a := by
  obtain ⟨c0, c1, c2, c3, c4, c5, c6, c7, c8, c9, c10⟩ := hb
  exact ⟨st_ne c0 (by omega), st_ne c1 (by omega), st_eq c2, st_ne c3 (by omega), st_ne c4 (by omega), st_ne c5 (by omega), st_ne c6 (by omega), st_ne c7 (by omega), st_ne c8 (by omega), st_ne c9 (by omega), st_ne c10 (by omega)⟩
theorem tb_q4 (hb : tb h b s a) (x : Int32) : tb (h.set (b + 2) (.inr (3, [.ref (b + 3), .int (s 1), .int (s 2), .int (s 3), .int (s 4)].set 4 (.int x)))) b (upd s 4 x) a := by
  obtain ⟨c0, c1, c2, c3, c4, c5, c6, c7, c8, c9, c10⟩ := hb
  exact ⟨st_ne c0 (by omega), st_ne c1 (by omega), st_eq c2, st_ne c3 (by omega), st_ne c4 (by omega), st_ne c5 (by omega), st_ne c6 (by omega), st_ne c7 (by omega), st_ne c8 (by omega), st_ne c9 (by omega), st_ne c10 (by omega)⟩
theorem tb_w0 (hb : tb h b s a) (f : Nat → Int32) : tb (h.set (b + 3) (.inl (.byte, 480, f))) b s (tb_va a 0 f) := by
  obtain ⟨c0, c1, c2, c3, c4, c5, c6, c7, c8, c9, c10⟩ := hb
  exact ⟨st_ne c0 (by omega), st_ne c1 (by omega), st_ne c2 (by omega), st_eq c3, st_ne c4 (by omega), st_ne c5 (by omega), st_ne c6 (by omega), st_ne c7 (by omega), st_ne c8 (by omega), st_ne c9 (by omega), st_ne c10 (by omega)⟩
theorem tb_w1 (hb : tb h b s a) (f : Nat → Int32) : tb (h.set (b + 4) (.inl (.int, 64, f))) b s (tb_va a 1 f) := by
  obtain ⟨c0, c1, c2, c3, c4, c5, c6, c7, c8, c9, c10⟩ := hb
  exact ⟨st_ne c0 (by omega), st_ne c1 (by omega), st_ne c2 (by omega), st_ne c3 (by omega), st_eq c4, st_ne c5 (by omega), st_ne c6 (by omega), st_ne c7 (by omega), st_ne c8 (by omega), st_ne c9 (by omega), st_ne c10 (by omega)⟩
theorem tb_w2 (hb : tb h b s a) (f : Nat → Int32) : tb (h.set (b + 5) (.inl (.int, 64, f))) b s (tb_va a 2 f) := by
  obtain ⟨c0, c1, c2, c3, c4, c5, c6, c7, c8, c9, c10⟩ := hb
  exact ⟨st_ne c0 (by omega), st_ne c1 (by omega), st_ne c2 (by omega), st_ne c3 (by omega), st_ne c4 (by omega), st_eq c5, st_ne c6 (by omega), st_ne c7 (by omega), st_ne c8 (by omega), st_ne c9 (by omega), st_ne c10 (by omega)⟩
theorem tb_w3 (hb : tb h b s a) (f : Nat → Int32) : tb (h.set (b + 6) (.inl (.int, 64, f))) b s (tb_va a 3 f) := by
  obtain ⟨c0, c1, c2, c3, c4, c5, c6, c7, c8, c9, c10⟩ := hb
  exact ⟨st_ne c0 (by omega), st_ne c1 (by omega), st_ne c2 (by omega), st_ne c3 (by omega), st_ne c4 (by omega), st_ne c5 (by omega), st_eq c6, st_ne c7 (by omega), st_ne c8 (by omega), st_ne c9 (by omega), st_ne c10 (by omega)⟩
theorem tb_w4 (hb : tb h b s a) (f : Nat → Int32) : tb (h.set (b + 7) (.inl (.int, 64, f))) b s (tb_va a 4 f) := by
  obtain ⟨c0, c1, c2, c3, c4, c5, c6, c7, c8, c9, c10⟩ := hb
  exact ⟨st_ne c0 (by omega), st_ne c1 (by omega), st_ne c2 (by omega), st_ne c3 (by omega), st_ne c4 (by omega), st_ne c5 (by omega), st_ne c6 (by omega), st_eq c7, st_ne c8 (by omega), st_ne c9 (by omega), st_ne c10 (by omega)⟩
theorem tb_w5 (hb : tb h b s a) (f : Nat → Int32) : tb (h.set (b + 8) (.inl (.int, 4, f))) b s (tb_va a 5 f) := by
  obtain ⟨c0, c1, c2, c3, c4, c5, c6, c7, c8, c9, c10⟩ := hb
  exact ⟨st_ne c0 (by omega), st_ne c1 (by omega), st_ne c2 (by omega), st_ne c3 (by omega), st_ne c4 (by omega), st_ne c5 (by omega), st_ne c6 (by omega), st_ne c7 (by omega), st_eq c8, st_ne c9 (by omega), st_ne c10 (by omega)⟩
theorem tb_w6 (hb : tb h b s a) (f : Nat → Int32) : tb (h.set (b + 9) (.inl (.int, 49, f))) b s (tb_va a 6 f) := by
  obtain ⟨c0, c1, c2, c3, c4, c5, c6, c7, c8, c9, c10⟩ := hb
  exact ⟨st_ne c0 (by omega), st_ne c1 (by omega), st_ne c2 (by omega), st_ne c3 (by omega), st_ne c4 (by omega), st_ne c5 (by omega), st_ne c6 (by omega), st_ne c7 (by omega), st_ne c8 (by omega), st_eq c9, st_ne c10 (by omega)⟩
theorem tb_w7 (hb : tb h b s a) (f : Nat → Int32) : tb (h.set (b + 10) (.inl (.int, 441, f))) b s (tb_va a 7 f) := by
  obtain ⟨c0, c1, c2, c3, c4, c5, c6, c7, c8, c9, c10⟩ := hb
  exact ⟨st_ne c0 (by omega), st_ne c1 (by omega), st_ne c2 (by omega), st_ne c3 (by omega), st_ne c4 (by omega), st_ne c5 (by omega), st_ne c6 (by omega), st_ne c7 (by omega), st_ne c8 (by omega), st_ne c9 (by omega), st_eq c10⟩
end TB
section TBW
variable {L : Nat} {xs : Nat → Int32} {d m pc k b : Nat} {lv : qx_L} {r : List Value} {h h0 : List qx_E} {Q : Option Value → List qx_E → Prop} {s : Nat → Int32} {a : Nat → Nat → Int32} {x y : Int32}
theorem wp_p0 (hd : decode (qx_code m) pc = .ok (.putfield k, 3)) (hf : qx_fld m k = some (1, 2) ∧ qx_pok m k = true) (hb : tb h b s a) (hr : fr b h0 h) (kk : ∀ h', tb h' b (upd s 0 x) a → fr b h0 h' → wp_W L xs d m (pc + 3) lv r h' Q) : wp_W L xs d m pc lv (.int x :: .ref b :: r) h Q := wp_putf hd hf.1 (tb_c0 hb) ⟨Nat.le_of_ble_eq_true rfl, rfl, hf.2⟩ (kk _ (tb_q0 hb x) (fr_set hr (by omega) (by omega)))
theorem wp_p1 (hd : decode (qx_code m) pc = .ok (.putfield k, 3)) (hf : qx_fld m k = some (3, 1) ∧ qx_pok m k = true) (hb : tb h b s a) (hr : fr b h0 h) (kk : ∀ h', tb h' b (upd s 1 x) a → fr b h0 h' → wp_W L xs d m (pc + 3) lv r h' Q) : wp_W L xs d m pc lv (.int x :: .ref (b + 2) :: r) h Q := wp_putf hd hf.1 (tb_c2 hb) ⟨Nat.le_of_ble_eq_true rfl, rfl, hf.2⟩ (kk _ (tb_q1 hb x) (fr_set hr (by omega) (by omega)))
theorem wp_p2 (hd : decode (qx_code m) pc = .ok (.putfield k, 3)) (hf : qx_fld m k = some (3, 2) ∧ qx_pok m k = true) (hb : tb h b s a) (hr : fr b h0 h) (kk : ∀ h', tb h' b (upd s 2 x) a → fr b h0 h' → wp_W L xs d m (pc + 3) lv r h' Q) : wp_W L xs d m pc lv (.int x :: .ref (b + 2) :: r) h Q := wp_putf hd hf.1 (tb_c2 hb) ⟨Nat.le_of_ble_eq_true rfl, rfl, hf.2⟩ (kk _ (tb_q2 hb x) (fr_set hr (by omega) (by omega)))
theorem wp_p3 (hd : decode (qx_code m) pc = .ok (.putfield k, 3)) (hf : qx_fld m k = some (3, 3) ∧ qx_pok m k = true) (hb : tb h b s a) (hr : fr b h0 h) (kk : ∀ h', tb h' b (upd s 3 x) a → fr b h0 h' → wp_W L xs d m (pc + 3) lv r h' Q) : wp_W L xs d m pc lv (.int x :: .ref (b + 2) :: r) h Q := wp_putf hd hf.1 (tb_c2 hb) ⟨Nat.le_of_ble_eq_true rfl, rfl, hf.2⟩ (kk _ (tb_q3 hb x) (fr_set hr (by omega) (by omega)))
theorem wp_p4 (hd : decode (qx_code m) pc = .ok (.putfield k, 3)) (hf : qx_fld m k = some (3, 4) ∧ qx_pok m k = true) (hb : tb h b s a) (hr : fr b h0 h) (kk : ∀ h', tb h' b (upd s 4 x) a → fr b h0 h' → wp_W L xs d m (pc + 3) lv r h' Q) : wp_W L xs d m pc lv (.int x :: .ref (b + 2) :: r) h Q := wp_putf hd hf.1 (tb_c2 hb) ⟨Nat.le_of_ble_eq_true rfl, rfl, hf.2⟩ (kk _ (tb_q4 hb x) (fr_set hr (by omega) (by omega)))
theorem wp_a1 (hd : decode (qx_code m) pc = .ok (.iastore, 1)) (hx : qx_in y 64 = true) (hb : tb h b s a) (hr : fr b h0 h) (kk : ∀ h', tb h' b s (tb_va a 1 (upd (a 1) y.toNatClampNeg x)) → fr b h0 h' → wp_W L xs d m (pc + 1) lv r h' Q) : wp_W L xs d m pc lv (.int x :: .int y :: .ref (b + 4) :: r) h Q := wp_iast hd (tb_c4 hb) hx (kk _ (tb_w1 hb _) (fr_set hr (by omega) (by omega)))
theorem wp_a2 (hd : decode (qx_code m) pc = .ok (.iastore, 1)) (hx : qx_in y 64 = true) (hb : tb h b s a) (hr : fr b h0 h) (kk : ∀ h', tb h' b s (tb_va a 2 (upd (a 2) y.toNatClampNeg x)) → fr b h0 h' → wp_W L xs d m (pc + 1) lv r h' Q) : wp_W L xs d m pc lv (.int x :: .int y :: .ref (b + 5) :: r) h Q := wp_iast hd (tb_c5 hb) hx (kk _ (tb_w2 hb _) (fr_set hr (by omega) (by omega)))
theorem wp_a3 (hd : decode (qx_code m) pc = .ok (.iastore, 1)) (hx : qx_in y 64 = true) (hb : tb h b s a) (hr : fr b h0 h) (kk : ∀ h', tb h' b s (tb_va a 3 (upd (a 3) y.toNatClampNeg x)) → fr b h0 h' → wp_W L xs d m (pc + 1) lv r h' Q) : wp_W L xs d m pc lv (.int x :: .int y :: .ref (b + 6) :: r) h Q := wp_iast hd (tb_c6 hb) hx (kk _ (tb_w3 hb _) (fr_set hr (by omega) (by omega)))
theorem wp_a4 (hd : decode (qx_code m) pc = .ok (.iastore, 1)) (hx : qx_in y 64 = true) (hb : tb h b s a) (hr : fr b h0 h) (kk : ∀ h', tb h' b s (tb_va a 4 (upd (a 4) y.toNatClampNeg x)) → fr b h0 h' → wp_W L xs d m (pc + 1) lv r h' Q) : wp_W L xs d m pc lv (.int x :: .int y :: .ref (b + 7) :: r) h Q := wp_iast hd (tb_c7 hb) hx (kk _ (tb_w4 hb _) (fr_set hr (by omega) (by omega)))
theorem wp_a5 (hd : decode (qx_code m) pc = .ok (.iastore, 1)) (hx : qx_in y 4 = true) (hb : tb h b s a) (hr : fr b h0 h) (kk : ∀ h', tb h' b s (tb_va a 5 (upd (a 5) y.toNatClampNeg x)) → fr b h0 h' → wp_W L xs d m (pc + 1) lv r h' Q) : wp_W L xs d m pc lv (.int x :: .int y :: .ref (b + 8) :: r) h Q := wp_iast hd (tb_c8 hb) hx (kk _ (tb_w5 hb _) (fr_set hr (by omega) (by omega)))
theorem wp_a6 (hd : decode (qx_code m) pc = .ok (.iastore, 1)) (hx : qx_in y 49 = true) (hb : tb h b s a) (hr : fr b h0 h) (kk : ∀ h', tb h' b s (tb_va a 6 (upd (a 6) y.toNatClampNeg x)) → fr b h0 h' → wp_W L xs d m (pc + 1) lv r h' Q) : wp_W L xs d m pc lv (.int x :: .int y :: .ref (b + 9) :: r) h Q := wp_iast hd (tb_c9 hb) hx (kk _ (tb_w6 hb _) (fr_set hr (by omega) (by omega)))
theorem wp_a7 (hd : decode (qx_code m) pc = .ok (.iastore, 1)) (hx : qx_in y 441 = true) (hb : tb h b s a) (hr : fr b h0 h) (kk : ∀ h', tb h' b s (tb_va a 7 (upd (a 7) y.toNatClampNeg x)) → fr b h0 h' → wp_W L xs d m (pc + 1) lv r h' Q) : wp_W L xs d m pc lv (.int x :: .int y :: .ref (b + 10) :: r) h Q := wp_iast hd (tb_c10 hb) hx (kk _ (tb_w7 hb _) (fr_set hr (by omega) (by omega)))
end TBW
