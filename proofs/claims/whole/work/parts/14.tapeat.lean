theorem nb_01 {z : Int32} (h : z = 0 ∨ z = 1) : narrow .boolean (.int z) = .int z := by rcases h with rfl | rfl <;> rfl
/-- what is always so of a Tables -/
def tw (s : Nat → Int32) (a : Nat → Nat → Int32) : Prop := (∃ N p : Nat, N ≤ 480 ∧ p ≤ N ∧ s 1 = nI N ∧ s 2 = nI p) ∧ (∀ i, i < 3 → ∃ c : Nat, c ≤ 16 ∧ a 5 i = nI c) ∧ (∃ c : Nat, c ≤ 1 ∧ a 5 3 = nI c)
theorem in_sz {s : Nat → Int32} {a : Nat → Nat → Int32} {x : Int32} (hw : tw s a) (h1 : ¬ x < 0) (h2 : ¬ s 1 ≤ x) : qx_in x 480 = true := by
  obtain ⟨⟨N, p, hN, -, e, -⟩, -⟩ := hw
  obtain ⟨j, hj, rfl⟩ := nI_of h1
  rw [e] at h2
  refine qx_in_n ?_ (by decide)
  rcases Nat.lt_or_ge j N with q | q
  · omega
  · exact absurd (nI_le q hj) h2
def f_numberAt (s : Nat → Int32) (a : Nat → Nat → Int32) (x k : Int32) : Int64 := if x < 0 then 0 else if x ≤ s 1 - k then bu_n (a 0) x.toNatClampNeg k.toNatClampNeg else 0
theorem c_numAt {L : Nat} {xs : Nat → Int32} {d b : Nat} {h : List qx_E} {s : Nat → Int32} {a : Nat → Nat → Int32} {x y : Int32} (k : Nat) (hy : y = nI k) (hk : k ≤ 8) (hb : tb h b s a) (hw : tw s a) : qe_E L xs d 16 [.ref (b + 2), .int x, .int y] h (some (.long (f_numberAt s a x y))) h := by
  subst hy
  obtain ⟨⟨N, p, hN, -, e, -⟩, -⟩ := hw
  have h1 := c_numberAt (L := L) (xs := xs) (d := d) (x := x) (k := k) hb e hN hk
  have h2 : bu_g (a 0) N k x = f_numberAt s a x (nI k) := by
    unfold bu_g f_numberAt
    rw [e, nI_clamp (by omega)]
    by_cases c1 : x < 0
    · rw [if_neg (fun q => q.1 c1), if_pos c1]
    · rw [if_neg c1]
      by_cases c2 : x ≤ nI N - nI k
      · rw [if_pos ⟨c1, c2⟩, if_pos c2]
      · rw [if_neg (fun q => c2 q.2), if_neg c2]
  rw [← h2]
  exact h1
def f_u1At (s : Nat → Int32) (a : Nat → Nat → Int32) (x : Int32) : Int32 := (if x < 0 then 0 else (if (s 1) ≤ x then 0 else (((a 0) (x : Int32).toNatClampNeg) &&& 255)))
set_option maxRecDepth 100000 in
theorem c_u1At {L : Nat} {xs : Nat → Int32} {d : Nat} {h : List qx_E} {b : Nat} {s : Nat → Int32} {a : Nat → Nat → Int32} {x : Int32} (hb : tb h b s a) (hw : tw s a) : qe_E L xs d 27 [.ref (b + 2), .int x] h (some (.int (f_u1At s a x))) h := by
  show wp_W L xs _ 27 0 [(0, .ref (b + 2)), (1, .int x)] [] h _
  refine wp_iload_n dq_27_0 rfl ?_
  refine wp_if_lt (tgt := 25) dq_27_1 rfl (fun c1 => ?_) (fun c1 => ?_)
  · refine wp_iconst (x := 0) dq_27_25 rfl ?_
    exact wp_ire dq_27_26 rfl ⟨rfl, Or.inl rfl⟩ ⟨by rw [f_u1At, if_pos c1], rfl⟩
  · refine wp_iload_n dq_27_4 rfl ?_
    refine wp_aload_n dq_27_5 rfl ?_
    refine wp_getf dq_27_6 fl_27_15 (tb_c2 hb) rfl ?_
    refine wp_ic_ge (tgt := 25) dq_27_9 rfl (fun c2 => ?_) (fun c2 => ?_)
    · refine wp_iconst (x := 0) dq_27_25 rfl ?_
      exact wp_ire dq_27_26 rfl ⟨rfl, Or.inl rfl⟩ ⟨by rw [f_u1At, if_neg c1, if_pos c2], rfl⟩
    · refine wp_aload_n dq_27_12 rfl ?_
      refine wp_getf dq_27_13 fl_27_9 (tb_c2 hb) rfl ?_
      refine wp_iload_n dq_27_16 rfl ?_
      refine wp_bald dq_27_17 (tb_c3 hb) (in_sz hw c1 c2) ?_
      refine wp_sipush (x := 255) dq_27_18 rfl ?_
      refine wp_iand dq_27_21 ?_
      refine wp_goto (tgt := 26) dq_27_22 rfl ?_
      exact wp_ire dq_27_26 rfl ⟨rfl, Or.inl rfl⟩ ⟨by rw [f_u1At, if_neg c1, if_neg c2], rfl⟩

def f_u2At (s : Nat → Int32) (a : Nat → Nat → Int32) (x : Int32) : Int32 := ((f_numberAt s a x 2) : Int64).toInt32
set_option maxRecDepth 100000 in
theorem c_u2At {L : Nat} {xs : Nat → Int32} {d : Nat} {h : List qx_E} {b : Nat} {s : Nat → Int32} {a : Nat → Nat → Int32} {x : Int32} (hb : tb h b s a) (hw : tw s a) : qe_E L xs (d + 1) 54 [.ref (b + 2), .int x] h (some (.int (f_u2At s a x))) h := by
  show wp_W L xs _ 54 0 [(0, .ref (b + 2)), (1, .int x)] [] h _
  refine wp_aload_n dq_54_0 rfl ?_
  refine wp_iload_n dq_54_1 rfl ?_
  refine wp_iconst (x := 2) dq_54_2 rfl ?_
  refine wp_cve2 dq_54_3 mt_54_38 (ob_of (tb_c2 hb)) ⟨by decide +kernel, by decide +kernel⟩ (Nat.le_of_ble_eq_true rfl) (Nat.le_of_ble_eq_true rfl) (c_numAt 2 rfl (by decide) hb hw) ?_
  refine wp_l2i dq_54_6 ?_
  exact wp_ire dq_54_7 rfl ⟨rfl, Or.inl rfl⟩ ⟨by rw [f_u2At], rfl⟩

