theorem i64_byte (v : Int64) (k : Nat) : ((v >>> lN k) &&& lN 255).toInt32 = nI (bv v k) := by
  apply Int32.toInt_inj.mp
  rw [Int64.toInt_toInt32, nI_toInt (by have := bv_lt v k; omega)]
  have h1 : ((v >>> lN k) &&& lN 255).toInt = (v >>> lN k).toInt % 256 := Jvm.Kit.i64_mask (v >>> lN k) (lN 255) (k := 8) (by decide) (by decide)
  rw [h1]
  have h2 := Int.emod_nonneg (v >>> lN k).toInt (show (256 : Int) ≠ 0 by decide)
  have h3 := Int.emod_lt_of_pos (v >>> lN k).toInt (show (0 : Int) < 256 by decide)
  unfold bv
  rw [Int.bmod_eq_of_le (by omega) (by omega)]
  omega
set_option maxRecDepth 100000 in
theorem c_mputL {L : Nat} {xs : Nat → Int32} {d : Nat} {h0 : List qx_E} {Q : Option Value → List qx_E → Prop} {fb fc fd : Nat → Int32} {v : Int64} {n k : Nat} {B : Nat → Nat} {s5 : Nat → Int32} (hk : 1 ≤ k ∧ k ≤ 8) (hn : n + k ≤ 480) : ∀ j s fa (h : List qx_E), mw h s fa fb fc fd → frR h0 h → j ≤ k → s 0 = nI (n + (k - j)) → (∀ i, 1 ≤ i → s i = s5 i) → (∀ q, q < 480 → fa q = nI (if n ≤ q ∧ q < n + (k - j) then bv v (8 * (k - 1 - (q - n))) else B q)) → (∀ h' s' fa', mw h' s' fa' fb fc fd → frR h0 h' → s' 0 = nI (n + k) → (∀ i, 1 ≤ i → s' i = s5 i) → (∀ q, q < 480 → fa' q = nI (B_put B n v k q)) → Q (some (.int (nI (n + k)))) h') → ∀ x : Int32, (j = 0 → x = -1) → (∀ j', j = j' + 1 → x = nI j') → wp_W L xs d 123 30 [(0, .ref 13), (1, .long v), (3, .int (nI k)), (4, .int x)] [] h Q := by
  intro j
  induction j with
  | zero =>
    intro s fa h hb hf hj h0 h5 hB hK x hx0 _
    rw [hx0 rfl]
    rw [Nat.sub_zero] at h0
    have ho := mw_0 hb
    rw [h0] at ho
    refine wp_iload dq_123_30 rfl ?_
    refine wp_if_lt (tgt := 72) dq_123_32 rfl (fun c1 => ?_) (fun c1 => absurd (by decide) c1)
    refine wp_aload_n dq_123_72 rfl ?_
    refine wp_getf (w := .int (nI (n + k))) dq_123_73 fl_123_26 ho rfl ?_
    exact wp_ire dq_123_76 rfl ⟨rfl, Or.inl rfl⟩ (hK h s fa hb hf h0 h5 (fun q hq => by rw [hB q hq, Nat.sub_zero]; rfl))
  | succ j ih =>
    intro s fa h hb hf hj h0 h5 hB hK x _ hx
    rw [hx j rfl]
    have ho := mw_0 hb
    rw [h0] at ho
    refine wp_iload dq_123_30 rfl ?_
    refine wp_if_ltN (tgt := 72) dq_123_32 rfl (by omega) (fun c1 => absurd c1 (by omega)) (fun c1 => ?_)
    refine wp_aload_n dq_123_35 rfl ?_
    refine wp_getf (w := .ref 14) dq_123_36 fl_123_7 (mw_0 hb) rfl ?_
    refine wp_aload_n dq_123_39 rfl ?_
    refine wp_getf (w := .int (nI (n + (k - (j + 1))))) dq_123_40 fl_123_26 ho rfl ?_
    refine wp_lload_n dq_123_43 rfl ?_
    refine wp_bipush (x := nI 8) dq_123_44 rfl ?_
    refine wp_iload dq_123_46 rfl ?_
    refine wp_imulN dq_123_48 ?_
    refine wp_lshr dq_123_49 ?_
    rw [wb_c _ (show 8 * j < 64 by omega)]
    refine wp_ldc2 (v := lN 255) dq_123_50 (by decide +kernel) ?_
    refine wp_land dq_123_53 ?_
    refine wp_l2i dq_123_54 ?_
    rw [i64_byte]
    refine wp_n0 dq_123_55 (by omega) hb hf (fun h hb hf => ?_)
    clear ho
    have ho := mw_0 hb
    rw [h0] at ho
    refine wp_aload_n dq_123_56 rfl ?_
    refine wp_dup dq_123_57 rfl ?_
    refine wp_getf (w := .int (nI (n + (k - (j + 1))))) dq_123_58 fl_123_26 ho rfl ?_
    refine wp_iconst (x := nI 1) dq_123_61 rfl ?_
    refine wp_iaddN dq_123_62 ?_
    refine wp_m0 dq_123_63 fp_123_26 hb hf (fun h hb hf => ?_)
    refine wp_iinc (y := nI j + (-1)) (lv' := [(0, .ref 13), (1, .long v), (3, .int (nI k)), (4, .int (nI j + (-1)))]) dq_123_66 rfl rfl (by decide) rfl ?_
    refine wp_goto (tgt := 30) dq_123_69 rfl ?_
    refine ih _ _ h hb hf (by omega) ?_ (fun i hi => ?_) (fun q hq => ?_) hK _ (fun r => by rw [r]; rfl) (fun j' r => by rw [r, pk_m1])
    · show nI (n + (k - (j + 1)) + 1) = _
      rw [show n + (k - (j + 1)) + 1 = n + (k - j) by omega]
    · rw [pk_un (by omega)]
      exact h5 i hi
    · by_cases e : q = n + (k - (j + 1))
      · rw [e, pk_us, if_pos ⟨by omega, by omega⟩, show k - 1 - (n + (k - (j + 1)) - n) = j by omega]
      · rw [pk_un e, hB q hq]
        by_cases c : n ≤ q ∧ q < n + (k - (j + 1))
        · rw [if_pos c, if_pos ⟨c.1, by omega⟩]
        · rw [if_neg c, if_neg (fun r => c ⟨r.1, by omega⟩)]
set_option maxRecDepth 100000 in
theorem R_put {L : Nat} {xs : Nat → Int32} {d n : Nat} {w x : Int32} {v : Int64} {B : Nat → Nat} {mr : Option rQ} {h : List qx_E} (hR : RI h B n w mr) : wp_W L xs d 123 0 (lv_args 0 [.ref 13, .long v, .int x]) [] h (fun r h' => frR h h' ∧ ((¬ s_put n x ∧ r = some (.int (-1)) ∧ RI h' B n w mr) ∨ (s_put n x ∧ ∃ k : Nat, x = nI k ∧ 1 ≤ k ∧ k ≤ 8 ∧ n + k ≤ 480 ∧ r = some (.int (nI (n + k))) ∧ RI h' (B_put B n v k) (n + k) w mr))) := by
  obtain ⟨s, fa, fb, fc, fd, hb, hn, h0, h5, hB, hm⟩ := id hR
  have ho := mw_0 hb
  rw [h0] at ho
  have hN : (x < 1 ∨ 8 < x ∨ (¬ x < 1 ∧ ¬ 8 < x ∧ ¬ nI n + x ≤ 480)) → wp_W L xs d 123 23 [(0, .ref 13), (1, .long v), (3, .int x)] [] h (fun r h' => frR h h' ∧ ((¬ s_put n x ∧ r = some (.int (-1)) ∧ RI h' B n w mr) ∨ (s_put n x ∧ ∃ k : Nat, x = nI k ∧ 1 ≤ k ∧ k ≤ 8 ∧ n + k ≤ 480 ∧ r = some (.int (nI (n + k))) ∧ RI h' (B_put B n v k) (n + k) w mr))) := fun hr => by
    refine wp_iconst (x := -1) dq_123_23 rfl ?_
    exact wp_ire dq_123_24 rfl ⟨rfl, Or.inl rfl⟩ ⟨rr_rf, Or.inl ⟨fun r => r hr, rfl, hR⟩⟩
  show wp_W L xs _ 123 0 [(0, .ref 13), (1, .long v), (3, .int x)] [] h _
  refine wp_iload_n dq_123_0 rfl ?_
  refine wp_iconst (x := 1) dq_123_1 rfl ?_
  refine wp_ic_lt (tgt := 23) dq_123_2 rfl (fun c1 => hN (Or.inl c1)) (fun c1 => ?_)
  refine wp_iload_n dq_123_5 rfl ?_
  refine wp_bipush (x := 8) dq_123_6 rfl ?_
  refine wp_ic_gt (tgt := 23) dq_123_8 rfl (fun c2 => hN (Or.inr (Or.inl c2))) (fun c2 => ?_)
  refine wp_aload_n dq_123_11 rfl ?_
  refine wp_getf (w := .int (nI n)) dq_123_12 fl_123_26 ho rfl ?_
  refine wp_iload_n dq_123_15 rfl ?_
  refine wp_iadd dq_123_16 ?_
  refine wp_sipush (x := 480) dq_123_17 rfl ?_
  refine wp_ic_le (tgt := 25) dq_123_20 rfl (fun c3 => ?_) (fun c3 => hN (Or.inr (Or.inr ⟨c1, c2, c3⟩)))
  have hsp : s_put n x := by
    rintro (r | r | ⟨-, -, r⟩)
    · exact c1 r
    · exact c2 r
    · exact r c3
  obtain ⟨k, hk, hk2⟩ := put_k c1 c2
  subst hk2
  rw [nI_add] at c3
  have hnk : n + k ≤ 480 := by
    rcases Nat.lt_or_ge 480 (n + k) with r | r
    · exact absurd c3 (nI_ge (b := n + k) (a := 480) r (by omega))
    · exact r
  refine wp_iload_n dq_123_25 rfl ?_
  refine wp_iconst (x := nI 1) dq_123_26 rfl ?_
  refine wp_isubN dq_123_27 (by omega) ?_
  refine wp_istore (lv' := [(0, .ref 13), (1, .long v), (3, .int (nI k)), (4, .int (nI (k - 1)))]) dq_123_28 (by decide) rfl ?_
  refine c_mputL (B := B) (s5 := s) hk hnk k s fa h hb rr_rf (Nat.le_refl k) (by rw [Nat.sub_self]; exact h0) (fun _ _ => rfl) (fun q hq => by rw [Nat.sub_self, if_neg (by omega)]; exact (hB q hq).1) (fun h' s' fa' k1 k2 k3 k4 k5 => ⟨k2, Or.inr ⟨hsp, k, rfl, hk.1, hk.2, hnk, rfl, s', fa', fb, fc, fd, k1, hnk, k3, (k4 5 (by decide)).trans h5, fun i hi => ⟨k5 i hi, ?_⟩, RMI_s hm (k4 1 (by decide))⟩⟩) (nI (k - 1)) (fun r => by omega) (fun j' r => by rw [show k - 1 = j' by omega])
  unfold B_put
  split
  · exact bv_lt _ _
  · exact (hB i hi).2
set_option maxRecDepth 100000 in
theorem R_patch {L : Nat} {xs : Nat → Int32} {d n : Nat} {w x y0 : Int32} {B : Nat → Nat} {mr : Option rQ} {h : List qx_E} (hR : RI h B n w mr) : wp_W L xs d 124 0 (lv_args 0 [.ref 13, .int x, .int y0]) [] h (fun r h' => frR h h' ∧ ((¬ s_pat n x y0 ∧ r = some (.int (-1)) ∧ RI h' B n w mr) ∨ (s_pat n x y0 ∧ ∃ p y : Nat, x = nI p ∧ y0 = nI y ∧ p < n ∧ y < 256 ∧ r = some (.int (nI (B p))) ∧ RI h' (updN B p y) n w mr))) := by
  obtain ⟨s, fa, fb, fc, fd, hb, hn, h0, h5, hB, hm⟩ := id hR
  have ho := mw_0 hb
  rw [h0] at ho
  have hN : (x < 0 ∨ nI n ≤ x ∨ y0 < 0 ∨ ¬ y0 ≤ 255) → wp_W L xs d 124 23 [(0, .ref 13), (1, .int x), (2, .int y0)] [] h (fun r h' => frR h h' ∧ ((¬ s_pat n x y0 ∧ r = some (.int (-1)) ∧ RI h' B n w mr) ∨ (s_pat n x y0 ∧ ∃ p y : Nat, x = nI p ∧ y0 = nI y ∧ p < n ∧ y < 256 ∧ r = some (.int (nI (B p))) ∧ RI h' (updN B p y) n w mr))) := fun hr => by
    refine wp_iconst (x := -1) dq_124_23 rfl ?_
    exact wp_ire dq_124_24 rfl ⟨rfl, Or.inl rfl⟩ ⟨rr_rf, Or.inl ⟨fun r => r hr, rfl, hR⟩⟩
  show wp_W L xs _ 124 0 [(0, .ref 13), (1, .int x), (2, .int y0)] [] h _
  refine wp_iload_n dq_124_0 rfl ?_
  refine wp_if_lt (tgt := 23) dq_124_1 rfl (fun c1 => hN (Or.inl c1)) (fun c1 => ?_)
  refine wp_iload_n dq_124_4 rfl ?_
  refine wp_aload_n dq_124_5 rfl ?_
  refine wp_getf (w := .int (nI n)) dq_124_6 fl_124_26 ho rfl ?_
  refine wp_ic_ge (tgt := 23) dq_124_9 rfl (fun c2 => hN (Or.inr (Or.inl c2))) (fun c2 => ?_)
  refine wp_iload_n dq_124_12 rfl ?_
  refine wp_if_lt (tgt := 23) dq_124_13 rfl (fun c3 => hN (Or.inr (Or.inr (Or.inl c3)))) (fun c3 => ?_)
  refine wp_iload_n dq_124_16 rfl ?_
  refine wp_sipush (x := 255) dq_124_17 rfl ?_
  refine wp_ic_le (tgt := 25) dq_124_20 rfl (fun c4 => ?_) (fun c4 => hN (Or.inr (Or.inr (Or.inr c4))))
  have hsp : s_pat n x y0 := by
    rintro (r | r | r | r)
    · exact c1 r
    · exact c2 r
    · exact c3 r
    · exact r c4
  obtain ⟨p, hp9, rfl⟩ := nI_of c1
  have hp : p < n := by
    rcases Nat.lt_or_ge p n with r | r
    · exact r
    · exact absurd (nI_le r hp9) c2
  obtain ⟨y, hy9, rfl⟩ := nI_of c3
  have hy : y < 256 := by
    rcases Nat.lt_or_ge 255 y with r | r
    · exact absurd c4 (nI_ge (b := y) (a := 255) r hy9)
    · omega
  refine wp_aload_n dq_124_25 rfl ?_
  refine wp_getf (w := .ref 14) dq_124_26 fl_124_7 (mw_0 hb) rfl ?_
  refine wp_iload_n dq_124_29 rfl ?_
  refine wp_ialdV dq_124_30 (mw_1 hb) (by omega) (by decide) (hB p (by omega)).1 ?_
  refine wp_istore_n (lv' := [(0, .ref 13), (1, .int (nI p)), (2, .int (nI y)), (3, .int (nI (B p)))]) dq_124_31 (by decide) rfl ?_
  refine wp_aload_n dq_124_32 rfl ?_
  refine wp_getf (w := .ref 14) dq_124_33 fl_124_7 (mw_0 hb) rfl ?_
  refine wp_iload_n dq_124_36 rfl ?_
  refine wp_iload_n dq_124_37 rfl ?_
  refine wp_n0 dq_124_38 (by omega) hb rr_rf (fun h' hb hf => ?_)
  refine wp_iload_n dq_124_39 rfl ?_
  refine wp_ire dq_124_40 rfl ⟨rfl, Or.inl rfl⟩ ⟨hf, Or.inr ⟨hsp, p, y, rfl, rfl, hp, hy, rfl, s, _, fb, fc, fd, hb, hn, h0, h5, fun i hi => ?_, hm⟩⟩
  by_cases c : i = p
  · subst c
    rw [pk_us, updN_s]
    exact ⟨rfl, hy⟩
  · rw [pk_un c, updN_n c]
    exact hB i hi
set_option maxRecDepth 100000 in
theorem R_drop {L : Nat} {xs : Nat → Int32} {d n : Nat} {w : Int32} {B : Nat → Nat} {mr : Option rQ} {h : List qx_E} (hR : RI h B n w mr) : wp_W L xs d 125 0 (lv_args 0 [.ref 13]) [] h (fun r h' => frR h h' ∧ r = some (.int (nI n)) ∧ RI h' B 0 w mr) := by
  obtain ⟨s, fa, fb, fc, fd, hb, hn, h0, h5, hB, hm⟩ := id hR
  have ho := mw_0 hb
  rw [h0] at ho
  show wp_W L xs _ 125 0 [(0, .ref 13)] [] h _
  refine wp_aload_n dq_125_0 rfl ?_
  refine wp_getf (w := .int (nI n)) dq_125_1 fl_125_26 ho rfl ?_
  refine wp_istore_n (lv' := [(0, .ref 13), (1, .int (nI n))]) dq_125_4 (by decide) rfl ?_
  refine wp_aload_n dq_125_5 rfl ?_
  refine wp_iconst (x := nI 0) dq_125_6 rfl ?_
  refine wp_m0 dq_125_7 fp_125_26 hb rr_rf (fun h' hb hf => ?_)
  refine wp_iload_n dq_125_10 rfl ?_
  exact wp_ire dq_125_11 rfl ⟨rfl, Or.inl rfl⟩ ⟨hf, rfl, _, fa, fb, fc, fd, hb, Nat.zero_le _, rfl, h5, hB, RMI_s hm rfl⟩
set_option maxRecDepth 100000 in
theorem R_place {L : Nat} {xs : Nat → Int32} {d n : Nat} {w : Int32} {B : Nat → Nat} {mr : Option rQ} {h : List qx_E} (hR : RI h B n w mr) : qe_E L xs d 173 [.ref 13] h (some (.int w)) h := by
  obtain ⟨s, fa, fb, fc, fd, hb, hn, h0, h5, hB, hm⟩ := id hR
  subst h5
  show wp_W L xs _ 173 0 [(0, .ref 13)] [] h _
  refine wp_aload_n dq_173_0 rfl ?_
  refine wp_getf (w := .int (s 5)) dq_173_1 fl_173_22 (mw_0 hb) rfl ?_
  exact wp_ire dq_173_4 rfl ⟨rfl, Or.inl rfl⟩ ⟨rfl, rfl⟩
