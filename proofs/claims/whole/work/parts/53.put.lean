/-! THE CLASS, on Nats: bytes B, size n, place w of the last reading, mirror q -/
abbrev rQ : Type := (Nat → Nat) × Nat × (Nat → Nat) × Nat × rM
def MI (h : List qx_E) (b : Nat) (q : rQ) : Prop := ∃ s a, tb h b s a ∧ tc a ∧ tw s a ∧ QF q.1 q.2.1 q.2.2.1 s a ∧ MR a q.2.2.2.2 ∧ MV q.2.1 q.2.2.2.2 ∧ s 0 = nI q.2.2.2.1 ∧ q.2.2.2.1 + 8 ≤ q.2.1
def sfe (b : Nat) : Prop := 2 ≤ b ∧ (b + 10 < 13 ∨ 17 < b)
theorem sf_k {b k : Nat} (h : sfe b) (h1 : b ≤ k) (h2 : k ≤ b + 10) : (k < 13 ∨ 17 < k) ∧ 1 < k := by
  unfold sfe at h
  omega
theorem sf_0 {b k : Nat} (h : sfe b) (h1 : b ≤ k) (h2 : k ≤ b + 10) : 0 < k := by
  unfold sfe at h
  omega
def PM (h : List qx_E) (b : Nat) (mi : Value) (m : Option rQ) : Prop := match m with
  | none => mi = .null
  | some q => ∃ b' : Nat, mi = .ref b' ∧ MI h b' q ∧ sfe b' ∧ (b + 10 < b' ∨ b' + 10 < b)
def PB (f : Nat → Int32) (B : Nat → Nat) : Prop := (∀ j, j < 480 → f j &&& 255 = nI (B j) ∧ B j < 256) ∧ ∀ i, fits .byte (.int (f i)) = true
def PI (h : List qx_E) (B : Nat → Nat) (n : Nat) (w : Int32) (m : Option rQ) : Prop := ∃ f b s a mi, h[0]? = some (.inr (0, [.ref 1, .int (nI n), .int w, mi, .ref b])) ∧ h[1]? = some (.inl (.byte, 480, f)) ∧ PB f B ∧ n ≤ 480 ∧ tb h b s a ∧ tc a ∧ sfe b ∧ PM h b mi m
/-- the other object's cells are as they were -/
def SZ (h : List qx_E) : Prop := ∀ (k : Nat) (c : qx_E), h[k]? = some c → qx_slE c ≤ 500
def frM (h h' : List qx_E) : Prop := h.length ≤ h'.length ∧ h'.length ≤ h.length + 12 ∧ (SZ h → SZ h') ∧ ∀ k, 13 ≤ k → k ≤ 17 → h'[k]? = h[k]?
theorem SZ_2 {h h' : List qx_E} {l0 : List Value} {f : Nat → Int32} (h0 : h'[0]? = some (.inr (0, l0))) (h1 : h'[1]? = some (.inl (.byte, 480, f))) (e : ∀ q, 1 < q → h'[q]? = h[q]?) (hS : SZ h) : SZ h' := by
  intro k c hc
  rcases (show k = 0 ∨ k = 1 ∨ 1 < k by omega) with rfl | rfl | r
  · rw [h0] at hc
    cases hc
    exact Nat.le_of_ble_eq_true rfl
  · rw [h1] at hc
    cases hc
    exact (by decide : 480 ≤ 500)
  · rw [e k r] at hc
    exact hS k c hc
theorem tb_eq {h h' : List qx_E} {b : Nat} {s : Nat → Int32} {a : Nat → Nat → Int32} (e : ∀ k, b ≤ k → k ≤ b + 10 → h'[k]? = h[k]?) (hb : tb h b s a) : tb h' b s a := by
  obtain ⟨c0, c1, c2, c3, c4, c5, c6, c7, c8, c9, c10⟩ := hb
  exact ⟨(e _ (by omega) (by omega)).trans c0, (e _ (by omega) (by omega)).trans c1, (e _ (by omega) (by omega)).trans c2, (e _ (by omega) (by omega)).trans c3, (e _ (by omega) (by omega)).trans c4, (e _ (by omega) (by omega)).trans c5, (e _ (by omega) (by omega)).trans c6, (e _ (by omega) (by omega)).trans c7, (e _ (by omega) (by omega)).trans c8, (e _ (by omega) (by omega)).trans c9, (e _ (by omega) (by omega)).trans c10⟩
theorem tb_len {h : List qx_E} {b : Nat} {s : Nat → Int32} {a : Nat → Nat → Int32} (hb : tb h b s a) : b + 10 < h.length := (List.getElem?_eq_some_iff.mp (tb_c10 hb)).1
theorem MI_eq {h h' : List qx_E} {b : Nat} {q : rQ} (e : ∀ k, b ≤ k → k ≤ b + 10 → h'[k]? = h[k]?) (hm : MI h b q) : MI h' b q := by
  obtain ⟨s, a, hb, r⟩ := hm
  exact ⟨s, a, tb_eq e hb, r⟩
theorem PM_eq {h h' : List qx_E} {b : Nat} {mi : Value} {m : Option rQ} (e : ∀ b' : Nat, mi = .ref b' → sfe b' → (b + 10 < b' ∨ b' + 10 < b) → ∀ k, b' ≤ k → k ≤ b' + 10 → h'[k]? = h[k]?) (hm : PM h b mi m) : PM h' b mi m := by
  cases m with
  | none => exact hm
  | some q =>
    obtain ⟨b', e1, e2, e3, e4⟩ := hm
    exact ⟨b', e1, MI_eq (e b' e1 e3 e4) e2, e3, e4⟩
theorem PI_fr {h h' : List qx_E} {B : Nat → Nat} {n : Nat} {w : Int32} {m : Option rQ} (e : ∀ k, (k < 13 ∨ 17 < k) → h'[k]? = h[k]?) (hp : PI h B n w m) : PI h' B n w m := by
  obtain ⟨f, b, s, a, mi, p1, p2, p3, p4, p5, p6, p7, p8⟩ := hp
  refine ⟨f, b, s, a, mi, (e 0 (by decide)).trans p1, (e 1 (by decide)).trans p2, p3, p4, tb_eq (fun k h1 h2 => e k (sf_k p7 h1 h2).1) p5, p6, p7, PM_eq (fun b' _ h3 _ k h1 h2 => e k (sf_k h3 h1 h2).1) p8⟩
theorem bm_256 (x : Int) : Int.bmod x 256 % 256 = x % 256 := by
  unfold Int.bmod
  dsimp only
  split <;> omega
theorem bm_32 (x : Int) : Int.bmod x 4294967296 % 256 = x % 256 := by
  unfold Int.bmod
  dsimp only
  split <;> omega
def bv (v : Int64) (q : Nat) : Nat := ((v >>> lN q).toInt % 256).toNat
theorem bv_lt (v : Int64) (q : Nat) : bv v q < 256 := by
  unfold bv
  have := Int.emod_nonneg (v >>> lN q).toInt (show (256 : Int) ≠ 0 by decide)
  have := Int.emod_lt_of_pos (v >>> lN q).toInt (show (0 : Int) < 256 by decide)
  omega
theorem i8_and (x : Int32) : (x.toInt8.toInt32 &&& 255).toInt = x.toInt % 256 := by
  rw [Jvm.Kit.i32_mask x.toInt8.toInt32 255 (k := 8) (by decide) (by decide), Int8.toInt_toInt32, Int32.toInt_toInt8]
  exact bm_256 x.toInt
theorem pb_and (v : Int64) (q : Nat) : (v >>> lN q).toInt32.toInt8.toInt32 &&& 255 = nI (bv v q) := by
  apply Int32.toInt_inj.mp
  rw [i8_and, Int64.toInt_toInt32, nI_toInt (by have := bv_lt v q; omega)]
  unfold bv
  have := Int.emod_nonneg (v >>> lN q).toInt (show (256 : Int) ≠ 0 by decide)
  rw [show Int.bmod (v >>> lN q).toInt (2 ^ 32) % 256 = (v >>> lN q).toInt % 256 from bm_32 _]
  omega
def B_put (B : Nat → Nat) (n : Nat) (v : Int64) (k : Nat) : Nat → Nat := fun j => if n ≤ j ∧ j < n + k then bv v (8 * (k - 1 - (j - n))) else B j
set_option maxRecDepth 100000 in
theorem c_putL {L : Nat} {xs : Nat → Int32} {d n k : Nat} {w : Int32} {mi b9 : Value} {v : Int64} {f0 : Nat → Int32} {h0 : List qx_E} {Q : Option Value → List qx_E → Prop} (hk : 1 ≤ k ∧ k ≤ 8) (hn : n + k ≤ 480) : ∀ j i (h : List qx_E) (f : Nat → Int32), h[0]? = some (.inr (0, [.ref 1, .int (nI n), .int w, mi, b9])) → h[1]? = some (.inl (.byte, 480, f)) → (∀ q, f q = if n ≤ q ∧ q < n + i then (v >>> lN (8 * (k - 1 - (q - n)))).toInt32.toInt8.toInt32 else f0 q) → i + j = k → h.length = h0.length → (∀ q, 1 < q → h[q]? = h0[q]?) → (∀ h' f', h'[0]? = some (.inr (0, [.ref 1, .int (nI (n + k)), .int w, mi, b9])) → h'[1]? = some (.inl (.byte, 480, f')) → (∀ q, f' q = if n ≤ q ∧ q < n + k then (v >>> lN (8 * (k - 1 - (q - n)))).toInt32.toInt8.toInt32 else f0 q) → h'.length = h0.length → (∀ q, 1 < q → h'[q]? = h0[q]?) → Q (some (.int (nI (n + k)))) h') → wp_W L xs d 4 28 [(0, .ref 0), (1, .long v), (3, .int (nI k)), (4, .int (nI i))] [] h Q := by
  intro j
  induction j with
  | zero =>
    intro i h f ho h1 hf hi hl hr hK
    have hik : i = k := by omega
    subst hik
    refine wp_iload dq_4_28 rfl ?_
    refine wp_iload_n dq_4_30 rfl ?_
    refine wp_ic_ge (tgt := 65) dq_4_31 rfl (fun c1 => ?_) (fun c1 => absurd (nI_le (by omega) (by omega)) c1)
    refine wp_aload_n dq_4_65 rfl ?_
    refine wp_dup dq_4_66 rfl ?_
    refine wp_getf dq_4_67 fl_4_13 ho rfl ?_
    refine wp_iload_n dq_4_70 rfl ?_
    refine wp_iadd dq_4_71 ?_
    rw [nI_add]
    refine wp_putf dq_4_72 fp_4_13.1 ho ⟨Nat.le_of_ble_eq_true rfl, rfl, fp_4_13.2⟩ ?_
    refine wp_aload_n dq_4_75 rfl ?_
    refine wp_getf dq_4_76 fl_4_13 (st_eq ho) rfl ?_
    exact wp_ire dq_4_79 rfl ⟨rfl, Or.inl rfl⟩ (hK _ f (st_eq ho) ((List.getElem?_set_ne (by decide)).trans h1) hf (by rw [List.length_set]; exact hl) (fun q hq => (List.getElem?_set_ne (by omega)).trans (hr q hq)))
  | succ j ih =>
    intro i h f ho h1 hf hi hl hr hK
    refine wp_iload dq_4_28 rfl ?_
    refine wp_iload_n dq_4_30 rfl ?_
    refine wp_ic_ge (tgt := 65) dq_4_31 rfl (fun c1 => ?_) (fun c1 => ?_)
    · exact absurd c1 (nI_ge (by omega) (by omega))
    · refine wp_aload_n dq_4_34 rfl ?_
      refine wp_getf dq_4_35 fl_4_9 ho rfl ?_
      refine wp_aload_n dq_4_38 rfl ?_
      refine wp_getf dq_4_39 fl_4_13 ho rfl ?_
      refine wp_iload dq_4_42 rfl ?_
      refine wp_iadd dq_4_44 ?_
      rw [nI_add]
      refine wp_lload_n dq_4_45 rfl ?_
      refine wp_bipush (x := 8) dq_4_46 rfl ?_
      refine wp_iload_n dq_4_48 rfl ?_
      refine wp_iconst (x := 1) dq_4_49 rfl ?_
      refine wp_isub dq_4_50 ?_
      refine wp_iload dq_4_51 rfl ?_
      refine wp_isub dq_4_53 ?_
      refine wp_imul dq_4_54 ?_
      rw [show (1 : Int32) = nI 1 from rfl, pk_sub (show 1 ≤ k by omega), pk_sub (show i ≤ k - 1 by omega), show (8 : Int32) = nI 8 from rfl, pk_mul]
      refine wp_lshr dq_4_55 ?_
      rw [wb_c _ (show 8 * (k - 1 - i) < 64 by omega)]
      refine wp_l2i dq_4_56 ?_
      refine wp_i2b dq_4_57 ?_
      refine wp_bast dq_4_58 h1 (qx_in_n (show n + i < 480 by omega) (by decide)) ?_
      rw [pk_vb, nI_clamp (show n + i < 2 ^ 31 by omega)]
      refine wp_iinc (y := ((nI i) + 1)) (lv' := [(0, .ref 0), (1, .long v), (3, .int (nI k)), (4, .int ((nI i) + 1))]) dq_4_59 rfl rfl (by decide) rfl ?_
      refine wp_goto (tgt := 28) dq_4_62 rfl ?_
      rw [nI_1]
      refine ih (i + 1) _ _ ((List.getElem?_set_ne (by decide)).trans ho) (st_eq h1) (fun q => ?_) (by omega) (by rw [List.length_set]; exact hl) (fun q hq => (List.getElem?_set_ne (by omega)).trans (hr q hq)) hK
      by_cases hq : q = n + i
      · subst hq
        rw [pk_us, if_pos ⟨by omega, by omega⟩, Nat.add_sub_cancel_left]
      · rw [pk_un hq, hf q]
        by_cases c : n ≤ q ∧ q < n + i
        · rw [if_pos c, if_pos ⟨c.1, by omega⟩]
        · rw [if_neg c, if_neg (fun r => c ⟨r.1, by omega⟩)]
theorem put_k {x : Int32} (c1 : ¬ x < 1) (c2 : ¬ 8 < x) : ∃ k : Nat, (1 ≤ k ∧ k ≤ 8) ∧ x = nI k := by
  have h0 : ¬ x < 0 := fun r => c1 (Int32.lt_trans r (by decide))
  obtain ⟨k, hk, rfl⟩ := nI_of h0
  refine ⟨k, ⟨?_, ?_⟩, rfl⟩
  · rcases Nat.lt_or_ge k 1 with r | r
    · exact absurd (nI_lt (b := 1) r (by decide)) c1
    · exact r
  · rcases Nat.lt_or_ge 8 k with r | r
    · exact absurd (nI_lt (a := 8) r hk) c2
    · exact r
set_option maxRecDepth 100000 in
theorem c_putK {L : Nat} {xs : Nat → Int32} {d n : Nat} {w x : Int32} {mi b9 : Value} {v : Int64} {f : Nat → Int32} {h : List qx_E} {Q : Option Value → List qx_E → Prop} (hn : n ≤ 480) (ho : h[0]? = some (.inr (0, [.ref 1, .int (nI n), .int w, mi, b9]))) (h1 : h[1]? = some (.inl (.byte, 480, f))) (hN : (x < 1 ∨ 8 < x ∨ (¬ x < 1 ∧ ¬ 8 < x ∧ ¬ nI n + x ≤ 480)) → Q (some (.int (-1))) h) (hK : ∀ k h' f', x = nI k → (1 ≤ k ∧ k ≤ 8) → n + k ≤ 480 → h'[0]? = some (.inr (0, [.ref 1, .int (nI (n + k)), .int w, mi, b9])) → h'[1]? = some (.inl (.byte, 480, f')) → (∀ q, f' q = if n ≤ q ∧ q < n + k then (v >>> lN (8 * (k - 1 - (q - n)))).toInt32.toInt8.toInt32 else f q) → h'.length = h.length → (∀ q, 1 < q → h'[q]? = h[q]?) → Q (some (.int (nI (n + k)))) h') : wp_W L xs d 4 0 (lv_args 0 [.ref 0, .long v, .int x]) [] h Q := by
  show wp_W L xs _ 4 0 [(0, .ref 0), (1, .long v), (3, .int x)] [] h _
  refine wp_iload_n dq_4_0 rfl ?_
  refine wp_iconst (x := 1) dq_4_1 rfl ?_
  refine wp_ic_lt (tgt := 23) dq_4_2 rfl (fun c1 => ?_) (fun c1 => ?_)
  · refine wp_iconst (x := -1) dq_4_23 rfl ?_
    exact wp_ire dq_4_24 rfl ⟨rfl, Or.inl rfl⟩ (hN (Or.inl c1))
  · refine wp_iload_n dq_4_5 rfl ?_
    refine wp_bipush (x := 8) dq_4_6 rfl ?_
    refine wp_ic_gt (tgt := 23) dq_4_8 rfl (fun c2 => ?_) (fun c2 => ?_)
    · refine wp_iconst (x := -1) dq_4_23 rfl ?_
      exact wp_ire dq_4_24 rfl ⟨rfl, Or.inl rfl⟩ (hN (Or.inr (Or.inl c2)))
    · refine wp_aload_n dq_4_11 rfl ?_
      refine wp_getf dq_4_12 fl_4_13 ho rfl ?_
      refine wp_iload_n dq_4_15 rfl ?_
      refine wp_iadd dq_4_16 ?_
      refine wp_sipush (x := 480) dq_4_17 rfl ?_
      refine wp_ic_le (tgt := 25) dq_4_20 rfl (fun c3 => ?_) (fun c3 => ?_)
      · refine wp_iconst (x := 0) dq_4_25 rfl ?_
        refine wp_istore (lv' := [(0, .ref 0), (1, .long v), (3, .int x), (4, .int 0)]) dq_4_26 (by decide) rfl ?_
        obtain ⟨k, hk, hk2⟩ := put_k c1 c2
        subst hk2
        rw [nI_add] at c3
        have hnk : n + k ≤ 480 := by rcases Nat.lt_or_ge 480 (n + k) with r | r; exact absurd c3 (nI_ge (b := n + k) (a := 480) r (by omega)); exact r
        exact c_putL hk hnk k 0 h f ho h1 (fun q => by rw [if_neg (by omega)]) (by omega) rfl (fun _ _ => rfl) (fun h' f' a1 a2 a3 a4 a5 => hK k h' f' rfl hk hnk a1 a2 a3 a4 a5)
      · refine wp_iconst (x := -1) dq_4_23 rfl ?_
        exact wp_ire dq_4_24 rfl ⟨rfl, Or.inl rfl⟩ (hN (Or.inr (Or.inr ⟨c1, c2, c3⟩)))
/-- what put does -/
def s_put (n : Nat) (x : Int32) : Prop := ¬ (x < 1 ∨ 8 < x ∨ (¬ x < 1 ∧ ¬ 8 < x ∧ ¬ nI n + x ≤ 480))
theorem P_put {L : Nat} {xs : Nat → Int32} {d n : Nat} {w x : Int32} {v : Int64} {B : Nat → Nat} {mr : Option rQ} {h : List qx_E} (hP : PI h B n w mr) : wp_W L xs d 4 0 (lv_args 0 [.ref 0, .long v, .int x]) [] h (fun r h' => frM h h' ∧ ((¬ s_put n x ∧ r = some (.int (-1)) ∧ PI h' B n w mr) ∨ (s_put n x ∧ ∃ k : Nat, x = nI k ∧ 1 ≤ k ∧ k ≤ 8 ∧ n + k ≤ 480 ∧ r = some (.int (nI (n + k))) ∧ PI h' (B_put B n v k) (n + k) w mr))) := by
  obtain ⟨f, b, s, a, mi, p1, p2, p3, p4, p5, p6, p7, p8⟩ := id hP
  refine c_putK p4 p1 p2 (fun hr => ⟨⟨Nat.le_refl _, Nat.le_add_right _ _, id, fun _ _ _ => rfl⟩, Or.inl ⟨fun r => r hr, rfl, hP⟩⟩) (fun k h' f' hx hk hnk a1 a2 a3 a4 a5 => ⟨⟨by omega, by omega, SZ_2 a1 a2 a5, fun k h1 h2 => a5 k (by omega)⟩, Or.inr ⟨?_, k, hx, hk.1, hk.2, hnk, rfl, f', b, s, a, mi, a1, a2, ⟨fun j hj => ?_, fun i => ?_⟩, hnk, tb_eq (fun q h1 h2 => a5 q (sf_k p7 h1 h2).2) p5, p6, p7, PM_eq (fun b' _ h3 _ q h1 h2 => a5 q (sf_k h3 h1 h2).2) p8⟩⟩)
  · subst hx
    unfold s_put
    rw [nI_add]
    rintro (r | r | ⟨-, -, r⟩)
    · exact absurd r (nI_nlt (b := 1) hk.1 (by omega))
    · exact absurd r (nI_nlt (a := 8) hk.2 (by decide))
    · exact r (nI_le (b := 480) hnk (by decide))
  · rw [a3 j]
    show _ = nI (B_put B n v k j) ∧ B_put B n v k j < 256
    unfold B_put
    by_cases c : n ≤ j ∧ j < n + k
    · rw [if_pos c, if_pos c]
      exact ⟨pb_and _ _, bv_lt _ _⟩
    · rw [if_neg c, if_neg c]
      exact p3.1 j hj
  · rw [a3 i]
    split
    · exact pk_fb _
    · exact p3.2 i
set_option maxRecDepth 100000 in
theorem c_patchK {L : Nat} {xs : Nat → Int32} {d n : Nat} {w x z : Int32} {mi b9 : Value} {f : Nat → Int32} {h : List qx_E} {Q : Option Value → List qx_E → Prop} (hn : n ≤ 480) (ho : h[0]? = some (.inr (0, [.ref 1, .int (nI n), .int w, mi, b9]))) (h1 : h[1]? = some (.inl (.byte, 480, f))) (hN : (x < 0 ∨ nI n ≤ x ∨ z < 0 ∨ ¬ z ≤ 255) → Q (some (.int (-1))) h) (hK : ∀ p y : Nat, x = nI p → z = nI y → p < n → y < 256 → Q (some (.int (f p &&& 255))) (h.set 1 (.inl (.byte, 480, upd f p (nI y).toInt8.toInt32)))) : wp_W L xs d 5 0 (lv_args 0 [.ref 0, .int x, .int z]) [] h Q := by
  show wp_W L xs _ 5 0 [(0, .ref 0), (1, .int x), (2, .int z)] [] h _
  refine wp_iload_n dq_5_0 rfl ?_
  refine wp_if_lt (tgt := 23) dq_5_1 rfl (fun c1 => ?_) (fun c1 => ?_)
  · refine wp_iconst (x := -1) dq_5_23 rfl ?_
    exact wp_ire dq_5_24 rfl ⟨rfl, Or.inl rfl⟩ (hN (Or.inl c1))
  · refine wp_iload_n dq_5_4 rfl ?_
    refine wp_aload_n dq_5_5 rfl ?_
    refine wp_getf dq_5_6 fl_5_13 ho rfl ?_
    refine wp_ic_ge (tgt := 23) dq_5_9 rfl (fun c2 => ?_) (fun c2 => ?_)
    · refine wp_iconst (x := -1) dq_5_23 rfl ?_
      exact wp_ire dq_5_24 rfl ⟨rfl, Or.inl rfl⟩ (hN (Or.inr (Or.inl c2)))
    · refine wp_iload_n dq_5_12 rfl ?_
      refine wp_if_lt (tgt := 23) dq_5_13 rfl (fun c3 => ?_) (fun c3 => ?_)
      · refine wp_iconst (x := -1) dq_5_23 rfl ?_
        exact wp_ire dq_5_24 rfl ⟨rfl, Or.inl rfl⟩ (hN (Or.inr (Or.inr (Or.inl c3))))
      · refine wp_iload_n dq_5_16 rfl ?_
        refine wp_sipush (x := 255) dq_5_17 rfl ?_
        refine wp_ic_le (tgt := 25) dq_5_20 rfl (fun c4 => ?_) (fun c4 => ?_)
        · obtain ⟨p, hp9, rfl⟩ := nI_of c1
          have hp : p < n := by rcases Nat.lt_or_ge p n with r | r; exact r; exact absurd (nI_le r hp9) c2
          obtain ⟨y, hy9, rfl⟩ := nI_of c3
          have hy : y < 256 := by rcases Nat.lt_or_ge 255 y with r | r; exact absurd c4 (nI_ge (b := y) (a := 255) r hy9); omega
          refine wp_aload_n dq_5_25 rfl ?_
          refine wp_getf dq_5_26 fl_5_9 ho rfl ?_
          refine wp_iload_n dq_5_29 rfl ?_
          refine wp_bald dq_5_30 h1 (qx_in_n (show p < 480 by omega) (by decide)) ?_
          refine wp_sipush (x := 255) dq_5_31 rfl ?_
          refine wp_iand dq_5_34 ?_
          refine wp_istore_n (lv' := [(0, .ref 0), (1, .int (nI p)), (2, .int (nI y)), (3, .int ((f ((nI p) : Int32).toNatClampNeg) &&& 255))]) dq_5_35 (by decide) rfl ?_
          refine wp_aload_n dq_5_36 rfl ?_
          refine wp_getf dq_5_37 fl_5_9 ho rfl ?_
          refine wp_iload_n dq_5_40 rfl ?_
          refine wp_iload_n dq_5_41 rfl ?_
          refine wp_i2b dq_5_42 ?_
          refine wp_bast dq_5_43 h1 (qx_in_n (show p < 480 by omega) (by decide)) ?_
          rw [pk_vb, nI_clamp (show p < 2 ^ 31 by omega)]
          refine wp_iload_n dq_5_44 rfl ?_
          exact wp_ire dq_5_45 rfl ⟨rfl, Or.inl rfl⟩ (hK p y rfl rfl hp hy)
        · refine wp_iconst (x := -1) dq_5_23 rfl ?_
          exact wp_ire dq_5_24 rfl ⟨rfl, Or.inl rfl⟩ (hN (Or.inr (Or.inr (Or.inr c4))))
def s_pat (n : Nat) (x z : Int32) : Prop := ¬ (x < 0 ∨ nI n ≤ x ∨ z < 0 ∨ ¬ z ≤ 255)
theorem P_patch {L : Nat} {xs : Nat → Int32} {d n : Nat} {w x z : Int32} {B : Nat → Nat} {mr : Option rQ} {h : List qx_E} (hP : PI h B n w mr) : wp_W L xs d 5 0 (lv_args 0 [.ref 0, .int x, .int z]) [] h (fun r h' => frM h h' ∧ ((¬ s_pat n x z ∧ r = some (.int (-1)) ∧ PI h' B n w mr) ∨ (s_pat n x z ∧ ∃ p y : Nat, x = nI p ∧ z = nI y ∧ p < n ∧ y < 256 ∧ r = some (.int (nI (B p))) ∧ PI h' (updN B p y) n w mr))) := by
  obtain ⟨f, b, s, a, mi, p1, p2, p3, p4, p5, p6, p7, p8⟩ := id hP
  refine c_patchK p4 p1 p2 (fun hr => ⟨⟨Nat.le_refl _, Nat.le_add_right _ _, id, fun _ _ _ => rfl⟩, Or.inl ⟨fun r => r hr, rfl, hP⟩⟩) (fun p y hx hz hp hy => ?_)
  have e : ∀ q, 1 < q → (h.set 1 (.inl (.byte, 480, upd f p (nI y).toInt8.toInt32)))[q]? = h[q]? := fun q hq => List.getElem?_set_ne (by omega)
  refine ⟨⟨by rw [List.length_set]; exact Nat.le_refl _, by rw [List.length_set]; exact Nat.le_add_right _ _, SZ_2 ((List.getElem?_set_ne (by decide)).trans p1) (st_eq p2) e, fun k h1 h2 => e k (by omega)⟩, Or.inr ⟨?_, p, y, hx, hz, hp, hy, ?_, _, b, s, a, mi, (List.getElem?_set_ne (by decide)).trans p1, st_eq p2, ⟨fun j hj => ?_, fun i => ?_⟩, p4, tb_eq (fun q h1 h2 => e q (sf_k p7 h1 h2).2) p5, p6, p7, PM_eq (fun b' _ h3 _ q h1 h2 => e q (sf_k h3 h1 h2).2) p8⟩⟩
  · subst hx hz
    rintro (r | r | r | r)
    · exact absurd r (nI_pos (by omega))
    · exact absurd r (nI_ge hp (by omega))
    · exact absurd r (nI_pos (by omega))
    · exact r (nI_le (b := 255) (by omega) (by decide))
  · rw [(p3.1 p (by omega)).1]
  · by_cases c : j = p
    · subst c
      rw [pk_us, updN_s]
      refine ⟨?_, hy⟩
      apply Int32.toInt_inj.mp
      rw [i8_and, nI_toInt (by omega)]
      omega
    · rw [pk_un c, updN_n c]
      exact p3.1 j hj
  · by_cases c : i = p
    · subst c
      rw [pk_us]
      exact pk_fb _
    · rw [pk_un c]
      exact p3.2 i
set_option maxRecDepth 100000 in
theorem P_drop {L : Nat} {xs : Nat → Int32} {d n : Nat} {w : Int32} {B : Nat → Nat} {mr : Option rQ} {h : List qx_E} (hP : PI h B n w mr) : wp_W L xs d 6 0 (lv_args 0 [.ref 0]) [] h (fun r h' => frM h h' ∧ r = some (.int (nI n)) ∧ PI h' B 0 w mr) := by
  obtain ⟨f, b, s, a, mi, p1, p2, p3, p4, p5, p6, p7, p8⟩ := id hP
  show wp_W L xs _ 6 0 [(0, .ref 0)] [] h _
  refine wp_aload_n dq_6_0 rfl ?_
  refine wp_getf dq_6_1 fl_6_13 p1 rfl ?_
  refine wp_istore_n (lv' := [(0, .ref 0), (1, .int (nI n))]) dq_6_4 (by decide) rfl ?_
  refine wp_aload_n dq_6_5 rfl ?_
  refine wp_iconst (x := 0) dq_6_6 rfl ?_
  refine wp_putf dq_6_7 fp_6_13.1 p1 ⟨Nat.le_of_ble_eq_true rfl, rfl, fp_6_13.2⟩ ?_
  refine wp_iload_n dq_6_10 rfl ?_
  have e : ∀ q, 0 < q → (h.set 0 (.inr (0, [.ref 1, .int (nI n), .int w, mi, .ref b].set 1 (.int 0))))[q]? = h[q]? := fun q hq => List.getElem?_set_ne (by omega)
  exact wp_ire dq_6_11 rfl ⟨rfl, Or.inl rfl⟩ ⟨⟨by rw [List.length_set]; exact Nat.le_refl _, by rw [List.length_set]; exact Nat.le_add_right _ _, SZ_2 (st_eq p1) ((e 1 (by decide)).trans p2) (fun q hq => e q (by omega)), fun k h1 h2 => e k (by omega)⟩, rfl, f, b, s, a, mi, st_eq p1, (e 1 (by decide)).trans p2, p3, Nat.zero_le _, tb_eq (fun q h1 h2 => e q (sf_0 p7 h1 h2)) p5, p6, p7, PM_eq (fun b' _ h3 _ q h1 h2 => e q (sf_0 h3 h1 h2)) p8⟩
set_option maxRecDepth 100000 in
theorem P_place {L : Nat} {xs : Nat → Int32} {d n : Nat} {w : Int32} {B : Nat → Nat} {mr : Option rQ} {h : List qx_E} (hP : PI h B n w mr) : qe_E L xs d 106 [.ref 0] h (some (.int w)) h := by
  obtain ⟨f, b, s, a, mi, p1, p2, p3, p4, p5, p6, p7, p8⟩ := id hP
  show wp_W L xs _ 106 0 [(0, .ref 0)] [] h _
  refine wp_aload_n dq_106_0 rfl ?_
  refine wp_getf dq_106_1 fl_106_17 p1 rfl ?_
  exact wp_ire dq_106_4 rfl ⟨rfl, Or.inl rfl⟩ ⟨rfl, rfl⟩
