/-! the numbers that bytes spell -/
def bu_U (B : Nat → Nat) (p : Nat) : Nat → Nat
  | 0 => 0
  | k + 1 => bu_U B p k * 256 + B (p + k)
def bu_n (f : Nat → Int32) (p : Nat) : Nat → Int64
  | 0 => 0
  | k + 1 => (bu_n f p k <<< ((8 : Int32).toInt64 &&& 63)) ||| (f (p + k) &&& 255).toInt64
theorem bu_lt {B : Nat → Nat} {p k : Nat} (hB : ∀ j, j < k → B (p + j) < 256) : bu_U B p k < 256 ^ k := by
  induction k with
  | zero => exact Nat.lt_succ_self 0
  | succ k ih =>
    have h1 := ih (fun j hj => hB j (by omega))
    have h2 := hB k (by omega)
    have h3 : 256 ^ (k + 1) = 256 ^ k * 256 := Nat.pow_succ 256 k
    show bu_U B p k * 256 + B (p + k) < 256 ^ (k + 1)
    omega
theorem bu_eq {f : Nat → Int32} {B : Nat → Nat} {p k : Nat} (hk : k ≤ 8) (hB : ∀ j, j < k → f (p + j) &&& 255 = nI (B (p + j)) ∧ B (p + j) < 256) : bu_n f p k = lN (bu_U B p k) := by
  induction k with
  | zero => rfl
  | succ k ih =>
    have h1 := ih (by omega) (fun j hj => hB j (by omega))
    obtain ⟨h2, h3⟩ := hB k (by omega)
    have h4 := bu_lt (B := B) (p := p) (k := k) (fun j hj => (hB j (by omega)).2)
    have h5 : 256 ^ k ≤ 256 ^ 7 := Nat.pow_le_pow_right (by decide) (by omega)
    have h6 : (256 : Nat) ^ 7 = 72057594037927936 := by decide
    show (bu_n f p k <<< ((8 : Int32).toInt64 &&& 63)) ||| (f (p + k) &&& 255).toInt64 = lN (bu_U B p k * 256 + B (p + k))
    rw [h1, h2, nI_l (by omega)]
    have h7 : lN (bu_U B p k) <<< ((8 : Int32).toInt64 &&& 63) = lN (bu_U B p k * 256) := wb_shl (bu_U B p k) (k := 8) (by decide)
    rw [h7]
    exact g_or (k := 8) (p := 256) (by decide) h3 (by omega)
set_option maxRecDepth 100000 in
theorem c_isSound {L : Nat} {xs : Nat → Int32} {d b : Nat} {h : List qx_E} {s : Nat → Int32} {a : Nat → Nat → Int32} (hb : tb h b s a) : qe_E L xs d 20 [.ref (b + 2)] h (some (.int (if s 3 = 0 then 1 else 0))) h := by
  refine wp_aload_n dq_20_0 rfl ?_
  refine wp_getf dq_20_1 fl_20_22 (tb_c2 hb) rfl ?_
  refine wp_if_ne (tgt := 11) dq_20_4 rfl (fun c1 => ?_) (fun c1 => ?_)
  · refine wp_iconst (x := 0) dq_20_11 rfl ?_
    exact wp_ire dq_20_12 rfl ⟨by decide, Or.inr (Or.inl rfl)⟩ ⟨by rw [if_neg c1], rfl⟩
  · refine wp_iconst (x := 1) dq_20_7 rfl ?_
    refine wp_goto (tgt := 12) dq_20_8 rfl ?_
    exact wp_ire dq_20_12 rfl ⟨by decide, Or.inr (Or.inl rfl)⟩ ⟨by rw [if_pos c1], rfl⟩
set_option maxRecDepth 100000 in
theorem c_want0 {L : Nat} {xs : Nat → Int32} {d b : Nat} {h : List qx_E} {s : Nat → Int32} {a : Nat → Nat → Int32} {z f p : Int32} (hb : tb h b s a) : wp_W L xs d 15 0 (lv_args 0 [.ref (b + 2), .int z, .int f, .int p]) [] h (fun v h' => v = none ∧ tb h' b (if z = 0 ∧ s 3 = 0 then upd (upd s 3 f) 4 p else s) a ∧ fr b h h') := by
  have hf : fr b h h := fr_rf
  show wp_W L xs d 15 0 [(0, .ref (b + 2)), (1, .int z), (2, .int f), (3, .int p)] [] h _
  refine wp_iload_n dq_15_0 rfl ?_
  refine wp_if_ne (tgt := 21) dq_15_1 rfl (fun c1 => ?_) (fun c1 => ?_)
  · exact wp_vre dq_15_21 rfl ⟨rfl, by first | (rw [if_pos (by simp_all)]; exact hb) | (rw [if_neg (by simp_all)]; exact hb), hf⟩
  · refine wp_aload_n dq_15_4 rfl ?_
    refine wp_getf dq_15_5 fl_15_22 (tb_c2 hb) rfl ?_
    refine wp_if_ne (tgt := 21) dq_15_8 rfl (fun c2 => ?_) (fun c2 => ?_)
    · exact wp_vre dq_15_21 rfl ⟨rfl, by first | (rw [if_pos (by simp_all)]; exact hb) | (rw [if_neg (by simp_all)]; exact hb), hf⟩
    · refine wp_aload_n dq_15_11 rfl ?_
      refine wp_iload_n dq_15_12 rfl ?_
      refine wp_p3 dq_15_13 fp_15_22 hb hf (fun h hb hf => ?_)
      refine wp_aload_n dq_15_16 rfl ?_
      refine wp_iload_n dq_15_17 rfl ?_
      refine wp_p4 dq_15_18 fp_15_25 hb hf (fun h hb hf => ?_)
      exact wp_vre dq_15_21 rfl ⟨rfl, by first | (rw [if_pos (by simp_all)]; exact hb) | (rw [if_neg (by simp_all)]; exact hb), hf⟩
set_option maxRecDepth 100000 in
theorem c_numberAtL {L : Nat} {xs : Nat → Int32} {d b : Nat} {h : List qx_E} {s : Nat → Int32} {a : Nat → Nat → Int32} {N p k : Nat} {Q : Option Value → List qx_E → Prop} (hb : tb h b s a) (hN : N ≤ 480) (hk : p + k ≤ N) (hq : Q (some (.long (bu_n (a 0) p k))) h) : ∀ j i, i + j = k → wp_W L xs d 16 21 [(0, .ref (b + 2)), (1, .int (nI p)), (2, .int (nI k)), (3, .long (bu_n (a 0) p i)), (5, .int (nI i))] [] h Q := by
  intro j
  induction j with
  | zero =>
    intro i hi
    refine wp_iload dq_16_21 rfl ?_
    refine wp_iload_n dq_16_23 rfl ?_
    refine wp_ic_ge (tgt := 53) dq_16_24 rfl (fun c1 => ?_) (fun c1 => absurd (nI_le (by omega) (by omega)) c1)
    refine wp_lload_n dq_16_53 rfl ?_
    have hik : i = k := by omega
    subst hik
    exact wp_lre dq_16_54 rfl hq
  | succ j ih =>
    intro i hi
    refine wp_iload dq_16_21 rfl ?_
    refine wp_iload_n dq_16_23 rfl ?_
    refine wp_ic_ge (tgt := 53) dq_16_24 rfl (fun c1 => ?_) (fun c1 => ?_)
    · refine wp_lload_n dq_16_53 rfl ?_
      exact absurd c1 (nI_ge (by omega) (by omega))
    · have hik : i < k := by omega
      have hcl : (nI p + nI i).toNatClampNeg = p + i := by rw [nI_add]; exact nI_clamp (by omega)
      have hin : qx_in (nI p + nI i) 480 = true := by rw [nI_add]; exact qx_in_n (by omega) (by omega)
      refine wp_lload_n dq_16_27 rfl ?_
      refine wp_bipush (x := 8) dq_16_28 rfl ?_
      refine wp_lshl dq_16_30 ?_
      refine wp_aload_n dq_16_31 rfl ?_
      refine wp_getf dq_16_32 fl_16_9 (tb_c2 hb) rfl ?_
      refine wp_iload_n dq_16_35 rfl ?_
      refine wp_iload dq_16_36 rfl ?_
      refine wp_iadd dq_16_38 ?_
      refine wp_bald dq_16_39 (tb_c3 hb) hin ?_
      refine wp_sipush (x := 255) dq_16_40 rfl ?_
      refine wp_iand dq_16_43 ?_
      refine wp_i2l dq_16_44 ?_
      refine wp_lor dq_16_45 ?_
      refine wp_lstore_n (lv' := [(0, .ref (b + 2)), (1, .int (nI p)), (2, .int (nI k)), (3, .long (((bu_n (a 0) p i) <<< ((8 : Int32).toInt64 &&& 63)) ||| ((((a 0) (((nI p) + (nI i)) : Int32).toNatClampNeg) &&& 255) : Int32).toInt64)), (5, .int (nI i))]) dq_16_46 (by decide) rfl ?_
      refine wp_iinc (y := ((nI i) + 1)) (lv' := [(0, .ref (b + 2)), (1, .int (nI p)), (2, .int (nI k)), (3, .long (((bu_n (a 0) p i) <<< ((8 : Int32).toInt64 &&& 63)) ||| ((((a 0) (((nI p) + (nI i)) : Int32).toNatClampNeg) &&& 255) : Int32).toInt64)), (5, .int ((nI i) + 1))]) dq_16_47 rfl rfl (by decide) rfl ?_
      refine wp_goto (tgt := 21) dq_16_50 rfl ?_
      rw [hcl, nI_1]
      exact ih (i + 1) (by omega)
/-- the number that k bytes at a place spell, as the tape tells it -/
def bu_g (f : Nat → Int32) (N k : Nat) (x : Int32) : Int64 := if ¬ x < 0 ∧ x ≤ nI N - nI k then bu_n f x.toNatClampNeg k else 0
theorem bu_g0 {f : Nat → Int32} {N k : Nat} {x : Int32} (h : x < 0 ∨ (x ≤ nI N - nI k → False)) : bu_g f N k x = 0 := by
  unfold bu_g
  rw [if_neg (by rintro ⟨h1, h2⟩; rcases h with h | h; exact h1 h; exact h h2)]
theorem bu_in {N k : Nat} {x y : Int32} (hk : k ≤ 8) (h1 : ¬ x < 0) (h2 : x ≤ y - nI k) (hs : y = nI N) (hN : N ≤ 480) : ∃ p, x = nI p ∧ p + k ≤ N := by
  obtain ⟨p, hp, rfl⟩ := nI_of h1
  refine ⟨p, rfl, ?_⟩
  subst hs
  have h3 : (nI p).toInt ≤ (nI N - nI k).toInt := Int32.le_iff_toInt_le.mp h2
  rw [nI_toInt hp, pk_sub_toInt (by omega) (by omega)] at h3
  omega
theorem bu_g1 {f : Nat → Int32} {N k p : Nat} (hp : p + k ≤ N) (hN : N ≤ 480) : bu_g f N k (nI p) = bu_n f p k := by
  have h1 : nI p ≤ nI N - nI k := by
    rw [pk_sub (by omega)]
    exact nI_le (by omega) (by omega)
  unfold bu_g
  rw [if_pos ⟨nI_pos (by omega), h1⟩, nI_clamp (by omega)]
set_option maxRecDepth 100000 in
theorem c_numberAt {L : Nat} {xs : Nat → Int32} {d b : Nat} {h : List qx_E} {s : Nat → Int32} {a : Nat → Nat → Int32} {N k : Nat} {x : Int32} (hb : tb h b s a) (hs : s 1 = nI N) (hN : N ≤ 480) (hk : k ≤ 8) : qe_E L xs d 16 [.ref (b + 2), .int x, .int (nI k)] h (some (.long (bu_g (a 0) N k x))) h := by
  show wp_W L xs d 16 0 [(0, .ref (b + 2)), (1, .int x), (2, .int (nI k))] [] h _
  refine wp_iload_n dq_16_0 rfl ?_
  refine wp_if_lt (tgt := 14) dq_16_1 rfl (fun c1 => ?_) (fun c1 => ?_)
  · refine wp_lconst (x := 0) dq_16_14 rfl ?_
    exact wp_lre dq_16_15 rfl ⟨by rw [bu_g0 (Or.inl c1)], rfl⟩
  · refine wp_iload_n dq_16_4 rfl ?_
    refine wp_aload_n dq_16_5 rfl ?_
    refine wp_getf dq_16_6 fl_16_15 (tb_c2 hb) rfl ?_
    refine wp_iload_n dq_16_9 rfl ?_
    refine wp_isub dq_16_10 ?_
    refine wp_ic_le (tgt := 16) dq_16_11 rfl (fun c2 => ?_) (fun c2 => ?_)
    · refine wp_lconst (x := 0) dq_16_16 rfl ?_
      refine wp_lstore_n (lv' := [(0, .ref (b + 2)), (1, .int x), (2, .int (nI k)), (3, .long 0)]) dq_16_17 (by decide) rfl ?_
      refine wp_iconst (x := 0) dq_16_18 rfl ?_
      refine wp_istore (lv' := [(0, .ref (b + 2)), (1, .int x), (2, .int (nI k)), (3, .long 0), (5, .int 0)]) dq_16_19 (by decide) rfl ?_
      obtain ⟨p, rfl, hp⟩ := bu_in hk c1 c2 hs hN
      rw [bu_g1 hp (by omega)]
      exact c_numberAtL hb hN hp ⟨rfl, rfl⟩ k 0 (by omega)
    · refine wp_lconst (x := 0) dq_16_14 rfl ?_
      exact wp_lre dq_16_15 rfl ⟨by rw [bu_g0 (Or.inr (fun q => c2 (by rw [hs]; exact q)))], rfl⟩
