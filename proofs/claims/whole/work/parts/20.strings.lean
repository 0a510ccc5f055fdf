/-! texts that are constants: number k (11 to 25), its characters -/
def sx_t (k : Nat) : List Int32 := qx_txs.getD (k - 11) []
theorem ko_s {k : Nat} (hk : 11 ≤ k ∧ k < 26) : qx_ko k = some (7, [.retAddr (k + 15), .int 0]) := by
  unfold qx_ko qx_en
  rw [if_neg (by simp; omega), if_pos hk]
theorem ka_s {k : Nat} (hk : 11 ≤ k ∧ k < 26) : qx_ka (k + 15) = some (.byte, (sx_t k).length, fun j => .int ((sx_t k).getD j 0)) := by
  unfold qx_ka
  rw [if_neg (by omega), if_pos (by omega), show k + 15 - 26 = k - 11 by omega]
  rfl
theorem sx_len9 : ∀ k, k < 26 → 11 ≤ k → (sx_t k).length ≤ 19 := by decide +kernel
theorem sx_len (k : Nat) (h1 : 11 ≤ k) (h2 : k < 26) : (sx_t k).length ≤ 19 := sx_len9 k h2 h1
theorem sx_chr9 : ∀ k, k < 26 → 11 ≤ k → ∀ j, j < 19 → (((sx_t k).getD j 0 &&& 255).toUInt32 % 65536).toInt32 = (sx_t k).getD j 0 := by decide +kernel
theorem sx_chr0 (k : Nat) (h1 : 11 ≤ k) (h2 : k < 26) (j : Nat) (hj : j < 19) : (((sx_t k).getD j 0 &&& 255).toUInt32 % 65536).toInt32 = (sx_t k).getD j 0 := sx_chr9 k h2 h1 j hj
set_option maxRecDepth 100000 in
theorem c_coder {L : Nat} {xs : Nat → Int32} {d k : Nat} {h : List qx_E} (hk : 11 ≤ k ∧ k < 26) : qe_E L xs d 32 [.retAddr k] h (some (.int 0)) h := by
  show wp_W L xs _ 32 0 [(0, .retAddr k)] [] h _
  refine wp_gets (v := .int 1) dq_32_0 (by decide +kernel) ?_
  refine wp_if_eq (tgt := 13) dq_32_3 rfl (fun c1 => ?_) (fun c1 => ?_)
  · exact absurd c1 (by decide)
  · refine wp_aload_nK dq_32_6 rfl ?_
    refine wp_getk dq_32_7 fl_32_15 (ko_s hk) rfl ?_
    refine wp_goto (tgt := 14) dq_32_10 rfl ?_
    exact wp_ire dq_32_14 rfl ⟨rfl, Or.inr (Or.inr (Or.inr rfl))⟩ ⟨rfl, rfl⟩
set_option maxRecDepth 100000 in
theorem c_isLatin1 {L : Nat} {xs : Nat → Int32} {d k : Nat} {h : List qx_E} (hk : 11 ≤ k ∧ k < 26) : qe_E L xs d 30 [.retAddr k] h (some (.int 1)) h := by
  show wp_W L xs _ 30 0 [(0, .retAddr k)] [] h _
  refine wp_gets (v := .int 1) dq_30_0 (by decide +kernel) ?_
  refine wp_if_eq (tgt := 17) dq_30_3 rfl (fun c1 => ?_) (fun c1 => ?_)
  · exact absurd c1 (by decide)
  · refine wp_aload_nK dq_30_6 rfl ?_
    refine wp_getk dq_30_7 fl_30_15 (ko_s hk) rfl ?_
    refine wp_if_ne (tgt := 17) dq_30_10 rfl (fun c2 => ?_) (fun c2 => ?_)
    · exact absurd c2 (by decide)
    · refine wp_iconst (x := 1) dq_30_13 rfl ?_
      refine wp_goto (tgt := 18) dq_30_14 rfl ?_
      exact wp_ire dq_30_18 rfl ⟨rfl, Or.inr (Or.inl rfl)⟩ ⟨rfl, rfl⟩
set_option maxRecDepth 100000 in
theorem c_slen {L : Nat} {xs : Nat → Int32} {d k : Nat} {h : List qx_E} (hk : 11 ≤ k ∧ k < 26) : qe_E L xs (d + 1) 31 [.retAddr k] h (some (.int (nI (sx_t k).length))) h := by
  show wp_W L xs _ 31 0 [(0, .retAddr k)] [] h _
  refine wp_aload_nK dq_31_0 rfl ?_
  refine wp_getk dq_31_1 fl_31_9 (ko_s hk) rfl ?_
  refine wp_alenK dq_31_4 (ka_s hk) ?_
  refine wp_aload_nK dq_31_5 rfl ?_
  refine wp_cve0 dq_31_6 mt_31_335 (by show qx_ko k = _; exact ko_s hk) ⟨by decide +kernel, by decide +kernel⟩ (Nat.le_of_ble_eq_true rfl) (Nat.le_of_ble_eq_true rfl) (c_coder hk) ?_
  refine wp_ishr dq_31_9 ?_
  rw [sb_shr0]
  exact wp_ire dq_31_10 rfl ⟨rfl, Or.inl rfl⟩ ⟨rfl, rfl⟩
set_option maxRecDepth 100000 in
theorem c_pci {L : Nat} {xs : Nat → Int32} {d : Nat} {h : List qx_E} {x y : Int32} (h1 : ¬ x < 0) (h2 : x < y) : qe_E L xs d 61 [.int x, .int y, .retAddr 41] h (some (.int x)) h := by
  show wp_W L xs _ 61 0 [(0, .int x), (1, .int y), (2, .retAddr 41)] [] h _
  refine wp_iload_n dq_61_0 rfl ?_
  refine wp_if_lt (tgt := 9) dq_61_1 rfl (fun c1 => ?_) (fun c1 => ?_)
  · exact absurd c1 h1
  · refine wp_iload_n dq_61_4 rfl ?_
    refine wp_iload_n dq_61_5 rfl ?_
    refine wp_ic_lt (tgt := 16) dq_61_6 rfl (fun c2 => ?_) (fun c2 => ?_)
    · refine wp_iload_n dq_61_16 rfl ?_
      exact wp_ire dq_61_17 rfl ⟨rfl, Or.inl rfl⟩ ⟨rfl, rfl⟩
    · exact absurd h2 c2
set_option maxRecDepth 100000 in
theorem c_sci {L : Nat} {xs : Nat → Int32} {d : Nat} {h : List qx_E} {x y : Int32} (h1 : ¬ x < 0) (h2 : x < y) : qe_E L xs (d + 1) 60 [.int x, .int y] h none h := by
  show wp_W L xs _ 60 0 [(0, .int x), (1, .int y)] [] h _
  refine wp_iload_n dq_60_0 rfl ?_
  refine wp_iload_n dq_60_1 rfl ?_
  refine wp_gets (v := .retAddr 41) dq_60_2 (by decide +kernel) ?_
  refine wp_cse3 dq_60_5 (by decide +kernel) mt_60_1059 (by decide +kernel) (Nat.le_of_ble_eq_true rfl) (Nat.le_of_ble_eq_true rfl) (c_pci h1 h2) ?_
  refine wp_pop dq_60_8 rfl ?_
  exact wp_vre dq_60_9 rfl ⟨rfl, rfl⟩
set_option maxRecDepth 100000 in
theorem c_lchr {L : Nat} {xs : Nat → Int32} {d k j : Nat} {h : List qx_E} (hk : 11 ≤ k ∧ k < 26) (hj : j < (sx_t k).length) : qe_E L xs (d + 2) 59 [.retAddr (k + 15), .int (nI j)] h (some (.int ((sx_t k).getD j 0))) h := by
  have hl := sx_len k hk.1 hk.2
  have hin : qx_in (nI j) (sx_t k).length = true := qx_in_n hj (by omega)
  show wp_W L xs _ 59 0 [(0, .retAddr (k + 15)), (1, .int (nI j))] [] h _
  refine wp_iload_n dq_59_0 rfl ?_
  refine wp_aload_nK dq_59_1 rfl ?_
  refine wp_alenK dq_59_2 (ka_s hk) ?_
  refine wp_cse2 dq_59_3 (by decide +kernel) mt_59_9 (by decide +kernel) (Nat.le_of_ble_eq_true rfl) (Nat.le_of_ble_eq_true rfl) (c_sci (nI_pos (by omega)) (nI_lt hj (by omega))) ?_
  refine wp_aload_nK dq_59_6 rfl ?_
  refine wp_iload_n dq_59_7 rfl ?_
  refine wp_baldK dq_59_8 (ka_s hk) hin ?_
  refine wp_sipush (x := 255) dq_59_9 rfl ?_
  refine wp_iand dq_59_12 ?_
  refine wp_i2c dq_59_13 ?_
  have e : ((((fun j => (sx_t k).getD j 0) (nI j).toNatClampNeg &&& 255) : Int32).toUInt32 % 65536).toInt32 = (sx_t k).getD j 0 := by
    rw [nI_clamp (by omega)]
    exact sx_chr0 k hk.1 hk.2 j (by omega)
  exact wp_ire dq_59_14 rfl ⟨pk_nc _, Or.inr (Or.inr (Or.inl rfl))⟩ ⟨by rw [← e], rfl⟩
set_option maxRecDepth 100000 in
theorem c_schr {L : Nat} {xs : Nat → Int32} {d k j : Nat} {h : List qx_E} (hk : 11 ≤ k ∧ k < 26) (hj : j < (sx_t k).length) : qe_E L xs (d + 3) 58 [.retAddr k, .int (nI j)] h (some (.int ((sx_t k).getD j 0))) h := by
  show wp_W L xs _ 58 0 [(0, .retAddr k), (1, .int (nI j))] [] h _
  refine wp_aload_nK dq_58_0 rfl ?_
  refine wp_cve0 dq_58_1 mt_58_492 (by show qx_ko k = _; exact ko_s hk) ⟨by decide +kernel, by decide +kernel⟩ (Nat.le_of_ble_eq_true rfl) (Nat.le_of_ble_eq_true rfl) (c_isLatin1 hk) ?_
  refine wp_if_eq (tgt := 16) dq_58_4 rfl (fun c1 => ?_) (fun c1 => ?_)
  · exact absurd c1 (by decide)
  · refine wp_aload_nK dq_58_7 rfl ?_
    refine wp_getk dq_58_8 fl_58_9 (ko_s hk) rfl ?_
    refine wp_iload_n dq_58_11 rfl ?_
    refine wp_cse2 dq_58_12 (by decide +kernel) mt_58_495 (by decide +kernel) (Nat.le_of_ble_eq_true rfl) (Nat.le_of_ble_eq_true rfl) (c_lchr hk hj) ?_
    exact wp_ire dq_58_15 rfl ⟨by rw [← sx_chr0 k hk.1 hk.2 j (by have := sx_len k hk.1 hk.2; omega)]; exact pk_nc _, Or.inr (Or.inr (Or.inl rfl))⟩ ⟨rfl, rfl⟩
def f_canEncode (x : Int32) : Int32 := (if x < 0 then 0 else (if 255 < x then 0 else 1))
theorem b_canEncode (x : Int32) : f_canEncode x = 0 ∨ f_canEncode x = 1 := by
  unfold f_canEncode
  repeat' split
  all_goals first | exact Or.inl rfl | exact Or.inr rfl
set_option maxRecDepth 100000 in
theorem c_canEncode {L : Nat} {xs : Nat → Int32} {d : Nat} {h : List qx_E}  {x : Int32}  : qe_E L xs d 34 [.int x] h (some (.int (f_canEncode x))) h := by
  show wp_W L xs _ 34 0 [(0, .int x)] [] h _
  refine wp_iload_n dq_34_0 rfl ?_
  refine wp_if_lt (tgt := 15) dq_34_1 rfl (fun c1 => ?_) (fun c1 => ?_)
  · refine wp_iconst (x := 0) dq_34_15 rfl ?_
    exact wp_ire dq_34_16 rfl ⟨by decide, Or.inr (Or.inl rfl)⟩ ⟨by rw [f_canEncode, if_pos c1], rfl⟩
  · refine wp_iload_n dq_34_4 rfl ?_
    refine wp_sipush (x := 255) dq_34_5 rfl ?_
    refine wp_ic_gt (tgt := 15) dq_34_8 rfl (fun c2 => ?_) (fun c2 => ?_)
    · refine wp_iconst (x := 0) dq_34_15 rfl ?_
      exact wp_ire dq_34_16 rfl ⟨by decide, Or.inr (Or.inl rfl)⟩ ⟨by rw [f_canEncode, if_neg c1, if_pos c2], rfl⟩
    · refine wp_iconst (x := 1) dq_34_11 rfl ?_
      refine wp_goto (tgt := 16) dq_34_12 rfl ?_
      exact wp_ire dq_34_16 rfl ⟨by decide, Or.inr (Or.inl rfl)⟩ ⟨by rw [f_canEncode, if_neg c1, if_neg c2], rfl⟩

def f_mmax (x : Int32) (y : Int32) : Int32 := (if x < y then y else x)
set_option maxRecDepth 100000 in
theorem c_mmax {L : Nat} {xs : Nat → Int32} {d : Nat} {h : List qx_E}  {x : Int32} {y : Int32}  : qe_E L xs d 35 [.int x, .int y] h (some (.int (f_mmax x y))) h := by
  show wp_W L xs _ 35 0 [(0, .int x), (1, .int y)] [] h _
  refine wp_iload_n dq_35_0 rfl ?_
  refine wp_iload_n dq_35_1 rfl ?_
  refine wp_ic_lt (tgt := 9) dq_35_2 rfl (fun c1 => ?_) (fun c1 => ?_)
  · refine wp_iload_n dq_35_9 rfl ?_
    exact wp_ire dq_35_10 rfl ⟨rfl, Or.inl rfl⟩ ⟨by rw [f_mmax, if_pos c1], rfl⟩
  · refine wp_iload_n dq_35_5 rfl ?_
    refine wp_goto (tgt := 10) dq_35_6 rfl ?_
    exact wp_ire dq_35_10 rfl ⟨rfl, Or.inl rfl⟩ ⟨by rw [f_mmax, if_neg c1], rfl⟩

def f_mmin (x : Int32) (y : Int32) : Int32 := (if y < x then y else x)
set_option maxRecDepth 100000 in
theorem c_mmin {L : Nat} {xs : Nat → Int32} {d : Nat} {h : List qx_E}  {x : Int32} {y : Int32}  : qe_E L xs d 36 [.int x, .int y] h (some (.int (f_mmin x y))) h := by
  show wp_W L xs _ 36 0 [(0, .int x), (1, .int y)] [] h _
  refine wp_iload_n dq_36_0 rfl ?_
  refine wp_iload_n dq_36_1 rfl ?_
  refine wp_ic_gt (tgt := 9) dq_36_2 rfl (fun c1 => ?_) (fun c1 => ?_)
  · refine wp_iload_n dq_36_9 rfl ?_
    exact wp_ire dq_36_10 rfl ⟨rfl, Or.inl rfl⟩ ⟨by rw [f_mmin, if_pos c1], rfl⟩
  · refine wp_iload_n dq_36_5 rfl ?_
    refine wp_goto (tgt := 10) dq_36_6 rfl ?_
    exact wp_ire dq_36_10 rfl ⟨rfl, Or.inl rfl⟩ ⟨by rw [f_mmin, if_neg c1], rfl⟩

def sx_i (T : List Int32) (c : Int32) : Nat → Nat → Int32
  | 0, _ => -1
  | f + 1, i => if T.getD i 0 = c then nI i else sx_i T c f (i + 1)
set_option maxRecDepth 100000 in
theorem c_ixL {L : Nat} {xs : Nat → Int32} {d k n : Nat} {h : List qx_E} {y z c : Int32} {Q : Option Value → List qx_E → Prop} (hk : 11 ≤ k ∧ k < 26) (hn : n = (sx_t k).length) : ∀ j i, i + j = n → Q (some (.int (sx_i (sx_t k) c j i))) h → wp_W L xs d 37 7 [(0, .retAddr (k + 15)), (1, .int y), (2, .int z), (3, .int (nI n)), (4, .int c), (5, .int (nI i))] [] h Q := by
  have hl := sx_len k hk.1 hk.2
  intro j
  induction j with
  | zero =>
    intro i hi hq
    refine wp_iload dq_37_7 rfl ?_
    refine wp_iload_n dq_37_9 rfl ?_
    refine wp_ic_ge (tgt := 31) dq_37_10 rfl (fun c1 => ?_) (fun c1 => absurd (nI_le (by omega) (by omega)) c1)
    refine wp_iconst (x := -1) dq_37_31 rfl ?_
    exact wp_ire dq_37_32 rfl ⟨rfl, Or.inl rfl⟩ hq
  | succ j ih =>
    intro i hi hq
    refine wp_iload dq_37_7 rfl ?_
    refine wp_iload_n dq_37_9 rfl ?_
    refine wp_ic_ge (tgt := 31) dq_37_10 rfl (fun c1 => ?_) (fun c1 => ?_)
    · refine wp_iconst (x := -1) dq_37_31 rfl ?_
      exact absurd c1 (nI_ge (by omega) (by omega))
    · refine wp_aload_nK dq_37_13 rfl ?_
      refine wp_iload dq_37_14 rfl ?_
      have hin : qx_in (nI i) (sx_t k).length = true := qx_in_n (by omega) (by omega)
      refine wp_baldK dq_37_16 (ka_s hk) hin ?_
      rw [nI_clamp (show i < 2 ^ 31 by omega)]
      refine wp_iload dq_37_17 rfl ?_
      refine wp_ic_ne (tgt := 25) dq_37_19 rfl (fun c2 => ?_) (fun c2 => ?_)
      · refine wp_iinc (y := ((nI i) + 1)) (lv' := [(0, .retAddr (k + 15)), (1, .int y), (2, .int z), (3, .int (nI n)), (4, .int c), (5, .int ((nI i) + 1))]) dq_37_25 rfl rfl (by decide) rfl ?_
        refine wp_goto (tgt := 7) dq_37_28 rfl ?_
        rw [nI_1]
        unfold sx_i at hq
        rw [if_neg c2] at hq
        exact ih (i + 1) (by omega) hq
      · refine wp_iload dq_37_22 rfl ?_
        unfold sx_i at hq
        rw [if_pos c2] at hq
        exact wp_ire dq_37_24 rfl ⟨rfl, Or.inl rfl⟩ hq
set_option maxRecDepth 100000 in
theorem c_ixC {L : Nat} {xs : Nat → Int32} {d k : Nat} {h : List qx_E} {y : Int32} (hk : 11 ≤ k ∧ k < 26) : qe_E L xs d 37 [.retAddr (k + 15), .int y, .int 0, .int (nI (sx_t k).length)] h (some (.int (sx_i (sx_t k) y.toInt8.toInt32 (sx_t k).length 0))) h := by
  show wp_W L xs _ 37 0 [(0, .retAddr (k + 15)), (1, .int y), (2, .int 0), (3, .int (nI (sx_t k).length))] [] h _
  refine wp_iload_n dq_37_0 rfl ?_
  refine wp_i2b dq_37_1 ?_
  refine wp_istore (lv' := [(0, .retAddr (k + 15)), (1, .int y), (2, .int 0), (3, .int (nI (sx_t k).length)), (4, .int ((y : Int32).toInt8.toInt32))]) dq_37_2 (by decide) rfl ?_
  refine wp_iload_n dq_37_4 rfl ?_
  refine wp_istore (lv' := [(0, .retAddr (k + 15)), (1, .int y), (2, .int 0), (3, .int (nI (sx_t k).length)), (4, .int ((y : Int32).toInt8.toInt32)), (5, .int 0)]) dq_37_5 (by decide) rfl ?_
  exact c_ixL hk rfl (sx_t k).length 0 (by omega) ⟨rfl, rfl⟩
set_option maxRecDepth 100000 in
theorem c_ix3 {L : Nat} {xs : Nat → Int32} {d k : Nat} {h : List qx_E} {y : Int32} (hk : 11 ≤ k ∧ k < 26) (hc : f_canEncode y = 1) : qe_E L xs (d + 1) 33 [.retAddr (k + 15), .int y, .int 0, .int (nI (sx_t k).length)] h (some (.int (sx_i (sx_t k) y.toInt8.toInt32 (sx_t k).length 0))) h := by
  have hl := sx_len k hk.1 hk.2
  show wp_W L xs _ 33 0 [(0, .retAddr (k + 15)), (1, .int y), (2, .int 0), (3, .int (nI (sx_t k).length))] [] h _
  refine wp_iload_n dq_33_0 rfl ?_
  refine wp_cse1 dq_33_1 (by decide +kernel) mt_33_88 (by decide +kernel) (Nat.le_of_ble_eq_true rfl) (Nat.le_of_ble_eq_true rfl) (c_canEncode) ?_
  refine wp_if_ne (tgt := 9) dq_33_4 rfl (fun c1 => ?_) (fun c1 => ?_)
  · refine wp_iload_n dq_33_9 rfl ?_
    refine wp_iconst (x := 0) dq_33_10 rfl ?_
    refine wp_cse2 dq_33_11 (by decide +kernel) mt_33_92 (by decide +kernel) (Nat.le_of_ble_eq_true rfl) (Nat.le_of_ble_eq_true rfl) (c_mmax) ?_
    refine wp_istore_n (lv' := [(0, .retAddr (k + 15)), (1, .int y), (2, .int 0), (3, .int (nI (sx_t k).length))]) dq_33_14 (by decide) rfl ?_
    refine wp_iload_n dq_33_15 rfl ?_
    refine wp_aload_nK dq_33_16 rfl ?_
    refine wp_alenK dq_33_17 (ka_s hk) ?_
    refine wp_cse2 dq_33_18 (by decide +kernel) mt_33_38 (by decide +kernel) (Nat.le_of_ble_eq_true rfl) (Nat.le_of_ble_eq_true rfl) (c_mmin) ?_
    have e9 : f_mmin (nI (sx_t k).length) (Int32.ofNat (sx_t k).length) = nI (sx_t k).length := by unfold f_mmin; split <;> rfl
    rw [e9]
    refine wp_istore_n (lv' := [(0, .retAddr (k + 15)), (1, .int y), (2, .int 0), (3, .int (nI (sx_t k).length))]) dq_33_21 (by decide) rfl ?_
    refine wp_iload_n dq_33_22 rfl ?_
    refine wp_iload_n dq_33_23 rfl ?_
    refine wp_ic_lt (tgt := 29) dq_33_24 rfl (fun c2 => ?_) (fun c2 => ?_)
    · refine wp_aload_nK dq_33_29 rfl ?_
      refine wp_iload_n dq_33_30 rfl ?_
      refine wp_iload_n dq_33_31 rfl ?_
      refine wp_iload_n dq_33_32 rfl ?_
      refine wp_cse4 dq_33_33 (by decide +kernel) mt_33_95 (by decide +kernel) (Nat.le_of_ble_eq_true rfl) (Nat.le_of_ble_eq_true rfl) (c_ixC hk) ?_
      exact wp_ire dq_33_36 rfl ⟨rfl, Or.inl rfl⟩ ⟨rfl, rfl⟩
    · refine wp_iconst (x := -1) dq_33_27 rfl ?_
      have e8 : (sx_t k).length = 0 := by
          rcases Nat.eq_zero_or_pos (sx_t k).length with q | q
          · exact q
          · exact absurd (nI_lt (a := 0) q (by omega)) c2
      exact wp_ire dq_33_28 rfl ⟨rfl, Or.inl rfl⟩ ⟨by rw [e8]; rfl, rfl⟩
  · refine wp_iconst (x := -1) dq_33_7 rfl ?_
    exact absurd (hc.symm.trans c1) (by decide)
set_option maxRecDepth 100000 in
theorem c_ix2 {L : Nat} {xs : Nat → Int32} {d k : Nat} {h : List qx_E} {y : Int32} (hk : 11 ≤ k ∧ k < 26) (hc : f_canEncode y = 1) : qe_E L xs (d + 2) 29 [.retAddr k, .int y, .int 0] h (some (.int (sx_i (sx_t k) y.toInt8.toInt32 (sx_t k).length 0))) h := by
  show wp_W L xs _ 29 0 [(0, .retAddr k), (1, .int y), (2, .int 0)] [] h _
  refine wp_aload_nK dq_29_0 rfl ?_
  refine wp_cve0 dq_29_1 mt_29_492 (by show qx_ko k = _; exact ko_s hk) ⟨by decide +kernel, by decide +kernel⟩ (Nat.le_of_ble_eq_true rfl) (Nat.le_of_ble_eq_true rfl) (c_isLatin1 hk) ?_
  refine wp_if_eq (tgt := 23) dq_29_4 rfl (fun c1 => ?_) (fun c1 => ?_)
  · exact absurd c1 (by decide)
  · refine wp_aload_nK dq_29_7 rfl ?_
    refine wp_getk dq_29_8 fl_29_9 (ko_s hk) rfl ?_
    refine wp_iload_n dq_29_11 rfl ?_
    refine wp_iload_n dq_29_12 rfl ?_
    refine wp_aload_nK dq_29_13 rfl ?_
    refine wp_cve0 dq_29_14 mt_29_505 (by show qx_ko k = _; exact ko_s hk) ⟨by decide +kernel, by decide +kernel⟩ (Nat.le_of_ble_eq_true rfl) (Nat.le_of_ble_eq_true rfl) (c_slen hk) ?_
    refine wp_cse4 dq_29_17 (by decide +kernel) mt_29_637 (by decide +kernel) (Nat.le_of_ble_eq_true rfl) (Nat.le_of_ble_eq_true rfl) (c_ix3 hk hc) ?_
    refine wp_goto (tgt := 36) dq_29_20 rfl ?_
    exact wp_ire dq_29_36 rfl ⟨rfl, Or.inl rfl⟩ ⟨rfl, rfl⟩
set_option maxRecDepth 100000 in
theorem c_ix1 {L : Nat} {xs : Nat → Int32} {d k : Nat} {h : List qx_E} {y : Int32} (hk : 11 ≤ k ∧ k < 26) (hc : f_canEncode y = 1) : qe_E L xs (d + 3) 28 [.retAddr k, .int y] h (some (.int (sx_i (sx_t k) y.toInt8.toInt32 (sx_t k).length 0))) h := by
  show wp_W L xs _ 28 0 [(0, .retAddr k), (1, .int y)] [] h _
  refine wp_aload_nK dq_28_0 rfl ?_
  refine wp_iload_n dq_28_1 rfl ?_
  refine wp_iconst (x := 0) dq_28_2 rfl ?_
  refine wp_cve2 dq_28_3 mt_28_633 (by show qx_ko k = _; exact ko_s hk) ⟨by decide +kernel, by decide +kernel⟩ (Nat.le_of_ble_eq_true rfl) (Nat.le_of_ble_eq_true rfl) (c_ix2 hk hc) ?_
  exact wp_ire dq_28_6 rfl ⟨rfl, Or.inl rfl⟩ ⟨rfl, rfl⟩
