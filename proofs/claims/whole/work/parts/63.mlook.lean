def hs (f b : Nat) : Bool := decide (¬ (nI f &&& nI b = 0))
def sg1 (f : Nat) : Bool := decide (f % 8 = 0 ∨ f % 8 = 1 ∨ f % 8 = 2 ∨ f % 8 = 4)
def bfile (f : Nat) : Bool := if hs f 512 = true then (!hs f 1024 || hs f 16432) else (hs f 16 && hs f 1024 || hs f 8192)
theorem hs_any (f b : Nat) : f_hasAny (nI f) (nI b) = bI (hs f b) := by
  unfold f_hasAny hs
  by_cases e : nI f &&& nI b = 0
  · rw [if_pos e, decide_eq_false (fun r => r e)]
    rfl
  · rw [if_neg e, decide_eq_true e]
    rfl
theorem b_pw (x : Int32) (k : Nat) : x &&& Int32.ofNat (2 ^ k) = if x.toBitVec.getLsbD k then Int32.ofNat (2 ^ k) else 0 := by
  apply Int32.toBitVec_inj.mp
  rw [Int32.toBitVec_and]
  have h : (Int32.ofNat (2 ^ k)).toBitVec = BitVec.twoPow 32 k := by
    show BitVec.ofNat 32 (2 ^ k) = _
    rw [BitVec.twoPow_eq]
    apply BitVec.eq_of_toNat_eq
    simp [BitVec.toNat_shiftLeft, Nat.shiftLeft_eq]
  rw [h, BitVec.and_twoPow]
  split
  · rw [h]
  · rfl
theorem h_two (f a b c : Int32) (j k : Nat) (ha : a = Int32.ofNat (2 ^ j)) (hb : b = Int32.ofNat (2 ^ k)) (hc : c = a ||| b) (h1 : ¬ a = 0) (h2 : ¬ b = 0) (h3 : ¬ (a = a ||| b)) (h4 : ¬ (b = a ||| b)) (h5 : ¬ ((0 : Int32) = a ||| b)) : (f &&& c = c) ↔ ¬ (f &&& a = 0) ∧ ¬ (f &&& b = 0) := by
  have e : f &&& c = (f &&& a) ||| (f &&& b) := by
    subst hc
    apply Int32.toBitVec_inj.mp
    rw [Int32.toBitVec_or, Int32.toBitVec_and, Int32.toBitVec_and, Int32.toBitVec_and, Int32.toBitVec_or, ← BitVec.and_or_distrib_left]
  have e1 := b_pw f j
  have e2 := b_pw f k
  rw [← ha] at e1
  rw [← hb] at e2
  rw [e, e1, e2, hc]
  have z1 : (0 : Int32) ||| 0 = 0 := by decide
  have z2 : a ||| 0 = a := by apply Int32.toBitVec_inj.mp; rw [Int32.toBitVec_or]; exact BitVec.or_zero
  have z3 : 0 ||| b = b := by apply Int32.toBitVec_inj.mp; rw [Int32.toBitVec_or]; exact BitVec.zero_or
  cases f.toBitVec.getLsbD j <;> cases f.toBitVec.getLsbD k
  · simp only [Bool.false_eq_true, if_false, z1]
    exact ⟨fun r => absurd r h5, fun r => absurd trivial r.1⟩
  · simp only [Bool.false_eq_true, if_false, if_true, z3]
    exact ⟨fun r => absurd r h4, fun r => absurd trivial r.1⟩
  · simp only [Bool.false_eq_true, if_false, if_true, z2]
    exact ⟨fun r => absurd r h3, fun r => absurd trivial r.2⟩
  · simp only [if_true]
    exact ⟨fun _ => ⟨h1, h2⟩, fun _ => trivial⟩
theorem hs_all1040 (f : Nat) : f_hasAll (nI f) 1040 = bI (hs f 16 && hs f 1024) := by
  unfold f_hasAll hs
  have := h_two (nI f) (nI 16) (nI 1024) 1040 4 10 rfl rfl (by decide) (by decide) (by decide) (by decide) (by decide) (by decide)
  by_cases e : nI f &&& 1040 = 1040
  · rw [if_pos e, decide_eq_true (this.mp e).1, decide_eq_true (this.mp e).2]
    rfl
  · rw [if_neg e, ← Bool.decide_and, decide_eq_false (fun r => e (this.mpr r))]
    rfl
theorem hs_all80 (f : Nat) : f_hasAll (nI f) 80 = bI (hs f 16 && hs f 64) := by
  unfold f_hasAll hs
  have := h_two (nI f) (nI 16) (nI 64) 80 4 6 rfl rfl (by decide) (by decide) (by decide) (by decide) (by decide) (by decide)
  by_cases e : nI f &&& 80 = 80
  · rw [if_pos e, decide_eq_true (this.mp e).1, decide_eq_true (this.mp e).2]
    rfl
  · rw [if_neg e, ← Bool.decide_and, decide_eq_false (fun r => e (this.mpr r))]
    rfl
theorem bI_i (c : Bool) {α : Type} (x y : α) : (if bI c = 0 then x else y) = if c = true then y else x := by cases c <;> rfl
theorem bfile_fit (f : Nat) : (f_fitFile (nI f) == 1) = !bfile f := by
  unfold f_fitFile f_isInterface bfile
  rw [show (512 : Int32) = nI 512 from rfl, show (8192 : Int32) = nI 8192 from rfl, show (1024 : Int32) = nI 1024 from rfl, show (16432 : Int32) = nI 16432 from rfl, hs_any, hs_any, hs_any, hs_any, hs_all1040, bI_i, bI_i, bI_i, bI_i, bI_i]
  cases hs f 512 <;> cases hs f 16 <;> cases hs f 1024 <;> cases hs f 8192 <;> cases hs f 16432 <;> decide
theorem one_8 : ∀ k, k < 8 → (if 1 < f_bitCount (nI k) then (0 : Int32) else 1) = bI (decide (k = 0 ∨ k = 1 ∨ k = 2 ∨ k = 4)) := by decide +kernel
theorem f_one {f : Nat} (hf : f < 65536) : f_hasOneReach (nI f) = bI (sg1 f) := by
  unfold f_hasOneReach sg1
  rw [pk_andN (by omega) 3 (by decide)]
  exact one_8 (f % 8) (Nat.mod_lt f (by decide))
/-- the flags of a member that are bad: w tells <clinit> (2) and <init> (1) -/
def bflag (kd f : Nat) (face ini cli : Bool) : Bool := if kd = 1 ∧ cli = true then false else if sg1 f = false then true else if kd = 0 then (hs f 16 && hs f 64 || face && decide (¬ (nI f &&& nI 25 = nI 25))) else if (hs f 1024 && hs f 314) = true then true else if (ini && hs f 1336) = true then true else face && (hs f 1 == hs f 2)
theorem hs_all25 (f : Nat) : f_hasAll (nI f) 25 = bI (!decide (¬ (nI f &&& nI 25 = nI 25))) := by
  show (if nI f &&& nI 25 = nI 25 then (1 : Int32) else 0) = _
  by_cases e : nI f &&& nI 25 = nI 25
  · rw [if_pos e, decide_eq_false (fun r => r e)]
    rfl
  · rw [if_neg e, decide_eq_true e]
    rfl
theorem bI_e (a b : Bool) : (bI a = bI b) ↔ a = b := by cases a <;> cases b <;> decide
theorem bflag0 {f : Nat} (hf : f < 65536) (face : Bool) : (f_fitField (nI f) (bI face) == 1) = !bflag 0 f face false false := by
  unfold f_fitField bflag
  rw [f_one hf, hs_all80, hs_all25, bI_i, bI_i, bI_i, bI_i]
  cases sg1 f <;> cases hs f 16 <;> cases hs f 64 <;> cases face <;> cases decide (¬ (nI f &&& nI 25 = nI 25)) <;> rfl
theorem bflag1 {f : Nat} (hf : f < 65536) (face ini : Bool) : (f_fitMethod (nI f) (bI face) (bI ini) == 1) = !bflag 1 f face ini false := by
  unfold f_fitMethod bflag
  rw [show (1024 : Int32) = nI 1024 from rfl, show (1336 : Int32) = nI 1336 from rfl, show (314 : Int32) = nI 314 from rfl, show f_hasAny (nI f) 1 = f_hasAny (nI f) (nI 1) from rfl, show f_hasAny (nI f) 2 = f_hasAny (nI f) (nI 2) from rfl, f_one hf, hs_any, hs_any, hs_any, hs_any, hs_any]
  simp only [bI_i, bI_e]
  cases sg1 f <;> cases hs f 1024 <;> cases hs f 1336 <;> cases hs f 314 <;> cases face <;> cases ini <;> cases hs f 1 <;> cases hs f 2 <;> rfl

set_option maxRecDepth 100000 in
theorem c_mhas {L : Nat} {xs : Nat → Int32} {d : Nat} {h : List qx_E} {f b : Nat} : qe_E L xs d 154 [.int (nI f), .int (nI b)] h (some (.int (bI (hs f b)))) h := by
  show wp_W L xs _ 154 0 [(0, .int (nI f)), (1, .int (nI b))] [] h _
  refine wp_iload_n dq_154_0 rfl ?_
  refine wp_iload_n dq_154_1 rfl ?_
  refine wp_iand dq_154_2 ?_
  refine wp_if_eq (tgt := 10) dq_154_3 rfl (fun c1 => ?_) (fun c1 => ?_)
  · refine wp_iconst (x := nI 0) dq_154_10 rfl ?_
    exact wp_ire dq_154_11 rfl ⟨rfl, Or.inr (Or.inl rfl)⟩ ⟨sv0 (fun r => r c1), rfl⟩
  · refine wp_iconst (x := nI 1) dq_154_6 rfl ?_
    refine wp_goto (tgt := 11) dq_154_7 rfl ?_
    exact wp_ire dq_154_11 rfl ⟨rfl, Or.inr (Or.inl rfl)⟩ ⟨sv1 c1, rfl⟩
set_option maxRecDepth 100000 in
theorem c_single {L : Nat} {xs : Nat → Int32} {d : Nat} {h : List qx_E} {f : Nat} (hf : f < 65536) : qe_E L xs d 165 [.int (nI f)] h (some (.int (bI (sg1 f)))) h := by
  show wp_W L xs _ 165 0 [(0, .int (nI f))] [] h _
  refine wp_iload_n dq_165_0 rfl ?_
  refine wp_bipush (x := nI 7) dq_165_1 rfl ?_
  refine wp_iand dq_165_3 ?_
  rw [pk_andN (show f < 2 ^ 32 by omega) 3 (by decide)]
  have h8 := Nat.mod_lt f (show 0 < 2 ^ 3 by decide)
  refine wp_istore_n (lv' := [(0, .int (nI f)), (1, .int (nI (f % 2 ^ 3)))]) dq_165_4 (by decide) rfl ?_
  refine wp_iload_n dq_165_5 rfl ?_
  refine wp_if_eqN (tgt := 24) dq_165_6 rfl (by omega) (fun c1 => ?_) (fun c1 => ?_)
  · refine wp_iconst (x := nI 1) dq_165_24 rfl ?_
    refine wp_goto (tgt := 29) dq_165_25 rfl ?_
    exact wp_ire dq_165_29 rfl ⟨rfl, Or.inr (Or.inl rfl)⟩ ⟨sv1 (show f % 8 = 0 ∨ f % 8 = 1 ∨ f % 8 = 2 ∨ f % 8 = 4 by omega), rfl⟩
  · refine wp_iload_n dq_165_9 rfl ?_
    refine wp_iconst (x := nI 1) dq_165_10 rfl ?_
    refine wp_ic_eqN (tgt := 24) dq_165_11 rfl (by omega) (by omega) (fun c2 => ?_) (fun c2 => ?_)
    · refine wp_iconst (x := nI 1) dq_165_24 rfl ?_
      refine wp_goto (tgt := 29) dq_165_25 rfl ?_
      exact wp_ire dq_165_29 rfl ⟨rfl, Or.inr (Or.inl rfl)⟩ ⟨sv1 (show f % 8 = 0 ∨ f % 8 = 1 ∨ f % 8 = 2 ∨ f % 8 = 4 by omega), rfl⟩
    · refine wp_iload_n dq_165_14 rfl ?_
      refine wp_iconst (x := nI 2) dq_165_15 rfl ?_
      refine wp_ic_eqN (tgt := 24) dq_165_16 rfl (by omega) (by omega) (fun c3 => ?_) (fun c3 => ?_)
      · refine wp_iconst (x := nI 1) dq_165_24 rfl ?_
        refine wp_goto (tgt := 29) dq_165_25 rfl ?_
        exact wp_ire dq_165_29 rfl ⟨rfl, Or.inr (Or.inl rfl)⟩ ⟨sv1 (show f % 8 = 0 ∨ f % 8 = 1 ∨ f % 8 = 2 ∨ f % 8 = 4 by omega), rfl⟩
      · refine wp_iload_n dq_165_19 rfl ?_
        refine wp_iconst (x := nI 4) dq_165_20 rfl ?_
        refine wp_ic_neN (tgt := 28) dq_165_21 rfl (by omega) (by omega) (fun c4 => ?_) (fun c4 => ?_)
        · refine wp_iconst (x := nI 0) dq_165_28 rfl ?_
          exact wp_ire dq_165_29 rfl ⟨rfl, Or.inr (Or.inl rfl)⟩ ⟨sv0 (show ¬ (f % 8 = 0 ∨ f % 8 = 1 ∨ f % 8 = 2 ∨ f % 8 = 4) by omega), rfl⟩
        · refine wp_iconst (x := nI 1) dq_165_24 rfl ?_
          refine wp_goto (tgt := 29) dq_165_25 rfl ?_
          exact wp_ire dq_165_29 rfl ⟨rfl, Or.inr (Or.inl rfl)⟩ ⟨sv1 (show f % 8 = 0 ∨ f % 8 = 1 ∨ f % 8 = 2 ∨ f % 8 = 4 by omega), rfl⟩
set_option maxRecDepth 100000 in
theorem c_badFile {L : Nat} {xs : Nat → Int32} {d : Nat} {h : List qx_E} {f : Nat} : qe_E L xs (d + 1) 153 [.int (nI f)] h (some (.int (bI (bfile f)))) h := by
  show wp_W L xs _ 153 0 [(0, .int (nI f))] [] h _
  refine wp_iload_n dq_153_0 rfl ?_
  refine wp_sipush (x := nI 512) dq_153_1 rfl ?_
  refine wp_cse2 dq_153_4 (by decide +kernel) mt_153_187 (by decide +kernel) (Nat.le_of_ble_eq_true rfl) (Nat.le_of_ble_eq_true rfl) (c_mhas) ?_
  refine wp_if_eqB (tgt := 36) dq_153_7 rfl (fun c1 => ?_) (fun c1 => ?_)
  · refine wp_iload_n dq_153_36 rfl ?_
    refine wp_bipush (x := nI 16) dq_153_37 rfl ?_
    refine wp_cse2 dq_153_39 (by decide +kernel) mt_153_187 (by decide +kernel) (Nat.le_of_ble_eq_true rfl) (Nat.le_of_ble_eq_true rfl) (c_mhas) ?_
    refine wp_if_eqB (tgt := 55) dq_153_42 rfl (fun c2 => ?_) (fun c2 => ?_)
    · refine wp_iload_n dq_153_55 rfl ?_
      refine wp_sipush (x := nI 8192) dq_153_56 rfl ?_
      refine wp_cse2 dq_153_59 (by decide +kernel) mt_153_187 (by decide +kernel) (Nat.le_of_ble_eq_true rfl) (Nat.le_of_ble_eq_true rfl) (c_mhas) ?_
      refine wp_if_eqB (tgt := 69) dq_153_62 rfl (fun c3 => ?_) (fun c3 => ?_)
      · refine wp_iconst (x := nI 0) dq_153_69 rfl ?_
        exact wp_ire dq_153_70 rfl ⟨rfl, Or.inr (Or.inl rfl)⟩ ⟨sb0 (by simp [bfile, c1, c2, c3]), rfl⟩
      · refine wp_iconst (x := nI 1) dq_153_65 rfl ?_
        refine wp_goto (tgt := 70) dq_153_66 rfl ?_
        exact wp_ire dq_153_70 rfl ⟨rfl, Or.inr (Or.inl rfl)⟩ ⟨sb1 (by simp [bfile, c1, c2, c3]), rfl⟩
    · refine wp_iload_n dq_153_45 rfl ?_
      refine wp_sipush (x := nI 1024) dq_153_46 rfl ?_
      refine wp_cse2 dq_153_49 (by decide +kernel) mt_153_187 (by decide +kernel) (Nat.le_of_ble_eq_true rfl) (Nat.le_of_ble_eq_true rfl) (c_mhas) ?_
      refine wp_if_neB (tgt := 65) dq_153_52 rfl (fun c4 => ?_) (fun c4 => ?_)
      · refine wp_iconst (x := nI 1) dq_153_65 rfl ?_
        refine wp_goto (tgt := 70) dq_153_66 rfl ?_
        exact wp_ire dq_153_70 rfl ⟨rfl, Or.inr (Or.inl rfl)⟩ ⟨sb1 (by simp [bfile, c1, c2, c4]), rfl⟩
      · refine wp_iload_n dq_153_55 rfl ?_
        refine wp_sipush (x := nI 8192) dq_153_56 rfl ?_
        refine wp_cse2 dq_153_59 (by decide +kernel) mt_153_187 (by decide +kernel) (Nat.le_of_ble_eq_true rfl) (Nat.le_of_ble_eq_true rfl) (c_mhas) ?_
        refine wp_if_eqB (tgt := 69) dq_153_62 rfl (fun c5 => ?_) (fun c5 => ?_)
        · refine wp_iconst (x := nI 0) dq_153_69 rfl ?_
          exact wp_ire dq_153_70 rfl ⟨rfl, Or.inr (Or.inl rfl)⟩ ⟨sb0 (by simp [bfile, c1, c2, c4, c5]), rfl⟩
        · refine wp_iconst (x := nI 1) dq_153_65 rfl ?_
          refine wp_goto (tgt := 70) dq_153_66 rfl ?_
          exact wp_ire dq_153_70 rfl ⟨rfl, Or.inr (Or.inl rfl)⟩ ⟨sb1 (by simp [bfile, c1, c2, c4, c5]), rfl⟩
  · refine wp_iload_n dq_153_10 rfl ?_
    refine wp_sipush (x := nI 1024) dq_153_11 rfl ?_
    refine wp_cse2 dq_153_14 (by decide +kernel) mt_153_187 (by decide +kernel) (Nat.le_of_ble_eq_true rfl) (Nat.le_of_ble_eq_true rfl) (c_mhas) ?_
    refine wp_if_eqB (tgt := 30) dq_153_17 rfl (fun c6 => ?_) (fun c6 => ?_)
    · refine wp_iconst (x := nI 1) dq_153_30 rfl ?_
      refine wp_goto (tgt := 35) dq_153_31 rfl ?_
      exact wp_ire dq_153_35 rfl ⟨rfl, Or.inr (Or.inl rfl)⟩ ⟨sb1 (by simp [bfile, c1, c6]), rfl⟩
    · refine wp_iload_n dq_153_20 rfl ?_
      refine wp_sipush (x := nI 16432) dq_153_21 rfl ?_
      refine wp_cse2 dq_153_24 (by decide +kernel) mt_153_187 (by decide +kernel) (Nat.le_of_ble_eq_true rfl) (Nat.le_of_ble_eq_true rfl) (c_mhas) ?_
      refine wp_if_eqB (tgt := 34) dq_153_27 rfl (fun c7 => ?_) (fun c7 => ?_)
      · refine wp_iconst (x := nI 0) dq_153_34 rfl ?_
        exact wp_ire dq_153_35 rfl ⟨rfl, Or.inr (Or.inl rfl)⟩ ⟨sb0 (by simp [bfile, c1, c6, c7]), rfl⟩
      · refine wp_iconst (x := nI 1) dq_153_30 rfl ?_
        refine wp_goto (tgt := 35) dq_153_31 rfl ?_
        exact wp_ire dq_153_35 rfl ⟨rfl, Or.inr (Or.inl rfl)⟩ ⟨sb1 (by simp [bfile, c1, c6, c7]), rfl⟩
theorem kn_12 (l : List Nat) : kn l ≤ 12 := by
  unfold kn
  repeat' split
  all_goals decide
theorem wd_inj : ∀ i, i < 26 → 11 ≤ i → ∀ j, j < 26 → 11 ≤ j → wd i = wd j → i = j := by decide +kernel
theorem kn_11 {l : List Nat} : kn l = 11 ↔ l = wd 14 := by
  constructor
  · intro h
    unfold kn at h
    repeat' split at h
    all_goals first | assumption | (exfalso; revert h; decide)
  · intro h
    subst h
    decide +kernel
theorem kn_12i {l : List Nat} : kn l = 12 ↔ l = wd 15 := by
  constructor
  · intro h
    unfold kn at h
    repeat' split at h
    all_goals first | assumption | (exfalso; revert h; decide)
  · intro h
    subst h
    decide +kernel
theorem lk_z {B T : Nat → Nat} {i : Nat} {S : rS} (h : tg B T i < 7) : rs_lk B T i S = S := by
  unfold rs_lk
  rw [if_neg (by omega), if_neg (by omega), if_neg (by omega), if_neg (by omega)]
theorem k_ft0 {B T : Nat → Nat} {x : Nat} (h : tl B T x ≤ 0) : k_ft B T x = false := by
  refine decide_eq_false (fun r => ?_)
  unfold te at r
  rw [show T x + 3 + tl B T x = T x + 3 by omega, gm_ft_q] at r
  cases r
set_option maxRecDepth 100000 in
theorem c_mlook {L : Nat} {xs : Nat → Int32} {d n : Nat} {B T : Nat → Nat} {N : Nat → Int32} {z : rZ} {h : List qx_E} {Q : Option Value → List qx_E → Prop} {i p0 : Nat} (hT : TR h B n (.inl p0) N z) (hP : PQ B n T N) (hi : 1 ≤ i ∧ i < 64) (hN : N (20 + i) = nI (T i)) (hK : ∀ h', TR h' B n (rs_lk B T i (.inl p0)) N z → Q none h') : wp_W L xs (d + 5) 135 0 (lv_args 0 [.ref 13, .int (nI i)]) [] h Q := by
  obtain ⟨s0, fa0, hb, -, hc0, -⟩ := TR_x hT
  have ht0 := PG_tg hP.2.1 i
  have hn9 := hP.1
  show wp_W L xs _ 135 0 [(0, .ref 13), (1, .int (nI i))] [] h Q
  refine wp_aload_n dq_135_0 rfl ?_
  refine wp_iload_n dq_135_1 rfl ?_
  refine wp_cve1 dq_135_2 mt_135_138 (ob_of (mw_0 hb)) ⟨by decide +kernel, by decide +kernel⟩ (Nat.le_of_ble_eq_true rfl) (Nat.le_of_ble_eq_true rfl) (c_tag (d := d + 3) (TR_A hT) hP (by omega)) ?_
  refine wp_istore_n (lv' := [(0, .ref 13), (1, .int (nI i)), (2, .int (nI (tg B T i)))]) dq_135_5 (by decide) rfl ?_
  refine wp_aload_n dq_135_6 rfl ?_
  refine wp_getf (w := .ref 15) dq_135_7 fl_135_13 (mw_0 hb) rfl ?_
  refine wp_bipush (x := nI 20) dq_135_10 rfl ?_
  refine wp_iload_n dq_135_12 rfl ?_
  refine wp_iaddN dq_135_13 ?_
  refine wp_ialdV (z := (nI (T i))) dq_135_14 (mw_2 hb) (by omega) (by decide) (hN) ?_
  refine wp_istore_n (lv' := [(0, .ref 13), (1, .int (nI i)), (2, .int (nI (tg B T i))), (3, .int (nI (T i)))]) dq_135_15 (by decide) rfl ?_
  refine wp_iload_n dq_135_16 rfl ?_
  refine wp_bipush (x := nI 7) dq_135_17 rfl ?_
  refine wp_ic_ltN (tgt := 29) dq_135_19 rfl (by omega) (by omega) (fun c1 => ?_) (fun c1 => ?_)
  · exact wp_vre dq_135_29 rfl (hK _ (by rw [lk_z (by omega)]; exact hT))
  · obtain ⟨a1, a2, a3, a4, a5, a6, a7⟩ := pq_e hP (show tg B T i ≠ 0 by omega)
    have hu1 : bu_U B (T i + 1) 2 < 65536 := AW_u2 (TR_A hT) (by omega)
    refine wp_aload_n dq_135_22 rfl ?_
    refine wp_getf (w := .int (s0 4)) dq_135_23 fl_135_116 (mw_0 hb) rfl ?_
    refine wp_if_eq (tgt := 30) dq_135_26 rfl (fun c2 => ?_) (fun c2 => ?_)
    · refine wp_aload_n dq_135_30 rfl ?_
      refine wp_iload_n dq_135_31 rfl ?_
      refine wp_cve1 dq_135_32 mt_135_148 (ob_of (mw_0 hb)) ⟨by decide +kernel, by decide +kernel⟩ (Nat.le_of_ble_eq_true rfl) (Nat.le_of_ble_eq_true rfl) (c_operand (d := d + 2) (TR_A hT) hP (by omega)) ?_
      refine wp_istore (lv' := [(0, .ref 13), (1, .int (nI i)), (2, .int (nI (tg B T i))), (3, .int (nI (T i))), (4, .int (nI (bu_U B (T i + 1) 2)))]) dq_135_35 (by decide) rfl ?_
      refine wp_iload_n dq_135_37 rfl ?_
      refine wp_bipush (x := nI 8) dq_135_38 rfl ?_
      refine wp_ic_leN (tgt := 53) dq_135_40 rfl (by omega) (by omega) (fun c3 => ?_) (fun c3 => ?_)
      · refine wp_iconst (x := nI 0) dq_135_53 rfl ?_
        refine wp_istore (lv' := [(0, .ref 13), (1, .int (nI i)), (2, .int (nI (tg B T i))), (3, .int (nI (T i))), (4, .int (nI (bu_U B (T i + 1) 2))), (5, .int (nI 0))]) dq_135_54 (by decide) rfl ?_
        refine wp_iload_n dq_135_56 rfl ?_
        refine wp_bipush (x := nI 9) dq_135_57 rfl ?_
        refine wp_ic_geN (tgt := 136) dq_135_59 rfl (by omega) (by omega) (fun c4 => ?_) (fun c4 => ?_)
        · exact absurd c4 (by omega)
        · refine wp_aload_n dq_135_62 rfl ?_
          refine wp_iload dq_135_63 rfl ?_
          have ht65 := PG_tg hP.2.1 (bu_U B (T i + 1) 2)
          refine wp_cve1 dq_135_65 mt_135_138 (ob_of (mw_0 hb)) ⟨by decide +kernel, by decide +kernel⟩ (Nat.le_of_ble_eq_true rfl) (Nat.le_of_ble_eq_true rfl) (c_tag (d := d + 3) (TR_A hT) hP (by omega)) ?_
          refine wp_iconst (x := nI 1) dq_135_68 rfl ?_
          refine wp_ic_eqN (tgt := 81) dq_135_69 rfl (by omega) (by omega) (fun c5 => ?_) (fun c5 => ?_)
          · refine wp_iload_n dq_135_81 rfl ?_
            refine wp_bipush (x := nI 7) dq_135_82 rfl ?_
            refine wp_ic_neN (tgt := 257) dq_135_84 rfl (by omega) (by omega) (fun c6 => ?_) (fun c6 => ?_)
            · have g9 : tg B T i = 8 := by omega
              exact wp_vre dq_135_257 rfl (hK _ (by rw [show rs_lk B T i (.inl p0) = .inl p0 by simp [rs_lk, rs_w, k_ar, g9, c5]]; exact hT))
            · refine wp_aload_n dq_135_87 rfl ?_
              refine wp_iload dq_135_88 rfl ?_
              refine wp_cve1 dq_135_90 mt_135_151 (ob_of (mw_0 hb)) ⟨by decide +kernel, by decide +kernel⟩ (Nat.le_of_ble_eq_true rfl) (Nat.le_of_ble_eq_true rfl) (c_iscn (d := d + 1) (TR_A hT) hP c5) ?_
              refine wp_if_neB (tgt := 257) dq_135_93 rfl (fun c7 => ?_) (fun c7 => ?_)
              · have g9 : tg B T i = 7 := by omega
                exact wp_vre dq_135_257 rfl (hK _ (by rw [show rs_lk B T i (.inl p0) = .inl p0 by simp [rs_lk, rs_w, k_ar, g9, c5, c7]]; exact hT))
              · refine wp_aload_n dq_135_96 rfl ?_
                refine wp_iload dq_135_97 rfl ?_
                have hx99 := pq_t hP c5
                refine wp_cve1 dq_135_99 mt_135_48 (ob_of (mw_0 hb)) ⟨by decide +kernel, by decide +kernel⟩ (Nat.le_of_ble_eq_true rfl) (Nat.le_of_ble_eq_true rfl) (c_count (d := d + 2) (TR_A hT) hP (by rw [c5]; decide)) ?_
                refine wp_if_leN (tgt := 126) dq_135_102 rfl (by omega) (fun c8 => ?_) (fun c8 => ?_)
                · refine wp_aload_n dq_135_126 rfl ?_
                  refine wp_bipush (x := nI 7) dq_135_127 rfl ?_
                  refine wp_iload_n dq_135_129 rfl ?_
                  refine wp_cv2 (P := fun v h' => v = none ∧ TR h' B n (.inr (7, T i)) N z) dq_135_130 mt_135_122 (ob_of (mw_0 hb)) ⟨by decide +kernel, by decide +kernel⟩ (Nat.le_of_ble_eq_true rfl) (Nat.le_of_ble_eq_true rfl) (c_fail hT (by decide) (fun hq => rfl) (fun h' k1 => ⟨rfl, k1⟩)) (fun v9 h9 q9 => ?_)
                  obtain ⟨rfl, hT⟩ := q9
                  refine wp_goto (tgt := 257) dq_135_133 rfl ?_
                  have g9 : tg B T i = 7 := by omega
                  have k9 : k_ft B T (bu_U B (T i + 1) 2) = false := k_ft0 c8
                  exact wp_vre dq_135_257 rfl (hK _ (by rw [show rs_lk B T i (.inl p0) = .inr (7, T i) by simp [rs_lk, rs_w, k_ar, g9, c5, c7, k9]]; exact hT))
                · refine wp_aload_n dq_135_105 rfl ?_
                  refine wp_iload dq_135_106 rfl ?_
                  refine wp_iconst (x := nI 0) dq_135_108 rfl ?_
                  have hy := hx99.2.2.2.2.2 0 (by omega)
                  refine wp_cve2 dq_135_109 mt_135_53 (ob_of (mw_0 hb)) ⟨by decide +kernel, by decide +kernel⟩ (Nat.le_of_ble_eq_true rfl) (Nat.le_of_ble_eq_true rfl) (c_char (d := d + 2) (TR_A hT) hP c5 (j := 0) (by omega)) ?_
                  refine wp_bipush (x := nI 91) dq_135_112 rfl ?_
                  refine wp_ic_neN (tgt := 126) dq_135_114 rfl (by omega) (by omega) (fun c9 => ?_) (fun c9 => ?_)
                  · refine wp_aload_n dq_135_126 rfl ?_
                    refine wp_bipush (x := nI 7) dq_135_127 rfl ?_
                    refine wp_iload_n dq_135_129 rfl ?_
                    refine wp_cv2 (P := fun v h' => v = none ∧ TR h' B n (.inr (7, T i)) N z) dq_135_130 mt_135_122 (ob_of (mw_0 hb)) ⟨by decide +kernel, by decide +kernel⟩ (Nat.le_of_ble_eq_true rfl) (Nat.le_of_ble_eq_true rfl) (c_fail hT (by decide) (fun hq => rfl) (fun h' k1 => ⟨rfl, k1⟩)) (fun v9 h9 q9 => ?_)
                    obtain ⟨rfl, hT⟩ := q9
                    refine wp_goto (tgt := 257) dq_135_133 rfl ?_
                    have g9 : tg B T i = 7 := by omega
                    exact wp_vre dq_135_257 rfl (hK _ (by rw [show rs_lk B T i (.inl p0) = .inr (7, T i) by simp [rs_lk, rs_w, k_ar, g9, c5, c7, c9]]; exact hT))
                  · refine wp_aload_n dq_135_117 rfl ?_
                    refine wp_iload dq_135_118 rfl ?_
                    refine wp_cve1 dq_135_120 mt_135_154 (ob_of (mw_0 hb)) ⟨by decide +kernel, by decide +kernel⟩ (Nat.le_of_ble_eq_true rfl) (Nat.le_of_ble_eq_true rfl) (c_isft (d := d + 1) (TR_A hT) hP c5) ?_
                    refine wp_if_neB (tgt := 257) dq_135_123 rfl (fun c10 => ?_) (fun c10 => ?_)
                    · have g9 : tg B T i = 7 := by omega
                      exact wp_vre dq_135_257 rfl (hK _ (by rw [show rs_lk B T i (.inl p0) = .inl p0 by simp [rs_lk, rs_w, k_ar, g9, c5, c7, c9, c10]]; exact hT))
                    · refine wp_aload_n dq_135_126 rfl ?_
                      refine wp_bipush (x := nI 7) dq_135_127 rfl ?_
                      refine wp_iload_n dq_135_129 rfl ?_
                      refine wp_cv2 (P := fun v h' => v = none ∧ TR h' B n (.inr (7, T i)) N z) dq_135_130 mt_135_122 (ob_of (mw_0 hb)) ⟨by decide +kernel, by decide +kernel⟩ (Nat.le_of_ble_eq_true rfl) (Nat.le_of_ble_eq_true rfl) (c_fail hT (by decide) (fun hq => rfl) (fun h' k1 => ⟨rfl, k1⟩)) (fun v9 h9 q9 => ?_)
                      obtain ⟨rfl, hT⟩ := q9
                      refine wp_goto (tgt := 257) dq_135_133 rfl ?_
                      have g9 : tg B T i = 7 := by omega
                      exact wp_vre dq_135_257 rfl (hK _ (by rw [show rs_lk B T i (.inl p0) = .inr (7, T i) by simp [rs_lk, rs_w, k_ar, g9, c5, c7, c9, c10]]; exact hT))
          · refine wp_aload_n dq_135_72 rfl ?_
            refine wp_iconst (x := nI 5) dq_135_73 rfl ?_
            refine wp_iload_n dq_135_74 rfl ?_
            refine wp_cv2 (P := fun v h' => v = none ∧ TR h' B n (.inr (5, T i)) N z) dq_135_75 mt_135_122 (ob_of (mw_0 hb)) ⟨by decide +kernel, by decide +kernel⟩ (Nat.le_of_ble_eq_true rfl) (Nat.le_of_ble_eq_true rfl) (c_fail hT (by decide) (fun hq => rfl) (fun h' k1 => ⟨rfl, k1⟩)) (fun v9 h9 q9 => ?_)
            obtain ⟨rfl, hT⟩ := q9
            refine wp_goto (tgt := 257) dq_135_78 rfl ?_
            have g9 : tg B T i = 7 ∨ tg B T i = 8 := by omega
            rcases g9 with g9 | g9 <;> exact wp_vre dq_135_257 rfl (hK _ (by rw [show rs_lk B T i (.inl p0) = .inr (5, T i) by simp [rs_lk, rs_w, k_ar, g9, c5]]; exact hT))
      · have a8 := eOK_5 (hP.2.1 i a3).2.2 (by omega)
        have hu2 : bu_U B (T i + 3) 2 < 65536 := AW_u2 (TR_A hT) (by omega)
        refine wp_aload_n dq_135_43 rfl ?_
        refine wp_iload_n dq_135_44 rfl ?_
        refine wp_iconst (x := nI 3) dq_135_45 rfl ?_
        refine wp_iaddN dq_135_46 ?_
        refine wp_cve1 dq_135_47 mt_135_42 (ob_of (mw_0 hb)) ⟨by decide +kernel, by decide +kernel⟩ (Nat.le_of_ble_eq_true rfl) (Nat.le_of_ble_eq_true rfl) (c_two (d := d + 3) (TR_A hT) (by omega)) ?_
        refine wp_goto (tgt := 54) dq_135_50 rfl ?_
        refine wp_istore (lv' := [(0, .ref 13), (1, .int (nI i)), (2, .int (nI (tg B T i))), (3, .int (nI (T i))), (4, .int (nI (bu_U B (T i + 1) 2))), (5, .int (nI (bu_U B (T i + 3) 2)))]) dq_135_54 (by decide) rfl ?_
        refine wp_iload_n dq_135_56 rfl ?_
        refine wp_bipush (x := nI 9) dq_135_57 rfl ?_
        refine wp_ic_geN (tgt := 136) dq_135_59 rfl (by omega) (by omega) (fun c11 => ?_) (fun c11 => ?_)
        · refine wp_iload_n dq_135_136 rfl ?_
          refine wp_bipush (x := nI 12) dq_135_137 rfl ?_
          refine wp_ic_geN (tgt := 173) dq_135_139 rfl (by omega) (by omega) (fun c12 => ?_) (fun c12 => ?_)
          · refine wp_aload_n dq_135_173 rfl ?_
            refine wp_iload dq_135_174 rfl ?_
            have ht176 := PG_tg hP.2.1 (bu_U B (T i + 1) 2)
            refine wp_cve1 dq_135_176 mt_135_138 (ob_of (mw_0 hb)) ⟨by decide +kernel, by decide +kernel⟩ (Nat.le_of_ble_eq_true rfl) (Nat.le_of_ble_eq_true rfl) (c_tag (d := d + 3) (TR_A hT) hP (by omega)) ?_
            refine wp_iconst (x := nI 1) dq_135_179 rfl ?_
            refine wp_ic_neN (tgt := 193) dq_135_180 rfl (by omega) (by omega) (fun c13 => ?_) (fun c13 => ?_)
            · refine wp_aload_n dq_135_193 rfl ?_
              refine wp_iconst (x := nI 5) dq_135_194 rfl ?_
              refine wp_iload_n dq_135_195 rfl ?_
              refine wp_cv2 (P := fun v h' => v = none ∧ TR h' B n (.inr (5, T i)) N z) dq_135_196 mt_135_122 (ob_of (mw_0 hb)) ⟨by decide +kernel, by decide +kernel⟩ (Nat.le_of_ble_eq_true rfl) (Nat.le_of_ble_eq_true rfl) (c_fail hT (by decide) (fun hq => rfl) (fun h' k1 => ⟨rfl, k1⟩)) (fun v9 h9 q9 => ?_)
              obtain ⟨rfl, hT⟩ := q9
              refine wp_goto (tgt := 257) dq_135_199 rfl ?_
              have g9 : tg B T i = 12 := by omega
              exact wp_vre dq_135_257 rfl (hK _ (by rw [show rs_lk B T i (.inl p0) = .inr (5, T i) by simp [rs_lk, rs_w, k_ar, g9, c13]]; exact hT))
            · refine wp_aload_n dq_135_183 rfl ?_
              refine wp_iload dq_135_184 rfl ?_
              have ht186 := PG_tg hP.2.1 (bu_U B (T i + 3) 2)
              refine wp_cve1 dq_135_186 mt_135_138 (ob_of (mw_0 hb)) ⟨by decide +kernel, by decide +kernel⟩ (Nat.le_of_ble_eq_true rfl) (Nat.le_of_ble_eq_true rfl) (c_tag (d := d + 3) (TR_A hT) hP (by omega)) ?_
              refine wp_iconst (x := nI 1) dq_135_189 rfl ?_
              refine wp_ic_eqN (tgt := 202) dq_135_190 rfl (by omega) (by omega) (fun c14 => ?_) (fun c14 => ?_)
              · refine wp_aload_n dq_135_202 rfl ?_
                refine wp_iload dq_135_203 rfl ?_
                refine wp_cve1 dq_135_205 mt_135_157 (ob_of (mw_0 hb)) ⟨by decide +kernel, by decide +kernel⟩ (Nat.le_of_ble_eq_true rfl) (Nat.le_of_ble_eq_true rfl) (c_ism (d := d + 1) (TR_A hT) hP c13) ?_
                refine wp_if_neB (tgt := 232) dq_135_208 rfl (fun c15 => ?_) (fun c15 => ?_)
                · refine wp_aload_n dq_135_232 rfl ?_
                  refine wp_iload dq_135_233 rfl ?_
                  refine wp_cve1 dq_135_235 mt_135_154 (ob_of (mw_0 hb)) ⟨by decide +kernel, by decide +kernel⟩ (Nat.le_of_ble_eq_true rfl) (Nat.le_of_ble_eq_true rfl) (c_isft (d := d + 1) (TR_A hT) hP c14) ?_
                  refine wp_if_neB (tgt := 257) dq_135_238 rfl (fun c16 => ?_) (fun c16 => ?_)
                  · have g9 : tg B T i = 12 := by omega
                    exact wp_vre dq_135_257 rfl (hK _ (by rw [show rs_lk B T i (.inl p0) = .inl p0 by simp [rs_lk, rs_w, k_ar, g9, c13, c14, c15, c16]]; exact hT))
                  · refine wp_aload_n dq_135_241 rfl ?_
                    refine wp_iload dq_135_242 rfl ?_
                    refine wp_cve1 dq_135_244 mt_135_163 (ob_of (mw_0 hb)) ⟨by decide +kernel, by decide +kernel⟩ (Nat.le_of_ble_eq_true rfl) (Nat.le_of_ble_eq_true rfl) (c_ismt (d := d + 1) (TR_A hT) hP c14) ?_
                    refine wp_if_neB (tgt := 257) dq_135_247 rfl (fun c17 => ?_) (fun c17 => ?_)
                    · have g9 : tg B T i = 12 := by omega
                      exact wp_vre dq_135_257 rfl (hK _ (by rw [show rs_lk B T i (.inl p0) = .inl p0 by simp [rs_lk, rs_w, k_ar, g9, c13, c14, c15, c16, c17]]; exact hT))
                    · refine wp_aload_n dq_135_250 rfl ?_
                      refine wp_bipush (x := nI 8) dq_135_251 rfl ?_
                      refine wp_iload_n dq_135_253 rfl ?_
                      refine wp_cv2 (P := fun v h' => v = none ∧ TR h' B n (.inr (8, T i)) N z) dq_135_254 mt_135_122 (ob_of (mw_0 hb)) ⟨by decide +kernel, by decide +kernel⟩ (Nat.le_of_ble_eq_true rfl) (Nat.le_of_ble_eq_true rfl) (c_fail hT (by decide) (fun hq => rfl) (fun h' k1 => ⟨rfl, k1⟩)) (fun v9 h9 q9 => ?_)
                      obtain ⟨rfl, hT⟩ := q9
                      have g9 : tg B T i = 12 := by omega
                      exact wp_vre dq_135_257 rfl (hK _ (by rw [show rs_lk B T i (.inl p0) = .inr (8, T i) by simp [rs_lk, rs_w, k_ar, g9, c13, c14, c15, c16, c17]]; exact hT))
                · refine wp_aload_n dq_135_211 rfl ?_
                  refine wp_iload dq_135_212 rfl ?_
                  have hk214 := kn_12 (tx B T (bu_U B (T i + 1) 2))
                  refine wp_cve1 dq_135_214 mt_135_160 (ob_of (mw_0 hb)) ⟨by decide +kernel, by decide +kernel⟩ (Nat.le_of_ble_eq_true rfl) (Nat.le_of_ble_eq_true rfl) (c_kn (d := d) (TR_A hT) hP c13) ?_
                  refine wp_bipush (x := nI 11) dq_135_217 rfl ?_
                  refine wp_ic_eqN (tgt := 232) dq_135_219 rfl (by omega) (by omega) (fun c18 => ?_) (fun c18 => ?_)
                  · refine wp_aload_n dq_135_232 rfl ?_
                    refine wp_iload dq_135_233 rfl ?_
                    refine wp_cve1 dq_135_235 mt_135_154 (ob_of (mw_0 hb)) ⟨by decide +kernel, by decide +kernel⟩ (Nat.le_of_ble_eq_true rfl) (Nat.le_of_ble_eq_true rfl) (c_isft (d := d + 1) (TR_A hT) hP c14) ?_
                    refine wp_if_neB (tgt := 257) dq_135_238 rfl (fun c19 => ?_) (fun c19 => ?_)
                    · have g9 : tg B T i = 12 := by omega
                      have k9 :  (tx B T (bu_U B (T i + 1) 2) = wd 14) := kn_11.mp c18
                      exact wp_vre dq_135_257 rfl (hK _ (by rw [show rs_lk B T i (.inl p0) = .inl p0 by simp [rs_lk, rs_w, k_ar, g9, c13, c14, c15, k9, c19]]; exact hT))
                    · refine wp_aload_n dq_135_241 rfl ?_
                      refine wp_iload dq_135_242 rfl ?_
                      refine wp_cve1 dq_135_244 mt_135_163 (ob_of (mw_0 hb)) ⟨by decide +kernel, by decide +kernel⟩ (Nat.le_of_ble_eq_true rfl) (Nat.le_of_ble_eq_true rfl) (c_ismt (d := d + 1) (TR_A hT) hP c14) ?_
                      refine wp_if_neB (tgt := 257) dq_135_247 rfl (fun c20 => ?_) (fun c20 => ?_)
                      · have g9 : tg B T i = 12 := by omega
                        have k9 :  (tx B T (bu_U B (T i + 1) 2) = wd 14) := kn_11.mp c18
                        exact wp_vre dq_135_257 rfl (hK _ (by rw [show rs_lk B T i (.inl p0) = .inl p0 by simp [rs_lk, rs_w, k_ar, g9, c13, c14, c15, k9, c19, c20]]; exact hT))
                      · refine wp_aload_n dq_135_250 rfl ?_
                        refine wp_bipush (x := nI 8) dq_135_251 rfl ?_
                        refine wp_iload_n dq_135_253 rfl ?_
                        refine wp_cv2 (P := fun v h' => v = none ∧ TR h' B n (.inr (8, T i)) N z) dq_135_254 mt_135_122 (ob_of (mw_0 hb)) ⟨by decide +kernel, by decide +kernel⟩ (Nat.le_of_ble_eq_true rfl) (Nat.le_of_ble_eq_true rfl) (c_fail hT (by decide) (fun hq => rfl) (fun h' k1 => ⟨rfl, k1⟩)) (fun v9 h9 q9 => ?_)
                        obtain ⟨rfl, hT⟩ := q9
                        have g9 : tg B T i = 12 := by omega
                        have k9 :  (tx B T (bu_U B (T i + 1) 2) = wd 14) := kn_11.mp c18
                        exact wp_vre dq_135_257 rfl (hK _ (by rw [show rs_lk B T i (.inl p0) = .inr (8, T i) by simp [rs_lk, rs_w, k_ar, g9, c13, c14, c15, k9, c19, c20]]; exact hT))
                  · refine wp_aload_n dq_135_222 rfl ?_
                    refine wp_bipush (x := nI 7) dq_135_223 rfl ?_
                    refine wp_iload_n dq_135_225 rfl ?_
                    refine wp_cv2 (P := fun v h' => v = none ∧ TR h' B n (.inr (7, T i)) N z) dq_135_226 mt_135_122 (ob_of (mw_0 hb)) ⟨by decide +kernel, by decide +kernel⟩ (Nat.le_of_ble_eq_true rfl) (Nat.le_of_ble_eq_true rfl) (c_fail hT (by decide) (fun hq => rfl) (fun h' k1 => ⟨rfl, k1⟩)) (fun v9 h9 q9 => ?_)
                    obtain ⟨rfl, hT⟩ := q9
                    refine wp_goto (tgt := 257) dq_135_229 rfl ?_
                    have g9 : tg B T i = 12 := by omega
                    have k9 : ¬ (tx B T (bu_U B (T i + 1) 2) = wd 14) := fun r => c18 (kn_11.mpr r)
                    exact wp_vre dq_135_257 rfl (hK _ (by rw [show rs_lk B T i (.inl p0) = .inr (7, T i) by simp [rs_lk, rs_w, k_ar, g9, c13, c14, c15, k9]]; exact hT))
              · refine wp_aload_n dq_135_193 rfl ?_
                refine wp_iconst (x := nI 5) dq_135_194 rfl ?_
                refine wp_iload_n dq_135_195 rfl ?_
                refine wp_cv2 (P := fun v h' => v = none ∧ TR h' B n (.inr (5, T i)) N z) dq_135_196 mt_135_122 (ob_of (mw_0 hb)) ⟨by decide +kernel, by decide +kernel⟩ (Nat.le_of_ble_eq_true rfl) (Nat.le_of_ble_eq_true rfl) (c_fail hT (by decide) (fun hq => rfl) (fun h' k1 => ⟨rfl, k1⟩)) (fun v9 h9 q9 => ?_)
                obtain ⟨rfl, hT⟩ := q9
                refine wp_goto (tgt := 257) dq_135_199 rfl ?_
                have g9 : tg B T i = 12 := by omega
                exact wp_vre dq_135_257 rfl (hK _ (by rw [show rs_lk B T i (.inl p0) = .inr (5, T i) by simp [rs_lk, rs_w, k_ar, g9, c13, c14]]; exact hT))
          · refine wp_aload_n dq_135_142 rfl ?_
            refine wp_iload dq_135_143 rfl ?_
            have ht145 := PG_tg hP.2.1 (bu_U B (T i + 1) 2)
            refine wp_cve1 dq_135_145 mt_135_138 (ob_of (mw_0 hb)) ⟨by decide +kernel, by decide +kernel⟩ (Nat.le_of_ble_eq_true rfl) (Nat.le_of_ble_eq_true rfl) (c_tag (d := d + 3) (TR_A hT) hP (by omega)) ?_
            refine wp_bipush (x := nI 7) dq_135_148 rfl ?_
            refine wp_ic_neN (tgt := 164) dq_135_150 rfl (by omega) (by omega) (fun c21 => ?_) (fun c21 => ?_)
            · refine wp_aload_n dq_135_164 rfl ?_
              refine wp_iconst (x := nI 5) dq_135_165 rfl ?_
              refine wp_iload_n dq_135_166 rfl ?_
              refine wp_cv2 (P := fun v h' => v = none ∧ TR h' B n (.inr (5, T i)) N z) dq_135_167 mt_135_122 (ob_of (mw_0 hb)) ⟨by decide +kernel, by decide +kernel⟩ (Nat.le_of_ble_eq_true rfl) (Nat.le_of_ble_eq_true rfl) (c_fail hT (by decide) (fun hq => rfl) (fun h' k1 => ⟨rfl, k1⟩)) (fun v9 h9 q9 => ?_)
              obtain ⟨rfl, hT⟩ := q9
              refine wp_goto (tgt := 257) dq_135_170 rfl ?_
              have g9 : tg B T i = 9 ∨ tg B T i = 10 ∨ tg B T i = 11 := by omega
              rcases g9 with g9 | g9 | g9 <;> exact wp_vre dq_135_257 rfl (hK _ (by rw [show rs_lk B T i (.inl p0) = .inr (5, T i) by simp [rs_lk, rs_w, k_ar, g9, c21]]; exact hT))
            · refine wp_aload_n dq_135_153 rfl ?_
              refine wp_iload dq_135_154 rfl ?_
              have ht156 := PG_tg hP.2.1 (bu_U B (T i + 3) 2)
              refine wp_cve1 dq_135_156 mt_135_138 (ob_of (mw_0 hb)) ⟨by decide +kernel, by decide +kernel⟩ (Nat.le_of_ble_eq_true rfl) (Nat.le_of_ble_eq_true rfl) (c_tag (d := d + 3) (TR_A hT) hP (by omega)) ?_
              refine wp_bipush (x := nI 12) dq_135_159 rfl ?_
              refine wp_ic_eqN (tgt := 257) dq_135_161 rfl (by omega) (by omega) (fun c22 => ?_) (fun c22 => ?_)
              · have g9 : tg B T i = 9 ∨ tg B T i = 10 ∨ tg B T i = 11 := by omega
                rcases g9 with g9 | g9 | g9 <;> exact wp_vre dq_135_257 rfl (hK _ (by rw [show rs_lk B T i (.inl p0) = .inl p0 by simp [rs_lk, rs_w, k_ar, g9, c21, c22]]; exact hT))
              · refine wp_aload_n dq_135_164 rfl ?_
                refine wp_iconst (x := nI 5) dq_135_165 rfl ?_
                refine wp_iload_n dq_135_166 rfl ?_
                refine wp_cv2 (P := fun v h' => v = none ∧ TR h' B n (.inr (5, T i)) N z) dq_135_167 mt_135_122 (ob_of (mw_0 hb)) ⟨by decide +kernel, by decide +kernel⟩ (Nat.le_of_ble_eq_true rfl) (Nat.le_of_ble_eq_true rfl) (c_fail hT (by decide) (fun hq => rfl) (fun h' k1 => ⟨rfl, k1⟩)) (fun v9 h9 q9 => ?_)
                obtain ⟨rfl, hT⟩ := q9
                refine wp_goto (tgt := 257) dq_135_170 rfl ?_
                have g9 : tg B T i = 9 ∨ tg B T i = 10 ∨ tg B T i = 11 := by omega
                rcases g9 with g9 | g9 | g9 <;> exact wp_vre dq_135_257 rfl (hK _ (by rw [show rs_lk B T i (.inl p0) = .inr (5, T i) by simp [rs_lk, rs_w, k_ar, g9, c21, c22]]; exact hT))
        · exact absurd c11 (by omega)
    · exact absurd (hc0.mpr (snd_l p0)) c2
