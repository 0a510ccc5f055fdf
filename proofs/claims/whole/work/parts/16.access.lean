def f_bitCount (x : Int32) : Int32 := ((((((((x - ((((x : Int32)).toUInt32 >>> ((1 : Int32).toUInt32 &&& Int32.toUInt32 31)).toInt32 &&& 1431655765)) &&& 858993459) + (((((x - ((((x : Int32)).toUInt32 >>> ((1 : Int32).toUInt32 &&& Int32.toUInt32 31)).toInt32 &&& 1431655765)) : Int32)).toUInt32 >>> ((2 : Int32).toUInt32 &&& Int32.toUInt32 31)).toInt32 &&& 858993459)) + ((((((x - ((((x : Int32)).toUInt32 >>> ((1 : Int32).toUInt32 &&& Int32.toUInt32 31)).toInt32 &&& 1431655765)) &&& 858993459) + (((((x - ((((x : Int32)).toUInt32 >>> ((1 : Int32).toUInt32 &&& Int32.toUInt32 31)).toInt32 &&& 1431655765)) : Int32)).toUInt32 >>> ((2 : Int32).toUInt32 &&& Int32.toUInt32 31)).toInt32 &&& 858993459)) : Int32)).toUInt32 >>> ((4 : Int32).toUInt32 &&& Int32.toUInt32 31)).toInt32) &&& 252645135) + ((((((((x - ((((x : Int32)).toUInt32 >>> ((1 : Int32).toUInt32 &&& Int32.toUInt32 31)).toInt32 &&& 1431655765)) &&& 858993459) + (((((x - ((((x : Int32)).toUInt32 >>> ((1 : Int32).toUInt32 &&& Int32.toUInt32 31)).toInt32 &&& 1431655765)) : Int32)).toUInt32 >>> ((2 : Int32).toUInt32 &&& Int32.toUInt32 31)).toInt32 &&& 858993459)) + ((((((x - ((((x : Int32)).toUInt32 >>> ((1 : Int32).toUInt32 &&& Int32.toUInt32 31)).toInt32 &&& 1431655765)) &&& 858993459) + (((((x - ((((x : Int32)).toUInt32 >>> ((1 : Int32).toUInt32 &&& Int32.toUInt32 31)).toInt32 &&& 1431655765)) : Int32)).toUInt32 >>> ((2 : Int32).toUInt32 &&& Int32.toUInt32 31)).toInt32 &&& 858993459)) : Int32)).toUInt32 >>> ((4 : Int32).toUInt32 &&& Int32.toUInt32 31)).toInt32) &&& 252645135) : Int32)).toUInt32 >>> ((8 : Int32).toUInt32 &&& Int32.toUInt32 31)).toInt32) + (((((((((x - ((((x : Int32)).toUInt32 >>> ((1 : Int32).toUInt32 &&& Int32.toUInt32 31)).toInt32 &&& 1431655765)) &&& 858993459) + (((((x - ((((x : Int32)).toUInt32 >>> ((1 : Int32).toUInt32 &&& Int32.toUInt32 31)).toInt32 &&& 1431655765)) : Int32)).toUInt32 >>> ((2 : Int32).toUInt32 &&& Int32.toUInt32 31)).toInt32 &&& 858993459)) + ((((((x - ((((x : Int32)).toUInt32 >>> ((1 : Int32).toUInt32 &&& Int32.toUInt32 31)).toInt32 &&& 1431655765)) &&& 858993459) + (((((x - ((((x : Int32)).toUInt32 >>> ((1 : Int32).toUInt32 &&& Int32.toUInt32 31)).toInt32 &&& 1431655765)) : Int32)).toUInt32 >>> ((2 : Int32).toUInt32 &&& Int32.toUInt32 31)).toInt32 &&& 858993459)) : Int32)).toUInt32 >>> ((4 : Int32).toUInt32 &&& Int32.toUInt32 31)).toInt32) &&& 252645135) + ((((((((x - ((((x : Int32)).toUInt32 >>> ((1 : Int32).toUInt32 &&& Int32.toUInt32 31)).toInt32 &&& 1431655765)) &&& 858993459) + (((((x - ((((x : Int32)).toUInt32 >>> ((1 : Int32).toUInt32 &&& Int32.toUInt32 31)).toInt32 &&& 1431655765)) : Int32)).toUInt32 >>> ((2 : Int32).toUInt32 &&& Int32.toUInt32 31)).toInt32 &&& 858993459)) + ((((((x - ((((x : Int32)).toUInt32 >>> ((1 : Int32).toUInt32 &&& Int32.toUInt32 31)).toInt32 &&& 1431655765)) &&& 858993459) + (((((x - ((((x : Int32)).toUInt32 >>> ((1 : Int32).toUInt32 &&& Int32.toUInt32 31)).toInt32 &&& 1431655765)) : Int32)).toUInt32 >>> ((2 : Int32).toUInt32 &&& Int32.toUInt32 31)).toInt32 &&& 858993459)) : Int32)).toUInt32 >>> ((4 : Int32).toUInt32 &&& Int32.toUInt32 31)).toInt32) &&& 252645135) : Int32)).toUInt32 >>> ((8 : Int32).toUInt32 &&& Int32.toUInt32 31)).toInt32) : Int32)).toUInt32 >>> ((16 : Int32).toUInt32 &&& Int32.toUInt32 31)).toInt32) &&& 63)
set_option maxRecDepth 100000 in
theorem c_bitCount {L : Nat} {xs : Nat → Int32} {d : Nat} {h : List qx_E}  {x : Int32}  : qe_E L xs d 85 [.int x] h (some (.int (f_bitCount x))) h := by
  show wp_W L xs _ 85 0 [(0, .int x)] [] h _
  refine wp_iload_n dq_85_0 rfl ?_
  refine wp_iload_n dq_85_1 rfl ?_
  refine wp_iconst (x := 1) dq_85_2 rfl ?_
  refine wp_iushr dq_85_3 ?_
  refine wp_ldcw (v := 1431655765) dq_85_4 (by decide +kernel) ?_
  refine wp_iand dq_85_7 ?_
  refine wp_isub dq_85_8 ?_
  refine wp_istore_n (lv' := [(0, .int (x - ((((x : Int32)).toUInt32 >>> ((1 : Int32).toUInt32 &&& Int32.toUInt32 31)).toInt32 &&& 1431655765)))]) dq_85_9 (by decide) rfl ?_
  refine wp_iload_n dq_85_10 rfl ?_
  refine wp_ldcw (v := 858993459) dq_85_11 (by decide +kernel) ?_
  refine wp_iand dq_85_14 ?_
  refine wp_iload_n dq_85_15 rfl ?_
  refine wp_iconst (x := 2) dq_85_16 rfl ?_
  refine wp_iushr dq_85_17 ?_
  refine wp_ldcw (v := 858993459) dq_85_18 (by decide +kernel) ?_
  refine wp_iand dq_85_21 ?_
  refine wp_iadd dq_85_22 ?_
  refine wp_istore_n (lv' := [(0, .int (((x - ((((x : Int32)).toUInt32 >>> ((1 : Int32).toUInt32 &&& Int32.toUInt32 31)).toInt32 &&& 1431655765)) &&& 858993459) + (((((x - ((((x : Int32)).toUInt32 >>> ((1 : Int32).toUInt32 &&& Int32.toUInt32 31)).toInt32 &&& 1431655765)) : Int32)).toUInt32 >>> ((2 : Int32).toUInt32 &&& Int32.toUInt32 31)).toInt32 &&& 858993459)))]) dq_85_23 (by decide) rfl ?_
  refine wp_iload_n dq_85_24 rfl ?_
  refine wp_iload_n dq_85_25 rfl ?_
  refine wp_iconst (x := 4) dq_85_26 rfl ?_
  refine wp_iushr dq_85_27 ?_
  refine wp_iadd dq_85_28 ?_
  refine wp_ldcw (v := 252645135) dq_85_29 (by decide +kernel) ?_
  refine wp_iand dq_85_32 ?_
  refine wp_istore_n (lv' := [(0, .int (((((x - ((((x : Int32)).toUInt32 >>> ((1 : Int32).toUInt32 &&& Int32.toUInt32 31)).toInt32 &&& 1431655765)) &&& 858993459) + (((((x - ((((x : Int32)).toUInt32 >>> ((1 : Int32).toUInt32 &&& Int32.toUInt32 31)).toInt32 &&& 1431655765)) : Int32)).toUInt32 >>> ((2 : Int32).toUInt32 &&& Int32.toUInt32 31)).toInt32 &&& 858993459)) + ((((((x - ((((x : Int32)).toUInt32 >>> ((1 : Int32).toUInt32 &&& Int32.toUInt32 31)).toInt32 &&& 1431655765)) &&& 858993459) + (((((x - ((((x : Int32)).toUInt32 >>> ((1 : Int32).toUInt32 &&& Int32.toUInt32 31)).toInt32 &&& 1431655765)) : Int32)).toUInt32 >>> ((2 : Int32).toUInt32 &&& Int32.toUInt32 31)).toInt32 &&& 858993459)) : Int32)).toUInt32 >>> ((4 : Int32).toUInt32 &&& Int32.toUInt32 31)).toInt32) &&& 252645135))]) dq_85_33 (by decide) rfl ?_
  refine wp_iload_n dq_85_34 rfl ?_
  refine wp_iload_n dq_85_35 rfl ?_
  refine wp_bipush (x := 8) dq_85_36 rfl ?_
  refine wp_iushr dq_85_38 ?_
  refine wp_iadd dq_85_39 ?_
  refine wp_istore_n (lv' := [(0, .int ((((((x - ((((x : Int32)).toUInt32 >>> ((1 : Int32).toUInt32 &&& Int32.toUInt32 31)).toInt32 &&& 1431655765)) &&& 858993459) + (((((x - ((((x : Int32)).toUInt32 >>> ((1 : Int32).toUInt32 &&& Int32.toUInt32 31)).toInt32 &&& 1431655765)) : Int32)).toUInt32 >>> ((2 : Int32).toUInt32 &&& Int32.toUInt32 31)).toInt32 &&& 858993459)) + ((((((x - ((((x : Int32)).toUInt32 >>> ((1 : Int32).toUInt32 &&& Int32.toUInt32 31)).toInt32 &&& 1431655765)) &&& 858993459) + (((((x - ((((x : Int32)).toUInt32 >>> ((1 : Int32).toUInt32 &&& Int32.toUInt32 31)).toInt32 &&& 1431655765)) : Int32)).toUInt32 >>> ((2 : Int32).toUInt32 &&& Int32.toUInt32 31)).toInt32 &&& 858993459)) : Int32)).toUInt32 >>> ((4 : Int32).toUInt32 &&& Int32.toUInt32 31)).toInt32) &&& 252645135) + ((((((((x - ((((x : Int32)).toUInt32 >>> ((1 : Int32).toUInt32 &&& Int32.toUInt32 31)).toInt32 &&& 1431655765)) &&& 858993459) + (((((x - ((((x : Int32)).toUInt32 >>> ((1 : Int32).toUInt32 &&& Int32.toUInt32 31)).toInt32 &&& 1431655765)) : Int32)).toUInt32 >>> ((2 : Int32).toUInt32 &&& Int32.toUInt32 31)).toInt32 &&& 858993459)) + ((((((x - ((((x : Int32)).toUInt32 >>> ((1 : Int32).toUInt32 &&& Int32.toUInt32 31)).toInt32 &&& 1431655765)) &&& 858993459) + (((((x - ((((x : Int32)).toUInt32 >>> ((1 : Int32).toUInt32 &&& Int32.toUInt32 31)).toInt32 &&& 1431655765)) : Int32)).toUInt32 >>> ((2 : Int32).toUInt32 &&& Int32.toUInt32 31)).toInt32 &&& 858993459)) : Int32)).toUInt32 >>> ((4 : Int32).toUInt32 &&& Int32.toUInt32 31)).toInt32) &&& 252645135) : Int32)).toUInt32 >>> ((8 : Int32).toUInt32 &&& Int32.toUInt32 31)).toInt32))]) dq_85_40 (by decide) rfl ?_
  refine wp_iload_n dq_85_41 rfl ?_
  refine wp_iload_n dq_85_42 rfl ?_
  refine wp_bipush (x := 16) dq_85_43 rfl ?_
  refine wp_iushr dq_85_45 ?_
  refine wp_iadd dq_85_46 ?_
  refine wp_istore_n (lv' := [(0, .int (((((((x - ((((x : Int32)).toUInt32 >>> ((1 : Int32).toUInt32 &&& Int32.toUInt32 31)).toInt32 &&& 1431655765)) &&& 858993459) + (((((x - ((((x : Int32)).toUInt32 >>> ((1 : Int32).toUInt32 &&& Int32.toUInt32 31)).toInt32 &&& 1431655765)) : Int32)).toUInt32 >>> ((2 : Int32).toUInt32 &&& Int32.toUInt32 31)).toInt32 &&& 858993459)) + ((((((x - ((((x : Int32)).toUInt32 >>> ((1 : Int32).toUInt32 &&& Int32.toUInt32 31)).toInt32 &&& 1431655765)) &&& 858993459) + (((((x - ((((x : Int32)).toUInt32 >>> ((1 : Int32).toUInt32 &&& Int32.toUInt32 31)).toInt32 &&& 1431655765)) : Int32)).toUInt32 >>> ((2 : Int32).toUInt32 &&& Int32.toUInt32 31)).toInt32 &&& 858993459)) : Int32)).toUInt32 >>> ((4 : Int32).toUInt32 &&& Int32.toUInt32 31)).toInt32) &&& 252645135) + ((((((((x - ((((x : Int32)).toUInt32 >>> ((1 : Int32).toUInt32 &&& Int32.toUInt32 31)).toInt32 &&& 1431655765)) &&& 858993459) + (((((x - ((((x : Int32)).toUInt32 >>> ((1 : Int32).toUInt32 &&& Int32.toUInt32 31)).toInt32 &&& 1431655765)) : Int32)).toUInt32 >>> ((2 : Int32).toUInt32 &&& Int32.toUInt32 31)).toInt32 &&& 858993459)) + ((((((x - ((((x : Int32)).toUInt32 >>> ((1 : Int32).toUInt32 &&& Int32.toUInt32 31)).toInt32 &&& 1431655765)) &&& 858993459) + (((((x - ((((x : Int32)).toUInt32 >>> ((1 : Int32).toUInt32 &&& Int32.toUInt32 31)).toInt32 &&& 1431655765)) : Int32)).toUInt32 >>> ((2 : Int32).toUInt32 &&& Int32.toUInt32 31)).toInt32 &&& 858993459)) : Int32)).toUInt32 >>> ((4 : Int32).toUInt32 &&& Int32.toUInt32 31)).toInt32) &&& 252645135) : Int32)).toUInt32 >>> ((8 : Int32).toUInt32 &&& Int32.toUInt32 31)).toInt32) + (((((((((x - ((((x : Int32)).toUInt32 >>> ((1 : Int32).toUInt32 &&& Int32.toUInt32 31)).toInt32 &&& 1431655765)) &&& 858993459) + (((((x - ((((x : Int32)).toUInt32 >>> ((1 : Int32).toUInt32 &&& Int32.toUInt32 31)).toInt32 &&& 1431655765)) : Int32)).toUInt32 >>> ((2 : Int32).toUInt32 &&& Int32.toUInt32 31)).toInt32 &&& 858993459)) + ((((((x - ((((x : Int32)).toUInt32 >>> ((1 : Int32).toUInt32 &&& Int32.toUInt32 31)).toInt32 &&& 1431655765)) &&& 858993459) + (((((x - ((((x : Int32)).toUInt32 >>> ((1 : Int32).toUInt32 &&& Int32.toUInt32 31)).toInt32 &&& 1431655765)) : Int32)).toUInt32 >>> ((2 : Int32).toUInt32 &&& Int32.toUInt32 31)).toInt32 &&& 858993459)) : Int32)).toUInt32 >>> ((4 : Int32).toUInt32 &&& Int32.toUInt32 31)).toInt32) &&& 252645135) + ((((((((x - ((((x : Int32)).toUInt32 >>> ((1 : Int32).toUInt32 &&& Int32.toUInt32 31)).toInt32 &&& 1431655765)) &&& 858993459) + (((((x - ((((x : Int32)).toUInt32 >>> ((1 : Int32).toUInt32 &&& Int32.toUInt32 31)).toInt32 &&& 1431655765)) : Int32)).toUInt32 >>> ((2 : Int32).toUInt32 &&& Int32.toUInt32 31)).toInt32 &&& 858993459)) + ((((((x - ((((x : Int32)).toUInt32 >>> ((1 : Int32).toUInt32 &&& Int32.toUInt32 31)).toInt32 &&& 1431655765)) &&& 858993459) + (((((x - ((((x : Int32)).toUInt32 >>> ((1 : Int32).toUInt32 &&& Int32.toUInt32 31)).toInt32 &&& 1431655765)) : Int32)).toUInt32 >>> ((2 : Int32).toUInt32 &&& Int32.toUInt32 31)).toInt32 &&& 858993459)) : Int32)).toUInt32 >>> ((4 : Int32).toUInt32 &&& Int32.toUInt32 31)).toInt32) &&& 252645135) : Int32)).toUInt32 >>> ((8 : Int32).toUInt32 &&& Int32.toUInt32 31)).toInt32) : Int32)).toUInt32 >>> ((16 : Int32).toUInt32 &&& Int32.toUInt32 31)).toInt32))]) dq_85_47 (by decide) rfl ?_
  refine wp_iload_n dq_85_48 rfl ?_
  refine wp_bipush (x := 63) dq_85_49 rfl ?_
  refine wp_iand dq_85_51 ?_
  exact wp_ire dq_85_52 rfl ⟨rfl, Or.inl rfl⟩ ⟨by rw [f_bitCount], rfl⟩

def f_hasAny (f : Int32) (m : Int32) : Int32 := (if (f &&& m) = 0 then 0 else 1)
theorem b_hasAny (f : Int32) (m : Int32) : f_hasAny f m = 0 ∨ f_hasAny f m = 1 := by
  unfold f_hasAny
  repeat' split
  all_goals first | exact Or.inl rfl | exact Or.inr rfl
set_option maxRecDepth 100000 in
theorem c_hasAny {L : Nat} {xs : Nat → Int32} {d : Nat} {h : List qx_E}  {f : Int32} {m : Int32}  : qe_E L xs d 67 [.int f, .int m] h (some (.int (f_hasAny f m))) h := by
  show wp_W L xs _ 67 0 [(0, .int f), (1, .int m)] [] h _
  refine wp_iload_n dq_67_0 rfl ?_
  refine wp_iload_n dq_67_1 rfl ?_
  refine wp_iand dq_67_2 ?_
  refine wp_if_eq (tgt := 10) dq_67_3 rfl (fun c1 => ?_) (fun c1 => ?_)
  · refine wp_iconst (x := 0) dq_67_10 rfl ?_
    exact wp_ire dq_67_11 rfl ⟨by decide, Or.inr (Or.inl rfl)⟩ ⟨by rw [f_hasAny, if_pos c1], rfl⟩
  · refine wp_iconst (x := 1) dq_67_6 rfl ?_
    refine wp_goto (tgt := 11) dq_67_7 rfl ?_
    exact wp_ire dq_67_11 rfl ⟨by decide, Or.inr (Or.inl rfl)⟩ ⟨by rw [f_hasAny, if_neg c1], rfl⟩

def f_hasAll (f : Int32) (m : Int32) : Int32 := (if (f &&& m) = m then 1 else 0)
theorem b_hasAll (f : Int32) (m : Int32) : f_hasAll f m = 0 ∨ f_hasAll f m = 1 := by
  unfold f_hasAll
  repeat' split
  all_goals first | exact Or.inl rfl | exact Or.inr rfl
set_option maxRecDepth 100000 in
theorem c_hasAll {L : Nat} {xs : Nat → Int32} {d : Nat} {h : List qx_E}  {f : Int32} {m : Int32}  : qe_E L xs d 68 [.int f, .int m] h (some (.int (f_hasAll f m))) h := by
  show wp_W L xs _ 68 0 [(0, .int f), (1, .int m)] [] h _
  refine wp_iload_n dq_68_0 rfl ?_
  refine wp_iload_n dq_68_1 rfl ?_
  refine wp_iand dq_68_2 ?_
  refine wp_iload_n dq_68_3 rfl ?_
  refine wp_ic_ne (tgt := 11) dq_68_4 rfl (fun c1 => ?_) (fun c1 => ?_)
  · refine wp_iconst (x := 0) dq_68_11 rfl ?_
    exact wp_ire dq_68_12 rfl ⟨by decide, Or.inr (Or.inl rfl)⟩ ⟨by rw [f_hasAll, if_neg c1], rfl⟩
  · refine wp_iconst (x := 1) dq_68_7 rfl ?_
    refine wp_goto (tgt := 12) dq_68_8 rfl ?_
    exact wp_ire dq_68_12 rfl ⟨by decide, Or.inr (Or.inl rfl)⟩ ⟨by rw [f_hasAll, if_pos c1], rfl⟩

def f_hasOneReach (f : Int32) : Int32 := (if 1 < (f_bitCount (f &&& 7)) then 0 else 1)
theorem b_hasOneReach (f : Int32) : f_hasOneReach f = 0 ∨ f_hasOneReach f = 1 := by
  unfold f_hasOneReach
  repeat' split
  all_goals first | exact Or.inl rfl | exact Or.inr rfl
set_option maxRecDepth 100000 in
theorem c_hasOneReach {L : Nat} {xs : Nat → Int32} {d : Nat} {h : List qx_E}  {f : Int32}  : qe_E L xs (d + 1) 84 [.int f] h (some (.int (f_hasOneReach f))) h := by
  show wp_W L xs _ 84 0 [(0, .int f)] [] h _
  refine wp_iload_n dq_84_0 rfl ?_
  refine wp_bipush (x := 7) dq_84_1 rfl ?_
  refine wp_iand dq_84_3 ?_
  refine wp_cse1 dq_84_4 (by decide +kernel) mt_84_23 (by decide +kernel) (Nat.le_of_ble_eq_true rfl) (Nat.le_of_ble_eq_true rfl) (c_bitCount ) ?_
  refine wp_iconst (x := 1) dq_84_7 rfl ?_
  refine wp_ic_gt (tgt := 15) dq_84_8 rfl (fun c1 => ?_) (fun c1 => ?_)
  · refine wp_iconst (x := 0) dq_84_15 rfl ?_
    exact wp_ire dq_84_16 rfl ⟨by decide, Or.inr (Or.inl rfl)⟩ ⟨by rw [f_hasOneReach, if_pos c1], rfl⟩
  · refine wp_iconst (x := 1) dq_84_11 rfl ?_
    refine wp_goto (tgt := 16) dq_84_12 rfl ?_
    exact wp_ire dq_84_16 rfl ⟨by decide, Or.inr (Or.inl rfl)⟩ ⟨by rw [f_hasOneReach, if_neg c1], rfl⟩

def f_isInterface (f : Int32) : Int32 := (f_hasAny f 512)
theorem b_isInterface (f : Int32) : f_isInterface f = 0 ∨ f_isInterface f = 1 := by
  unfold f_isInterface
  repeat' split
  all_goals first | exact b_hasAny _ _ | exact Or.inl rfl | exact Or.inr rfl
set_option maxRecDepth 100000 in
theorem c_isInterface {L : Nat} {xs : Nat → Int32} {d : Nat} {h : List qx_E}  {f : Int32}  : qe_E L xs (d + 1) 66 [.int f] h (some (.int (f_isInterface f))) h := by
  show wp_W L xs _ 66 0 [(0, .int f)] [] h _
  refine wp_iload_n dq_66_0 rfl ?_
  refine wp_sipush (x := 512) dq_66_1 rfl ?_
  refine wp_cse2 dq_66_4 (by decide +kernel) mt_66_9 (by decide +kernel) (Nat.le_of_ble_eq_true rfl) (Nat.le_of_ble_eq_true rfl) (c_hasAny ) ?_
  exact wp_ire dq_66_7 rfl ⟨nb_01 (b_hasAny _ _), Or.inr (Or.inl rfl)⟩ ⟨by rw [f_isInterface], rfl⟩

def f_fitFile (f : Int32) : Int32 := (if (f_isInterface f) = 0 then (if (f_hasAll f 1040) = 0 then (if (f_hasAny f 8192) = 0 then 1 else 0) else 0) else (if (f_hasAny f 1024) = 0 then 0 else (if (f_hasAny f 16432) = 0 then 1 else 0)))
theorem b_fitFile (f : Int32) : f_fitFile f = 0 ∨ f_fitFile f = 1 := by
  unfold f_fitFile
  repeat' split
  all_goals first | exact Or.inl rfl | exact Or.inr rfl
set_option maxRecDepth 100000 in
theorem c_fitFile {L : Nat} {xs : Nat → Int32} {d : Nat} {h : List qx_E}  {f : Int32}  : qe_E L xs (d + 2) 65 [.int f] h (some (.int (f_fitFile f))) h := by
  show wp_W L xs _ 65 0 [(0, .int f)] [] h _
  refine wp_iload_n dq_65_0 rfl ?_
  refine wp_cse1 dq_65_1 (by decide +kernel) mt_65_13 (by decide +kernel) (Nat.le_of_ble_eq_true rfl) (Nat.le_of_ble_eq_true rfl) (c_isInterface ) ?_
  refine wp_if_eq (tgt := 33) dq_65_4 rfl (fun c1 => ?_) (fun c1 => ?_)
  · refine wp_iload_n dq_65_33 rfl ?_
    refine wp_sipush (x := 1040) dq_65_34 rfl ?_
    refine wp_cse2 dq_65_37 (by decide +kernel) mt_65_17 (by decide +kernel) (Nat.le_of_ble_eq_true rfl) (Nat.le_of_ble_eq_true rfl) (c_hasAll ) ?_
    refine wp_if_ne (tgt := 57) dq_65_40 rfl (fun c2 => ?_) (fun c2 => ?_)
    · refine wp_iconst (x := 0) dq_65_57 rfl ?_
      exact wp_ire dq_65_58 rfl ⟨by decide, Or.inr (Or.inl rfl)⟩ ⟨by rw [f_fitFile, if_pos c1, if_neg c2], rfl⟩
    · refine wp_iload_n dq_65_43 rfl ?_
      refine wp_sipush (x := 8192) dq_65_44 rfl ?_
      refine wp_cse2 dq_65_47 (by decide +kernel) mt_65_9 (by decide +kernel) (Nat.le_of_ble_eq_true rfl) (Nat.le_of_ble_eq_true rfl) (c_hasAny ) ?_
      refine wp_if_ne (tgt := 57) dq_65_50 rfl (fun c3 => ?_) (fun c3 => ?_)
      · refine wp_iconst (x := 0) dq_65_57 rfl ?_
        exact wp_ire dq_65_58 rfl ⟨by decide, Or.inr (Or.inl rfl)⟩ ⟨by rw [f_fitFile, if_pos c1, if_pos c2, if_neg c3], rfl⟩
      · refine wp_iconst (x := 1) dq_65_53 rfl ?_
        refine wp_goto (tgt := 58) dq_65_54 rfl ?_
        exact wp_ire dq_65_58 rfl ⟨by decide, Or.inr (Or.inl rfl)⟩ ⟨by rw [f_fitFile, if_pos c1, if_pos c2, if_pos c3], rfl⟩
  · refine wp_iload_n dq_65_7 rfl ?_
    refine wp_sipush (x := 1024) dq_65_8 rfl ?_
    refine wp_cse2 dq_65_11 (by decide +kernel) mt_65_9 (by decide +kernel) (Nat.le_of_ble_eq_true rfl) (Nat.le_of_ble_eq_true rfl) (c_hasAny ) ?_
    refine wp_if_eq (tgt := 31) dq_65_14 rfl (fun c4 => ?_) (fun c4 => ?_)
    · refine wp_iconst (x := 0) dq_65_31 rfl ?_
      exact wp_ire dq_65_32 rfl ⟨by decide, Or.inr (Or.inl rfl)⟩ ⟨by rw [f_fitFile, if_neg c1, if_pos c4], rfl⟩
    · refine wp_iload_n dq_65_17 rfl ?_
      refine wp_sipush (x := 16432) dq_65_18 rfl ?_
      refine wp_cse2 dq_65_21 (by decide +kernel) mt_65_9 (by decide +kernel) (Nat.le_of_ble_eq_true rfl) (Nat.le_of_ble_eq_true rfl) (c_hasAny ) ?_
      refine wp_if_ne (tgt := 31) dq_65_24 rfl (fun c5 => ?_) (fun c5 => ?_)
      · refine wp_iconst (x := 0) dq_65_31 rfl ?_
        exact wp_ire dq_65_32 rfl ⟨by decide, Or.inr (Or.inl rfl)⟩ ⟨by rw [f_fitFile, if_neg c1, if_neg c4, if_neg c5], rfl⟩
      · refine wp_iconst (x := 1) dq_65_27 rfl ?_
        refine wp_goto (tgt := 32) dq_65_28 rfl ?_
        exact wp_ire dq_65_32 rfl ⟨by decide, Or.inr (Or.inl rfl)⟩ ⟨by rw [f_fitFile, if_neg c1, if_neg c4, if_pos c5], rfl⟩

def f_fitField (f : Int32) (i : Int32) : Int32 := (if (f_hasOneReach f) = 0 then 0 else (if (f_hasAll f 80) = 0 then (if i = 0 then 1 else (if (f_hasAll f 25) = 0 then 0 else 1)) else 0))
theorem b_fitField (f : Int32) (i : Int32) : f_fitField f i = 0 ∨ f_fitField f i = 1 := by
  unfold f_fitField
  repeat' split
  all_goals first | exact Or.inl rfl | exact Or.inr rfl
set_option maxRecDepth 100000 in
theorem c_fitField {L : Nat} {xs : Nat → Int32} {d : Nat} {h : List qx_E}  {f : Int32} {i : Int32}  : qe_E L xs (d + 2) 83 [.int f, .int i] h (some (.int (f_fitField f i))) h := by
  show wp_W L xs _ 83 0 [(0, .int f), (1, .int i)] [] h _
  refine wp_iload_n dq_83_0 rfl ?_
  refine wp_cse1 dq_83_1 (by decide +kernel) mt_83_20 (by decide +kernel) (Nat.le_of_ble_eq_true rfl) (Nat.le_of_ble_eq_true rfl) (c_hasOneReach ) ?_
  refine wp_if_eq (tgt := 33) dq_83_4 rfl (fun c1 => ?_) (fun c1 => ?_)
  · refine wp_iconst (x := 0) dq_83_33 rfl ?_
    exact wp_ire dq_83_34 rfl ⟨by decide, Or.inr (Or.inl rfl)⟩ ⟨by rw [f_fitField, if_pos c1], rfl⟩
  · refine wp_iload_n dq_83_7 rfl ?_
    refine wp_bipush (x := 80) dq_83_8 rfl ?_
    refine wp_cse2 dq_83_10 (by decide +kernel) mt_83_17 (by decide +kernel) (Nat.le_of_ble_eq_true rfl) (Nat.le_of_ble_eq_true rfl) (c_hasAll ) ?_
    refine wp_if_ne (tgt := 33) dq_83_13 rfl (fun c2 => ?_) (fun c2 => ?_)
    · refine wp_iconst (x := 0) dq_83_33 rfl ?_
      exact wp_ire dq_83_34 rfl ⟨by decide, Or.inr (Or.inl rfl)⟩ ⟨by rw [f_fitField, if_neg c1, if_neg c2], rfl⟩
    · refine wp_iload_n dq_83_16 rfl ?_
      refine wp_if_eq (tgt := 29) dq_83_17 rfl (fun c3 => ?_) (fun c3 => ?_)
      · refine wp_iconst (x := 1) dq_83_29 rfl ?_
        refine wp_goto (tgt := 34) dq_83_30 rfl ?_
        exact wp_ire dq_83_34 rfl ⟨by decide, Or.inr (Or.inl rfl)⟩ ⟨by rw [f_fitField, if_neg c1, if_pos c2, if_pos c3], rfl⟩
      · refine wp_iload_n dq_83_20 rfl ?_
        refine wp_bipush (x := 25) dq_83_21 rfl ?_
        refine wp_cse2 dq_83_23 (by decide +kernel) mt_83_17 (by decide +kernel) (Nat.le_of_ble_eq_true rfl) (Nat.le_of_ble_eq_true rfl) (c_hasAll ) ?_
        refine wp_if_eq (tgt := 33) dq_83_26 rfl (fun c4 => ?_) (fun c4 => ?_)
        · refine wp_iconst (x := 0) dq_83_33 rfl ?_
          exact wp_ire dq_83_34 rfl ⟨by decide, Or.inr (Or.inl rfl)⟩ ⟨by rw [f_fitField, if_neg c1, if_pos c2, if_neg c3, if_pos c4], rfl⟩
        · refine wp_iconst (x := 1) dq_83_29 rfl ?_
          refine wp_goto (tgt := 34) dq_83_30 rfl ?_
          exact wp_ire dq_83_34 rfl ⟨by decide, Or.inr (Or.inl rfl)⟩ ⟨by rw [f_fitField, if_neg c1, if_pos c2, if_neg c3, if_neg c4], rfl⟩

def f_fitMethod (f : Int32) (i : Int32) (j : Int32) : Int32 := (if (f_hasOneReach f) = 0 then 0 else (if (f_hasAny f 1024) = 0 then (if j = 0 then (if i = 0 then 1 else (if (f_hasAny f 1) = (f_hasAny f 2) then 0 else 1)) else (if (f_hasAny f 1336) = 0 then (if i = 0 then 1 else (if (f_hasAny f 1) = (f_hasAny f 2) then 0 else 1)) else 0)) else (if (f_hasAny f 314) = 0 then (if j = 0 then (if i = 0 then 1 else (if (f_hasAny f 1) = (f_hasAny f 2) then 0 else 1)) else (if (f_hasAny f 1336) = 0 then (if i = 0 then 1 else (if (f_hasAny f 1) = (f_hasAny f 2) then 0 else 1)) else 0)) else 0)))
theorem b_fitMethod (f : Int32) (i : Int32) (j : Int32) : f_fitMethod f i j = 0 ∨ f_fitMethod f i j = 1 := by
  unfold f_fitMethod
  repeat' split
  all_goals first | exact Or.inl rfl | exact Or.inr rfl
set_option maxRecDepth 100000 in
theorem c_fitMethod {L : Nat} {xs : Nat → Int32} {d : Nat} {h : List qx_E}  {f : Int32} {i : Int32} {j : Int32}  : qe_E L xs (d + 2) 88 [.int f, .int i, .int j] h (some (.int (f_fitMethod f i j))) h := by
  show wp_W L xs _ 88 0 [(0, .int f), (1, .int i), (2, .int j)] [] h _
  refine wp_iload_n dq_88_0 rfl ?_
  refine wp_cse1 dq_88_1 (by decide +kernel) mt_88_20 (by decide +kernel) (Nat.le_of_ble_eq_true rfl) (Nat.le_of_ble_eq_true rfl) (c_hasOneReach ) ?_
  refine wp_if_eq (tgt := 62) dq_88_4 rfl (fun c1 => ?_) (fun c1 => ?_)
  · refine wp_iconst (x := 0) dq_88_62 rfl ?_
    exact wp_ire dq_88_63 rfl ⟨by decide, Or.inr (Or.inl rfl)⟩ ⟨by rw [f_fitMethod, if_pos c1], rfl⟩
  · refine wp_iload_n dq_88_7 rfl ?_
    refine wp_sipush (x := 1024) dq_88_8 rfl ?_
    refine wp_cse2 dq_88_11 (by decide +kernel) mt_88_9 (by decide +kernel) (Nat.le_of_ble_eq_true rfl) (Nat.le_of_ble_eq_true rfl) (c_hasAny ) ?_
    refine wp_if_eq (tgt := 27) dq_88_14 rfl (fun c2 => ?_) (fun c2 => ?_)
    · refine wp_iload_n dq_88_27 rfl ?_
      refine wp_if_eq (tgt := 41) dq_88_28 rfl (fun c3 => ?_) (fun c3 => ?_)
      · refine wp_iload_n dq_88_41 rfl ?_
        refine wp_if_eq (tgt := 58) dq_88_42 rfl (fun c4 => ?_) (fun c4 => ?_)
        · refine wp_iconst (x := 1) dq_88_58 rfl ?_
          refine wp_goto (tgt := 63) dq_88_59 rfl ?_
          exact wp_ire dq_88_63 rfl ⟨by decide, Or.inr (Or.inl rfl)⟩ ⟨by rw [f_fitMethod, if_neg c1, if_pos c2, if_pos c3, if_pos c4], rfl⟩
        · refine wp_iload_n dq_88_45 rfl ?_
          refine wp_iconst (x := 1) dq_88_46 rfl ?_
          refine wp_cse2 dq_88_47 (by decide +kernel) mt_88_9 (by decide +kernel) (Nat.le_of_ble_eq_true rfl) (Nat.le_of_ble_eq_true rfl) (c_hasAny ) ?_
          refine wp_iload_n dq_88_50 rfl ?_
          refine wp_iconst (x := 2) dq_88_51 rfl ?_
          refine wp_cse2 dq_88_52 (by decide +kernel) mt_88_9 (by decide +kernel) (Nat.le_of_ble_eq_true rfl) (Nat.le_of_ble_eq_true rfl) (c_hasAny ) ?_
          refine wp_ic_eq (tgt := 62) dq_88_55 rfl (fun c5 => ?_) (fun c5 => ?_)
          · refine wp_iconst (x := 0) dq_88_62 rfl ?_
            exact wp_ire dq_88_63 rfl ⟨by decide, Or.inr (Or.inl rfl)⟩ ⟨by rw [f_fitMethod, if_neg c1, if_pos c2, if_pos c3, if_neg c4, if_pos c5], rfl⟩
          · refine wp_iconst (x := 1) dq_88_58 rfl ?_
            refine wp_goto (tgt := 63) dq_88_59 rfl ?_
            exact wp_ire dq_88_63 rfl ⟨by decide, Or.inr (Or.inl rfl)⟩ ⟨by rw [f_fitMethod, if_neg c1, if_pos c2, if_pos c3, if_neg c4, if_neg c5], rfl⟩
      · refine wp_iload_n dq_88_31 rfl ?_
        refine wp_sipush (x := 1336) dq_88_32 rfl ?_
        refine wp_cse2 dq_88_35 (by decide +kernel) mt_88_9 (by decide +kernel) (Nat.le_of_ble_eq_true rfl) (Nat.le_of_ble_eq_true rfl) (c_hasAny ) ?_
        refine wp_if_ne (tgt := 62) dq_88_38 rfl (fun c6 => ?_) (fun c6 => ?_)
        · refine wp_iconst (x := 0) dq_88_62 rfl ?_
          exact wp_ire dq_88_63 rfl ⟨by decide, Or.inr (Or.inl rfl)⟩ ⟨by rw [f_fitMethod, if_neg c1, if_pos c2, if_neg c3, if_neg c6], rfl⟩
        · refine wp_iload_n dq_88_41 rfl ?_
          refine wp_if_eq (tgt := 58) dq_88_42 rfl (fun c7 => ?_) (fun c7 => ?_)
          · refine wp_iconst (x := 1) dq_88_58 rfl ?_
            refine wp_goto (tgt := 63) dq_88_59 rfl ?_
            exact wp_ire dq_88_63 rfl ⟨by decide, Or.inr (Or.inl rfl)⟩ ⟨by rw [f_fitMethod, if_neg c1, if_pos c2, if_neg c3, if_pos c6, if_pos c7], rfl⟩
          · refine wp_iload_n dq_88_45 rfl ?_
            refine wp_iconst (x := 1) dq_88_46 rfl ?_
            refine wp_cse2 dq_88_47 (by decide +kernel) mt_88_9 (by decide +kernel) (Nat.le_of_ble_eq_true rfl) (Nat.le_of_ble_eq_true rfl) (c_hasAny ) ?_
            refine wp_iload_n dq_88_50 rfl ?_
            refine wp_iconst (x := 2) dq_88_51 rfl ?_
            refine wp_cse2 dq_88_52 (by decide +kernel) mt_88_9 (by decide +kernel) (Nat.le_of_ble_eq_true rfl) (Nat.le_of_ble_eq_true rfl) (c_hasAny ) ?_
            refine wp_ic_eq (tgt := 62) dq_88_55 rfl (fun c8 => ?_) (fun c8 => ?_)
            · refine wp_iconst (x := 0) dq_88_62 rfl ?_
              exact wp_ire dq_88_63 rfl ⟨by decide, Or.inr (Or.inl rfl)⟩ ⟨by rw [f_fitMethod, if_neg c1, if_pos c2, if_neg c3, if_pos c6, if_neg c7, if_pos c8], rfl⟩
            · refine wp_iconst (x := 1) dq_88_58 rfl ?_
              refine wp_goto (tgt := 63) dq_88_59 rfl ?_
              exact wp_ire dq_88_63 rfl ⟨by decide, Or.inr (Or.inl rfl)⟩ ⟨by rw [f_fitMethod, if_neg c1, if_pos c2, if_neg c3, if_pos c6, if_neg c7, if_neg c8], rfl⟩
    · refine wp_iload_n dq_88_17 rfl ?_
      refine wp_sipush (x := 314) dq_88_18 rfl ?_
      refine wp_cse2 dq_88_21 (by decide +kernel) mt_88_9 (by decide +kernel) (Nat.le_of_ble_eq_true rfl) (Nat.le_of_ble_eq_true rfl) (c_hasAny ) ?_
      refine wp_if_ne (tgt := 62) dq_88_24 rfl (fun c9 => ?_) (fun c9 => ?_)
      · refine wp_iconst (x := 0) dq_88_62 rfl ?_
        exact wp_ire dq_88_63 rfl ⟨by decide, Or.inr (Or.inl rfl)⟩ ⟨by rw [f_fitMethod, if_neg c1, if_neg c2, if_neg c9], rfl⟩
      · refine wp_iload_n dq_88_27 rfl ?_
        refine wp_if_eq (tgt := 41) dq_88_28 rfl (fun c10 => ?_) (fun c10 => ?_)
        · refine wp_iload_n dq_88_41 rfl ?_
          refine wp_if_eq (tgt := 58) dq_88_42 rfl (fun c11 => ?_) (fun c11 => ?_)
          · refine wp_iconst (x := 1) dq_88_58 rfl ?_
            refine wp_goto (tgt := 63) dq_88_59 rfl ?_
            exact wp_ire dq_88_63 rfl ⟨by decide, Or.inr (Or.inl rfl)⟩ ⟨by rw [f_fitMethod, if_neg c1, if_neg c2, if_pos c9, if_pos c10, if_pos c11], rfl⟩
          · refine wp_iload_n dq_88_45 rfl ?_
            refine wp_iconst (x := 1) dq_88_46 rfl ?_
            refine wp_cse2 dq_88_47 (by decide +kernel) mt_88_9 (by decide +kernel) (Nat.le_of_ble_eq_true rfl) (Nat.le_of_ble_eq_true rfl) (c_hasAny ) ?_
            refine wp_iload_n dq_88_50 rfl ?_
            refine wp_iconst (x := 2) dq_88_51 rfl ?_
            refine wp_cse2 dq_88_52 (by decide +kernel) mt_88_9 (by decide +kernel) (Nat.le_of_ble_eq_true rfl) (Nat.le_of_ble_eq_true rfl) (c_hasAny ) ?_
            refine wp_ic_eq (tgt := 62) dq_88_55 rfl (fun c12 => ?_) (fun c12 => ?_)
            · refine wp_iconst (x := 0) dq_88_62 rfl ?_
              exact wp_ire dq_88_63 rfl ⟨by decide, Or.inr (Or.inl rfl)⟩ ⟨by rw [f_fitMethod, if_neg c1, if_neg c2, if_pos c9, if_pos c10, if_neg c11, if_pos c12], rfl⟩
            · refine wp_iconst (x := 1) dq_88_58 rfl ?_
              refine wp_goto (tgt := 63) dq_88_59 rfl ?_
              exact wp_ire dq_88_63 rfl ⟨by decide, Or.inr (Or.inl rfl)⟩ ⟨by rw [f_fitMethod, if_neg c1, if_neg c2, if_pos c9, if_pos c10, if_neg c11, if_neg c12], rfl⟩
        · refine wp_iload_n dq_88_31 rfl ?_
          refine wp_sipush (x := 1336) dq_88_32 rfl ?_
          refine wp_cse2 dq_88_35 (by decide +kernel) mt_88_9 (by decide +kernel) (Nat.le_of_ble_eq_true rfl) (Nat.le_of_ble_eq_true rfl) (c_hasAny ) ?_
          refine wp_if_ne (tgt := 62) dq_88_38 rfl (fun c13 => ?_) (fun c13 => ?_)
          · refine wp_iconst (x := 0) dq_88_62 rfl ?_
            exact wp_ire dq_88_63 rfl ⟨by decide, Or.inr (Or.inl rfl)⟩ ⟨by rw [f_fitMethod, if_neg c1, if_neg c2, if_pos c9, if_neg c10, if_neg c13], rfl⟩
          · refine wp_iload_n dq_88_41 rfl ?_
            refine wp_if_eq (tgt := 58) dq_88_42 rfl (fun c14 => ?_) (fun c14 => ?_)
            · refine wp_iconst (x := 1) dq_88_58 rfl ?_
              refine wp_goto (tgt := 63) dq_88_59 rfl ?_
              exact wp_ire dq_88_63 rfl ⟨by decide, Or.inr (Or.inl rfl)⟩ ⟨by rw [f_fitMethod, if_neg c1, if_neg c2, if_pos c9, if_neg c10, if_pos c13, if_pos c14], rfl⟩
            · refine wp_iload_n dq_88_45 rfl ?_
              refine wp_iconst (x := 1) dq_88_46 rfl ?_
              refine wp_cse2 dq_88_47 (by decide +kernel) mt_88_9 (by decide +kernel) (Nat.le_of_ble_eq_true rfl) (Nat.le_of_ble_eq_true rfl) (c_hasAny ) ?_
              refine wp_iload_n dq_88_50 rfl ?_
              refine wp_iconst (x := 2) dq_88_51 rfl ?_
              refine wp_cse2 dq_88_52 (by decide +kernel) mt_88_9 (by decide +kernel) (Nat.le_of_ble_eq_true rfl) (Nat.le_of_ble_eq_true rfl) (c_hasAny ) ?_
              refine wp_ic_eq (tgt := 62) dq_88_55 rfl (fun c15 => ?_) (fun c15 => ?_)
              · refine wp_iconst (x := 0) dq_88_62 rfl ?_
                exact wp_ire dq_88_63 rfl ⟨by decide, Or.inr (Or.inl rfl)⟩ ⟨by rw [f_fitMethod, if_neg c1, if_neg c2, if_pos c9, if_neg c10, if_pos c13, if_neg c14, if_pos c15], rfl⟩
              · refine wp_iconst (x := 1) dq_88_58 rfl ?_
                refine wp_goto (tgt := 63) dq_88_59 rfl ?_
                exact wp_ire dq_88_63 rfl ⟨by decide, Or.inr (Or.inl rfl)⟩ ⟨by rw [f_fitMethod, if_neg c1, if_neg c2, if_pos c9, if_neg c10, if_pos c13, if_neg c14, if_neg c15], rfl⟩

