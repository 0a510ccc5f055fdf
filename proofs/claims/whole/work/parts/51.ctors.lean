theorem ap_get {g l : List qx_E} {b k : Nat} (hb : g.length = b) : (g ++ l)[b + k]? = l[k]? := by
  subst hb
  rw [List.getElem?_append_right (by omega), Nat.add_sub_cancel_left]
theorem ap_set {g l : List qx_E} {b k : Nat} {c : qx_E} (hb : g.length = b) : (g ++ l).set (b + k) c = g ++ l.set k c := by
  subst hb
  rw [List.set_append_right _ _ (by omega), Nat.add_sub_cancel_left]
section APW
variable {L : Nat} {xs : Nat → Int32} {d m pc k b q : Nat} {lv : qx_L} {r : List Value} {g l l' : List qx_E} {Q : Option Value → List qx_E → Prop}
theorem wp_newA {ci : Nat} {fs : List Value} (hd : decode (qx_code m) pc = .ok (.new k, 3)) (hn : qx_new m k = some (ci, fs)) (hb : g.length = b) (hl : l ++ [.inr (ci, fs)] = l') (hk : l.length = q) (kk : wp_W L xs d m (pc + 3) lv (.ref (b + q) :: r) (g ++ l') Q) : wp_W L xs d m pc lv r (g ++ l) Q := by
  refine wp_new hd hn ?_
  rw [List.append_assoc, hl, List.length_append, hb, hk]
  exact kk
theorem wp_newaA {n : Int32} {N : Nat} {ty : FieldType} {at_ : ArrayType} (hd : decode (qx_code m) pc = .ok (.newarray at_, 2)) (hg : (at_ = .int ∨ at_ = .byte) ∧ ¬ n < 0 ∧ n.toNatClampNeg * 4 ≤ 536870912) (hN : n.toNatClampNeg = N) (hty : newarray.typeOf at_ = ty) (hb : g.length = b) (hl : l ++ [.inl (ty, N, fun _ => 0)] = l') (hk : l.length = q) (kk : wp_W L xs d m (pc + 2) lv (.ref (b + q) :: r) (g ++ l') Q) : wp_W L xs d m pc lv (.int n :: r) (g ++ l) Q := by
  refine wp_newa hd hg ?_
  rw [hN, hty, List.append_assoc, hl, List.length_append, hb, hk]
  exact kk
theorem wp_putA {ci j : Nat} {fs : List Value} {v : Value} (hd : decode (qx_code m) pc = .ok (.putfield k, 3)) (hf : qx_fld m k = some (ci, j) ∧ qx_pok m k = true) (hb : g.length = b) (hl : l[q]? = some (.inr (ci, fs))) (hj : j < fs.length) (hv : qx_fit (qx_fty ci j) v = true) (hs : l.set q (.inr (ci, fs.set j v)) = l') (kk : wp_W L xs d m (pc + 3) lv r (g ++ l') Q) : wp_W L xs d m pc lv (v :: .ref (b + q) :: r) (g ++ l) Q := by
  refine wp_putf hd hf.1 ((ap_get hb).trans hl) ⟨hj, hv, hf.2⟩ ?_
  rw [ap_set hb, hs]
  exact kk
theorem wp_getA {ci j : Nat} {fs : List Value} {v : Value} (hd : decode (qx_code m) pc = .ok (.getfield k, 3)) (hf : qx_fld m k = some (ci, j)) (hb : g.length = b) (hl : l[q]? = some (.inr (ci, fs))) (hv : fs[j]? = some v) (kk : wp_W L xs d m (pc + 3) lv (v :: r) (g ++ l) Q) : wp_W L xs d m pc lv (.ref (b + q) :: r) (g ++ l) Q := wp_getf hd hf ((ap_get hb).trans hl) hv kk
end APW
set_option maxRecDepth 100000 in
theorem c_tapeI {L : Nat} {xs : Nat → Int32} {d b : Nat} {g : List qx_E} (hb : g.length = b) : wp_W L xs (d + 1) 3 0 (lv_args 0 [.ref b]) [] (g ++ [.inr (3, [.null, .int 0, .int 0, .int 0, .int 0])]) (fun v h' => v = none ∧ h' = g ++ [.inr (3, [.ref (b + 1), .int 0, .int 0, .int 0, .int (-1)]), .inl (.byte, 480, fun _ => 0)]) := by
  show wp_W L xs _ 3 0 [(0, .ref (b + 0))] [] _ _
  refine wp_aload_n dq_3_0 rfl ?_
  refine wp_oi dq_3_1 (by decide +kernel) (Nat.le_of_ble_eq_true rfl) ?_
  refine wp_aload_n dq_3_4 rfl ?_
  refine wp_sipush (x := 480) dq_3_5 rfl ?_
  refine wp_newaA (N := 480) (ty := .byte) (l' := [.inr (3, [.null, .int 0, .int 0, .int 0, .int 0]), .inl (.byte, 480, fun _ => 0)]) (q := 1) dq_3_8 ⟨by decide, by decide, by decide⟩ rfl rfl hb rfl rfl ?_
  refine wp_putA (q := 0) (fs := [.null, .int 0, .int 0, .int 0, .int 0]) (l' := [.inr (3, [.ref (b + 1), .int 0, .int 0, .int 0, .int 0]), .inl (.byte, 480, fun _ => 0)]) dq_3_10 fp_3_9 hb rfl (Nat.le_of_ble_eq_true rfl) rfl rfl ?_
  refine wp_aload_n dq_3_13 rfl ?_
  refine wp_iconst (x := 0) dq_3_14 rfl ?_
  refine wp_putA (q := 0) (fs := [.ref (b + 1), .int 0, .int 0, .int 0, .int 0]) (l' := [.inr (3, [.ref (b + 1), .int 0, .int 0, .int 0, .int 0]), .inl (.byte, 480, fun _ => 0)]) dq_3_15 fp_3_15 hb rfl (Nat.le_of_ble_eq_true rfl) rfl rfl ?_
  refine wp_aload_n dq_3_18 rfl ?_
  refine wp_iconst (x := 0) dq_3_19 rfl ?_
  refine wp_putA (q := 0) (fs := [.ref (b + 1), .int 0, .int 0, .int 0, .int 0]) (l' := [.inr (3, [.ref (b + 1), .int 0, .int 0, .int 0, .int 0]), .inl (.byte, 480, fun _ => 0)]) dq_3_20 fp_3_19 hb rfl (Nat.le_of_ble_eq_true rfl) rfl rfl ?_
  refine wp_aload_n dq_3_23 rfl ?_
  refine wp_iconst (x := 0) dq_3_24 rfl ?_
  refine wp_putA (q := 0) (fs := [.ref (b + 1), .int 0, .int 0, .int 0, .int 0]) (l' := [.inr (3, [.ref (b + 1), .int 0, .int 0, .int 0, .int 0]), .inl (.byte, 480, fun _ => 0)]) dq_3_25 fp_3_22 hb rfl (Nat.le_of_ble_eq_true rfl) rfl rfl ?_
  refine wp_aload_n dq_3_28 rfl ?_
  refine wp_iconst (x := -1) dq_3_29 rfl ?_
  refine wp_putA (q := 0) (fs := [.ref (b + 1), .int 0, .int 0, .int 0, .int 0]) (l' := [.inr (3, [.ref (b + 1), .int 0, .int 0, .int 0, .int (-1)]), .inl (.byte, 480, fun _ => 0)]) dq_3_30 fp_3_25 hb rfl (Nat.le_of_ble_eq_true rfl) rfl rfl ?_
  exact wp_vre dq_3_33 rfl ⟨rfl, rfl⟩
set_option maxRecDepth 100000 in
theorem c_poolI {L : Nat} {xs : Nat → Int32} {d b : Nat} {g : List qx_E} (hb : g.length = b) : wp_W L xs (d + 2) 2 0 (lv_args 0 [.ref b]) [] (g ++ [.inr (2, [.null, .null, .null, .null, .null])]) (fun v h' => v = none ∧ h' = g ++ [.inr (2, [.ref (b + 1), .ref (b + 3), .ref (b + 4), .ref (b + 5), .ref (b + 6)]), .inr (3, [.ref (b + 2), .int 0, .int 0, .int 0, .int (-1)]), .inl (.byte, 480, fun _ => 0), .inl (.int, 64, fun _ => 0), .inl (.int, 64, fun _ => 0), .inl (.int, 64, fun _ => 0), .inl (.int, 64, fun _ => 0)]) := by
  show wp_W L xs _ 2 0 [(0, .ref (b + 0))] [] _ _
  refine wp_aload_n dq_2_0 rfl ?_
  refine wp_oi dq_2_1 (by decide +kernel) (Nat.le_of_ble_eq_true rfl) ?_
  refine wp_aload_n dq_2_4 rfl ?_
  refine wp_newA (l' := [.inr (2, [.null, .null, .null, .null, .null]), .inr (3, [.null, .int 0, .int 0, .int 0, .int 0])]) (q := 1) dq_2_5 (by decide +kernel) hb rfl rfl ?_
  refine wp_dup dq_2_8 rfl ?_
  rw [show g ++ [.inr (2, [.null, .null, .null, .null, .null]), .inr (3, [.null, .int 0, .int 0, .int 0, .int 0])] = (g ++ [.inr (2, [.null, .null, .null, .null, .null])]) ++ [.inr (3, [.null, .int 0, .int 0, .int 0, .int 0])] by rw [List.append_assoc]; rfl]
  refine wp_ci0 dq_2_9 (by decide +kernel) mt_2_11 (by decide +kernel) (Nat.le_of_ble_eq_true rfl) (Nat.le_of_ble_eq_true rfl) (c_tapeI (b := b + 1) (by rw [List.length_append, hb]; rfl)) (fun v9 h9 q9 => ?_)
  obtain ⟨rfl, rfl⟩ := q9
  rw [List.append_assoc]
  show wp_W L xs _ 2 _ _ (.ref (b + 1) :: .ref (b + 0) :: []) (g ++ [.inr (2, [.null, .null, .null, .null, .null]), .inr (3, [.ref (b + 2), .int 0, .int 0, .int 0, .int (-1)]), .inl (.byte, 480, fun _ => 0)]) _
  refine wp_putA (q := 0) (fs := [.null, .null, .null, .null, .null]) (l' := [.inr (2, [.ref (b + 1), .null, .null, .null, .null]), .inr (3, [.ref (b + 2), .int 0, .int 0, .int 0, .int (-1)]), .inl (.byte, 480, fun _ => 0)]) dq_2_12 fp_2_12 hb rfl (Nat.le_of_ble_eq_true rfl) rfl rfl ?_
  refine wp_aload_n dq_2_15 rfl ?_
  refine wp_bipush (x := 64) dq_2_16 rfl ?_
  refine wp_newaA (N := 64) (ty := .int) (l' := [.inr (2, [.ref (b + 1), .null, .null, .null, .null]), .inr (3, [.ref (b + 2), .int 0, .int 0, .int 0, .int (-1)]), .inl (.byte, 480, fun _ => 0), .inl (.int, 64, fun _ => 0)]) (q := 3) dq_2_18 ⟨by decide, by decide, by decide⟩ rfl rfl hb rfl rfl ?_
  refine wp_putA (q := 0) (fs := [.ref (b + 1), .null, .null, .null, .null]) (l' := [.inr (2, [.ref (b + 1), .ref (b + 3), .null, .null, .null]), .inr (3, [.ref (b + 2), .int 0, .int 0, .int 0, .int (-1)]), .inl (.byte, 480, fun _ => 0), .inl (.int, 64, fun _ => 0)]) dq_2_20 fp_2_18 hb rfl (Nat.le_of_ble_eq_true rfl) rfl rfl ?_
  refine wp_aload_n dq_2_23 rfl ?_
  refine wp_bipush (x := 64) dq_2_24 rfl ?_
  refine wp_newaA (N := 64) (ty := .int) (l' := [.inr (2, [.ref (b + 1), .ref (b + 3), .null, .null, .null]), .inr (3, [.ref (b + 2), .int 0, .int 0, .int 0, .int (-1)]), .inl (.byte, 480, fun _ => 0), .inl (.int, 64, fun _ => 0), .inl (.int, 64, fun _ => 0)]) (q := 4) dq_2_26 ⟨by decide, by decide, by decide⟩ rfl rfl hb rfl rfl ?_
  refine wp_putA (q := 0) (fs := [.ref (b + 1), .ref (b + 3), .null, .null, .null]) (l' := [.inr (2, [.ref (b + 1), .ref (b + 3), .ref (b + 4), .null, .null]), .inr (3, [.ref (b + 2), .int 0, .int 0, .int 0, .int (-1)]), .inl (.byte, 480, fun _ => 0), .inl (.int, 64, fun _ => 0), .inl (.int, 64, fun _ => 0)]) dq_2_28 fp_2_22 hb rfl (Nat.le_of_ble_eq_true rfl) rfl rfl ?_
  refine wp_aload_n dq_2_31 rfl ?_
  refine wp_bipush (x := 64) dq_2_32 rfl ?_
  refine wp_newaA (N := 64) (ty := .int) (l' := [.inr (2, [.ref (b + 1), .ref (b + 3), .ref (b + 4), .null, .null]), .inr (3, [.ref (b + 2), .int 0, .int 0, .int 0, .int (-1)]), .inl (.byte, 480, fun _ => 0), .inl (.int, 64, fun _ => 0), .inl (.int, 64, fun _ => 0), .inl (.int, 64, fun _ => 0)]) (q := 5) dq_2_34 ⟨by decide, by decide, by decide⟩ rfl rfl hb rfl rfl ?_
  refine wp_putA (q := 0) (fs := [.ref (b + 1), .ref (b + 3), .ref (b + 4), .null, .null]) (l' := [.inr (2, [.ref (b + 1), .ref (b + 3), .ref (b + 4), .ref (b + 5), .null]), .inr (3, [.ref (b + 2), .int 0, .int 0, .int 0, .int (-1)]), .inl (.byte, 480, fun _ => 0), .inl (.int, 64, fun _ => 0), .inl (.int, 64, fun _ => 0), .inl (.int, 64, fun _ => 0)]) dq_2_36 fp_2_25 hb rfl (Nat.le_of_ble_eq_true rfl) rfl rfl ?_
  refine wp_aload_n dq_2_39 rfl ?_
  refine wp_bipush (x := 64) dq_2_40 rfl ?_
  refine wp_newaA (N := 64) (ty := .int) (l' := [.inr (2, [.ref (b + 1), .ref (b + 3), .ref (b + 4), .ref (b + 5), .null]), .inr (3, [.ref (b + 2), .int 0, .int 0, .int 0, .int (-1)]), .inl (.byte, 480, fun _ => 0), .inl (.int, 64, fun _ => 0), .inl (.int, 64, fun _ => 0), .inl (.int, 64, fun _ => 0), .inl (.int, 64, fun _ => 0)]) (q := 6) dq_2_42 ⟨by decide, by decide, by decide⟩ rfl rfl hb rfl rfl ?_
  refine wp_putA (q := 0) (fs := [.ref (b + 1), .ref (b + 3), .ref (b + 4), .ref (b + 5), .null]) (l' := [.inr (2, [.ref (b + 1), .ref (b + 3), .ref (b + 4), .ref (b + 5), .ref (b + 6)]), .inr (3, [.ref (b + 2), .int 0, .int 0, .int 0, .int (-1)]), .inl (.byte, 480, fun _ => 0), .inl (.int, 64, fun _ => 0), .inl (.int, 64, fun _ => 0), .inl (.int, 64, fun _ => 0), .inl (.int, 64, fun _ => 0)]) dq_2_44 fp_2_28 hb rfl (Nat.le_of_ble_eq_true rfl) rfl rfl ?_
  exact wp_vre dq_2_47 rfl ⟨rfl, rfl⟩
set_option maxRecDepth 100000 in
theorem c_tablesI {L : Nat} {xs : Nat → Int32} {d b : Nat} {g : List qx_E} (hb : g.length = b) : wp_W L xs (d + 3) 1 0 (lv_args 0 [.ref b]) [] (g ++ [.inr (1, [.null, .null, .int 0, .null, .null, .null])]) (fun v h' => v = none ∧ h' = g ++ [.inr (1, [.ref (b + 1), .ref (b + 2), .int 0, .ref (b + 8), .ref (b + 9), .ref (b + 10)]), .inr (2, [.ref (b + 2), .ref (b + 4), .ref (b + 5), .ref (b + 6), .ref (b + 7)]), .inr (3, [.ref (b + 3), .int 0, .int 0, .int 0, .int (-1)]), .inl (.byte, 480, fun _ => 0), .inl (.int, 64, fun _ => 0), .inl (.int, 64, fun _ => 0), .inl (.int, 64, fun _ => 0), .inl (.int, 64, fun _ => 0), .inl (.int, 4, fun _ => 0), .inl (.int, 49, fun _ => 0), .inl (.int, 441, fun _ => 0)]) := by
  show wp_W L xs _ 1 0 [(0, .ref (b + 0))] [] _ _
  refine wp_aload_n dq_1_0 rfl ?_
  refine wp_oi dq_1_1 (by decide +kernel) (Nat.le_of_ble_eq_true rfl) ?_
  refine wp_aload_n dq_1_4 rfl ?_
  refine wp_newA (l' := [.inr (1, [.null, .null, .int 0, .null, .null, .null]), .inr (2, [.null, .null, .null, .null, .null])]) (q := 1) dq_1_5 (by decide +kernel) hb rfl rfl ?_
  refine wp_dup dq_1_8 rfl ?_
  rw [show g ++ [.inr (1, [.null, .null, .int 0, .null, .null, .null]), .inr (2, [.null, .null, .null, .null, .null])] = (g ++ [.inr (1, [.null, .null, .int 0, .null, .null, .null])]) ++ [.inr (2, [.null, .null, .null, .null, .null])] by rw [List.append_assoc]; rfl]
  refine wp_ci0 dq_1_9 (by decide +kernel) mt_1_13 (by decide +kernel) (Nat.le_of_ble_eq_true rfl) (Nat.le_of_ble_eq_true rfl) (c_poolI (b := b + 1) (by rw [List.length_append, hb]; rfl)) (fun v9 h9 q9 => ?_)
  obtain ⟨rfl, rfl⟩ := q9
  rw [List.append_assoc]
  show wp_W L xs _ 1 _ _ (.ref (b + 1) :: .ref (b + 0) :: []) (g ++ [.inr (1, [.null, .null, .int 0, .null, .null, .null]), .inr (2, [.ref (b + 2), .ref (b + 4), .ref (b + 5), .ref (b + 6), .ref (b + 7)]), .inr (3, [.ref (b + 3), .int 0, .int 0, .int 0, .int (-1)]), .inl (.byte, 480, fun _ => 0), .inl (.int, 64, fun _ => 0), .inl (.int, 64, fun _ => 0), .inl (.int, 64, fun _ => 0), .inl (.int, 64, fun _ => 0)]) _
  refine wp_putA (q := 0) (fs := [.null, .null, .int 0, .null, .null, .null]) (l' := [.inr (1, [.ref (b + 1), .null, .int 0, .null, .null, .null]), .inr (2, [.ref (b + 2), .ref (b + 4), .ref (b + 5), .ref (b + 6), .ref (b + 7)]), .inr (3, [.ref (b + 3), .int 0, .int 0, .int 0, .int (-1)]), .inl (.byte, 480, fun _ => 0), .inl (.int, 64, fun _ => 0), .inl (.int, 64, fun _ => 0), .inl (.int, 64, fun _ => 0), .inl (.int, 64, fun _ => 0)]) dq_1_12 fp_1_14 hb rfl (Nat.le_of_ble_eq_true rfl) rfl rfl ?_
  refine wp_aload_n dq_1_15 rfl ?_
  refine wp_aload_n dq_1_16 rfl ?_
  refine wp_getA (q := 0) (v := .ref (b + 1)) dq_1_17 fl_1_14 hb rfl rfl ?_
  refine wp_getA (q := 1) (v := .ref (b + 2)) dq_1_20 fl_1_18 hb rfl rfl ?_
  refine wp_putA (q := 0) (fs := [.ref (b + 1), .null, .int 0, .null, .null, .null]) (l' := [.inr (1, [.ref (b + 1), .ref (b + 2), .int 0, .null, .null, .null]), .inr (2, [.ref (b + 2), .ref (b + 4), .ref (b + 5), .ref (b + 6), .ref (b + 7)]), .inr (3, [.ref (b + 3), .int 0, .int 0, .int 0, .int (-1)]), .inl (.byte, 480, fun _ => 0), .inl (.int, 64, fun _ => 0), .inl (.int, 64, fun _ => 0), .inl (.int, 64, fun _ => 0), .inl (.int, 64, fun _ => 0)]) dq_1_23 fp_1_22 hb rfl (Nat.le_of_ble_eq_true rfl) rfl rfl ?_
  refine wp_aload_n dq_1_26 rfl ?_
  refine wp_iconst (x := 0) dq_1_27 rfl ?_
  refine wp_putA (q := 0) (fs := [.ref (b + 1), .ref (b + 2), .int 0, .null, .null, .null]) (l' := [.inr (1, [.ref (b + 1), .ref (b + 2), .int 0, .null, .null, .null]), .inr (2, [.ref (b + 2), .ref (b + 4), .ref (b + 5), .ref (b + 6), .ref (b + 7)]), .inr (3, [.ref (b + 3), .int 0, .int 0, .int 0, .int (-1)]), .inl (.byte, 480, fun _ => 0), .inl (.int, 64, fun _ => 0), .inl (.int, 64, fun _ => 0), .inl (.int, 64, fun _ => 0), .inl (.int, 64, fun _ => 0)]) dq_1_28 fp_1_23 hb rfl (Nat.le_of_ble_eq_true rfl) rfl rfl ?_
  refine wp_aload_n dq_1_31 rfl ?_
  refine wp_iconst (x := 4) dq_1_32 rfl ?_
  refine wp_newaA (N := 4) (ty := .int) (l' := [.inr (1, [.ref (b + 1), .ref (b + 2), .int 0, .null, .null, .null]), .inr (2, [.ref (b + 2), .ref (b + 4), .ref (b + 5), .ref (b + 6), .ref (b + 7)]), .inr (3, [.ref (b + 3), .int 0, .int 0, .int 0, .int (-1)]), .inl (.byte, 480, fun _ => 0), .inl (.int, 64, fun _ => 0), .inl (.int, 64, fun _ => 0), .inl (.int, 64, fun _ => 0), .inl (.int, 64, fun _ => 0), .inl (.int, 4, fun _ => 0)]) (q := 8) dq_1_33 ⟨by decide, by decide, by decide⟩ rfl rfl hb rfl rfl ?_
  refine wp_putA (q := 0) (fs := [.ref (b + 1), .ref (b + 2), .int 0, .null, .null, .null]) (l' := [.inr (1, [.ref (b + 1), .ref (b + 2), .int 0, .ref (b + 8), .null, .null]), .inr (2, [.ref (b + 2), .ref (b + 4), .ref (b + 5), .ref (b + 6), .ref (b + 7)]), .inr (3, [.ref (b + 3), .int 0, .int 0, .int 0, .int (-1)]), .inl (.byte, 480, fun _ => 0), .inl (.int, 64, fun _ => 0), .inl (.int, 64, fun _ => 0), .inl (.int, 64, fun _ => 0), .inl (.int, 64, fun _ => 0), .inl (.int, 4, fun _ => 0)]) dq_1_35 fp_1_27 hb rfl (Nat.le_of_ble_eq_true rfl) rfl rfl ?_
  refine wp_aload_n dq_1_38 rfl ?_
  refine wp_bipush (x := 49) dq_1_39 rfl ?_
  refine wp_newaA (N := 49) (ty := .int) (l' := [.inr (1, [.ref (b + 1), .ref (b + 2), .int 0, .ref (b + 8), .null, .null]), .inr (2, [.ref (b + 2), .ref (b + 4), .ref (b + 5), .ref (b + 6), .ref (b + 7)]), .inr (3, [.ref (b + 3), .int 0, .int 0, .int 0, .int (-1)]), .inl (.byte, 480, fun _ => 0), .inl (.int, 64, fun _ => 0), .inl (.int, 64, fun _ => 0), .inl (.int, 64, fun _ => 0), .inl (.int, 64, fun _ => 0), .inl (.int, 4, fun _ => 0), .inl (.int, 49, fun _ => 0)]) (q := 9) dq_1_41 ⟨by decide, by decide, by decide⟩ rfl rfl hb rfl rfl ?_
  refine wp_putA (q := 0) (fs := [.ref (b + 1), .ref (b + 2), .int 0, .ref (b + 8), .null, .null]) (l' := [.inr (1, [.ref (b + 1), .ref (b + 2), .int 0, .ref (b + 8), .ref (b + 9), .null]), .inr (2, [.ref (b + 2), .ref (b + 4), .ref (b + 5), .ref (b + 6), .ref (b + 7)]), .inr (3, [.ref (b + 3), .int 0, .int 0, .int 0, .int (-1)]), .inl (.byte, 480, fun _ => 0), .inl (.int, 64, fun _ => 0), .inl (.int, 64, fun _ => 0), .inl (.int, 64, fun _ => 0), .inl (.int, 64, fun _ => 0), .inl (.int, 4, fun _ => 0), .inl (.int, 49, fun _ => 0)]) dq_1_43 fp_1_31 hb rfl (Nat.le_of_ble_eq_true rfl) rfl rfl ?_
  refine wp_aload_n dq_1_46 rfl ?_
  refine wp_sipush (x := 441) dq_1_47 rfl ?_
  refine wp_newaA (N := 441) (ty := .int) (l' := [.inr (1, [.ref (b + 1), .ref (b + 2), .int 0, .ref (b + 8), .ref (b + 9), .null]), .inr (2, [.ref (b + 2), .ref (b + 4), .ref (b + 5), .ref (b + 6), .ref (b + 7)]), .inr (3, [.ref (b + 3), .int 0, .int 0, .int 0, .int (-1)]), .inl (.byte, 480, fun _ => 0), .inl (.int, 64, fun _ => 0), .inl (.int, 64, fun _ => 0), .inl (.int, 64, fun _ => 0), .inl (.int, 64, fun _ => 0), .inl (.int, 4, fun _ => 0), .inl (.int, 49, fun _ => 0), .inl (.int, 441, fun _ => 0)]) (q := 10) dq_1_50 ⟨by decide, by decide, by decide⟩ rfl rfl hb rfl rfl ?_
  refine wp_putA (q := 0) (fs := [.ref (b + 1), .ref (b + 2), .int 0, .ref (b + 8), .ref (b + 9), .null]) (l' := [.inr (1, [.ref (b + 1), .ref (b + 2), .int 0, .ref (b + 8), .ref (b + 9), .ref (b + 10)]), .inr (2, [.ref (b + 2), .ref (b + 4), .ref (b + 5), .ref (b + 6), .ref (b + 7)]), .inr (3, [.ref (b + 3), .int 0, .int 0, .int 0, .int (-1)]), .inl (.byte, 480, fun _ => 0), .inl (.int, 64, fun _ => 0), .inl (.int, 64, fun _ => 0), .inl (.int, 64, fun _ => 0), .inl (.int, 64, fun _ => 0), .inl (.int, 4, fun _ => 0), .inl (.int, 49, fun _ => 0), .inl (.int, 441, fun _ => 0)]) dq_1_52 fp_1_36 hb rfl (Nat.le_of_ble_eq_true rfl) rfl rfl ?_
  exact wp_vre dq_1_55 rfl ⟨rfl, rfl⟩
set_option maxRecDepth 100000 in
theorem c_cfrI {L : Nat} {xs : Nat → Int32} {d b : Nat} {g : List qx_E} (hb : g.length = b) : wp_W L xs (d + 4) 0 0 (lv_args 0 [.ref b]) [] (g ++ [.inr (0, [.null, .int 0, .int 0, .null, .null])]) (fun v h' => v = none ∧ h' = g ++ [.inr (0, [.ref (b + 1), .int 0, .int (-1), .null, .ref (b + 2)]), .inl (.byte, 480, fun _ => 0), .inr (1, [.ref (b + 3), .ref (b + 4), .int 0, .ref (b + 10), .ref (b + 11), .ref (b + 12)]), .inr (2, [.ref (b + 4), .ref (b + 6), .ref (b + 7), .ref (b + 8), .ref (b + 9)]), .inr (3, [.ref (b + 5), .int 0, .int 0, .int 0, .int (-1)]), .inl (.byte, 480, fun _ => 0), .inl (.int, 64, fun _ => 0), .inl (.int, 64, fun _ => 0), .inl (.int, 64, fun _ => 0), .inl (.int, 64, fun _ => 0), .inl (.int, 4, fun _ => 0), .inl (.int, 49, fun _ => 0), .inl (.int, 441, fun _ => 0)]) := by
  show wp_W L xs _ 0 0 [(0, .ref (b + 0))] [] _ _
  refine wp_aload_n dq_0_0 rfl ?_
  refine wp_oi dq_0_1 (by decide +kernel) (Nat.le_of_ble_eq_true rfl) ?_
  refine wp_aload_n dq_0_4 rfl ?_
  refine wp_sipush (x := 480) dq_0_5 rfl ?_
  refine wp_newaA (N := 480) (ty := .byte) (l' := [.inr (0, [.null, .int 0, .int 0, .null, .null]), .inl (.byte, 480, fun _ => 0)]) (q := 1) dq_0_8 ⟨by decide, by decide, by decide⟩ rfl rfl hb rfl rfl ?_
  refine wp_putA (q := 0) (fs := [.null, .int 0, .int 0, .null, .null]) (l' := [.inr (0, [.ref (b + 1), .int 0, .int 0, .null, .null]), .inl (.byte, 480, fun _ => 0)]) dq_0_10 fp_0_9 hb rfl (Nat.le_of_ble_eq_true rfl) rfl rfl ?_
  refine wp_aload_n dq_0_13 rfl ?_
  refine wp_iconst (x := 0) dq_0_14 rfl ?_
  refine wp_putA (q := 0) (fs := [.ref (b + 1), .int 0, .int 0, .null, .null]) (l' := [.inr (0, [.ref (b + 1), .int 0, .int 0, .null, .null]), .inl (.byte, 480, fun _ => 0)]) dq_0_15 fp_0_13 hb rfl (Nat.le_of_ble_eq_true rfl) rfl rfl ?_
  refine wp_aload_n dq_0_18 rfl ?_
  refine wp_iconst (x := -1) dq_0_19 rfl ?_
  refine wp_putA (q := 0) (fs := [.ref (b + 1), .int 0, .int 0, .null, .null]) (l' := [.inr (0, [.ref (b + 1), .int 0, .int (-1), .null, .null]), .inl (.byte, 480, fun _ => 0)]) dq_0_20 fp_0_17 hb rfl (Nat.le_of_ble_eq_true rfl) rfl rfl ?_
  refine wp_aload_n dq_0_23 rfl ?_
  refine wp_null dq_0_24 ?_
  refine wp_putA (q := 0) (fs := [.ref (b + 1), .int 0, .int (-1), .null, .null]) (l' := [.inr (0, [.ref (b + 1), .int 0, .int (-1), .null, .null]), .inl (.byte, 480, fun _ => 0)]) dq_0_25 fp_0_20 hb rfl (Nat.le_of_ble_eq_true rfl) rfl rfl ?_
  refine wp_aload_n dq_0_28 rfl ?_
  refine wp_newA (l' := [.inr (0, [.ref (b + 1), .int 0, .int (-1), .null, .null]), .inl (.byte, 480, fun _ => 0), .inr (1, [.null, .null, .int 0, .null, .null, .null])]) (q := 2) dq_0_29 (by decide +kernel) hb rfl rfl ?_
  refine wp_dup dq_0_32 rfl ?_
  rw [show g ++ [.inr (0, [.ref (b + 1), .int 0, .int (-1), .null, .null]), .inl (.byte, 480, fun _ => 0), .inr (1, [.null, .null, .int 0, .null, .null, .null])] = (g ++ [.inr (0, [.ref (b + 1), .int 0, .int (-1), .null, .null]), .inl (.byte, 480, fun _ => 0)]) ++ [.inr (1, [.null, .null, .int 0, .null, .null, .null])] by rw [List.append_assoc]; rfl]
  refine wp_ci0 dq_0_33 (by decide +kernel) mt_0_26 (by decide +kernel) (Nat.le_of_ble_eq_true rfl) (Nat.le_of_ble_eq_true rfl) (c_tablesI (b := b + 2) (by rw [List.length_append, hb]; rfl)) (fun v9 h9 q9 => ?_)
  obtain ⟨rfl, rfl⟩ := q9
  rw [List.append_assoc]
  show wp_W L xs _ 0 _ _ (.ref (b + 2) :: .ref (b + 0) :: []) (g ++ [.inr (0, [.ref (b + 1), .int 0, .int (-1), .null, .null]), .inl (.byte, 480, fun _ => 0), .inr (1, [.ref (b + 3), .ref (b + 4), .int 0, .ref (b + 10), .ref (b + 11), .ref (b + 12)]), .inr (2, [.ref (b + 4), .ref (b + 6), .ref (b + 7), .ref (b + 8), .ref (b + 9)]), .inr (3, [.ref (b + 5), .int 0, .int 0, .int 0, .int (-1)]), .inl (.byte, 480, fun _ => 0), .inl (.int, 64, fun _ => 0), .inl (.int, 64, fun _ => 0), .inl (.int, 64, fun _ => 0), .inl (.int, 64, fun _ => 0), .inl (.int, 4, fun _ => 0), .inl (.int, 49, fun _ => 0), .inl (.int, 441, fun _ => 0)]) _
  refine wp_putA (q := 0) (fs := [.ref (b + 1), .int 0, .int (-1), .null, .null]) (l' := [.inr (0, [.ref (b + 1), .int 0, .int (-1), .null, .ref (b + 2)]), .inl (.byte, 480, fun _ => 0), .inr (1, [.ref (b + 3), .ref (b + 4), .int 0, .ref (b + 10), .ref (b + 11), .ref (b + 12)]), .inr (2, [.ref (b + 4), .ref (b + 6), .ref (b + 7), .ref (b + 8), .ref (b + 9)]), .inr (3, [.ref (b + 5), .int 0, .int 0, .int 0, .int (-1)]), .inl (.byte, 480, fun _ => 0), .inl (.int, 64, fun _ => 0), .inl (.int, 64, fun _ => 0), .inl (.int, 64, fun _ => 0), .inl (.int, 64, fun _ => 0), .inl (.int, 4, fun _ => 0), .inl (.int, 49, fun _ => 0), .inl (.int, 441, fun _ => 0)]) dq_0_36 fp_0_27 hb rfl (Nat.le_of_ble_eq_true rfl) rfl rfl ?_
  exact wp_vre dq_0_39 rfl ⟨rfl, rfl⟩
theorem tb_new {g : List qx_E} {b : Nat} (hb : g.length = b) {t : List qx_E} (h : t = [.inr (1, [.ref (b + 1), .ref (b + 2), .int 0, .ref (b + 8), .ref (b + 9), .ref (b + 10)]), .inr (2, [.ref (b + 2), .ref (b + 4), .ref (b + 5), .ref (b + 6), .ref (b + 7)]), .inr (3, [.ref (b + 3), .int 0, .int 0, .int 0, .int (-1)]), .inl (.byte, 480, fun _ => 0), .inl (.int, 64, fun _ => 0), .inl (.int, 64, fun _ => 0), .inl (.int, 64, fun _ => 0), .inl (.int, 64, fun _ => 0), .inl (.int, 4, fun _ => 0), .inl (.int, 49, fun _ => 0), .inl (.int, 441, fun _ => 0)]) (u : List qx_E) : tb (g ++ t ++ u) b (fun i => if i = 4 then -1 else 0) (fun _ _ => 0) := by
  subst h
  rw [List.append_assoc]
  refine ⟨(ap_get (k := 0) hb).trans rfl, (ap_get hb).trans rfl, (ap_get hb).trans rfl, (ap_get hb).trans rfl, (ap_get hb).trans rfl, (ap_get hb).trans rfl, (ap_get hb).trans rfl, (ap_get hb).trans rfl, (ap_get hb).trans rfl, (ap_get hb).trans rfl, (ap_get hb).trans rfl⟩
theorem tc_0 : tc (fun _ _ => 0) := ⟨fun _ _ => ⟨0, by decide, rfl⟩, 0, by decide, rfl⟩
