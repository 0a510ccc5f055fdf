set_option maxRecDepth 100000 in
theorem c_cfmI {L : Nat} {xs : Nat → Int32} {d b : Nat} {g : List qx_E} (hb : g.length = b) : wp_W L xs (d + 1) 122 0 (lv_args 0 [.ref b]) [] (g ++ [.inr (5, [.null, .int 0, .null, .null, .null, .int 0, .int 0, .int 0, .int 0, .int 0])]) (fun v h' => v = none ∧ h' = g ++ [.inr (5, [.ref (b + 1), .int 0, .ref (b + 2), .ref (b + 3), .ref (b + 4), .int 0, .int 0, .int 0, .int 0, .int (-1)]), .inl (.int, 480, fun _ => 0), .inl (.int, 500, fun _ => 0), .inl (.int, 500, fun _ => 0), .inl (.int, 480, fun _ => 0)]) := by
  show wp_W L xs _ 122 0 [(0, .ref (b + 0))] [] _ _
  refine wp_aload_n dq_122_0 rfl ?_
  refine wp_oi dq_122_1 (by decide +kernel) (Nat.le_of_ble_eq_true rfl) ?_
  refine wp_aload_n dq_122_4 rfl ?_
  refine wp_sipush (x := 480) dq_122_5 rfl ?_
  refine wp_newaA (N := 480) (ty := .int) (l' := [.inr (5, [.null, .int 0, .null, .null, .null, .int 0, .int 0, .int 0, .int 0, .int 0]), .inl (.int, 480, fun _ => 0)]) (q := 1) dq_122_8 ⟨by decide, by decide, by decide⟩ rfl rfl hb rfl rfl ?_
  refine wp_putA (q := 0) (fs := [.null, .int 0, .null, .null, .null, .int 0, .int 0, .int 0, .int 0, .int 0]) (l' := [.inr (5, [.ref (b + 1), .int 0, .null, .null, .null, .int 0, .int 0, .int 0, .int 0, .int 0]), .inl (.int, 480, fun _ => 0)]) dq_122_10 fp_122_7 hb rfl (Nat.le_of_ble_eq_true rfl) rfl rfl ?_
  refine wp_aload_n dq_122_13 rfl ?_
  refine wp_sipush (x := 500) dq_122_14 rfl ?_
  refine wp_newaA (N := 500) (ty := .int) (l' := [.inr (5, [.ref (b + 1), .int 0, .null, .null, .null, .int 0, .int 0, .int 0, .int 0, .int 0]), .inl (.int, 480, fun _ => 0), .inl (.int, 500, fun _ => 0)]) (q := 2) dq_122_17 ⟨by decide, by decide, by decide⟩ rfl rfl hb rfl rfl ?_
  refine wp_putA (q := 0) (fs := [.ref (b + 1), .int 0, .null, .null, .null, .int 0, .int 0, .int 0, .int 0, .int 0]) (l' := [.inr (5, [.ref (b + 1), .int 0, .ref (b + 2), .null, .null, .int 0, .int 0, .int 0, .int 0, .int 0]), .inl (.int, 480, fun _ => 0), .inl (.int, 500, fun _ => 0)]) dq_122_19 fp_122_13 hb rfl (Nat.le_of_ble_eq_true rfl) rfl rfl ?_
  refine wp_aload_n dq_122_22 rfl ?_
  refine wp_sipush (x := 500) dq_122_23 rfl ?_
  refine wp_newaA (N := 500) (ty := .int) (l' := [.inr (5, [.ref (b + 1), .int 0, .ref (b + 2), .null, .null, .int 0, .int 0, .int 0, .int 0, .int 0]), .inl (.int, 480, fun _ => 0), .inl (.int, 500, fun _ => 0), .inl (.int, 500, fun _ => 0)]) (q := 3) dq_122_26 ⟨by decide, by decide, by decide⟩ rfl rfl hb rfl rfl ?_
  refine wp_putA (q := 0) (fs := [.ref (b + 1), .int 0, .ref (b + 2), .null, .null, .int 0, .int 0, .int 0, .int 0, .int 0]) (l' := [.inr (5, [.ref (b + 1), .int 0, .ref (b + 2), .ref (b + 3), .null, .int 0, .int 0, .int 0, .int 0, .int 0]), .inl (.int, 480, fun _ => 0), .inl (.int, 500, fun _ => 0), .inl (.int, 500, fun _ => 0)]) dq_122_28 fp_122_16 hb rfl (Nat.le_of_ble_eq_true rfl) rfl rfl ?_
  refine wp_aload_n dq_122_31 rfl ?_
  refine wp_sipush (x := 480) dq_122_32 rfl ?_
  refine wp_newaA (N := 480) (ty := .int) (l' := [.inr (5, [.ref (b + 1), .int 0, .ref (b + 2), .ref (b + 3), .null, .int 0, .int 0, .int 0, .int 0, .int 0]), .inl (.int, 480, fun _ => 0), .inl (.int, 500, fun _ => 0), .inl (.int, 500, fun _ => 0), .inl (.int, 480, fun _ => 0)]) (q := 4) dq_122_35 ⟨by decide, by decide, by decide⟩ rfl rfl hb rfl rfl ?_
  refine wp_putA (q := 0) (fs := [.ref (b + 1), .int 0, .ref (b + 2), .ref (b + 3), .null, .int 0, .int 0, .int 0, .int 0, .int 0]) (l' := [.inr (5, [.ref (b + 1), .int 0, .ref (b + 2), .ref (b + 3), .ref (b + 4), .int 0, .int 0, .int 0, .int 0, .int 0]), .inl (.int, 480, fun _ => 0), .inl (.int, 500, fun _ => 0), .inl (.int, 500, fun _ => 0), .inl (.int, 480, fun _ => 0)]) dq_122_37 fp_122_19 hb rfl (Nat.le_of_ble_eq_true rfl) rfl rfl ?_
  refine wp_aload_n dq_122_40 rfl ?_
  refine wp_iconst (x := -1) dq_122_41 rfl ?_
  refine wp_putA (q := 0) (fs := [.ref (b + 1), .int 0, .ref (b + 2), .ref (b + 3), .ref (b + 4), .int 0, .int 0, .int 0, .int 0, .int 0]) (l' := [.inr (5, [.ref (b + 1), .int 0, .ref (b + 2), .ref (b + 3), .ref (b + 4), .int 0, .int 0, .int 0, .int 0, .int (-1)]), .inl (.int, 480, fun _ => 0), .inl (.int, 500, fun _ => 0), .inl (.int, 500, fun _ => 0), .inl (.int, 480, fun _ => 0)]) dq_122_42 fp_122_22 hb rfl (Nat.le_of_ble_eq_true rfl) rfl rfl ?_
  exact wp_vre dq_122_45 rfl ⟨rfl, rfl⟩
theorem lg_self (z : Int64) : lg_cmp z z = 0 := by
  unfold lg_cmp
  simp
theorem wp_ialdXN {L : Nat} {xs : Nat → Int32} {d m pc i : Nat} {lv : qx_L} {r : List Value} {h : List qx_E} {Q : Option Value → List qx_E → Prop} (hd : decode (qx_code m) pc = .ok (.iaload, 1)) (hi : i < L) (hn : L < 2 ^ 31) (kk : wp_W L xs d m (pc + 1) lv (.int (xs i) :: r) h Q) : wp_W L xs d m pc lv (.int (nI i) :: .retAddr 0 :: r) h Q := by
  refine wp_ialdX hd (qx_in_n hi hn) ?_
  rw [nI_clamp (by omega)]
  exact kk
set_option maxRecDepth 100000 in
theorem W_put {L : Nat} {xs : Nat → Int32} {d i k : Nat} {h : List qx_E} {Q : Option Value → List qx_E → Prop} (hL : L ≤ 2048) (hi : i + 4 ≤ L) (hJ : J h k) (hK : ∀ h', J h' (k + 1) → wp_W L xs (d + 12) 188 453 [(0, .retAddr 0), (1, .ref 0), (2, .ref 13), (3, .int (nI i))] [] h' Q) : wp_W L xs (d + 12) 188 96 [(0, .retAddr 0), (1, .ref 0), (2, .ref 13), (3, .int (nI i))] [] h Q := by
  obtain ⟨a1, a2, hS, B, n, w, mr, hP, hR⟩ := hJ
  obtain ⟨f, b, s, a, mi, p1, -⟩ := id hP
  refine wp_aload_n dq_188_96 rfl ?_
  refine wp_aload_nK dq_188_97 rfl ?_
  refine wp_iload_n dq_188_98 rfl ?_
  refine wp_iconst (x := nI 1) dq_188_99 rfl ?_
  refine wp_iaddN dq_188_100 ?_
  refine wp_ialdXN dq_188_101 (by omega) (by omega) ?_
  refine wp_i2l dq_188_102 ?_
  refine wp_bipush (x := 32) dq_188_103 rfl ?_
  refine wp_lshl dq_188_105 ?_
  refine wp_aload_nK dq_188_106 rfl ?_
  refine wp_iload_n dq_188_107 rfl ?_
  refine wp_iconst (x := nI 2) dq_188_108 rfl ?_
  refine wp_iaddN dq_188_109 ?_
  refine wp_ialdXN dq_188_110 (by omega) (by omega) ?_
  refine wp_i2l dq_188_111 ?_
  refine wp_ldc2 (v := 4294967295) dq_188_112 (by decide +kernel) ?_
  refine wp_land dq_188_115 ?_
  refine wp_lor dq_188_116 ?_
  refine wp_aload_nK dq_188_117 rfl ?_
  refine wp_iload_n dq_188_118 rfl ?_
  refine wp_iconst (x := nI 3) dq_188_119 rfl ?_
  refine wp_iaddN dq_188_120 ?_
  refine wp_ialdXN dq_188_121 (by omega) (by omega) ?_
  refine wp_cv2 dq_188_122 mt_188_15 (ob_of p1) ⟨by decide +kernel, by decide +kernel⟩ (Nat.le_of_ble_eq_true rfl) (Nat.le_of_ble_eq_true rfl) (P_put hP) (fun v9 h9 q9 => ?_)
  obtain ⟨hf, ⟨hn1, rfl, hP1⟩ | ⟨hs1, k1, hx1, g1, g2, g3, rfl, hP1⟩⟩ := q9
  · have hR1 := RI_fr hR hf
    obtain ⟨s', fa, fb, fc, fd, hb, -⟩ := id hR1
    refine wp_aload_n dq_188_125 rfl ?_
    refine wp_aload_nK dq_188_126 rfl ?_
    refine wp_iload_n dq_188_127 rfl ?_
    refine wp_iconst (x := nI 1) dq_188_128 rfl ?_
    refine wp_iaddN dq_188_129 ?_
    refine wp_ialdXN dq_188_130 (by omega) (by omega) ?_
    refine wp_i2l dq_188_131 ?_
    refine wp_bipush (x := 32) dq_188_132 rfl ?_
    refine wp_lshl dq_188_134 ?_
    refine wp_aload_nK dq_188_135 rfl ?_
    refine wp_iload_n dq_188_136 rfl ?_
    refine wp_iconst (x := nI 2) dq_188_137 rfl ?_
    refine wp_iaddN dq_188_138 ?_
    refine wp_ialdXN dq_188_139 (by omega) (by omega) ?_
    refine wp_i2l dq_188_140 ?_
    refine wp_ldc2 (v := 4294967295) dq_188_141 (by decide +kernel) ?_
    refine wp_land dq_188_144 ?_
    refine wp_lor dq_188_145 ?_
    refine wp_aload_nK dq_188_146 rfl ?_
    refine wp_iload_n dq_188_147 rfl ?_
    refine wp_iconst (x := nI 3) dq_188_148 rfl ?_
    refine wp_iaddN dq_188_149 ?_
    refine wp_ialdXN dq_188_150 (by omega) (by omega) ?_
    refine wp_cv2 dq_188_151 mt_188_19 (ob_of (mw_0 hb)) ⟨by decide +kernel, by decide +kernel⟩ (Nat.le_of_ble_eq_true rfl) (Nat.le_of_ble_eq_true rfl) (R_put hR1) (fun v9 h8 q8 => ?_)
    obtain ⟨hg, ⟨hn2, rfl, hR2⟩ | ⟨hs2, k2, hx2, g4, g5, g6, rfl, hR2⟩⟩ := q8
    · refine wp_ic_eq (tgt := 453) dq_188_154 rfl (fun _ => ?_) (fun c => absurd rfl c)
      exact hK _ (J_fin a1 a2 hS hf hP1 hg hR2)
    · exact absurd hs2 hn1
  · have hR1 := RI_fr hR hf
    obtain ⟨s', fa, fb, fc, fd, hb, -⟩ := id hR1
    refine wp_aload_n dq_188_125 rfl ?_
    refine wp_aload_nK dq_188_126 rfl ?_
    refine wp_iload_n dq_188_127 rfl ?_
    refine wp_iconst (x := nI 1) dq_188_128 rfl ?_
    refine wp_iaddN dq_188_129 ?_
    refine wp_ialdXN dq_188_130 (by omega) (by omega) ?_
    refine wp_i2l dq_188_131 ?_
    refine wp_bipush (x := 32) dq_188_132 rfl ?_
    refine wp_lshl dq_188_134 ?_
    refine wp_aload_nK dq_188_135 rfl ?_
    refine wp_iload_n dq_188_136 rfl ?_
    refine wp_iconst (x := nI 2) dq_188_137 rfl ?_
    refine wp_iaddN dq_188_138 ?_
    refine wp_ialdXN dq_188_139 (by omega) (by omega) ?_
    refine wp_i2l dq_188_140 ?_
    refine wp_ldc2 (v := 4294967295) dq_188_141 (by decide +kernel) ?_
    refine wp_land dq_188_144 ?_
    refine wp_lor dq_188_145 ?_
    refine wp_aload_nK dq_188_146 rfl ?_
    refine wp_iload_n dq_188_147 rfl ?_
    refine wp_iconst (x := nI 3) dq_188_148 rfl ?_
    refine wp_iaddN dq_188_149 ?_
    refine wp_ialdXN dq_188_150 (by omega) (by omega) ?_
    refine wp_cv2 dq_188_151 mt_188_19 (ob_of (mw_0 hb)) ⟨by decide +kernel, by decide +kernel⟩ (Nat.le_of_ble_eq_true rfl) (Nat.le_of_ble_eq_true rfl) (R_put hR1) (fun v9 h8 q8 => ?_)
    obtain ⟨hg, ⟨hn2, rfl, hR2⟩ | ⟨hs2, k2, hx2, g4, g5, g6, rfl, hR2⟩⟩ := q8
    · exact absurd hs1 hn2
    · have e : k1 = k2 := (nI_eq (by omega) (by omega)).mp (hx1.symm.trans hx2)
      subst e
      refine wp_ic_eq (tgt := 453) dq_188_154 rfl (fun _ => ?_) (fun c => absurd rfl c)
      exact hK _ (J_fin a1 a2 hS hf hP1 hg hR2)
set_option maxRecDepth 100000 in
theorem W_patch {L : Nat} {xs : Nat → Int32} {d i k : Nat} {h : List qx_E} {Q : Option Value → List qx_E → Prop} (hL : L ≤ 2048) (hi : i + 4 ≤ L) (hJ : J h k) (hK : ∀ h', J h' (k + 1) → wp_W L xs (d + 12) 188 453 [(0, .retAddr 0), (1, .ref 0), (2, .ref 13), (3, .int (nI i))] [] h' Q) : wp_W L xs (d + 12) 188 159 [(0, .retAddr 0), (1, .ref 0), (2, .ref 13), (3, .int (nI i))] [] h Q := by
  obtain ⟨a1, a2, hS, B, n, w, mr, hP, hR⟩ := hJ
  obtain ⟨f, b, s, a, mi, p1, -⟩ := id hP
  have hn480 : n ≤ 480 := by obtain ⟨_, _, _, _, _, _, q, _⟩ := id hR; exact q
  refine wp_aload_n dq_188_159 rfl ?_
  refine wp_aload_nK dq_188_160 rfl ?_
  refine wp_iload_n dq_188_161 rfl ?_
  refine wp_iconst (x := nI 1) dq_188_162 rfl ?_
  refine wp_iaddN dq_188_163 ?_
  refine wp_ialdXN dq_188_164 (by omega) (by omega) ?_
  refine wp_aload_nK dq_188_165 rfl ?_
  refine wp_iload_n dq_188_166 rfl ?_
  refine wp_iconst (x := nI 2) dq_188_167 rfl ?_
  refine wp_iaddN dq_188_168 ?_
  refine wp_ialdXN dq_188_169 (by omega) (by omega) ?_
  refine wp_cv2 dq_188_170 mt_188_20 (ob_of p1) ⟨by decide +kernel, by decide +kernel⟩ (Nat.le_of_ble_eq_true rfl) (Nat.le_of_ble_eq_true rfl) (P_patch hP) (fun v9 h9 q9 => ?_)
  obtain ⟨hf, ⟨hn1, rfl, hP1⟩ | ⟨hs1, u1, y1, hx1, hy1, g1, g2, rfl, hP1⟩⟩ := q9
  · have hR1 := RI_fr hR hf
    obtain ⟨s', fa, fb, fc, fd, hb, -⟩ := id hR1
    refine wp_aload_n dq_188_173 rfl ?_
    refine wp_aload_nK dq_188_174 rfl ?_
    refine wp_iload_n dq_188_175 rfl ?_
    refine wp_iconst (x := nI 1) dq_188_176 rfl ?_
    refine wp_iaddN dq_188_177 ?_
    refine wp_ialdXN dq_188_178 (by omega) (by omega) ?_
    refine wp_aload_nK dq_188_179 rfl ?_
    refine wp_iload_n dq_188_180 rfl ?_
    refine wp_iconst (x := nI 2) dq_188_181 rfl ?_
    refine wp_iaddN dq_188_182 ?_
    refine wp_ialdXN dq_188_183 (by omega) (by omega) ?_
    refine wp_cv2 dq_188_184 mt_188_24 (ob_of (mw_0 hb)) ⟨by decide +kernel, by decide +kernel⟩ (Nat.le_of_ble_eq_true rfl) (Nat.le_of_ble_eq_true rfl) (R_patch hR1) (fun v9 h8 q8 => ?_)
    obtain ⟨hg, ⟨hn2, rfl, hR2⟩ | ⟨hs2, u2, y2, hx2, hy2, g4, g5, rfl, hR2⟩⟩ := q8
    · refine wp_ic_eq (tgt := 453) dq_188_187 rfl (fun _ => ?_) (fun c => absurd rfl c)
      exact hK _ (J_fin a1 a2 hS hf hP1 hg hR2)
    · exact absurd hs2 hn1
  · have hR1 := RI_fr hR hf
    obtain ⟨s', fa, fb, fc, fd, hb, -⟩ := id hR1
    refine wp_aload_n dq_188_173 rfl ?_
    refine wp_aload_nK dq_188_174 rfl ?_
    refine wp_iload_n dq_188_175 rfl ?_
    refine wp_iconst (x := nI 1) dq_188_176 rfl ?_
    refine wp_iaddN dq_188_177 ?_
    refine wp_ialdXN dq_188_178 (by omega) (by omega) ?_
    refine wp_aload_nK dq_188_179 rfl ?_
    refine wp_iload_n dq_188_180 rfl ?_
    refine wp_iconst (x := nI 2) dq_188_181 rfl ?_
    refine wp_iaddN dq_188_182 ?_
    refine wp_ialdXN dq_188_183 (by omega) (by omega) ?_
    refine wp_cv2 dq_188_184 mt_188_24 (ob_of (mw_0 hb)) ⟨by decide +kernel, by decide +kernel⟩ (Nat.le_of_ble_eq_true rfl) (Nat.le_of_ble_eq_true rfl) (R_patch hR1) (fun v9 h8 q8 => ?_)
    obtain ⟨hg, ⟨hn2, rfl, hR2⟩ | ⟨hs2, u2, y2, hx2, hy2, g4, g5, rfl, hR2⟩⟩ := q8
    · exact absurd hs1 hn2
    · have hn9 : n ≤ 480 := hn480
      have e : u1 = u2 := (nI_eq (by omega) (by omega)).mp (hx1.symm.trans hx2)
      have e2 : y1 = y2 := (nI_eq (by omega) (by omega)).mp (hy1.symm.trans hy2)
      subst e e2
      refine wp_ic_eq (tgt := 453) dq_188_187 rfl (fun _ => ?_) (fun c => absurd rfl c)
      exact hK _ (J_fin a1 a2 hS hf hP1 hg hR2)
set_option maxRecDepth 100000 in
theorem W_drop {L : Nat} {xs : Nat → Int32} {d i k : Nat} {h : List qx_E} {Q : Option Value → List qx_E → Prop} (hL : L ≤ 2048) (hi : i + 4 ≤ L) (hJ : J h k) (hK : ∀ h', J h' (k + 1) → wp_W L xs (d + 12) 188 453 [(0, .retAddr 0), (1, .ref 0), (2, .ref 13), (3, .int (nI i))] [] h' Q) : wp_W L xs (d + 12) 188 192 [(0, .retAddr 0), (1, .ref 0), (2, .ref 13), (3, .int (nI i))] [] h Q := by
  obtain ⟨a1, a2, hS, B, n, w, mr, hP, hR⟩ := hJ
  obtain ⟨f, b, s, a, mi, p1, -⟩ := id hP
  refine wp_aload_n dq_188_192 rfl ?_
  refine wp_cv0 dq_188_193 mt_188_25 (ob_of p1) ⟨by decide +kernel, by decide +kernel⟩ (Nat.le_of_ble_eq_true rfl) (Nat.le_of_ble_eq_true rfl) (P_drop hP) (fun v9 h9 q9 => ?_)
  obtain ⟨hf, rfl, hP1⟩ := q9
  · have hR1 := RI_fr hR hf
    obtain ⟨s', fa, fb, fc, fd, hb, -⟩ := id hR1
    refine wp_aload_n dq_188_196 rfl ?_
    refine wp_cv0 dq_188_197 mt_188_29 (ob_of (mw_0 hb)) ⟨by decide +kernel, by decide +kernel⟩ (Nat.le_of_ble_eq_true rfl) (Nat.le_of_ble_eq_true rfl) (R_drop hR1) (fun v9 h8 q8 => ?_)
    obtain ⟨hg, rfl, hR2⟩ := q8
    · refine wp_ic_eq (tgt := 453) dq_188_200 rfl (fun _ => ?_) (fun c => absurd rfl c)
      exact hK _ (J_fin a1 a2 hS hf hP1 hg hR2)
set_option maxRecDepth 100000 in
theorem W_read {L : Nat} {xs : Nat → Int32} {d i k : Nat} {h : List qx_E} {Q : Option Value → List qx_E → Prop} (hL : L ≤ 2048) (hi : i + 4 ≤ L) (hJ : J h k) (hK : ∀ h', J h' (k + 1) → wp_W L xs (d + 12) 188 453 [(0, .retAddr 0), (1, .ref 0), (2, .ref 13), (3, .int (nI i))] [] h' Q) : wp_W L xs (d + 12) 188 205 [(0, .retAddr 0), (1, .ref 0), (2, .ref 13), (3, .int (nI i))] [] h Q := by
  obtain ⟨a1, a2, hS, B, n, w, mr, hP, hR⟩ := hJ
  obtain ⟨f, b, s, a, mi, p1, -⟩ := id hP
  refine wp_aload_n dq_188_205 rfl ?_
  refine wp_cv0 dq_188_206 mt_188_30 (ob_of p1) ⟨by decide +kernel, by decide +kernel⟩ (Nat.le_of_ble_eq_true rfl) (Nat.le_of_ble_eq_true rfl) (P_read hP a1) (fun v9 h9 q9 => ?_)
  obtain ⟨hf, ⟨e1, he1, rfl, hP1⟩ | ⟨hs1, rfl, hP1⟩⟩ := q9
  · have hR1 := RI_fr hR hf
    obtain ⟨s', fa, fb, fc, fd, hb, -⟩ := id hR1
    refine wp_aload_n dq_188_209 rfl ?_
    refine wp_cv0 dq_188_210 mt_188_33 (ob_of (mw_0 hb)) ⟨by decide +kernel, by decide +kernel⟩ (Nat.le_of_ble_eq_true rfl) (Nat.le_of_ble_eq_true rfl) (R_read hR1) (fun v9 h8 q8 => ?_)
    obtain ⟨hg, ⟨e2, he2, rfl, hR2⟩ | ⟨hs2, rfl, hR2⟩⟩ := q8
    · have e : e1 = e2 := Sum.inr.inj (he1.symm.trans he2)
      subst e
      refine wp_ic_eq (tgt := 453) dq_188_213 rfl (fun _ => ?_) (fun c => absurd rfl c)
      exact hK _ (J_fin a1 a2 hS hf hP1 hg hR2)
    · rw [he1] at hs2; exact absurd hs2 not_snd
  · have hR1 := RI_fr hR hf
    obtain ⟨s', fa, fb, fc, fd, hb, -⟩ := id hR1
    refine wp_aload_n dq_188_209 rfl ?_
    refine wp_cv0 dq_188_210 mt_188_33 (ob_of (mw_0 hb)) ⟨by decide +kernel, by decide +kernel⟩ (Nat.le_of_ble_eq_true rfl) (Nat.le_of_ble_eq_true rfl) (R_read hR1) (fun v9 h8 q8 => ?_)
    obtain ⟨hg, ⟨e2, he2, rfl, hR2⟩ | ⟨hs2, rfl, hR2⟩⟩ := q8
    · rw [he2] at hs1; exact absurd hs1 not_snd
    · refine wp_ic_eq (tgt := 453) dq_188_213 rfl (fun _ => ?_) (fun c => absurd rfl c)
      exact hK _ (J_fin a1 a2 hS hf hP1 hg hR2)
set_option maxRecDepth 100000 in
theorem W_place {L : Nat} {xs : Nat → Int32} {d i k : Nat} {h : List qx_E} {Q : Option Value → List qx_E → Prop} (hL : L ≤ 2048) (hi : i + 4 ≤ L) (hJ : J h k) (hK : ∀ h', J h' (k + 1) → wp_W L xs (d + 12) 188 453 [(0, .retAddr 0), (1, .ref 0), (2, .ref 13), (3, .int (nI i))] [] h' Q) : wp_W L xs (d + 12) 188 218 [(0, .retAddr 0), (1, .ref 0), (2, .ref 13), (3, .int (nI i))] [] h Q := by
  obtain ⟨a1, a2, hS, B, n, w, mr, hP, hR⟩ := hJ
  obtain ⟨f, b, s, a, mi, p1, -⟩ := id hP
  obtain ⟨s', fa, fb, fc, fd, hb, -⟩ := id hR
  refine wp_aload_n dq_188_218 rfl ?_
  refine wp_cve0 dq_188_219 mt_188_34 (ob_of p1) ⟨by decide +kernel, by decide +kernel⟩ (Nat.le_of_ble_eq_true rfl) (Nat.le_of_ble_eq_true rfl) (P_place hP) ?_
  refine wp_aload_n dq_188_222 rfl ?_
  refine wp_cve0 dq_188_223 mt_188_37 (ob_of (mw_0 hb)) ⟨by decide +kernel, by decide +kernel⟩ (Nat.le_of_ble_eq_true rfl) (Nat.le_of_ble_eq_true rfl) (R_place hR) ?_
  refine wp_ic_eq (tgt := 453) dq_188_226 rfl (fun _ => ?_) (fun c => absurd rfl c)
  exact hK _ (J_fin a1 a2 hS frM_rf hP rr_rf hR)
set_option maxRecDepth 100000 in
theorem W_number {L : Nat} {xs : Nat → Int32} {d i k : Nat} {h : List qx_E} {Q : Option Value → List qx_E → Prop} (hL : L ≤ 2048) (hi : i + 4 ≤ L) (hJ : J h k) (hK : ∀ h', J h' (k + 1) → wp_W L xs (d + 12) 188 453 [(0, .retAddr 0), (1, .ref 0), (2, .ref 13), (3, .int (nI i))] [] h' Q) : wp_W L xs (d + 12) 188 231 [(0, .retAddr 0), (1, .ref 0), (2, .ref 13), (3, .int (nI i))] [] h Q := by
  obtain ⟨a1, a2, hS, B, n, w, mr, hP, hR⟩ := hJ
  obtain ⟨f, b, s, a, mi, p1, -⟩ := id hP
  obtain ⟨s', fa, fb, fc, fd, hb, -⟩ := id hR
  obtain ⟨z, q1, q2⟩ := J_number (L := L) (xs := xs) (d := d) (x := xs (i + 1)) hP hR
  refine wp_aload_n dq_188_231 rfl ?_
  refine wp_aload_nK dq_188_232 rfl ?_
  refine wp_iload_n dq_188_233 rfl ?_
  refine wp_iconst (x := nI 1) dq_188_234 rfl ?_
  refine wp_iaddN dq_188_235 ?_
  refine wp_ialdXN dq_188_236 (by omega) (by omega) ?_
  refine wp_cve1 dq_188_237 mt_188_38 (ob_of p1) ⟨by decide +kernel, by decide +kernel⟩ (Nat.le_of_ble_eq_true rfl) (Nat.le_of_ble_eq_true rfl) q1 ?_
  refine wp_aload_n dq_188_240 rfl ?_
  refine wp_aload_nK dq_188_241 rfl ?_
  refine wp_iload_n dq_188_242 rfl ?_
  refine wp_iconst (x := nI 1) dq_188_243 rfl ?_
  refine wp_iaddN dq_188_244 ?_
  refine wp_ialdXN dq_188_245 (by omega) (by omega) ?_
  refine wp_cv1 dq_188_246 mt_188_42 (ob_of (mw_0 hb)) ⟨by decide +kernel, by decide +kernel⟩ (Nat.le_of_ble_eq_true rfl) (Nat.le_of_ble_eq_true rfl) q2 (fun v9 h9 q9 => ?_)
  obtain ⟨hg, rfl, hR2⟩ := q9
  refine wp_ic_eq (tgt := 453) dq_188_249 rfl (fun _ => ?_) (fun c => absurd rfl c)
  exact hK _ (J_fin a1 a2 hS frM_rf hP hg hR2)
set_option maxRecDepth 100000 in
theorem W_flags {L : Nat} {xs : Nat → Int32} {d i k : Nat} {h : List qx_E} {Q : Option Value → List qx_E → Prop} (hL : L ≤ 2048) (hi : i + 4 ≤ L) (hJ : J h k) (hK : ∀ h', J h' (k + 1) → wp_W L xs (d + 12) 188 453 [(0, .retAddr 0), (1, .ref 0), (2, .ref 13), (3, .int (nI i))] [] h' Q) : wp_W L xs (d + 12) 188 254 [(0, .retAddr 0), (1, .ref 0), (2, .ref 13), (3, .int (nI i))] [] h Q := by
  obtain ⟨a1, a2, hS, B, n, w, mr, hP, hR⟩ := hJ
  obtain ⟨f, b, s, a, mi, p1, -⟩ := id hP
  obtain ⟨s', fa, fb, fc, fd, hb, -⟩ := id hR
  obtain ⟨z, q1, q2⟩ := J_flags (L := L) (xs := xs) (d := d) (x := xs (i + 1)) (k := xs (i + 2)) hP hR
  refine wp_aload_n dq_188_254 rfl ?_
  refine wp_aload_nK dq_188_255 rfl ?_
  refine wp_iload_n dq_188_256 rfl ?_
  refine wp_iconst (x := nI 1) dq_188_257 rfl ?_
  refine wp_iaddN dq_188_258 ?_
  refine wp_ialdXN dq_188_259 (by omega) (by omega) ?_
  refine wp_aload_nK dq_188_260 rfl ?_
  refine wp_iload_n dq_188_261 rfl ?_
  refine wp_iconst (x := nI 2) dq_188_262 rfl ?_
  refine wp_iaddN dq_188_263 ?_
  refine wp_ialdXN dq_188_264 (by omega) (by omega) ?_
  refine wp_cve2 dq_188_265 mt_188_43 (ob_of p1) ⟨by decide +kernel, by decide +kernel⟩ (Nat.le_of_ble_eq_true rfl) (Nat.le_of_ble_eq_true rfl) q1 ?_
  refine wp_aload_n dq_188_268 rfl ?_
  refine wp_aload_nK dq_188_269 rfl ?_
  refine wp_iload_n dq_188_270 rfl ?_
  refine wp_iconst (x := nI 1) dq_188_271 rfl ?_
  refine wp_iaddN dq_188_272 ?_
  refine wp_ialdXN dq_188_273 (by omega) (by omega) ?_
  refine wp_aload_nK dq_188_274 rfl ?_
  refine wp_iload_n dq_188_275 rfl ?_
  refine wp_iconst (x := nI 2) dq_188_276 rfl ?_
  refine wp_iaddN dq_188_277 ?_
  refine wp_ialdXN dq_188_278 (by omega) (by omega) ?_
  refine wp_cv2 dq_188_279 mt_188_46 (ob_of (mw_0 hb)) ⟨by decide +kernel, by decide +kernel⟩ (Nat.le_of_ble_eq_true rfl) (Nat.le_of_ble_eq_true rfl) q2 (fun v9 h9 q9 => ?_)
  obtain ⟨hg, rfl, hR2⟩ := q9
  refine wp_ic_eq (tgt := 453) dq_188_282 rfl (fun _ => ?_) (fun c => absurd rfl c)
  exact hK _ (J_fin a1 a2 hS frM_rf hP hg hR2)
set_option maxRecDepth 100000 in
theorem W_text {L : Nat} {xs : Nat → Int32} {d i k : Nat} {h : List qx_E} {Q : Option Value → List qx_E → Prop} (hL : L ≤ 2048) (hi : i + 4 ≤ L) (hJ : J h k) (hK : ∀ h', J h' (k + 1) → wp_W L xs (d + 12) 188 453 [(0, .retAddr 0), (1, .ref 0), (2, .ref 13), (3, .int (nI i))] [] h' Q) : wp_W L xs (d + 12) 188 287 [(0, .retAddr 0), (1, .ref 0), (2, .ref 13), (3, .int (nI i))] [] h Q := by
  obtain ⟨a1, a2, hS, B, n, w, mr, hP, hR⟩ := hJ
  obtain ⟨f, b, s, a, mi, p1, -⟩ := id hP
  obtain ⟨s', fa, fb, fc, fd, hb, -⟩ := id hR
  obtain ⟨z, q1, q2⟩ := J_text (L := L) (xs := xs) (d := d) (x := xs (i + 1)) (k := xs (i + 2)) (e := xs (i + 3)) hP hR
  refine wp_aload_n dq_188_287 rfl ?_
  refine wp_aload_nK dq_188_288 rfl ?_
  refine wp_iload_n dq_188_289 rfl ?_
  refine wp_iconst (x := nI 1) dq_188_290 rfl ?_
  refine wp_iaddN dq_188_291 ?_
  refine wp_ialdXN dq_188_292 (by omega) (by omega) ?_
  refine wp_aload_nK dq_188_293 rfl ?_
  refine wp_iload_n dq_188_294 rfl ?_
  refine wp_iconst (x := nI 2) dq_188_295 rfl ?_
  refine wp_iaddN dq_188_296 ?_
  refine wp_ialdXN dq_188_297 (by omega) (by omega) ?_
  refine wp_aload_nK dq_188_298 rfl ?_
  refine wp_iload_n dq_188_299 rfl ?_
  refine wp_iconst (x := nI 3) dq_188_300 rfl ?_
  refine wp_iaddN dq_188_301 ?_
  refine wp_ialdXN dq_188_302 (by omega) (by omega) ?_
  refine wp_cve3 dq_188_303 mt_188_47 (ob_of p1) ⟨by decide +kernel, by decide +kernel⟩ (Nat.le_of_ble_eq_true rfl) (Nat.le_of_ble_eq_true rfl) q1 ?_
  refine wp_aload_n dq_188_306 rfl ?_
  refine wp_aload_nK dq_188_307 rfl ?_
  refine wp_iload_n dq_188_308 rfl ?_
  refine wp_iconst (x := nI 1) dq_188_309 rfl ?_
  refine wp_iaddN dq_188_310 ?_
  refine wp_ialdXN dq_188_311 (by omega) (by omega) ?_
  refine wp_aload_nK dq_188_312 rfl ?_
  refine wp_iload_n dq_188_313 rfl ?_
  refine wp_iconst (x := nI 2) dq_188_314 rfl ?_
  refine wp_iaddN dq_188_315 ?_
  refine wp_ialdXN dq_188_316 (by omega) (by omega) ?_
  refine wp_aload_nK dq_188_317 rfl ?_
  refine wp_iload_n dq_188_318 rfl ?_
  refine wp_iconst (x := nI 3) dq_188_319 rfl ?_
  refine wp_iaddN dq_188_320 ?_
  refine wp_ialdXN dq_188_321 (by omega) (by omega) ?_
  refine wp_cv3 dq_188_322 mt_188_51 (ob_of (mw_0 hb)) ⟨by decide +kernel, by decide +kernel⟩ (Nat.le_of_ble_eq_true rfl) (Nat.le_of_ble_eq_true rfl) q2 (fun v9 h9 q9 => ?_)
  obtain ⟨hg, rfl, hR2⟩ := q9
  refine wp_ic_eq (tgt := 453) dq_188_325 rfl (fun _ => ?_) (fun c => absurd rfl c)
  exact hK _ (J_fin a1 a2 hS frM_rf hP hg hR2)
set_option maxRecDepth 100000 in
theorem W_exceptions {L : Nat} {xs : Nat → Int32} {d i k : Nat} {h : List qx_E} {Q : Option Value → List qx_E → Prop} (hL : L ≤ 2048) (hi : i + 4 ≤ L) (hJ : J h k) (hK : ∀ h', J h' (k + 1) → wp_W L xs (d + 12) 188 453 [(0, .retAddr 0), (1, .ref 0), (2, .ref 13), (3, .int (nI i))] [] h' Q) : wp_W L xs (d + 12) 188 330 [(0, .retAddr 0), (1, .ref 0), (2, .ref 13), (3, .int (nI i))] [] h Q := by
  obtain ⟨a1, a2, hS, B, n, w, mr, hP, hR⟩ := hJ
  obtain ⟨f, b, s, a, mi, p1, -⟩ := id hP
  obtain ⟨s', fa, fb, fc, fd, hb, -⟩ := id hR
  obtain ⟨z, q1, q2⟩ := J_exceptions (L := L) (xs := xs) (d := d) (k := xs (i + 1)) hP hR
  refine wp_aload_n dq_188_330 rfl ?_
  refine wp_aload_nK dq_188_331 rfl ?_
  refine wp_iload_n dq_188_332 rfl ?_
  refine wp_iconst (x := nI 1) dq_188_333 rfl ?_
  refine wp_iaddN dq_188_334 ?_
  refine wp_ialdXN dq_188_335 (by omega) (by omega) ?_
  refine wp_cve1 dq_188_336 mt_188_52 (ob_of p1) ⟨by decide +kernel, by decide +kernel⟩ (Nat.le_of_ble_eq_true rfl) (Nat.le_of_ble_eq_true rfl) q1 ?_
  refine wp_aload_n dq_188_339 rfl ?_
  refine wp_aload_nK dq_188_340 rfl ?_
  refine wp_iload_n dq_188_341 rfl ?_
  refine wp_iconst (x := nI 1) dq_188_342 rfl ?_
  refine wp_iaddN dq_188_343 ?_
  refine wp_ialdXN dq_188_344 (by omega) (by omega) ?_
  refine wp_cv1 dq_188_345 mt_188_55 (ob_of (mw_0 hb)) ⟨by decide +kernel, by decide +kernel⟩ (Nat.le_of_ble_eq_true rfl) (Nat.le_of_ble_eq_true rfl) q2 (fun v9 h9 q9 => ?_)
  obtain ⟨hg, rfl, hR2⟩ := q9
  refine wp_ic_eq (tgt := 453) dq_188_348 rfl (fun _ => ?_) (fun c => absurd rfl c)
  exact hK _ (J_fin a1 a2 hS frM_rf hP hg hR2)
set_option maxRecDepth 100000 in
theorem W_exception {L : Nat} {xs : Nat → Int32} {d i k : Nat} {h : List qx_E} {Q : Option Value → List qx_E → Prop} (hL : L ≤ 2048) (hi : i + 4 ≤ L) (hJ : J h k) (hK : ∀ h', J h' (k + 1) → wp_W L xs (d + 12) 188 453 [(0, .retAddr 0), (1, .ref 0), (2, .ref 13), (3, .int (nI i))] [] h' Q) : wp_W L xs (d + 12) 188 353 [(0, .retAddr 0), (1, .ref 0), (2, .ref 13), (3, .int (nI i))] [] h Q := by
  obtain ⟨a1, a2, hS, B, n, w, mr, hP, hR⟩ := hJ
  obtain ⟨f, b, s, a, mi, p1, -⟩ := id hP
  obtain ⟨s', fa, fb, fc, fd, hb, -⟩ := id hR
  obtain ⟨z, q1, q2⟩ := J_exception (L := L) (xs := xs) (d := d) (k := xs (i + 1)) (e := xs (i + 2)) (i := xs (i + 3)) hP hR
  refine wp_aload_n dq_188_353 rfl ?_
  refine wp_aload_nK dq_188_354 rfl ?_
  refine wp_iload_n dq_188_355 rfl ?_
  refine wp_iconst (x := nI 1) dq_188_356 rfl ?_
  refine wp_iaddN dq_188_357 ?_
  refine wp_ialdXN dq_188_358 (by omega) (by omega) ?_
  refine wp_aload_nK dq_188_359 rfl ?_
  refine wp_iload_n dq_188_360 rfl ?_
  refine wp_iconst (x := nI 2) dq_188_361 rfl ?_
  refine wp_iaddN dq_188_362 ?_
  refine wp_ialdXN dq_188_363 (by omega) (by omega) ?_
  refine wp_aload_nK dq_188_364 rfl ?_
  refine wp_iload_n dq_188_365 rfl ?_
  refine wp_iconst (x := nI 3) dq_188_366 rfl ?_
  refine wp_iaddN dq_188_367 ?_
  refine wp_ialdXN dq_188_368 (by omega) (by omega) ?_
  refine wp_cve3 dq_188_369 mt_188_56 (ob_of p1) ⟨by decide +kernel, by decide +kernel⟩ (Nat.le_of_ble_eq_true rfl) (Nat.le_of_ble_eq_true rfl) q1 ?_
  refine wp_aload_n dq_188_372 rfl ?_
  refine wp_aload_nK dq_188_373 rfl ?_
  refine wp_iload_n dq_188_374 rfl ?_
  refine wp_iconst (x := nI 1) dq_188_375 rfl ?_
  refine wp_iaddN dq_188_376 ?_
  refine wp_ialdXN dq_188_377 (by omega) (by omega) ?_
  refine wp_aload_nK dq_188_378 rfl ?_
  refine wp_iload_n dq_188_379 rfl ?_
  refine wp_iconst (x := nI 2) dq_188_380 rfl ?_
  refine wp_iaddN dq_188_381 ?_
  refine wp_ialdXN dq_188_382 (by omega) (by omega) ?_
  refine wp_aload_nK dq_188_383 rfl ?_
  refine wp_iload_n dq_188_384 rfl ?_
  refine wp_iconst (x := nI 3) dq_188_385 rfl ?_
  refine wp_iaddN dq_188_386 ?_
  refine wp_ialdXN dq_188_387 (by omega) (by omega) ?_
  refine wp_cv3 dq_188_388 mt_188_59 (ob_of (mw_0 hb)) ⟨by decide +kernel, by decide +kernel⟩ (Nat.le_of_ble_eq_true rfl) (Nat.le_of_ble_eq_true rfl) q2 (fun v9 h9 q9 => ?_)
  obtain ⟨hg, rfl, hR2⟩ := q9
  refine wp_ic_eq (tgt := 453) dq_188_391 rfl (fun _ => ?_) (fun c => absurd rfl c)
  exact hK _ (J_fin a1 a2 hS frM_rf hP hg hR2)
set_option maxRecDepth 100000 in
theorem W_constant {L : Nat} {xs : Nat → Int32} {d i k : Nat} {h : List qx_E} {Q : Option Value → List qx_E → Prop} (hL : L ≤ 2048) (hi : i + 4 ≤ L) (hJ : J h k) (hK : ∀ h', J h' (k + 1) → wp_W L xs (d + 12) 188 453 [(0, .retAddr 0), (1, .ref 0), (2, .ref 13), (3, .int (nI i))] [] h' Q) : wp_W L xs (d + 12) 188 396 [(0, .retAddr 0), (1, .ref 0), (2, .ref 13), (3, .int (nI i))] [] h Q := by
  obtain ⟨a1, a2, hS, B, n, w, mr, hP, hR⟩ := hJ
  obtain ⟨f, b, s, a, mi, p1, -⟩ := id hP
  obtain ⟨s', fa, fb, fc, fd, hb, -⟩ := id hR
  obtain ⟨z, q1, q2⟩ := J_constant (L := L) (xs := xs) (d := d) (k := xs (i + 1)) hP hR
  refine wp_aload_n dq_188_396 rfl ?_
  refine wp_aload_nK dq_188_397 rfl ?_
  refine wp_iload_n dq_188_398 rfl ?_
  refine wp_iconst (x := nI 1) dq_188_399 rfl ?_
  refine wp_iaddN dq_188_400 ?_
  refine wp_ialdXN dq_188_401 (by omega) (by omega) ?_
  refine wp_cve1 dq_188_402 mt_188_60 (ob_of p1) ⟨by decide +kernel, by decide +kernel⟩ (Nat.le_of_ble_eq_true rfl) (Nat.le_of_ble_eq_true rfl) q1 ?_
  refine wp_aload_n dq_188_405 rfl ?_
  refine wp_aload_nK dq_188_406 rfl ?_
  refine wp_iload_n dq_188_407 rfl ?_
  refine wp_iconst (x := nI 1) dq_188_408 rfl ?_
  refine wp_iaddN dq_188_409 ?_
  refine wp_ialdXN dq_188_410 (by omega) (by omega) ?_
  refine wp_cv1 dq_188_411 mt_188_64 (ob_of (mw_0 hb)) ⟨by decide +kernel, by decide +kernel⟩ (Nat.le_of_ble_eq_true rfl) (Nat.le_of_ble_eq_true rfl) q2 (fun v9 h9 q9 => ?_)
  obtain ⟨hg, rfl, hR2⟩ := q9
  refine wp_lcmp dq_188_414 ?_
  refine wp_if_eq (tgt := 453) dq_188_415 rfl (fun _ => ?_) (fun c => absurd (lg_self _) c)
  exact hK _ (J_fin a1 a2 hS frM_rf hP hg hR2)
set_option maxRecDepth 100000 in
theorem W_deprecated {L : Nat} {xs : Nat → Int32} {d i k : Nat} {h : List qx_E} {Q : Option Value → List qx_E → Prop} (hL : L ≤ 2048) (hi : i + 4 ≤ L) (hJ : J h k) (hK : ∀ h', J h' (k + 1) → wp_W L xs (d + 12) 188 453 [(0, .retAddr 0), (1, .ref 0), (2, .ref 13), (3, .int (nI i))] [] h' Q) : wp_W L xs (d + 12) 188 420 [(0, .retAddr 0), (1, .ref 0), (2, .ref 13), (3, .int (nI i))] [] h Q := by
  obtain ⟨a1, a2, hS, B, n, w, mr, hP, hR⟩ := hJ
  obtain ⟨f, b, s, a, mi, p1, -⟩ := id hP
  obtain ⟨s', fa, fb, fc, fd, hb, -⟩ := id hR
  obtain ⟨z, q1, q2⟩ := J_deprecated (L := L) (xs := xs) (d := d) (x := xs (i + 1)) (k := xs (i + 2)) hP hR
  refine wp_aload_n dq_188_420 rfl ?_
  refine wp_aload_nK dq_188_421 rfl ?_
  refine wp_iload_n dq_188_422 rfl ?_
  refine wp_iconst (x := nI 1) dq_188_423 rfl ?_
  refine wp_iaddN dq_188_424 ?_
  refine wp_ialdXN dq_188_425 (by omega) (by omega) ?_
  refine wp_aload_nK dq_188_426 rfl ?_
  refine wp_iload_n dq_188_427 rfl ?_
  refine wp_iconst (x := nI 2) dq_188_428 rfl ?_
  refine wp_iaddN dq_188_429 ?_
  refine wp_ialdXN dq_188_430 (by omega) (by omega) ?_
  refine wp_cve2 dq_188_431 mt_188_65 (ob_of p1) ⟨by decide +kernel, by decide +kernel⟩ (Nat.le_of_ble_eq_true rfl) (Nat.le_of_ble_eq_true rfl) q1 ?_
  refine wp_aload_n dq_188_434 rfl ?_
  refine wp_aload_nK dq_188_435 rfl ?_
  refine wp_iload_n dq_188_436 rfl ?_
  refine wp_iconst (x := nI 1) dq_188_437 rfl ?_
  refine wp_iaddN dq_188_438 ?_
  refine wp_ialdXN dq_188_439 (by omega) (by omega) ?_
  refine wp_aload_nK dq_188_440 rfl ?_
  refine wp_iload_n dq_188_441 rfl ?_
  refine wp_iconst (x := nI 2) dq_188_442 rfl ?_
  refine wp_iaddN dq_188_443 ?_
  refine wp_ialdXN dq_188_444 (by omega) (by omega) ?_
  refine wp_cv2 dq_188_445 mt_188_68 (ob_of (mw_0 hb)) ⟨by decide +kernel, by decide +kernel⟩ (Nat.le_of_ble_eq_true rfl) (Nat.le_of_ble_eq_true rfl) q2 (fun v9 h9 q9 => ?_)
  obtain ⟨hg, rfl, hR2⟩ := q9
  refine wp_ic_eq (tgt := 453) dq_188_448 rfl (fun _ => ?_) (fun c => absurd rfl c)
  exact hK _ (J_fin a1 a2 hS frM_rf hP hg hR2)
set_option maxRecDepth 100000 in
theorem W_loop {L : Nat} {xs : Nat → Int32} {d : Nat} {Q : Option Value → List qx_E → Prop} (hL : L ≤ 2048) (hQ : ∀ h' k, J h' k → k ≤ 512 → Q (some (.int 1)) h') : ∀ j t (h : List qx_E), J h t → 4 * t ≤ L → L < 4 * t + 4 * j + 4 → wp_W L xs (d + 12) 188 18 [(0, .retAddr 0), (1, .ref 0), (2, .ref 13), (3, .int (nI (4 * t)))] [] h Q := by
  intro j
  induction j with
  | zero =>
    intro t h hJ ht hj
    refine wp_iload_n dq_188_18 rfl ?_
    refine wp_aload_nK dq_188_19 rfl ?_
    refine wp_alenX dq_188_20 ?_
    refine wp_iconst (x := nI 4) dq_188_21 rfl ?_
    refine wp_isub dq_188_22 ?_
    refine wp_ic_gt (tgt := 459) dq_188_23 rfl (fun _ => ?_) (fun c => absurd ?_ c)
    · refine wp_iconst (x := 1) dq_188_459 rfl ?_
      exact wp_ire dq_188_460 rfl ⟨rfl, Or.inr (Or.inl rfl)⟩ (hQ h t hJ (by omega))
    · show nI L - nI 4 < nI (4 * t)
      rcases Nat.lt_or_ge L 4 with r | r
      · rw [show t = 0 by omega]
        exact pk_sneg (by decide) r
      · rw [pk_sub r]
        exact nI_lt (by omega) (by omega)
  | succ j ih =>
    intro t h hJ ht hj
    refine wp_iload_n dq_188_18 rfl ?_
    refine wp_aload_nK dq_188_19 rfl ?_
    refine wp_alenX dq_188_20 ?_
    refine wp_iconst (x := nI 4) dq_188_21 rfl ?_
    refine wp_isub dq_188_22 ?_
    refine wp_ic_gt (tgt := 459) dq_188_23 rfl (fun _ => ?_) (fun c => ?_)
    · refine wp_iconst (x := 1) dq_188_459 rfl ?_
      exact wp_ire dq_188_460 rfl ⟨rfl, Or.inr (Or.inl rfl)⟩ (hQ h t hJ (by omega))
    · have hi : 4 * t + 4 ≤ L := by
        rcases Nat.lt_or_ge L 4 with r | r
        · exact absurd (show nI L - nI 4 < nI (4 * t) by rw [show t = 0 by omega]; exact pk_sneg (by decide) r) c
        · rcases Nat.lt_or_ge (L - 4) (4 * t) with r2 | r2
          · exact absurd (show nI L - nI 4 < nI (4 * t) by rw [pk_sub r]; exact nI_lt r2 (by omega)) c
          · omega
      clear c
      have hK : ∀ h' q, q = t + 1 → J h' q → wp_W L xs (d + 12) 188 453 [(0, .retAddr 0), (1, .ref 0), (2, .ref 13), (3, .int (nI (4 * t)))] [] h' Q := by
        intro h' q hq hJ'
        subst hq
        refine wp_iinc (y := nI (4 * (t + 1))) (lv' := [(0, .retAddr 0), (1, .ref 0), (2, .ref 13), (3, .int (nI (4 * (t + 1))))]) dq_188_453 rfl (nI_add _ _) (by decide) rfl ?_
        refine wp_goto (tgt := 18) dq_188_456 rfl ?_
        exact ih (t + 1) h' hJ' (by omega) (by omega)
      refine wp_aload_nK dq_188_26 rfl ?_
      refine wp_iload_n dq_188_27 rfl ?_
      refine wp_ialdXN dq_188_28 (by omega) (by omega) ?_
      refine wp_bipush (x := 15) dq_188_29 rfl ?_
      refine wp_iand dq_188_31 ?_
      obtain ⟨q, hq, eq⟩ := pk_andE (xs (4 * t)) (m := 15) 4 (by decide)
      rw [eq]
      clear eq
      rcases (show q = 0 ∨ q = 1 ∨ q = 2 ∨ q = 3 ∨ q = 4 ∨ q = 5 ∨ q = 6 ∨ q = 7 ∨ q = 8 ∨ q = 9 ∨ q = 10 ∨ q = 11 ∨ 12 ≤ q by omega) with rfl | rfl | rfl | rfl | rfl | rfl | rfl | rfl | rfl | rfl | rfl | rfl | r
      · refine wp_tabI (off := 64) (tgt := 96) dq_188_32 (by decide) (by decide) (by decide) rfl ?_
        exact W_put hL hi hJ (fun h' hJ' => hK h' _ rfl hJ')
      · refine wp_tabI (off := 127) (tgt := 159) dq_188_32 (by decide) (by decide) (by decide) rfl ?_
        exact W_patch hL hi hJ (fun h' hJ' => hK h' _ rfl hJ')
      · refine wp_tabI (off := 160) (tgt := 192) dq_188_32 (by decide) (by decide) (by decide) rfl ?_
        exact W_drop hL hi hJ (fun h' hJ' => hK h' _ rfl hJ')
      · refine wp_tabI (off := 173) (tgt := 205) dq_188_32 (by decide) (by decide) (by decide) rfl ?_
        exact W_read hL hi hJ (fun h' hJ' => hK h' _ rfl hJ')
      · refine wp_tabI (off := 186) (tgt := 218) dq_188_32 (by decide) (by decide) (by decide) rfl ?_
        exact W_place hL hi hJ (fun h' hJ' => hK h' _ rfl hJ')
      · refine wp_tabI (off := 199) (tgt := 231) dq_188_32 (by decide) (by decide) (by decide) rfl ?_
        exact W_number hL hi hJ (fun h' hJ' => hK h' _ rfl hJ')
      · refine wp_tabI (off := 222) (tgt := 254) dq_188_32 (by decide) (by decide) (by decide) rfl ?_
        exact W_flags hL hi hJ (fun h' hJ' => hK h' _ rfl hJ')
      · refine wp_tabI (off := 255) (tgt := 287) dq_188_32 (by decide) (by decide) (by decide) rfl ?_
        exact W_text hL hi hJ (fun h' hJ' => hK h' _ rfl hJ')
      · refine wp_tabI (off := 298) (tgt := 330) dq_188_32 (by decide) (by decide) (by decide) rfl ?_
        exact W_exceptions hL hi hJ (fun h' hJ' => hK h' _ rfl hJ')
      · refine wp_tabI (off := 321) (tgt := 353) dq_188_32 (by decide) (by decide) (by decide) rfl ?_
        exact W_exception hL hi hJ (fun h' hJ' => hK h' _ rfl hJ')
      · refine wp_tabI (off := 364) (tgt := 396) dq_188_32 (by decide) (by decide) (by decide) rfl ?_
        exact W_constant hL hi hJ (fun h' hJ' => hK h' _ rfl hJ')
      · refine wp_tabI (off := 388) (tgt := 420) dq_188_32 (by decide) (by decide) (by decide) rfl ?_
        exact W_deprecated hL hi hJ (fun h' hJ' => hK h' _ rfl hJ')
      · refine wp_tabO (tgt := 453) dq_188_32 (Or.inr (by rw [nI_toInt (by omega)]; omega)) rfl ?_
        exact hK h (t + 1) rfl (by obtain ⟨b1, b2, b3⟩ := hJ; exact ⟨b1, by omega, b3⟩)
