/-! WHAT THE MODEL ANSWERS while it reads and when it is asked: bytes B, notes N -/
def AW (h : List qx_E) (B : Nat → Nat) (n : Nat) (N : Nat → Int32) : Prop := ∃ s fa fb fc fd, mw h s fa fb fc fd ∧ (n ≤ 480 ∧ ∀ i, i < n → B i < 256) ∧ ((s 2 = 0 ∧ (∀ i, i < n → fa i = nI (B i)) ∧ fb = N) ∨ (s 2 = 1 ∧ (∀ i, i < n → fd i = nI (B i)) ∧ fc = N))
def PQ (B : Nat → Nat) (n : Nat) (T : Nat → Nat) (N : Nat → Int32) : Prop := n ≤ 480 ∧ PG B n T ∧ ∃ c : Nat, c ≤ 64 ∧ N 2 = nI c ∧ (∀ i, c ≤ i → T i = 0) ∧ ∀ i, 1 ≤ i → i < c → N (20 + i) = nI (T i)
theorem AW_B {h : List qx_E} {B : Nat → Nat} {n : Nat} {N : Nat → Int32} (hA : AW h B n N) {i : Nat} (hi : i < n) : B i < 256 := by
  obtain ⟨s, fa, fb, fc, fd, hb, hB, -⟩ := hA
  exact hB.2 i hi
theorem AW_n {h : List qx_E} {B : Nat → Nat} {n : Nat} {N : Nat → Int32} (hA : AW h B n N) : n ≤ 480 := by
  obtain ⟨s, fa, fb, fc, fd, hb, hB, -⟩ := hA
  exact hB.1
theorem AW_u2 {h : List qx_E} {B : Nat → Nat} {n : Nat} {N : Nat → Int32} (hA : AW h B n N) {i : Nat} (hi : i + 1 < n) : bu_U B i 2 < 65536 := bu_lt (k := 2) (fun j hj => AW_B hA (by omega))
theorem bu_2 (B : Nat → Nat) (p : Nat) : bu_U B p 2 = B p * 256 + B (p + 1) := by
  show (0 * 256 + B (p + 0)) * 256 + B (p + 1) = _
  rw [Nat.zero_mul, Nat.zero_add]
  rfl
theorem PQ_T {B : Nat → Nat} {n : Nat} {T : Nat → Nat} {N : Nat → Int32} (hP : PQ B n T N) (i : Nat) : T i ≤ 480 := by
  rcases Decidable.em (T i = 0) with r | r
  · omega
  · have := (eOK_12 (hP.2.1 i r).2.2).2.2.2
    have := hP.1
    omega
theorem pq_e {B : Nat → Nat} {n : Nat} {T : Nat → Nat} {N : Nat → Int32} {i : Nat} (hP : PQ B n T N) (ht : tg B T i ≠ 0) : 1 ≤ i ∧ i < 64 ∧ T i ≠ 0 ∧ N (20 + i) = nI (T i) ∧ T i + 3 ≤ n ∧ n ≤ 480 ∧ tg B T i = B (T i) := by
  obtain ⟨h1, h2, c, h3, h4, h5, h6⟩ := hP
  obtain ⟨a1, a2, a3, a4, a5⟩ := tg_ne h2 rfl ht
  refine ⟨a1, a2, a3, h6 i a1 ?_, (eOK_12 a5).2.2.2, h1, a4.symm⟩
  rcases Nat.lt_or_ge i c with r | r
  · exact r
  · exact absurd (h5 i r) a3
theorem pq_t {B : Nat → Nat} {n : Nat} {T : Nat → Nat} {N : Nat → Int32} {i : Nat} (hP : PQ B n T N) (ht : tg B T i = 1) : T i + 3 + tl B T i ≤ n ∧ n ≤ 480 ∧ 1 ≤ i ∧ i < 64 ∧ N (20 + i) = nI (T i) ∧ ∀ j, j < tl B T i → 1 ≤ B (T i + 3 + j) ∧ B (T i + 3 + j) ≤ 127 := by
  obtain ⟨a1, a2, a3, a4, a5⟩ := tx_in hP.2.1 ht
  obtain ⟨b1, b2, b3, b4, -⟩ := pq_e hP (by rw [ht]; decide)
  exact ⟨a4, hP.1, a1, a2, b4, a5⟩
set_option maxRecDepth 100000 in
theorem c_byteAt {L : Nat} {xs : Nat → Int32} {d n : Nat} {B : Nat → Nat} {N : Nat → Int32} {h : List qx_E} (hA : AW h B n N) {i : Nat} (hi : i < n) : qe_E L xs d 138 [.ref 13, .int (nI i)] h (some (.int (nI (B i)))) h := by
  obtain ⟨s, fa, fb, fc, fd, hb, ⟨hn9, -⟩, hh⟩ := hA
  show wp_W L xs _ 138 0 [(0, .ref 13), (1, .int (nI i))] [] h _
  refine wp_aload_n dq_138_0 rfl ?_
  refine wp_getf dq_138_1 fl_138_31 (mw_0 hb) rfl ?_
  rcases hh with ⟨z, e, -⟩ | ⟨z, e, -⟩
  · refine wp_if_eq (tgt := 16) dq_138_4 rfl (fun c1 => ?_) (fun c1 => absurd z c1)
    refine wp_aload_n dq_138_16 rfl ?_
    refine wp_getf dq_138_17 fl_138_7 (mw_0 hb) rfl ?_
    refine wp_iload_n dq_138_20 rfl ?_
    refine wp_ialdV dq_138_21 (mw_1 hb) (by omega) (by decide) (e i hi) ?_
    exact wp_ire dq_138_22 rfl ⟨rfl, Or.inl rfl⟩ ⟨rfl, rfl⟩
  · refine wp_if_eq (tgt := 16) dq_138_4 rfl (fun c1 => absurd (z.symm.trans c1) (by decide)) (fun c1 => ?_)
    refine wp_aload_n dq_138_7 rfl ?_
    refine wp_getf dq_138_8 fl_138_19 (mw_0 hb) rfl ?_
    refine wp_iload_n dq_138_11 rfl ?_
    refine wp_ialdV dq_138_12 (mw_4 hb) (by omega) (by decide) (e i hi) ?_
    refine wp_goto (tgt := 22) dq_138_13 rfl ?_
    exact wp_ire dq_138_22 rfl ⟨rfl, Or.inl rfl⟩ ⟨rfl, rfl⟩
set_option maxRecDepth 100000 in
theorem c_note {L : Nat} {xs : Nat → Int32} {d n : Nat} {B : Nat → Nat} {N : Nat → Int32} {h : List qx_E} (hA : AW h B n N) {i : Nat} (hi : i < 500) : qe_E L xs d 137 [.ref 13, .int (nI i)] h (some (.int (N i))) h := by
  obtain ⟨s, fa, fb, fc, fd, hb, ⟨hn9, -⟩, hh⟩ := hA
  show wp_W L xs _ 137 0 [(0, .ref 13), (1, .int (nI i))] [] h _
  refine wp_aload_n dq_137_0 rfl ?_
  refine wp_getf dq_137_1 fl_137_31 (mw_0 hb) rfl ?_
  rcases hh with ⟨z, -, e⟩ | ⟨z, -, e⟩
  · refine wp_if_eq (tgt := 16) dq_137_4 rfl (fun c1 => ?_) (fun c1 => absurd z c1)
    refine wp_aload_n dq_137_16 rfl ?_
    refine wp_getf dq_137_17 fl_137_13 (mw_0 hb) rfl ?_
    refine wp_iload_n dq_137_20 rfl ?_
    refine wp_ialdV dq_137_21 (mw_2 hb) (by omega) (by decide) (by rw [e]) ?_
    exact wp_ire dq_137_22 rfl ⟨rfl, Or.inl rfl⟩ ⟨rfl, rfl⟩
  · refine wp_if_eq (tgt := 16) dq_137_4 rfl (fun c1 => absurd (z.symm.trans c1) (by decide)) (fun c1 => ?_)
    refine wp_aload_n dq_137_7 rfl ?_
    refine wp_getf dq_137_8 fl_137_16 (mw_0 hb) rfl ?_
    refine wp_iload_n dq_137_11 rfl ?_
    refine wp_ialdV dq_137_12 (mw_3 hb) (by omega) (by decide) (by rw [e]) ?_
    refine wp_goto (tgt := 22) dq_137_13 rfl ?_
    exact wp_ire dq_137_22 rfl ⟨rfl, Or.inl rfl⟩ ⟨rfl, rfl⟩
set_option maxRecDepth 100000 in
theorem c_two {L : Nat} {xs : Nat → Int32} {d n : Nat} {B : Nat → Nat} {N : Nat → Int32} {h : List qx_E} (hA : AW h B n N) {i : Nat} (hi : i + 1 < n) : qe_E L xs (d + 1) 140 [.ref 13, .int (nI i)] h (some (.int (nI (bu_U B i 2)))) h := by
  obtain ⟨s, fa, fb, fc, fd, hb, -⟩ := id hA
  have hn9 := AW_n hA
  show wp_W L xs _ 140 0 [(0, .ref 13), (1, .int (nI i))] [] h _
  refine wp_aload_n dq_140_0 rfl ?_
  refine wp_iload_n dq_140_1 rfl ?_
  refine wp_cve1 dq_140_2 mt_140_35 (ob_of (mw_0 hb)) ⟨by decide +kernel, by decide +kernel⟩ (Nat.le_of_ble_eq_true rfl) (Nat.le_of_ble_eq_true rfl) (c_byteAt hA (by omega)) ?_
  refine wp_sipush (x := nI 256) dq_140_5 rfl ?_
  refine wp_imulN dq_140_8 ?_
  refine wp_aload_n dq_140_9 rfl ?_
  refine wp_iload_n dq_140_10 rfl ?_
  refine wp_iconst (x := nI 1) dq_140_11 rfl ?_
  refine wp_iaddN dq_140_12 ?_
  refine wp_cve1 dq_140_13 mt_140_35 (ob_of (mw_0 hb)) ⟨by decide +kernel, by decide +kernel⟩ (Nat.le_of_ble_eq_true rfl) (Nat.le_of_ble_eq_true rfl) (c_byteAt hA (by omega)) ?_
  refine wp_iaddN dq_140_16 ?_
  exact wp_ire dq_140_17 rfl ⟨rfl, Or.inl rfl⟩ ⟨by rw [bu_2], rfl⟩
theorem tg_z {B : Nat → Nat} {n : Nat} {T : Nat → Nat} (hG : PG B n T) {i : Nat} (hi : i < 1) : tg B T i = 0 := by
  rcases Decidable.em (tg B T i = 0) with r | r
  · exact r
  · have := (tg_ne hG rfl r).1
    omega
set_option maxRecDepth 100000 in
theorem c_tag {L : Nat} {xs : Nat → Int32} {d n : Nat} {B T : Nat → Nat} {N : Nat → Int32} {h : List qx_E} (hA : AW h B n N) (hP : PQ B n T N) {i : Nat} (hi : i < 65536) : qe_E L xs (d + 1) 136 [.ref 13, .int (nI i)] h (some (.int (nI (tg B T i)))) h := by
  obtain ⟨s, fa, fb, fc, fd, hb, -⟩ := id hA
  have hn9 := AW_n hA
  obtain ⟨h1, h2, c, h3, h4, h5, h6⟩ := id hP
  have hti : T i ≤ 480 := PQ_T hP i
  show wp_W L xs _ 136 0 [(0, .ref 13), (1, .int (nI i))] [] h _
  refine wp_iload_n dq_136_0 rfl ?_
  refine wp_iconst (x := nI 1) dq_136_1 rfl ?_
  refine wp_ic_ltN (tgt := 25) dq_136_2 rfl (by omega) (by omega) (fun c1 => ?_) (fun c1 => ?_)
  · refine wp_iconst (x := nI 0) dq_136_25 rfl ?_
    refine wp_goto (tgt := 41) dq_136_26 rfl ?_
    exact wp_ire dq_136_41 rfl ⟨rfl, Or.inl rfl⟩ ⟨by rw [tg_z hP.2.1 (by omega)], rfl⟩
  · refine wp_iload_n dq_136_5 rfl ?_
    refine wp_aload_n dq_136_6 rfl ?_
    refine wp_iconst (x := nI 2) dq_136_7 rfl ?_
    have hn8 := c_note (L := L) (xs := xs) (d := d) hA (i := 2) (by omega)
    rw [h4] at hn8
    refine wp_cve1 dq_136_8 mt_136_39 (ob_of (mw_0 hb)) ⟨by decide +kernel, by decide +kernel⟩ (Nat.le_of_ble_eq_true rfl) (Nat.le_of_ble_eq_true rfl) (hn8) ?_
    refine wp_ic_geN (tgt := 25) dq_136_11 rfl (by omega) (by omega) (fun c2 => ?_) (fun c2 => ?_)
    · refine wp_iconst (x := nI 0) dq_136_25 rfl ?_
      refine wp_goto (tgt := 41) dq_136_26 rfl ?_
      exact wp_ire dq_136_41 rfl ⟨rfl, Or.inl rfl⟩ ⟨by rw [show tg B T i = 0 from if_neg (fun q => q.2 (h5 i c2))], rfl⟩
    · refine wp_aload_n dq_136_14 rfl ?_
      refine wp_bipush (x := nI 20) dq_136_15 rfl ?_
      refine wp_iload_n dq_136_17 rfl ?_
      refine wp_iaddN dq_136_18 ?_
      have hn19 := c_note (L := L) (xs := xs) (d := d) hA (i := (20 + i)) (by omega)
      rw [h6 i (by omega) (by omega)] at hn19
      refine wp_cve1 dq_136_19 mt_136_39 (ob_of (mw_0 hb)) ⟨by decide +kernel, by decide +kernel⟩ (Nat.le_of_ble_eq_true rfl) (Nat.le_of_ble_eq_true rfl) (hn19) ?_
      refine wp_if_neN (tgt := 29) dq_136_22 rfl (by omega) (fun c3 => ?_) (fun c3 => ?_)
      · refine wp_aload_n dq_136_29 rfl ?_
        refine wp_aload_n dq_136_30 rfl ?_
        refine wp_bipush (x := nI 20) dq_136_31 rfl ?_
        refine wp_iload_n dq_136_33 rfl ?_
        refine wp_iaddN dq_136_34 ?_
        have hn35 := c_note (L := L) (xs := xs) (d := d) hA (i := (20 + i)) (by omega)
        rw [h6 i (by omega) (by omega)] at hn35
        refine wp_cve1 dq_136_35 mt_136_39 (ob_of (mw_0 hb)) ⟨by decide +kernel, by decide +kernel⟩ (Nat.le_of_ble_eq_true rfl) (Nat.le_of_ble_eq_true rfl) (hn35) ?_
        refine wp_cve1 dq_136_38 mt_136_35 (ob_of (mw_0 hb)) ⟨by decide +kernel, by decide +kernel⟩ (Nat.le_of_ble_eq_true rfl) (Nat.le_of_ble_eq_true rfl) (c_byteAt hA (by have := (eOK_12 (hP.2.1 i c3).2.2).2.2.2; have := hP.1; omega)) ?_
        exact wp_ire dq_136_41 rfl ⟨rfl, Or.inl rfl⟩ ⟨by rw [show tg B T i = B (T i) from if_pos ⟨by omega, c3⟩], rfl⟩
      · refine wp_iconst (x := nI 0) dq_136_25 rfl ?_
        refine wp_goto (tgt := 41) dq_136_26 rfl ?_
        exact wp_ire dq_136_41 rfl ⟨rfl, Or.inl rfl⟩ ⟨by rw [show tg B T i = 0 from if_neg (fun q => q.2 c3)], rfl⟩
set_option maxRecDepth 100000 in
theorem c_start {L : Nat} {xs : Nat → Int32} {d n : Nat} {B T : Nat → Nat} {N : Nat → Int32} {h : List qx_E} (hA : AW h B n N) (hP : PQ B n T N) {i : Nat} (ht : tg B T i ≠ 0) : qe_E L xs (d + 1) 142 [.ref 13, .int (nI i)] h (some (.int (nI (T i + 3)))) h := by
  obtain ⟨s, fa, fb, fc, fd, hb, -⟩ := id hA
  have hn9 := AW_n hA
  obtain ⟨a1, a2, a3, a4, a5, a6, a7⟩ := pq_e hP ht
  show wp_W L xs _ 142 0 [(0, .ref 13), (1, .int (nI i))] [] h _
  refine wp_aload_n dq_142_0 rfl ?_
  refine wp_bipush (x := nI 20) dq_142_1 rfl ?_
  refine wp_iload_n dq_142_3 rfl ?_
  refine wp_iaddN dq_142_4 ?_
  have hn5 := c_note (L := L) (xs := xs) (d := d) hA (i := (20 + i)) (by omega)
  rw [a4] at hn5
  refine wp_cve1 dq_142_5 mt_142_39 (ob_of (mw_0 hb)) ⟨by decide +kernel, by decide +kernel⟩ (Nat.le_of_ble_eq_true rfl) (Nat.le_of_ble_eq_true rfl) (hn5) ?_
  refine wp_iconst (x := nI 3) dq_142_8 rfl ?_
  refine wp_iaddN dq_142_9 ?_
  exact wp_ire dq_142_10 rfl ⟨rfl, Or.inl rfl⟩ ⟨rfl, rfl⟩
set_option maxRecDepth 100000 in
theorem c_count {L : Nat} {xs : Nat → Int32} {d n : Nat} {B T : Nat → Nat} {N : Nat → Int32} {h : List qx_E} (hA : AW h B n N) (hP : PQ B n T N) {i : Nat} (ht : tg B T i ≠ 0) : qe_E L xs (d + 2) 143 [.ref 13, .int (nI i)] h (some (.int (nI (tl B T i)))) h := by
  obtain ⟨s, fa, fb, fc, fd, hb, -⟩ := id hA
  have hn9 := AW_n hA
  obtain ⟨a1, a2, a3, a4, a5, a6, a7⟩ := pq_e hP ht
  show wp_W L xs _ 143 0 [(0, .ref 13), (1, .int (nI i))] [] h _
  refine wp_aload_n dq_143_0 rfl ?_
  refine wp_aload_n dq_143_1 rfl ?_
  refine wp_bipush (x := nI 20) dq_143_2 rfl ?_
  refine wp_iload_n dq_143_4 rfl ?_
  refine wp_iaddN dq_143_5 ?_
  have hn6 := c_note (L := L) (xs := xs) (d := d + 1) hA (i := (20 + i)) (by omega)
  rw [a4] at hn6
  refine wp_cve1 dq_143_6 mt_143_39 (ob_of (mw_0 hb)) ⟨by decide +kernel, by decide +kernel⟩ (Nat.le_of_ble_eq_true rfl) (Nat.le_of_ble_eq_true rfl) (hn6) ?_
  refine wp_iconst (x := nI 1) dq_143_9 rfl ?_
  refine wp_iaddN dq_143_10 ?_
  refine wp_cve1 dq_143_11 mt_143_42 (ob_of (mw_0 hb)) ⟨by decide +kernel, by decide +kernel⟩ (Nat.le_of_ble_eq_true rfl) (Nat.le_of_ble_eq_true rfl) (c_two (d := d) hA (by omega)) ?_
  exact wp_ire dq_143_14 rfl ⟨rfl, Or.inl rfl⟩ ⟨rfl, rfl⟩
set_option maxRecDepth 100000 in
theorem c_operand {L : Nat} {xs : Nat → Int32} {d n : Nat} {B T : Nat → Nat} {N : Nat → Int32} {h : List qx_E} (hA : AW h B n N) (hP : PQ B n T N) {i : Nat} (ht : tg B T i ≠ 0) : qe_E L xs (d + 2) 139 [.ref 13, .int (nI i)] h (some (.int (nI (bu_U B (T i + 1) 2)))) h := by
  obtain ⟨s, fa, fb, fc, fd, hb, -⟩ := id hA
  have hn9 := AW_n hA
  obtain ⟨a1, a2, a3, a4, a5, a6, a7⟩ := pq_e hP ht
  show wp_W L xs _ 139 0 [(0, .ref 13), (1, .int (nI i))] [] h _
  refine wp_aload_n dq_139_0 rfl ?_
  refine wp_aload_n dq_139_1 rfl ?_
  refine wp_bipush (x := nI 20) dq_139_2 rfl ?_
  refine wp_iload_n dq_139_4 rfl ?_
  refine wp_iaddN dq_139_5 ?_
  have hn6 := c_note (L := L) (xs := xs) (d := d + 1) hA (i := (20 + i)) (by omega)
  rw [a4] at hn6
  refine wp_cve1 dq_139_6 mt_139_39 (ob_of (mw_0 hb)) ⟨by decide +kernel, by decide +kernel⟩ (Nat.le_of_ble_eq_true rfl) (Nat.le_of_ble_eq_true rfl) (hn6) ?_
  refine wp_iconst (x := nI 1) dq_139_9 rfl ?_
  refine wp_iaddN dq_139_10 ?_
  refine wp_cve1 dq_139_11 mt_139_42 (ob_of (mw_0 hb)) ⟨by decide +kernel, by decide +kernel⟩ (Nat.le_of_ble_eq_true rfl) (Nat.le_of_ble_eq_true rfl) (c_two (d := d) hA (by omega)) ?_
  exact wp_ire dq_139_14 rfl ⟨rfl, Or.inl rfl⟩ ⟨rfl, rfl⟩
set_option maxRecDepth 100000 in
theorem c_char {L : Nat} {xs : Nat → Int32} {d n : Nat} {B T : Nat → Nat} {N : Nat → Int32} {h : List qx_E} (hA : AW h B n N) (hP : PQ B n T N) {i j : Nat} (ht : tg B T i = 1) (hj : j < tl B T i) : qe_E L xs (d + 2) 146 [.ref 13, .int (nI i), .int (nI j)] h (some (.int (nI (B (T i + 3 + j))))) h := by
  obtain ⟨s, fa, fb, fc, fd, hb, -⟩ := id hA
  have hn9 := AW_n hA
  obtain ⟨a1, a2, a3, a4, a5, a6⟩ := pq_t hP ht
  show wp_W L xs _ 146 0 [(0, .ref 13), (1, .int (nI i)), (2, .int (nI j))] [] h _
  refine wp_aload_n dq_146_0 rfl ?_
  refine wp_aload_n dq_146_1 rfl ?_
  refine wp_iload_n dq_146_2 rfl ?_
  refine wp_cve1 dq_146_3 mt_146_45 (ob_of (mw_0 hb)) ⟨by decide +kernel, by decide +kernel⟩ (Nat.le_of_ble_eq_true rfl) (Nat.le_of_ble_eq_true rfl) (c_start (d := d) hA hP (by rw [ht]; decide)) ?_
  refine wp_iload_n dq_146_6 rfl ?_
  refine wp_iaddN dq_146_7 ?_
  refine wp_cve1 dq_146_8 mt_146_35 (ob_of (mw_0 hb)) ⟨by decide +kernel, by decide +kernel⟩ (Nat.le_of_ble_eq_true rfl) (Nat.le_of_ble_eq_true rfl) (c_byteAt hA (by omega)) ?_
  exact wp_ire dq_146_11 rfl ⟨rfl, Or.inl rfl⟩ ⟨rfl, rfl⟩
