/-! THE QUESTIONS: the model's mirror -/
def QW0 (h : List qx_E) (N : Nat → Int32) : Prop := ∃ s fa fb fd, mw h s fa fb N fd ∧ s 1 = nI 1
def QW (h : List qx_E) (B : Nat → Nat) (n : Nat) (N : Nat → Int32) : Prop := ∃ s fa fb fd, mw h s fa fb N fd ∧ s 1 = nI 1 ∧ s 2 = 1 ∧ n ≤ 480 ∧ ∀ i, i < n → fd i = nI (B i) ∧ B i < 256
theorem QW_0 {h : List qx_E} {B : Nat → Nat} {n : Nat} {N : Nat → Int32} (hW : QW h B n N) : QW0 h N := by
  obtain ⟨s, fa, fb, fd, hb, h1, -⟩ := hW
  exact ⟨s, fa, fb, fd, hb, h1⟩
theorem QW_A {h : List qx_E} {B : Nat → Nat} {n : Nat} {N : Nat → Int32} (hW : QW h B n N) : AW h B n N := by
  obtain ⟨s, fa, fb, fd, hb, h1, h2, hn, hB⟩ := hW
  exact ⟨s, fa, fb, N, fd, hb, ⟨hn, fun i hi => (hB i hi).2⟩, Or.inr ⟨h2, fun i hi => (hB i hi).1, rfl⟩⟩
section QL
variable {B : Nat → Nat} {n : Nat} {T : Nat → Nat} {s : Nat → Int32} {a : Nat → Nat → Int32} {M : rM}
theorem q_has0 (hM : MR a M) (hV : MV n M) {kd : Nat} {k : Int32} (hkd : kd < 3) (hk : k < 0 ∨ nI (M.c kd) ≤ k) : f_has s a (nI kd) k = 0 := by
  unfold f_has
  rw [if_neg (nI_pos (by omega)), if_neg (show ¬ 3 < nI kd from nI_nlt (a := 3) (by omega) (by decide)), nI_clamp (by omega), hM.1 kd (by omega)]
  by_cases c : k < 0
  · rw [if_pos c]
  · rw [if_neg c, if_pos (hk.resolve_left c)]
theorem q_has1 (hM : MR a M) (hV : MV n M) {kd k : Nat} (hkd : kd ≤ 3) (hk : k < M.c kd) : f_has s a (nI kd) (nI k) = 1 := by
  have hc : M.c kd ≤ 16 := by
    rcases Nat.lt_or_ge kd 3 with r | r
    · exact hV.1 kd r
    · rw [show kd = 3 by omega, hV.2.1]
      decide
  rw [q_has hM hV hkd (by omega), decide_eq_true hk]
  rfl
theorem q_ci (hQ : QF B n T s a) (hM : MR a M) (hV : MV n M) {kd k w : Nat} (hkd : kd ≤ 3) (hk : k < M.c kd) (hw : qx_en w = true) (hv : M.ct (9 * (16 * kd + k) + (w - 1)) ≠ 0 → M.ct (9 * (16 * kd + k) + (w - 1)) + 2 ≤ n) : f_contentItem s a (nI kd) (nI k) w = nI (ctv B M (9 * (16 * kd + k) + (w - 1))) := by
  have hn := QF_n hQ
  have h1 := hV.2.2.2 (9 * (16 * kd + k) + (w - 1))
  unfold f_contentItem ctv
  rw [q_content hM hV hkd hk hw]
  by_cases c : M.ct (9 * (16 * kd + k) + (w - 1)) = 0
  · rw [if_pos (by rw [c]; rfl), if_pos c]
    rfl
  · rw [if_neg (nI_ne0 (by omega) (by omega)), if_neg c, QF_u2 hQ (hv c)]
theorem q_ci0 (hM : MR a M) (hV : MV n M) {kd w : Nat} {k : Int32} (hkd : kd < 3) (hk : k < 0 ∨ nI (M.c kd) ≤ k) : f_contentItem s a (nI kd) k w = 0 := by
  unfold f_contentItem f_contentOf
  rw [q_has0 hM hV hkd hk, if_pos rfl, if_pos rfl]
theorem q_nm0 (hM : MR a M) (hV : MV n M) {kd : Nat} {k : Int32} (hkd : kd < 3) (hk : k < 0 ∨ nI (M.c kd) ≤ k) : f_nameOf s a (nI kd) k = 0 ∧ f_typeOf s a (nI kd) k = 0 := by
  unfold f_nameOf f_typeOf
  rw [q_has0 hM hV hkd hk, if_pos rfl, if_pos rfl]
  exact ⟨rfl, rfl⟩
/-- a character of a text -/
def chA (B T : Nat → Nat) (i : Nat) (e : Int32) : Int32 := if tg B T i = 1 then (if e < 0 then -1 else if e < nI (tl B T i) then nI (B (T i + 3 + e.toNatClampNeg)) else -1) else -1
theorem q_cho (hQ : QF B n T s a) {i : Nat} (hi : i < 65536) (e : Int32) : f_characterOf s a (nI i) e = chA B T i e := by
  unfold f_characterOf chA
  by_cases c : tg B T i = 1
  · obtain ⟨a1, a2, a3, a4, a5⟩ := tx_in hQ.2.2.2.2 c
    have hn := QF_n hQ
    rw [if_neg (fun r => (nm_1 hQ hi).mp r c), if_pos c, nI_clamp (by omega), QF_ln hQ c, QF_pl hQ a2 a3]
    by_cases c2 : e < 0
    · rw [if_pos c2, if_pos c2]
    · rw [if_neg c2, if_neg c2]
      by_cases c3 : e < nI (tl B T i)
      · rw [if_pos c3, if_pos c3]
        obtain ⟨j, hj, rfl⟩ := nI_of c2
        have c4 := (nI_ltI hj (by omega)).mp c3
        rw [nI_clamp hj, show (3 : Int32) = nI 3 from rfl, nI_add, nI_add, QF_u1 hQ (by omega)]
      · rw [if_neg c3, if_neg c3]
  · rw [if_pos ((nm_1 hQ hi).mpr c), if_neg c]
end QL
set_option maxRecDepth 100000 in
theorem c_m2Y {L : Nat} {xs : Nat → Int32} {d : Nat} {N : Nat → Int32} {h : List qx_E} {kd j c : Nat} (hW : QW0 h N) (hkd : kd ≤ 2) (hN : N (13 + kd) = nI c) (hj : j < c) (hc9 : c ≤ 16) : qe_E L xs d 177 [.ref 13, .int (nI kd), .int (nI j)] h (some (.int (nI (100 + 130 * kd + 8 * j)))) h := by
  obtain ⟨s, fa, fb, fd, hb, h1⟩ := id hW
  have hc := mw_0 hb
  rw [h1] at hc
  show wp_W L xs _ 177 0 [(0, .ref 13), (1, .int (nI kd)), (2, .int (nI j))] [] h _
  refine wp_aload_n dq_177_0 rfl ?_
  refine wp_getf (w := .int (nI 1)) dq_177_1 fl_177_249 hc rfl ?_
  refine wp_if_eqN (tgt := 33) dq_177_4 rfl (by omega) (fun c9 => absurd c9 (by decide)) (fun _ => ?_)
  refine wp_iload_n dq_177_7 rfl ?_
  refine wp_if_ltN (tgt := 33) dq_177_8 rfl (by omega) (fun c1 => ?_) (fun c1 => ?_)
  · exact absurd c1 (by omega)
  · refine wp_iload_n dq_177_11 rfl ?_
    refine wp_iconst (x := nI 2) dq_177_12 rfl ?_
    refine wp_ic_gtN (tgt := 33) dq_177_13 rfl (by omega) (by omega) (fun c2 => ?_) (fun c2 => ?_)
    · exact absurd c2 (by omega)
    · refine wp_iload_n dq_177_16 rfl ?_
      refine wp_if_ltN (tgt := 33) dq_177_17 rfl (by omega) (fun c3 => ?_) (fun c3 => ?_)
      · exact absurd c3 (by omega)
      · refine wp_iload_n dq_177_20 rfl ?_
        refine wp_aload_n dq_177_21 rfl ?_
        refine wp_getf (w := .ref 16) dq_177_22 fl_177_16 hc rfl ?_
        refine wp_bipush (x := nI 13) dq_177_25 rfl ?_
        refine wp_iload_n dq_177_27 rfl ?_
        refine wp_iaddN dq_177_28 ?_
        refine wp_ialdV (z := (nI c)) dq_177_29 (mw_3 hb) (by omega) (by decide) (hN) ?_
        refine wp_ic_ltN (tgt := 35) dq_177_30 rfl (by omega) (by omega) (fun c4 => ?_) (fun c4 => ?_)
        · refine wp_bipush (x := nI 100) dq_177_35 rfl ?_
          refine wp_sipush (x := nI 130) dq_177_37 rfl ?_
          refine wp_iload_n dq_177_40 rfl ?_
          refine wp_imulN dq_177_41 ?_
          refine wp_iaddN dq_177_42 ?_
          refine wp_bipush (x := nI 8) dq_177_43 rfl ?_
          refine wp_iload_n dq_177_45 rfl ?_
          refine wp_imulN dq_177_46 ?_
          refine wp_iaddN dq_177_47 ?_
          exact wp_ire dq_177_48 rfl ⟨rfl, Or.inl rfl⟩ ⟨rfl, rfl⟩
        · exact absurd c4 (by omega)
set_option maxRecDepth 100000 in
theorem c_m2N {L : Nat} {xs : Nat → Int32} {d : Nat} {N : Nat → Int32} {h : List qx_E} {kd c : Nat} {k : Int32} (hW : QW0 h N) (hkd : kd ≤ 2) (hN : N (13 + kd) = nI c) (hk : k < 0 ∨ nI c ≤ k) : qe_E L xs d 177 [.ref 13, .int (nI kd), .int k] h (some (.int (-1))) h := by
  obtain ⟨s, fa, fb, fd, hb, h1⟩ := id hW
  have hc := mw_0 hb
  rw [h1] at hc
  show wp_W L xs _ 177 0 [(0, .ref 13), (1, .int (nI kd)), (2, .int k)] [] h _
  refine wp_aload_n dq_177_0 rfl ?_
  refine wp_getf (w := .int (nI 1)) dq_177_1 fl_177_249 hc rfl ?_
  refine wp_if_eqN (tgt := 33) dq_177_4 rfl (by omega) (fun c9 => absurd c9 (by decide)) (fun _ => ?_)
  refine wp_iload_n dq_177_7 rfl ?_
  refine wp_if_ltN (tgt := 33) dq_177_8 rfl (by omega) (fun c1 => ?_) (fun c1 => ?_)
  · exact absurd c1 (by omega)
  · refine wp_iload_n dq_177_11 rfl ?_
    refine wp_iconst (x := nI 2) dq_177_12 rfl ?_
    refine wp_ic_gtN (tgt := 33) dq_177_13 rfl (by omega) (by omega) (fun c2 => ?_) (fun c2 => ?_)
    · exact absurd c2 (by omega)
    · refine wp_iload_n dq_177_16 rfl ?_
      refine wp_if_lt (tgt := 33) dq_177_17 rfl (fun c3 => ?_) (fun c3 => ?_)
      · refine wp_iconst (x := -1) dq_177_33 rfl ?_
        exact wp_ire dq_177_34 rfl ⟨rfl, Or.inl rfl⟩ ⟨rfl, rfl⟩
      · refine wp_iload_n dq_177_20 rfl ?_
        refine wp_aload_n dq_177_21 rfl ?_
        refine wp_getf (w := .ref 16) dq_177_22 fl_177_16 hc rfl ?_
        refine wp_bipush (x := nI 13) dq_177_25 rfl ?_
        refine wp_iload_n dq_177_27 rfl ?_
        refine wp_iaddN dq_177_28 ?_
        refine wp_ialdV (z := (nI c)) dq_177_29 (mw_3 hb) (by omega) (by decide) (hN) ?_
        refine wp_ic_lt (tgt := 35) dq_177_30 rfl (fun c4 => ?_) (fun c4 => ?_)
        · refine wp_bipush (x := nI 100) dq_177_35 rfl ?_
          refine wp_sipush (x := nI 130) dq_177_37 rfl ?_
          refine wp_iload_n dq_177_40 rfl ?_
          refine wp_imulN dq_177_41 ?_
          refine wp_iaddN dq_177_42 ?_
          refine wp_bipush (x := nI 8) dq_177_43 rfl ?_
          refine wp_iload_n dq_177_45 rfl ?_
          refine wp_imul dq_177_46 ?_
          refine wp_iadd dq_177_47 ?_
          rcases hk with r | r
          · exact absurd r c3
          · exact absurd c4 (Int32.not_lt.mpr r)
        · refine wp_iconst (x := -1) dq_177_33 rfl ?_
          exact wp_ire dq_177_34 rfl ⟨rfl, Or.inl rfl⟩ ⟨rfl, rfl⟩
set_option maxRecDepth 100000 in
theorem c_m2X {L : Nat} {xs : Nat → Int32} {d : Nat} {N : Nat → Int32} {h : List qx_E} {x k : Int32} (hW : QW0 h N) (hx : x < 0 ∨ 2 < x) : qe_E L xs d 177 [.ref 13, .int x, .int k] h (some (.int (-1))) h := by
  obtain ⟨s, fa, fb, fd, hb, h1⟩ := id hW
  have hc := mw_0 hb
  rw [h1] at hc
  have hR : wp_W L xs d 177 33 [(0, .ref 13), (1, .int x), (2, .int k)] [] h (fun v2 h2 => v2 = some (.int (-1)) ∧ h2 = h) := by
    refine wp_iconst (x := -1) dq_177_33 rfl ?_
    exact wp_ire dq_177_34 rfl ⟨rfl, Or.inl rfl⟩ ⟨rfl, rfl⟩
  show wp_W L xs _ 177 0 [(0, .ref 13), (1, .int x), (2, .int k)] [] h _
  refine wp_aload_n dq_177_0 rfl ?_
  refine wp_getf (w := .int (nI 1)) dq_177_1 fl_177_249 hc rfl ?_
  refine wp_if_eqN (tgt := 33) dq_177_4 rfl (by decide) (fun c => absurd c (by decide)) (fun _ => ?_)
  refine wp_iload_n dq_177_7 rfl ?_
  refine wp_if_lt (tgt := 33) dq_177_8 rfl (fun _ => hR) (fun c1 => ?_)
  refine wp_iload_n dq_177_11 rfl ?_
  refine wp_iconst (x := 2) dq_177_12 rfl ?_
  exact wp_ic_gt (tgt := 33) dq_177_13 rfl (fun _ => hR) (fun c2 => absurd (hx.resolve_left c1) c2)
theorem c_m2Z {L : Nat} {xs : Nat → Int32} {d : Nat} {N : Nat → Int32} {h : List qx_E} {fa fb fc fd s : Nat → Int32} {x k : Int32} (hb : mw h s fa fb fc fd) (h0 : s 1 = 0) : qe_E L xs d 177 [.ref 13, .int x, .int k] h (some (.int (-1))) h := by
  show wp_W L xs _ 177 0 [(0, .ref 13), (1, .int x), (2, .int k)] [] h _
  refine wp_aload_n dq_177_0 rfl ?_
  refine wp_getf (w := .int (s 1)) dq_177_1 fl_177_249 (mw_0 hb) rfl ?_
  refine wp_if_eq (tgt := 33) dq_177_4 rfl (fun _ => ?_) (fun c => absurd h0 c)
  refine wp_iconst (x := -1) dq_177_33 rfl ?_
  exact wp_ire dq_177_34 rfl ⟨rfl, Or.inl rfl⟩ ⟨rfl, rfl⟩
set_option maxRecDepth 100000 in
theorem c_elY {L : Nat} {xs : Nat → Int32} {d : Nat} {N : Nat → Int32} {h : List qx_E} {q j z c p : Nat} (hW : QW0 h N) (hq : q < 499) (hN : N q = nI c) (hN1 : N (q + 1) = nI p) (hj : j < c) (hc9 : c < 65536) : qe_E L xs d 176 [.ref 13, .int (nI q), .int (nI j), .int (nI z)] h (some (.int (nI (p + z * j)))) h := by
  obtain ⟨s, fa, fb, fd, hb, h1⟩ := id hW
  have hc := mw_0 hb
  rw [h1] at hc
  show wp_W L xs _ 176 0 [(0, .ref 13), (1, .int (nI q)), (2, .int (nI j)), (3, .int (nI z))] [] h _
  refine wp_iload_n dq_176_0 rfl ?_
  refine wp_if_ltN (tgt := 14) dq_176_1 rfl (by omega) (fun c1 => ?_) (fun c1 => ?_)
  · exact absurd c1 (by omega)
  · refine wp_iload_n dq_176_4 rfl ?_
    refine wp_aload_n dq_176_5 rfl ?_
    refine wp_getf (w := .ref 16) dq_176_6 fl_176_16 hc rfl ?_
    refine wp_iload_n dq_176_9 rfl ?_
    refine wp_ialdV (z := (nI c)) dq_176_10 (mw_3 hb) (by omega) (by decide) (hN) ?_
    refine wp_ic_ltN (tgt := 18) dq_176_11 rfl (by omega) (by omega) (fun c2 => ?_) (fun c2 => ?_)
    · refine wp_aload_n dq_176_18 rfl ?_
      refine wp_getf (w := .ref 16) dq_176_19 fl_176_16 hc rfl ?_
      refine wp_iload_n dq_176_22 rfl ?_
      refine wp_iconst (x := nI 1) dq_176_23 rfl ?_
      refine wp_iaddN dq_176_24 ?_
      refine wp_ialdV (z := (nI p)) dq_176_25 (mw_3 hb) (by omega) (by decide) (hN1) ?_
      refine wp_iload_n dq_176_26 rfl ?_
      refine wp_iload_n dq_176_27 rfl ?_
      refine wp_imulN dq_176_28 ?_
      refine wp_iaddN dq_176_29 ?_
      exact wp_ire dq_176_30 rfl ⟨rfl, Or.inl rfl⟩ ⟨rfl, rfl⟩
    · exact absurd c2 (by omega)
set_option maxRecDepth 100000 in
theorem c_elN {L : Nat} {xs : Nat → Int32} {d : Nat} {N : Nat → Int32} {h : List qx_E} {q z c : Nat} {k : Int32} (hW : QW0 h N) (hq : q < 499) (hN : N q = nI c) (hk : k < 0 ∨ nI c ≤ k) : qe_E L xs d 176 [.ref 13, .int (nI q), .int k, .int (nI z)] h (some (.int (-1))) h := by
  obtain ⟨s, fa, fb, fd, hb, h1⟩ := id hW
  have hc := mw_0 hb
  rw [h1] at hc
  show wp_W L xs _ 176 0 [(0, .ref 13), (1, .int (nI q)), (2, .int k), (3, .int (nI z))] [] h _
  refine wp_iload_n dq_176_0 rfl ?_
  refine wp_if_lt (tgt := 14) dq_176_1 rfl (fun c1 => ?_) (fun c1 => ?_)
  · refine wp_iconst (x := -1) dq_176_14 rfl ?_
    refine wp_goto (tgt := 30) dq_176_15 rfl ?_
    exact wp_ire dq_176_30 rfl ⟨rfl, Or.inl rfl⟩ ⟨rfl, rfl⟩
  · refine wp_iload_n dq_176_4 rfl ?_
    refine wp_aload_n dq_176_5 rfl ?_
    refine wp_getf (w := .ref 16) dq_176_6 fl_176_16 hc rfl ?_
    refine wp_iload_n dq_176_9 rfl ?_
    refine wp_ialdV (z := (nI c)) dq_176_10 (mw_3 hb) (by omega) (by decide) (hN) ?_
    refine wp_ic_lt (tgt := 18) dq_176_11 rfl (fun c2 => ?_) (fun c2 => ?_)
    · exact absurd c2 (Int32.not_lt.mpr (hk.resolve_left c1))
    · refine wp_iconst (x := -1) dq_176_14 rfl ?_
      refine wp_goto (tgt := 30) dq_176_15 rfl ?_
      exact wp_ire dq_176_30 rfl ⟨rfl, Or.inl rfl⟩ ⟨rfl, rfl⟩
set_option maxRecDepth 100000 in
theorem c_etY {L : Nat} {xs : Nat → Int32} {d n : Nat} {B : Nat → Nat} {N : Nat → Int32} {h : List qx_E} {q j z y c p : Nat} (hW : QW h B n N) (hq : q < 499) (hN : N q = nI c) (hN1 : N (q + 1) = nI p) (hj : j < c) (hc9 : c < 65536) (hn9 : n ≤ 480) (hp : p + z * j + y + 2 ≤ n) : qe_E L xs (d + 2) 181 [.ref 13, .int (nI q), .int (nI j), .int (nI z), .int (nI y)] h (some (.int (nI (bu_U B (p + z * j + y) 2)))) h := by
  obtain ⟨s, fa, fb, fd, hb, -⟩ := id hW
  show wp_W L xs _ 181 0 [(0, .ref 13), (1, .int (nI q)), (2, .int (nI j)), (3, .int (nI z)), (4, .int (nI y))] [] h _
  refine wp_aload_n dq_181_0 rfl ?_
  refine wp_iload_n dq_181_1 rfl ?_
  refine wp_iload_n dq_181_2 rfl ?_
  refine wp_iload_n dq_181_3 rfl ?_
  refine wp_cve3 dq_181_4 mt_181_252 (ob_of (mw_0 hb)) ⟨by decide +kernel, by decide +kernel⟩ (Nat.le_of_ble_eq_true rfl) (Nat.le_of_ble_eq_true rfl) (c_elY (d := d + 1) (QW_0 hW) hq hN hN1 hj hc9) ?_
  refine wp_istore (lv' := [(0, .ref 13), (1, .int (nI q)), (2, .int (nI j)), (3, .int (nI z)), (4, .int (nI y)), (5, .int (nI (p + z * j)))]) dq_181_7 (by decide) rfl ?_
  refine wp_iload dq_181_9 rfl ?_
  refine wp_if_geN (tgt := 18) dq_181_11 rfl (by omega) (fun c1 => ?_) (fun c1 => ?_)
  · refine wp_aload_n dq_181_18 rfl ?_
    refine wp_iload dq_181_19 rfl ?_
    refine wp_iload dq_181_21 rfl ?_
    refine wp_iaddN dq_181_23 ?_
    refine wp_cve1 dq_181_24 mt_181_42 (ob_of (mw_0 hb)) ⟨by decide +kernel, by decide +kernel⟩ (Nat.le_of_ble_eq_true rfl) (Nat.le_of_ble_eq_true rfl) (c_two (d := d) (QW_A hW) (by omega)) ?_
    exact wp_ire dq_181_27 rfl ⟨rfl, Or.inl rfl⟩ ⟨rfl, rfl⟩
  · exact absurd c1 (by omega)
set_option maxRecDepth 100000 in
theorem c_etN {L : Nat} {xs : Nat → Int32} {d : Nat} {N : Nat → Int32} {h : List qx_E} {q z y c : Nat} {k : Int32} (hW : QW0 h N) (hq : q < 499) (hN : N q = nI c) (hk : k < 0 ∨ nI c ≤ k) : qe_E L xs (d + 2) 181 [.ref 13, .int (nI q), .int k, .int (nI z), .int (nI y)] h (some (.int (nI 0))) h := by
  obtain ⟨s, fa, fb, fd, hb, -⟩ := id hW
  show wp_W L xs _ 181 0 [(0, .ref 13), (1, .int (nI q)), (2, .int k), (3, .int (nI z)), (4, .int (nI y))] [] h _
  refine wp_aload_n dq_181_0 rfl ?_
  refine wp_iload_n dq_181_1 rfl ?_
  refine wp_iload_n dq_181_2 rfl ?_
  refine wp_iload_n dq_181_3 rfl ?_
  refine wp_cve3 dq_181_4 mt_181_252 (ob_of (mw_0 hb)) ⟨by decide +kernel, by decide +kernel⟩ (Nat.le_of_ble_eq_true rfl) (Nat.le_of_ble_eq_true rfl) (c_elN (d := d + 1) hW hq hN hk) ?_
  refine wp_istore (lv' := [(0, .ref 13), (1, .int (nI q)), (2, .int k), (3, .int (nI z)), (4, .int (nI y)), (5, .int (-1))]) dq_181_7 (by decide) rfl ?_
  refine wp_iload dq_181_9 rfl ?_
  refine wp_if_ge (tgt := 18) dq_181_11 rfl (fun c1 => ?_) (fun c1 => ?_)
  · exact absurd c1 (by decide)
  · refine wp_iconst (x := nI 0) dq_181_14 rfl ?_
    refine wp_goto (tgt := 27) dq_181_15 rfl ?_
    exact wp_ire dq_181_27 rfl ⟨rfl, Or.inl rfl⟩ ⟨rfl, rfl⟩
set_option maxRecDepth 100000 in
theorem c_clt {L : Nat} {xs : Nat → Int32} {d n : Nat} {B T : Nat → Nat} {N : Nat → Int32} {h : List qx_E} {i : Nat} (hW : QW h B n N) (hP : PQ B n T N) (hi : i = 0 ∨ tg B T i = 7) (hi9 : i < 65536) : qe_E L xs (d + 3) 180 [.ref 13, .int (nI i)] h (some (.int (nI (cT B T i)))) h := by
  obtain ⟨s, fa, fb, fd, hb, -⟩ := id hW
  show wp_W L xs _ 180 0 [(0, .ref 13), (1, .int (nI i))] [] h _
  refine wp_iload_n dq_180_0 rfl ?_
  refine wp_if_gtN (tgt := 8) dq_180_1 rfl (by omega) (fun c1 => ?_) (fun c1 => ?_)
  · refine wp_aload_n dq_180_8 rfl ?_
    refine wp_iload_n dq_180_9 rfl ?_
    have h7 : tg B T i = 7 := hi.resolve_left (by omega)
    refine wp_cve1 dq_180_10 mt_180_148 (ob_of (mw_0 hb)) ⟨by decide +kernel, by decide +kernel⟩ (Nat.le_of_ble_eq_true rfl) (Nat.le_of_ble_eq_true rfl) (c_operand (d := d) (QW_A hW) hP (by omega)) ?_
    exact wp_ire dq_180_13 rfl ⟨rfl, Or.inl rfl⟩ ⟨by rw [cT_7 h7], rfl⟩
  · refine wp_iconst (x := nI 0) dq_180_4 rfl ?_
    refine wp_goto (tgt := 13) dq_180_5 rfl ?_
    exact wp_ire dq_180_13 rfl ⟨rfl, Or.inl rfl⟩ ⟨by rw [cT, if_neg (by rw [tg_z hP.2.1 (by omega)]; decide)], rfl⟩
set_option maxRecDepth 100000 in
theorem c_cho {L : Nat} {xs : Nat → Int32} {d n : Nat} {B T : Nat → Nat} {N : Nat → Int32} {h : List qx_E} {i : Nat} {e : Int32} (hW : QW h B n N) (hP : PQ B n T N) (hi : i = 0 ∨ tg B T i = 1) (hi9 : i < 65536) : qe_E L xs (d + 3) 182 [.ref 13, .int (nI i), .int e] h (some (.int (chA B T i e))) h := by
  obtain ⟨s, fa, fb, fd, hb, -⟩ := id hW
  have hR : chA B T i e = -1 → wp_W L xs (d + 3) 182 17 [(0, .ref 13), (1, .int (nI i)), (2, .int e)] [] h (fun v2 h2 => v2 = some (.int (chA B T i e)) ∧ h2 = h) := fun r => by
    rw [r]
    refine wp_iconst (x := -1) dq_182_17 rfl ?_
    refine wp_goto (tgt := 27) dq_182_18 rfl ?_
    exact wp_ire dq_182_27 rfl ⟨rfl, Or.inl rfl⟩ ⟨rfl, rfl⟩
  show wp_W L xs _ 182 0 [(0, .ref 13), (1, .int (nI i)), (2, .int e)] [] h _
  refine wp_iload_n dq_182_0 rfl ?_
  refine wp_if_leN (tgt := 17) dq_182_1 rfl (by omega) (fun c1 => hR ?_) (fun c1 => ?_)
  · unfold chA
    rw [if_neg (by rw [tg_z hP.2.1 (by omega)]; decide)]
  have ht : tg B T i = 1 := hi.resolve_left (by omega)
  obtain ⟨a1, a2, a3, a4, a5, a6⟩ := pq_t hP ht
  refine wp_iload_n dq_182_4 rfl ?_
  refine wp_if_lt (tgt := 17) dq_182_5 rfl (fun c2 => hR ?_) (fun c2 => ?_)
  · unfold chA
    rw [if_pos ht, if_pos c2]
  obtain ⟨j, hj, rfl⟩ := nI_of c2
  refine wp_iload_n dq_182_8 rfl ?_
  refine wp_aload_n dq_182_9 rfl ?_
  refine wp_iload_n dq_182_10 rfl ?_
  refine wp_cve1 dq_182_11 mt_182_48 (ob_of (mw_0 hb)) ⟨by decide +kernel, by decide +kernel⟩ (Nat.le_of_ble_eq_true rfl) (Nat.le_of_ble_eq_true rfl) (c_count (d := d) (QW_A hW) hP (by rw [ht]; decide)) ?_
  refine wp_ic_ltN (tgt := 21) dq_182_14 rfl hj (by omega) (fun c3 => ?_) (fun c3 => hR ?_)
  rotate_left
  · unfold chA
    rw [if_pos ht, if_neg c2, if_neg (fun r => c3 ((nI_ltI hj (by omega)).mp r))]
  refine wp_aload_n dq_182_21 rfl ?_
  refine wp_iload_n dq_182_22 rfl ?_
  refine wp_iload_n dq_182_23 rfl ?_
  refine wp_cve2 dq_182_24 mt_182_53 (ob_of (mw_0 hb)) ⟨by decide +kernel, by decide +kernel⟩ (Nat.le_of_ble_eq_true rfl) (Nat.le_of_ble_eq_true rfl) (c_char (d := d) (QW_A hW) hP ht c3) ?_
  refine wp_ire dq_182_27 rfl ⟨rfl, Or.inl rfl⟩ ⟨?_, rfl⟩
  unfold chA
  rw [if_pos ht, if_neg c2, if_pos ((nI_ltI hj (by omega)).mpr c3), nI_clamp hj]
