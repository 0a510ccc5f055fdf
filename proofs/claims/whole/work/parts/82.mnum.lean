/-- a member's name stands behind its flags -/
theorem np2_msL {B : Nat → Nat} {n : Nat} {T : Nat → Nat} {F kd : Nat} : ∀ j k S M, snd (rs_msL B n T F kd j k S M).1 → (∀ i, i < k → 2 ≤ M.np (16 * kd + i)) → ∀ i, i < k + j → 2 ≤ (rs_msL B n T F kd j k S M).2.np (16 * kd + i)
  | 0, k, S, M, _, h2, i, hi => h2 i hi
  | j + 1, k, S, M, h, h2, i, hi => by
    rw [rs_msL_s] at h ⊢
    have h1 := sd_msL h
    obtain ⟨o1, -, -⟩ := m1_o B n T F kd k S M
    refine np2_msL j (k + 1) _ _ h (fun v hv => ?_) i (by omega)
    rcases Nat.lt_or_ge v k with r | r
    · rw [o1 _ (by omega)]
      exact h2 v r
    · rw [show v = k by omega]
      have h3 : snd (rs_mb B n T F kd k M S) := by
        unfold rs_m1 at h1
        exact sd_tb rfl h1
      have h4 : snd (rs_is n 2 S) := (sp_nt rfl (sp_mb rfl h3).2.2.2.1).2.2.1
      have e : (rs_m1 B n T F kd k S M).2.np (16 * kd + k) = rs_p (rs_is n 2 S) := by
        unfold rs_m1
        rw [(tb_c ..).2]
        exact updN_s
      rw [e, (sd_isp rfl h4).2.2]
      exact Nat.le_add_left 2 _
def FX (B : Nat → Nat) (n : Nat) (T : Nat → Nat) (F : Nat) (M : rM) (N : Nat → Int32) (s : Nat → Int32) (a : Nat → Nat → Int32) : Prop := (QF B n T s a ∧ MR a M ∧ MV n M ∧ s 0 = nI F ∧ F + 8 ≤ n) ∧ RZ B n T F M N ∧ (VA B n T M ∧ LK8 B T ∧ 10 ≤ n ∧ tg B T (bu_U B (F + 2) 2) = 7 ∧ (bu_U B (F + 4) 2 = 0 ∨ tg B T (bu_U B (F + 4) 2) = 7) ∧ F + 8 + 2 * bu_U B (F + 6) 2 ≤ n ∧ ∀ i, i < bu_U B (F + 6) 2 → tg B T (bu_U B (F + 8 + 2 * i) 2) = 7) ∧ ∀ kd k, kd < 2 → k < M.c kd → 2 ≤ M.np (16 * kd + k)
theorem FX_np {B : Nat → Nat} {n : Nat} (h : snd (ra_7 B n)) : ∀ kd k, kd < 2 → k < (ra_6 B n).2.c kd → 2 ≤ (ra_6 B n).2.np (16 * kd + k) := by
  have h6 : snd (ra_6 B n).1 := sd_w rfl h
  have h5 : snd (ra_5 B n).1 := sd_rft h6
  have h4 : snd (ra_4 B n).1 := sd_rms h5
  have hc5 : (ra_5 B n).2.c 2 = 0 := (msL_c _ _ _ _ _ (by decide) _ _ _ _).trans (msL_c _ _ _ _ _ (by decide) _ _ _ _)
  obtain ⟨w1, w2, w3⟩ := fL_o B n (ra_T B n) _ _ _ h6 (fun _ => hc5)
  obtain ⟨o41, o42, o43⟩ := msL_o B n (ra_T B n) (ra_F B n) 0 (rs_iv B n 2 (ra_3 B n)) 0 (rs_w (decide (rs_iv B n 2 (ra_3 B n) ≤ 16)) 12 (rs_p (ra_3 B n)) (rs_is n 2 (ra_3 B n))) mM0
  obtain ⟨o51, o52, o53⟩ := msL_o B n (ra_T B n) (ra_F B n) 1 (rs_iv B n 2 (ra_4 B n).1) 0 (rs_w (decide (rs_iv B n 2 (ra_4 B n).1 ≤ 16)) 12 (rs_p (ra_4 B n).1) (rs_is n 2 (ra_4 B n).1)) (ra_4 B n).2
  have c0 : (ra_6 B n).2.c 0 = rs_iv B n 2 (ra_3 B n) := (w2 0 (by decide)).trans ((msL_c _ _ _ _ _ (by decide) _ _ _ _).trans ((o43 rfl).trans (Nat.zero_add _)))
  have c1 : (ra_6 B n).2.c 1 = rs_iv B n 2 (ra_4 B n).1 := (w2 1 (by decide)).trans ((o53 (msL_c _ _ _ _ _ (by decide) _ _ _ _)).trans (Nat.zero_add _))
  have b4 : rs_iv B n 2 (ra_3 B n) ≤ 16 := of_decide_eq_true (sd_wc rfl (sd_msL h4)).1
  have b5 : rs_iv B n 2 (ra_4 B n).1 ≤ 16 := of_decide_eq_true (sd_wc rfl (sd_msL h5)).1
  intro kd k hkd hk
  rcases (show kd = 0 ∨ kd = 1 by omega) with rfl | rfl
  · rw [c0] at hk
    have := np2_msL _ _ _ _ h4 (fun i hi => by omega) k (by omega)
    have e6 : (ra_6 B n).2.np (16 * 0 + k) = (ra_5 B n).2.np (16 * 0 + k) := w3 _ (by omega)
    have e : (ra_5 B n).2.np (16 * 0 + k) = (ra_4 B n).2.np (16 * 0 + k) := o51 _ (by omega)
    rw [e6, e]
    exact this
  · rw [c1] at hk
    have := np2_msL _ _ _ _ h5 (fun i hi => by omega) k (by omega)
    have e6 : (ra_6 B n).2.np (16 * 1 + k) = (ra_5 B n).2.np (16 * 1 + k) := w3 _ (by omega)
    rw [e6]
    exact this
section QM
variable {B : Nat → Nat} {n : Nat} {T : Nat → Nat} {F : Nat} {M : rM} {N : Nat → Int32} {s : Nat → Int32} {a : Nat → Nat → Int32}
theorem esz_t : ∀ w, w < 8 → 4 ≤ w → qx_esz.getD (w - 1) 0 = nI (ez w) := by decide +kernel
theorem VA_2 (hV : VA B n T M) {o w : Nat} (hw : w = 1 ∨ w = 3 ∨ w = 8 ∨ (4 ≤ w ∧ w ≤ 7)) (h : M.ct (9 * o + (w - 1)) ≠ 0) : VW B n T w (M.ct (9 * o + (w - 1))) ∧ M.ct (9 * o + (w - 1)) + 2 ≤ n := by
  have h1 := hV _ h
  rw [show (9 * o + (w - 1)) % 9 + 1 = w by omega] at h1
  refine ⟨h1, ?_⟩
  obtain ⟨a1, a2, a3, a4⟩ := h1
  rcases hw with r | r | r | r
  · exact (a1 r).1
  · exact (a3 r).1
  · exact (a2 r).1
  · have := (a4 r.1 r.2).1
    omega
theorem q_eiN {kd w : Nat} {k0 e y : Int32} {c : Nat} (hc : f_contentItem s a (nI kd) k0 w = nI c) (he : e < 0 ∨ nI c ≤ e) : f_elementItem s a (nI kd) k0 w e y = 0 := by
  unfold f_elementItem f_elementsOf
  rw [hc]
  by_cases r : e < 0
  · rw [if_pos r]
  · rw [if_neg r, if_neg (Int32.not_lt.mpr (he.resolve_left r))]
theorem q_eiY (hQ : QF B n T s a) {kd k w e y c p : Nat} (hw : 4 ≤ w ∧ w < 8) (hc : f_contentItem s a (nI kd) (nI k) w = nI c) (hp : f_contentOf s a (nI kd) (nI k) w = nI p) (he : e < c) (hc9 : c < 65536) (hn : p + 2 + ez w * e + y + 2 ≤ n) : f_elementItem s a (nI kd) (nI k) w (nI e) (nI y) = nI (bu_U B (p + 2 + ez w * e + y) 2) := by
  unfold f_elementItem f_elementsOf
  rw [hc, hp, if_neg (nI_pos (by omega)), if_pos (nI_lt he (by omega)), esz_t w hw.2 hw.1, show (2 : Int32) = nI 2 from rfl, nI_add, pk_mul, nI_add, nI_add, QF_u2 hQ hn]
end QM
theorem ct01 {c : Nat} (hc : c < 2 ^ 31) : nI (if c = 0 then 0 else 1) = (if nI c = 0 then (0 : Int32) else 1) := by
  by_cases r : c = 0
  · subst r
    rfl
  · rw [if_neg r, if_neg (nI_ne0 (by omega) hc)]
    rfl
set_option maxRecDepth 100000 in
theorem R_numL {L : Nat} {xs : Nat → Int32} {d n F : Nat} {B T : Nat → Nat} {N : Nat → Int32} {h : List qx_E} {M : rM} {s : Nat → Int32} {a : Nat → Nat → Int32} {j : Nat} (hW : QW0 h N) (hX : FX B n T F M N s a) (hj : j < 12) : qe_E L xs d 174 [.ref 13, .int (nI j)] h (some (.int (f_p_number s a (nI j)))) h := by
  obtain ⟨s0, fa, fb, fd, hb, h1⟩ := id hW
  have hc := mw_0 hb
  rw [h1] at hc
  obtain ⟨⟨hQ, hM, hV, h0F, hFn⟩, ⟨hP, hLK, ⟨z0, z1, z2, z3, z4, z5, z6⟩, ⟨y1, y2, y3, y4⟩, hK0, hK1, ⟨o1, o2, o3, o4, o5⟩, ⟨r1, r2, r3, r4⟩⟩, ⟨hVA, hL8, hn10, v1, v2, v3, v4⟩, hnp⟩ := id hX
  have hn9 := hP.1
  rcases (show j = 0 ∨ j = 1 ∨ j = 2 ∨ j = 3 ∨ j = 4 ∨ j = 5 ∨ j = 6 ∨ j = 7 ∨ j = 8 ∨ j = 9 ∨ j = 10 ∨ j = 11 by omega) with rfl | rfl | rfl | rfl | rfl | rfl | rfl | rfl | rfl | rfl | rfl | rfl
  · show wp_W L xs _ 174 0 [(0, .ref 13), (1, .int (nI 0))] [] h _
    refine wp_aload_n dq_174_0 rfl ?_
    refine wp_getf (w := .int (nI 1)) dq_174_1 fl_174_249 hc rfl ?_
    refine wp_if_eqN (tgt := 17) dq_174_4 rfl (by omega) (fun c9 => absurd c9 (by decide)) (fun _ => ?_)
    refine wp_iload_n dq_174_7 rfl ?_
    refine wp_if_ltN (tgt := 17) dq_174_8 rfl (by omega) (fun c9 => absurd c9 (by decide)) (fun _ => ?_)
    refine wp_iload_n dq_174_11 rfl ?_
    refine wp_bipush (x := nI 11) dq_174_12 rfl ?_
    refine wp_ic_leN (tgt := 19) dq_174_14 rfl (by decide) (by decide) (fun _ => ?_) (fun c9 => absurd c9 (by decide))
    refine wp_iload_n dq_174_19 rfl ?_
    refine wp_iconst (x := nI 3) dq_174_20 rfl ?_
    refine wp_ic_geN (tgt := 31) dq_174_21 rfl (by decide) (by decide) (fun c9 => absurd c9 (by decide)) (fun _ => ?_)
    refine wp_aload_n dq_174_24 rfl ?_
    refine wp_getf (w := .ref 16) dq_174_25 fl_174_16 hc rfl ?_
    refine wp_iload_n dq_174_28 rfl ?_
    refine wp_ialdV dq_174_29 (mw_3 hb) (by omega) (by decide) rfl ?_
    exact wp_ire dq_174_30 rfl ⟨rfl, Or.inl rfl⟩ ⟨congrArg (fun x => some (Value.int x)) (by unfold f_p_number f_numberOf; rw [if_pos (by decide), show (6 : Int32) = nI 6 from rfl, QF_u2 hQ (by omega), z0]), rfl⟩
  · show wp_W L xs _ 174 0 [(0, .ref 13), (1, .int (nI 1))] [] h _
    refine wp_aload_n dq_174_0 rfl ?_
    refine wp_getf (w := .int (nI 1)) dq_174_1 fl_174_249 hc rfl ?_
    refine wp_if_eqN (tgt := 17) dq_174_4 rfl (by omega) (fun c9 => absurd c9 (by decide)) (fun _ => ?_)
    refine wp_iload_n dq_174_7 rfl ?_
    refine wp_if_ltN (tgt := 17) dq_174_8 rfl (by omega) (fun c9 => absurd c9 (by decide)) (fun _ => ?_)
    refine wp_iload_n dq_174_11 rfl ?_
    refine wp_bipush (x := nI 11) dq_174_12 rfl ?_
    refine wp_ic_leN (tgt := 19) dq_174_14 rfl (by decide) (by decide) (fun _ => ?_) (fun c9 => absurd c9 (by decide))
    refine wp_iload_n dq_174_19 rfl ?_
    refine wp_iconst (x := nI 3) dq_174_20 rfl ?_
    refine wp_ic_geN (tgt := 31) dq_174_21 rfl (by decide) (by decide) (fun c9 => absurd c9 (by decide)) (fun _ => ?_)
    refine wp_aload_n dq_174_24 rfl ?_
    refine wp_getf (w := .ref 16) dq_174_25 fl_174_16 hc rfl ?_
    refine wp_iload_n dq_174_28 rfl ?_
    refine wp_ialdV dq_174_29 (mw_3 hb) (by omega) (by decide) rfl ?_
    exact wp_ire dq_174_30 rfl ⟨rfl, Or.inl rfl⟩ ⟨congrArg (fun x => some (Value.int x)) (by unfold f_p_number f_numberOf; rw [if_neg (by decide), if_pos (by decide), f_fileFlags, h0F, QF_u2 hQ (by omega), z1]), rfl⟩
  · show wp_W L xs _ 174 0 [(0, .ref 13), (1, .int (nI 2))] [] h _
    refine wp_aload_n dq_174_0 rfl ?_
    refine wp_getf (w := .int (nI 1)) dq_174_1 fl_174_249 hc rfl ?_
    refine wp_if_eqN (tgt := 17) dq_174_4 rfl (by omega) (fun c9 => absurd c9 (by decide)) (fun _ => ?_)
    refine wp_iload_n dq_174_7 rfl ?_
    refine wp_if_ltN (tgt := 17) dq_174_8 rfl (by omega) (fun c9 => absurd c9 (by decide)) (fun _ => ?_)
    refine wp_iload_n dq_174_11 rfl ?_
    refine wp_bipush (x := nI 11) dq_174_12 rfl ?_
    refine wp_ic_leN (tgt := 19) dq_174_14 rfl (by decide) (by decide) (fun _ => ?_) (fun c9 => absurd c9 (by decide))
    refine wp_iload_n dq_174_19 rfl ?_
    refine wp_iconst (x := nI 3) dq_174_20 rfl ?_
    refine wp_ic_geN (tgt := 31) dq_174_21 rfl (by decide) (by decide) (fun c9 => absurd c9 (by decide)) (fun _ => ?_)
    refine wp_aload_n dq_174_24 rfl ?_
    refine wp_getf (w := .ref 16) dq_174_25 fl_174_16 hc rfl ?_
    refine wp_iload_n dq_174_28 rfl ?_
    refine wp_ialdV dq_174_29 (mw_3 hb) (by omega) (by decide) rfl ?_
    exact wp_ire dq_174_30 rfl ⟨rfl, Or.inl rfl⟩ ⟨congrArg (fun x => some (Value.int x)) (by unfold f_p_number f_numberOf; rw [if_neg (by decide), if_neg (by decide), if_pos (by decide), show (8 : Int32) = nI 8 from rfl, QF_u2 hQ (by omega), z2]), rfl⟩
  · show wp_W L xs _ 174 0 [(0, .ref 13), (1, .int (nI 3))] [] h _
    refine wp_aload_n dq_174_0 rfl ?_
    refine wp_getf (w := .int (nI 1)) dq_174_1 fl_174_249 hc rfl ?_
    refine wp_if_eqN (tgt := 17) dq_174_4 rfl (by omega) (fun c9 => absurd c9 (by decide)) (fun _ => ?_)
    refine wp_iload_n dq_174_7 rfl ?_
    refine wp_if_ltN (tgt := 17) dq_174_8 rfl (by omega) (fun c9 => absurd c9 (by decide)) (fun _ => ?_)
    refine wp_iload_n dq_174_11 rfl ?_
    refine wp_bipush (x := nI 11) dq_174_12 rfl ?_
    refine wp_ic_leN (tgt := 19) dq_174_14 rfl (by decide) (by decide) (fun _ => ?_) (fun c9 => absurd c9 (by decide))
    refine wp_iload_n dq_174_19 rfl ?_
    refine wp_iconst (x := nI 3) dq_174_20 rfl ?_
    refine wp_ic_geN (tgt := 31) dq_174_21 rfl (by decide) (by decide) (fun _ => ?_) (fun c9 => absurd c9 (by decide))
    refine wp_iload_n dq_174_31 rfl ?_
    refine wp_iconst (x := nI 3) dq_174_32 rfl ?_
    refine wp_ic_neN (tgt := 43) dq_174_33 rfl (by decide) (by decide) (fun c9 => absurd c9 (by decide)) (fun _ => ?_)
    refine wp_aload_n dq_174_36 rfl ?_
    refine wp_getf (w := .ref 16) dq_174_37 fl_174_16 hc rfl ?_
    refine wp_iconst (x := nI 5) dq_174_40 rfl ?_
    refine wp_ialdV dq_174_41 (mw_3 hb) (by omega) (by decide) rfl ?_
    exact wp_ire dq_174_42 rfl ⟨rfl, Or.inl rfl⟩ ⟨congrArg (fun x => some (Value.int x)) (by unfold f_p_number f_numberOf; rw [if_neg (by decide), if_neg (by decide), if_neg (by decide), if_pos (by decide), f_interfaces, h0F, show (6 : Int32) = nI 6 from rfl, nI_add, QF_u2 hQ (by omega), z5]), rfl⟩
  · show wp_W L xs _ 174 0 [(0, .ref 13), (1, .int (nI 4))] [] h _
    refine wp_aload_n dq_174_0 rfl ?_
    refine wp_getf (w := .int (nI 1)) dq_174_1 fl_174_249 hc rfl ?_
    refine wp_if_eqN (tgt := 17) dq_174_4 rfl (by omega) (fun c9 => absurd c9 (by decide)) (fun _ => ?_)
    refine wp_iload_n dq_174_7 rfl ?_
    refine wp_if_ltN (tgt := 17) dq_174_8 rfl (by omega) (fun c9 => absurd c9 (by decide)) (fun _ => ?_)
    refine wp_iload_n dq_174_11 rfl ?_
    refine wp_bipush (x := nI 11) dq_174_12 rfl ?_
    refine wp_ic_leN (tgt := 19) dq_174_14 rfl (by decide) (by decide) (fun _ => ?_) (fun c9 => absurd c9 (by decide))
    refine wp_iload_n dq_174_19 rfl ?_
    refine wp_iconst (x := nI 3) dq_174_20 rfl ?_
    refine wp_ic_geN (tgt := 31) dq_174_21 rfl (by decide) (by decide) (fun _ => ?_) (fun c9 => absurd c9 (by decide))
    refine wp_iload_n dq_174_31 rfl ?_
    refine wp_iconst (x := nI 3) dq_174_32 rfl ?_
    refine wp_ic_neN (tgt := 43) dq_174_33 rfl (by decide) (by decide) (fun _ => ?_) (fun c9 => absurd c9 (by decide))
    refine wp_iload_n dq_174_43 rfl ?_
    refine wp_iconst (x := nI 4) dq_174_44 rfl ?_
    refine wp_ic_eqN (tgt := 53) dq_174_45 rfl (by decide) (by decide) (fun _ => ?_) (fun c9 => absurd c9 (by decide))
    refine wp_aload_n dq_174_53 rfl ?_
    refine wp_getf (w := .ref 16) dq_174_54 fl_174_16 hc rfl ?_
    refine wp_bipush (x := nI 9) dq_174_57 rfl ?_
    refine wp_iload_n dq_174_59 rfl ?_
    refine wp_iaddN dq_174_60 ?_
    refine wp_ialdV dq_174_61 (mw_3 hb) (by omega) (by decide) rfl ?_
    exact wp_ire dq_174_62 rfl ⟨rfl, Or.inl rfl⟩ ⟨congrArg (fun x => some (Value.int x)) (by unfold f_p_number f_numberOf; rw [if_neg (by decide), if_neg (by decide), if_neg (by decide), if_neg (by decide), if_pos (by decide), show (0 : Int32).toNatClampNeg = 0 by decide, hM.1 0 (by decide), y1]), rfl⟩
  · show wp_W L xs _ 174 0 [(0, .ref 13), (1, .int (nI 5))] [] h _
    refine wp_aload_n dq_174_0 rfl ?_
    refine wp_getf (w := .int (nI 1)) dq_174_1 fl_174_249 hc rfl ?_
    refine wp_if_eqN (tgt := 17) dq_174_4 rfl (by omega) (fun c9 => absurd c9 (by decide)) (fun _ => ?_)
    refine wp_iload_n dq_174_7 rfl ?_
    refine wp_if_ltN (tgt := 17) dq_174_8 rfl (by omega) (fun c9 => absurd c9 (by decide)) (fun _ => ?_)
    refine wp_iload_n dq_174_11 rfl ?_
    refine wp_bipush (x := nI 11) dq_174_12 rfl ?_
    refine wp_ic_leN (tgt := 19) dq_174_14 rfl (by decide) (by decide) (fun _ => ?_) (fun c9 => absurd c9 (by decide))
    refine wp_iload_n dq_174_19 rfl ?_
    refine wp_iconst (x := nI 3) dq_174_20 rfl ?_
    refine wp_ic_geN (tgt := 31) dq_174_21 rfl (by decide) (by decide) (fun _ => ?_) (fun c9 => absurd c9 (by decide))
    refine wp_iload_n dq_174_31 rfl ?_
    refine wp_iconst (x := nI 3) dq_174_32 rfl ?_
    refine wp_ic_neN (tgt := 43) dq_174_33 rfl (by decide) (by decide) (fun _ => ?_) (fun c9 => absurd c9 (by decide))
    refine wp_iload_n dq_174_43 rfl ?_
    refine wp_iconst (x := nI 4) dq_174_44 rfl ?_
    refine wp_ic_eqN (tgt := 53) dq_174_45 rfl (by decide) (by decide) (fun c9 => absurd c9 (by decide)) (fun _ => ?_)
    refine wp_iload_n dq_174_48 rfl ?_
    refine wp_iconst (x := nI 5) dq_174_49 rfl ?_
    refine wp_ic_neN (tgt := 63) dq_174_50 rfl (by decide) (by decide) (fun c9 => absurd c9 (by decide)) (fun _ => ?_)
    refine wp_aload_n dq_174_53 rfl ?_
    refine wp_getf (w := .ref 16) dq_174_54 fl_174_16 hc rfl ?_
    refine wp_bipush (x := nI 9) dq_174_57 rfl ?_
    refine wp_iload_n dq_174_59 rfl ?_
    refine wp_iaddN dq_174_60 ?_
    refine wp_ialdV dq_174_61 (mw_3 hb) (by omega) (by decide) rfl ?_
    exact wp_ire dq_174_62 rfl ⟨rfl, Or.inl rfl⟩ ⟨congrArg (fun x => some (Value.int x)) (by unfold f_p_number f_numberOf; rw [if_neg (by decide), if_neg (by decide), if_neg (by decide), if_neg (by decide), if_neg (by decide), if_pos (by decide), show (1 : Int32).toNatClampNeg = 1 by decide, hM.1 1 (by decide), y2]), rfl⟩
  · show wp_W L xs _ 174 0 [(0, .ref 13), (1, .int (nI 6))] [] h _
    refine wp_aload_n dq_174_0 rfl ?_
    refine wp_getf (w := .int (nI 1)) dq_174_1 fl_174_249 hc rfl ?_
    refine wp_if_eqN (tgt := 17) dq_174_4 rfl (by omega) (fun c9 => absurd c9 (by decide)) (fun _ => ?_)
    refine wp_iload_n dq_174_7 rfl ?_
    refine wp_if_ltN (tgt := 17) dq_174_8 rfl (by omega) (fun c9 => absurd c9 (by decide)) (fun _ => ?_)
    refine wp_iload_n dq_174_11 rfl ?_
    refine wp_bipush (x := nI 11) dq_174_12 rfl ?_
    refine wp_ic_leN (tgt := 19) dq_174_14 rfl (by decide) (by decide) (fun _ => ?_) (fun c9 => absurd c9 (by decide))
    refine wp_iload_n dq_174_19 rfl ?_
    refine wp_iconst (x := nI 3) dq_174_20 rfl ?_
    refine wp_ic_geN (tgt := 31) dq_174_21 rfl (by decide) (by decide) (fun _ => ?_) (fun c9 => absurd c9 (by decide))
    refine wp_iload_n dq_174_31 rfl ?_
    refine wp_iconst (x := nI 3) dq_174_32 rfl ?_
    refine wp_ic_neN (tgt := 43) dq_174_33 rfl (by decide) (by decide) (fun _ => ?_) (fun c9 => absurd c9 (by decide))
    refine wp_iload_n dq_174_43 rfl ?_
    refine wp_iconst (x := nI 4) dq_174_44 rfl ?_
    refine wp_ic_eqN (tgt := 53) dq_174_45 rfl (by decide) (by decide) (fun c9 => absurd c9 (by decide)) (fun _ => ?_)
    refine wp_iload_n dq_174_48 rfl ?_
    refine wp_iconst (x := nI 5) dq_174_49 rfl ?_
    refine wp_ic_neN (tgt := 63) dq_174_50 rfl (by decide) (by decide) (fun _ => ?_) (fun c9 => absurd c9 (by decide))
    refine wp_iload_n dq_174_63 rfl ?_
    refine wp_bipush (x := nI 9) dq_174_64 rfl ?_
    refine wp_ic_geN (tgt := 80) dq_174_66 rfl (by decide) (by decide) (fun c9 => absurd c9 (by decide)) (fun _ => ?_)
    refine wp_aload_n dq_174_69 rfl ?_
    refine wp_getf (w := .ref 16) dq_174_70 fl_174_16 hc rfl ?_
    refine wp_iconst (x := nI 2) dq_174_73 rfl ?_
    refine wp_iload_n dq_174_74 rfl ?_
    refine wp_imulN dq_174_75 ?_
    refine wp_iconst (x := nI 5) dq_174_76 rfl ?_
    refine wp_isubN dq_174_77 (by omega) ?_
    refine wp_ialdV dq_174_78 (mw_3 hb) (by omega) (by decide) rfl ?_
    exact wp_ire dq_174_79 rfl ⟨rfl, Or.inl rfl⟩ ⟨congrArg (fun x => some (Value.int x)) (by unfold f_p_number f_numberOf; rw [if_neg (by decide), if_neg (by decide), if_neg (by decide), if_neg (by decide), if_neg (by decide), if_neg (by decide), if_pos (by decide), f_elementsOf]; rw [show f_contentItem s a 3 0 5 = nI (ctv B M 436) from q_ci (kd := 3) (k := 0) (w := 5) hQ hM hV (by decide) (by rw [hV.2.1]; decide) (by decide) (fun r => (VA_2 (o := 48) (w := 5) hVA (by decide) r).2)]; exact (o3 5 (by decide) (by decide)).1), rfl⟩
  · show wp_W L xs _ 174 0 [(0, .ref 13), (1, .int (nI 7))] [] h _
    refine wp_aload_n dq_174_0 rfl ?_
    refine wp_getf (w := .int (nI 1)) dq_174_1 fl_174_249 hc rfl ?_
    refine wp_if_eqN (tgt := 17) dq_174_4 rfl (by omega) (fun c9 => absurd c9 (by decide)) (fun _ => ?_)
    refine wp_iload_n dq_174_7 rfl ?_
    refine wp_if_ltN (tgt := 17) dq_174_8 rfl (by omega) (fun c9 => absurd c9 (by decide)) (fun _ => ?_)
    refine wp_iload_n dq_174_11 rfl ?_
    refine wp_bipush (x := nI 11) dq_174_12 rfl ?_
    refine wp_ic_leN (tgt := 19) dq_174_14 rfl (by decide) (by decide) (fun _ => ?_) (fun c9 => absurd c9 (by decide))
    refine wp_iload_n dq_174_19 rfl ?_
    refine wp_iconst (x := nI 3) dq_174_20 rfl ?_
    refine wp_ic_geN (tgt := 31) dq_174_21 rfl (by decide) (by decide) (fun _ => ?_) (fun c9 => absurd c9 (by decide))
    refine wp_iload_n dq_174_31 rfl ?_
    refine wp_iconst (x := nI 3) dq_174_32 rfl ?_
    refine wp_ic_neN (tgt := 43) dq_174_33 rfl (by decide) (by decide) (fun _ => ?_) (fun c9 => absurd c9 (by decide))
    refine wp_iload_n dq_174_43 rfl ?_
    refine wp_iconst (x := nI 4) dq_174_44 rfl ?_
    refine wp_ic_eqN (tgt := 53) dq_174_45 rfl (by decide) (by decide) (fun c9 => absurd c9 (by decide)) (fun _ => ?_)
    refine wp_iload_n dq_174_48 rfl ?_
    refine wp_iconst (x := nI 5) dq_174_49 rfl ?_
    refine wp_ic_neN (tgt := 63) dq_174_50 rfl (by decide) (by decide) (fun _ => ?_) (fun c9 => absurd c9 (by decide))
    refine wp_iload_n dq_174_63 rfl ?_
    refine wp_bipush (x := nI 9) dq_174_64 rfl ?_
    refine wp_ic_geN (tgt := 80) dq_174_66 rfl (by decide) (by decide) (fun c9 => absurd c9 (by decide)) (fun _ => ?_)
    refine wp_aload_n dq_174_69 rfl ?_
    refine wp_getf (w := .ref 16) dq_174_70 fl_174_16 hc rfl ?_
    refine wp_iconst (x := nI 2) dq_174_73 rfl ?_
    refine wp_iload_n dq_174_74 rfl ?_
    refine wp_imulN dq_174_75 ?_
    refine wp_iconst (x := nI 5) dq_174_76 rfl ?_
    refine wp_isubN dq_174_77 (by omega) ?_
    refine wp_ialdV dq_174_78 (mw_3 hb) (by omega) (by decide) rfl ?_
    exact wp_ire dq_174_79 rfl ⟨rfl, Or.inl rfl⟩ ⟨congrArg (fun x => some (Value.int x)) (by unfold f_p_number f_numberOf; rw [if_neg (by decide), if_neg (by decide), if_neg (by decide), if_neg (by decide), if_neg (by decide), if_neg (by decide), if_neg (by decide), if_pos (by decide), f_elementsOf]; rw [show f_contentItem s a 3 0 6 = nI (ctv B M 437) from q_ci (kd := 3) (k := 0) (w := 6) hQ hM hV (by decide) (by rw [hV.2.1]; decide) (by decide) (fun r => (VA_2 (o := 48) (w := 6) hVA (by decide) r).2)]; exact (o3 6 (by decide) (by decide)).1), rfl⟩
  · show wp_W L xs _ 174 0 [(0, .ref 13), (1, .int (nI 8))] [] h _
    refine wp_aload_n dq_174_0 rfl ?_
    refine wp_getf (w := .int (nI 1)) dq_174_1 fl_174_249 hc rfl ?_
    refine wp_if_eqN (tgt := 17) dq_174_4 rfl (by omega) (fun c9 => absurd c9 (by decide)) (fun _ => ?_)
    refine wp_iload_n dq_174_7 rfl ?_
    refine wp_if_ltN (tgt := 17) dq_174_8 rfl (by omega) (fun c9 => absurd c9 (by decide)) (fun _ => ?_)
    refine wp_iload_n dq_174_11 rfl ?_
    refine wp_bipush (x := nI 11) dq_174_12 rfl ?_
    refine wp_ic_leN (tgt := 19) dq_174_14 rfl (by decide) (by decide) (fun _ => ?_) (fun c9 => absurd c9 (by decide))
    refine wp_iload_n dq_174_19 rfl ?_
    refine wp_iconst (x := nI 3) dq_174_20 rfl ?_
    refine wp_ic_geN (tgt := 31) dq_174_21 rfl (by decide) (by decide) (fun _ => ?_) (fun c9 => absurd c9 (by decide))
    refine wp_iload_n dq_174_31 rfl ?_
    refine wp_iconst (x := nI 3) dq_174_32 rfl ?_
    refine wp_ic_neN (tgt := 43) dq_174_33 rfl (by decide) (by decide) (fun _ => ?_) (fun c9 => absurd c9 (by decide))
    refine wp_iload_n dq_174_43 rfl ?_
    refine wp_iconst (x := nI 4) dq_174_44 rfl ?_
    refine wp_ic_eqN (tgt := 53) dq_174_45 rfl (by decide) (by decide) (fun c9 => absurd c9 (by decide)) (fun _ => ?_)
    refine wp_iload_n dq_174_48 rfl ?_
    refine wp_iconst (x := nI 5) dq_174_49 rfl ?_
    refine wp_ic_neN (tgt := 63) dq_174_50 rfl (by decide) (by decide) (fun _ => ?_) (fun c9 => absurd c9 (by decide))
    refine wp_iload_n dq_174_63 rfl ?_
    refine wp_bipush (x := nI 9) dq_174_64 rfl ?_
    refine wp_ic_geN (tgt := 80) dq_174_66 rfl (by decide) (by decide) (fun c9 => absurd c9 (by decide)) (fun _ => ?_)
    refine wp_aload_n dq_174_69 rfl ?_
    refine wp_getf (w := .ref 16) dq_174_70 fl_174_16 hc rfl ?_
    refine wp_iconst (x := nI 2) dq_174_73 rfl ?_
    refine wp_iload_n dq_174_74 rfl ?_
    refine wp_imulN dq_174_75 ?_
    refine wp_iconst (x := nI 5) dq_174_76 rfl ?_
    refine wp_isubN dq_174_77 (by omega) ?_
    refine wp_ialdV dq_174_78 (mw_3 hb) (by omega) (by decide) rfl ?_
    exact wp_ire dq_174_79 rfl ⟨rfl, Or.inl rfl⟩ ⟨congrArg (fun x => some (Value.int x)) (by unfold f_p_number f_numberOf; rw [if_neg (by decide), if_neg (by decide), if_neg (by decide), if_neg (by decide), if_neg (by decide), if_neg (by decide), if_neg (by decide), if_neg (by decide), if_pos (by decide), f_elementsOf]; rw [show f_contentItem s a 3 0 7 = nI (ctv B M 438) from q_ci (kd := 3) (k := 0) (w := 7) hQ hM hV (by decide) (by rw [hV.2.1]; decide) (by decide) (fun r => (VA_2 (o := 48) (w := 7) hVA (by decide) r).2)]; exact (o3 7 (by decide) (by decide)).1), rfl⟩
  · show wp_W L xs _ 174 0 [(0, .ref 13), (1, .int (nI 9))] [] h _
    refine wp_aload_n dq_174_0 rfl ?_
    refine wp_getf (w := .int (nI 1)) dq_174_1 fl_174_249 hc rfl ?_
    refine wp_if_eqN (tgt := 17) dq_174_4 rfl (by omega) (fun c9 => absurd c9 (by decide)) (fun _ => ?_)
    refine wp_iload_n dq_174_7 rfl ?_
    refine wp_if_ltN (tgt := 17) dq_174_8 rfl (by omega) (fun c9 => absurd c9 (by decide)) (fun _ => ?_)
    refine wp_iload_n dq_174_11 rfl ?_
    refine wp_bipush (x := nI 11) dq_174_12 rfl ?_
    refine wp_ic_leN (tgt := 19) dq_174_14 rfl (by decide) (by decide) (fun _ => ?_) (fun c9 => absurd c9 (by decide))
    refine wp_iload_n dq_174_19 rfl ?_
    refine wp_iconst (x := nI 3) dq_174_20 rfl ?_
    refine wp_ic_geN (tgt := 31) dq_174_21 rfl (by decide) (by decide) (fun _ => ?_) (fun c9 => absurd c9 (by decide))
    refine wp_iload_n dq_174_31 rfl ?_
    refine wp_iconst (x := nI 3) dq_174_32 rfl ?_
    refine wp_ic_neN (tgt := 43) dq_174_33 rfl (by decide) (by decide) (fun _ => ?_) (fun c9 => absurd c9 (by decide))
    refine wp_iload_n dq_174_43 rfl ?_
    refine wp_iconst (x := nI 4) dq_174_44 rfl ?_
    refine wp_ic_eqN (tgt := 53) dq_174_45 rfl (by decide) (by decide) (fun c9 => absurd c9 (by decide)) (fun _ => ?_)
    refine wp_iload_n dq_174_48 rfl ?_
    refine wp_iconst (x := nI 5) dq_174_49 rfl ?_
    refine wp_ic_neN (tgt := 63) dq_174_50 rfl (by decide) (by decide) (fun _ => ?_) (fun c9 => absurd c9 (by decide))
    refine wp_iload_n dq_174_63 rfl ?_
    refine wp_bipush (x := nI 9) dq_174_64 rfl ?_
    refine wp_ic_geN (tgt := 80) dq_174_66 rfl (by decide) (by decide) (fun _ => ?_) (fun c9 => absurd c9 (by decide))
    refine wp_iload_n dq_174_80 rfl ?_
    refine wp_bipush (x := nI 9) dq_174_81 rfl ?_
    refine wp_ic_neN (tgt := 96) dq_174_83 rfl (by decide) (by decide) (fun c9 => absurd c9 (by decide)) (fun _ => ?_)
    refine wp_aload_n dq_174_86 rfl ?_
    refine wp_getf (w := .ref 16) dq_174_87 fl_174_16 hc rfl ?_
    refine wp_bipush (x := nI 15) dq_174_90 rfl ?_
    refine wp_ialdV dq_174_92 (mw_3 hb) (by omega) (by decide) rfl ?_
    refine wp_goto (tgt := 119) dq_174_93 rfl ?_
    exact wp_ire dq_174_119 rfl ⟨rfl, Or.inl rfl⟩ ⟨congrArg (fun x => some (Value.int x)) (by unfold f_p_number f_numberOf; rw [if_neg (by decide), if_neg (by decide), if_neg (by decide), if_neg (by decide), if_neg (by decide), if_neg (by decide), if_neg (by decide), if_neg (by decide), if_neg (by decide), if_pos (by decide), show (2 : Int32).toNatClampNeg = 2 by decide, hM.1 2 (by decide), r2]), rfl⟩
  · show wp_W L xs _ 174 0 [(0, .ref 13), (1, .int (nI 10))] [] h _
    refine wp_aload_n dq_174_0 rfl ?_
    refine wp_getf (w := .int (nI 1)) dq_174_1 fl_174_249 hc rfl ?_
    refine wp_if_eqN (tgt := 17) dq_174_4 rfl (by omega) (fun c9 => absurd c9 (by decide)) (fun _ => ?_)
    refine wp_iload_n dq_174_7 rfl ?_
    refine wp_if_ltN (tgt := 17) dq_174_8 rfl (by omega) (fun c9 => absurd c9 (by decide)) (fun _ => ?_)
    refine wp_iload_n dq_174_11 rfl ?_
    refine wp_bipush (x := nI 11) dq_174_12 rfl ?_
    refine wp_ic_leN (tgt := 19) dq_174_14 rfl (by decide) (by decide) (fun _ => ?_) (fun c9 => absurd c9 (by decide))
    refine wp_iload_n dq_174_19 rfl ?_
    refine wp_iconst (x := nI 3) dq_174_20 rfl ?_
    refine wp_ic_geN (tgt := 31) dq_174_21 rfl (by decide) (by decide) (fun _ => ?_) (fun c9 => absurd c9 (by decide))
    refine wp_iload_n dq_174_31 rfl ?_
    refine wp_iconst (x := nI 3) dq_174_32 rfl ?_
    refine wp_ic_neN (tgt := 43) dq_174_33 rfl (by decide) (by decide) (fun _ => ?_) (fun c9 => absurd c9 (by decide))
    refine wp_iload_n dq_174_43 rfl ?_
    refine wp_iconst (x := nI 4) dq_174_44 rfl ?_
    refine wp_ic_eqN (tgt := 53) dq_174_45 rfl (by decide) (by decide) (fun c9 => absurd c9 (by decide)) (fun _ => ?_)
    refine wp_iload_n dq_174_48 rfl ?_
    refine wp_iconst (x := nI 5) dq_174_49 rfl ?_
    refine wp_ic_neN (tgt := 63) dq_174_50 rfl (by decide) (by decide) (fun _ => ?_) (fun c9 => absurd c9 (by decide))
    refine wp_iload_n dq_174_63 rfl ?_
    refine wp_bipush (x := nI 9) dq_174_64 rfl ?_
    refine wp_ic_geN (tgt := 80) dq_174_66 rfl (by decide) (by decide) (fun _ => ?_) (fun c9 => absurd c9 (by decide))
    refine wp_iload_n dq_174_80 rfl ?_
    refine wp_bipush (x := nI 9) dq_174_81 rfl ?_
    refine wp_ic_neN (tgt := 96) dq_174_83 rfl (by decide) (by decide) (fun _ => ?_) (fun c9 => absurd c9 (by decide))
    refine wp_iload_n dq_174_96 rfl ?_
    refine wp_bipush (x := nI 10) dq_174_97 rfl ?_
    refine wp_ic_neN (tgt := 112) dq_174_99 rfl (by decide) (by decide) (fun c9 => absurd c9 (by decide)) (fun _ => ?_)
    refine wp_aload_n dq_174_102 rfl ?_
    refine wp_getf (w := .ref 16) dq_174_103 fl_174_16 hc rfl ?_
    refine wp_bipush (x := nI 17) dq_174_106 rfl ?_
    refine wp_ialdV dq_174_108 (mw_3 hb) (by omega) (by decide) rfl ?_
    refine wp_goto (tgt := 119) dq_174_109 rfl ?_
    exact wp_ire dq_174_119 rfl ⟨rfl, Or.inl rfl⟩ ⟨congrArg (fun x => some (Value.int x)) (by unfold f_p_number f_numberOf; rw [if_neg (by decide), if_neg (by decide), if_neg (by decide), if_neg (by decide), if_neg (by decide), if_neg (by decide), if_neg (by decide), if_neg (by decide), if_neg (by decide), if_neg (by decide), if_pos (by decide)]; rw [show f_contentOf s a 3 0 2 = nI (M.ct 433) from q_content (kd := 3) (k := 0) (w := 2) hM hV (by decide) (by rw [hV.2.1]; decide) (by decide), o2]; exact ct01 (Nat.lt_of_le_of_lt (hV.2.2.2 _) (by omega))), rfl⟩
  · show wp_W L xs _ 174 0 [(0, .ref 13), (1, .int (nI 11))] [] h _
    refine wp_aload_n dq_174_0 rfl ?_
    refine wp_getf (w := .int (nI 1)) dq_174_1 fl_174_249 hc rfl ?_
    refine wp_if_eqN (tgt := 17) dq_174_4 rfl (by omega) (fun c9 => absurd c9 (by decide)) (fun _ => ?_)
    refine wp_iload_n dq_174_7 rfl ?_
    refine wp_if_ltN (tgt := 17) dq_174_8 rfl (by omega) (fun c9 => absurd c9 (by decide)) (fun _ => ?_)
    refine wp_iload_n dq_174_11 rfl ?_
    refine wp_bipush (x := nI 11) dq_174_12 rfl ?_
    refine wp_ic_leN (tgt := 19) dq_174_14 rfl (by decide) (by decide) (fun _ => ?_) (fun c9 => absurd c9 (by decide))
    refine wp_iload_n dq_174_19 rfl ?_
    refine wp_iconst (x := nI 3) dq_174_20 rfl ?_
    refine wp_ic_geN (tgt := 31) dq_174_21 rfl (by decide) (by decide) (fun _ => ?_) (fun c9 => absurd c9 (by decide))
    refine wp_iload_n dq_174_31 rfl ?_
    refine wp_iconst (x := nI 3) dq_174_32 rfl ?_
    refine wp_ic_neN (tgt := 43) dq_174_33 rfl (by decide) (by decide) (fun _ => ?_) (fun c9 => absurd c9 (by decide))
    refine wp_iload_n dq_174_43 rfl ?_
    refine wp_iconst (x := nI 4) dq_174_44 rfl ?_
    refine wp_ic_eqN (tgt := 53) dq_174_45 rfl (by decide) (by decide) (fun c9 => absurd c9 (by decide)) (fun _ => ?_)
    refine wp_iload_n dq_174_48 rfl ?_
    refine wp_iconst (x := nI 5) dq_174_49 rfl ?_
    refine wp_ic_neN (tgt := 63) dq_174_50 rfl (by decide) (by decide) (fun _ => ?_) (fun c9 => absurd c9 (by decide))
    refine wp_iload_n dq_174_63 rfl ?_
    refine wp_bipush (x := nI 9) dq_174_64 rfl ?_
    refine wp_ic_geN (tgt := 80) dq_174_66 rfl (by decide) (by decide) (fun _ => ?_) (fun c9 => absurd c9 (by decide))
    refine wp_iload_n dq_174_80 rfl ?_
    refine wp_bipush (x := nI 9) dq_174_81 rfl ?_
    refine wp_ic_neN (tgt := 96) dq_174_83 rfl (by decide) (by decide) (fun _ => ?_) (fun c9 => absurd c9 (by decide))
    refine wp_iload_n dq_174_96 rfl ?_
    refine wp_bipush (x := nI 10) dq_174_97 rfl ?_
    refine wp_ic_neN (tgt := 112) dq_174_99 rfl (by decide) (by decide) (fun _ => ?_) (fun c9 => absurd c9 (by decide))
    refine wp_aload_n dq_174_112 rfl ?_
    refine wp_getf (w := .ref 16) dq_174_113 fl_174_16 hc rfl ?_
    refine wp_bipush (x := nI 18) dq_174_116 rfl ?_
    refine wp_ialdV dq_174_118 (mw_3 hb) (by omega) (by decide) rfl ?_
    exact wp_ire dq_174_119 rfl ⟨rfl, Or.inl rfl⟩ ⟨congrArg (fun x => some (Value.int x)) (by unfold f_p_number f_numberOf; rw [if_neg (by decide), if_neg (by decide), if_neg (by decide), if_neg (by decide), if_neg (by decide), if_neg (by decide), if_neg (by decide), if_neg (by decide), if_neg (by decide), if_neg (by decide), if_neg (by decide), if_pos (by decide)]; rw [show f_contentOf s a 3 0 9 = nI (M.ct 440) from q_content (kd := 3) (k := 0) (w := 9) hM hV (by decide) (by rw [hV.2.1]; decide) (by decide), o5]; exact ct01 (Nat.lt_of_le_of_lt (hV.2.2.2 _) (by omega))), rfl⟩

set_option maxRecDepth 100000 in
theorem R_num {L : Nat} {xs : Nat → Int32} {d n F : Nat} {B T : Nat → Nat} {N : Nat → Int32} {h : List qx_E} {M : rM} {s : Nat → Int32} {a : Nat → Nat → Int32} {x : Int32} (hW : QW0 h N) (hX : FX B n T F M N s a) : qe_E L xs d 174 [.ref 13, .int x] h (some (.int (f_p_number s a x))) h := by
  rcases pk_ix x (n := 12) (by decide) with r | r | ⟨j, hj, rfl⟩
  rotate_left
  rotate_left
  · exact R_numL hW hX hj
  all_goals
    have hneg : ∀ j, j < 12 → ¬ x = nI j := fun j hj e => by
      subst e
      first | exact absurd r (nI_pos (by omega)) | exact absurd r (nI_ge (b := 12) hj (by decide))
    have e9 : f_p_number s a x = -1 := by
      unfold f_p_number f_numberOf
      rw [if_neg (show ¬ x = 0 from hneg 0 (by decide)), if_neg (show ¬ x = 1 from hneg 1 (by decide)), if_neg (show ¬ x = 2 from hneg 2 (by decide)), if_neg (show ¬ x = 3 from hneg 3 (by decide)), if_neg (show ¬ x = 4 from hneg 4 (by decide)), if_neg (show ¬ x = 5 from hneg 5 (by decide)), if_neg (show ¬ x = 6 from hneg 6 (by decide)), if_neg (show ¬ x = 7 from hneg 7 (by decide)), if_neg (show ¬ x = 8 from hneg 8 (by decide)), if_neg (show ¬ x = 9 from hneg 9 (by decide)), if_neg (show ¬ x = 10 from hneg 10 (by decide)), if_neg (show ¬ x = 11 from hneg 11 (by decide))]
    rw [e9]
    obtain ⟨s0, fa, fb, fd, hb, h1⟩ := id hW
    have hc := mw_0 hb
    rw [h1] at hc
    have hR : wp_W L xs d 174 17 [(0, .ref 13), (1, .int x)] [] h (fun v2 h2 => v2 = some (.int (-1)) ∧ h2 = h) := by
      refine wp_iconst (x := -1) dq_174_17 rfl ?_
      exact wp_ire dq_174_18 rfl ⟨rfl, Or.inl rfl⟩ ⟨rfl, rfl⟩
    show wp_W L xs _ 174 0 [(0, .ref 13), (1, .int x)] [] h _
    refine wp_aload_n dq_174_0 rfl ?_
    refine wp_getf (w := .int (nI 1)) dq_174_1 fl_174_249 hc rfl ?_
    refine wp_if_eqN (tgt := 17) dq_174_4 rfl (by decide) (fun c => absurd c (by decide)) (fun _ => ?_)
    refine wp_iload_n dq_174_7 rfl ?_
    refine wp_if_lt (tgt := 17) dq_174_8 rfl (fun _ => hR) (fun c1 => ?_)
    refine wp_iload_n dq_174_11 rfl ?_
    refine wp_bipush (x := 11) dq_174_12 rfl ?_
    refine wp_ic_le (tgt := 19) dq_174_14 rfl (fun c2 => ?_) (fun _ => hR)
    obtain ⟨v, hv, rfl⟩ := nI_of c1
    exact absurd rfl (hneg v (by have := (nI_leI hv (show 11 < 2 ^ 31 by decide)).mp c2; omega))
