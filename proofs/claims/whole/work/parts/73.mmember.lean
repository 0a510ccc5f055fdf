theorem PQ_c {B : Nat → Nat} {n : Nat} {T : Nat → Nat} {N N' : Nat → Int32} (hP : PQ B n T N) (h2 : N' 2 = N 2) (hj : ∀ i, 21 ≤ i → i < 84 → N' i = N i) : PQ B n T N' := by
  obtain ⟨h1, h3, c, h4, h5, h6, h7⟩ := hP
  exact ⟨h1, h3, c, h4, h2.trans h5, h6, fun i a1 a2 => (hj (20 + i) (by omega) (by omega)).trans (h7 i a1 a2)⟩
theorem mU (N : Nat → Int32) (b : Nat) (x0 x1 x2 : Int32) : (upd (upd (upd (upd (upd (upd (upd (upd N (b + 3) (nI 0)) (b + 4) (nI 0)) (b + 5) (nI 0)) (b + 6) (nI 0)) (b + 7) (nI 0)) b x0) (b + 1) x1) (b + 2) x2) b = x0 ∧ (upd (upd (upd (upd (upd (upd (upd (upd N (b + 3) (nI 0)) (b + 4) (nI 0)) (b + 5) (nI 0)) (b + 6) (nI 0)) (b + 7) (nI 0)) b x0) (b + 1) x1) (b + 2) x2) (b + 1) = x1 ∧ (upd (upd (upd (upd (upd (upd (upd (upd N (b + 3) (nI 0)) (b + 4) (nI 0)) (b + 5) (nI 0)) (b + 6) (nI 0)) (b + 7) (nI 0)) b x0) (b + 1) x1) (b + 2) x2) (b + 2) = x2 ∧ (upd (upd (upd (upd (upd (upd (upd (upd N (b + 3) (nI 0)) (b + 4) (nI 0)) (b + 5) (nI 0)) (b + 6) (nI 0)) (b + 7) (nI 0)) b x0) (b + 1) x1) (b + 2) x2) (b + 3) = nI 0 ∧ (upd (upd (upd (upd (upd (upd (upd (upd N (b + 3) (nI 0)) (b + 4) (nI 0)) (b + 5) (nI 0)) (b + 6) (nI 0)) (b + 7) (nI 0)) b x0) (b + 1) x1) (b + 2) x2) (b + 4) = nI 0 ∧ (upd (upd (upd (upd (upd (upd (upd (upd N (b + 3) (nI 0)) (b + 4) (nI 0)) (b + 5) (nI 0)) (b + 6) (nI 0)) (b + 7) (nI 0)) b x0) (b + 1) x1) (b + 2) x2) (b + 5) = nI 0 ∧ (upd (upd (upd (upd (upd (upd (upd (upd N (b + 3) (nI 0)) (b + 4) (nI 0)) (b + 5) (nI 0)) (b + 6) (nI 0)) (b + 7) (nI 0)) b x0) (b + 1) x1) (b + 2) x2) (b + 6) = nI 0 ∧ ∀ q, (q < b ∨ b + 8 ≤ q) → (upd (upd (upd (upd (upd (upd (upd (upd N (b + 3) (nI 0)) (b + 4) (nI 0)) (b + 5) (nI 0)) (b + 6) (nI 0)) (b + 7) (nI 0)) b x0) (b + 1) x1) (b + 2) x2) q = N q := by
  refine ⟨?_, ?_, ?_, ?_, ?_, ?_, ?_, fun q hq => ?_⟩
  · rw [pk_un (by omega), pk_un (by omega), pk_us]
  · rw [pk_un (by omega), pk_us]
  · rw [pk_us]
  · rw [pk_un (by omega), pk_un (by omega), pk_un (by omega), pk_un (by omega), pk_un (by omega), pk_un (by omega), pk_un (by omega), pk_us]
  · rw [pk_un (by omega), pk_un (by omega), pk_un (by omega), pk_un (by omega), pk_un (by omega), pk_un (by omega), pk_us]
  · rw [pk_un (by omega), pk_un (by omega), pk_un (by omega), pk_un (by omega), pk_un (by omega), pk_us]
  · rw [pk_un (by omega), pk_un (by omega), pk_un (by omega), pk_un (by omega), pk_us]
  · rw [pk_un (by omega), pk_un (by omega), pk_un (by omega), pk_un (by omega), pk_un (by omega), pk_un (by omega), pk_un (by omega), pk_un (by omega)]
/-- the notes of a member -/
def NK (B T : Nat → Nat) (N : Nat → Int32) (M : rM) (kd k b : Nat) : Prop := N (b + 1) = nI (nmO B M kd k) ∧ N (b + 2) = nI (tyO B M kd k) ∧ (kd < 2 → N b = nI (bu_U B (M.np (16 * kd + k) - 2) 2)) ∧ NOm kd B N M (16 * kd + k) b ∧ tg B T (nmO B M kd k) = 1 ∧ tg B T (tyO B M kd k) = 1
theorem NOm_eq {kd : Nat} {B : Nat → Nat} {N N' : Nat → Int32} {M M' : rM} {o b : Nat} (h : NOm kd B N M o b) (hN : ∀ j, j < 8 → N' (b + j) = N (b + j)) (hc : ∀ w, w < 9 → M'.ct (9 * o + w) = M.ct (9 * o + w)) : NOm kd B N' M' o b := by
  obtain ⟨h1, h2, h3, h4⟩ := h
  have c0 := hc 0 (by decide)
  have c1 := hc 1 (by decide)
  have c2 := hc 2 (by decide)
  have c3 := hc 3 (by decide)
  rw [Nat.add_zero] at c0
  unfold NOm ctv
  rw [hN 3 (by decide), hN 4 (by decide), hN 5 (by decide), hN 6 (by decide), hN 7 (by decide), c0, c1, c2, c3]
  exact ⟨h1, h2, h3, h4⟩
theorem NK_eq {B T : Nat → Nat} {N N' : Nat → Int32} {M M' : rM} {kd k b : Nat} (h : NK B T N M kd k b) (hN : ∀ j, j < 8 → N' (b + j) = N (b + j)) (hn : M'.np (16 * kd + k) = M.np (16 * kd + k)) (hc : ∀ w, w < 9 → M'.ct (9 * (16 * kd + k) + w) = M.ct (9 * (16 * kd + k) + w)) : NK B T N' M' kd k b := by
  obtain ⟨h1, h2, h3, h4, h5, h6⟩ := h
  have e1 : nmO B M' kd k = nmO B M kd k := by unfold nmO; rw [hn]
  have e2 : tyO B M' kd k = tyO B M kd k := by unfold tyO; rw [hn]
  have n0 := hN 0 (by decide)
  rw [Nat.add_zero] at n0
  unfold NK
  rw [e1, e2, hn, n0, hN 1 (by decide), hN 2 (by decide)]
  exact ⟨h1, h2, h3, NOm_eq h4 hN hc, h5, h6⟩
theorem sp_11 {B T : Nat → Nat} {x : Nat} (h : tg B T x = 1) : sp B T x 14 = (kn (tx B T x) == 11) := by
  unfold sp
  by_cases c : tx B T x = wd 14
  · rw [decide_eq_true ⟨h, c⟩, beq_iff_eq.mpr (kn_11.mpr c)]
  · rw [decide_eq_false (fun r => c r.2), beq_eq_false_iff_ne.mpr (fun r => c (kn_11.mp r))]
theorem sp_12 {B T : Nat → Nat} {x : Nat} (h : tg B T x = 1) : sp B T x 15 = (kn (tx B T x) == 12) := by
  unfold sp
  by_cases c : tx B T x = wd 15
  · rw [decide_eq_true ⟨h, c⟩, beq_iff_eq.mpr (kn_12i.mpr c)]
  · rw [decide_eq_false (fun r => c r.2), beq_eq_false_iff_ne.mpr (fun r => c (kn_12i.mp r))]
theorem fit_bf {B T : Nat → Nat} {ff kd nm fl : Nat} (h : tg B T nm = 1) (hk : kd < 2) (hf : fl < 65536) : k_fit B T ff kd nm fl = !bflag kd fl (hs ff 512) (kn (tx B T nm) == 11) (kn (tx B T nm) == 12) := by
  have e : f_isInterface (nI ff) = bI (hs ff 512) := hs_any ff 512
  unfold k_fit
  rw [e, sp_11 h, sp_12 h]
  rcases (show kd = 0 ∨ kd = 1 by omega) with rfl | rfl
  · rw [if_pos rfl, bflag0 hf]
    rfl
  · rw [if_neg (by decide), bflag1 hf]
    cases (kn (tx B T nm) == 12)
    · rfl
    · rfl
theorem sm_lt {B : Nat → Nat} {n : Nat} {T : Nat → Nat} {N : Nat → Int32} {x : Nat} (hP : PQ B n T N) (h : tg B T x = 1) : x < 64 := (pq_t hP h).2.2.2.1
set_option maxRecDepth 100000 in
theorem c_mbmL {L : Nat} {xs : Nat → Int32} {d n : Nat} {B T : Nat → Nat} {N : Nat → Int32} {z : rZ} {Q : Option Value → List qx_E → Prop} {kind kd k p : Nat} {M : rM} (hkk : kind ≤ 360 ∧ k < 16) (hP : PQ B n T N) (hA : ∀ i, i < k + 1 → N (kind + 8 * i + 1) = nI (nmO B M kd i) ∧ N (kind + 8 * i + 2) = nI (tyO B M kd i) ∧ tg B T (nmO B M kd i) = 1 ∧ tg B T (tyO B M kd i) = 1) : ∀ g i S0 (h : List qx_E), TR h B n S0 N z → i + g = k → (∀ h', TR h' B n (rs_mbL B T M kd k p g i S0) N z → wp_W L xs (d + 4) 162 211 [(0, .ref 13), (1, .int (nI kind)), (2, .int (nI k)), (3, .int (nI (kind + (8 * k)))), (4, .int (nI p))] [] h' Q) → wp_W L xs (d + 4) 162 143 [(0, .ref 13), (1, .int (nI kind)), (2, .int (nI k)), (3, .int (nI (kind + (8 * k)))), (4, .int (nI p)), (5, .int (nI (kind + 8 * i)))] [] h Q := by
  intro g
  induction g with
  | zero =>
    intro i S0 h hT hi hK
    refine wp_iload dq_162_143 rfl ?_
    refine wp_iload_n dq_162_145 rfl ?_
    refine wp_ic_geN (tgt := 211) dq_162_146 rfl (by omega) (by omega) (fun c1 => ?_) (fun c1 => absurd c1 (by omega))
    refine wp_fg (l := [(0, .ref 13), (1, .int (nI kind)), (2, .int (nI k)), (3, .int (nI (kind + (8 * k)))), (4, .int (nI p))]) (e := [(5, .int (nI (kind + 8 * i)))]) rfl rfl rfl ?_
    exact hK h hT
  | succ g ih =>
    intro i S0 h hT hi hK
    have l1 := sm_lt hP (hA i (by omega)).2.2.1
    have l2 := sm_lt hP (hA i (by omega)).2.2.2
    have l3 := sm_lt hP (hA k (by omega)).2.2.1
    have l4 := sm_lt hP (hA k (by omega)).2.2.2
    obtain ⟨s0, fa0, hb, hz0, hc0, hp0⟩ := TR_x hT
    refine wp_iload dq_162_143 rfl ?_
    refine wp_iload_n dq_162_145 rfl ?_
    refine wp_ic_geN (tgt := 211) dq_162_146 rfl (by omega) (by omega) (fun c1 => ?_) (fun c1 => ?_)
    · exact absurd c1 (by omega)
    · have hj149 : ∀ h, TR h B n (rs_w (!(sm B T (nmO B M kd i) (nmO B M kd k) && sm B T (tyO B M kd i) (tyO B M kd k))) 9 p S0) N z → wp_W L xs (d + 4) 162 205 [(0, .ref 13), (1, .int (nI kind)), (2, .int (nI k)), (3, .int (nI (kind + (8 * k)))), (4, .int (nI p)), (5, .int (nI (kind + 8 * i)))] ([]) h Q := by
        intro h hT
        generalize hS1 : rs_w (!(sm B T (nmO B M kd i) (nmO B M kd k) && sm B T (tyO B M kd i) (tyO B M kd k))) 9 p S0 = S1 at hT
        obtain ⟨s1, fa1, hb, hz1, hc1, hp1⟩ := TR_x hT
        refine wp_iinc (y := nI ((kind + 8 * i) + 8)) (lv' := [(0, .ref 13), (1, .int (nI kind)), (2, .int (nI k)), (3, .int (nI (kind + (8 * k)))), (4, .int (nI p)), (5, .int (nI ((kind + 8 * i) + 8)))]) dq_162_205 rfl (nI_add _ _) (by decide) rfl ?_
        refine wp_goto (tgt := 143) dq_162_208 rfl ?_
        rw [show kind + 8 * i + 8 = kind + 8 * (i + 1) by omega]
        exact ih (i + 1) S1 _ hT (by omega) (by rw [← hS1, ← rs_mbL_s]; exact hK)
      refine wp_aload_n dq_162_149 rfl ?_
      refine wp_aload_n dq_162_150 rfl ?_
      refine wp_getf (w := .ref 15) dq_162_151 fl_162_13 (mw_0 hb) rfl ?_
      refine wp_iload dq_162_154 rfl ?_
      refine wp_iconst (x := nI 1) dq_162_156 rfl ?_
      refine wp_iaddN dq_162_157 ?_
      refine wp_ialdV (z := (nI (nmO B M kd i))) dq_162_158 (mw_2 hb) (by omega) (by decide) ((hA i (by omega)).1) ?_
      refine wp_aload_n dq_162_159 rfl ?_
      refine wp_getf (w := .ref 15) dq_162_160 fl_162_13 (mw_0 hb) rfl ?_
      refine wp_iload_n dq_162_163 rfl ?_
      refine wp_iconst (x := nI 1) dq_162_164 rfl ?_
      refine wp_iaddN dq_162_165 ?_
      refine wp_ialdV (z := (nI (nmO B M kd k))) dq_162_166 (mw_2 hb) (by omega) (by decide) ((hA k (by omega)).1) ?_
      refine wp_cve2 dq_162_167 mt_162_180 (ob_of (mw_0 hb)) ⟨by decide +kernel, by decide +kernel⟩ (Nat.le_of_ble_eq_true rfl) (Nat.le_of_ble_eq_true rfl) (c_alike (d := d) (TR_A hT) hP (hA i (by omega)).2.2.1 (hA k (by omega)).2.2.1) ?_
      refine wp_if_eqB (tgt := 205) dq_162_170 rfl (fun c2 => ?_) (fun c2 => ?_)
      · exact hj149 _ (by rw [w_T (fun hq => by rw [show sm B T (nmO B M kd i) (nmO B M kd k) = false from decide_eq_false (fun r => of_decide_eq_false c2 r.2.2)]; rfl)]; exact hT)
      · refine wp_aload_n dq_162_173 rfl ?_
        refine wp_aload_n dq_162_174 rfl ?_
        refine wp_getf (w := .ref 15) dq_162_175 fl_162_13 (mw_0 hb) rfl ?_
        refine wp_iload dq_162_178 rfl ?_
        refine wp_iconst (x := nI 2) dq_162_180 rfl ?_
        refine wp_iaddN dq_162_181 ?_
        refine wp_ialdV (z := (nI (tyO B M kd i))) dq_162_182 (mw_2 hb) (by omega) (by decide) ((hA i (by omega)).2.1) ?_
        refine wp_aload_n dq_162_183 rfl ?_
        refine wp_getf (w := .ref 15) dq_162_184 fl_162_13 (mw_0 hb) rfl ?_
        refine wp_iload_n dq_162_187 rfl ?_
        refine wp_iconst (x := nI 2) dq_162_188 rfl ?_
        refine wp_iaddN dq_162_189 ?_
        refine wp_ialdV (z := (nI (tyO B M kd k))) dq_162_190 (mw_2 hb) (by omega) (by decide) ((hA k (by omega)).2.1) ?_
        refine wp_cve2 dq_162_191 mt_162_180 (ob_of (mw_0 hb)) ⟨by decide +kernel, by decide +kernel⟩ (Nat.le_of_ble_eq_true rfl) (Nat.le_of_ble_eq_true rfl) (c_alike (d := d) (TR_A hT) hP (hA i (by omega)).2.2.2 (hA k (by omega)).2.2.2) ?_
        refine wp_if_eqB (tgt := 205) dq_162_194 rfl (fun c3 => ?_) (fun c3 => ?_)
        · exact hj149 _ (by rw [w_T (fun hq => by rw [show sm B T (nmO B M kd i) (nmO B M kd k) = true from decide_eq_true ⟨(hA i (by omega)).2.2.1, (hA k (by omega)).2.2.1, of_decide_eq_true c2⟩]; rw [show sm B T (tyO B M kd i) (tyO B M kd k) = false from decide_eq_false (fun r => of_decide_eq_false c3 r.2.2)]; rfl)]; exact hT)
        · refine wp_aload_n dq_162_197 rfl ?_
          refine wp_bipush (x := nI 9) dq_162_198 rfl ?_
          refine wp_iload dq_162_200 rfl ?_
          refine wp_cv2 (P := fun v h' => v = none ∧ TR h' B n (rs_w false 9 p S0) N z) dq_162_202 mt_162_122 (ob_of (mw_0 hb)) ⟨by decide +kernel, by decide +kernel⟩ (Nat.le_of_ble_eq_true rfl) (Nat.le_of_ble_eq_true rfl) (c_fail hT (by decide) (fun hq => rfl) (fun h' k1 => ⟨rfl, k1⟩)) (fun v9 h9 q9 => ?_)
          obtain ⟨rfl, hT⟩ := q9
          exact hj149 _ (by rw [w_F (fun hq => by rw [show sm B T (nmO B M kd i) (nmO B M kd k) = true from decide_eq_true ⟨(hA i (by omega)).2.2.1, (hA k (by omega)).2.2.1, of_decide_eq_true c2⟩]; rw [show sm B T (tyO B M kd i) (tyO B M kd k) = true from decide_eq_true ⟨(hA i (by omega)).2.2.2, (hA k (by omega)).2.2.2, of_decide_eq_true c3⟩]; rfl)]; exact hT)
set_option maxRecDepth 100000 in
theorem c_member {L : Nat} {xs : Nat → Int32} {d n : Nat} {B T : Nat → Nat} {N : Nat → Int32} {z : rZ} {S0 : rS} {h : List qx_E} {Q : Option Value → List qx_E → Prop} {kind kd k F : Nat} {M : rM} (hT : TR h B n S0 N z) (hs : snd S0) (hkd : (kind = 100 ∧ kd = 0) ∨ (kind = 230 ∧ kd = 1)) (hk16 : k < 16) (hP : PQ B n T N) (hF1 : N 1 = nI (bu_U B F 2)) (hNK : ∀ i, i < k → NK B T N M kd i (kind + 8 * i)) (hz : ∀ q, 9 * (16 * kd + k) ≤ q → q < 9 * (16 * kd + k) + 9 → M.ct q = 0) (hK : ∀ h' N', TR h' B n (rs_m1 B n T F kd k S0 M).1 N' z → (snd (rs_m1 B n T F kd k S0 M).1 → NK B T N' (rs_m1 B n T F kd k S0 M).2 kd k (kind + 8 * k) ∧ ∀ q, (q < kind + 8 * k ∨ kind + 8 * k + 8 ≤ q) → N' q = N q) → Q none h') : wp_W L xs (d + 8) 162 0 (lv_args 0 [.ref 13, .int (nI kind), .int (nI k)]) [] h Q := by
  have hk3 : (kind = 100 ∧ kd = 0) ∨ (kind = 230 ∧ kd = 1) ∨ (kind = 360 ∧ kd = 2) := by omega
  have hpn := TR_pn hT
  have hn9 := TR_n hT
  show wp_W L xs _ 162 0 [(0, .ref 13), (1, .int (nI kind)), (2, .int (nI k))] [] h Q
  obtain ⟨s0, fa0, hb, hz0, hc0, hp0⟩ := TR_x hT
  obtain ⟨s0, fa0, hb, hz0, hc0, hp0⟩ := TR_x hT
  have ho := mw_0 hb
  rw [hp0 hs, hc0.mpr hs] at ho
  refine wp_iload_n dq_162_0 rfl ?_
  refine wp_bipush (x := nI 8) dq_162_1 rfl ?_
  refine wp_iload_n dq_162_3 rfl ?_
  refine wp_imulN dq_162_4 ?_
  refine wp_iaddN dq_162_5 ?_
  refine wp_istore_n (lv' := [(0, .ref 13), (1, .int (nI kind)), (2, .int (nI k)), (3, .int (nI (kind + (8 * k))))]) dq_162_6 (by decide) rfl ?_
  refine wp_aload_n dq_162_7 rfl ?_
  refine wp_getf (w := .int (nI (rs_p S0))) dq_162_8 fl_162_119 ho rfl ?_
  refine wp_istore (lv' := [(0, .ref 13), (1, .int (nI kind)), (2, .int (nI k)), (3, .int (nI (kind + (8 * k)))), (4, .int (nI (rs_p S0)))]) dq_162_11 (by decide) rfl ?_
  refine wp_iconst (x := nI 3) dq_162_13 rfl ?_
  refine wp_istore (lv' := [(0, .ref 13), (1, .int (nI kind)), (2, .int (nI k)), (3, .int (nI (kind + (8 * k)))), (4, .int (nI (rs_p S0))), (5, .int (nI 3))]) dq_162_14 (by decide) rfl ?_
  refine wp_iload dq_162_16 rfl ?_
  refine wp_bipush (x := nI 8) dq_162_18 rfl ?_
  refine wp_ic_geN (tgt := 39) dq_162_20 rfl (by decide) (by decide) (fun c9 => absurd c9 (by decide)) (fun _ => ?_)
  refine wp_aload_n dq_162_23 rfl ?_
  refine wp_getf (w := .ref 15) dq_162_24 fl_162_13 ho rfl ?_
  refine wp_iload_n dq_162_27 rfl ?_
  refine wp_iload dq_162_28 rfl ?_
  refine wp_iaddN dq_162_30 ?_
  refine wp_iconst (x := nI 0) dq_162_31 rfl ?_
  refine wp_tn dq_162_32 (by omega) hT (fun h hT => ?_)
  obtain ⟨s0, fa0, hb, hz0, hc0, hp0⟩ := TR_x hT
  have ho := mw_0 hb
  rw [hp0 hs, hc0.mpr hs] at ho
  refine wp_iinc (y := nI 4) (lv' := [(0, .ref 13), (1, .int (nI kind)), (2, .int (nI k)), (3, .int (nI (kind + (8 * k)))), (4, .int (nI (rs_p S0))), (5, .int (nI 4))]) dq_162_33 rfl (nI_add 3 1) (by decide) rfl ?_
  refine wp_goto (tgt := 16) dq_162_36 rfl ?_
  refine wp_iload dq_162_16 rfl ?_
  refine wp_bipush (x := nI 8) dq_162_18 rfl ?_
  refine wp_ic_geN (tgt := 39) dq_162_20 rfl (by decide) (by decide) (fun c9 => absurd c9 (by decide)) (fun _ => ?_)
  refine wp_aload_n dq_162_23 rfl ?_
  refine wp_getf (w := .ref 15) dq_162_24 fl_162_13 ho rfl ?_
  refine wp_iload_n dq_162_27 rfl ?_
  refine wp_iload dq_162_28 rfl ?_
  refine wp_iaddN dq_162_30 ?_
  refine wp_iconst (x := nI 0) dq_162_31 rfl ?_
  refine wp_tn dq_162_32 (by omega) hT (fun h hT => ?_)
  obtain ⟨s0, fa0, hb, hz0, hc0, hp0⟩ := TR_x hT
  have ho := mw_0 hb
  rw [hp0 hs, hc0.mpr hs] at ho
  refine wp_iinc (y := nI 5) (lv' := [(0, .ref 13), (1, .int (nI kind)), (2, .int (nI k)), (3, .int (nI (kind + (8 * k)))), (4, .int (nI (rs_p S0))), (5, .int (nI 5))]) dq_162_33 rfl (nI_add 4 1) (by decide) rfl ?_
  refine wp_goto (tgt := 16) dq_162_36 rfl ?_
  refine wp_iload dq_162_16 rfl ?_
  refine wp_bipush (x := nI 8) dq_162_18 rfl ?_
  refine wp_ic_geN (tgt := 39) dq_162_20 rfl (by decide) (by decide) (fun c9 => absurd c9 (by decide)) (fun _ => ?_)
  refine wp_aload_n dq_162_23 rfl ?_
  refine wp_getf (w := .ref 15) dq_162_24 fl_162_13 ho rfl ?_
  refine wp_iload_n dq_162_27 rfl ?_
  refine wp_iload dq_162_28 rfl ?_
  refine wp_iaddN dq_162_30 ?_
  refine wp_iconst (x := nI 0) dq_162_31 rfl ?_
  refine wp_tn dq_162_32 (by omega) hT (fun h hT => ?_)
  obtain ⟨s0, fa0, hb, hz0, hc0, hp0⟩ := TR_x hT
  have ho := mw_0 hb
  rw [hp0 hs, hc0.mpr hs] at ho
  refine wp_iinc (y := nI 6) (lv' := [(0, .ref 13), (1, .int (nI kind)), (2, .int (nI k)), (3, .int (nI (kind + (8 * k)))), (4, .int (nI (rs_p S0))), (5, .int (nI 6))]) dq_162_33 rfl (nI_add 5 1) (by decide) rfl ?_
  refine wp_goto (tgt := 16) dq_162_36 rfl ?_
  refine wp_iload dq_162_16 rfl ?_
  refine wp_bipush (x := nI 8) dq_162_18 rfl ?_
  refine wp_ic_geN (tgt := 39) dq_162_20 rfl (by decide) (by decide) (fun c9 => absurd c9 (by decide)) (fun _ => ?_)
  refine wp_aload_n dq_162_23 rfl ?_
  refine wp_getf (w := .ref 15) dq_162_24 fl_162_13 ho rfl ?_
  refine wp_iload_n dq_162_27 rfl ?_
  refine wp_iload dq_162_28 rfl ?_
  refine wp_iaddN dq_162_30 ?_
  refine wp_iconst (x := nI 0) dq_162_31 rfl ?_
  refine wp_tn dq_162_32 (by omega) hT (fun h hT => ?_)
  obtain ⟨s0, fa0, hb, hz0, hc0, hp0⟩ := TR_x hT
  have ho := mw_0 hb
  rw [hp0 hs, hc0.mpr hs] at ho
  refine wp_iinc (y := nI 7) (lv' := [(0, .ref 13), (1, .int (nI kind)), (2, .int (nI k)), (3, .int (nI (kind + (8 * k)))), (4, .int (nI (rs_p S0))), (5, .int (nI 7))]) dq_162_33 rfl (nI_add 6 1) (by decide) rfl ?_
  refine wp_goto (tgt := 16) dq_162_36 rfl ?_
  refine wp_iload dq_162_16 rfl ?_
  refine wp_bipush (x := nI 8) dq_162_18 rfl ?_
  refine wp_ic_geN (tgt := 39) dq_162_20 rfl (by decide) (by decide) (fun c9 => absurd c9 (by decide)) (fun _ => ?_)
  refine wp_aload_n dq_162_23 rfl ?_
  refine wp_getf (w := .ref 15) dq_162_24 fl_162_13 ho rfl ?_
  refine wp_iload_n dq_162_27 rfl ?_
  refine wp_iload dq_162_28 rfl ?_
  refine wp_iaddN dq_162_30 ?_
  refine wp_iconst (x := nI 0) dq_162_31 rfl ?_
  refine wp_tn dq_162_32 (by omega) hT (fun h hT => ?_)
  obtain ⟨s0, fa0, hb, hz0, hc0, hp0⟩ := TR_x hT
  have ho := mw_0 hb
  rw [hp0 hs, hc0.mpr hs] at ho
  refine wp_iinc (y := nI 8) (lv' := [(0, .ref 13), (1, .int (nI kind)), (2, .int (nI k)), (3, .int (nI (kind + (8 * k)))), (4, .int (nI (rs_p S0))), (5, .int (nI 8))]) dq_162_33 rfl (nI_add 7 1) (by decide) rfl ?_
  refine wp_goto (tgt := 16) dq_162_36 rfl ?_
  refine wp_iload dq_162_16 rfl ?_
  refine wp_bipush (x := nI 8) dq_162_18 rfl ?_
  refine wp_ic_geN (tgt := 39) dq_162_20 rfl (by decide) (by decide) (fun _ => ?_) (fun c9 => absurd c9 (by decide))
  refine wp_aload_n dq_162_39 rfl ?_
  refine wp_getf (w := .ref 15) dq_162_40 fl_162_13 ho rfl ?_
  refine wp_iload_n dq_162_43 rfl ?_
  refine wp_aload_n dq_162_44 rfl ?_
  refine wp_cv0 (P := fun v h' => v = some (.int (nI (rs_iv B n 2 S0))) ∧ TR h' B n (rs_is n 2 S0) (upd (upd (upd (upd (upd N ((kind + (8 * k)) + 3) (nI 0)) ((kind + (8 * k)) + 4) (nI 0)) ((kind + (8 * k)) + 5) (nI 0)) ((kind + (8 * k)) + 6) (nI 0)) ((kind + (8 * k)) + 7) (nI 0)) z) dq_162_45 mt_162_134 (ob_of (mw_0 hb)) ⟨by decide +kernel, by decide +kernel⟩ (Nat.le_of_ble_eq_true rfl) (Nat.le_of_ble_eq_true rfl) (c_u2 hT (fun h' k1 => ⟨rfl, k1⟩)) (fun v9 h9 q9 => ?_)
  obtain ⟨rfl, hT⟩ := q9
  generalize hS1 : rs_is n 2 S0 = S1 at hT
  obtain ⟨s1, fa1, hb, hz1, hc1, hp1⟩ := TR_x hT
  have hv45 : rs_iv B n 2 S0 < 65536 := TR_v hT
  refine wp_tn dq_162_48 (by omega) hT (fun h hT => ?_)
  obtain ⟨s1, fa1, hb, hz1, hc1, hp1⟩ := TR_x hT
  refine wp_aload_n dq_162_49 rfl ?_
  refine wp_getf (w := .ref 15) dq_162_50 fl_162_13 (mw_0 hb) rfl ?_
  refine wp_iload_n dq_162_53 rfl ?_
  refine wp_iconst (x := nI 1) dq_162_54 rfl ?_
  refine wp_iaddN dq_162_55 ?_
  refine wp_aload_n dq_162_56 rfl ?_
  refine wp_cv0 (P := fun v h' => v = some (.int (nI (rs_iv B n 2 S1))) ∧ TR h' B n (rs_is n 2 S1) (upd (upd (upd (upd (upd (upd N ((kind + (8 * k)) + 3) (nI 0)) ((kind + (8 * k)) + 4) (nI 0)) ((kind + (8 * k)) + 5) (nI 0)) ((kind + (8 * k)) + 6) (nI 0)) ((kind + (8 * k)) + 7) (nI 0)) (kind + (8 * k)) (nI (rs_iv B n 2 S0))) z) dq_162_57 mt_162_134 (ob_of (mw_0 hb)) ⟨by decide +kernel, by decide +kernel⟩ (Nat.le_of_ble_eq_true rfl) (Nat.le_of_ble_eq_true rfl) (c_u2 hT (fun h' k1 => ⟨rfl, k1⟩)) (fun v9 h9 q9 => ?_)
  obtain ⟨rfl, hT⟩ := q9
  generalize hS2 : rs_is n 2 S1 = S2 at hT
  obtain ⟨s2, fa2, hb, hz2, hc2, hp2⟩ := TR_x hT
  have hv57 : rs_iv B n 2 S1 < 65536 := TR_v hT
  refine wp_tn dq_162_60 (by omega) hT (fun h hT => ?_)
  obtain ⟨s2, fa2, hb, hz2, hc2, hp2⟩ := TR_x hT
  refine wp_aload_n dq_162_61 rfl ?_
  refine wp_getf (w := .ref 15) dq_162_62 fl_162_13 (mw_0 hb) rfl ?_
  refine wp_iload_n dq_162_65 rfl ?_
  refine wp_iconst (x := nI 2) dq_162_66 rfl ?_
  refine wp_iaddN dq_162_67 ?_
  refine wp_aload_n dq_162_68 rfl ?_
  refine wp_cv0 (P := fun v h' => v = some (.int (nI (rs_iv B n 2 S2))) ∧ TR h' B n (rs_is n 2 S2) (upd (upd (upd (upd (upd (upd (upd N ((kind + (8 * k)) + 3) (nI 0)) ((kind + (8 * k)) + 4) (nI 0)) ((kind + (8 * k)) + 5) (nI 0)) ((kind + (8 * k)) + 6) (nI 0)) ((kind + (8 * k)) + 7) (nI 0)) (kind + (8 * k)) (nI (rs_iv B n 2 S0))) ((kind + (8 * k)) + 1) (nI (rs_iv B n 2 S1))) z) dq_162_69 mt_162_134 (ob_of (mw_0 hb)) ⟨by decide +kernel, by decide +kernel⟩ (Nat.le_of_ble_eq_true rfl) (Nat.le_of_ble_eq_true rfl) (c_u2 hT (fun h' k1 => ⟨rfl, k1⟩)) (fun v9 h9 q9 => ?_)
  obtain ⟨rfl, hT⟩ := q9
  generalize hS3 : rs_is n 2 S2 = S3 at hT
  obtain ⟨s3, fa3, hb, hz3, hc3, hp3⟩ := TR_x hT
  have hv69 : rs_iv B n 2 S2 < 65536 := TR_v hT
  refine wp_tn dq_162_72 (by omega) hT (fun h hT => ?_)
  obtain ⟨s3, fa3, hb, hz3, hc3, hp3⟩ := TR_x hT
  obtain ⟨hU0, hU1, hU2, hU3, hU4, hU5, hU6, hU8⟩ := mU N (kind + 8 * k) (nI (rs_iv B n 2 S0)) (nI (rs_iv B n 2 S1)) (nI (rs_iv B n 2 S2))
  generalize (upd (upd (upd (upd (upd (upd (upd (upd N ((kind + (8 * k)) + 3) (nI 0)) ((kind + (8 * k)) + 4) (nI 0)) ((kind + (8 * k)) + 5) (nI 0)) ((kind + (8 * k)) + 6) (nI 0)) ((kind + (8 * k)) + 7) (nI 0)) (kind + (8 * k)) (nI (rs_iv B n 2 S0))) ((kind + (8 * k)) + 1) (nI (rs_iv B n 2 S1))) ((kind + (8 * k)) + 2) (nI (rs_iv B n 2 S2))) = N8 at hT hU0 hU1 hU2 hU3 hU4 hU5 hU6 hU8
  have hP8 : PQ B n T N8 := PQ_c hP (hU8 2 (by omega)) (fun i h1 h2 => hU8 i (by omega))
  have hx1 : snd S1 → rs_p S1 = rs_p S0 + 2 := fun hq => by rw [(sd_isp hS1 hq).2.2]; rfl
  obtain ⟨s3, fa3, hb, hz3, hc3, hp3⟩ := TR_x hT
  have hv0 : rs_iv B n 2 S0 < 65536 := TR_v hT
  have hv1 : rs_iv B n 2 S1 < 65536 := TR_v hT
  have hv2 : rs_iv B n 2 S2 < 65536 := TR_v hT
  refine wp_aload_n dq_162_73 rfl ?_
  refine wp_iload_n dq_162_74 rfl ?_
  refine wp_iload dq_162_75 rfl ?_
  refine wp_iconst (x := nI 2) dq_162_77 rfl ?_
  refine wp_iaddN dq_162_78 ?_
  refine wp_aload_n dq_162_79 rfl ?_
  refine wp_getf (w := .ref 15) dq_162_80 fl_162_13 (mw_0 hb) rfl ?_
  refine wp_iload_n dq_162_83 rfl ?_
  refine wp_iconst (x := nI 1) dq_162_84 rfl ?_
  refine wp_iaddN dq_162_85 ?_
  refine wp_ialdV (z := (nI (rs_iv B n 2 S1))) dq_162_86 (mw_2 hb) (by omega) (by decide) (hU1) ?_
  refine wp_aload_n dq_162_87 rfl ?_
  refine wp_getf (w := .ref 15) dq_162_88 fl_162_13 (mw_0 hb) rfl ?_
  refine wp_iload_n dq_162_91 rfl ?_
  refine wp_iconst (x := nI 2) dq_162_92 rfl ?_
  refine wp_iaddN dq_162_93 ?_
  refine wp_ialdV (z := (nI (rs_iv B n 2 S2))) dq_162_94 (mw_2 hb) (by omega) (by decide) (hU2) ?_
  refine wp_cv4 (P := fun v h' => v = none ∧ TR h' B n (rs_J B T kd (rs_iv B n 2 S1) (rs_iv B n 2 S2) (rs_p S0 + 2) S3) N8 z) dq_162_95 mt_162_193 (ob_of (mw_0 hb)) ⟨by decide +kernel, by decide +kernel⟩ (Nat.le_of_ble_eq_true rfl) (Nat.le_of_ble_eq_true rfl) (c_judge (d := d + 2) (T := T) (kd := kd) (p := rs_p S0 + 2) hT hk3 (fun hq => ⟨rfl, by omega, hP8⟩) hv1 hv2 (fun h' k1 => ⟨rfl, k1⟩)) (fun v9 h9 q9 => ?_)
  obtain ⟨rfl, hT⟩ := q9
  generalize hS4 : rs_J B T kd (rs_iv B n 2 S1) (rs_iv B n 2 S2) (rs_p S0 + 2) S3 = S4 at hT
  obtain ⟨s4, fa4, hb, hz4, hc4, hp4⟩ := TR_x hT
  have e4 : rs_nt B n T kd S1 = S4 := by rw [← J_nt hx1, hS2, hS3, hS4]
  refine wp_aload_n dq_162_98 rfl ?_
  refine wp_getf (w := .int (s4 4)) dq_162_99 fl_162_116 (mw_0 hb) rfl ?_
  refine wp_if_eq (tgt := 106) dq_162_102 rfl (fun c1 => ?_) (fun c1 => ?_)
  · have hq4 : snd S4 := hc4.mp c1
    obtain ⟨j1, j2, j3, j4, j5, j6, j7, j8⟩ := sp_nt e4 hq4
    rw [hS2] at j5 j7 j8
    have hk12 := kn_12 (tx B T (rs_iv B n 2 S1))
    have hj106 : ∀ h, TR h B n (rs_w (k_fit B T (bu_U B F 2) kd (rs_iv B n 2 S1) (rs_iv B n 2 S0)) 6 (rs_p S0) S4) N8 z → wp_W L xs (d + 8) 162 140 [(0, .ref 13), (1, .int (nI kind)), (2, .int (nI k)), (3, .int (nI (kind + (8 * k)))), (4, .int (nI (rs_p S0))), (5, .int (nI 8))] ([]) h Q := by
      intro h hT
      generalize hS5 : rs_w (k_fit B T (bu_U B F 2) kd (rs_iv B n 2 S1) (rs_iv B n 2 S0)) 6 (rs_p S0) S4 = S5 at hT
      obtain ⟨s5, fa5, hb, hz5, hc5, hp5⟩ := TR_x hT
      refine wp_iload_n dq_162_140 rfl ?_
      refine wp_istore (lv' := [(0, .ref 13), (1, .int (nI kind)), (2, .int (nI k)), (3, .int (nI (kind + (8 * k)))), (4, .int (nI (rs_p S0))), (5, .int (nI kind))]) dq_162_141 (by decide) rfl ?_
      have hnk := nt_ty (k := k) (M := M) (show snd (rs_nt B n T kd S1) by rw [e4]; exact hq4)
      rw [hS2] at hnk
      obtain ⟨n1, n2, n3, n4, -⟩ := hnk
      have hA : ∀ i, i < k + 1 → N8 (kind + 8 * i + 1) = nI (nmO B (mb_nt kd k S1 M) kd i) ∧ N8 (kind + 8 * i + 2) = nI (tyO B (mb_nt kd k S1 M) kd i) ∧ tg B T (nmO B (mb_nt kd k S1 M) kd i) = 1 ∧ tg B T (tyO B (mb_nt kd k S1 M) kd i) = 1 := fun i hi => by
        rcases Nat.lt_or_ge i k with r | r
        · obtain ⟨a1, a2, a3, a4, a5, a6⟩ := hNK i r
          have e1 : nmO B (mb_nt kd k S1 M) kd i = nmO B M kd i := by show bu_U B (updN M.np (16 * kd + k) (rs_p S1) (16 * kd + i)) 2 = _; rw [updN_n (by omega)]; rfl
          have e2 : tyO B (mb_nt kd k S1 M) kd i = tyO B M kd i := by show bu_U B (updN M.np (16 * kd + k) (rs_p S1) (16 * kd + i) + 2) 2 = _; rw [updN_n (by omega)]; rfl
          rw [e1, e2, hU8 _ (by omega), hU8 _ (by omega)]
          exact ⟨a1, a2, a5, a6⟩
        · rw [show i = k by omega, n2, n1]
          exact ⟨hU1, hU2, j6, j7⟩
      refine c_mbmL (d := d + 4) (p := rs_p S0) ⟨by omega, hk16⟩ hP8 hA k 0 S5 _ hT (by omega) (fun h hT => ?_)
      have e6 : rs_mbL B T (mb_nt kd k S1 M) kd k (rs_p S0) k 0 S5 = rs_mb B n T F kd k M S0 := by rw [rs_mb, hS1, e4, hS5]
      rw [e6] at hT
      obtain ⟨s6, fa6, hb, -⟩ := TR_x hT
      refine wp_aload_n dq_162_211 rfl ?_
      refine wp_iload_n dq_162_212 rfl ?_
      refine wp_iload_n dq_162_213 rfl ?_
      refine wp_cv2 (P := fun v h' => v = none ∧ ∃ N', TR h' B n (rs_m1 B n T F kd k S0 M).1 N' z ∧ (snd (rs_m1 B n T F kd k S0 M).1 → NOm kd B N' (rs_m1 B n T F kd k S0 M).2 (16 * kd + k) (kind + 8 * k) ∧ ∀ q, (q < kind + 8 * k + 3 ∨ kind + 8 * k + 8 ≤ q) → N' q = N8 q)) dq_162_214 mt_162_201 (ob_of (mw_0 hb)) ⟨by decide +kernel, by decide +kernel⟩ (Nat.le_of_ble_eq_true rfl) (Nat.le_of_ble_eq_true rfl) (c_tabm (d := d) (T := T) (kd := kd) (o := 16 * kd + k) (cty := tyO B (mb_nt kd k S1 M) kd k) (M := mb_nt kd k S1 M) hT hkd (by omega) (fun hq => ⟨hP8, ?_, fun w h1 h2 => hz _ (by omega) (by omega), fun _ => by rw [n1]; exact ⟨hU2, j7⟩⟩) (fun h' N' k1 k2 => ⟨rfl, N', by rw [rs_m1, hS1]; exact k1, by rw [rs_m1, hS1]; exact k2⟩)) (fun v9 h9 q9 => ?_)
      · have z0 := hz (9 * (16 * kd + k)) (by omega) (by omega)
        have z1 := hz (9 * (16 * kd + k) + 1) (by omega) (by omega)
        have z2 := hz (9 * (16 * kd + k) + 2) (by omega) (by omega)
        have z3 := hz (9 * (16 * kd + k) + 3) (by omega) (by omega)
        refine ⟨by rw [hU3]; unfold ctv; rw [show (mb_nt kd k S1 M).ct = M.ct from rfl, if_pos z0], by rw [hU4, show (mb_nt kd k S1 M).ct = M.ct from rfl, if_pos z1], fun _ => by rw [hU5]; unfold ctv; rw [show (mb_nt kd k S1 M).ct = M.ct from rfl, if_pos z2], fun _ => ⟨by rw [hU6]; unfold ctv; rw [show (mb_nt kd k S1 M).ct = M.ct from rfl, if_pos z3], fun r => absurd z3 r⟩⟩
      obtain ⟨rfl, N9, hT, hN9⟩ := q9
      refine wp_vre dq_162_217 rfl (hK _ N9 hT (fun hq => ?_))
      obtain ⟨r1, r2⟩ := hN9 hq
      have hM9 : (rs_m1 B n T F kd k S0 M).2.np = (mb_nt kd k S1 M).np := by rw [rs_m1, hS1]; exact (tb_c ..).2
      have hf9 : (mb_nt kd k S1 M).np (16 * kd + k) = rs_p S1 := updN_s
      refine ⟨⟨?_, ?_, fun _ => ?_, r1, ?_, ?_⟩, fun q hq9 => ?_⟩
      · rw [r2 _ (by omega), hU1, nmO, hM9, hf9, ← j4]
      · rw [r2 _ (by omega), hU2, tyO, hM9, hf9, ← j5]
      · rw [r2 _ (by omega), hU0, hM9, hf9, hx1 j3, Nat.add_sub_cancel, iv_of hS1 j3]
      · rw [nmO, hM9, hf9, ← j4]
        exact j6
      · rw [tyO, hM9, hf9, ← j5]
        exact j7
      · rw [r2 q (by omega)]
        exact hU8 q hq9
    refine wp_aload_n dq_162_106 rfl ?_
    refine wp_iload_n dq_162_107 rfl ?_
    refine wp_aload_n dq_162_108 rfl ?_
    refine wp_getf (w := .ref 15) dq_162_109 fl_162_13 (mw_0 hb) rfl ?_
    refine wp_iload_n dq_162_112 rfl ?_
    refine wp_ialdV (z := (nI (rs_iv B n 2 S0))) dq_162_113 (mw_2 hb) (by omega) (by decide) (hU0) ?_
    refine wp_aload_n dq_162_114 rfl ?_
    refine wp_aload_n dq_162_115 rfl ?_
    refine wp_getf (w := .ref 15) dq_162_116 fl_162_13 (mw_0 hb) rfl ?_
    refine wp_iload_n dq_162_119 rfl ?_
    refine wp_iconst (x := nI 1) dq_162_120 rfl ?_
    refine wp_iaddN dq_162_121 ?_
    refine wp_ialdV (z := (nI (rs_iv B n 2 S1))) dq_162_122 (mw_2 hb) (by omega) (by decide) (hU1) ?_
    refine wp_cve1 dq_162_123 mt_162_160 (ob_of (mw_0 hb)) ⟨by decide +kernel, by decide +kernel⟩ (Nat.le_of_ble_eq_true rfl) (Nat.le_of_ble_eq_true rfl) (c_kn (d := d + 3) (TR_A hT) hP8 j6) ?_
    refine wp_cve3 dq_162_126 mt_162_197 (ob_of (mw_0 hb)) ⟨by decide +kernel, by decide +kernel⟩ (Nat.le_of_ble_eq_true rfl) (Nat.le_of_ble_eq_true rfl) (c_bflag (d := d + 6) (kd := kd) (ff := bu_U B F 2) hT hkd hv0 hk12 ((hU8 1 (by omega)).trans hF1)) ?_
    refine wp_if_eqB (tgt := 140) dq_162_129 rfl (fun c2 => ?_) (fun c2 => ?_)
    · exact hj106 _ (by rw [w_T (fun hq => by rw [fit_bf j6 (by omega) hv0, c2]; rfl)]; exact hT)
    · refine wp_aload_n dq_162_132 rfl ?_
      refine wp_bipush (x := nI 6) dq_162_133 rfl ?_
      refine wp_iload dq_162_135 rfl ?_
      refine wp_cv2 (P := fun v h' => v = none ∧ TR h' B n (rs_w false 6 (rs_p S0) S4) N8 z) dq_162_137 mt_162_122 (ob_of (mw_0 hb)) ⟨by decide +kernel, by decide +kernel⟩ (Nat.le_of_ble_eq_true rfl) (Nat.le_of_ble_eq_true rfl) (c_fail hT (by decide) (fun hq => rfl) (fun h' k1 => ⟨rfl, k1⟩)) (fun v9 h9 q9 => ?_)
      obtain ⟨rfl, hT⟩ := q9
      exact hj106 _ (by rw [w_F (fun hq => by rw [fit_bf j6 (by omega) hv0, c2]; rfl)]; exact hT)
  · obtain ⟨e0, rfl⟩ : ∃ e, S4 = .inr e := by
      rcases snd_or S4 with r | r
      · exact absurd (hc4.mpr r) c1
      · exact r
    have e9 : (rs_m1 B n T F kd k S0 M).1 = .inr e0 := by
      rw [rs_m1, rs_mb, hS1, e4]
      show (rs_tb B n T kd (16 * kd + k) _ (rs_mbL B T (mb_nt kd k S1 M) kd k (rs_p S0) k 0 (.inr e0)) _).1 = _
      rw [rs_mbL_e, rs_tb_e]
    exact wp_vre dq_162_105 rfl (hK _ N8 (by rw [e9]; exact hT) (fun hq => absurd hq (by rw [e9]; exact not_snd)))
