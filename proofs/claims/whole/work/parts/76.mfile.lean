/-- what a Record has left -/
def RCI (B T : Nat → Nat) (N : Nat → Int32) (M : rM) : Prop := (M.ct 440 = 0 → M.c 2 = 0 ∧ ∀ q, 288 ≤ q → q < 432 → M.ct q = 0) ∧ N 15 = nI (M.c 2) ∧ (∀ i, i < M.c 2 → NK B T N M 2 i (360 + 8 * i)) ∧ M.c 2 ≤ 16
theorem RCI_eq {B T : Nat → Nat} {N N' : Nat → Int32} {M M' : rM} (h : RCI B T N M) (h15 : N' 15 = N 15) (hN : ∀ q, 360 ≤ q → N' q = N q) (hc : M'.c = M.c) (hn : M'.np = M.np) (ht : ∀ q, q < 432 ∨ q = 440 → M'.ct q = M.ct q) : RCI B T N' M' := by
  obtain ⟨h1, h2, h3, h4⟩ := h
  refine ⟨fun r => ?_, by rw [h15, hc]; exact h2, fun i hi => ?_, by rw [hc]; exact h4⟩
  · rw [ht 440 (Or.inr rfl)] at r
    obtain ⟨r1, r2⟩ := h1 r
    exact ⟨by rw [hc]; exact r1, fun q a1 a2 => (ht q (Or.inl a2)).trans (r2 q a1 a2)⟩
  · rw [hc] at hi
    exact NK_eq (h3 i hi) (fun j hj => hN _ (by omega)) (by rw [hn]) (fun w hw => ht _ (Or.inl (by omega)))
section NOFS
variable {B : Nat → Nat} {N : Nat → Int32} {M : rM} {p : Nat}
theorem NOf_1 (h : NOf B N M) (hp : p ≠ 0) : NOf B (upd N 16 (nI (bu_U B p 2))) (M.c, M.np, updN M.ct 432 p) := by
  obtain ⟨h1, h2, h3, h4, h5⟩ := h
  refine ⟨by rw [pk_us, ctv_s hp], by rw [pk_un (by decide), ct_n (by decide)]; exact h2, fun w a1 a2 => ⟨?_, fun r => ?_⟩, by rw [pk_un (by decide), ctv_n (c' := M.c) (np' := M.np) (by decide)]; exact h4, by rw [pk_un (by decide), ct_n (by decide)]; exact h5⟩
  · rw [pk_un (by omega), ctv_n (c' := M.c) (np' := M.np) (by omega)]
    exact (h3 w a1 a2).1
  · rw [ct_n (by omega)] at r ⊢
    rw [pk_un (by omega)]
    exact (h3 w a1 a2).2 r
theorem NOf_2 (h : NOf B N M) (hp : p ≠ 0) : NOf B (upd N 17 (nI 1)) (M.c, M.np, updN M.ct 433 p) := by
  obtain ⟨h1, h2, h3, h4, h5⟩ := h
  refine ⟨by rw [pk_un (by decide), ctv_n (c' := M.c) (np' := M.np) (by decide)]; exact h1, by rw [pk_us, ct_s, if_neg hp], fun w a1 a2 => ⟨?_, fun r => ?_⟩, by rw [pk_un (by decide), ctv_n (c' := M.c) (np' := M.np) (by decide)]; exact h4, by rw [pk_un (by decide), ct_n (by decide)]; exact h5⟩
  · rw [pk_un (by omega), ctv_n (c' := M.c) (np' := M.np) (by omega)]
    exact (h3 w a1 a2).1
  · rw [ct_n (by omega)] at r ⊢
    rw [pk_un (by omega)]
    exact (h3 w a1 a2).2 r
theorem NOf_8 (h : NOf B N M) (hp : p ≠ 0) : NOf B (upd N 19 (nI (bu_U B p 2))) (M.c, M.np, updN M.ct 439 p) := by
  obtain ⟨h1, h2, h3, h4, h5⟩ := h
  refine ⟨by rw [pk_un (by decide), ctv_n (c' := M.c) (np' := M.np) (by decide)]; exact h1, by rw [pk_un (by decide), ct_n (by decide)]; exact h2, fun w a1 a2 => ⟨?_, fun r => ?_⟩, by rw [pk_us, ctv_s hp], by rw [pk_un (by decide), ct_n (by decide)]; exact h5⟩
  · rw [pk_un (by omega), ctv_n (c' := M.c) (np' := M.np) (by omega)]
    exact (h3 w a1 a2).1
  · rw [ct_n (by omega)] at r ⊢
    rw [pk_un (by omega)]
    exact (h3 w a1 a2).2 r
theorem NOf_l {v : Nat} (hv : 5 ≤ v ∧ v ≤ 7) (h : NOf B N M) (hp : p ≠ 0) : NOf B (upd (upd N (2 * v - 3) (nI (bu_U B p 2))) (2 * v - 3 + 1) (nI (p + 2))) (M.c, M.np, updN M.ct (431 + v) p) := by
  obtain ⟨h1, h2, h3, h4, h5⟩ := h
  refine ⟨by rw [pk_un (by omega), pk_un (by omega), ctv_n (c' := M.c) (np' := M.np) (by omega)]; exact h1, by rw [pk_un (by omega), pk_un (by omega), ct_n (by omega)]; exact h2, fun w a1 a2 => ?_, by rw [pk_un (by omega), pk_un (by omega), ctv_n (c' := M.c) (np' := M.np) (by omega)]; exact h4, by rw [pk_un (by omega), pk_un (by omega), ct_n (by omega)]; exact h5⟩
  by_cases e : w = v
  · subst e
    exact ⟨by rw [pk_un (by omega), pk_us, ctv_s hp], fun _ => by rw [ct_s]; exact pk_us⟩
  · refine ⟨?_, fun r => ?_⟩
    · rw [pk_un (by omega), pk_un (by omega), ctv_n (c' := M.c) (np' := M.np) (by omega)]
      exact (h3 w a1 a2).1
    · rw [ct_n (by omega)] at r ⊢
      rw [pk_un (by omega), pk_un (by omega)]
      exact (h3 w a1 a2).2 r
theorem NOf_9 {N' : Nat → Int32} {M' : rM} (h : NOf B N M) (h18 : N' 18 = nI 1) (hN : ∀ q, q < 20 → q ≠ 15 → q ≠ 18 → N' q = N q) (hc : ∀ q, 432 ≤ q → q < 440 → M'.ct q = M.ct q) (h9 : M'.ct 440 ≠ 0) : NOf B N' M' := by
  obtain ⟨h1, h2, h3, h4, h5⟩ := h
  unfold NOf ctv at *
  refine ⟨by rw [hN 16 (by decide) (by decide) (by decide), hc 432 (by decide) (by decide)]; exact h1, by rw [hN 17 (by decide) (by decide) (by decide), hc 433 (by decide) (by decide)]; exact h2, fun w a1 a2 => ?_, by rw [hN 19 (by decide) (by decide) (by decide), hc 439 (by decide) (by decide)]; exact h4, by rw [h18, if_neg h9]⟩
  rw [hN (2 * w - 3) (by omega) (by omega) (by omega), hN (2 * w - 3 + 1) (by omega) (by omega) (by omega), hc (431 + w) (by omega) (by omega)]
  exact h3 w a1 a2
end NOFS
theorem rc_o {B : Nat → Nat} {n : Nat} {T : Nat → Nat} {S : rS} {M : rM} (h : snd (rs_rc B n T S M).1) (h2 : M.c 2 = 0) : (∀ q, q < 288 ∨ 432 ≤ q → (rs_rc B n T S M).2.ct q = M.ct q) ∧ (rs_rc B n T S M).2.c 2 = rs_iv B n 2 S ∧ rs_iv B n 2 S ≤ 16 ∧ (∀ i, i ≠ 2 → (rs_rc B n T S M).2.c i = M.c i) ∧ ∀ q, q < 32 → (rs_rc B n T S M).2.np q = M.np q := by
  have h3 : snd (rs_rc4 B n T S M).1 := sd_w rfl h
  have h4 : snd (rs_rc3 B n S) := (sp_rcL h3).2
  have h5 := (sd_wc rfl h4).1
  have h6 : rs_li1 B S = S := (sd_wc rfl (sd_is rfl (sd_w rfl h4))).2
  rw [h6] at h5
  have h7 := of_decide_eq_true h5
  obtain ⟨o1, o2, o3, o4⟩ := rcL_o B n T (rs_iv B n 2 (rs_li1 B S)) 0 (rs_rc3 B n S) M
  have e : (rs_rc B n T S M).2 = (rs_rcL B n T (rs_iv B n 2 (rs_li1 B S)) 0 (rs_rc3 B n S) M).2 := rfl
  rw [e]
  rw [h6] at o1 o2 o3 o4 ⊢
  exact ⟨fun q hq => o2 q (by omega), (o3 h2).trans (Nat.zero_add _), h7, o4, fun q hq => o1 q (by omega)⟩
theorem f1_o (B : Nat → Nat) (n : Nat) (T : Nat → Nat) (S : rS) (M : rM) (h : snd (rs_f1 B n T S M).1) (h2 : M.ct 440 = 0 → M.c 2 = 0) : (∀ q, q < 288 → (rs_f1 B n T S M).2.ct q = M.ct q) ∧ (∀ i, i ≠ 2 → (rs_f1 B n T S M).2.c i = M.c i) ∧ (∀ q, q < 32 → (rs_f1 B n T S M).2.np q = M.np q) ∧ ((rs_f1 B n T S M).2.ct 440 = 0 → (rs_f1 B n T S M).2.c 2 = 0) := by
  have hm : ∀ q, q < 432 → (mb_ah B n T 3 (16 * 3 + 0) S M).ct q = M.ct q := fun q hq => ah_ct (fun w a1 a2 a3 => by omega)
  obtain ⟨m1, m2⟩ := mb_ah_c B n T 3 (16 * 3 + 0) S M
  unfold rs_f1 at h ⊢
  by_cases c : ah_w B n T 3 S = 9
  · rw [if_pos c] at h ⊢
    have hs1 := (rc_ct h).2
    have h0 : M.ct 440 = 0 := rc_in rfl hs1 c
    obtain ⟨r1, r2, r3, r4, r5⟩ := rc_o h (by rw [m1]; exact h2 h0)
    refine ⟨fun q hq => (r1 q (Or.inl hq)).trans (hm q (by omega)), fun i hi => (r4 i hi).trans (by rw [m1]), fun q hq => (r5 q hq).trans (by rw [m2]), fun r => ?_⟩
    rw [r1 440 (by omega)] at r
    exact absurd r (rc_ct1 (sd_ah rfl hs1) c)
  · rw [if_neg c]
    refine ⟨fun q hq => hm q (by omega), fun i _ => by rw [m1], fun q _ => by rw [m2], fun r => ?_⟩
    have h5 : (mb_ah B n T 3 (16 * 3 + 0) S M).ct 440 = M.ct 440 := ah_ct (fun w a1 a2 a3 => by omega)
    show (mb_ah B n T 3 (16 * 3 + 0) S M).c 2 = 0
    rw [m1]
    exact h2 (h5.symm.trans r)
theorem sd_f1 {B : Nat → Nat} {n : Nat} {T : Nat → Nat} {S : rS} {M : rM} (h : snd (rs_f1 B n T S M).1) : snd S := by
  rcases snd_or (rs_ah B n T 3 (16 * 3 + 0) M S) with r | ⟨e, he⟩
  · exact sd_ahS rfl r
  · rw [f1_e he] at h
    exact absurd h not_snd
theorem sd_fL {B : Nat → Nat} {n : Nat} {T : Nat → Nat} : ∀ {j : Nat} {S : rS} {M : rM}, snd (rs_fL B n T j S M).1 → snd S
  | 0, _, _, h => h
  | j + 1, S, M, h => by
    rw [rs_fL_s] at h
    exact sd_f1 (sd_fL (j := j) h)
theorem fL_o (B : Nat → Nat) (n : Nat) (T : Nat → Nat) : ∀ j S M, snd (rs_fL B n T j S M).1 → (M.ct 440 = 0 → M.c 2 = 0) → (∀ q, q < 288 → (rs_fL B n T j S M).2.ct q = M.ct q) ∧ (∀ i, i ≠ 2 → (rs_fL B n T j S M).2.c i = M.c i) ∧ (∀ q, q < 32 → (rs_fL B n T j S M).2.np q = M.np q)
  | 0, S, M, _, _ => ⟨fun _ _ => rfl, fun _ _ => rfl, fun _ _ => rfl⟩
  | j + 1, S, M, h, h2 => by
    rw [rs_fL_s] at h ⊢
    obtain ⟨a1, a2, a3, a4⟩ := f1_o B n T S M (sd_fL h) h2
    obtain ⟨b1, b2, b3⟩ := fL_o B n T j _ _ h a4
    exact ⟨fun q hq => (b1 q hq).trans (a1 q hq), fun i hi => (b2 i hi).trans (a2 i hi), fun q hq => (b3 q hq).trans (a3 q hq)⟩
set_option maxRecDepth 100000 in
theorem c_tfL {L : Nat} {xs : Nat → Int32} {d n : Nat} {B T : Nat → Nat} {z : rZ} {Q : Option Value → List qx_E → Prop} {c : Nat} (hc9 : c < 65536) : ∀ j i sn S0 M N (h : List qx_E), TR h B n S0 N z → (snd S0 → PQ B n T N ∧ NOf B N M ∧ sbt sn M.ct (16 * 3 + 0) ∧ RCI B T N M) → i + j = c → (∀ h' N', TR h' B n (rs_fL B n T j S0 M).1 N' z → (snd (rs_fL B n T j S0 M).1 → (NOf B N' (rs_fL B n T j S0 M).2 ∧ RCI B T N' (rs_fL B n T j S0 M).2 ∧ PQ B n T N') ∧ ∀ q, (q < 7 ∨ q = 13 ∨ q = 14 ∨ (20 ≤ q ∧ q < 360)) → N' q = N q) → Q none h') → wp_W L xs (d + 9) 166 11 [(0, .ref 13), (1, .int (nI 0)), (2, .int (nI 0)), (3, .int (nI c)), (4, .int (nI sn)), (5, .int (nI i))] [] h Q := by
  intro j
  induction j with
  | zero =>
    intro i sn S0 M N h hT hI hi hK
    refine wp_iload dq_166_11 rfl ?_
    refine wp_iload_n dq_166_13 rfl ?_
    refine wp_ic_geN (tgt := 188) dq_166_14 rfl (by omega) (by omega) (fun c1 => ?_) (fun c1 => absurd c1 (by omega))
    exact wp_vre dq_166_188 rfl (hK h N hT (fun hq => by
      obtain ⟨q1, q2, q3, q4⟩ := hI hq
      exact ⟨⟨q2, q4, q1⟩, fun _ _ => rfl⟩))
  | succ j ih =>
    intro i sn S0 M N h hT hI hi hK
    rcases snd_or S0 with hs | ⟨e, rfl⟩
    · obtain ⟨hP, hNO, hsn, hRC⟩ := hI hs
      obtain ⟨s0, fa0, hb, hz0, hc0, hp0⟩ := TR_x hT
      obtain ⟨s0, fa0, hb, hz0, hc0, hp0⟩ := TR_x hT
      have ho := mw_0 hb
      rw [hp0 hs, hc0.mpr hs] at ho
      refine wp_iload dq_166_11 rfl ?_
      refine wp_iload_n dq_166_13 rfl ?_
      refine wp_ic_geN (tgt := 188) dq_166_14 rfl (by omega) (by omega) (fun c1 => ?_) (fun c1 => ?_)
      · exact absurd c1 (by omega)
      · refine wp_aload_n dq_166_17 rfl ?_
        refine wp_getf (w := .int (nI 0)) dq_166_18 fl_166_116 ho rfl ?_
        refine wp_if_neN (tgt := 188) dq_166_21 rfl (by omega) (fun c9 => absurd c9 (by decide)) (fun _ => ?_)
        refine wp_aload_n dq_166_24 rfl ?_
        refine wp_getf (w := .int (nI (rs_p S0))) dq_166_25 fl_166_119 ho rfl ?_
        refine wp_istore (lv' := [(0, .ref 13), (1, .int (nI 0)), (2, .int (nI 0)), (3, .int (nI c)), (4, .int (nI sn)), (5, .int (nI i)), (6, .int (nI (rs_p S0)))]) dq_166_28 (by decide) rfl ?_
        refine wp_aload_n dq_166_30 rfl ?_
        refine wp_iconst (x := nI 1) dq_166_31 rfl ?_
        refine wp_iconst (x := nI 0) dq_166_32 rfl ?_
        refine wp_cv2 (P := fun v h' => v = some (.int (nI (rs_iv B n 2 S0))) ∧ TR h' B n (rs_ix B n T 1 false S0) N z) dq_166_33 mt_166_173 (ob_of (mw_0 hb)) ⟨by decide +kernel, by decide +kernel⟩ (Nat.le_of_ble_eq_true rfl) (Nat.le_of_ble_eq_true rfl) (c_mix (T := T) (t := 1) (mz := false) hT (fun hq => hP) (by decide) (fun h' k1 => ⟨rfl, k1⟩)) (fun v9 h9 q9 => ?_)
        obtain ⟨rfl, hT⟩ := q9
        generalize hS1 : rs_ix B n T 1 false S0 = S1 at hT
        obtain ⟨s1, fa1, hb, hz1, hc1, hp1⟩ := TR_x hT
        have hv : rs_iv B n 2 S0 < 65536 := TR_v hT
        refine wp_istore (lv' := [(0, .ref 13), (1, .int (nI 0)), (2, .int (nI 0)), (3, .int (nI c)), (4, .int (nI sn)), (5, .int (nI i)), (6, .int (nI (rs_p S0))), (7, .int (nI (rs_iv B n 2 S0)))]) dq_166_36 (by decide) rfl ?_
        refine wp_aload_n dq_166_38 rfl ?_
        refine wp_getf (w := .int (s1 3)) dq_166_39 fl_166_119 (mw_0 hb) rfl ?_
        refine wp_istore (lv' := [(0, .ref 13), (1, .int (nI 0)), (2, .int (nI 0)), (3, .int (nI c)), (4, .int (nI sn)), (5, .int (nI i)), (6, .int (nI (rs_p S0))), (7, .int (nI (rs_iv B n 2 S0))), (8, .int (s1 3))]) dq_166_42 (by decide) rfl ?_
        refine wp_aload_n dq_166_44 rfl ?_
        refine wp_cv0 (P := fun v h' => v = some (.long (lN (rs_iv B n 4 S1))) ∧ TR h' B n (rs_is n 4 S1) N z) dq_166_45 mt_166_144 (ob_of (mw_0 hb)) ⟨by decide +kernel, by decide +kernel⟩ (Nat.le_of_ble_eq_true rfl) (Nat.le_of_ble_eq_true rfl) (c_u4 hT (fun h' k1 => ⟨rfl, k1⟩)) (fun v9 h9 q9 => ?_)
        obtain ⟨rfl, hT⟩ := q9
        generalize hS2 : rs_is n 4 S1 = S2 at hT
        obtain ⟨s2, fa2, hb, hz2, hc2, hp2⟩ := TR_x hT
        have hl9 : rs_iv B n 4 S1 < 4294967296 := TR_v4 hT
        have e2 : rs_ah2 B n T S0 = S2 := by rw [rs_ah2, hS1, hS2]
        refine wp_lstore (lv' := [(0, .ref 13), (1, .int (nI 0)), (2, .int (nI 0)), (3, .int (nI c)), (4, .int (nI sn)), (5, .int (nI i)), (6, .int (nI (rs_p S0))), (7, .int (nI (rs_iv B n 2 S0))), (8, .int (s1 3)), (9, .long (lN (rs_iv B n 4 S1)))]) dq_166_48 (by decide) rfl ?_
        refine wp_aload_n dq_166_50 rfl ?_
        refine wp_getf (w := .int (s2 4)) dq_166_51 fl_166_116 (mw_0 hb) rfl ?_
        refine wp_if_eq (tgt := 58) dq_166_54 rfl (fun c2 => ?_) (fun c2 => ?_)
        · have hq2 : snd S2 := hc2.mp c2
          have hq1 := sd_is hS2 hq2
          obtain ⟨g1, g2, g3, g4, g5⟩ := ah_p (by rw [e2]; exact hq2)
          rw [e2] at g1
          have g6 : rs_p S2 = rs_p S0 + 6 := by rw [g1]; rfl
          have g7 : ah_l B n T S0 = rs_iv B n 4 S1 := by rw [ah_l, hS1]
          have g8 : s1 3 = nI (rs_p S0 + 2) := by rw [hp1 hq1, (sp_ix hS1 hq1).1]; rfl
          rw [g7] at g5
          have hk12 := kn_12 (tx B T (rs_iv B n 2 S0))
          have hn9 := TR_n hT
          refine wp_aload_n dq_166_58 rfl ?_
          refine wp_iload dq_166_59 rfl ?_
          have hkn := c_kn (L := L) (xs := xs) (d := d + 4) (TR_A hT) hP g3
          have haw : ah_w B n T 3 S0 = if kw2 3 (kn (tx B T (rs_iv B n 2 S0))) = true then kn (tx B T (rs_iv B n 2 S0)) else 0 := fd_kn (by decide)
          generalize kn (tx B T (rs_iv B n 2 S0)) = w at hkn haw hk12
          refine wp_cve1 dq_166_61 mt_166_160 (ob_of (mw_0 hb)) ⟨by decide +kernel, by decide +kernel⟩ (Nat.le_of_ble_eq_true rfl) (Nat.le_of_ble_eq_true rfl) (hkn) ?_
          refine wp_istore (lv' := [(0, .ref 13), (1, .int (nI 0)), (2, .int (nI 0)), (3, .int (nI c)), (4, .int (nI sn)), (5, .int (nI i)), (6, .int (nI (rs_p S0))), (7, .int (nI (rs_iv B n 2 S0))), (8, .int (s1 3)), (9, .long (lN (rs_iv B n 4 S1))), (11, .int (nI w))]) dq_166_64 (by decide) rfl ?_
          refine wp_iload_n dq_166_66 rfl ?_
          refine wp_iload dq_166_67 rfl ?_
          refine wp_cse2 dq_166_69 (by decide +kernel) mt_166_210 (by decide +kernel) (Nat.le_of_ble_eq_true rfl) (Nat.le_of_ble_eq_true rfl) (c_knows (kd := 3) (by omega) hk12) ?_
          refine wp_if_neB (tgt := 99) dq_166_72 rfl (fun c3 => ?_) (fun c3 => ?_)
          · have hkw := kw2_t.mp c3
            have haw1 : ah_w B n T 3 S0 = w := by rw [haw, if_pos c3]
            have hw0 : w ≠ 0 := by omega
            have hsnb := hsn.1
            have hj99 : ∀ h, TR h B n (rs_w (M.ct (9 * (16 * 3 + 0) + (w - 1)) == 0) 9 (rs_p S0) S2) N z → wp_W L xs (d + 9) 166 117 [(0, .ref 13), (1, .int (nI 0)), (2, .int (nI 0)), (3, .int (nI c)), (4, .int (nI sn)), (5, .int (nI i)), (6, .int (nI (rs_p S0))), (7, .int (nI (rs_iv B n 2 S0))), (8, .int (s1 3)), (9, .long (lN (rs_iv B n 4 S1))), (11, .int (nI w))] ([]) h Q := by
              intro h hT
              generalize hS3 : rs_w (M.ct (9 * (16 * 3 + 0) + (w - 1)) == 0) 9 (rs_p S0) S2 = S3 at hT
              obtain ⟨s3, fa3, hb, hz3, hc3, hp3⟩ := TR_x hT
              have e3 : rs_ah B n T 3 (16 * 3 + 0) M S0 = S3 := by rw [ah_s haw1 hw0, e2, hS3]
              have hLL : snd S3 → rs_iv B n 4 S1 = bu_U B (rs_p S3 - 4) 4 ∧ s1 3 = nI (rs_p S3 - 4) := fun hq => by
                have q1 := (sd_wc hS3 hq).2
                rw [q1, g6, show rs_p S0 + 6 - 4 = rs_p S0 + 2 by omega]
                exact ⟨g5, g8⟩
              have e4 := mb_w (o := 16 * 3 + 0) (M := M) haw1 hw0
              rw [e2, g6] at e4
              obtain ⟨s3, fa3, hb, -⟩ := TR_x hT
              refine wp_iload dq_166_117 rfl ?_
              refine wp_iconst (x := nI 1) dq_166_119 rfl ?_
              refine wp_iload dq_166_120 rfl ?_
              refine wp_mark dq_166_122 dq_166_123 (by omega) (by omega) ?_
              refine wp_istore (lv' := [(0, .ref 13), (1, .int (nI 0)), (2, .int (nI 0)), (3, .int (nI c)), (4, .int (nI (sn ||| 2 ^ w))), (5, .int (nI i)), (6, .int (nI (rs_p S0))), (7, .int (nI (rs_iv B n 2 S0))), (8, .int (s1 3)), (9, .long (lN (rs_iv B n 4 S1))), (11, .int (nI w))]) dq_166_124 (by decide) rfl ?_
              refine wp_iload dq_166_126 rfl ?_
              refine wp_bipush (x := nI 9) dq_166_128 rfl ?_
              refine wp_ic_neN (tgt := 144) dq_166_130 rfl (by omega) (by omega) (fun c4 => ?_) (fun c4 => ?_)
              · refine wp_iload dq_166_144 rfl ?_
                refine wp_iconst (x := nI 4) dq_166_146 rfl ?_
                refine wp_ic_ltN (tgt := 171) dq_166_147 rfl (by omega) (by omega) (fun c5 => ?_) (fun c5 => ?_)
                · refine wp_aload_n dq_166_171 rfl ?_
                  refine wp_iload dq_166_172 rfl ?_
                  refine wp_iload_n dq_166_174 rfl ?_
                  refine wp_lload dq_166_175 rfl ?_
                  refine wp_iload dq_166_177 rfl ?_
                  have hwx : w = 1 ∨ w = 2 := by omega
                  rcases hwx with rfl | rfl
                  · refine wp_cv4 (P := fun v h' => v = none ∧ ∃ N', TR h' B n (rs_sg B n T 1 0 S3) N' z ∧ (snd (rs_sg B n T 1 0 S3) → N' = upd N (fx_i 1 0) (nI (if 1 = 2 then 1 else bu_U B (rs_p S3) 2)))) dq_166_179 mt_166_221 (ob_of (mw_0 hb)) ⟨by decide +kernel, by decide +kernel⟩ (Nat.le_of_ble_eq_true rfl) (Nat.le_of_ble_eq_true rfl) (c_fx1 (T := T) (d := d + 2) (hL := fun hq => hLL hq) (hl9 := hl9) (hb9 := by omega) (hP := fun _ => hP) (hT := hT) (hK := fun h' N' k1 k2 => ⟨rfl, N', k1, k2⟩)) (fun v9 h9 q9 => ?_)
                    obtain ⟨rfl, N1, hT, hN1⟩ := q9
                    generalize hS4 : rs_sg B n T 1 0 S3 = S4 at hT hN1
                    refine wp_iinc (y := nI (i + 1)) (lv' := [(0, .ref 13), (1, .int (nI 0)), (2, .int (nI 0)), (3, .int (nI c)), (4, .int (nI (sn ||| 2 ^ 1))), (5, .int (nI (i + 1))), (6, .int (nI (rs_p S0))), (7, .int (nI (rs_iv B n 2 S0))), (8, .int (s1 3)), (9, .long (lN (rs_iv B n 4 S1))), (11, .int (nI 1))]) dq_166_182 rfl (nI_add _ _) (by decide) rfl ?_
                    refine wp_goto (tgt := 11) dq_166_185 rfl ?_
                    rw [rs_fL_s] at hK
                    have e9 : rs_at1 B n T 3 (16 * 3 + 0) 0 M S0 = S4 := at1_s (w := 1) e3 (fun _ => haw1) (by decide) (by decide) hS4
                    rw [rs_f1, if_neg (by rw [haw1]; decide), e9, e4] at hK
                    refine wp_fg (l := [(0, .ref 13), (1, .int (nI 0)), (2, .int (nI 0)), (3, .int (nI c)), (4, .int (nI (sn ||| 2 ^ 1))), (5, .int (nI (i + 1)))]) (e := [(6, .int (nI (rs_p S0))), (7, .int (nI (rs_iv B n 2 S0))), (8, .int (s1 3)), (9, .long (lN (rs_iv B n 4 S1))), (11, .int (nI 1))]) rfl rfl rfl ?_
                    refine ih (i + 1) _ _ _ N1 _ hT (fun hq => ?_) (by omega) (fun h' N' k1 k2 => hK h' N' k1 (fun hq => ?_))
                    · have q3 := sd_sg hS4 hq
                      have q4 := (sd_wc hS3 q3).2
                      have q5 := hN1 hq
                      rw [q4, g6, show fx_i 1 0 = 16 from rfl] at q5
                      subst q5
                      exact ⟨PQ_u hP (by decide) (by decide), NOf_1 hNO (by omega), sbt_s hsn (by decide) (by decide) (by omega), RCI_eq hRC (pk_un (by decide)) (fun q hq => pk_un (by omega)) rfl rfl (fun q hq => ct_n (by omega))⟩
                    · obtain ⟨q1, q2⟩ := k2 hq
                      refine ⟨q1, fun q hq9 => (q2 q hq9).trans ?_⟩
                      have q5 := hN1 (sd_fL hq)
                      rw [show fx_i 1 0 = 16 from rfl] at q5
                      rw [q5]
                      exact pk_un (by omega)
                  · refine wp_cv4 (P := fun v h' => v = none ∧ ∃ N', TR h' B n (rs_sg B n T 2 0 S3) N' z ∧ (snd (rs_sg B n T 2 0 S3) → N' = upd N (fx_i 2 0) (nI (if 2 = 2 then 1 else bu_U B (rs_p S3) 2)))) dq_166_179 mt_166_221 (ob_of (mw_0 hb)) ⟨by decide +kernel, by decide +kernel⟩ (Nat.le_of_ble_eq_true rfl) (Nat.le_of_ble_eq_true rfl) (c_fx2 (T := T) (d := d + 2) (hL := fun hq => hLL hq) (hl9 := hl9) (hb9 := by omega) (hP := fun _ => hP) (hT := hT) (hK := fun h' N' k1 k2 => ⟨rfl, N', k1, k2⟩)) (fun v9 h9 q9 => ?_)
                    obtain ⟨rfl, N1, hT, hN1⟩ := q9
                    generalize hS4 : rs_sg B n T 2 0 S3 = S4 at hT hN1
                    refine wp_iinc (y := nI (i + 1)) (lv' := [(0, .ref 13), (1, .int (nI 0)), (2, .int (nI 0)), (3, .int (nI c)), (4, .int (nI (sn ||| 2 ^ 2))), (5, .int (nI (i + 1))), (6, .int (nI (rs_p S0))), (7, .int (nI (rs_iv B n 2 S0))), (8, .int (s1 3)), (9, .long (lN (rs_iv B n 4 S1))), (11, .int (nI 2))]) dq_166_182 rfl (nI_add _ _) (by decide) rfl ?_
                    refine wp_goto (tgt := 11) dq_166_185 rfl ?_
                    rw [rs_fL_s] at hK
                    have e9 : rs_at1 B n T 3 (16 * 3 + 0) 0 M S0 = S4 := at1_s (w := 2) e3 (fun _ => haw1) (by decide) (by decide) hS4
                    rw [rs_f1, if_neg (by rw [haw1]; decide), e9, e4] at hK
                    refine wp_fg (l := [(0, .ref 13), (1, .int (nI 0)), (2, .int (nI 0)), (3, .int (nI c)), (4, .int (nI (sn ||| 2 ^ 2))), (5, .int (nI (i + 1)))]) (e := [(6, .int (nI (rs_p S0))), (7, .int (nI (rs_iv B n 2 S0))), (8, .int (s1 3)), (9, .long (lN (rs_iv B n 4 S1))), (11, .int (nI 2))]) rfl rfl rfl ?_
                    refine ih (i + 1) _ _ _ N1 _ hT (fun hq => ?_) (by omega) (fun h' N' k1 k2 => hK h' N' k1 (fun hq => ?_))
                    · have q3 := sd_sg hS4 hq
                      have q4 := (sd_wc hS3 q3).2
                      have q5 := hN1 hq
                      rw [q4, g6, show fx_i 2 0 = 17 from rfl] at q5
                      subst q5
                      exact ⟨PQ_u hP (by decide) (by decide), NOf_2 hNO (by omega), sbt_s hsn (by decide) (by decide) (by omega), RCI_eq hRC (pk_un (by decide)) (fun q hq => pk_un (by omega)) rfl rfl (fun q hq => ct_n (by omega))⟩
                    · obtain ⟨q1, q2⟩ := k2 hq
                      refine ⟨q1, fun q hq9 => (q2 q hq9).trans ?_⟩
                      have q5 := hN1 (sd_fL hq)
                      rw [show fx_i 2 0 = 17 from rfl] at q5
                      rw [q5]
                      exact pk_un (by omega)
                · refine wp_iload dq_166_150 rfl ?_
                  refine wp_bipush (x := nI 7) dq_166_152 rfl ?_
                  refine wp_ic_gtN (tgt := 171) dq_166_154 rfl (by omega) (by omega) (fun c6 => ?_) (fun c6 => ?_)
                  · refine wp_aload_n dq_166_171 rfl ?_
                    refine wp_iload dq_166_172 rfl ?_
                    refine wp_iload_n dq_166_174 rfl ?_
                    refine wp_lload dq_166_175 rfl ?_
                    refine wp_iload dq_166_177 rfl ?_
                    have hwx : w = 8 := by omega
                    rcases hwx with rfl
                    · refine wp_cv4 (P := fun v h' => v = none ∧ ∃ N', TR h' B n (rs_sg B n T 8 0 S3) N' z ∧ (snd (rs_sg B n T 8 0 S3) → N' = upd N (fx_i 8 0) (nI (if 8 = 2 then 1 else bu_U B (rs_p S3) 2)))) dq_166_179 mt_166_221 (ob_of (mw_0 hb)) ⟨by decide +kernel, by decide +kernel⟩ (Nat.le_of_ble_eq_true rfl) (Nat.le_of_ble_eq_true rfl) (c_fx8 (T := T) (d := d + 2) (hL := fun hq => hLL hq) (hl9 := hl9) (hb9 := by omega) (hP := fun _ => hP) (hT := hT) (hK := fun h' N' k1 k2 => ⟨rfl, N', k1, k2⟩)) (fun v9 h9 q9 => ?_)
                      obtain ⟨rfl, N1, hT, hN1⟩ := q9
                      generalize hS4 : rs_sg B n T 8 0 S3 = S4 at hT hN1
                      refine wp_iinc (y := nI (i + 1)) (lv' := [(0, .ref 13), (1, .int (nI 0)), (2, .int (nI 0)), (3, .int (nI c)), (4, .int (nI (sn ||| 2 ^ 8))), (5, .int (nI (i + 1))), (6, .int (nI (rs_p S0))), (7, .int (nI (rs_iv B n 2 S0))), (8, .int (s1 3)), (9, .long (lN (rs_iv B n 4 S1))), (11, .int (nI 8))]) dq_166_182 rfl (nI_add _ _) (by decide) rfl ?_
                      refine wp_goto (tgt := 11) dq_166_185 rfl ?_
                      rw [rs_fL_s] at hK
                      have e9 : rs_at1 B n T 3 (16 * 3 + 0) 0 M S0 = S4 := at1_s (w := 8) e3 (fun _ => haw1) (by decide) (by decide) hS4
                      rw [rs_f1, if_neg (by rw [haw1]; decide), e9, e4] at hK
                      refine wp_fg (l := [(0, .ref 13), (1, .int (nI 0)), (2, .int (nI 0)), (3, .int (nI c)), (4, .int (nI (sn ||| 2 ^ 8))), (5, .int (nI (i + 1)))]) (e := [(6, .int (nI (rs_p S0))), (7, .int (nI (rs_iv B n 2 S0))), (8, .int (s1 3)), (9, .long (lN (rs_iv B n 4 S1))), (11, .int (nI 8))]) rfl rfl rfl ?_
                      refine ih (i + 1) _ _ _ N1 _ hT (fun hq => ?_) (by omega) (fun h' N' k1 k2 => hK h' N' k1 (fun hq => ?_))
                      · have q3 := sd_sg hS4 hq
                        have q4 := (sd_wc hS3 q3).2
                        have q5 := hN1 hq
                        rw [q4, g6, show fx_i 8 0 = 19 from rfl] at q5
                        subst q5
                        exact ⟨PQ_u hP (by decide) (by decide), NOf_8 hNO (by omega), sbt_s hsn (by decide) (by decide) (by omega), RCI_eq hRC (pk_un (by decide)) (fun q hq => pk_un (by omega)) rfl rfl (fun q hq => ct_n (by omega))⟩
                      · obtain ⟨q1, q2⟩ := k2 hq
                        refine ⟨q1, fun q hq9 => (q2 q hq9).trans ?_⟩
                        have q5 := hN1 (sd_fL hq)
                        rw [show fx_i 8 0 = 19 from rfl] at q5
                        rw [q5]
                        exact pk_un (by omega)
                  · refine wp_aload_n dq_166_157 rfl ?_
                    refine wp_iload dq_166_158 rfl ?_
                    refine wp_iload_n dq_166_160 rfl ?_
                    refine wp_lload dq_166_161 rfl ?_
                    refine wp_iload dq_166_163 rfl ?_
                    refine wp_cv4 (P := fun v h' => v = none ∧ ∃ N', TR h' B n (rs_li B n T w S3) N' z ∧ (snd (rs_li B n T w S3) → N' = upd (upd N (f4 w 0) (nI (bu_U B (rs_p S3) 2))) (f4 w 0 + 1) (nI (rs_p S3 + 2)))) dq_166_165 mt_166_217 (ob_of (mw_0 hb)) ⟨by decide +kernel, by decide +kernel⟩ (Nat.le_of_ble_eq_true rfl) (Nat.le_of_ble_eq_true rfl) (c_mli (T := T) (d := d + 4) (hw := by omega) (hL := fun hq => hLL hq) (hl9 := hl9) (hb9 := by omega) (hP := fun _ => hP) (hT := hT) (hK := fun h' N' k1 k2 => ⟨rfl, N', k1, k2⟩)) (fun v9 h9 q9 => ?_)
                    obtain ⟨rfl, N1, hT, hN1⟩ := q9
                    generalize hS4 : rs_li B n T w S3 = S4 at hT hN1
                    refine wp_goto (tgt := 182) dq_166_168 rfl ?_
                    refine wp_iinc (y := nI (i + 1)) (lv' := [(0, .ref 13), (1, .int (nI 0)), (2, .int (nI 0)), (3, .int (nI c)), (4, .int (nI (sn ||| 2 ^ w))), (5, .int (nI (i + 1))), (6, .int (nI (rs_p S0))), (7, .int (nI (rs_iv B n 2 S0))), (8, .int (s1 3)), (9, .long (lN (rs_iv B n 4 S1))), (11, .int (nI w))]) dq_166_182 rfl (nI_add _ _) (by decide) rfl ?_
                    refine wp_goto (tgt := 11) dq_166_185 rfl ?_
                    have w5 : 5 ≤ w ∧ w ≤ 7 := by omega
                    have f5 : f4 w 0 = 2 * w - 3 := if_neg (by omega)
                    have e5 : 9 * (16 * 3 + 0) + (w - 1) = 431 + w := by omega
                    rw [rs_fL_s] at hK
                    have e9 : rs_at1 B n T 3 (16 * 3 + 0) 0 M S0 = S4 := at1_l (w := w) e3 (fun _ => haw1) (by omega) hS4
                    rw [rs_f1, if_neg (by omega), e9, e4] at hK
                    refine wp_fg (l := [(0, .ref 13), (1, .int (nI 0)), (2, .int (nI 0)), (3, .int (nI c)), (4, .int (nI (sn ||| 2 ^ w))), (5, .int (nI (i + 1)))]) (e := [(6, .int (nI (rs_p S0))), (7, .int (nI (rs_iv B n 2 S0))), (8, .int (s1 3)), (9, .long (lN (rs_iv B n 4 S1))), (11, .int (nI w))]) rfl rfl rfl ?_
                    refine ih (i + 1) _ _ _ N1 _ hT (fun hq => ?_) (by omega) (fun h' N' k1 k2 => hK h' N' k1 (fun hq => ?_))
                    · have q3 := sd_li hS4 hq
                      have q4 := (sd_wc hS3 q3).2
                      have q5 := hN1 hq
                      rw [q4, g6, f5] at q5
                      subst q5
                      have q6 := NOf_l (p := rs_p S0 + 6) w5 hNO (by omega)
                      rw [← e5] at q6
                      exact ⟨PQ_u (PQ_u hP (by omega) (by omega)) (by omega) (by omega), q6, sbt_s hsn (by omega) (by omega) (by omega), RCI_eq hRC ((pk_un (by omega)).trans (pk_un (by omega))) (fun q hq => (pk_un (by omega)).trans (pk_un (by omega))) rfl rfl (fun q hq => ct_n (by omega))⟩
                    · obtain ⟨q1, q2⟩ := k2 hq
                      refine ⟨q1, fun q hq9 => (q2 q hq9).trans ?_⟩
                      have q5 := hN1 (sd_fL hq)
                      rw [f5] at q5
                      rw [q5, pk_un (by omega), pk_un (by omega)]
              · refine wp_aload_n dq_166_133 rfl ?_
                refine wp_lload dq_166_134 rfl ?_
                refine wp_iload dq_166_136 rfl ?_
                have w9 : w = 9 := c4
                subst w9
                have hq3z : snd S3 → M.ct 440 = 0 := fun hq => beq_iff_eq.mp (sd_wc hS3 hq).1
                refine wp_cv2 (P := fun v h' => v = none ∧ ∃ N', TR h' B n (rs_rc B n T S3 (mb_ah B n T 3 (16 * 3 + 0) S0 M)).1 N' z ∧ (snd (rs_rc B n T S3 (mb_ah B n T 3 (16 * 3 + 0) S0 M)).1 → PQ B n T N' ∧ (∀ i, i < rs_iv B n 2 S3 → NK B T N' (rs_rc B n T S3 (mb_ah B n T 3 (16 * 3 + 0) S0 M)).2 2 i (360 + 8 * i)) ∧ N' 15 = nI (rs_iv B n 2 S3) ∧ N' 18 = nI 1 ∧ (∀ q, (q < 360 ∨ 488 ≤ q) → q ≠ 15 → q ≠ 18 → N' q = N q) ∧ rs_iv B n 2 S3 ≤ 16)) dq_166_138 mt_166_213 (ob_of (mw_0 hb)) ⟨by decide +kernel, by decide +kernel⟩ (Nat.le_of_ble_eq_true rfl) (Nat.le_of_ble_eq_true rfl) (c_parts (d := d) (T := T) hT (fun hq => hLL hq) hl9 (fun hq => ⟨hP, fun q h1 h2 => ?_⟩) (fun h' N' k1 k2 => ⟨rfl, N', k1, k2⟩)) (fun v9 h9 q9 => ?_)
                · rw [e4, ct_n (by omega)]
                  exact (hRC.1 (hq3z hq)).2 q h1 (by omega)
                obtain ⟨rfl, N1, hT, hN1⟩ := q9
                refine wp_goto (tgt := 182) dq_166_141 rfl ?_
                refine wp_iinc (y := nI (i + 1)) (lv' := [(0, .ref 13), (1, .int (nI 0)), (2, .int (nI 0)), (3, .int (nI c)), (4, .int (nI (sn ||| 2 ^ 9))), (5, .int (nI (i + 1))), (6, .int (nI (rs_p S0))), (7, .int (nI (rs_iv B n 2 S0))), (8, .int (s1 3)), (9, .long (lN (rs_iv B n 4 S1))), (11, .int (nI 9))]) dq_166_182 rfl (nI_add _ _) (by decide) rfl ?_
                refine wp_goto (tgt := 11) dq_166_185 rfl ?_
                rw [rs_fL_s] at hK
                rw [rs_f1, if_pos haw1, e3] at hK
                refine wp_fg (l := [(0, .ref 13), (1, .int (nI 0)), (2, .int (nI 0)), (3, .int (nI c)), (4, .int (nI (sn ||| 2 ^ 9))), (5, .int (nI (i + 1)))]) (e := [(6, .int (nI (rs_p S0))), (7, .int (nI (rs_iv B n 2 S0))), (8, .int (s1 3)), (9, .long (lN (rs_iv B n 4 S1))), (11, .int (nI 9))]) rfl rfl rfl ?_
                refine ih (i + 1) _ _ _ N1 _ hT (fun hq => ?_) (by omega) (fun h' N' k1 k2 => hK h' N' k1 (fun hq => ?_))
                · obtain ⟨r1, r2, r3, r4, r5, r6⟩ := hN1 hq
                  have q3 := (rc_ct hq).2
                  have q4 := hq3z q3
                  have q5 : (mb_ah B n T 3 (16 * 3 + 0) S0 M).c 2 = 0 := by rw [e4]; exact (hRC.1 q4).1
                  obtain ⟨u1, u2, u3, u4, u5⟩ := rc_o hq q5
                  have u6 : ∀ q, 432 ≤ q → q < 440 → (rs_rc B n T S3 (mb_ah B n T 3 (16 * 3 + 0) S0 M)).2.ct q = M.ct q := fun q a1 a2 => by rw [u1 q (by omega), e4, ct_n (by omega)]
                  have u7 : (rs_rc B n T S3 (mb_ah B n T 3 (16 * 3 + 0) S0 M)).2.ct 440 = rs_p S0 + 6 := by rw [u1 440 (by omega), e4]; exact ct_s
                  refine ⟨r1, NOf_9 hNO r4 (fun q a1 a2 a3 => r5 q (by omega) a2 a3) u6 (by rw [u7]; omega), ?_, ⟨fun r => ?_, by rw [r3, u2], fun i hi => r2 i (by rw [← u2]; exact hi), by rw [u2]; exact u3⟩⟩
                  · have q8 := sbt_s (w := 9) (p := rs_p S0 + 6) hsn (by decide) (by decide) (by omega)
                    refine ⟨q8.1, fun v a1 a2 => ?_⟩
                    rw [q8.2 v a1 a2, u1 _ (by omega), e4]
                    exact Iff.rfl
                  · rw [u7] at r
                    omega
                · obtain ⟨q1, q2⟩ := k2 hq
                  obtain ⟨r1, r2, r3, r4, r5, r6⟩ := hN1 (sd_fL hq)
                  exact ⟨q1, fun q hq9 => (q2 q hq9).trans (r5 q (by omega) (by omega) (by omega))⟩
            refine wp_iload dq_166_99 rfl ?_
            refine wp_iload dq_166_101 rfl ?_
            refine wp_seen dq_166_103 dq_166_104 dq_166_105 (by omega) (by omega) ?_
            have hz2 := Nat.mod_lt (sn / 2 ^ w) (show 0 < 2 by decide)
            refine wp_if_eqN (tgt := 117) dq_166_106 rfl (by omega) (fun c7 => ?_) (fun c7 => ?_)
            · exact hj99 _ (by rw [w_T (fun hq => beq_iff_eq.mpr ((sbt_z hsn hkw.1 hkw.2.1).mp c7))]; exact hT)
            · refine wp_aload_n dq_166_109 rfl ?_
              refine wp_bipush (x := nI 9) dq_166_110 rfl ?_
              refine wp_iload dq_166_112 rfl ?_
              refine wp_cv2 (P := fun v h' => v = none ∧ TR h' B n (rs_w false 9 (rs_p S0) S2) N z) dq_166_114 mt_166_122 (ob_of (mw_0 hb)) ⟨by decide +kernel, by decide +kernel⟩ (Nat.le_of_ble_eq_true rfl) (Nat.le_of_ble_eq_true rfl) (c_fail hT (by decide) (fun hq => rfl) (fun h' k1 => ⟨rfl, k1⟩)) (fun v9 h9 q9 => ?_)
              obtain ⟨rfl, hT⟩ := q9
              exact hj99 _ (by rw [w_F (fun hq => beq_eq_false_iff_ne.mpr (fun r => c7 ((sbt_z hsn hkw.1 hkw.2.1).mpr r)))]; exact hT)
          · refine wp_aload_n dq_166_75 rfl ?_
            refine wp_lload dq_166_76 rfl ?_
            have haw0 : ah_w B n T 3 S0 = 0 := by rw [haw, if_neg (by rw [c3]; decide)]
            refine wp_cv1 (P := fun v h' => v = some (.int (bI (rsb (rs_ro n (rs_iv B n 4 S1) S2)))) ∧ TR h' B n (rs_ro n (rs_iv B n 4 S1) S2) N z) dq_166_78 mt_166_126 (ob_of (mw_0 hb)) ⟨by decide +kernel, by decide +kernel⟩ (Nat.le_of_ble_eq_true rfl) (Nat.le_of_ble_eq_true rfl) (c_room hT (by omega) (fun h' k1 => ⟨rfl, k1⟩)) (fun v9 h9 q9 => ?_)
            obtain ⟨rfl, hT⟩ := q9
            generalize hS3 : rs_ro n (rs_iv B n 4 S1) S2 = S3 at hT
            obtain ⟨s3, fa3, hb, hz3, hc3, hp3⟩ := TR_x hT
            refine wp_if_eqB (tgt := 182) dq_166_81 rfl (fun c8 => ?_) (fun c8 => ?_)
            · refine wp_iinc (y := nI (i + 1)) (lv' := [(0, .ref 13), (1, .int (nI 0)), (2, .int (nI 0)), (3, .int (nI c)), (4, .int (nI sn)), (5, .int (nI (i + 1))), (6, .int (nI (rs_p S0))), (7, .int (nI (rs_iv B n 2 S0))), (8, .int (s1 3)), (9, .long (lN (rs_iv B n 4 S1))), (11, .int (nI w))]) dq_166_182 rfl (nI_add _ _) (by decide) rfl ?_
              refine wp_goto (tgt := 11) dq_166_185 rfl ?_
              rw [rs_fL_s] at hK
              have e9 : rs_at1 B n T 3 (16 * 3 + 0) 0 M S0 = S3 := at1_n (by rw [(ah_0 haw0).1, g7, e2, ← sk_is (by rw [hS3]; exact c8), hS3]) (fun _ => haw0)
              rw [rs_f1, if_neg (by rw [haw0]; decide), e9, (ah_0 haw0).2] at hK
              refine wp_fg (l := [(0, .ref 13), (1, .int (nI 0)), (2, .int (nI 0)), (3, .int (nI c)), (4, .int (nI sn)), (5, .int (nI (i + 1)))]) (e := [(6, .int (nI (rs_p S0))), (7, .int (nI (rs_iv B n 2 S0))), (8, .int (s1 3)), (9, .long (lN (rs_iv B n 4 S1))), (11, .int (nI w))]) rfl rfl rfl ?_
              exact ih (i + 1) sn _ M N _ hT (fun _ => ⟨hP, hNO, hsn, hRC⟩) (by omega) hK
            · obtain ⟨k1, k2, k3, k4⟩ := sk_ok (n := n) (k := rs_iv B n 4 S1) (S := S2) (by rw [hS3]; exact c8)
              have e3 : S3 = .inl (rs_p S2) := by rw [← hS3, k1]; exact snd_p k2
              rw [e3] at hT
              have ho := mw_0 hb
              rw [hp3 (by rw [e3]; exact snd_l _), show rs_p S3 = rs_p S2 by rw [e3]; rfl] at ho
              refine wp_aload_n dq_166_84 rfl ?_
              refine wp_dup dq_166_85 rfl ?_
              refine wp_getf (w := .int (nI (rs_p S2))) dq_166_86 fl_166_119 ho rfl ?_
              refine wp_lload dq_166_89 rfl ?_
              refine wp_l2iN dq_166_91 ?_
              refine wp_iaddN dq_166_92 ?_
              refine wp_tat dq_166_93 fp_166_119 hT k3 (fun h hT => ?_)
              rw [← k4] at hT
              refine wp_goto (tgt := 182) dq_166_96 rfl ?_
              refine wp_iinc (y := nI (i + 1)) (lv' := [(0, .ref 13), (1, .int (nI 0)), (2, .int (nI 0)), (3, .int (nI c)), (4, .int (nI sn)), (5, .int (nI (i + 1))), (6, .int (nI (rs_p S0))), (7, .int (nI (rs_iv B n 2 S0))), (8, .int (s1 3)), (9, .long (lN (rs_iv B n 4 S1))), (11, .int (nI w))]) dq_166_182 rfl (nI_add _ _) (by decide) rfl ?_
              refine wp_goto (tgt := 11) dq_166_185 rfl ?_
              rw [rs_fL_s] at hK
              have e9 : rs_at1 B n T 3 (16 * 3 + 0) 0 M S0 = rs_is n (rs_iv B n 4 S1) S2 := at1_n (by rw [(ah_0 haw0).1, g7, e2]) (fun _ => haw0)
              rw [rs_f1, if_neg (by rw [haw0]; decide), e9, (ah_0 haw0).2] at hK
              refine wp_fg (l := [(0, .ref 13), (1, .int (nI 0)), (2, .int (nI 0)), (3, .int (nI c)), (4, .int (nI sn)), (5, .int (nI (i + 1)))]) (e := [(6, .int (nI (rs_p S0))), (7, .int (nI (rs_iv B n 2 S0))), (8, .int (s1 3)), (9, .long (lN (rs_iv B n 4 S1))), (11, .int (nI w))]) rfl rfl rfl ?_
              exact ih (i + 1) sn _ M N _ hT (fun _ => ⟨hP, hNO, hsn, hRC⟩) (by omega) hK
        · obtain ⟨e0, rfl⟩ : ∃ e, S2 = .inr e := by
            rcases snd_or S2 with r | r
            · exact absurd (hc2.mpr r) c2
            · exact r
          have e9 := f1_e (M := M) (ah_bad (kd := 3) (o := 16 * 3 + 0) (M := M) e2)
          rw [rs_fL_s, e9] at hK
          exact wp_vre dq_166_57 rfl (hK _ N (by rw [rs_fL_e]; exact hT) (fun hq => absurd hq (by rw [rs_fL_e]; exact not_snd)))
    · obtain ⟨s0, fa0, hb, -, hc0, -⟩ := TR_x hT
      refine wp_iload dq_166_11 rfl ?_
      refine wp_iload_n dq_166_13 rfl ?_
      refine wp_ic_geN (tgt := 188) dq_166_14 rfl (by omega) (by omega) (fun c1 => absurd c1 (by omega)) (fun c1 => ?_)
      refine wp_aload_n dq_166_17 rfl ?_
      refine wp_getf dq_166_18 fl_166_116 (mw_0 hb) rfl ?_
      refine wp_if_ne (tgt := 188) dq_166_21 rfl (fun c1 => ?_) (fun c1 => absurd (hc0.mp c1) not_snd)
      exact wp_vre dq_166_188 rfl (hK h N (by rw [rs_fL_e]; exact hT) (fun hq => absurd hq (by rw [rs_fL_e]; exact not_snd)))
set_option maxRecDepth 100000 in
theorem c_tabf {L : Nat} {xs : Nat → Int32} {d n : Nat} {B T : Nat → Nat} {N : Nat → Int32} {z : rZ} {S0 : rS} {h : List qx_E} {Q : Option Value → List qx_E → Prop} {M : rM} (hT : TR h B n S0 N z) (hI : snd S0 → PQ B n T N ∧ NOf B N M ∧ (∀ w, 1 ≤ w → w ≤ 9 → M.ct (9 * (16 * 3 + 0) + (w - 1)) = 0) ∧ RCI B T N M) (hK : ∀ h' N', TR h' B n (rs_ft B n T S0 M).1 N' z → (snd (rs_ft B n T S0 M).1 → (NOf B N' (rs_ft B n T S0 M).2 ∧ RCI B T N' (rs_ft B n T S0 M).2 ∧ PQ B n T N') ∧ ∀ q, (q < 7 ∨ q = 13 ∨ q = 14 ∨ (20 ≤ q ∧ q < 360)) → N' q = N q) → Q none h') : wp_W L xs (d + 9) 166 0 (lv_args 0 [.ref 13, .int (nI 0), .int (nI 0)]) [] h Q := by
  rw [rs_ft] at hK
  show wp_W L xs _ 166 0 [(0, .ref 13), (1, .int (nI 0)), (2, .int (nI 0))] [] h Q
  obtain ⟨s0, fa0, hb, hz0, hc0, hp0⟩ := TR_x hT
  refine wp_aload_n dq_166_0 rfl ?_
  refine wp_cv0 (P := fun v h' => v = some (.int (nI (rs_iv B n 2 S0))) ∧ TR h' B n (rs_is n 2 S0) N z) dq_166_1 mt_166_134 (ob_of (mw_0 hb)) ⟨by decide +kernel, by decide +kernel⟩ (Nat.le_of_ble_eq_true rfl) (Nat.le_of_ble_eq_true rfl) (c_u2 hT (fun h' k1 => ⟨rfl, k1⟩)) (fun v9 h9 q9 => ?_)
  obtain ⟨rfl, hT⟩ := q9
  generalize hS1 : rs_is n 2 S0 = S1 at hT
  obtain ⟨s1, fa1, hb, hz1, hc1, hp1⟩ := TR_x hT
  have hv1 : rs_iv B n 2 S0 < 65536 := TR_v hT
  refine wp_istore_n (lv' := [(0, .ref 13), (1, .int (nI 0)), (2, .int (nI 0)), (3, .int (nI (rs_iv B n 2 S0)))]) dq_166_4 (by decide) rfl ?_
  refine wp_iconst (x := nI 0) dq_166_5 rfl ?_
  refine wp_istore (lv' := [(0, .ref 13), (1, .int (nI 0)), (2, .int (nI 0)), (3, .int (nI (rs_iv B n 2 S0))), (4, .int (nI 0))]) dq_166_6 (by decide) rfl ?_
  refine wp_iconst (x := nI 0) dq_166_8 rfl ?_
  refine wp_istore (lv' := [(0, .ref 13), (1, .int (nI 0)), (2, .int (nI 0)), (3, .int (nI (rs_iv B n 2 S0))), (4, .int (nI 0)), (5, .int (nI 0))]) dq_166_9 (by decide) rfl ?_
  refine c_tfL (d := d) (T := T) hv1 (rs_iv B n 2 S0) 0 0 S1 M N _ hT (fun hq => ?_) (by omega) (by rw [← hS1]; exact hK)
  obtain ⟨q1, q2, q3, q4⟩ := hI (sd_is hS1 hq)
  exact ⟨q1, q2, sbt_0 q3, q4⟩
