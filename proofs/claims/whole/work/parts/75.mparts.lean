theorem mU4 (N : Nat → Int32) (b : Nat) (x1 x2 : Int32) : (upd (upd (upd (upd N (b + 3) (nI 0)) (b + 4) (nI 0)) (b + 1) x1) (b + 2) x2) (b + 1) = x1 ∧ (upd (upd (upd (upd N (b + 3) (nI 0)) (b + 4) (nI 0)) (b + 1) x1) (b + 2) x2) (b + 2) = x2 ∧ (upd (upd (upd (upd N (b + 3) (nI 0)) (b + 4) (nI 0)) (b + 1) x1) (b + 2) x2) (b + 3) = nI 0 ∧ (upd (upd (upd (upd N (b + 3) (nI 0)) (b + 4) (nI 0)) (b + 1) x1) (b + 2) x2) (b + 4) = nI 0 ∧ ∀ q, (q < b ∨ b + 8 ≤ q) → (upd (upd (upd (upd N (b + 3) (nI 0)) (b + 4) (nI 0)) (b + 1) x1) (b + 2) x2) q = N q := by
  refine ⟨?_, ?_, ?_, ?_, fun q hq => ?_⟩
  · rw [pk_un (by omega), pk_us]
  · rw [pk_us]
  · rw [pk_un (by omega), pk_un (by omega), pk_un (by omega), pk_us]
  · rw [pk_un (by omega), pk_un (by omega), pk_us]
  · rw [pk_un (by omega), pk_un (by omega), pk_un (by omega), pk_un (by omega)]
theorem r1_o (B : Nat → Nat) (n : Nat) (T : Nat → Nat) (k : Nat) (S : rS) (M : rM) : (∀ q, q ≠ 32 + k → (rs_r1 B n T k S M).2.np q = M.np q) ∧ (∀ q, (q < 9 * (32 + k) ∨ 9 * (32 + k) + 9 ≤ q) → (rs_r1 B n T k S M).2.ct q = M.ct q) ∧ (rs_r1 B n T k S M).2.c 2 = k + 1 ∧ ∀ i, i ≠ 2 → (rs_r1 B n T k S M).2.c i = M.c i := by
  refine ⟨fun q hq => ?_, fun q hq => ?_, ?_, fun i hi => ?_⟩
  · unfold rs_r1
    rw [(tb_c ..).2]
    exact updN_n hq
  · unfold rs_r1 rs_tb
    rw [tbL_ct (by omega)]
    rfl
  · unfold rs_r1
    rw [(tb_c ..).1]
    exact nt_c ..
  · unfold rs_r1
    rw [(tb_c ..).1]
    exact updN_n hi
theorem rcL_o (B : Nat → Nat) (n : Nat) (T : Nat → Nat) : ∀ j k S M, (∀ q, (q < 32 + k ∨ 32 + k + j ≤ q) → (rs_rcL B n T j k S M).2.np q = M.np q) ∧ (∀ q, (q < 9 * (32 + k) ∨ 9 * (32 + k + j) ≤ q) → (rs_rcL B n T j k S M).2.ct q = M.ct q) ∧ (M.c 2 = k → (rs_rcL B n T j k S M).2.c 2 = k + j) ∧ ∀ i, i ≠ 2 → (rs_rcL B n T j k S M).2.c i = M.c i
  | 0, k, S, M => ⟨fun _ _ => rfl, fun _ _ => rfl, fun h => h, fun _ _ => rfl⟩
  | j + 1, k, S, M => by
    obtain ⟨a1, a2, a3, a4⟩ := r1_o B n T k S M
    obtain ⟨b1, b2, b3, b4⟩ := rcL_o B n T j (k + 1) (rs_r1 B n T k S M).1 (rs_r1 B n T k S M).2
    rw [rs_rcL_s]
    refine ⟨fun q hq => (b1 q (by omega)).trans (a1 q (by omega)), fun q hq => (b2 q (by omega)).trans (a2 q (by omega)), fun _ => ?_, fun i hi => (b4 i hi).trans (a4 i hi)⟩
    rw [b3 a3]
    omega
theorem sd_r1 {B : Nat → Nat} {n : Nat} {T : Nat → Nat} {k : Nat} {S : rS} {M : rM} (h : snd (rs_r1 B n T k S M).1) : snd S := by
  unfold rs_r1 at h
  exact sd_nt rfl (sd_tb rfl h)
set_option maxRecDepth 100000 in
theorem c_prL {L : Nat} {xs : Nat → Int32} {d n : Nat} {B T : Nat → Nat} {z : rZ} {Q : Option Value → List qx_E → Prop} {ln c : Nat} {lp y : Int32} (hc9 : c < 65536) : ∀ j k S0 M N (h : List qx_E), TR h B n S0 N z → (snd S0 → PQ B n T N ∧ c ≤ 16 ∧ (∀ i, i < k → NK B T N M 2 i (360 + 8 * i)) ∧ ∀ q, 9 * (32 + k) ≤ q → q < 9 * 48 → M.ct q = 0) → k + j = c → (∀ h' N', TR h' B n (rs_rcL B n T j k S0 M).1 N' z → (snd (rs_rcL B n T j k S0 M).1 → PQ B n T N' ∧ (∀ i, i < c → NK B T N' (rs_rcL B n T j k S0 M).2 2 i (360 + 8 * i)) ∧ ∀ q, (q < 360 ∨ 488 ≤ q) → N' q = N q) → wp_W L xs (d + 8) 168 163 [(0, .ref 13), (1, .long (lN ln)), (3, .int lp), (4, .int y)] [] h' Q) → wp_W L xs (d + 8) 168 47 [(0, .ref 13), (1, .long (lN ln)), (3, .int lp), (4, .int y), (5, .int (nI c)), (6, .int (nI k))] [] h Q := by
  intro j
  induction j with
  | zero =>
    intro k S0 M N h hT hI hi hK
    refine wp_iload dq_168_47 rfl ?_
    refine wp_iload dq_168_49 rfl ?_
    refine wp_ic_geN (tgt := 163) dq_168_51 rfl (by omega) (by omega) (fun c1 => ?_) (fun c1 => absurd c1 (by omega))
    refine wp_fg (l := [(0, .ref 13), (1, .long (lN ln)), (3, .int lp), (4, .int y)]) (e := [(5, .int (nI c)), (6, .int (nI k))]) rfl rfl rfl ?_
    exact hK h N hT (fun hq => by
      obtain ⟨q1, q2, q3, q4⟩ := hI hq
      exact ⟨q1, fun i hi => q3 i (by omega), fun _ _ => rfl⟩)
  | succ j ih =>
    intro k S0 M N h hT hI hi hK
    rcases snd_or S0 with hs | ⟨e, rfl⟩
    · obtain ⟨hP, hc16, hNK, hz⟩ := hI hs
      have hpn := TR_pn hT
      have hn9 := TR_n hT
      obtain ⟨s0, fa0, hb, hz0, hc0, hp0⟩ := TR_x hT
      obtain ⟨s0, fa0, hb, hz0, hc0, hp0⟩ := TR_x hT
      have ho := mw_0 hb
      rw [hp0 hs, hc0.mpr hs] at ho
      refine wp_iload dq_168_47 rfl ?_
      refine wp_iload dq_168_49 rfl ?_
      refine wp_ic_geN (tgt := 163) dq_168_51 rfl (by omega) (by omega) (fun c1 => ?_) (fun c1 => ?_)
      · exact absurd c1 (by omega)
      · refine wp_aload_n dq_168_54 rfl ?_
        refine wp_getf (w := .int (nI 0)) dq_168_55 fl_168_116 ho rfl ?_
        refine wp_if_neN (tgt := 163) dq_168_58 rfl (by omega) (fun c9 => absurd c9 (by decide)) (fun _ => ?_)
        refine wp_sipush (x := nI 360) dq_168_61 rfl ?_
        refine wp_bipush (x := nI 8) dq_168_64 rfl ?_
        refine wp_iload dq_168_66 rfl ?_
        refine wp_imulN dq_168_68 ?_
        refine wp_iaddN dq_168_69 ?_
        refine wp_istore (lv' := [(0, .ref 13), (1, .long (lN ln)), (3, .int lp), (4, .int y), (5, .int (nI c)), (6, .int (nI k)), (7, .int (nI (360 + (8 * k))))]) dq_168_70 (by decide) rfl ?_
        refine wp_aload_n dq_168_72 rfl ?_
        refine wp_getf (w := .int (nI (rs_p S0))) dq_168_73 fl_168_119 ho rfl ?_
        refine wp_istore (lv' := [(0, .ref 13), (1, .long (lN ln)), (3, .int lp), (4, .int y), (5, .int (nI c)), (6, .int (nI k)), (7, .int (nI (360 + (8 * k)))), (8, .int (nI (rs_p S0)))]) dq_168_76 (by decide) rfl ?_
        refine wp_aload_n dq_168_78 rfl ?_
        refine wp_getf (w := .ref 15) dq_168_79 fl_168_13 ho rfl ?_
        refine wp_iload dq_168_82 rfl ?_
        refine wp_iconst (x := nI 3) dq_168_84 rfl ?_
        refine wp_iaddN dq_168_85 ?_
        refine wp_iconst (x := nI 0) dq_168_86 rfl ?_
        refine wp_tn dq_168_87 (by omega) hT (fun h hT => ?_)
        obtain ⟨s0, fa0, hb, hz0, hc0, hp0⟩ := TR_x hT
        have ho := mw_0 hb
        rw [hp0 hs, hc0.mpr hs] at ho
        refine wp_aload_n dq_168_88 rfl ?_
        refine wp_getf (w := .ref 15) dq_168_89 fl_168_13 ho rfl ?_
        refine wp_iload dq_168_92 rfl ?_
        refine wp_iconst (x := nI 4) dq_168_94 rfl ?_
        refine wp_iaddN dq_168_95 ?_
        refine wp_iconst (x := nI 0) dq_168_96 rfl ?_
        refine wp_tn dq_168_97 (by omega) hT (fun h hT => ?_)
        obtain ⟨s0, fa0, hb, hz0, hc0, hp0⟩ := TR_x hT
        have ho := mw_0 hb
        rw [hp0 hs, hc0.mpr hs] at ho
        refine wp_aload_n dq_168_98 rfl ?_
        refine wp_getf (w := .ref 15) dq_168_99 fl_168_13 ho rfl ?_
        refine wp_iload dq_168_102 rfl ?_
        refine wp_iconst (x := nI 1) dq_168_104 rfl ?_
        refine wp_iaddN dq_168_105 ?_
        refine wp_aload_n dq_168_106 rfl ?_
        refine wp_cv0 (P := fun v h' => v = some (.int (nI (rs_iv B n 2 S0))) ∧ TR h' B n (rs_is n 2 S0) (upd (upd N ((360 + (8 * k)) + 3) (nI 0)) ((360 + (8 * k)) + 4) (nI 0)) z) dq_168_107 mt_168_134 (ob_of (mw_0 hb)) ⟨by decide +kernel, by decide +kernel⟩ (Nat.le_of_ble_eq_true rfl) (Nat.le_of_ble_eq_true rfl) (c_u2 hT (fun h' k1 => ⟨rfl, k1⟩)) (fun v9 h9 q9 => ?_)
        obtain ⟨rfl, hT⟩ := q9
        generalize hS1 : rs_is n 2 S0 = S1 at hT
        obtain ⟨s1, fa1, hb, hz1, hc1, hp1⟩ := TR_x hT
        have hv107 : rs_iv B n 2 S0 < 65536 := TR_v hT
        refine wp_tn dq_168_110 (by omega) hT (fun h hT => ?_)
        obtain ⟨s1, fa1, hb, hz1, hc1, hp1⟩ := TR_x hT
        refine wp_aload_n dq_168_111 rfl ?_
        refine wp_getf (w := .ref 15) dq_168_112 fl_168_13 (mw_0 hb) rfl ?_
        refine wp_iload dq_168_115 rfl ?_
        refine wp_iconst (x := nI 2) dq_168_117 rfl ?_
        refine wp_iaddN dq_168_118 ?_
        refine wp_aload_n dq_168_119 rfl ?_
        refine wp_cv0 (P := fun v h' => v = some (.int (nI (rs_iv B n 2 S1))) ∧ TR h' B n (rs_is n 2 S1) (upd (upd (upd N ((360 + (8 * k)) + 3) (nI 0)) ((360 + (8 * k)) + 4) (nI 0)) ((360 + (8 * k)) + 1) (nI (rs_iv B n 2 S0))) z) dq_168_120 mt_168_134 (ob_of (mw_0 hb)) ⟨by decide +kernel, by decide +kernel⟩ (Nat.le_of_ble_eq_true rfl) (Nat.le_of_ble_eq_true rfl) (c_u2 hT (fun h' k1 => ⟨rfl, k1⟩)) (fun v9 h9 q9 => ?_)
        obtain ⟨rfl, hT⟩ := q9
        generalize hS2 : rs_is n 2 S1 = S2 at hT
        obtain ⟨s2, fa2, hb, hz2, hc2, hp2⟩ := TR_x hT
        have hv120 : rs_iv B n 2 S1 < 65536 := TR_v hT
        refine wp_tn dq_168_123 (by omega) hT (fun h hT => ?_)
        obtain ⟨s2, fa2, hb, hz2, hc2, hp2⟩ := TR_x hT
        obtain ⟨hU1, hU2, hU3, hU4, hU8⟩ := mU4 N (360 + 8 * k) (nI (rs_iv B n 2 S0)) (nI (rs_iv B n 2 S1))
        generalize (upd (upd (upd (upd N ((360 + (8 * k)) + 3) (nI 0)) ((360 + (8 * k)) + 4) (nI 0)) ((360 + (8 * k)) + 1) (nI (rs_iv B n 2 S0))) ((360 + (8 * k)) + 2) (nI (rs_iv B n 2 S1))) = N8 at hT hU1 hU2 hU3 hU4 hU8
        have hP8 : PQ B n T N8 := PQ_c hP (hU8 2 (by omega)) (fun i h1 h2 => hU8 i (by omega))
        obtain ⟨s2, fa2, hb, hz2, hc2, hp2⟩ := TR_x hT
        have hv0 : rs_iv B n 2 S0 < 65536 := TR_v hT
        have hv1 : rs_iv B n 2 S1 < 65536 := TR_v hT
        refine wp_aload_n dq_168_124 rfl ?_
        refine wp_sipush (x := nI 360) dq_168_125 rfl ?_
        refine wp_iload dq_168_128 rfl ?_
        refine wp_aload_n dq_168_130 rfl ?_
        refine wp_getf (w := .ref 15) dq_168_131 fl_168_13 (mw_0 hb) rfl ?_
        refine wp_iload dq_168_134 rfl ?_
        refine wp_iconst (x := nI 1) dq_168_136 rfl ?_
        refine wp_iaddN dq_168_137 ?_
        refine wp_ialdV (z := (nI (rs_iv B n 2 S0))) dq_168_138 (mw_2 hb) (by omega) (by decide) (hU1) ?_
        refine wp_aload_n dq_168_139 rfl ?_
        refine wp_getf (w := .ref 15) dq_168_140 fl_168_13 (mw_0 hb) rfl ?_
        refine wp_iload dq_168_143 rfl ?_
        refine wp_iconst (x := nI 2) dq_168_145 rfl ?_
        refine wp_iaddN dq_168_146 ?_
        refine wp_ialdV (z := (nI (rs_iv B n 2 S1))) dq_168_147 (mw_2 hb) (by omega) (by decide) (hU2) ?_
        refine wp_cv4 (P := fun v h' => v = none ∧ TR h' B n (rs_J B T 2 (rs_iv B n 2 S0) (rs_iv B n 2 S1) (rs_p S0) S2) N8 z) dq_168_148 mt_168_193 (ob_of (mw_0 hb)) ⟨by decide +kernel, by decide +kernel⟩ (Nat.le_of_ble_eq_true rfl) (Nat.le_of_ble_eq_true rfl) (c_judge (d := d + 2) (T := T) (kd := 2) (p := rs_p S0) hT (Or.inr (Or.inr ⟨rfl, rfl⟩)) (fun hq => ⟨rfl, by omega, hP8⟩) hv0 hv1 (fun h' k1 => ⟨rfl, k1⟩)) (fun v9 h9 q9 => ?_)
        obtain ⟨rfl, hT⟩ := q9
        generalize hS3 : rs_J B T 2 (rs_iv B n 2 S0) (rs_iv B n 2 S1) (rs_p S0) S2 = S3 at hT
        obtain ⟨s3, fa3, hb, hz3, hc3, hp3⟩ := TR_x hT
        have e3 : rs_nt B n T 2 S0 = S3 := by rw [← J_nt (fun _ => rfl), hS1, hS2, hS3]
        refine wp_aload_n dq_168_151 rfl ?_
        refine wp_iload dq_168_152 rfl ?_
        have e5 : rs_r1 B n T k S0 M = rs_tb B n T 2 (32 + k) (tyO B (mb_nt 2 k S0 M) 2 k) S3 (mb_nt 2 k S0 M) := by rw [rs_r1, e3]
        refine wp_cv1 (P := fun v h' => v = none ∧ ∃ N', TR h' B n (rs_r1 B n T k S0 M).1 N' z ∧ (snd (rs_r1 B n T k S0 M).1 → NOm 2 B N' (rs_r1 B n T k S0 M).2 (32 + k) (360 + 8 * k) ∧ ∀ q, (q < 360 + 8 * k + 3 ∨ 360 + 8 * k + 5 ≤ q) → N' q = N8 q)) dq_168_154 mt_168_229 (ob_of (mw_0 hb)) ⟨by decide +kernel, by decide +kernel⟩ (Nat.le_of_ble_eq_true rfl) (Nat.le_of_ble_eq_true rfl) (c_part (d := d) (T := T) (o := 32 + k) (cty := tyO B (mb_nt 2 k S0 M) 2 k) (M := mb_nt 2 k S0 M) hT (by omega) (fun hq => ⟨hP8, ?_, fun w h1 h2 => hz _ (by omega) (by omega)⟩) (fun h' N' k1 k2 => ⟨rfl, N', by rw [e5]; exact k1, by rw [e5]; exact k2⟩)) (fun v9 h9 q9 => ?_)
        · have z0 := hz (9 * (32 + k)) (by omega) (by omega)
          have z1 := hz (9 * (32 + k) + 1) (by omega) (by omega)
          exact ⟨by rw [hU3]; unfold ctv; rw [show (mb_nt 2 k S0 M).ct = M.ct from rfl, if_pos z0], by rw [hU4, show (mb_nt 2 k S0 M).ct = M.ct from rfl, if_pos z1], fun r => absurd r (by decide), fun r => absurd r (by decide)⟩
        obtain ⟨rfl, N9, hT, hN9⟩ := q9
        refine wp_iinc (y := nI (k + 1)) (lv' := [(0, .ref 13), (1, .long (lN ln)), (3, .int lp), (4, .int y), (5, .int (nI c)), (6, .int (nI (k + 1))), (7, .int (nI (360 + (8 * k)))), (8, .int (nI (rs_p S0)))]) dq_168_157 rfl (nI_add _ _) (by decide) rfl ?_
        refine wp_goto (tgt := 47) dq_168_160 rfl ?_
        rw [rs_rcL_s] at hK
        obtain ⟨o1, o2, o3, o4⟩ := r1_o B n T k S0 M
        refine wp_fg (l := [(0, .ref 13), (1, .long (lN ln)), (3, .int lp), (4, .int y), (5, .int (nI c)), (6, .int (nI (k + 1)))]) (e := [(7, .int (nI (360 + (8 * k)))), (8, .int (nI (rs_p S0)))]) rfl rfl rfl ?_
        refine ih (k + 1) _ _ N9 _ hT (fun hq => ?_) (by omega) (fun h' N' k1 k2 => hK h' N' k1 (fun hq => ?_))
        · obtain ⟨r1, r2⟩ := hN9 hq
          have hq3 : snd S3 := by rw [e5] at hq; exact sd_tb rfl hq
          obtain ⟨j1, j2, j3, j4, j5, j6, j7, j8⟩ := sp_nt e3 hq3
          rw [hS1] at j5 j7
          have hM9 : (rs_r1 B n T k S0 M).2.np (16 * 2 + k) = rs_p S0 := by rw [e5, (tb_c ..).2]; exact updN_s
          refine ⟨PQ_c hP8 (r2 2 (by omega)) (fun i h1 h2 => r2 i (by omega)), hc16, fun i hi => ?_, fun q h1 h2 => (o2 q (by omega)).trans (hz q (by omega) h2)⟩
          rcases Nat.lt_or_ge i k with r | r
          · exact NK_eq (hNK i r) (fun j hj => (r2 _ (by omega)).trans (hU8 _ (by omega))) (o1 _ (by omega)) (fun w hw => o2 _ (by omega))
          · rw [show i = k by omega]
            refine ⟨?_, ?_, fun r => absurd r (by decide), r1, ?_, ?_⟩
            · rw [r2 _ (by omega), hU1, nmO, hM9, ← j4]
            · rw [r2 _ (by omega), hU2, tyO, hM9, ← j5]
            · rw [nmO, hM9, ← j4]
              exact j6
            · rw [tyO, hM9, ← j5]
              exact j7
        · obtain ⟨r3, r4, r5⟩ := k2 hq
          obtain ⟨r1, r2⟩ := hN9 ((sp_rcL hq).2)
          exact ⟨r3, r4, fun q hq9 => (r5 q hq9).trans ((r2 q (by omega)).trans (hU8 q (by omega)))⟩
    · obtain ⟨s0, fa0, hb, -, hc0, -⟩ := TR_x hT
      refine wp_iload dq_168_47 rfl ?_
      refine wp_iload dq_168_49 rfl ?_
      refine wp_ic_geN (tgt := 163) dq_168_51 rfl (by omega) (by omega) (fun c1 => absurd c1 (by omega)) (fun c1 => ?_)
      refine wp_aload_n dq_168_54 rfl ?_
      refine wp_getf dq_168_55 fl_168_116 (mw_0 hb) rfl ?_
      refine wp_if_ne (tgt := 163) dq_168_58 rfl (fun c1 => ?_) (fun c1 => absurd (hc0.mp c1) not_snd)
      refine wp_fg (l := [(0, .ref 13), (1, .long (lN ln)), (3, .int lp), (4, .int y)]) (e := [(5, .int (nI c)), (6, .int (nI k))]) rfl rfl rfl ?_
      exact hK h N (by rw [rs_rcL_e]; exact hT) (fun hq => absurd hq (by rw [rs_rcL_e]; exact not_snd))
set_option maxRecDepth 100000 in
theorem c_parts {L : Nat} {xs : Nat → Int32} {d n : Nat} {B T : Nat → Nat} {N : Nat → Int32} {z : rZ} {S0 : rS} {h : List qx_E} {Q : Option Value → List qx_E → Prop} {ln : Nat} {lp : Int32} {M : rM} (hT : TR h B n S0 N z) (hL : snd S0 → ln = bu_U B (rs_p S0 - 4) 4 ∧ lp = nI (rs_p S0 - 4)) (hl9 : ln < 4294967296) (hI : snd S0 → PQ B n T N ∧ ∀ q, 288 ≤ q → q < 9 * 48 → M.ct q = 0) (hK : ∀ h' N', TR h' B n (rs_rc B n T S0 M).1 N' z → (snd (rs_rc B n T S0 M).1 → PQ B n T N' ∧ (∀ i, i < rs_iv B n 2 S0 → NK B T N' (rs_rc B n T S0 M).2 2 i (360 + 8 * i)) ∧ N' 15 = nI (rs_iv B n 2 S0) ∧ N' 18 = nI 1 ∧ (∀ q, (q < 360 ∨ 488 ≤ q) → q ≠ 15 → q ≠ 18 → N' q = N q) ∧ rs_iv B n 2 S0 ≤ 16) → Q none h') : wp_W L xs (d + 8) 168 0 (lv_args 0 [.ref 13, .long (lN ln), .int lp]) [] h Q := by
  show wp_W L xs _ 168 0 [(0, .ref 13), (1, .long (lN ln)), (3, .int lp)] [] h Q
  obtain ⟨s0, fa0, hb, hz0, hc0, hp0⟩ := TR_x hT
  have hj0 : ∀ h, TR h B n (rs_w (decide (2 ≤ bu_U B (rs_p S0 - 4) 4)) 10 (rs_p S0 - 4) S0) N z → wp_W L xs (d + 8) 168 15 [(0, .ref 13), (1, .long (lN ln)), (3, .int lp)] ([]) h Q := by
    intro h hT
    generalize hS1 : rs_w (decide (2 ≤ bu_U B (rs_p S0 - 4) 4)) 10 (rs_p S0 - 4) S0 = S1 at hT
    obtain ⟨s1, fa1, hb, hz1, hc1, hp1⟩ := TR_x hT
    refine wp_aload_n dq_168_15 rfl ?_
    refine wp_getf (w := .int (s1 3)) dq_168_16 fl_168_119 (mw_0 hb) rfl ?_
    refine wp_istore (lv' := [(0, .ref 13), (1, .long (lN ln)), (3, .int lp), (4, .int (s1 3))]) dq_168_19 (by decide) rfl ?_
    refine wp_aload_n dq_168_21 rfl ?_
    refine wp_cv0 (P := fun v h' => v = some (.int (nI (rs_iv B n 2 S1))) ∧ TR h' B n (rs_w (decide (rs_iv B n 2 S1 ≤ 16)) 12 (rs_p S1) (rs_is n 2 S1)) N z) dq_168_22 mt_168_204 (ob_of (mw_0 hb)) ⟨by decide +kernel, by decide +kernel⟩ (Nat.le_of_ble_eq_true rfl) (Nat.le_of_ble_eq_true rfl) (c_few (d := d + 4) hT (fun h' k1 => ⟨rfl, k1⟩)) (fun v9 h9 q9 => ?_)
    obtain ⟨rfl, hT⟩ := q9
    generalize hS2 : rs_w (decide (rs_iv B n 2 S1 ≤ 16)) 12 (rs_p S1) (rs_is n 2 S1) = S2 at hT
    obtain ⟨s2, fa2, hb, hz2, hc2, hp2⟩ := TR_x hT
    have hv : rs_iv B n 2 S1 < 65536 := TR_v hT
    have e2 : rs_rc3 B n S0 = S2 := by
      rw [rs_rc3, rs_li1, hS1, ← hS2]
      rcases snd_or S1 with r | ⟨e, rfl⟩
      · rw [(sd_wc hS1 r).2]
      · rfl
    refine wp_istore (lv' := [(0, .ref 13), (1, .long (lN ln)), (3, .int lp), (4, .int (s1 3)), (5, .int (nI (rs_iv B n 2 S1)))]) dq_168_25 (by decide) rfl ?_
    refine wp_aload_n dq_168_27 rfl ?_
    refine wp_getf (w := .ref 15) dq_168_28 fl_168_13 (mw_0 hb) rfl ?_
    refine wp_bipush (x := nI 18) dq_168_31 rfl ?_
    refine wp_iconst (x := nI 1) dq_168_33 rfl ?_
    refine wp_tn dq_168_34 (by omega) hT (fun h hT => ?_)
    obtain ⟨s2, fa2, hb, hz2, hc2, hp2⟩ := TR_x hT
    refine wp_aload_n dq_168_35 rfl ?_
    refine wp_getf (w := .ref 15) dq_168_36 fl_168_13 (mw_0 hb) rfl ?_
    refine wp_bipush (x := nI 15) dq_168_39 rfl ?_
    refine wp_iload dq_168_41 rfl ?_
    refine wp_tn dq_168_43 (by omega) hT (fun h hT => ?_)
    obtain ⟨s2, fa2, hb, hz2, hc2, hp2⟩ := TR_x hT
    refine wp_iconst (x := nI 0) dq_168_44 rfl ?_
    refine wp_istore (lv' := [(0, .ref 13), (1, .long (lN ln)), (3, .int lp), (4, .int (s1 3)), (5, .int (nI (rs_iv B n 2 S1))), (6, .int (nI 0))]) dq_168_45 (by decide) rfl ?_
    have hq1 : snd S2 → snd S1 := fun hq => sd_is rfl (sd_w hS2 hq)
    refine c_prL (d := d) (T := T) hv (rs_iv B n 2 S1) 0 S2 M _ _ hT (fun hq => ?_) (by omega) (fun h N9 hT hN9 => ?_)
    · obtain ⟨q1, q2⟩ := hI (sd_w hS1 (hq1 hq))
      exact ⟨PQ_u (PQ_u q1 (by decide) (by decide)) (by decide) (by decide), of_decide_eq_true (sd_wc hS2 hq).1, fun i hi => by omega, fun q h1 h2 => q2 q (by omega) h2⟩
    have e4 : rs_rc4 B n T S0 M = rs_rcL B n T (rs_iv B n 2 S1) 0 S2 M := by rw [rs_rc4, e2, rs_li1, hS1]
    rw [← e4] at hT hN9
    have hq0 : snd (rs_rc4 B n T S0 M).1 → snd S0 := fun hq => (rc4_s hq).1
    have hle : snd (rs_rc4 B n T S0 M).1 → rs_p S0 ≤ rs_p (rs_rc4 B n T S0 M).1 := fun hq => (rc4_s hq).2
    have hyy : snd (rs_rc4 B n T S0 M).1 → s1 3 = nI (rs_p S0) := fun hq => by
      have q2 : snd S2 := by rw [e4] at hq; exact (sp_rcL hq).2
      rw [hp1 (hq1 q2), (sd_wc hS1 (hq1 q2)).2]
    have hKK : ∀ h', TR h' B n (rs_rc B n T S0 M).1 N9 z → Q none h' := fun h' k1 => hK h' N9 k1 (fun hq => by
      have hq3 : snd (rs_rc4 B n T S0 M).1 := sd_w rfl hq
      have hq4 := hq3
      rw [e4] at hq4
      obtain ⟨r1, r2, r3⟩ := hN9 hq3
      have g1 : S1 = S0 := (sd_wc hS1 (hq1 (sp_rcL hq4).2)).2
      rw [g1] at r2 r3
      exact ⟨r1, r2, (r3 15 (by decide)).trans pk_us, (r3 18 (by decide)).trans ((pk_un (by decide)).trans pk_us), fun q h1 h2 h3 => (r3 q h1).trans ((pk_un h2).trans (pk_un h3)), of_decide_eq_true (by have := (sd_wc hS2 (sp_rcL hq4).2).1; rw [g1] at this; exact this)⟩)
    have e9 : rs_rc B n T S0 M = (rs_w (bu_U B (rs_p S0 - 4) 4 == rs_p (rs_rc4 B n T S0 M).1 - rs_p S0) 10 (rs_p S0 - 4) (rs_rc4 B n T S0 M).1, (rs_rc4 B n T S0 M).2) := rfl
    rw [e9] at hKK
    dsimp only at hKK
    generalize (rs_rc4 B n T S0 M).1 = S3 at hT hq0 hle hyy hKK
    clear hN9
    obtain ⟨s3, fa3, hb, hz3, hc3, hp3⟩ := TR_x hT
    have hj163 : ∀ h, TR h B n (rs_w (bu_U B (rs_p S0 - 4) 4 == rs_p S3 - rs_p S0) 10 (rs_p S0 - 4) S3) N9 z → wp_W L xs (d + 8) 168 190 [(0, .ref 13), (1, .long (lN ln)), (3, .int lp), (4, .int (s1 3))] ([]) h Q := by
      intro h hT
      generalize hS4 : rs_w (bu_U B (rs_p S0 - 4) 4 == rs_p S3 - rs_p S0) 10 (rs_p S0 - 4) S3 = S4 at hT
      obtain ⟨s4, fa4, hb, hz4, hc4, hp4⟩ := TR_x hT
      exact wp_vre dq_168_190 rfl (hKK _ (by rw [hS4]; exact hT))
    refine wp_aload_n dq_168_163 rfl ?_
    refine wp_getf (w := .int (s3 4)) dq_168_164 fl_168_116 (mw_0 hb) rfl ?_
    refine wp_if_ne (tgt := 190) dq_168_167 rfl (fun c1 => ?_) (fun c1 => ?_)
    · exact hj163 _ (by rw [w_T (fun hq => absurd (hc3.mpr hq) c1)]; exact hT)
    · have hq3 : snd S3 := hc3.mp c1
      have ho := mw_0 hb
      rw [hp3 hq3] at ho
      rw [hyy hq3] at hj163 ⊢
      have hle3 := hle hq3
      have hpn3 := TR_pn hT
      have hn3 := TR_n hT
      refine wp_lload_n dq_168_170 rfl ?_
      refine wp_aload_n dq_168_171 rfl ?_
      refine wp_getf (w := .int (nI (rs_p S3))) dq_168_172 fl_168_119 ho rfl ?_
      refine wp_iload dq_168_175 rfl ?_
      refine wp_isubN dq_168_177 (by omega) ?_
      refine wp_i2lN dq_168_178 (by omega) ?_
      refine wp_lc_eqN (tgt := 190) dq_168_179 dq_168_180 rfl (by omega) (by omega) (fun c2 => ?_) (fun c2 => ?_)
      · exact hj163 _ (by rw [w_T (fun hq => by rw [← (hL (hq0 hq)).1]; exact beq_iff_eq.mpr c2)]; exact hT)
      · refine wp_aload_n dq_168_183 rfl ?_
        refine wp_bipush (x := nI 10) dq_168_184 rfl ?_
        refine wp_iload_n dq_168_186 rfl ?_
        refine wp_cv2 (P := fun v h' => v = none ∧ TR h' B n (rs_w false 10 (rs_p S0 - 4) S3) N9 z) dq_168_187 mt_168_122 (ob_of (mw_0 hb)) ⟨by decide +kernel, by decide +kernel⟩ (Nat.le_of_ble_eq_true rfl) (Nat.le_of_ble_eq_true rfl) (c_fail hT (by decide) (fun hq => (hL (hq0 hq)).2) (fun h' k1 => ⟨rfl, k1⟩)) (fun v9 h9 q9 => ?_)
        obtain ⟨rfl, hT⟩ := q9
        exact hj163 _ (by rw [w_F (fun hq => by rw [← (hL (hq0 hq)).1]; exact beq_eq_false_iff_ne.mpr c2)]; exact hT)
  refine wp_lload_n dq_168_0 rfl ?_
  refine wp_ldc2 (v := lN 2) dq_168_1 (by decide +kernel) ?_
  refine wp_lc_geN (tgt := 15) dq_168_4 dq_168_5 rfl (by omega) (by omega) (fun c1 => ?_) (fun c1 => ?_)
  · exact hj0 _ (by rw [w_T (fun hq => by rw [← (hL hq).1]; exact decide_eq_true (by omega))]; exact hT)
  · refine wp_aload_n dq_168_8 rfl ?_
    refine wp_bipush (x := nI 10) dq_168_9 rfl ?_
    refine wp_iload_n dq_168_11 rfl ?_
    refine wp_cv2 (P := fun v h' => v = none ∧ TR h' B n (rs_w false 10 (rs_p S0 - 4) S0) N z) dq_168_12 mt_168_122 (ob_of (mw_0 hb)) ⟨by decide +kernel, by decide +kernel⟩ (Nat.le_of_ble_eq_true rfl) (Nat.le_of_ble_eq_true rfl) (c_fail hT (by decide) (fun hq => (hL hq).2) (fun h' k1 => ⟨rfl, k1⟩)) (fun v9 h9 q9 => ?_)
    obtain ⟨rfl, hT⟩ := q9
    exact hj0 _ (by rw [w_F (fun hq => by rw [← (hL hq).1]; exact decide_eq_false (by omega))]; exact hT)
