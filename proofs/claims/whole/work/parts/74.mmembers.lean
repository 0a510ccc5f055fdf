theorem m1_o (B : Nat → Nat) (n : Nat) (T : Nat → Nat) (F kd k : Nat) (S : rS) (M : rM) : (∀ q, q ≠ 16 * kd + k → (rs_m1 B n T F kd k S M).2.np q = M.np q) ∧ (∀ q, (q < 9 * (16 * kd + k) ∨ 9 * (16 * kd + k) + 9 ≤ q) → (rs_m1 B n T F kd k S M).2.ct q = M.ct q) ∧ (rs_m1 B n T F kd k S M).2.c kd = k + 1 := by
  refine ⟨fun q hq => ?_, fun q hq => ?_, ?_⟩
  · unfold rs_m1
    rw [(tb_c ..).2]
    exact updN_n hq
  · unfold rs_m1 rs_tb
    rw [tbL_ct (by omega)]
    rfl
  · unfold rs_m1
    rw [(tb_c ..).1]
    exact nt_c ..
theorem msL_o (B : Nat → Nat) (n : Nat) (T : Nat → Nat) (F kd : Nat) : ∀ j k S M, (∀ q, (q < 16 * kd + k ∨ 16 * kd + k + j ≤ q) → (rs_msL B n T F kd j k S M).2.np q = M.np q) ∧ (∀ q, (q < 9 * (16 * kd + k) ∨ 9 * (16 * kd + k + j) ≤ q) → (rs_msL B n T F kd j k S M).2.ct q = M.ct q) ∧ (M.c kd = k → (rs_msL B n T F kd j k S M).2.c kd = k + j)
  | 0, k, S, M => ⟨fun _ _ => rfl, fun _ _ => rfl, fun h => h⟩
  | j + 1, k, S, M => by
    obtain ⟨a1, a2, a3⟩ := m1_o B n T F kd k S M
    obtain ⟨b1, b2, b3⟩ := msL_o B n T F kd j (k + 1) (rs_m1 B n T F kd k S M).1 (rs_m1 B n T F kd k S M).2
    rw [rs_msL_s]
    refine ⟨fun q hq => (b1 q (by omega)).trans (a1 q (by omega)), fun q hq => (b2 q (by omega)).trans (a2 q (by omega)), fun _ => ?_⟩
    rw [b3 a3]
    omega
theorem sd_m1 {B : Nat → Nat} {n : Nat} {T : Nat → Nat} {F kd k : Nat} {S : rS} {M : rM} (h : snd (rs_m1 B n T F kd k S M).1) : snd S := by
  unfold rs_m1 at h
  exact sd_mb rfl (sd_tb rfl h)
theorem sd_msL {B : Nat → Nat} {n : Nat} {T : Nat → Nat} {F kd : Nat} : ∀ {j k : Nat} {S : rS} {M : rM}, snd (rs_msL B n T F kd j k S M).1 → snd S
  | 0, _, _, _, h => h
  | j + 1, k, S, M, h => by
    rw [rs_msL_s] at h
    exact sd_m1 (sd_msL (j := j) h)
set_option maxRecDepth 100000 in
theorem c_memsL {L : Nat} {xs : Nat → Int32} {d n : Nat} {B T : Nat → Nat} {z : rZ} {Q : Option Value → List qx_E → Prop} {kind kd to c F : Nat} (hkd : (kind = 100 ∧ kd = 0) ∨ (kind = 230 ∧ kd = 1)) (hc9 : c < 65536) : ∀ j k S0 M N (h : List qx_E), TR h B n S0 N z → (snd S0 → PQ B n T N ∧ c ≤ 16 ∧ N 1 = nI (bu_U B F 2) ∧ (∀ i, i < k → NK B T N M kd i (kind + 8 * i)) ∧ ∀ q, 9 * (16 * kd + k) ≤ q → q < 9 * (16 * kd + 16) → M.ct q = 0) → k + j = c → (∀ h' N', TR h' B n (rs_msL B n T F kd j k S0 M).1 N' z → (snd (rs_msL B n T F kd j k S0 M).1 → PQ B n T N' ∧ (∀ i, i < c → NK B T N' (rs_msL B n T F kd j k S0 M).2 kd i (kind + 8 * i)) ∧ ∀ q, (q < kind ∨ kind + 128 ≤ q) → N' q = N q) → Q none h') → wp_W L xs (d + 9) 160 15 [(0, .ref 13), (1, .int (nI kind)), (2, .int (nI to)), (3, .int (nI c)), (4, .int (nI k))] [] h Q := by
  intro j
  induction j with
  | zero =>
    intro k S0 M N h hT hI hi hK
    refine wp_iload dq_160_15 rfl ?_
    refine wp_iload_n dq_160_17 rfl ?_
    refine wp_ic_geN (tgt := 41) dq_160_18 rfl (by omega) (by omega) (fun c1 => ?_) (fun c1 => absurd c1 (by omega))
    exact wp_vre dq_160_41 rfl (hK h N hT (fun hq => by
      obtain ⟨q1, q2, q3, q4, q5⟩ := hI hq
      exact ⟨q1, fun i hi => q4 i (by omega), fun _ _ => rfl⟩))
  | succ j ih =>
    intro k S0 M N h hT hI hi hK
    rcases snd_or S0 with hs | ⟨e, rfl⟩
    · obtain ⟨hP, hc16, hF1, hNK, hz⟩ := hI hs
      obtain ⟨s0, fa0, hb, hz0, hc0, hp0⟩ := TR_x hT
      obtain ⟨s0, fa0, hb, hz0, hc0, hp0⟩ := TR_x hT
      have ho := mw_0 hb
      rw [hp0 hs, hc0.mpr hs] at ho
      refine wp_iload dq_160_15 rfl ?_
      refine wp_iload_n dq_160_17 rfl ?_
      refine wp_ic_geN (tgt := 41) dq_160_18 rfl (by omega) (by omega) (fun c1 => ?_) (fun c1 => ?_)
      · exact absurd c1 (by omega)
      · refine wp_aload_n dq_160_21 rfl ?_
        refine wp_getf (w := .int (nI 0)) dq_160_22 fl_160_116 ho rfl ?_
        refine wp_if_neN (tgt := 41) dq_160_25 rfl (by omega) (fun c9 => absurd c9 (by decide)) (fun _ => ?_)
        refine wp_aload_n dq_160_28 rfl ?_
        refine wp_iload_n dq_160_29 rfl ?_
        refine wp_iload dq_160_30 rfl ?_
        refine wp_cv2 (P := fun v h' => v = none ∧ ∃ N', TR h' B n (rs_m1 B n T F kd k S0 M).1 N' z ∧ (snd (rs_m1 B n T F kd k S0 M).1 → NK B T N' (rs_m1 B n T F kd k S0 M).2 kd k (kind + 8 * k) ∧ ∀ q, (q < kind + 8 * k ∨ kind + 8 * k + 8 ≤ q) → N' q = N q)) dq_160_32 mt_160_207 (ob_of (mw_0 hb)) ⟨by decide +kernel, by decide +kernel⟩ (Nat.le_of_ble_eq_true rfl) (Nat.le_of_ble_eq_true rfl) (c_member (d := d) (T := T) (F := F) (kd := kd) hT hs hkd (by omega) hP hF1 hNK (fun q h1 h2 => hz q h1 (by omega)) (fun h' N' k1 k2 => ⟨rfl, N', k1, k2⟩)) (fun v9 h9 q9 => ?_)
        obtain ⟨rfl, N1, hT, hN1⟩ := q9
        refine wp_iinc (y := nI (k + 1)) (lv' := [(0, .ref 13), (1, .int (nI kind)), (2, .int (nI to)), (3, .int (nI c)), (4, .int (nI (k + 1)))]) dq_160_35 rfl (nI_add _ _) (by decide) rfl ?_
        refine wp_goto (tgt := 15) dq_160_38 rfl ?_
        rw [rs_msL_s] at hK
        obtain ⟨o1, o2, o3⟩ := m1_o B n T F kd k S0 M
        refine ih (k + 1) _ _ N1 _ hT (fun hq => ?_) (by omega) (fun h' N' k1 k2 => hK h' N' k1 (fun hq => ?_))
        · obtain ⟨r1, r2⟩ := hN1 hq
          refine ⟨PQ_c hP (r2 2 (by omega)) (fun i h1 h2 => r2 i (by omega)), hc16, (r2 1 (by omega)).trans hF1, fun i hi => ?_, fun q h1 h2 => (o2 q (by omega)).trans (hz q (by omega) h2)⟩
          rcases Nat.lt_or_ge i k with r | r
          · exact NK_eq (hNK i r) (fun j hj => r2 _ (by omega)) (o1 _ (by omega)) (fun w hw => o2 _ (by omega))
          · rw [show i = k by omega]
            exact r1
        · obtain ⟨r3, r4, r5⟩ := k2 hq
          obtain ⟨r1, r2⟩ := hN1 (sd_msL hq)
          exact ⟨r3, r4, fun q hq9 => (r5 q hq9).trans (r2 q (by omega))⟩
    · obtain ⟨s0, fa0, hb, -, hc0, -⟩ := TR_x hT
      refine wp_iload dq_160_15 rfl ?_
      refine wp_iload_n dq_160_17 rfl ?_
      refine wp_ic_geN (tgt := 41) dq_160_18 rfl (by omega) (by omega) (fun c1 => absurd c1 (by omega)) (fun c1 => ?_)
      refine wp_aload_n dq_160_21 rfl ?_
      refine wp_getf dq_160_22 fl_160_116 (mw_0 hb) rfl ?_
      refine wp_if_ne (tgt := 41) dq_160_25 rfl (fun c1 => ?_) (fun c1 => absurd (hc0.mp c1) not_snd)
      exact wp_vre dq_160_41 rfl (hK h N (by rw [rs_msL_e]; exact hT) (fun hq => absurd hq (by rw [rs_msL_e]; exact not_snd)))
set_option maxRecDepth 100000 in
theorem c_members {L : Nat} {xs : Nat → Int32} {d n : Nat} {B T : Nat → Nat} {N : Nat → Int32} {z : rZ} {S0 : rS} {h : List qx_E} {Q : Option Value → List qx_E → Prop} {kind kd to F : Nat} {M : rM} (hT : TR h B n S0 N z) (hkd : (kind = 100 ∧ kd = 0) ∨ (kind = 230 ∧ kd = 1)) (hto : to = 13 ∨ to = 14) (hI : snd S0 → PQ B n T N ∧ N 1 = nI (bu_U B F 2) ∧ ∀ q, 9 * (16 * kd + 0) ≤ q → q < 9 * (16 * kd + 16) → M.ct q = 0) (hK : ∀ h' N', TR h' B n (rs_ms B n T F kd S0 M).1 N' z → (snd (rs_ms B n T F kd S0 M).1 → PQ B n T N' ∧ (∀ i, i < rs_iv B n 2 S0 → NK B T N' (rs_ms B n T F kd S0 M).2 kd i (kind + 8 * i)) ∧ N' to = nI (rs_iv B n 2 S0) ∧ (∀ q, q ≠ to → (q < kind ∨ kind + 128 ≤ q) → N' q = N q) ∧ rs_iv B n 2 S0 ≤ 16) → Q none h') : wp_W L xs (d + 9) 160 0 (lv_args 0 [.ref 13, .int (nI kind), .int (nI to)]) [] h Q := by
  show wp_W L xs _ 160 0 [(0, .ref 13), (1, .int (nI kind)), (2, .int (nI to))] [] h Q
  obtain ⟨s0, fa0, hb, hz0, hc0, hp0⟩ := TR_x hT
  refine wp_aload_n dq_160_0 rfl ?_
  refine wp_cv0 (P := fun v h' => v = some (.int (nI (rs_iv B n 2 S0))) ∧ TR h' B n (rs_w (decide (rs_iv B n 2 S0 ≤ 16)) 12 (rs_p S0) (rs_is n 2 S0)) N z) dq_160_1 mt_160_204 (ob_of (mw_0 hb)) ⟨by decide +kernel, by decide +kernel⟩ (Nat.le_of_ble_eq_true rfl) (Nat.le_of_ble_eq_true rfl) (c_few (d := d + 5) hT (fun h' k1 => ⟨rfl, k1⟩)) (fun v9 h9 q9 => ?_)
  obtain ⟨rfl, hT⟩ := q9
  generalize hS1 : rs_w (decide (rs_iv B n 2 S0 ≤ 16)) 12 (rs_p S0) (rs_is n 2 S0) = S1 at hT
  obtain ⟨s1, fa1, hb, hz1, hc1, hp1⟩ := TR_x hT
  have hv : rs_iv B n 2 S0 < 65536 := TR_v hT
  refine wp_istore_n (lv' := [(0, .ref 13), (1, .int (nI kind)), (2, .int (nI to)), (3, .int (nI (rs_iv B n 2 S0)))]) dq_160_4 (by decide) rfl ?_
  refine wp_aload_n dq_160_5 rfl ?_
  refine wp_getf (w := .ref 15) dq_160_6 fl_160_13 (mw_0 hb) rfl ?_
  refine wp_iload_n dq_160_9 rfl ?_
  refine wp_iload_n dq_160_10 rfl ?_
  refine wp_tn dq_160_11 (by omega) hT (fun h hT => ?_)
  obtain ⟨s1, fa1, hb, hz1, hc1, hp1⟩ := TR_x hT
  refine wp_iconst (x := nI 0) dq_160_12 rfl ?_
  refine wp_istore (lv' := [(0, .ref 13), (1, .int (nI kind)), (2, .int (nI to)), (3, .int (nI (rs_iv B n 2 S0))), (4, .int (nI 0))]) dq_160_13 (by decide) rfl ?_
  refine c_memsL (d := d) (T := T) (F := F) hkd hv (rs_iv B n 2 S0) 0 S1 M _ _ hT (fun hq => ?_) (by omega) (fun h' N' k1 k2 => hK h' N' (by rw [rs_ms, hS1]; exact k1) (fun hq => ?_))
  · obtain ⟨q1, q2, q3⟩ := hI (sd_is rfl (sd_w hS1 hq))
    exact ⟨PQ_u q1 (by omega) (by omega), of_decide_eq_true (sd_wc hS1 hq).1, (pk_un (by omega)).trans q2, fun i hi => by omega, q3⟩
  · rw [rs_ms, hS1] at hq ⊢
    obtain ⟨r1, r2, r3⟩ := k2 hq
    exact ⟨r1, r2, (r3 to (by omega)).trans pk_us, fun q h1 h2 => (r3 q h2).trans (pk_un h1), of_decide_eq_true (sd_wc hS1 (sd_msL hq)).1⟩
