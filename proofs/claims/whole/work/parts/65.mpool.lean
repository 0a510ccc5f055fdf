theorem pl_s {B : Nat → Nat} {n N j k p : Nat} {T : Nat → Nat} (h : k < N) : rs_pl B n N (j + 1) k (.inl p) T = rs_pl B n N j (if rs_iv B n 1 (.inl p) = 5 ∨ rs_iv B n 1 (.inl p) = 6 then k + 2 else k + 1) (rs_en B n N k (rs_iv B n 1 (.inl p)) p (rs_is n 1 (.inl p))) (updN T k p) := if_pos h
def LK (B T : Nat → Nat) : Prop := ∀ i, tg B T i = 7 → tg B T (bu_U B (T i + 1) 2) = 1
theorem lk_LK {B : Nat → Nat} {n : Nat} {T : Nat → Nat} {S : rS} (hG : PG B n T) (h : snd (rs_lks B T 63 1 S)) : LK B T := by
  intro i hi
  obtain ⟨a1, a2, a3, a4, a5⟩ := tg_ne hG hi (by decide)
  obtain ⟨e1, e2⟩ := lks_id h
  rw [e1] at h
  have e3 := e2 i a1 (by omega)
  unfold rs_lk at e3
  rw [if_pos hi] at e3
  have h1 := sd_w e3 h
  exact beq_iff_eq.mp (sd_wc rfl h1).1
theorem lks_s (B T : Nat → Nat) (j i : Nat) (S : rS) : rs_lks B T (j + 1) i S = rs_lks B T j (i + 1) (rs_lk B T i S) := rfl
theorem lks_z {B T : Nat → Nat} {c : Nat} (h : ∀ i, c ≤ i → T i = 0) : ∀ j i S, c ≤ i → rs_lks B T j i S = S
  | 0, _, _, _ => rfl
  | j + 1, i, S, hi => by
    rw [lks_s, lk_z (by rw [show tg B T i = 0 from if_neg (fun q => q.2 (h i hi))]; decide)]
    exact lks_z h j (i + 1) S (by omega)
theorem lks_c {B T : Nat → Nat} {c : Nat} (h : ∀ i, c ≤ i → T i = 0) : ∀ g j i S, i + g = c → g ≤ j → rs_lks B T j i S = rs_lks B T g i S
  | 0, j, i, S, h1, _ => lks_z h j i S (by omega)
  | g + 1, j, i, S, h1, h2 => by
    obtain ⟨j', rfl⟩ : ∃ j', j = j' + 1 := ⟨j - 1, by omega⟩
    rw [lks_s, lks_s]
    exact lks_c h g j' (i + 1) _ (by omega) (by omega)
set_option maxRecDepth 100000 in
theorem c_pool1 {L : Nat} {xs : Nat → Int32} {d n : Nat} {B : Nat → Nat} {z : rZ} {Q : Option Value → List qx_E → Prop} {Nc : Nat} (hNc : Nc ≤ 64) : ∀ j k S T0 N0 (h : List qx_E), TR h B n S N0 z → N0 2 = nI Nc → (snd S → (∀ i, 1 ≤ i → i < k → i < Nc → N0 (20 + i) = nI (T0 i)) ∧ ∀ i, k ≤ i → T0 i = 0) → 1 ≤ k → k < 100 → Nc ≤ k + j → (∀ h' N', TR h' B n (rs_pl B n Nc j k S T0).1 N' z → N' 2 = nI Nc → (snd (rs_pl B n Nc j k S T0).1 → ∀ i, 1 ≤ i → i < Nc → N' (20 + i) = nI ((rs_pl B n Nc j k S T0).2 i)) → (∀ q, q < 20 ∨ 85 ≤ q → N' q = N0 q) → wp_W L xs (d + 4) 132 28 [(0, .ref 13)] [] h' Q) → wp_W L xs (d + 4) 132 2 [(0, .ref 13), (1, .int (nI k))] [] h Q := by
  intro j
  induction j with
  | zero =>
    intro k S T0 N0 h hT hN hI hk1 hk9 hk hK
    obtain ⟨s0, fa0, hb, -, hc0, -⟩ := TR_x hT
    refine wp_iload_n dq_132_2 rfl ?_
    refine wp_aload_n dq_132_3 rfl ?_
    refine wp_getf (w := .ref 15) dq_132_4 fl_132_13 (mw_0 hb) rfl ?_
    refine wp_iconst (x := nI 2) dq_132_7 rfl ?_
    refine wp_ialdV (z := nI Nc) dq_132_8 (mw_2 hb) (by decide) (by decide) hN ?_
    refine wp_ic_geN (tgt := 28) dq_132_9 rfl (by omega) (by omega) (fun c1 => ?_) (fun c1 => absurd c1 (by omega))
    refine wp_fg (l := [(0, .ref 13)]) (e := [(1, .int (nI k))]) rfl rfl rfl ?_
    exact hK h N0 hT hN (fun hq i h1 h2 => (hI hq).1 i h1 (by omega) h2) (fun _ _ => rfl)
  | succ j ih =>
    intro k S T0 N0 h hT hN hI hk1 hk9 hk hK
    obtain ⟨s0, fa0, hb, -, hc0, -⟩ := TR_x hT
    rcases Nat.lt_or_ge k Nc with hkN | hkN
    rotate_left
    · have e9 : rs_pl B n Nc (j + 1) k S T0 = (S, T0) := by
        cases S with
        | inl p => exact rs_pl_x _ _ _ _ _ _ _ (by omega)
        | inr e => exact rs_pl_e _ _ _ _ _ _ _
      rw [e9] at hK
      refine wp_iload_n dq_132_2 rfl ?_
      refine wp_aload_n dq_132_3 rfl ?_
      refine wp_getf (w := .ref 15) dq_132_4 fl_132_13 (mw_0 hb) rfl ?_
      refine wp_iconst (x := nI 2) dq_132_7 rfl ?_
      refine wp_ialdV (z := nI Nc) dq_132_8 (mw_2 hb) (by decide) (by decide) hN ?_
      refine wp_ic_geN (tgt := 28) dq_132_9 rfl (by omega) (by omega) (fun c1 => ?_) (fun c1 => absurd c1 (by omega))
      refine wp_fg (l := [(0, .ref 13)]) (e := [(1, .int (nI k))]) rfl rfl rfl ?_
      exact hK h N0 hT hN (fun hq i h1 h2 => (hI hq).1 i h1 (by omega) h2) (fun _ _ => rfl)
    refine wp_iload_n dq_132_2 rfl ?_
    refine wp_aload_n dq_132_3 rfl ?_
    refine wp_getf (w := .ref 15) dq_132_4 fl_132_13 (mw_0 hb) rfl ?_
    refine wp_iconst (x := nI 2) dq_132_7 rfl ?_
    refine wp_ialdV (z := nI Nc) dq_132_8 (mw_2 hb) (by decide) (by decide) hN ?_
    refine wp_ic_geN (tgt := 28) dq_132_9 rfl (by omega) (by omega) (fun c1 => absurd c1 (by omega)) (fun c1 => ?_)
    refine wp_aload_n dq_132_12 rfl ?_
    refine wp_getf dq_132_13 fl_132_116 (mw_0 hb) rfl ?_
    cases S with
    | inr e =>
      rw [rs_pl_e] at hK
      refine wp_if_ne (tgt := 28) dq_132_16 rfl (fun c2 => ?_) (fun c2 => absurd (hc0.mp c2) not_snd)
      refine wp_fg (l := [(0, .ref 13)]) (e := [(1, .int (nI k))]) rfl rfl rfl ?_
      exact hK h N0 hT hN (fun hq => absurd hq not_snd) (fun _ _ => rfl)
    | inl p =>
      obtain ⟨hI1, hI2⟩ := hI (snd_l p)
      rw [pl_s hkN] at hK
      refine wp_if_ne (tgt := 28) dq_132_16 rfl (fun c2 => absurd (hc0.mpr (snd_l p)) c2) (fun c2 => ?_)
      refine wp_aload_n dq_132_19 rfl ?_
      refine wp_iload_n dq_132_20 rfl ?_
      refine wp_cv1 (P := fun v h' => v = some (.int (nI (if rs_iv B n 1 (.inl p) = 5 ∨ rs_iv B n 1 (.inl p) = 6 then k + 2 else k + 1))) ∧ ∃ N', TR h' B n (rs_en B n Nc k (rs_iv B n 1 (.inl p)) p (rs_is n 1 (.inl p))) N' z ∧ (∀ q, q ≠ 20 + k → (q ≠ 21 + k ∨ ¬ (rs_iv B n 1 (.inl p) = 5 ∨ rs_iv B n 1 (.inl p) = 6)) → N' q = N0 q) ∧ N' (20 + k) = nI p ∧ (rs_iv B n 1 (.inl p) = 5 ∨ rs_iv B n 1 (.inl p) = 6 → k + 1 < 64 → N' (21 + k) = 0)) dq_132_21 mt_132_166 (ob_of (mw_0 hb)) ⟨by decide +kernel, by decide +kernel⟩ (Nat.le_of_ble_eq_true rfl) (Nat.le_of_ble_eq_true rfl) (c_entry hT (snd_l p) hN ⟨hk1, hkN, hNc⟩ (fun h' N' k1 k2 k3 k4 => ⟨rfl, N', k1, k2, k3, k4⟩)) (fun v9 h9 q9 => ?_)
      obtain ⟨rfl, N', hT', e1, e2, e3⟩ := q9
      refine wp_istore_n (lv' := [(0, .ref 13), (1, .int (nI (if rs_iv B n 1 (.inl p) = 5 ∨ rs_iv B n 1 (.inl p) = 6 then k + 2 else k + 1)))]) dq_132_24 (by decide) rfl ?_
      refine wp_goto (tgt := 2) dq_132_25 rfl ?_
      refine ih _ _ _ N' h9 hT' ?_ (fun hq => ⟨fun i h1 h2 h3 => ?_, fun i h1 => ?_⟩) (by split <;> omega) (by split <;> omega) (by split <;> omega) (fun h' N2 k1 k2 k3 k4 => hK h' N2 k1 k2 k3 (fun q hq => ?_))
      · rw [e1 2 (by omega) (Or.inl (by omega))]
        exact hN
      · by_cases h4 : i = k
        · subst h4
          rw [e2, updN_s]
        · rw [updN_n h4]
          by_cases h5 : i = k + 1
          · subst h5
            by_cases h6 : rs_iv B n 1 (.inl p) = 5 ∨ rs_iv B n 1 (.inl p) = 6
            · rw [show 20 + (k + 1) = 21 + k by omega, e3 h6 (by omega), hI2 (k + 1) (by omega)]
              rfl
            · rw [if_neg h6] at h2
              omega
          · rw [e1 (20 + i) (by omega) (Or.inl (by omega))]
            refine hI1 i h1 ?_ h3
            split at h2 <;> omega
      · rw [updN_n (by split at h1 <;> omega)]
        exact hI2 i (by split at h1 <;> omega)
      · rw [k4 q hq]
        refine e1 q (by omega) ?_
        by_cases h6 : rs_iv B n 1 (.inl p) = 5 ∨ rs_iv B n 1 (.inl p) = 6
        · exact Or.inl (by omega)
        · exact Or.inr h6
set_option maxRecDepth 100000 in
theorem c_pool2 {L : Nat} {xs : Nat → Int32} {d n : Nat} {B T : Nat → Nat} {z : rZ} {Q : Option Value → List qx_E → Prop} {N : Nat → Int32} {Nc : Nat} (hNc : Nc ≤ 64) (hN : N 2 = nI Nc) : ∀ j k S (h : List qx_E), TR h B n S N z → (snd S → PQ B n T N ∧ ∀ i, 1 ≤ i → i < Nc → N (20 + i) = nI (T i)) → 1 ≤ k → k + j = Nc → (∀ h', TR h' B n (rs_lks B T j k S) N z → wp_W L xs (d + 6) 132 58 [(0, .ref 13)] [] h' Q) → wp_W L xs (d + 6) 132 30 [(0, .ref 13), (2, .int (nI k))] [] h Q := by
  intro j
  induction j with
  | zero =>
    intro k S h hT hI hk1 hk hK
    obtain ⟨s0, fa0, hb, -, hc0, -⟩ := TR_x hT
    refine wp_iload_n dq_132_30 rfl ?_
    refine wp_aload_n dq_132_31 rfl ?_
    refine wp_getf (w := .ref 15) dq_132_32 fl_132_13 (mw_0 hb) rfl ?_
    refine wp_iconst (x := nI 2) dq_132_35 rfl ?_
    refine wp_ialdV (z := nI Nc) dq_132_36 (mw_2 hb) (by decide) (by decide) hN ?_
    refine wp_ic_geN (tgt := 58) dq_132_37 rfl (by omega) (by omega) (fun c1 => ?_) (fun c1 => absurd c1 (by omega))
    refine wp_fg (l := [(0, .ref 13)]) (e := [(2, .int (nI k))]) rfl rfl rfl ?_
    exact hK h hT
  | succ j ih =>
    intro k S h hT hI hk1 hk hK
    obtain ⟨s0, fa0, hb, -, hc0, -⟩ := TR_x hT
    refine wp_iload_n dq_132_30 rfl ?_
    refine wp_aload_n dq_132_31 rfl ?_
    refine wp_getf (w := .ref 15) dq_132_32 fl_132_13 (mw_0 hb) rfl ?_
    refine wp_iconst (x := nI 2) dq_132_35 rfl ?_
    refine wp_ialdV (z := nI Nc) dq_132_36 (mw_2 hb) (by decide) (by decide) hN ?_
    refine wp_ic_geN (tgt := 58) dq_132_37 rfl (by omega) (by omega) (fun c1 => absurd c1 (by omega)) (fun c1 => ?_)
    refine wp_aload_n dq_132_40 rfl ?_
    refine wp_getf dq_132_41 fl_132_116 (mw_0 hb) rfl ?_
    cases S with
    | inr e =>
      rw [rs_lks_e] at hK
      refine wp_if_ne (tgt := 58) dq_132_44 rfl (fun c2 => ?_) (fun c2 => absurd (hc0.mp c2) not_snd)
      refine wp_fg (l := [(0, .ref 13)]) (e := [(2, .int (nI k))]) rfl rfl rfl ?_
      exact hK h hT
    | inl p =>
      obtain ⟨hI1, hI2⟩ := hI (snd_l p)
      rw [lks_s] at hK
      refine wp_if_ne (tgt := 58) dq_132_44 rfl (fun c2 => absurd (hc0.mpr (snd_l p)) c2) (fun c2 => ?_)
      refine wp_aload_n dq_132_47 rfl ?_
      refine wp_iload_n dq_132_48 rfl ?_
      refine wp_cv1 (P := fun v h' => v = none ∧ TR h' B n (rs_lk B T k (.inl p)) N z) dq_132_49 mt_132_169 (ob_of (mw_0 hb)) ⟨by decide +kernel, by decide +kernel⟩ (Nat.le_of_ble_eq_true rfl) (Nat.le_of_ble_eq_true rfl) (c_mlook hT hI1 ⟨hk1, by omega⟩ (hI2 k hk1 (by omega)) (fun h' k1 => ⟨rfl, k1⟩)) (fun v9 h9 q9 => ?_)
      obtain ⟨rfl, hT'⟩ := q9
      refine wp_iinc (y := nI (k + 1)) (lv' := [(0, .ref 13), (2, .int (nI (k + 1)))]) dq_132_52 rfl (nI_add _ _) (by decide) rfl ?_
      refine wp_goto (tgt := 30) dq_132_55 rfl ?_
      exact ih (k + 1) _ h9 hT' (fun _ => ⟨hI1, hI2⟩) (by omega) (by omega) hK
set_option maxRecDepth 100000 in
theorem c_pool {L : Nat} {xs : Nat → Int32} {d n : Nat} {B : Nat → Nat} {N : Nat → Int32} {z : rZ} {S0 : rS} {h : List qx_E} {Q : Option Value → List qx_E → Prop} {Nc : Nat} (hT : TR h B n S0 N z) (hs : snd S0) (h0 : 0 < rs_p S0) (hN : N 2 = nI Nc) (hNc : 1 ≤ Nc ∧ Nc ≤ 64) (hK : ∀ h' N', TR h' B n (rs_lks B (rs_pl B n Nc Nc 1 S0 (fun _ => 0)).2 63 1 (rs_pl B n Nc Nc 1 S0 (fun _ => 0)).1) N' z → (snd (rs_lks B (rs_pl B n Nc Nc 1 S0 (fun _ => 0)).2 63 1 (rs_pl B n Nc Nc 1 S0 (fun _ => 0)).1) → PQ B n (rs_pl B n Nc Nc 1 S0 (fun _ => 0)).2 N' ∧ LK B (rs_pl B n Nc Nc 1 S0 (fun _ => 0)).2) → (∀ q, q < 20 ∨ 85 ≤ q → N' q = N q) → Q none h') : wp_W L xs (d + 6) 132 0 (lv_args 0 [.ref 13]) [] h Q := by
  have hn9 := TR_n hT
  show wp_W L xs _ 132 0 [(0, .ref 13)] [] h Q
  refine wp_iconst (x := nI 1) dq_132_0 rfl ?_
  refine wp_istore_n (lv' := [(0, .ref 13), (1, .int (nI 1))]) dq_132_1 (by decide) rfl ?_
  refine c_pool1 (d := d + 2) hNc.2 Nc 1 S0 (fun _ => 0) N h hT hN (fun _ => ⟨fun i h1 h2 => by omega, fun _ _ => rfl⟩) (by decide) (by decide) (by omega) (fun h' N' k1 k2 k3 k4 => ?_)
  have hPQ : snd (rs_pl B n Nc Nc 1 S0 (fun _ => 0)).1 → PQ B n (rs_pl B n Nc Nc 1 S0 (fun _ => 0)).2 N' ∧ ∀ i, Nc ≤ i → (rs_pl B n Nc Nc 1 S0 (fun _ => 0)).2 i = 0 := fun hq => by
    obtain ⟨r, hr⟩ := id hq
    have h6 := rs_pl_ok (B := B) (n := n) (N := Nc) Nc 1 S0 (fun _ => 0) r (rs_pl B n Nc Nc 1 S0 (fun _ => 0)).2 (by decide) (fun q hq => by rw [hq] at h0; exact h0) (fun i hi => absurd rfl hi) (Prod.ext hr rfl)
    have hz : ∀ i, Nc ≤ i → (rs_pl B n Nc Nc 1 S0 (fun _ => 0)).2 i = 0 := fun i hi => by
      rcases Decidable.em ((rs_pl B n Nc Nc 1 S0 (fun _ => 0)).2 i = 0) with q | q
      · exact q
      · have := h6.1 i q
        omega
    exact ⟨⟨hn9, fun i hi => by obtain ⟨a1, a2, a3⟩ := h6.1 i hi; exact ⟨a1, by omega, a3⟩, Nc, hNc.2, k2, hz, k3 hq⟩, hz⟩
  refine wp_iconst (x := nI 1) dq_132_28 rfl ?_
  refine wp_istore_n (lv' := [(0, .ref 13), (2, .int (nI 1))]) dq_132_29 (by decide) rfl ?_
  refine c_pool2 (T := (rs_pl B n Nc Nc 1 S0 (fun _ => 0)).2) hNc.2 k2 (Nc - 1) 1 _ h' k1 (fun hq => ⟨(hPQ hq).1, k3 hq⟩) (by decide) (by omega) (fun h2 q1 => ?_)
  have e9 : rs_lks B (rs_pl B n Nc Nc 1 S0 (fun _ => 0)).2 63 1 (rs_pl B n Nc Nc 1 S0 (fun _ => 0)).1 = rs_lks B (rs_pl B n Nc Nc 1 S0 (fun _ => 0)).2 (Nc - 1) 1 (rs_pl B n Nc Nc 1 S0 (fun _ => 0)).1 := by
    rcases snd_or (rs_pl B n Nc Nc 1 S0 (fun _ => 0)).1 with hq | ⟨e, he⟩
    · exact lks_c (hPQ hq).2 (Nc - 1) 63 1 _ (by omega) (by omega)
    · rw [he, rs_lks_e, rs_lks_e]
  rw [← e9] at q1
  exact wp_vre dq_132_58 rfl (hK h2 N' q1 (fun hq => by
    have hq0 : snd (rs_pl B n Nc Nc 1 S0 (fun _ => 0)).1 := by rw [(lks_id hq).1] at hq; exact hq
    exact ⟨(hPQ hq0).1, lk_LK (hPQ hq0).1.2.1 hq⟩) k4)
theorem ix_7 {B : Nat → Nat} {n : Nat} {T : Nat → Nat} {t : Nat} {mz : Bool} {S S' : rS} (e : rs_ix B n T t mz S = S') (h : snd S') (h0 : 0 < rs_iv B n 2 S) : tg B T (rs_iv B n 2 S) = t := by
  have := (sd_wc e h).1
  rw [Bool.or_eq_true] at this
  rcases this with r | r
  · rw [Bool.and_eq_true, beq_iff_eq] at r
    omega
  · exact beq_iff_eq.mp r
theorem ix_0 {B : Nat → Nat} {n : Nat} {T : Nat → Nat} {t : Nat} {mz : Bool} {S S' : rS} (hG : PG B n T) (e : rs_ix B n T t mz S = S') (h : snd S') (ht : t ≠ 0) (h0 : rs_iv B n 2 S = 0) : mz = true := by
  have := (sd_wc e h).1
  rw [Bool.or_eq_true] at this
  rcases this with r | r
  · rw [Bool.and_eq_true] at r
    exact r.1
  · rw [beq_iff_eq, h0, tg_z hG (by decide)] at r
    exact absurd r.symm ht
set_option maxRecDepth 100000 in
theorem c_mnc {L : Nat} {xs : Nat → Int32} {d n : Nat} {B T : Nat → Nat} {N : Nat → Int32} {z : rZ} {S0 : rS} {h : List qx_E} {Q : Option Value → List qx_E → Prop} (hT : TR h B n S0 N z) {mz : Bool} (hP : snd S0 → PQ B n T N ∧ LK B T) (hK : ∀ h', TR h' B n (rs_nc B n T mz S0) N z → Q (some (.int (nI (rs_iv B n 2 S0)))) h') : wp_W L xs (d + 4) 156 0 (lv_args 0 [.ref 13, .int (bI mz)]) [] h Q := by
  show wp_W L xs _ 156 0 [(0, .ref 13), (1, .int (bI mz))] [] h Q
  obtain ⟨s0, fa0, hb, hz0, hc0, hp0⟩ := TR_x hT
  refine wp_aload_n dq_156_0 rfl ?_
  refine wp_getf (w := .int (s0 3)) dq_156_1 fl_156_119 (mw_0 hb) rfl ?_
  refine wp_istore_n (lv' := [(0, .ref 13), (1, .int (bI mz)), (2, .int (s0 3))]) dq_156_4 (by decide) rfl ?_
  refine wp_aload_n dq_156_5 rfl ?_
  refine wp_bipush (x := nI 7) dq_156_6 rfl ?_
  refine wp_iload_n dq_156_8 rfl ?_
  refine wp_cv2 (P := fun v h' => v = some (.int (nI (rs_iv B n 2 S0))) ∧ TR h' B n (rs_ix B n T 7 mz S0) N z) dq_156_9 mt_156_173 (ob_of (mw_0 hb)) ⟨by decide +kernel, by decide +kernel⟩ (Nat.le_of_ble_eq_true rfl) (Nat.le_of_ble_eq_true rfl) (c_mix (T := T) (t := 7) (mz := mz) hT (fun hq => (hP hq).1) (by decide) (fun h' k1 => ⟨rfl, k1⟩)) (fun v9 h9 q9 => ?_)
  obtain ⟨rfl, hT⟩ := q9
  generalize hS1 : rs_ix B n T 7 mz S0 = S1 at hT
  obtain ⟨s1, fa1, hb, hz1, hc1, hp1⟩ := TR_x hT
  have hv9 : rs_iv B n 2 S0 < 65536 := TR_v hT
  refine wp_istore_n (lv' := [(0, .ref 13), (1, .int (bI mz)), (2, .int (s0 3)), (3, .int (nI (rs_iv B n 2 S0)))]) dq_156_12 (by decide) rfl ?_
  have hj13 : ∀ h, TR h B n (rs_w ((mz && rs_iv B n 2 S0 == 0) || (tg B T (cT B T (rs_iv B n 2 S0)) == 1 && k_cn B T (cT B T (rs_iv B n 2 S0)))) 7 (rs_p S0) S1) N z → wp_W L xs (d + 4) 156 43 [(0, .ref 13), (1, .int (bI mz)), (2, .int (s0 3)), (3, .int (nI (rs_iv B n 2 S0)))] ([]) h Q := by
    intro h hT
    generalize hS2 : rs_w ((mz && rs_iv B n 2 S0 == 0) || (tg B T (cT B T (rs_iv B n 2 S0)) == 1 && k_cn B T (cT B T (rs_iv B n 2 S0)))) 7 (rs_p S0) S1 = S2 at hT
    obtain ⟨s2, fa2, hb, hz2, hc2, hp2⟩ := TR_x hT
    refine wp_iload_n dq_156_43 rfl ?_
    exact wp_ire dq_156_44 rfl ⟨rfl, Or.inl rfl⟩ (hK _ (by rw [rs_nc, hS1, hS2]; exact hT))
  refine wp_aload_n dq_156_13 rfl ?_
  refine wp_getf (w := .int (s1 4)) dq_156_14 fl_156_116 (mw_0 hb) rfl ?_
  refine wp_if_ne (tgt := 43) dq_156_17 rfl (fun c1 => ?_) (fun c1 => ?_)
  · exact hj13 _ (by rw [w_T (fun hq => absurd (hc1.mpr hq) c1)]; exact hT)
  · refine wp_iload_n dq_156_20 rfl ?_
    refine wp_if_leN (tgt := 43) dq_156_21 rfl (by omega) (fun c2 => ?_) (fun c2 => ?_)
    · exact hj13 _ (by rw [w_T (fun hq => by have z0 : rs_iv B n 2 S0 = 0 := (by omega); rw [ix_0 (hP (sd_ix hS1 hq)).1.2.1 hS1 hq (by decide) z0, z0]; rfl)]; exact hT)
    · refine wp_aload_n dq_156_24 rfl ?_
      refine wp_aload_n dq_156_25 rfl ?_
      refine wp_iload_n dq_156_26 rfl ?_
      have hq1 : snd S1 := hc1.mp c1
      have hq0 := sd_ix hS1 hq1
      have h7 : tg B T (rs_iv B n 2 S0) = 7 := ix_7 hS1 hq1 (by omega)
      have hcT : cT B T (rs_iv B n 2 S0) = bu_U B (T (rs_iv B n 2 S0) + 1) 2 := if_pos h7
      have h1 : tg B T (cT B T (rs_iv B n 2 S0)) = 1 := by rw [hcT]; exact (hP hq0).2 _ h7
      have ho7 := c_operand (L := L) (xs := xs) (d := d + 1) (TR_A hT) (hP hq0).1 (i := rs_iv B n 2 S0) (by omega)
      rw [← hcT] at ho7
      refine wp_cve1 dq_156_27 mt_156_148 (ob_of (mw_0 hb)) ⟨by decide +kernel, by decide +kernel⟩ (Nat.le_of_ble_eq_true rfl) (Nat.le_of_ble_eq_true rfl) (ho7) ?_
      refine wp_cve1 dq_156_30 mt_156_151 (ob_of (mw_0 hb)) ⟨by decide +kernel, by decide +kernel⟩ (Nat.le_of_ble_eq_true rfl) (Nat.le_of_ble_eq_true rfl) (c_iscn (d := d) (TR_A hT) (hP hq0).1 h1) ?_
      refine wp_if_neB (tgt := 43) dq_156_33 rfl (fun c3 => ?_) (fun c3 => ?_)
      · exact hj13 _ (by rw [w_T (fun hq => by rw [h1, c3, show (rs_iv B n 2 S0 == 0) = false from beq_eq_false_iff_ne.mpr (by omega), Bool.and_false]; rfl)]; exact hT)
      · refine wp_aload_n dq_156_36 rfl ?_
        refine wp_bipush (x := nI 7) dq_156_37 rfl ?_
        refine wp_iload_n dq_156_39 rfl ?_
        refine wp_cv2 (P := fun v h' => v = none ∧ TR h' B n (rs_w false 7 (rs_p S0) S1) N z) dq_156_40 mt_156_122 (ob_of (mw_0 hb)) ⟨by decide +kernel, by decide +kernel⟩ (Nat.le_of_ble_eq_true rfl) (Nat.le_of_ble_eq_true rfl) (c_fail hT (by decide) (fun hq => hp0 (sd_ix hS1 hq)) (fun h' k1 => ⟨rfl, k1⟩)) (fun v9 h9 q9 => ?_)
        obtain ⟨rfl, hT⟩ := q9
        exact hj13 _ (by rw [w_F (fun hq => by rw [h1, c3, show (rs_iv B n 2 S0 == 0) = false from beq_eq_false_iff_ne.mpr (by omega), Bool.and_false]; rfl)]; exact hT)
set_option maxRecDepth 100000 in
theorem c_named {L : Nat} {xs : Nat → Int32} {d n : Nat} {B T : Nat → Nat} {N : Nat → Int32} {z : rZ} {S0 : rS} {h : List qx_E} {Q : Option Value → List qx_E → Prop} (hT : TR h B n S0 N z) (hP : snd S0 → PQ B n T N ∧ LK B T) (hK : ∀ h', TR h' B n (rs_nc B n T false S0) N z → Q (some (.int (nI (rs_iv B n 2 S0)))) h') : wp_W L xs (d + 5) 155 0 (lv_args 0 [.ref 13]) [] h Q := by
  obtain ⟨s0, fa0, hb, -⟩ := TR_x hT
  show wp_W L xs _ 155 0 [(0, .ref 13)] [] h Q
  refine wp_aload_n dq_155_0 rfl ?_
  refine wp_iconst (x := bI false) dq_155_1 rfl ?_
  refine wp_cv1 (P := fun v h' => v = some (.int (nI (rs_iv B n 2 S0))) ∧ TR h' B n (rs_nc B n T false S0) N z) dq_155_2 mt_155_183 (ob_of (mw_0 hb)) ⟨by decide +kernel, by decide +kernel⟩ (Nat.le_of_ble_eq_true rfl) (Nat.le_of_ble_eq_true rfl) (c_mnc hT hP (fun h' k1 => ⟨rfl, k1⟩)) (fun v9 h9 q9 => ?_)
  obtain ⟨rfl, hT'⟩ := q9
  exact wp_ire dq_155_5 rfl ⟨rfl, Or.inl rfl⟩ (hK _ hT')
