theorem is_is {n a b : Nat} {S : rS} : rs_is n b (rs_is n a S) = rs_is n (a + b) S := by
  cases S with
  | inl p =>
    show rs_is n b (if p + a ≤ n then (.inl (p + a) : rS) else .inr (1, n)) = if p + (a + b) ≤ n then (.inl (p + (a + b)) : rS) else .inr (1, n)
    by_cases h1 : p + a ≤ n
    · rw [if_pos h1]
      show (if p + a + b ≤ n then (.inl (p + a + b) : rS) else .inr (1, n)) = _
      rw [Nat.add_assoc]
    · rw [if_neg h1, if_neg (by omega)]
      rfl
  | inr e => rfl
theorem TR_v1 {h : List qx_E} {B : Nat → Nat} {n : Nat} {S S' : rS} {N : Nat → Int32} {z : rZ} (hT : TR h B n S N z) : rs_iv B n 1 S' < 256 := by
  cases S' with
  | inl p =>
    show (if p + 1 ≤ n then bu_U B p 1 else 0) < 256
    split
    · exact bu_lt (k := 1) (fun j hj => TR_B hT _ (by omega))
    · decide
  | inr e => exact (by decide : (0 : Nat) < 256)
theorem wt_b {c : Prop} [Decidable c] {f p : Nat} {S : rS} : rs_wt (if c then 1 else 0) f p S = rs_w (decide c) f p S := rs_wtb (fun _ => by by_cases h : c <;> simp [h, bI])
theorem ch_s (B : Nat → Nat) (n j p : Nat) : rs_ch B n (j + 1) (.inl p) = if p + 1 ≤ n then (if 1 ≤ B p ∧ B p ≤ 127 then rs_ch B n j (.inl (p + 1)) else .inr (4, p)) else .inr (1, n) := rfl
theorem ch_e (B : Nat → Nat) (n j : Nat) (e : Nat × Nat) : rs_ch B n j (.inr e) = .inr e := by cases j <;> rfl
set_option maxRecDepth 100000 in
theorem c_entL {L : Nat} {xs : Nat → Int32} {d n : Nat} {B : Nat → Nat} {N : Nat → Int32} {z : rZ} {Q : Option Value → List qx_E → Prop} {i p t c : Nat} (hc9 : c < 65536) : ∀ j k S (h : List qx_E), TR h B n S N z → k + j = c → (∀ h', TR h' B n (rs_ch B n j S) N z → wp_W L xs (d + 3) 133 94 [(0, .ref 13), (1, .int (nI i)), (2, .int (nI p)), (3, .int (nI t)), (4, .int (nI c))] [] h' Q) → wp_W L xs (d + 3) 133 37 [(0, .ref 13), (1, .int (nI i)), (2, .int (nI p)), (3, .int (nI t)), (4, .int (nI c)), (5, .int (nI k))] [] h Q := by
  intro j
  induction j with
  | zero =>
    intro k S h hT hi hK
    refine wp_iload dq_133_37 rfl ?_
    refine wp_iload dq_133_39 rfl ?_
    refine wp_ic_geN (tgt := 94) dq_133_41 rfl (by omega) (by omega) (fun c1 => ?_) (fun c1 => absurd c1 (by omega))
    refine wp_fg (l := [(0, .ref 13), (1, .int (nI i)), (2, .int (nI p)), (3, .int (nI t)), (4, .int (nI c))]) (e := [(5, .int (nI k))]) rfl rfl rfl ?_
    exact hK h hT
  | succ j ih =>
    intro k S h hT hi hK
    cases S with
    | inr e =>
      obtain ⟨s0, fa0, hb, -, hc0, -⟩ := TR_x hT
      have hE := hK h (by rw [ch_e]; exact hT)
      refine wp_iload dq_133_37 rfl ?_
      refine wp_iload dq_133_39 rfl ?_
      refine wp_ic_geN (tgt := 94) dq_133_41 rfl (by omega) (by omega) (fun c1 => absurd c1 (by omega)) (fun c1 => ?_)
      refine wp_aload_n dq_133_44 rfl ?_
      refine wp_getf dq_133_45 fl_133_116 (mw_0 hb) rfl ?_
      refine wp_if_ne (tgt := 94) dq_133_48 rfl (fun c1 => ?_) (fun c1 => absurd (hc0.mp c1) not_snd)
      refine wp_fg (l := [(0, .ref 13), (1, .int (nI i)), (2, .int (nI p)), (3, .int (nI t)), (4, .int (nI c))]) (e := [(5, .int (nI k))]) rfl rfl rfl ?_
      exact hE
    | inl q =>
      obtain ⟨s0, fa0, hb, hz0, hc0, hp0⟩ := TR_x hT
      refine wp_iload dq_133_37 rfl ?_
      refine wp_iload dq_133_39 rfl ?_
      refine wp_ic_geN (tgt := 94) dq_133_41 rfl (by omega) (by omega) (fun c1 => ?_) (fun c1 => ?_)
      · exact absurd c1 (by omega)
      · refine wp_aload_n dq_133_44 rfl ?_
        refine wp_getf (w := .int (s0 4)) dq_133_45 fl_133_116 (mw_0 hb) rfl ?_
        refine wp_if_ne (tgt := 94) dq_133_48 rfl (fun c2 => ?_) (fun c2 => ?_)
        · exact absurd (hc0.mpr (snd_l q)) c2
        · refine wp_aload_n dq_133_51 rfl ?_
          refine wp_cv0 (P := fun v h' => v = some (.int (nI (rs_iv B n 1 (.inl q)))) ∧ TR h' B n (rs_is n 1 (.inl q)) N z) dq_133_52 mt_133_141 (ob_of (mw_0 hb)) ⟨by decide +kernel, by decide +kernel⟩ (Nat.le_of_ble_eq_true rfl) (Nat.le_of_ble_eq_true rfl) (c_u1 hT (fun h' k1 => ⟨rfl, k1⟩)) (fun v9 h9 q9 => ?_)
          obtain ⟨rfl, hT⟩ := q9
          generalize hS1 : rs_is n 1 (.inl q) = S1 at hT
          obtain ⟨s1, fa1, hb, hz1, hc1, hp1⟩ := TR_x hT
          refine wp_istore (lv' := [(0, .ref 13), (1, .int (nI i)), (2, .int (nI p)), (3, .int (nI t)), (4, .int (nI c)), (5, .int (nI k)), (6, .int (nI (rs_iv B n 1 (.inl q))))]) dq_133_55 (by decide) rfl ?_
          refine wp_aload_n dq_133_57 rfl ?_
          refine wp_getf (w := .int (s1 4)) dq_133_58 fl_133_116 (mw_0 hb) rfl ?_
          refine wp_if_ne (tgt := 88) dq_133_61 rfl (fun c3 => ?_) (fun c3 => ?_)
          · refine wp_iinc (y := nI (k + 1)) (lv' := [(0, .ref 13), (1, .int (nI i)), (2, .int (nI p)), (3, .int (nI t)), (4, .int (nI c)), (5, .int (nI (k + 1))), (6, .int (nI (rs_iv B n 1 (.inl q))))]) dq_133_88 rfl (nI_add _ _) (by decide) rfl ?_
            refine wp_goto (tgt := 37) dq_133_91 rfl ?_
            refine wp_fg (l := [(0, .ref 13), (1, .int (nI i)), (2, .int (nI p)), (3, .int (nI t)), (4, .int (nI c)), (5, .int (nI (k + 1)))]) (e := [(6, .int (nI (rs_iv B n 1 (.inl q))))]) rfl rfl rfl ?_
            refine ih (k + 1) S1 h9 hT (by omega) (fun h' k1 => hK h' ?_)
            have e1 : ¬ q + 1 ≤ n := fun r => c3 (hc1.mpr (by rw [← hS1]; exact ⟨q + 1, if_pos r⟩))
            rw [ch_s, if_neg e1]
            rw [← hS1, show rs_is n 1 (.inl q) = .inr (1, n) from if_neg e1, ch_e] at k1
            exact k1
          · have hs1 := hc1.mp c3
            have e0 := sd_isp hS1 hs1
            have e1 : q + 1 ≤ n := e0.2.1
            have he : S1 = .inl (q + 1) := e0.2.2
            have e2 : rs_iv B n 1 (.inl q) = B q := rs_iv1 e1
            have hBq := TR_B hT q (by omega)
            have ho := mw_0 hb
            rw [hp1 hs1] at ho
            rw [e2]
            refine wp_iload dq_133_64 rfl ?_
            refine wp_iconst (x := nI 1) dq_133_66 rfl ?_
            refine wp_ic_ltN (tgt := 77) dq_133_67 rfl (by omega) (by omega) (fun c4 => ?_) (fun c4 => ?_)
            · refine wp_aload_n dq_133_77 rfl ?_
              refine wp_iconst (x := nI 4) dq_133_78 rfl ?_
              refine wp_aload_n dq_133_79 rfl ?_
              refine wp_getf (w := .int (nI (rs_p S1))) dq_133_80 fl_133_119 ho rfl ?_
              have hpq : rs_p S1 = q + 1 := by rw [he]; rfl
              refine wp_iconst (x := nI 1) dq_133_83 rfl ?_
              refine wp_isubN dq_133_84 (by omega) ?_
              refine wp_cv2 (P := fun v h' => v = none ∧ TR h' B n (rs_w false 4 q S1) N z) dq_133_85 mt_133_122 (ob_of (mw_0 hb)) ⟨by decide +kernel, by decide +kernel⟩ (Nat.le_of_ble_eq_true rfl) (Nat.le_of_ble_eq_true rfl) (c_fail hT (by decide) (fun hq => by rw [show rs_p S1 - 1 = q by rw [he]; rfl]) (fun h' k1 => ⟨rfl, k1⟩)) (fun v9 h9 q9 => ?_)
              obtain ⟨rfl, hT⟩ := q9
              generalize hS2 : rs_w false 4 q S1 = S2 at hT
              obtain ⟨s2, fa2, hb, hz2, hc2, hp2⟩ := TR_x hT
              refine wp_iinc (y := nI (k + 1)) (lv' := [(0, .ref 13), (1, .int (nI i)), (2, .int (nI p)), (3, .int (nI t)), (4, .int (nI c)), (5, .int (nI (k + 1))), (6, .int (nI (B q)))]) dq_133_88 rfl (nI_add _ _) (by decide) rfl ?_
              refine wp_goto (tgt := 37) dq_133_91 rfl ?_
              refine wp_fg (l := [(0, .ref 13), (1, .int (nI i)), (2, .int (nI p)), (3, .int (nI t)), (4, .int (nI c)), (5, .int (nI (k + 1)))]) (e := [(6, .int (nI (B q)))]) rfl rfl rfl ?_
              refine ih (k + 1) S2 h9 hT (by omega) (fun h' k1 => hK h' ?_)
              rw [ch_s, if_pos e1, if_neg (by omega)]
              rw [← hS2, he] at k1
              rw [show rs_w false 4 q (.inl (q + 1)) = .inr (4, q) from rfl, ch_e] at k1
              exact k1
            · refine wp_iload dq_133_70 rfl ?_
              refine wp_bipush (x := nI 127) dq_133_72 rfl ?_
              refine wp_ic_leN (tgt := 88) dq_133_74 rfl (by omega) (by omega) (fun c5 => ?_) (fun c5 => ?_)
              · refine wp_iinc (y := nI (k + 1)) (lv' := [(0, .ref 13), (1, .int (nI i)), (2, .int (nI p)), (3, .int (nI t)), (4, .int (nI c)), (5, .int (nI (k + 1))), (6, .int (nI (B q)))]) dq_133_88 rfl (nI_add _ _) (by decide) rfl ?_
                refine wp_goto (tgt := 37) dq_133_91 rfl ?_
                refine wp_fg (l := [(0, .ref 13), (1, .int (nI i)), (2, .int (nI p)), (3, .int (nI t)), (4, .int (nI c)), (5, .int (nI (k + 1)))]) (e := [(6, .int (nI (B q)))]) rfl rfl rfl ?_
                refine ih (k + 1) S1 h9 hT (by omega) (fun h' k1 => hK h' ?_)
                rw [ch_s, if_pos e1, if_pos (by omega)]
                rw [he] at k1
                exact k1
              · refine wp_aload_n dq_133_77 rfl ?_
                refine wp_iconst (x := nI 4) dq_133_78 rfl ?_
                refine wp_aload_n dq_133_79 rfl ?_
                refine wp_getf (w := .int (nI (rs_p S1))) dq_133_80 fl_133_119 ho rfl ?_
                have hpq : rs_p S1 = q + 1 := by rw [he]; rfl
                refine wp_iconst (x := nI 1) dq_133_83 rfl ?_
                refine wp_isubN dq_133_84 (by omega) ?_
                refine wp_cv2 (P := fun v h' => v = none ∧ TR h' B n (rs_w false 4 q S1) N z) dq_133_85 mt_133_122 (ob_of (mw_0 hb)) ⟨by decide +kernel, by decide +kernel⟩ (Nat.le_of_ble_eq_true rfl) (Nat.le_of_ble_eq_true rfl) (c_fail hT (by decide) (fun hq => by rw [show rs_p S1 - 1 = q by rw [he]; rfl]) (fun h' k1 => ⟨rfl, k1⟩)) (fun v9 h9 q9 => ?_)
                obtain ⟨rfl, hT⟩ := q9
                generalize hS2 : rs_w false 4 q S1 = S2 at hT
                obtain ⟨s2, fa2, hb, hz2, hc2, hp2⟩ := TR_x hT
                refine wp_iinc (y := nI (k + 1)) (lv' := [(0, .ref 13), (1, .int (nI i)), (2, .int (nI p)), (3, .int (nI t)), (4, .int (nI c)), (5, .int (nI (k + 1))), (6, .int (nI (B q)))]) dq_133_88 rfl (nI_add _ _) (by decide) rfl ?_
                refine wp_goto (tgt := 37) dq_133_91 rfl ?_
                refine wp_fg (l := [(0, .ref 13), (1, .int (nI i)), (2, .int (nI p)), (3, .int (nI t)), (4, .int (nI c)), (5, .int (nI (k + 1)))]) (e := [(6, .int (nI (B q)))]) rfl rfl rfl ?_
                refine ih (k + 1) S2 h9 hT (by omega) (fun h' k1 => hK h' ?_)
                rw [ch_s, if_pos e1, if_neg (by omega)]
                rw [← hS2, he] at k1
                rw [show rs_w false 4 q (.inl (q + 1)) = .inr (4, q) from rfl, ch_e] at k1
                exact k1
theorem en_1 {B : Nat → Nat} {n N i t p : Nat} {S : rS} (h : t = 1) : rs_en B n N i t p S = rs_tx B n S := if_pos h
theorem en_7 {B : Nat → Nat} {n N i t p : Nat} {S : rS} (h : t = 7 ∨ t = 8) : rs_en B n N i t p S = rs_is n 2 S := by
  unfold rs_en
  rw [if_neg (by omega), if_pos h]
theorem en_3 {B : Nat → Nat} {n N i t p : Nat} {S : rS} (h : t = 3 ∨ t = 4) : rs_en B n N i t p S = rs_is n 4 S := by
  unfold rs_en
  rw [if_neg (by omega), if_neg (by omega), if_pos (by omega)]
theorem en_9 {B : Nat → Nat} {n N i t p : Nat} {S : rS} (h : 9 ≤ t ∧ t ≤ 12) : rs_en B n N i t p S = rs_is n 2 (rs_is n 2 S) := by
  unfold rs_en
  rw [if_neg (by omega), if_neg (by omega), if_pos (by omega), is_is]
theorem en_5 {B : Nat → Nat} {n N i t p : Nat} {S : rS} (h : t = 5 ∨ t = 6) : rs_en B n N i t p S = rs_is n (4 + 4) (rs_w (decide (i + 1 < N)) 4 p S) := by
  unfold rs_en
  rw [if_neg (by omega), if_neg (by omega), if_neg (by omega), if_pos h, wt_b]
theorem en_x {B : Nat → Nat} {n N i t p : Nat} {S : rS} (h : t ≠ 1 ∧ t ≠ 3 ∧ t ≠ 4 ∧ t ≠ 5 ∧ t ≠ 6 ∧ (t < 7 ∨ 12 < t)) : rs_en B n N i t p S = rs_w false 4 p S := by
  unfold rs_en
  rw [if_neg (by omega), if_neg (by omega), if_neg (by omega), if_neg (by omega)]
  cases S with
  | inl q => rfl
  | inr e => rfl
set_option maxRecDepth 100000 in
theorem c_entry {L : Nat} {xs : Nat → Int32} {d n : Nat} {B : Nat → Nat} {N : Nat → Int32} {z : rZ} {S0 : rS} {h : List qx_E} {Q : Option Value → List qx_E → Prop} {i Nc : Nat} (hT : TR h B n S0 N z) (hs : snd S0) (hN2 : N 2 = nI Nc) (hi : 1 ≤ i ∧ i < Nc ∧ Nc ≤ 64) (hK : ∀ h' N', TR h' B n (rs_en B n Nc i (rs_iv B n 1 S0) (rs_p S0) (rs_is n 1 S0)) N' z → (∀ j, j ≠ 20 + i → (j ≠ 21 + i ∨ ¬ (rs_iv B n 1 S0 = 5 ∨ rs_iv B n 1 S0 = 6)) → N' j = N j) → N' (20 + i) = nI (rs_p S0) → (rs_iv B n 1 S0 = 5 ∨ rs_iv B n 1 S0 = 6 → i + 1 < 64 → N' (21 + i) = 0) → Q (some (.int (nI (if rs_iv B n 1 S0 = 5 ∨ rs_iv B n 1 S0 = 6 then i + 2 else i + 1)))) h') : wp_W L xs (d + 3) 133 0 (lv_args 0 [.ref 13, .int (nI i)]) [] h Q := by
  have hp9 := TR_pn hT
  have hn9 := TR_n hT
  have hi9 : rs_iv B n 1 S0 < 256 := TR_v1 hT
  have hF1 : ¬ (rs_iv B n 1 S0 = 5 ∨ rs_iv B n 1 S0 = 6) → ∀ h', TR h' B n (rs_en B n Nc i (rs_iv B n 1 S0) (rs_p S0) (rs_is n 1 S0)) (upd N (20 + i) (nI (rs_p S0))) z → Q (some (.int (nI (i + 1)))) h' := fun r h' k1 => by
    have := hK h' _ k1 (fun j h1 _ => pk_un h1) pk_us (fun r2 => absurd r2 r)
    rw [if_neg r] at this
    exact this
  have hF2 : (rs_iv B n 1 S0 = 5 ∨ rs_iv B n 1 S0 = 6) → i + 1 < 64 → ∀ h', TR h' B n (rs_en B n Nc i (rs_iv B n 1 S0) (rs_p S0) (rs_is n 1 S0)) (upd (upd N (20 + i) (nI (rs_p S0))) (21 + i) (nI 0)) z → Q (some (.int (nI (i + 2)))) h' := fun r r2 h' k1 => by
    have := hK h' _ k1 (fun j h1 h2 => by rcases h2 with h2 | h2; rw [pk_un h2, pk_un h1]; exact absurd r h2) (by rw [pk_un (by omega), pk_us]) (fun _ _ => pk_us)
    rw [if_pos r] at this
    exact this
  have hF3 : (rs_iv B n 1 S0 = 5 ∨ rs_iv B n 1 S0 = 6) → ¬ i + 1 < 64 → ∀ h', TR h' B n (rs_en B n Nc i (rs_iv B n 1 S0) (rs_p S0) (rs_is n 1 S0)) (upd N (20 + i) (nI (rs_p S0))) z → Q (some (.int (nI (i + 2)))) h' := fun r r2 h' k1 => by
    have := hK h' _ k1 (fun j h1 _ => pk_un h1) pk_us (fun _ r3 => absurd r3 r2)
    rw [if_pos r] at this
    exact this
  show wp_W L xs _ 133 0 [(0, .ref 13), (1, .int (nI i))] [] h Q
  obtain ⟨s0, fa0, hb, hz0, hc0, hp0⟩ := TR_x hT
  obtain ⟨s0, fa0, hb, hz0, hc0, hp0⟩ := TR_x hT
  have ho := mw_0 hb
  rw [hp0 hs, hc0.mpr hs] at ho
  refine wp_aload_n dq_133_0 rfl ?_
  refine wp_getf (w := .ref 15) dq_133_1 fl_133_13 ho rfl ?_
  refine wp_bipush (x := nI 20) dq_133_4 rfl ?_
  refine wp_iload_n dq_133_6 rfl ?_
  refine wp_iaddN dq_133_7 ?_
  refine wp_aload_n dq_133_8 rfl ?_
  refine wp_getf (w := .int (nI (rs_p S0))) dq_133_9 fl_133_119 ho rfl ?_
  refine wp_tn dq_133_12 (by omega) hT (fun h hT => ?_)
  obtain ⟨s0, fa0, hb, hz0, hc0, hp0⟩ := TR_x hT
  have ho := mw_0 hb
  rw [hp0 hs, hc0.mpr hs] at ho
  refine wp_aload_n dq_133_13 rfl ?_
  refine wp_getf (w := .int (nI (rs_p S0))) dq_133_14 fl_133_119 ho rfl ?_
  refine wp_istore_n (lv' := [(0, .ref 13), (1, .int (nI i)), (2, .int (nI (rs_p S0)))]) dq_133_17 (by decide) rfl ?_
  refine wp_aload_n dq_133_18 rfl ?_
  refine wp_cv0 (P := fun v h' => v = some (.int (nI (rs_iv B n 1 S0))) ∧ TR h' B n (rs_is n 1 S0) (upd N (20 + i) (nI (rs_p S0))) z) dq_133_19 mt_133_141 (ob_of (mw_0 hb)) ⟨by decide +kernel, by decide +kernel⟩ (Nat.le_of_ble_eq_true rfl) (Nat.le_of_ble_eq_true rfl) (c_u1 hT (fun h' k1 => ⟨rfl, k1⟩)) (fun v9 h9 q9 => ?_)
  obtain ⟨rfl, hT⟩ := q9
  generalize hS1 : rs_is n 1 S0 = S1 at hT
  obtain ⟨s1, fa1, hb, hz1, hc1, hp1⟩ := TR_x hT
  refine wp_istore_n (lv' := [(0, .ref 13), (1, .int (nI i)), (2, .int (nI (rs_p S0))), (3, .int (nI (rs_iv B n 1 S0)))]) dq_133_22 (by decide) rfl ?_
  refine wp_iload_n dq_133_23 rfl ?_
  refine wp_iconst (x := nI 1) dq_133_24 rfl ?_
  refine wp_ic_neN (tgt := 97) dq_133_25 rfl (by omega) (by omega) (fun c1 => ?_) (fun c1 => ?_)
  · refine wp_iload_n dq_133_97 rfl ?_
    refine wp_iconst (x := nI 5) dq_133_98 rfl ?_
    refine wp_ic_eqN (tgt := 108) dq_133_99 rfl (by omega) (by omega) (fun c2 => ?_) (fun c2 => ?_)
    · have hj108 : ∀ h, TR h B n (rs_w (decide (i + 1 < Nc)) 4 (rs_p S0) S1) (upd N (20 + i) (nI (rs_p S0))) z → wp_W L xs (d + 3) 133 126 [(0, .ref 13), (1, .int (nI i)), (2, .int (nI (rs_p S0))), (3, .int (nI (rs_iv B n 1 S0)))] ([]) h Q := by
        intro h hT
        generalize hS2 : rs_w (decide (i + 1 < Nc)) 4 (rs_p S0) S1 = S2 at hT
        obtain ⟨s2, fa2, hb, hz2, hc2, hp2⟩ := TR_x hT
        refine wp_aload_n dq_133_126 rfl ?_
        refine wp_cv0 (P := fun v h' => v = some (.long (lN (rs_iv B n 4 S2))) ∧ TR h' B n (rs_is n 4 S2) (upd N (20 + i) (nI (rs_p S0))) z) dq_133_127 mt_133_144 (ob_of (mw_0 hb)) ⟨by decide +kernel, by decide +kernel⟩ (Nat.le_of_ble_eq_true rfl) (Nat.le_of_ble_eq_true rfl) (c_u4 hT (fun h' k1 => ⟨rfl, k1⟩)) (fun v9 h9 q9 => ?_)
        obtain ⟨rfl, hT⟩ := q9
        generalize hS3 : rs_is n 4 S2 = S3 at hT
        obtain ⟨s3, fa3, hb, hz3, hc3, hp3⟩ := TR_x hT
        refine wp_lstore (lv' := [(0, .ref 13), (1, .int (nI i)), (2, .int (nI (rs_p S0))), (3, .int (nI (rs_iv B n 1 S0))), (4, .long (lN (rs_iv B n 4 S2)))]) dq_133_130 (by decide) rfl ?_
        refine wp_aload_n dq_133_132 rfl ?_
        refine wp_cv0 (P := fun v h' => v = some (.long (lN (rs_iv B n 4 S3))) ∧ TR h' B n (rs_is n 4 S3) (upd N (20 + i) (nI (rs_p S0))) z) dq_133_133 mt_133_144 (ob_of (mw_0 hb)) ⟨by decide +kernel, by decide +kernel⟩ (Nat.le_of_ble_eq_true rfl) (Nat.le_of_ble_eq_true rfl) (c_u4 hT (fun h' k1 => ⟨rfl, k1⟩)) (fun v9 h9 q9 => ?_)
        obtain ⟨rfl, hT⟩ := q9
        generalize hS4 : rs_is n 4 S3 = S4 at hT
        obtain ⟨s4, fa4, hb, hz4, hc4, hp4⟩ := TR_x hT
        refine wp_lstore (lv' := [(0, .ref 13), (1, .int (nI i)), (2, .int (nI (rs_p S0))), (3, .int (nI (rs_iv B n 1 S0))), (4, .long (lN (rs_iv B n 4 S3)))]) dq_133_136 (by decide) rfl ?_
        refine wp_iload_n dq_133_138 rfl ?_
        refine wp_iconst (x := nI 1) dq_133_139 rfl ?_
        refine wp_iaddN dq_133_140 ?_
        refine wp_bipush (x := nI 64) dq_133_141 rfl ?_
        refine wp_ic_geN (tgt := 156) dq_133_143 rfl (by omega) (by omega) (fun c3 => ?_) (fun c3 => ?_)
        · refine wp_iload_n dq_133_156 rfl ?_
          refine wp_iconst (x := nI 2) dq_133_157 rfl ?_
          refine wp_iaddN dq_133_158 ?_
          exact wp_ire dq_133_159 rfl ⟨rfl, Or.inl rfl⟩ (hF3 (by omega) (by omega) _ (by rw [en_5 (by omega), hS1, hS2, ← is_is (a := 4) (b := 4), hS3, hS4]; exact hT))
        · refine wp_aload_n dq_133_146 rfl ?_
          refine wp_getf (w := .ref 15) dq_133_147 fl_133_13 (mw_0 hb) rfl ?_
          refine wp_bipush (x := nI 21) dq_133_150 rfl ?_
          refine wp_iload_n dq_133_152 rfl ?_
          refine wp_iaddN dq_133_153 ?_
          refine wp_iconst (x := nI 0) dq_133_154 rfl ?_
          refine wp_tn dq_133_155 (by omega) hT (fun h hT => ?_)
          obtain ⟨s4, fa4, hb, hz4, hc4, hp4⟩ := TR_x hT
          refine wp_iload_n dq_133_156 rfl ?_
          refine wp_iconst (x := nI 2) dq_133_157 rfl ?_
          refine wp_iaddN dq_133_158 ?_
          exact wp_ire dq_133_159 rfl ⟨rfl, Or.inl rfl⟩ (hF2 (by omega) (by omega) _ (by rw [en_5 (by omega), hS1, hS2, ← is_is (a := 4) (b := 4), hS3, hS4]; exact hT))
      refine wp_iload_n dq_133_108 rfl ?_
      refine wp_iconst (x := nI 1) dq_133_109 rfl ?_
      refine wp_iaddN dq_133_110 ?_
      refine wp_aload_n dq_133_111 rfl ?_
      refine wp_getf (w := .ref 15) dq_133_112 fl_133_13 (mw_0 hb) rfl ?_
      refine wp_iconst (x := nI 2) dq_133_115 rfl ?_
      refine wp_ialdV (z := (nI Nc)) dq_133_116 (mw_2 hb) (by omega) (by decide) (by show upd N (20 + i) (nI (rs_p S0)) 2 = nI Nc; rw [pk_un (by omega)]; exact hN2) ?_
      refine wp_ic_ltN (tgt := 126) dq_133_117 rfl (by omega) (by omega) (fun c4 => ?_) (fun c4 => ?_)
      · exact hj108 _ (by rw [w_T (fun hq => decide_eq_true (by omega))]; exact hT)
      · refine wp_aload_n dq_133_120 rfl ?_
        refine wp_iconst (x := nI 4) dq_133_121 rfl ?_
        refine wp_iload_n dq_133_122 rfl ?_
        refine wp_cv2 (P := fun v h' => v = none ∧ TR h' B n (rs_w false 4 (rs_p S0) S1) (upd N (20 + i) (nI (rs_p S0))) z) dq_133_123 mt_133_122 (ob_of (mw_0 hb)) ⟨by decide +kernel, by decide +kernel⟩ (Nat.le_of_ble_eq_true rfl) (Nat.le_of_ble_eq_true rfl) (c_fail hT (by decide) (fun hq => rfl) (fun h' k1 => ⟨rfl, k1⟩)) (fun v9 h9 q9 => ?_)
        obtain ⟨rfl, hT⟩ := q9
        exact hj108 _ (by rw [w_F (fun hq => decide_eq_false (by omega))]; exact hT)
    · refine wp_iload_n dq_133_102 rfl ?_
      refine wp_bipush (x := nI 6) dq_133_103 rfl ?_
      refine wp_ic_neN (tgt := 160) dq_133_105 rfl (by omega) (by omega) (fun c5 => ?_) (fun c5 => ?_)
      · refine wp_iload_n dq_133_160 rfl ?_
        refine wp_iconst (x := nI 3) dq_133_161 rfl ?_
        refine wp_ic_eqN (tgt := 170) dq_133_162 rfl (by omega) (by omega) (fun c6 => ?_) (fun c6 => ?_)
        · refine wp_aload_n dq_133_170 rfl ?_
          refine wp_cv0 (P := fun v h' => v = some (.long (lN (rs_iv B n 4 S1))) ∧ TR h' B n (rs_is n 4 S1) (upd N (20 + i) (nI (rs_p S0))) z) dq_133_171 mt_133_144 (ob_of (mw_0 hb)) ⟨by decide +kernel, by decide +kernel⟩ (Nat.le_of_ble_eq_true rfl) (Nat.le_of_ble_eq_true rfl) (c_u4 hT (fun h' k1 => ⟨rfl, k1⟩)) (fun v9 h9 q9 => ?_)
          obtain ⟨rfl, hT⟩ := q9
          generalize hS2 : rs_is n 4 S1 = S2 at hT
          obtain ⟨s2, fa2, hb, hz2, hc2, hp2⟩ := TR_x hT
          refine wp_lstore (lv' := [(0, .ref 13), (1, .int (nI i)), (2, .int (nI (rs_p S0))), (3, .int (nI (rs_iv B n 1 S0))), (4, .long (lN (rs_iv B n 4 S1)))]) dq_133_174 (by decide) rfl ?_
          refine wp_goto (tgt := 233) dq_133_176 rfl ?_
          refine wp_iload_n dq_133_233 rfl ?_
          refine wp_iconst (x := nI 1) dq_133_234 rfl ?_
          refine wp_iaddN dq_133_235 ?_
          exact wp_ire dq_133_236 rfl ⟨rfl, Or.inl rfl⟩ (hF1 (by omega) _ (by rw [en_3 (by omega), hS1, hS2]; exact hT))
        · refine wp_iload_n dq_133_165 rfl ?_
          refine wp_iconst (x := nI 4) dq_133_166 rfl ?_
          refine wp_ic_neN (tgt := 179) dq_133_167 rfl (by omega) (by omega) (fun c7 => ?_) (fun c7 => ?_)
          · refine wp_iload_n dq_133_179 rfl ?_
            refine wp_bipush (x := nI 7) dq_133_180 rfl ?_
            refine wp_ic_eqN (tgt := 191) dq_133_182 rfl (by omega) (by omega) (fun c8 => ?_) (fun c8 => ?_)
            · refine wp_aload_n dq_133_191 rfl ?_
              refine wp_cv0 (P := fun v h' => v = some (.int (nI (rs_iv B n 2 S1))) ∧ TR h' B n (rs_is n 2 S1) (upd N (20 + i) (nI (rs_p S0))) z) dq_133_192 mt_133_134 (ob_of (mw_0 hb)) ⟨by decide +kernel, by decide +kernel⟩ (Nat.le_of_ble_eq_true rfl) (Nat.le_of_ble_eq_true rfl) (c_u2 hT (fun h' k1 => ⟨rfl, k1⟩)) (fun v9 h9 q9 => ?_)
              obtain ⟨rfl, hT⟩ := q9
              generalize hS2 : rs_is n 2 S1 = S2 at hT
              obtain ⟨s2, fa2, hb, hz2, hc2, hp2⟩ := TR_x hT
              have hv192 : rs_iv B n 2 S1 < 65536 := TR_v hT
              refine wp_istore (lv' := [(0, .ref 13), (1, .int (nI i)), (2, .int (nI (rs_p S0))), (3, .int (nI (rs_iv B n 1 S0))), (4, .int (nI (rs_iv B n 2 S1)))]) dq_133_195 (by decide) rfl ?_
              refine wp_goto (tgt := 233) dq_133_197 rfl ?_
              refine wp_iload_n dq_133_233 rfl ?_
              refine wp_iconst (x := nI 1) dq_133_234 rfl ?_
              refine wp_iaddN dq_133_235 ?_
              exact wp_ire dq_133_236 rfl ⟨rfl, Or.inl rfl⟩ (hF1 (by omega) _ (by rw [en_7 (by omega), hS1, hS2]; exact hT))
            · refine wp_iload_n dq_133_185 rfl ?_
              refine wp_bipush (x := nI 8) dq_133_186 rfl ?_
              refine wp_ic_neN (tgt := 200) dq_133_188 rfl (by omega) (by omega) (fun c9 => ?_) (fun c9 => ?_)
              · refine wp_iload_n dq_133_200 rfl ?_
                refine wp_bipush (x := nI 9) dq_133_201 rfl ?_
                refine wp_ic_ltN (tgt := 227) dq_133_203 rfl (by omega) (by omega) (fun c10 => ?_) (fun c10 => ?_)
                · refine wp_aload_n dq_133_227 rfl ?_
                  refine wp_iconst (x := nI 4) dq_133_228 rfl ?_
                  refine wp_iload_n dq_133_229 rfl ?_
                  refine wp_cv2 (P := fun v h' => v = none ∧ TR h' B n (rs_w false 4 (rs_p S0) S1) (upd N (20 + i) (nI (rs_p S0))) z) dq_133_230 mt_133_122 (ob_of (mw_0 hb)) ⟨by decide +kernel, by decide +kernel⟩ (Nat.le_of_ble_eq_true rfl) (Nat.le_of_ble_eq_true rfl) (c_fail hT (by decide) (fun hq => rfl) (fun h' k1 => ⟨rfl, k1⟩)) (fun v9 h9 q9 => ?_)
                  obtain ⟨rfl, hT⟩ := q9
                  generalize hS2 : rs_w false 4 (rs_p S0) S1 = S2 at hT
                  obtain ⟨s2, fa2, hb, hz2, hc2, hp2⟩ := TR_x hT
                  refine wp_iload_n dq_133_233 rfl ?_
                  refine wp_iconst (x := nI 1) dq_133_234 rfl ?_
                  refine wp_iaddN dq_133_235 ?_
                  exact wp_ire dq_133_236 rfl ⟨rfl, Or.inl rfl⟩ (hF1 (by omega) _ (by rw [en_x (by omega), hS1, hS2]; exact hT))
                · refine wp_iload_n dq_133_206 rfl ?_
                  refine wp_bipush (x := nI 12) dq_133_207 rfl ?_
                  refine wp_ic_gtN (tgt := 227) dq_133_209 rfl (by omega) (by omega) (fun c11 => ?_) (fun c11 => ?_)
                  · refine wp_aload_n dq_133_227 rfl ?_
                    refine wp_iconst (x := nI 4) dq_133_228 rfl ?_
                    refine wp_iload_n dq_133_229 rfl ?_
                    refine wp_cv2 (P := fun v h' => v = none ∧ TR h' B n (rs_w false 4 (rs_p S0) S1) (upd N (20 + i) (nI (rs_p S0))) z) dq_133_230 mt_133_122 (ob_of (mw_0 hb)) ⟨by decide +kernel, by decide +kernel⟩ (Nat.le_of_ble_eq_true rfl) (Nat.le_of_ble_eq_true rfl) (c_fail hT (by decide) (fun hq => rfl) (fun h' k1 => ⟨rfl, k1⟩)) (fun v9 h9 q9 => ?_)
                    obtain ⟨rfl, hT⟩ := q9
                    generalize hS2 : rs_w false 4 (rs_p S0) S1 = S2 at hT
                    obtain ⟨s2, fa2, hb, hz2, hc2, hp2⟩ := TR_x hT
                    refine wp_iload_n dq_133_233 rfl ?_
                    refine wp_iconst (x := nI 1) dq_133_234 rfl ?_
                    refine wp_iaddN dq_133_235 ?_
                    exact wp_ire dq_133_236 rfl ⟨rfl, Or.inl rfl⟩ (hF1 (by omega) _ (by rw [en_x (by omega), hS1, hS2]; exact hT))
                  · refine wp_aload_n dq_133_212 rfl ?_
                    refine wp_cv0 (P := fun v h' => v = some (.int (nI (rs_iv B n 2 S1))) ∧ TR h' B n (rs_is n 2 S1) (upd N (20 + i) (nI (rs_p S0))) z) dq_133_213 mt_133_134 (ob_of (mw_0 hb)) ⟨by decide +kernel, by decide +kernel⟩ (Nat.le_of_ble_eq_true rfl) (Nat.le_of_ble_eq_true rfl) (c_u2 hT (fun h' k1 => ⟨rfl, k1⟩)) (fun v9 h9 q9 => ?_)
                    obtain ⟨rfl, hT⟩ := q9
                    generalize hS2 : rs_is n 2 S1 = S2 at hT
                    obtain ⟨s2, fa2, hb, hz2, hc2, hp2⟩ := TR_x hT
                    have hv213 : rs_iv B n 2 S1 < 65536 := TR_v hT
                    refine wp_istore (lv' := [(0, .ref 13), (1, .int (nI i)), (2, .int (nI (rs_p S0))), (3, .int (nI (rs_iv B n 1 S0))), (4, .int (nI (rs_iv B n 2 S1)))]) dq_133_216 (by decide) rfl ?_
                    refine wp_aload_n dq_133_218 rfl ?_
                    refine wp_cv0 (P := fun v h' => v = some (.int (nI (rs_iv B n 2 S2))) ∧ TR h' B n (rs_is n 2 S2) (upd N (20 + i) (nI (rs_p S0))) z) dq_133_219 mt_133_134 (ob_of (mw_0 hb)) ⟨by decide +kernel, by decide +kernel⟩ (Nat.le_of_ble_eq_true rfl) (Nat.le_of_ble_eq_true rfl) (c_u2 hT (fun h' k1 => ⟨rfl, k1⟩)) (fun v9 h9 q9 => ?_)
                    obtain ⟨rfl, hT⟩ := q9
                    generalize hS3 : rs_is n 2 S2 = S3 at hT
                    obtain ⟨s3, fa3, hb, hz3, hc3, hp3⟩ := TR_x hT
                    have hv219 : rs_iv B n 2 S2 < 65536 := TR_v hT
                    refine wp_istore (lv' := [(0, .ref 13), (1, .int (nI i)), (2, .int (nI (rs_p S0))), (3, .int (nI (rs_iv B n 1 S0))), (4, .int (nI (rs_iv B n 2 S2)))]) dq_133_222 (by decide) rfl ?_
                    refine wp_goto (tgt := 233) dq_133_224 rfl ?_
                    refine wp_iload_n dq_133_233 rfl ?_
                    refine wp_iconst (x := nI 1) dq_133_234 rfl ?_
                    refine wp_iaddN dq_133_235 ?_
                    exact wp_ire dq_133_236 rfl ⟨rfl, Or.inl rfl⟩ (hF1 (by omega) _ (by rw [en_9 (by omega), hS1, hS2, hS3]; exact hT))
              · refine wp_aload_n dq_133_191 rfl ?_
                refine wp_cv0 (P := fun v h' => v = some (.int (nI (rs_iv B n 2 S1))) ∧ TR h' B n (rs_is n 2 S1) (upd N (20 + i) (nI (rs_p S0))) z) dq_133_192 mt_133_134 (ob_of (mw_0 hb)) ⟨by decide +kernel, by decide +kernel⟩ (Nat.le_of_ble_eq_true rfl) (Nat.le_of_ble_eq_true rfl) (c_u2 hT (fun h' k1 => ⟨rfl, k1⟩)) (fun v9 h9 q9 => ?_)
                obtain ⟨rfl, hT⟩ := q9
                generalize hS2 : rs_is n 2 S1 = S2 at hT
                obtain ⟨s2, fa2, hb, hz2, hc2, hp2⟩ := TR_x hT
                have hv192 : rs_iv B n 2 S1 < 65536 := TR_v hT
                refine wp_istore (lv' := [(0, .ref 13), (1, .int (nI i)), (2, .int (nI (rs_p S0))), (3, .int (nI (rs_iv B n 1 S0))), (4, .int (nI (rs_iv B n 2 S1)))]) dq_133_195 (by decide) rfl ?_
                refine wp_goto (tgt := 233) dq_133_197 rfl ?_
                refine wp_iload_n dq_133_233 rfl ?_
                refine wp_iconst (x := nI 1) dq_133_234 rfl ?_
                refine wp_iaddN dq_133_235 ?_
                exact wp_ire dq_133_236 rfl ⟨rfl, Or.inl rfl⟩ (hF1 (by omega) _ (by rw [en_7 (by omega), hS1, hS2]; exact hT))
          · refine wp_aload_n dq_133_170 rfl ?_
            refine wp_cv0 (P := fun v h' => v = some (.long (lN (rs_iv B n 4 S1))) ∧ TR h' B n (rs_is n 4 S1) (upd N (20 + i) (nI (rs_p S0))) z) dq_133_171 mt_133_144 (ob_of (mw_0 hb)) ⟨by decide +kernel, by decide +kernel⟩ (Nat.le_of_ble_eq_true rfl) (Nat.le_of_ble_eq_true rfl) (c_u4 hT (fun h' k1 => ⟨rfl, k1⟩)) (fun v9 h9 q9 => ?_)
            obtain ⟨rfl, hT⟩ := q9
            generalize hS2 : rs_is n 4 S1 = S2 at hT
            obtain ⟨s2, fa2, hb, hz2, hc2, hp2⟩ := TR_x hT
            refine wp_lstore (lv' := [(0, .ref 13), (1, .int (nI i)), (2, .int (nI (rs_p S0))), (3, .int (nI (rs_iv B n 1 S0))), (4, .long (lN (rs_iv B n 4 S1)))]) dq_133_174 (by decide) rfl ?_
            refine wp_goto (tgt := 233) dq_133_176 rfl ?_
            refine wp_iload_n dq_133_233 rfl ?_
            refine wp_iconst (x := nI 1) dq_133_234 rfl ?_
            refine wp_iaddN dq_133_235 ?_
            exact wp_ire dq_133_236 rfl ⟨rfl, Or.inl rfl⟩ (hF1 (by omega) _ (by rw [en_3 (by omega), hS1, hS2]; exact hT))
      · have hj108 : ∀ h, TR h B n (rs_w (decide (i + 1 < Nc)) 4 (rs_p S0) S1) (upd N (20 + i) (nI (rs_p S0))) z → wp_W L xs (d + 3) 133 126 [(0, .ref 13), (1, .int (nI i)), (2, .int (nI (rs_p S0))), (3, .int (nI (rs_iv B n 1 S0)))] ([]) h Q := by
          intro h hT
          generalize hS2 : rs_w (decide (i + 1 < Nc)) 4 (rs_p S0) S1 = S2 at hT
          obtain ⟨s2, fa2, hb, hz2, hc2, hp2⟩ := TR_x hT
          refine wp_aload_n dq_133_126 rfl ?_
          refine wp_cv0 (P := fun v h' => v = some (.long (lN (rs_iv B n 4 S2))) ∧ TR h' B n (rs_is n 4 S2) (upd N (20 + i) (nI (rs_p S0))) z) dq_133_127 mt_133_144 (ob_of (mw_0 hb)) ⟨by decide +kernel, by decide +kernel⟩ (Nat.le_of_ble_eq_true rfl) (Nat.le_of_ble_eq_true rfl) (c_u4 hT (fun h' k1 => ⟨rfl, k1⟩)) (fun v9 h9 q9 => ?_)
          obtain ⟨rfl, hT⟩ := q9
          generalize hS3 : rs_is n 4 S2 = S3 at hT
          obtain ⟨s3, fa3, hb, hz3, hc3, hp3⟩ := TR_x hT
          refine wp_lstore (lv' := [(0, .ref 13), (1, .int (nI i)), (2, .int (nI (rs_p S0))), (3, .int (nI (rs_iv B n 1 S0))), (4, .long (lN (rs_iv B n 4 S2)))]) dq_133_130 (by decide) rfl ?_
          refine wp_aload_n dq_133_132 rfl ?_
          refine wp_cv0 (P := fun v h' => v = some (.long (lN (rs_iv B n 4 S3))) ∧ TR h' B n (rs_is n 4 S3) (upd N (20 + i) (nI (rs_p S0))) z) dq_133_133 mt_133_144 (ob_of (mw_0 hb)) ⟨by decide +kernel, by decide +kernel⟩ (Nat.le_of_ble_eq_true rfl) (Nat.le_of_ble_eq_true rfl) (c_u4 hT (fun h' k1 => ⟨rfl, k1⟩)) (fun v9 h9 q9 => ?_)
          obtain ⟨rfl, hT⟩ := q9
          generalize hS4 : rs_is n 4 S3 = S4 at hT
          obtain ⟨s4, fa4, hb, hz4, hc4, hp4⟩ := TR_x hT
          refine wp_lstore (lv' := [(0, .ref 13), (1, .int (nI i)), (2, .int (nI (rs_p S0))), (3, .int (nI (rs_iv B n 1 S0))), (4, .long (lN (rs_iv B n 4 S3)))]) dq_133_136 (by decide) rfl ?_
          refine wp_iload_n dq_133_138 rfl ?_
          refine wp_iconst (x := nI 1) dq_133_139 rfl ?_
          refine wp_iaddN dq_133_140 ?_
          refine wp_bipush (x := nI 64) dq_133_141 rfl ?_
          refine wp_ic_geN (tgt := 156) dq_133_143 rfl (by omega) (by omega) (fun c12 => ?_) (fun c12 => ?_)
          · refine wp_iload_n dq_133_156 rfl ?_
            refine wp_iconst (x := nI 2) dq_133_157 rfl ?_
            refine wp_iaddN dq_133_158 ?_
            exact wp_ire dq_133_159 rfl ⟨rfl, Or.inl rfl⟩ (hF3 (by omega) (by omega) _ (by rw [en_5 (by omega), hS1, hS2, ← is_is (a := 4) (b := 4), hS3, hS4]; exact hT))
          · refine wp_aload_n dq_133_146 rfl ?_
            refine wp_getf (w := .ref 15) dq_133_147 fl_133_13 (mw_0 hb) rfl ?_
            refine wp_bipush (x := nI 21) dq_133_150 rfl ?_
            refine wp_iload_n dq_133_152 rfl ?_
            refine wp_iaddN dq_133_153 ?_
            refine wp_iconst (x := nI 0) dq_133_154 rfl ?_
            refine wp_tn dq_133_155 (by omega) hT (fun h hT => ?_)
            obtain ⟨s4, fa4, hb, hz4, hc4, hp4⟩ := TR_x hT
            refine wp_iload_n dq_133_156 rfl ?_
            refine wp_iconst (x := nI 2) dq_133_157 rfl ?_
            refine wp_iaddN dq_133_158 ?_
            exact wp_ire dq_133_159 rfl ⟨rfl, Or.inl rfl⟩ (hF2 (by omega) (by omega) _ (by rw [en_5 (by omega), hS1, hS2, ← is_is (a := 4) (b := 4), hS3, hS4]; exact hT))
        refine wp_iload_n dq_133_108 rfl ?_
        refine wp_iconst (x := nI 1) dq_133_109 rfl ?_
        refine wp_iaddN dq_133_110 ?_
        refine wp_aload_n dq_133_111 rfl ?_
        refine wp_getf (w := .ref 15) dq_133_112 fl_133_13 (mw_0 hb) rfl ?_
        refine wp_iconst (x := nI 2) dq_133_115 rfl ?_
        refine wp_ialdV (z := (nI Nc)) dq_133_116 (mw_2 hb) (by omega) (by decide) (by show upd N (20 + i) (nI (rs_p S0)) 2 = nI Nc; rw [pk_un (by omega)]; exact hN2) ?_
        refine wp_ic_ltN (tgt := 126) dq_133_117 rfl (by omega) (by omega) (fun c13 => ?_) (fun c13 => ?_)
        · exact hj108 _ (by rw [w_T (fun hq => decide_eq_true (by omega))]; exact hT)
        · refine wp_aload_n dq_133_120 rfl ?_
          refine wp_iconst (x := nI 4) dq_133_121 rfl ?_
          refine wp_iload_n dq_133_122 rfl ?_
          refine wp_cv2 (P := fun v h' => v = none ∧ TR h' B n (rs_w false 4 (rs_p S0) S1) (upd N (20 + i) (nI (rs_p S0))) z) dq_133_123 mt_133_122 (ob_of (mw_0 hb)) ⟨by decide +kernel, by decide +kernel⟩ (Nat.le_of_ble_eq_true rfl) (Nat.le_of_ble_eq_true rfl) (c_fail hT (by decide) (fun hq => rfl) (fun h' k1 => ⟨rfl, k1⟩)) (fun v9 h9 q9 => ?_)
          obtain ⟨rfl, hT⟩ := q9
          exact hj108 _ (by rw [w_F (fun hq => decide_eq_false (by omega))]; exact hT)
  · refine wp_aload_n dq_133_28 rfl ?_
    refine wp_cv0 (P := fun v h' => v = some (.int (nI (rs_iv B n 2 S1))) ∧ TR h' B n (rs_is n 2 S1) (upd N (20 + i) (nI (rs_p S0))) z) dq_133_29 mt_133_134 (ob_of (mw_0 hb)) ⟨by decide +kernel, by decide +kernel⟩ (Nat.le_of_ble_eq_true rfl) (Nat.le_of_ble_eq_true rfl) (c_u2 hT (fun h' k1 => ⟨rfl, k1⟩)) (fun v9 h9 q9 => ?_)
    obtain ⟨rfl, hT⟩ := q9
    generalize hS2 : rs_is n 2 S1 = S2 at hT
    obtain ⟨s2, fa2, hb, hz2, hc2, hp2⟩ := TR_x hT
    have hv29 : rs_iv B n 2 S1 < 65536 := TR_v hT
    refine wp_istore (lv' := [(0, .ref 13), (1, .int (nI i)), (2, .int (nI (rs_p S0))), (3, .int (nI (rs_iv B n 1 S0))), (4, .int (nI (rs_iv B n 2 S1)))]) dq_133_32 (by decide) rfl ?_
    refine wp_iconst (x := nI 0) dq_133_34 rfl ?_
    refine wp_istore (lv' := [(0, .ref 13), (1, .int (nI i)), (2, .int (nI (rs_p S0))), (3, .int (nI (rs_iv B n 1 S0))), (4, .int (nI (rs_iv B n 2 S1))), (5, .int (nI 0))]) dq_133_35 (by decide) rfl ?_
    refine c_entL hv29 (rs_iv B n 2 S1) 0 S2 h9 hT (by omega) (fun h hT => ?_)
    refine wp_goto (tgt := 233) dq_133_94 rfl ?_
    refine wp_iload_n dq_133_233 rfl ?_
    refine wp_iconst (x := nI 1) dq_133_234 rfl ?_
    refine wp_iaddN dq_133_235 ?_
    exact wp_ire dq_133_236 rfl ⟨rfl, Or.inl rfl⟩ (hF1 (by omega) _ (by rw [en_1 (by omega), rs_tx, hS1, hS2]; exact hT))
