theorem set_id {h : List qx_E} {k : Nat} {c : qx_E} (e : h[k]? = some c) : h.set k c = h := by
  apply List.ext_getElem?
  intro i
  by_cases hi : k = i
  · subst hi
    rw [st_eq e, e]
  · rw [List.getElem?_set_ne hi]
set_option maxRecDepth 100000 in
theorem c_flL {L : Nat} {xs : Nat → Int32} {d k N : Nat} {x : Int32} {Q : Option Value → List qx_E → Prop} (hN : N < 2 ^ 31) : ∀ j i (h : List qx_E) (f : Nat → Int32), h[k]? = some (.inl (.int, N, f)) → (∀ q, q < i → f q = x) → i + j = N → (∀ f', (∀ q, q < N → f' q = x) → Q none (h.set k (.inl (.int, N, f')))) → wp_W L xs d 12 5 [(0, .ref k), (1, .int x), (2, .int (nI i)), (3, .int (nI N))] [] h Q := by
  intro j
  induction j with
  | zero =>
    intro i h f hh hf hi hK
    refine wp_iload_n dq_12_5 rfl ?_
    refine wp_iload_n dq_12_6 rfl ?_
    refine wp_ic_ge (tgt := 20) dq_12_7 rfl (fun c1 => ?_) (fun c1 => absurd (nI_le (by omega) (by omega)) c1)
    have h1 := hK f (fun q hq => hf q (by omega))
    rw [set_id hh] at h1
    exact wp_vre dq_12_20 rfl h1
  | succ j ih =>
    intro i h f hh hf hi hK
    refine wp_iload_n dq_12_5 rfl ?_
    refine wp_iload_n dq_12_6 rfl ?_
    refine wp_ic_ge (tgt := 20) dq_12_7 rfl (fun c1 => absurd c1 (nI_ge (by omega) (by omega))) (fun c1 => ?_)
    refine wp_aload_n dq_12_10 rfl ?_
    refine wp_iload_n dq_12_11 rfl ?_
    refine wp_iload_n dq_12_12 rfl ?_
    refine wp_iast dq_12_13 hh (qx_in_n (by omega) hN) ?_
    refine wp_iinc (y := (nI i + 1)) (lv' := [(0, .ref k), (1, .int x), (2, .int (nI i + 1)), (3, .int (nI N))]) dq_12_14 rfl rfl (by decide) rfl ?_
    refine wp_goto (tgt := 5) dq_12_17 rfl ?_
    rw [nI_1, nI_clamp (by omega)]
    refine ih (i + 1) _ (upd f i x) (st_eq hh) (fun q hq => ?_) (by omega) (fun f' hf' => ?_)
    · by_cases hq2 : q = i
      · subst hq2; exact pk_us
      · exact (pk_un hq2).trans (hf q (by omega))
    · rw [List.set_set]
      exact hK f' hf'
set_option maxRecDepth 100000 in
theorem c_fill {L : Nat} {xs : Nat → Int32} {d k N : Nat} {x : Int32} {h : List qx_E} {f : Nat → Int32} (hN : N < 2 ^ 31) (hh : h[k]? = some (.inl (.int, N, f))) : wp_W L xs d 12 0 (lv_args 0 [.ref k, .int x]) [] h (fun v h' => v = none ∧ ∃ f', (∀ q, q < N → f' q = x) ∧ h' = h.set k (.inl (.int, N, f'))) := by
  show wp_W L xs _ 12 0 [(0, .ref k), (1, .int x)] [] h _
  refine wp_iconst (x := 0) dq_12_0 rfl ?_
  refine wp_istore_n (lv' := [(0, .ref k), (1, .int x), (2, .int 0)]) dq_12_1 (by decide) rfl ?_
  refine wp_aload_n dq_12_2 rfl ?_
  refine wp_alen dq_12_3 hh (by simp) ?_
  refine wp_istore_n (lv' := [(0, .ref k), (1, .int x), (2, .int (nI 0)), (3, .int (nI N))]) dq_12_4 (by decide) rfl ?_
  exact c_flL hN N 0 h f hh (fun q hq => absurd hq (Nat.not_lt_zero q)) (by omega) (fun f' hf' => ⟨rfl, f', hf', rfl⟩)
set_option maxRecDepth 100000 in
theorem c_pempty {L : Nat} {xs : Nat → Int32} {d b : Nat} {h : List qx_E} {s : Nat → Int32} {a : Nat → Nat → Int32} (hb : tb h b s a) : wp_W L xs (d + 1) 11 0 (lv_args 0 [.ref (b + 1)]) [] h (fun v h' => v = none ∧ ∃ f, (∀ q, q < 64 → f q = 0) ∧ tb h' b s (tb_va a 1 f) ∧ fr b h h') := by
  show wp_W L xs _ 11 0 [(0, .ref (b + 1))] [] h _
  refine wp_aload_n dq_11_0 rfl ?_
  refine wp_getf dq_11_1 fl_11_18 (tb_c1 hb) rfl ?_
  refine wp_iconst (x := 0) dq_11_4 rfl ?_
  refine wp_cs2 dq_11_5 (by decide +kernel) mt_11_31 (by decide +kernel) (Nat.le_of_ble_eq_true rfl) (Nat.le_of_ble_eq_true rfl) (c_fill (by decide) (tb_c4 hb)) (fun v9 h9 q9 => ?_)
  obtain ⟨rfl, f, hf0, rfl⟩ := q9
  exact wp_vre dq_11_8 rfl ⟨rfl, f, hf0, tb_w1 hb f, fr_set fr_rf (by omega) (by omega)⟩
def tc0 (a : Nat → Nat → Int32) : Prop := (∀ j, j < 64 → a 1 j = 0) ∧ (∀ i, i < 3 → a 5 i = 0) ∧ a 5 3 = 1 ∧ (∀ q, q < 441 → a 7 q = 0)
set_option maxRecDepth 100000 in
theorem c_tempty {L : Nat} {xs : Nat → Int32} {d b n : Nat} {B : Nat → Nat} {fp : Int32} {h : List qx_E} {S : rS} {a : Nat → Nat → Int32} (hT : TS h b B n S fp a) : wp_W L xs (d + 2) 10 0 (lv_args 0 [.ref b]) [] h (fun v h' => v = none ∧ ∃ a', TS h' b B n S 0 a' ∧ tc0 a' ∧ fr b h h') := by
  show wp_W L xs _ 10 0 [(0, .ref b)] [] h _
  obtain ⟨s, hb, hc, hO, hn, h0, h1, hm⟩ := hT
  have hf : fr b h h := fr_rf
  refine wp_aload_n dq_10_0 rfl ?_
  refine wp_getf dq_10_1 fl_10_14 (tb_c0 hb) rfl ?_
  refine wp_cv0 dq_10_4 mt_10_39 (ob_of (tb_c1 hb)) ⟨by decide +kernel, by decide +kernel⟩ (Nat.le_of_ble_eq_true rfl) (Nat.le_of_ble_eq_true rfl) (c_pempty hb) (fun v9 h9 q9 => ?_)
  obtain ⟨rfl, f, hf0, hb, hf9⟩ := q9
  have hf := fr_tr hf hf9
  clear hf9
  refine wp_aload_n dq_10_7 rfl ?_
  refine wp_iconst (x := 0) dq_10_8 rfl ?_
  refine wp_p0 dq_10_9 fp_10_23 hb hf (fun h hb hf => ?_)
  refine wp_aload_n dq_10_12 rfl ?_
  refine wp_getf dq_10_13 fl_10_27 (tb_c0 hb) rfl ?_
  refine wp_iconst (x := 0) dq_10_16 rfl ?_
  refine wp_cs2 dq_10_17 (by decide +kernel) mt_10_42 (by decide +kernel) (Nat.le_of_ble_eq_true rfl) (Nat.le_of_ble_eq_true rfl) (c_fill (by decide) (tb_c8 hb)) (fun v9 h9 q9 => ?_)
  obtain ⟨rfl, f5, hf5, rfl⟩ := q9
  have hf := fr_set (c := .inl (.int, 4, f5)) hf (show b ≤ b + 8 by omega) (show b + 8 ≤ b + 10 by omega)
  have hb := tb_w5 hb f5
  refine wp_aload_n dq_10_20 rfl ?_
  refine wp_getf dq_10_21 fl_10_27 (tb_c0 hb) rfl ?_
  refine wp_iconst (x := 3) dq_10_24 rfl ?_
  refine wp_iconst (x := 1) dq_10_25 rfl ?_
  refine wp_a5 dq_10_26 (by decide) hb hf (fun h hb hf => ?_)
  refine wp_aload_n dq_10_27 rfl ?_
  refine wp_getf dq_10_28 fl_10_36 (tb_c0 hb) rfl ?_
  refine wp_iconst (x := 0) dq_10_31 rfl ?_
  refine wp_cs2 dq_10_32 (by decide +kernel) mt_10_42 (by decide +kernel) (Nat.le_of_ble_eq_true rfl) (Nat.le_of_ble_eq_true rfl) (c_fill (by decide) (tb_c10 hb)) (fun v9 h9 q9 => ?_)
  obtain ⟨rfl, f7, hf7, rfl⟩ := q9
  have hf := fr_set (c := .inl (.int, 441, f7)) hf (show b ≤ b + 10 by omega) (show b + 10 ≤ b + 10 by omega)
  have hb := tb_w7 hb f7
  refine wp_vre dq_10_35 rfl ⟨rfl, _, ⟨_, hb, ?_, hO, hn, rfl, h1, ?_⟩, ⟨hf0, fun i hi => ?_, rfl, hf7⟩, hf⟩
  · refine ⟨fun i hi => ⟨0, by decide, ?_⟩, 1, by decide, rfl⟩
    show upd f5 3 1 i = nI 0
    rw [pk_un (by omega), hf5 i (by omega)]
    rfl
  · cases S with
    | inl p => exact hm
    | inr e => exact hm
  · show upd f5 3 1 i = 0
    rw [pk_un (by omega), hf5 i (by omega)]
theorem tc_bg {a : Nat → Nat → Int32} {kd k : Nat} {g : Nat → Int32} (hc : tc a) (hkd : kd < 3) (hk : k < 16) : tc (tb_va (tb_va a 5 (upd (a 5) kd (nI (k + 1)))) 6 g) := by
  obtain ⟨h1, c3, h2, h3⟩ := hc
  refine ⟨fun i hi => ?_, c3, h2, ?_⟩
  · by_cases e : i = kd
    · subst e
      exact ⟨k + 1, by omega, pk_us⟩
    · obtain ⟨c, hc, ec⟩ := h1 i hi
      exact ⟨c, hc, (pk_un e).trans ec⟩
  · exact (pk_un (show 3 ≠ kd by omega)).trans h3
set_option maxRecDepth 100000 in
theorem c_begin {L : Nat} {xs : Nat → Int32} {d b n : Nat} {B : Nat → Nat} {fp : Int32} {h : List qx_E} {S : rS} {a : Nat → Nat → Int32} {kd k : Nat} {y : Int32} (hT : TS h b B n S fp a) (hkd : kd < 3) (hk : k < 16) : wp_W L xs d 80 0 (lv_args 0 [.ref b, .int (nI kd), .int (nI k), .int y]) [] h (fun v h' => v = none ∧ TS h' b B n S fp (tb_va (tb_va a 5 (upd (a 5) kd (nI (k + 1)))) 6 (upd (a 6) (16 * kd + k) y)) ∧ fr b h h') := by
  obtain ⟨s, hb, hc, hO, hn, h0, h1, hm⟩ := hT
  have hf : fr b h h := fr_rf
  show wp_W L xs _ 80 0 [(0, .ref b), (1, .int (nI kd)), (2, .int (nI k)), (3, .int y)] [] h _
  refine wp_iload_n dq_80_0 rfl ?_
  refine wp_if_lt (tgt := 19) dq_80_1 rfl (fun c1 => ?_) (fun c1 => ?_)
  · exact absurd c1 (nI_pos (by omega))
  · refine wp_iload_n dq_80_4 rfl ?_
    refine wp_iconst (x := 2) dq_80_5 rfl ?_
    refine wp_ic_gt (tgt := 19) dq_80_6 rfl (fun c2 => ?_) (fun c2 => ?_)
    · exact absurd c2 (nI_nlt (a := 2) (by omega) (by omega))
    · refine wp_iload_n dq_80_9 rfl ?_
      refine wp_if_lt (tgt := 19) dq_80_10 rfl (fun c3 => ?_) (fun c3 => ?_)
      · exact absurd c3 (nI_pos (by omega))
      · refine wp_iload_n dq_80_13 rfl ?_
        refine wp_bipush (x := 16) dq_80_14 rfl ?_
        refine wp_ic_lt (tgt := 20) dq_80_16 rfl (fun c4 => ?_) (fun c4 => ?_)
        · refine wp_aload_n dq_80_20 rfl ?_
          refine wp_getf dq_80_21 fl_80_27 (tb_c0 hb) rfl ?_
          refine wp_iload_n dq_80_24 rfl ?_
          refine wp_iload_n dq_80_25 rfl ?_
          refine wp_iconst (x := 1) dq_80_26 rfl ?_
          refine wp_iadd dq_80_27 ?_
          rw [nI_1]
          refine wp_a5 dq_80_28 (qx_in_n (by omega) (by decide)) hb hf (fun h hb hf => ?_)
          rw [nI_clamp (show kd < 2 ^ 31 by omega)] at hb
          refine wp_aload_n dq_80_29 rfl ?_
          refine wp_getf dq_80_30 fl_80_31 (tb_c0 hb) rfl ?_
          refine wp_bipush (x := 16) dq_80_33 rfl ?_
          refine wp_iload_n dq_80_35 rfl ?_
          refine wp_imul dq_80_36 ?_
          refine wp_iload_n dq_80_37 rfl ?_
          refine wp_iadd dq_80_38 ?_
          rw [show (16 : Int32) = nI 16 from rfl, pk_mul, nI_add]
          refine wp_iload_n dq_80_39 rfl ?_
          refine wp_a6 dq_80_40 (qx_in_n (by omega) (by decide)) hb hf (fun h hb hf => ?_)
          rw [nI_clamp (show 16 * kd + k < 2 ^ 31 by omega)] at hb
          exact wp_vre dq_80_41 rfl ⟨rfl, ⟨s, hb, tc_bg hc hkd hk, hO, hn, h0, h1, hm⟩, hf⟩
        · exact absurd (nI_lt (b := 16) (by omega) (by decide)) c4
set_option maxRecDepth 100000 in
theorem c_keep {L : Nat} {xs : Nat → Int32} {d b n : Nat} {B : Nat → Nat} {fp : Int32} {h : List qx_E} {S : rS} {a : Nat → Nat → Int32} {x k y : Int32} {w : Nat} (hT : TS h b B n S fp a) (he : qx_en w = true) : wp_W L xs (d + 1) 95 0 (lv_args 0 [.ref b, .int x, .int k, .retAddr w, .int y]) [] h (fun v h' => v = none ∧ ∃ a', TS h' b B n S fp a' ∧ fr b h h' ∧ (∀ q, q ≠ 7 → a' q = a q) ∧ (¬ f_has (fun _ => 0) a x k = 0 ∧ True → a' 7 = upd (a 7) (f_slotOf x k w).toNatClampNeg y)) := by
  obtain ⟨s, hb, hc, hO, hn, h0, h1, hm⟩ := hT
  have hw := TS_tw hc hn h1 hm
  have hf : fr b h h := fr_rf
  show wp_W L xs _ 95 0 [(0, .ref b), (1, .int x), (2, .int k), (3, .retAddr w), (4, .int y)] [] h _
  refine wp_aload_n dq_95_0 rfl ?_
  refine wp_iload_n dq_95_1 rfl ?_
  refine wp_iload_n dq_95_2 rfl ?_
  refine wp_cve2 dq_95_3 mt_95_48 (ob_of (tb_c0 hb)) ⟨by decide +kernel, by decide +kernel⟩ (Nat.le_of_ble_eq_true rfl) (Nat.le_of_ble_eq_true rfl) (c_has hb) ?_
  refine wp_if_eq (tgt := 22) dq_95_6 rfl (fun c1 => ?_) (fun c1 => ?_)
  · exact wp_vre dq_95_22 rfl ⟨rfl, _, ⟨s, hb, hc, hO, hn, h0, h1, hm⟩, hf, fun q hq => rfl, fun r => absurd c1 r.1⟩
  · refine wp_aload_n dq_95_9 rfl ?_
    refine wp_getf dq_95_10 fl_95_36 (tb_c0 hb) rfl ?_
    refine wp_iload_n dq_95_13 rfl ?_
    refine wp_iload_n dq_95_14 rfl ?_
    refine wp_aload_nK dq_95_15 rfl ?_
    refine wp_cse3 dq_95_16 (by decide +kernel) mt_95_52 (by decide +kernel) (Nat.le_of_ble_eq_true rfl) (Nat.le_of_ble_eq_true rfl) (c_slotOf he) ?_
    refine wp_iload dq_95_19 rfl ?_
    refine wp_a7 dq_95_21 (in_sl he hw c1) hb hf (fun h hb hf => ?_)
    exact wp_vre dq_95_22 rfl ⟨rfl, _, ⟨s, hb, hc, hO, hn, h0, h1, hm⟩, hf, fun q hq => if_neg hq, fun r => rfl⟩
