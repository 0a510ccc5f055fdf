/-- the characters of a text -/
def rs_ch (B : Nat → Nat) (n : Nat) : Nat → rS → rS
  | 0, S => S
  | j + 1, .inl p => if p + 1 ≤ n then (if 1 ≤ B p ∧ B p ≤ 127 then rs_ch B n j (.inl (p + 1)) else .inr (4, p)) else .inr (1, n)
  | _ + 1, .inr e => .inr e
theorem rs_ch_e (B : Nat → Nat) (n j : Nat) (e : Nat × Nat) : rs_ch B n j (.inr e) = .inr e := by cases j <;> rfl
def rs_tx (B : Nat → Nat) (n : Nat) (S : rS) : rS := rs_ch B n (rs_iv B n 2 S) (rs_is n 2 S)
theorem rs_iv2 {B : Nat → Nat} {n : Nat} {S : rS} (hB : ∀ j, j < n → B j < 256) : rs_iv B n 2 S < 65536 := by
  cases S with
  | inl p =>
    show (if p + 2 ≤ n then bu_U B p 2 else 0) < 65536
    split
    · exact bu_lt (k := 2) (fun j hj => hB (p + j) (by omega))
    · decide
  | inr e => exact (by decide : (0 : Nat) < 65536)
theorem rs_iv1 {B : Nat → Nat} {n p : Nat} (hp : p + 1 ≤ n) : rs_iv B n 1 (.inl p) = B p := by
  show (if p + 1 ≤ n then bu_U B p 1 else 0) = B p
  rw [if_pos hp]
  simp [bu_U]
theorem rs_ch_z {B : Nat → Nat} {n p j : Nat} (hx : p + 1 ≤ n → ¬ (1 ≤ B p ∧ B p ≤ 127)) : rs_wt 0 4 p (rs_is n 1 (.inl p)) = rs_ch B n (j + 1) (.inl p) ∧ ∃ e0, rs_wt 0 4 p (rs_is n 1 (.inl p)) = .inr e0 := by
  show rs_wt 0 4 p (if p + 1 ≤ n then .inl (p + 1) else .inr (1, n)) = (if p + 1 ≤ n then (if 1 ≤ B p ∧ B p ≤ 127 then rs_ch B n j (.inl (p + 1)) else .inr (4, p)) else .inr (1, n)) ∧ ∃ e0, rs_wt 0 4 p (if p + 1 ≤ n then .inl (p + 1) else .inr (1, n)) = .inr e0
  by_cases hp1 : p + 1 ≤ n
  · rw [if_pos hp1, if_pos hp1, if_neg (hx hp1)]
    exact ⟨rfl, _, rfl⟩
  · rw [if_neg hp1, if_neg hp1]
    exact ⟨rfl, _, rfl⟩
theorem rs_ch_g {B : Nat → Nat} {n p j : Nat} (hp1 : p + 1 ≤ n) (hx : 1 ≤ B p ∧ B p ≤ 127) : rs_ch B n (j + 1) (.inl p) = rs_ch B n j (.inl (p + 1)) ∧ rs_wt 1 4 p (rs_is n 1 (.inl p)) = .inl (p + 1) := by
  show (if p + 1 ≤ n then (if 1 ≤ B p ∧ B p ≤ 127 then rs_ch B n j (.inl (p + 1)) else .inr (4, p)) else .inr (1, n)) = _ ∧ rs_wt 1 4 p (if p + 1 ≤ n then .inl (p + 1) else .inr (1, n)) = _
  rw [if_pos hp1, if_pos hp1, if_pos hx]
  exact ⟨rfl, rfl⟩
theorem TS_B {h : List qx_E} {b n : Nat} {B : Nat → Nat} {S : rS} {fp : Int32} {a : Nat → Nat → Int32} (hT : TS h b B n S fp a) : ∀ j, j < n → B j < 256 := fun j hj => (hT.choose_spec.2.2.1 j hj).2
theorem lc_lt1 {q : Nat} (hq : q < 2 ^ 63) : lg_cmp (lN q) 1 < 0 ↔ q < 1 := by
  unfold lg_cmp
  have h1 : (1 : Int64) = lN 1 := rfl
  rw [h1]
  by_cases c1 : lN q > lN 1
  · rw [if_pos c1]
    have := (pk_lLT (by decide) hq).mp c1
    exact ⟨fun h => absurd h (by decide), fun h => by omega⟩
  · rw [if_neg c1]
    by_cases c2 : lN q = lN 1
    · rw [if_pos c2]
      have := (pk_lEQ hq (by decide)).mp c2
      exact ⟨fun h => absurd h (by decide), fun h => by omega⟩
    · rw [if_neg c2]
      have h3 : ¬ 1 < q := fun h => c1 ((pk_lLT (by decide) hq).mpr h)
      have h4 : ¬ q = 1 := fun h => c2 (by rw [h])
      exact ⟨fun _ => by omega, fun _ => by decide⟩
theorem lc_gt {q r : Nat} (hq : q < 2 ^ 63) (hr : r < 2 ^ 63) : 0 < lg_cmp (lN q) (lN r) ↔ r < q := by
  unfold lg_cmp
  by_cases c1 : lN q > lN r
  · rw [if_pos c1]
    exact ⟨fun _ => (pk_lLT hr hq).mp c1, fun _ => by decide⟩
  · rw [if_neg c1]
    have c2 : ¬ r < q := fun h => c1 ((pk_lLT hr hq).mpr h)
    split
    · exact ⟨fun h => absurd h (by decide), fun h => absurd h c2⟩
    · exact ⟨fun h => absurd h (by decide), fun h => absurd h c2⟩
set_option maxRecDepth 100000 in
theorem c_txL {L : Nat} {xs : Nat → Int32} {d b n : Nat} {B : Nat → Nat} {fp : Int32} {i len : Nat} {h0 : List qx_E} {a : Nat → Nat → Int32} {Q : Option Value → List qx_E → Prop} (hlen : len < 65536) (hBB : ∀ j, j < n → B j < 256) : ∀ j k S (h : List qx_E) (e : qx_L), TS h b B n S fp a → fr b h0 h → (∃ e1 : qx_L, (∀ k (v : Int32), qx_st1 ((0, .ref (b + 1)) :: (1, .int (nI i)) :: (2, .int (nI len)) :: (3, .int (nI k)) :: e) 4 (.int v) = (0, .ref (b + 1)) :: (1, .int (nI i)) :: (2, .int (nI len)) :: (3, .int (nI k)) :: (4, .int v) :: e1) ∧ (∀ k (v : Int32) (w : Int64), qx_st2 ((0, .ref (b + 1)) :: (1, .int (nI i)) :: (2, .int (nI len)) :: (3, .int (nI k)) :: (4, .int v) :: e1) 5 (.long w) = (0, .ref (b + 1)) :: (1, .int (nI i)) :: (2, .int (nI len)) :: (3, .int (nI k)) :: [(4, .int v), (5, .long w)]) ∧ (∀ k v, qx_st1 ((0, .ref (b + 1)) :: (1, .int (nI i)) :: (2, .int (nI len)) :: (3, .int (nI k)) :: e) 3 (.int v) = (0, .ref (b + 1)) :: (1, .int (nI i)) :: (2, .int (nI len)) :: (3, .int v) :: e)) → k + j = len → (∀ h', TS h' b B n (rs_ch B n j S) fp a → fr b h0 h' → Q none h') → wp_W L xs (d + 2) 22 17 ((0, .ref (b + 1)) :: (1, .int (nI i)) :: (2, .int (nI len)) :: (3, .int (nI k)) :: e) [] h Q := by
  intro j
  induction j with
  | zero =>
    intro k S h e hT hf he hk hK
    refine wp_iload_n dq_22_17 rfl ?_
    refine wp_iload_n dq_22_18 rfl ?_
    refine wp_ic_ge (tgt := 88) dq_22_19 rfl (fun c1 => ?_) (fun c1 => absurd (nI_le (by omega) (by omega)) c1)
    exact wp_vre dq_22_88 rfl (hK h hT hf)
  | succ j ih =>
    intro k S h e hT hf he hk hK
    obtain ⟨e1, he1, he2, he3⟩ := he
    obtain ⟨s, hb, hc, hO, hn, h0', h1, hm⟩ := id hT
    cases S with
    | inr e0 =>
      refine wp_iload_n dq_22_17 rfl ?_
      refine wp_iload_n dq_22_18 rfl ?_
      refine wp_ic_ge (tgt := 88) dq_22_19 rfl (fun c1 => absurd c1 (nI_ge (by omega) (by omega))) (fun c1 => ?_)
      refine wp_aload_n dq_22_22 rfl ?_
      refine wp_getf dq_22_23 fl_22_12 (tb_c1 hb) rfl ?_
      refine wp_cve0 dq_22_26 mt_22_37 (ob_of (tb_c2 hb)) ⟨by decide +kernel, by decide +kernel⟩ (Nat.le_of_ble_eq_true rfl) (Nat.le_of_ble_eq_true rfl) (c_soundT hT) ?_
      refine wp_if_eq (tgt := 88) dq_22_29 rfl (fun c2 => ?_) (fun c2 => absurd rfl c2)
      exact wp_vre dq_22_88 rfl (hK h (by rw [rs_ch_e]; exact hT) hf)
    | inl p =>
      obtain ⟨hp, h2, h3, h4⟩ := id hm
      have hv1 : rs_iv B n 1 (.inl p) < 256 := by
        show (if p + 1 ≤ n then bu_U B p 1 else 0) < 256
        split
        · exact bu_lt (k := 1) (fun j hj => hBB (p + j) (by omega))
        · decide
      refine wp_iload_n dq_22_17 rfl ?_
      refine wp_iload_n dq_22_18 rfl ?_
      refine wp_ic_ge (tgt := 88) dq_22_19 rfl (fun c1 => ?_) (fun c1 => ?_)
      · exact absurd c1 (nI_ge (by omega) (by omega))
      · refine wp_aload_n dq_22_22 rfl ?_
        refine wp_getf dq_22_23 fl_22_12 (tb_c1 hb) rfl ?_
        refine wp_cve0 dq_22_26 mt_22_37 (ob_of (tb_c2 hb)) ⟨by decide +kernel, by decide +kernel⟩ (Nat.le_of_ble_eq_true rfl) (Nat.le_of_ble_eq_true rfl) (c_soundT hT) ?_
        refine wp_if_eq (tgt := 88) dq_22_29 rfl (fun c2 => ?_) (fun c2 => ?_)
        · exact absurd c2 (by show ¬ (1 : Int32) = 0; decide)
        · refine wp_aload_n dq_22_32 rfl ?_
          refine wp_getf dq_22_33 fl_22_12 (tb_c1 hb) rfl ?_
          refine wp_getf dq_22_36 fl_22_41 (tb_c2 hb) rfl ?_
          refine wp_istore dq_22_39 (by decide) (he1 k _) ?_
          refine wp_aload_n dq_22_41 rfl ?_
          refine wp_getf dq_22_42 fl_22_12 (tb_c1 hb) rfl ?_
          refine wp_iconst (x := 1) dq_22_45 rfl ?_
          refine wp_cv1 dq_22_46 mt_22_45 (ob_of (tb_c2 hb)) ⟨by decide +kernel, by decide +kernel⟩ (Nat.le_of_ble_eq_true rfl) (Nat.le_of_ble_eq_true rfl) (c_itemT (k := 1) hT (by decide)) (fun v9 h9 q9 => ?_)
          obtain ⟨rfl, hT, hf9⟩ := q9
          have hf := fr_tr hf hf9
          clear hf9
          obtain ⟨s9, hb, -⟩ := id hT
          refine wp_lstore dq_22_49 (by decide) (he2 k _ _) ?_
          refine wp_aload_n dq_22_51 rfl ?_
          refine wp_getf dq_22_52 fl_22_12 (tb_c1 hb) rfl ?_
          refine wp_lload dq_22_55 rfl ?_
          refine wp_lconst (x := 1) dq_22_57 rfl ?_
          refine wp_lcmp dq_22_58 ?_
          refine wp_if_lt (tgt := 75) dq_22_59 rfl (fun c3 => ?_) (fun c3 => ?_)
          · have hx1 : rs_iv B n 1 (.inl p) < 1 := (lc_lt1 (by omega)).mp c3
            refine wp_iconst (x := 0) dq_22_75 rfl ?_
            refine wp_iconst (x := 4) dq_22_76 rfl ?_
            refine wp_iload dq_22_77 rfl ?_
            refine wp_cv3 dq_22_79 mt_22_65 (ob_of (tb_c2 hb)) ⟨by decide +kernel, by decide +kernel⟩ (Nat.le_of_ble_eq_true rfl) (Nat.le_of_ble_eq_true rfl) (c_wantT (f := 4) (p := p) hT (by decide) (fun _ => h2)) (fun v9 h9 q9 => ?_)
            obtain ⟨rfl, hT, hf9⟩ := q9
            have hf := fr_tr hf hf9
            clear hf9
            refine wp_iinc (y := ((nI k) + 1)) (lv' := [(0, .ref (b + 1)), (1, .int (nI i)), (2, .int (nI len)), (3, .int ((nI k) + 1)), (4, .int (s 2)), (5, .long (lN (rs_iv B n 1 (.inl p))))]) dq_22_82 rfl rfl (by decide) rfl ?_
            refine wp_goto (tgt := 17) dq_22_85 rfl ?_
            rw [nI_1]
            obtain ⟨eS, e0, he0⟩ := rs_ch_z (B := B) (n := n) (p := p) (j := j) (fun hp1 => by rw [rs_iv1 hp1] at hx1; omega)
            refine ih (k + 1) (.inr e0) _ _ (by rw [← he0]; exact hT) hf ⟨_, fun _ _ => rfl, fun _ _ _ => rfl, fun _ _ => rfl⟩ (by omega) (fun h3 hT3 hf3 => hK h3 ?_ hf3)
            rw [rs_ch_e, ← he0, eS] at hT3
            exact hT3
          · have hx1 : ¬ rs_iv B n 1 (.inl p) < 1 := fun r => c3 ((lc_lt1 (by omega)).mpr r)
            refine wp_lload dq_22_62 rfl ?_
            refine wp_ldc2 (v := 127) dq_22_64 (by decide +kernel) ?_
            refine wp_lcmp dq_22_67 ?_
            refine wp_if_gt (tgt := 75) dq_22_68 rfl (fun c4 => ?_) (fun c4 => ?_)
            · have hx2 : 127 < rs_iv B n 1 (.inl p) := (lc_gt (r := 127) (by omega) (by decide)).mp c4
              refine wp_iconst (x := 0) dq_22_75 rfl ?_
              refine wp_iconst (x := 4) dq_22_76 rfl ?_
              refine wp_iload dq_22_77 rfl ?_
              refine wp_cv3 dq_22_79 mt_22_65 (ob_of (tb_c2 hb)) ⟨by decide +kernel, by decide +kernel⟩ (Nat.le_of_ble_eq_true rfl) (Nat.le_of_ble_eq_true rfl) (c_wantT (f := 4) (p := p) hT (by decide) (fun _ => h2)) (fun v9 h9 q9 => ?_)
              obtain ⟨rfl, hT, hf9⟩ := q9
              have hf := fr_tr hf hf9
              clear hf9
              refine wp_iinc (y := ((nI k) + 1)) (lv' := [(0, .ref (b + 1)), (1, .int (nI i)), (2, .int (nI len)), (3, .int ((nI k) + 1)), (4, .int (s 2)), (5, .long (lN (rs_iv B n 1 (.inl p))))]) dq_22_82 rfl rfl (by decide) rfl ?_
              refine wp_goto (tgt := 17) dq_22_85 rfl ?_
              rw [nI_1]
              obtain ⟨eS, e0, he0⟩ := rs_ch_z (B := B) (n := n) (p := p) (j := j) (fun hp1 => by rw [rs_iv1 hp1] at hx2; omega)
              refine ih (k + 1) (.inr e0) _ _ (by rw [← he0]; exact hT) hf ⟨_, fun _ _ => rfl, fun _ _ _ => rfl, fun _ _ => rfl⟩ (by omega) (fun h3 hT3 hf3 => hK h3 ?_ hf3)
              rw [rs_ch_e, ← he0, eS] at hT3
              exact hT3
            · have hx2 : ¬ 127 < rs_iv B n 1 (.inl p) := fun r => c4 ((lc_gt (r := 127) (by omega) (by decide)).mpr r)
              refine wp_iconst (x := 1) dq_22_71 rfl ?_
              refine wp_goto (tgt := 76) dq_22_72 rfl ?_
              refine wp_iconst (x := 4) dq_22_76 rfl ?_
              refine wp_iload dq_22_77 rfl ?_
              refine wp_cv3 dq_22_79 mt_22_65 (ob_of (tb_c2 hb)) ⟨by decide +kernel, by decide +kernel⟩ (Nat.le_of_ble_eq_true rfl) (Nat.le_of_ble_eq_true rfl) (c_wantT (f := 4) (p := p) hT (by decide) (fun _ => h2)) (fun v9 h9 q9 => ?_)
              obtain ⟨rfl, hT, hf9⟩ := q9
              have hf := fr_tr hf hf9
              clear hf9
              refine wp_iinc (y := ((nI k) + 1)) (lv' := [(0, .ref (b + 1)), (1, .int (nI i)), (2, .int (nI len)), (3, .int ((nI k) + 1)), (4, .int (s 2)), (5, .long (lN (rs_iv B n 1 (.inl p))))]) dq_22_82 rfl rfl (by decide) rfl ?_
              refine wp_goto (tgt := 17) dq_22_85 rfl ?_
              rw [nI_1]
              have hp1 : p + 1 ≤ n := by rcases Nat.lt_or_ge n (p + 1) with r | r; (exfalso; apply hx1; show (if p + 1 ≤ n then bu_U B p 1 else 0) < 1; rw [if_neg (by omega)]; decide); exact r
              rw [rs_iv1 hp1] at hx1 hx2
              obtain ⟨eC, eS⟩ := rs_ch_g (B := B) (j := j) hp1 (by omega)
              rw [eS] at hT
              refine ih (k + 1) (.inl (p + 1)) _ _ hT hf ⟨_, fun _ _ => rfl, fun _ _ _ => rfl, fun _ _ => rfl⟩ (by omega) (fun h3 hT3 hf3 => hK h3 ?_ hf3)
              rw [eC]
              exact hT3
set_option maxRecDepth 100000 in
theorem c_readText {L : Nat} {xs : Nat → Int32} {d b n : Nat} {B : Nat → Nat} {fp : Int32} {i : Nat} {S : rS} {h : List qx_E} {a : Nat → Nat → Int32} (hT : TS h b B n S fp a) (hi : i < 64) : wp_W L xs (d + 3) 22 0 (lv_args 0 [.ref (b + 1), .int (nI i)]) [] h (fun v h' => v = none ∧ TS h' b B n (rs_tx B n S) fp (tb_va a 3 (upd (a 3) i (nI (rs_iv B n 2 S)))) ∧ fr b h h') := by
  obtain ⟨s, hb, -⟩ := id hT
  show wp_W L xs _ 22 0 [(0, .ref (b + 1)), (1, .int (nI i))] [] h _
  refine wp_aload_n dq_22_0 rfl ?_
  refine wp_getf dq_22_1 fl_22_12 (tb_c1 hb) rfl ?_
  refine wp_cv0 dq_22_4 mt_22_71 (ob_of (tb_c2 hb)) ⟨by decide +kernel, by decide +kernel⟩ (Nat.le_of_ble_eq_true rfl) (Nat.le_of_ble_eq_true rfl) (c_u2T hT) (fun v9 h9 q9 => ?_)
  obtain ⟨rfl, hT9, hf⟩ := q9
  obtain ⟨s9, hb, hc, hO, hn, h0, h1, hm⟩ := id hT9
  refine wp_istore_n (lv' := [(0, .ref (b + 1)), (1, .int (nI i)), (2, .int (nI (rs_iv B n 2 S)))]) dq_22_7 (by decide) rfl ?_
  refine wp_aload_n dq_22_8 rfl ?_
  refine wp_getf dq_22_9 fl_22_25 (tb_c1 hb) rfl ?_
  refine wp_iload_n dq_22_12 rfl ?_
  refine wp_iload_n dq_22_13 rfl ?_
  refine wp_a3 dq_22_14 (qx_in_n hi (by decide)) hb hf (fun h3 hb3 hf3 => ?_)
  rw [nI_clamp (show i < 2 ^ 31 by omega)] at hb3
  have hT3 : TS h3 b B n (rs_is n 2 S) fp (tb_va a 3 (upd (a 3) i (nI (rs_iv B n 2 S)))) := ⟨s9, hb3, hc, hO, hn, h0, h1, hm⟩
  refine wp_iconst (x := 0) dq_22_15 rfl ?_
  refine wp_istore_n (lv' := [(0, .ref (b + 1)), (1, .int (nI i)), (2, .int (nI (rs_iv B n 2 S))), (3, .int 0)]) dq_22_16 (by decide) rfl ?_
  exact c_txL (len := rs_iv B n 2 S) (rs_iv2 (TS_B hT)) (TS_B hT) (rs_iv B n 2 S) 0 _ h3 [] hT3 hf3 ⟨[], fun _ _ => rfl, fun _ _ _ => rfl, fun _ _ => rfl⟩ (by omega) (fun h' hT4 hf4 => ⟨rfl, hT4, hf4⟩)
