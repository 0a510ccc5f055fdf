/-! THE STATE OF A READING: .inl p: sound, at p; .inr (c, p): the first thing wrong, its code and place -/
abbrev rS : Type := Nat ⊕ (Nat × Nat)
def gO (f : Nat → Int32) (B : Nat → Nat) (n : Nat) : Prop := ∀ j, j < n → f j &&& 255 = nI (B j) ∧ B j < 256
def tc (a : Nat → Nat → Int32) : Prop := (∀ i, i < 3 → ∃ c : Nat, c ≤ 16 ∧ a 5 i = nI c) ∧ (∃ c : Nat, c ≤ 1 ∧ a 5 3 = nI c)
def tM (s : Nat → Int32) (n : Nat) (S : rS) : Prop := match S with
  | .inl p => p ≤ n ∧ s 2 = nI p ∧ s 3 = 0 ∧ s 4 = -1
  | .inr e => (∃ p : Nat, p ≤ n ∧ s 2 = nI p) ∧ s 3 = nI e.1 ∧ 0 < e.1 ∧ e.1 < 100 ∧ s 4 = nI e.2
def TS (h : List qx_E) (b : Nat) (B : Nat → Nat) (n : Nat) (S : rS) (fp : Int32) (a : Nat → Nat → Int32) : Prop := ∃ s, tb h b s a ∧ tc a ∧ gO (a 0) B n ∧ n ≤ 480 ∧ s 0 = fp ∧ s 1 = nI n ∧ tM s n S
theorem TS_at {s : Nat → Int32} {n : Nat} {S : rS} (hm : tM s n S) : ∃ p : Nat, p ≤ n ∧ s 2 = nI p := by
  cases S with
  | inl p => exact ⟨p, hm.1, hm.2.1⟩
  | inr e => exact hm.1
theorem TS_tw {s : Nat → Int32} {a : Nat → Nat → Int32} {n : Nat} {S : rS} (hc : tc a) (hn : n ≤ 480) (h1 : s 1 = nI n) (hm : tM s n S) : tw s a := by
  obtain ⟨p, hp, e⟩ := TS_at hm
  exact ⟨⟨n, p, hn, hp, h1, e⟩, hc⟩
theorem gB_of {s : Nat → Int32} {a : Nat → Nat → Int32} {B : Nat → Nat} {n : Nat} (hO : gO (a 0) B n) (hn : n ≤ 480) (h1 : s 1 = nI n) : gB s a B n := by
  refine ⟨hn, fun j hj => ⟨?_, (hO j hj).2⟩⟩
  unfold f_u1At
  rw [if_neg (nI_pos (by omega)), h1, if_neg (nI_ge hj (by omega)), nI_clamp (by omega)]
  exact (hO j hj).1
def rs_wt (z : Int32) (f p : Nat) (S : rS) : rS := match S with
  | .inl q => if z = 0 then .inr (f, p) else .inl q
  | .inr e => .inr e
def rs_iv (B : Nat → Nat) (n k : Nat) (S : rS) : Nat := match S with
  | .inl p => if p + k ≤ n then bu_U B p k else 0
  | .inr _ => 0
def rs_is (n k : Nat) (S : rS) : rS := match S with
  | .inl p => if p + k ≤ n then .inl (p + k) else .inr (1, n)
  | .inr e => .inr e
theorem num_U {s : Nat → Int32} {a : Nat → Nat → Int32} {B : Nat → Nat} {n k p : Nat} (hO : gO (a 0) B n) (hn : n ≤ 480) (h1 : s 1 = nI n) (hk : k ≤ 8) (hp : p + k ≤ n) : f_numberAt s a (nI p) (nI k) = lN (bu_U B p k) := by
  unfold f_numberAt
  rw [if_neg (nI_pos (by omega)), h1, pk_sub (by omega), if_pos (nI_le (by omega) (by omega)), nI_clamp (by omega), nI_clamp (by omega)]
  exact bu_eq hk (fun j hj => hO (p + j) (by omega))
theorem num_0 {s : Nat → Int32} {a : Nat → Nat → Int32} {n k p : Nat} (hn : n ≤ 480) (h1 : s 1 = nI n) (hk : k ≤ 8) (hp : n < p + k) (hp2 : p < 2 ^ 31) : f_numberAt s a (nI p) (nI k) = 0 := by
  unfold f_numberAt
  rw [if_neg (nI_pos hp2), h1]
  refine if_neg (fun q => ?_)
  have h3 : (nI p).toInt ≤ (nI n - nI k).toInt := Int32.le_iff_toInt_le.mp q
  rw [nI_toInt hp2, pk_sub_toInt (by omega) (by omega)] at h3
  omega
theorem c_wantT {L : Nat} {xs : Nat → Int32} {d b n : Nat} {B : Nat → Nat} {S : rS} {fp : Int32} {h : List qx_E} {a : Nat → Nat → Int32} {z y : Int32} {f p : Nat} (hT : TS h b B n S fp a) (hf : 0 < f ∧ f < 100) (hy : (∃ q, S = .inl q) → y = nI p) : wp_W L xs d 15 0 (lv_args 0 [.ref (b + 2), .int z, .int (nI f), .int y]) [] h (fun v h' => v = none ∧ TS h' b B n (rs_wt z f p S) fp a ∧ fr b h h') := by
  obtain ⟨s, hb, hc, hO, hn, h0, h1, hm⟩ := hT
  refine wp_mono (c_want0 hb) (fun v h' q => ?_)
  obtain ⟨rfl, hb', hr⟩ := q
  refine ⟨rfl, ⟨_, hb', hc, hO, hn, ?_⟩, hr⟩
  cases S with
  | inl q =>
    obtain ⟨hq, h2, h3, h4⟩ := hm
    by_cases hz : z = 0
    · rw [if_pos ⟨hz, h3⟩]
      refine ⟨h0, h1, ?_⟩
      show tM _ n (if z = 0 then .inr (f, p) else .inl q)
      rw [if_pos hz]
      exact ⟨⟨q, hq, h2⟩, rfl, hf.1, hf.2, hy ⟨q, rfl⟩⟩
    · rw [if_neg (fun r => hz r.1)]
      refine ⟨h0, h1, ?_⟩
      show tM _ n (if z = 0 then .inr (f, p) else .inl q)
      rw [if_neg hz]
      exact ⟨hq, h2, h3, h4⟩
  | inr e =>
    have h3 : ¬ s 3 = 0 := by rw [hm.2.1]; exact nI_ne0 hm.2.2.1 (by have := hm.2.2.2.1; omega)
    rw [if_neg (fun r => h3 r.2)]
    exact ⟨h0, h1, hm⟩
def rs_ok (S : rS) : Int32 := match S with
  | .inl _ => 1
  | .inr _ => 0
theorem c_soundT {L : Nat} {xs : Nat → Int32} {d b n : Nat} {B : Nat → Nat} {S : rS} {fp : Int32} {h : List qx_E} {a : Nat → Nat → Int32} (hT : TS h b B n S fp a) : qe_E L xs d 20 [.ref (b + 2)] h (some (.int (rs_ok S))) h := by
  obtain ⟨s, hb, hc, hO, hn, h0, h1, hm⟩ := hT
  have e : (if s 3 = 0 then 1 else 0 : Int32) = rs_ok S := by
    cases S with
    | inl q => rw [if_pos hm.2.2.1]; rfl
    | inr e => rw [if_neg (by rw [hm.2.1]; exact nI_ne0 hm.2.2.1 (by have := hm.2.2.2.1; omega))]; rfl
  rw [← e]
  exact c_isSound hb
set_option maxRecDepth 100000 in
theorem c_itemT {L : Nat} {xs : Nat → Int32} {d b n : Nat} {B : Nat → Nat} {S : rS} {fp : Int32} {h : List qx_E} {a : Nat → Nat → Int32} {k : Nat} (hT : TS h b B n S fp a) (hk : k ≤ 8) : wp_W L xs (d + 1) 14 0 (lv_args 0 [.ref (b + 2), .int (nI k)]) [] h (fun v h' => v = some (.long (lN (rs_iv B n k S))) ∧ TS h' b B n (rs_is n k S) fp a ∧ fr b h h') := by
  obtain ⟨s, hb, hc, hO, hn, h0, h1, hm⟩ := hT
  have hf : fr b h h := fr_rf
  show wp_W L xs _ 14 0 [(0, .ref (b + 2)), (1, .int (nI k))] [] h _
  cases S with
  | inl p =>
    obtain ⟨hp, h2, h3, h4⟩ := id hm
    refine wp_aload_n dq_14_0 rfl ?_
    refine wp_iload_n dq_14_1 rfl ?_
    refine wp_aload_n dq_14_2 rfl ?_
    refine wp_getf dq_14_3 fl_14_15 (tb_c2 hb) rfl ?_
    refine wp_aload_n dq_14_6 rfl ?_
    refine wp_getf dq_14_7 fl_14_19 (tb_c2 hb) rfl ?_
    refine wp_isub dq_14_10 ?_
    refine wp_ic_gt (tgt := 18) dq_14_11 rfl (fun c1 => ?_) (fun c1 => ?_)
    · have hx1 : ¬ p + k ≤ n := fun r => by rw [h1, h2, pk_sub (by omega)] at c1; exact absurd c1 (nI_nlt (by omega) (by omega))
      refine wp_iconst (x := 0) dq_14_18 rfl ?_
      refine wp_iconst (x := 1) dq_14_19 rfl ?_
      refine wp_aload_n dq_14_20 rfl ?_
      refine wp_getf dq_14_21 fl_14_15 (tb_c2 hb) rfl ?_
      refine wp_cv3 dq_14_24 mt_14_34 (ob_of (tb_c2 hb)) ⟨by decide +kernel, by decide +kernel⟩ (Nat.le_of_ble_eq_true rfl) (Nat.le_of_ble_eq_true rfl) (c_want0 hb) (fun v9 h9 q9 => ?_)
      obtain ⟨rfl, hb, hf9⟩ := q9
      have hf := fr_tr hf hf9
      clear hf9
      rw [if_pos ⟨rfl, h3⟩] at hb
      refine wp_aload_n dq_14_27 rfl ?_
      refine wp_getf dq_14_28 fl_14_22 (tb_c2 hb) rfl ?_
      refine wp_if_eq (tgt := 36) dq_14_31 rfl (fun c2 => ?_) (fun c2 => ?_)
      · exact absurd c2 (by show ¬ (1 : Int32) = 0; decide)
      · refine wp_lconst (x := 0) dq_14_34 rfl ?_
        exact wp_lre dq_14_35 rfl ⟨by show some (Value.long 0) = some (Value.long (lN (if p + k ≤ n then bu_U B p k else 0))); rw [if_neg hx1]; rfl, ⟨_, hb, hc, hO, hn, h0, h1, by show tM _ n (if p + k ≤ n then .inl (p + k) else .inr (1, n)); rw [if_neg hx1]; exact ⟨⟨p, hp, h2⟩, rfl, Nat.one_pos, by show 1 < 100; decide, h1⟩⟩, hf⟩
    · have hx1 : p + k ≤ n := by rw [h1, h2, pk_sub hp] at c1; rcases Nat.lt_or_ge n (p + k) with r | r; exact absurd (nI_lt (by omega) (by omega)) c1; exact r
      refine wp_iconst (x := 1) dq_14_14 rfl ?_
      refine wp_goto (tgt := 19) dq_14_15 rfl ?_
      refine wp_iconst (x := 1) dq_14_19 rfl ?_
      refine wp_aload_n dq_14_20 rfl ?_
      refine wp_getf dq_14_21 fl_14_15 (tb_c2 hb) rfl ?_
      refine wp_cv3 dq_14_24 mt_14_34 (ob_of (tb_c2 hb)) ⟨by decide +kernel, by decide +kernel⟩ (Nat.le_of_ble_eq_true rfl) (Nat.le_of_ble_eq_true rfl) (c_want0 hb) (fun v9 h9 q9 => ?_)
      obtain ⟨rfl, hb, hf9⟩ := q9
      have hf := fr_tr hf hf9
      clear hf9
      rw [if_neg (fun r => absurd r.1 (by decide))] at hb
      refine wp_aload_n dq_14_27 rfl ?_
      refine wp_getf dq_14_28 fl_14_22 (tb_c2 hb) rfl ?_
      refine wp_if_eq (tgt := 36) dq_14_31 rfl (fun c3 => ?_) (fun c3 => ?_)
      · refine wp_aload_n dq_14_36 rfl ?_
        refine wp_dup dq_14_37 rfl ?_
        refine wp_getf dq_14_38 fl_14_19 (tb_c2 hb) rfl ?_
        refine wp_iload_n dq_14_41 rfl ?_
        refine wp_iadd dq_14_42 ?_
        refine wp_p2 dq_14_43 fp_14_19 hb hf (fun h hb hf => ?_)
        have hmm : tM (upd s 2 (s 2 + nI k)) n (rs_is n k (.inl p)) := by show tM _ n (if p + k ≤ n then .inl (p + k) else .inr (1, n)); rw [if_pos hx1]; exact ⟨hx1, by show s 2 + nI k = nI (p + k); rw [h2, nI_add], h3, h4⟩
        have htw : tw (upd s 2 (s 2 + nI k)) a := TS_tw hc hn h1 hmm
        refine wp_aload_n dq_14_46 rfl ?_
        refine wp_aload_n dq_14_47 rfl ?_
        refine wp_getf dq_14_48 fl_14_19 (tb_c2 hb) rfl ?_
        refine wp_iload_n dq_14_51 rfl ?_
        refine wp_isub dq_14_52 ?_
        refine wp_iload_n dq_14_53 rfl ?_
        have e9 : upd s 2 (s 2 + nI k) 2 - nI k = nI p := by show s 2 + nI k - nI k = nI p; rw [h2, nI_add, pk_sub (by omega)]; congr 1; omega
        rw [e9]
        refine wp_cve2 dq_14_54 mt_14_38 (ob_of (tb_c2 hb)) ⟨by decide +kernel, by decide +kernel⟩ (Nat.le_of_ble_eq_true rfl) (Nat.le_of_ble_eq_true rfl) (c_numAt k rfl hk hb htw) ?_
        rw [num_U (s := upd s 2 (s 2 + nI k)) hO hn h1 hk hx1]
        exact wp_lre dq_14_57 rfl ⟨by show _ = some (Value.long (lN (if p + k ≤ n then bu_U B p k else 0))); rw [if_pos hx1], ⟨_, hb, hc, hO, hn, h0, h1, hmm⟩, hf⟩
      · refine wp_lconst (x := 0) dq_14_34 rfl ?_
        exact absurd h3 c3
  | inr e =>
    have h3 : ¬ s 3 = 0 := by rw [hm.2.1]; exact nI_ne0 hm.2.2.1 (by have := hm.2.2.2.1; omega)
    refine wp_aload_n dq_14_0 rfl ?_
    refine wp_iload_n dq_14_1 rfl ?_
    refine wp_aload_n dq_14_2 rfl ?_
    refine wp_getf dq_14_3 fl_14_15 (tb_c2 hb) rfl ?_
    refine wp_aload_n dq_14_6 rfl ?_
    refine wp_getf dq_14_7 fl_14_19 (tb_c2 hb) rfl ?_
    refine wp_isub dq_14_10 ?_
    refine wp_ic_gt (tgt := 18) dq_14_11 rfl (fun c1 => ?_) (fun c1 => ?_)
    · refine wp_iconst (x := 0) dq_14_18 rfl ?_
      refine wp_iconst (x := 1) dq_14_19 rfl ?_
      refine wp_aload_n dq_14_20 rfl ?_
      refine wp_getf dq_14_21 fl_14_15 (tb_c2 hb) rfl ?_
      refine wp_cv3 dq_14_24 mt_14_34 (ob_of (tb_c2 hb)) ⟨by decide +kernel, by decide +kernel⟩ (Nat.le_of_ble_eq_true rfl) (Nat.le_of_ble_eq_true rfl) (c_want0 hb) (fun v9 h9 q9 => ?_)
      obtain ⟨rfl, hb, hf9⟩ := q9
      have hf := fr_tr hf hf9
      clear hf9
      rw [if_neg (fun r => h3 r.2)] at hb
      refine wp_aload_n dq_14_27 rfl ?_
      refine wp_getf dq_14_28 fl_14_22 (tb_c2 hb) rfl ?_
      refine wp_if_eq (tgt := 36) dq_14_31 rfl (fun c2 => ?_) (fun c2 => ?_)
      · exact absurd c2 h3
      · refine wp_lconst (x := 0) dq_14_34 rfl ?_
        exact wp_lre dq_14_35 rfl ⟨rfl, ⟨_, hb, hc, hO, hn, h0, h1, hm⟩, hf⟩
    · refine wp_iconst (x := 1) dq_14_14 rfl ?_
      refine wp_goto (tgt := 19) dq_14_15 rfl ?_
      refine wp_iconst (x := 1) dq_14_19 rfl ?_
      refine wp_aload_n dq_14_20 rfl ?_
      refine wp_getf dq_14_21 fl_14_15 (tb_c2 hb) rfl ?_
      refine wp_cv3 dq_14_24 mt_14_34 (ob_of (tb_c2 hb)) ⟨by decide +kernel, by decide +kernel⟩ (Nat.le_of_ble_eq_true rfl) (Nat.le_of_ble_eq_true rfl) (c_want0 hb) (fun v9 h9 q9 => ?_)
      obtain ⟨rfl, hb, hf9⟩ := q9
      have hf := fr_tr hf hf9
      clear hf9
      rw [if_neg (fun r => h3 r.2)] at hb
      refine wp_aload_n dq_14_27 rfl ?_
      refine wp_getf dq_14_28 fl_14_22 (tb_c2 hb) rfl ?_
      refine wp_if_eq (tgt := 36) dq_14_31 rfl (fun c3 => ?_) (fun c3 => ?_)
      · exact absurd c3 h3
      · refine wp_lconst (x := 0) dq_14_34 rfl ?_
        exact wp_lre dq_14_35 rfl ⟨rfl, ⟨_, hb, hc, hO, hn, h0, h1, hm⟩, hf⟩
set_option maxRecDepth 100000 in
theorem c_u2T {L : Nat} {xs : Nat → Int32} {d b n : Nat} {B : Nat → Nat} {S : rS} {fp : Int32} {h : List qx_E} {a : Nat → Nat → Int32} (hT : TS h b B n S fp a) : wp_W L xs (d + 2) 17 0 (lv_args 0 [.ref (b + 2)]) [] h (fun v h' => v = some (.int (nI (rs_iv B n 2 S))) ∧ TS h' b B n (rs_is n 2 S) fp a ∧ fr b h h') := by
  show wp_W L xs _ 17 0 [(0, .ref (b + 2))] [] h _
  refine wp_aload_n dq_17_0 rfl ?_
  refine wp_iconst (x := 2) dq_17_1 rfl ?_
  refine wp_cv1 dq_17_2 mt_17_42 (ob_of (tb_c2 hT.choose_spec.1)) ⟨by decide +kernel, by decide +kernel⟩ (Nat.le_of_ble_eq_true rfl) (Nat.le_of_ble_eq_true rfl) (c_itemT (k := 2) hT (by decide)) (fun v9 h9 q9 => ?_)
  obtain ⟨rfl, hT9, hf9⟩ := q9
  refine wp_l2i dq_17_5 ?_
  rw [lN_i]
  exact wp_ire dq_17_6 rfl ⟨rfl, Or.inl rfl⟩ ⟨rfl, hT9, hf9⟩
theorem lN_gt {q r : Nat} (hq : q < 2 ^ 63) (hr : r < 2 ^ 31) : 0 < lg_cmp (lN q) (nI r).toInt64 ↔ r < q := by
  rw [nI_l hr]
  unfold lg_cmp
  by_cases c1 : lN q > lN r
  · rw [if_pos c1]
    exact ⟨fun _ => (pk_lLT (by omega) hq).mp c1, fun _ => by decide⟩
  · rw [if_neg c1]
    have c2 : ¬ r < q := fun h => c1 ((pk_lLT (by omega) hq).mpr h)
    split
    · exact ⟨fun h => absurd h (by decide), fun h => absurd h c2⟩
    · exact ⟨fun h => absurd h (by decide), fun h => absurd h c2⟩
set_option maxRecDepth 100000 in
theorem c_skipT {L : Nat} {xs : Nat → Int32} {d b n : Nat} {B : Nat → Nat} {S : rS} {fp : Int32} {h : List qx_E} {a : Nat → Nat → Int32} {q : Nat} (hT : TS h b B n S fp a) (hq : q < 2 ^ 32) : wp_W L xs (d + 1) 23 0 (lv_args 0 [.ref (b + 2), .long (lN q)]) [] h (fun v h' => v = none ∧ TS h' b B n (rs_is n q S) fp a ∧ fr b h h') := by
  obtain ⟨s, hb, hc, hO, hn, h0, h1, hm⟩ := hT
  have hf : fr b h h := fr_rf
  show wp_W L xs _ 23 0 [(0, .ref (b + 2)), (1, .long (lN q))] [] h _
  cases S with
  | inl p =>
    obtain ⟨hp, h2, h3, h4⟩ := id hm
    refine wp_aload_n dq_23_0 rfl ?_
    refine wp_lload_n dq_23_1 rfl ?_
    refine wp_aload_n dq_23_2 rfl ?_
    refine wp_getf dq_23_3 fl_23_15 (tb_c2 hb) rfl ?_
    refine wp_aload_n dq_23_6 rfl ?_
    refine wp_getf dq_23_7 fl_23_19 (tb_c2 hb) rfl ?_
    refine wp_isub dq_23_10 ?_
    refine wp_i2l dq_23_11 ?_
    refine wp_lcmp dq_23_12 ?_
    refine wp_if_gt (tgt := 20) dq_23_13 rfl (fun c1 => ?_) (fun c1 => ?_)
    · have hx1 : ¬ p + q ≤ n := by rw [h1, h2, pk_sub hp] at c1; have := (lN_gt (by omega) (by omega)).mp c1; omega
      refine wp_iconst (x := 0) dq_23_20 rfl ?_
      refine wp_iconst (x := 1) dq_23_21 rfl ?_
      refine wp_aload_n dq_23_22 rfl ?_
      refine wp_getf dq_23_23 fl_23_15 (tb_c2 hb) rfl ?_
      refine wp_cv3 dq_23_26 mt_23_34 (ob_of (tb_c2 hb)) ⟨by decide +kernel, by decide +kernel⟩ (Nat.le_of_ble_eq_true rfl) (Nat.le_of_ble_eq_true rfl) (c_want0 hb) (fun v9 h9 q9 => ?_)
      obtain ⟨rfl, hb, hf9⟩ := q9
      have hf := fr_tr hf hf9
      clear hf9
      rw [if_pos ⟨rfl, h3⟩] at hb
      refine wp_aload_n dq_23_29 rfl ?_
      refine wp_getf dq_23_30 fl_23_22 (tb_c2 hb) rfl ?_
      refine wp_if_ne (tgt := 47) dq_23_33 rfl (fun c2 => ?_) (fun c2 => ?_)
      · exact wp_vre dq_23_47 rfl ⟨rfl, ⟨_, hb, hc, hO, hn, h0, h1, by show tM _ n (if p + q ≤ n then .inl (p + q) else .inr (1, n)); rw [if_neg hx1]; exact ⟨⟨p, hp, h2⟩, rfl, Nat.one_pos, by show 1 < 100; decide, h1⟩⟩, hf⟩
      · exact absurd c2 (by show ¬ (1 : Int32) = 0; decide)
    · have hx1 : p + q ≤ n := by rw [h1, h2, pk_sub hp] at c1; rcases Nat.lt_or_ge (n - p) q with r | r; exact absurd ((lN_gt (by omega) (by omega)).mpr r) (Int32.not_lt.mpr (Int32.not_lt.mp c1)); omega
      refine wp_iconst (x := 1) dq_23_16 rfl ?_
      refine wp_goto (tgt := 21) dq_23_17 rfl ?_
      refine wp_iconst (x := 1) dq_23_21 rfl ?_
      refine wp_aload_n dq_23_22 rfl ?_
      refine wp_getf dq_23_23 fl_23_15 (tb_c2 hb) rfl ?_
      refine wp_cv3 dq_23_26 mt_23_34 (ob_of (tb_c2 hb)) ⟨by decide +kernel, by decide +kernel⟩ (Nat.le_of_ble_eq_true rfl) (Nat.le_of_ble_eq_true rfl) (c_want0 hb) (fun v9 h9 q9 => ?_)
      obtain ⟨rfl, hb, hf9⟩ := q9
      have hf := fr_tr hf hf9
      clear hf9
      rw [if_neg (fun r => absurd r.1 (by decide))] at hb
      refine wp_aload_n dq_23_29 rfl ?_
      refine wp_getf dq_23_30 fl_23_22 (tb_c2 hb) rfl ?_
      refine wp_if_ne (tgt := 47) dq_23_33 rfl (fun c3 => ?_) (fun c3 => ?_)
      · exact absurd h3 c3
      · refine wp_aload_n dq_23_36 rfl ?_
        refine wp_dup dq_23_37 rfl ?_
        refine wp_getf dq_23_38 fl_23_19 (tb_c2 hb) rfl ?_
        refine wp_lload_n dq_23_41 rfl ?_
        refine wp_l2i dq_23_42 ?_
        refine wp_iadd dq_23_43 ?_
        refine wp_p2 dq_23_44 fp_23_19 hb hf (fun h hb hf => ?_)
        exact wp_vre dq_23_47 rfl ⟨rfl, ⟨_, hb, hc, hO, hn, h0, h1, by show tM _ n (if p + q ≤ n then .inl (p + q) else .inr (1, n)); rw [if_pos hx1]; exact ⟨hx1, by show s 2 + (lN q).toInt32 = nI (p + q); rw [h2, lN_i, nI_add], h3, h4⟩⟩, hf⟩
  | inr e =>
    have h3 : ¬ s 3 = 0 := by rw [hm.2.1]; exact nI_ne0 hm.2.2.1 (by have := hm.2.2.2.1; omega)
    refine wp_aload_n dq_23_0 rfl ?_
    refine wp_lload_n dq_23_1 rfl ?_
    refine wp_aload_n dq_23_2 rfl ?_
    refine wp_getf dq_23_3 fl_23_15 (tb_c2 hb) rfl ?_
    refine wp_aload_n dq_23_6 rfl ?_
    refine wp_getf dq_23_7 fl_23_19 (tb_c2 hb) rfl ?_
    refine wp_isub dq_23_10 ?_
    refine wp_i2l dq_23_11 ?_
    refine wp_lcmp dq_23_12 ?_
    refine wp_if_gt (tgt := 20) dq_23_13 rfl (fun c1 => ?_) (fun c1 => ?_)
    · refine wp_iconst (x := 0) dq_23_20 rfl ?_
      refine wp_iconst (x := 1) dq_23_21 rfl ?_
      refine wp_aload_n dq_23_22 rfl ?_
      refine wp_getf dq_23_23 fl_23_15 (tb_c2 hb) rfl ?_
      refine wp_cv3 dq_23_26 mt_23_34 (ob_of (tb_c2 hb)) ⟨by decide +kernel, by decide +kernel⟩ (Nat.le_of_ble_eq_true rfl) (Nat.le_of_ble_eq_true rfl) (c_want0 hb) (fun v9 h9 q9 => ?_)
      obtain ⟨rfl, hb, hf9⟩ := q9
      have hf := fr_tr hf hf9
      clear hf9
      rw [if_neg (fun r => h3 r.2)] at hb
      refine wp_aload_n dq_23_29 rfl ?_
      refine wp_getf dq_23_30 fl_23_22 (tb_c2 hb) rfl ?_
      refine wp_if_ne (tgt := 47) dq_23_33 rfl (fun c2 => ?_) (fun c2 => ?_)
      · exact wp_vre dq_23_47 rfl ⟨rfl, ⟨_, hb, hc, hO, hn, h0, h1, hm⟩, hf⟩
      · exact absurd c2 h3
    · refine wp_iconst (x := 1) dq_23_16 rfl ?_
      refine wp_goto (tgt := 21) dq_23_17 rfl ?_
      refine wp_iconst (x := 1) dq_23_21 rfl ?_
      refine wp_aload_n dq_23_22 rfl ?_
      refine wp_getf dq_23_23 fl_23_15 (tb_c2 hb) rfl ?_
      refine wp_cv3 dq_23_26 mt_23_34 (ob_of (tb_c2 hb)) ⟨by decide +kernel, by decide +kernel⟩ (Nat.le_of_ble_eq_true rfl) (Nat.le_of_ble_eq_true rfl) (c_want0 hb) (fun v9 h9 q9 => ?_)
      obtain ⟨rfl, hb, hf9⟩ := q9
      have hf := fr_tr hf hf9
      clear hf9
      rw [if_neg (fun r => h3 r.2)] at hb
      refine wp_aload_n dq_23_29 rfl ?_
      refine wp_getf dq_23_30 fl_23_22 (tb_c2 hb) rfl ?_
      refine wp_if_ne (tgt := 47) dq_23_33 rfl (fun c3 => ?_) (fun c3 => ?_)
      · exact wp_vre dq_23_47 rfl ⟨rfl, ⟨_, hb, hc, hO, hn, h0, h1, hm⟩, hf⟩
      · exact absurd c3 h3
theorem wp_cpy {L : Nat} {xs : Nat → Int32} {d m pc k k0 k1 n0 n1 : Nat} {lv : qx_L} {r : List Value} {h : List qx_E} {Q : Option Value → List qx_E → Prop} {n dp sp : Int32} {f g : Nat → Int32} (hd : decode (qx_code m) pc = .ok (.invokestatic k, 3)) (hc : qx_cp m k = true) (h0 : h[k0]? = some (.inl (.byte, n0, f))) (h1 : h[k1]? = some (.inl (.byte, n1, g))) (hg : (r.map fun v => v.category).sum ≤ 8 ∧ ¬ sp < 0 ∧ ¬ dp < 0 ∧ ¬ n < 0 ∧ sp.toNatClampNeg + n.toNatClampNeg ≤ n0 ∧ dp.toNatClampNeg + n.toNatClampNeg ≤ n1 ∧ (∀ i, i < n.toNatClampNeg → fits .byte (.int (f (sp.toNatClampNeg + i))) = true)) (kk : wp_W L xs (d + 1) m (pc + 3) lv r (h.set k1 (.inl (.byte, n1, va_cpy f g sp.toNatClampNeg dp.toNatClampNeg n.toNatClampNeg))) Q) : wp_W L xs (d + 1) m pc lv (.int n :: .int dp :: .ref k1 :: .int sp :: .ref k0 :: r) h Q :=
  wp_s hd (by simp only [qx_step, qx_g, hc, if_true, qx_cpy, h0, h1]; rw [if_pos ⟨trivial, trivial, Nat.succ_le_succ (Nat.zero_le d), hg⟩]) kk
set_option maxRecDepth 100000 in
theorem c_loadT {L : Nat} {xs : Nat → Int32} {d b n ba : Nat} {B : Nat → Nat} {h : List qx_E} {s : Nat → Int32} {a : Nat → Nat → Int32} {f : Nat → Int32} (hb : tb h b s a) (hc : tc a) (hn : n ≤ 480) (ha : h[ba]? = some (.inl (.byte, 480, f))) (hfit : ∀ i, fits .byte (.int (f i)) = true) (hO : gO f B n) : wp_W L xs (d + 1) 9 0 (lv_args 0 [.ref (b + 2), .ref ba, .int (nI n)]) [] h (fun v h' => v = none ∧ TS h' b B n (.inl 0) (s 0) (tb_va a 0 (va_cpy f (a 0) 0 0 n)) ∧ fr b h h') := by
  have hf : fr b h h := fr_rf
  show wp_W L xs _ 9 0 [(0, .ref (b + 2)), (1, .ref ba), (2, .int (nI n))] [] h _
  refine wp_aload_n dq_9_0 rfl ?_
  refine wp_iconst (x := 0) dq_9_1 rfl ?_
  refine wp_aload_n dq_9_2 rfl ?_
  refine wp_getf dq_9_3 fl_9_9 (tb_c2 hb) rfl ?_
  refine wp_iconst (x := 0) dq_9_6 rfl ?_
  refine wp_iload_n dq_9_7 rfl ?_
  refine wp_cpy dq_9_8 (by decide +kernel) ha (tb_c3 hb) ⟨Nat.le_of_ble_eq_true rfl, by decide, by decide, nI_pos (by omega), by rw [nI_clamp (by omega)]; show 0 + n ≤ 480; omega, by rw [nI_clamp (by omega)]; show 0 + n ≤ 480; omega, fun i _ => hfit _⟩ ?_
  have hb := tb_w0 hb (va_cpy f (a 0) (0 : Int32).toNatClampNeg (0 : Int32).toNatClampNeg (nI n).toNatClampNeg)
  have hf := fr_set (c := .inl (.byte, 480, va_cpy f (a 0) (0 : Int32).toNatClampNeg (0 : Int32).toNatClampNeg (nI n).toNatClampNeg)) hf (show b ≤ b + 3 by omega) (show b + 3 ≤ b + 10 by omega)
  rw [nI_clamp (show n < 2 ^ 31 by omega)] at hb hf ⊢
  revert hb hf
  generalize h.set (b + 3) (.inl (.byte, 480, va_cpy f (a 0) (0 : Int32).toNatClampNeg (0 : Int32).toNatClampNeg n)) = h9
  intro hb hf
  refine wp_aload_n dq_9_11 rfl ?_
  refine wp_iload_n dq_9_12 rfl ?_
  refine wp_p1 dq_9_13 fp_9_15 hb hf (fun h hb hf => ?_)
  refine wp_aload_n dq_9_16 rfl ?_
  refine wp_iconst (x := 0) dq_9_17 rfl ?_
  refine wp_p2 dq_9_18 fp_9_19 hb hf (fun h hb hf => ?_)
  refine wp_aload_n dq_9_21 rfl ?_
  refine wp_iconst (x := 0) dq_9_22 rfl ?_
  refine wp_p3 dq_9_23 fp_9_22 hb hf (fun h hb hf => ?_)
  refine wp_aload_n dq_9_26 rfl ?_
  refine wp_iconst (x := -1) dq_9_27 rfl ?_
  refine wp_p4 dq_9_28 fp_9_25 hb hf (fun h hb hf => ?_)
  refine wp_vre dq_9_31 rfl ⟨rfl, ⟨_, hb, hc, fun j hj => ?_, hn, rfl, rfl, ⟨Nat.zero_le n, rfl, rfl, rfl⟩⟩, hf⟩
  show va_cpy f (a 0) 0 0 n j &&& 255 = nI (B j) ∧ B j < 256
  rw [sb_cpy0 hj]
  exact hO j hj
