theorem SZ_tb {h : List qx_E} {b : Nat} {s : Nat → Int32} {a : Nat → Nat → Int32} (hb : tb h b s a) {k : Nat} (h1 : b ≤ k) (h2 : k ≤ b + 10) {c : qx_E} (hc : h[k]? = some c) : qx_slE c ≤ 500 := by
  obtain ⟨c0, c1, c2, c3, c4, c5, c6, c7, c8, c9, c10⟩ := hb
  rcases (show k = b ∨ k = b + 1 ∨ k = b + 2 ∨ k = b + 3 ∨ k = b + 4 ∨ k = b + 5 ∨ k = b + 6 ∨ k = b + 7 ∨ k = b + 8 ∨ k = b + 9 ∨ k = b + 10 by omega) with rfl | rfl | rfl | rfl | rfl | rfl | rfl | rfl | rfl | rfl | rfl
  · rw [c0] at hc; cases hc; exact Nat.le_of_ble_eq_true rfl
  · rw [c1] at hc; cases hc; exact Nat.le_of_ble_eq_true rfl
  · rw [c2] at hc; cases hc; exact Nat.le_of_ble_eq_true rfl
  · rw [c3] at hc; cases hc; exact (by decide : 480 ≤ 500)
  · rw [c4] at hc; cases hc; exact (by decide : 64 ≤ 500)
  · rw [c5] at hc; cases hc; exact (by decide : 64 ≤ 500)
  · rw [c6] at hc; cases hc; exact (by decide : 64 ≤ 500)
  · rw [c7] at hc; cases hc; exact (by decide : 64 ≤ 500)
  · rw [c8] at hc; cases hc; exact (by decide : 4 ≤ 500)
  · rw [c9] at hc; cases hc; exact (by decide : 49 ≤ 500)
  · rw [c10] at hc; cases hc; exact (by decide : 441 ≤ 500)
theorem SZ_rd {h h9 : List qx_E} {b : Nat} {l0 l4 : List Value} {s : Nat → Int32} {a : Nat → Nat → Int32} (hS : SZ h) (h0 : h9[0]? = some (.inr (0, l0))) (hb : tb h9 b s a) (hk : ∀ k, 0 < k → k < h.length → (k < b ∨ b + 10 < k) → h9[k]? = h[k]?) (hg : h9[h.length]? = some (.inr (4, l4))) (hl : h9.length = h.length + 1 ∨ (h9.length = h.length + 12 ∧ ∃ s' a', tb h9 (h.length + 1) s' a')) : SZ h9 := by
  intro k c hc
  have hkl := (List.getElem?_eq_some_iff.mp hc).1
  rcases Nat.eq_zero_or_pos k with r | r
  · subst r
    rw [h0] at hc
    cases hc
    exact Nat.le_of_ble_eq_true rfl
  · rcases Nat.lt_or_ge k h.length with r1 | r1
    · rcases (show (k < b ∨ b + 10 < k) ∨ (b ≤ k ∧ k ≤ b + 10) by omega) with r2 | r2
      · rw [hk k r r1 r2] at hc
        exact hS k c hc
      · exact SZ_tb hb r2.1 r2.2 hc
    · rcases Nat.eq_or_lt_of_le r1 with r2 | r2
      · rw [← r2, hg] at hc
        cases hc
        exact Nat.le_of_ble_eq_true rfl
      · rcases hl with r3 | ⟨r3, s', a', r4⟩
        · omega
        · exact SZ_tb r4 (by omega) (by omega) hc
/-! read -/
def mM0 : rM := ⟨fun i => if i = 3 then 1 else 0, fun _ => 0, fun _ => 0⟩
def ra_1 (B : Nat → Nat) (n : Nat) : rS := rs_st B n (.inl 0)
def ra_2 (B : Nat → Nat) (n : Nat) : rS := rs_po B n (ra_1 B n)
def ra_T (B : Nat → Nat) (n : Nat) : Nat → Nat := rs_T B n (ra_1 B n)
def ra_F (B : Nat → Nat) (n : Nat) : Nat := rs_p (ra_2 B n)
def ra_3 (B : Nat → Nat) (n : Nat) : rS := rs_hd B n (ra_T B n) (ra_2 B n)
def ra_4 (B : Nat → Nat) (n : Nat) : rS × rM := rs_ms B n (ra_T B n) (ra_F B n) 0 (ra_3 B n) mM0
def ra_5 (B : Nat → Nat) (n : Nat) : rS × rM := rs_ms B n (ra_T B n) (ra_F B n) 1 (ra_4 B n).1 (ra_4 B n).2
def ra_6 (B : Nat → Nat) (n : Nat) : rS × rM := rs_ft B n (ra_T B n) (ra_5 B n).1 (ra_5 B n).2
def ra_7 (B : Nat → Nat) (n : Nat) : rS := rs_we n (ra_6 B n).1
theorem m0_R {a : Nat → Nat → Int32} (h : tc0 a) : MR a mM0 := by
  obtain ⟨-, h2, h3, h4⟩ := h
  refine ⟨fun i hi => ?_, fun kd k h1 h2 => ?_, fun q hq => h4 q hq⟩
  · by_cases e : i = 3
    · subst e
      exact h3
    · rw [h2 i (by omega)]
      show 0 = nI (if i = 3 then 1 else 0)
      rw [if_neg e]
      rfl
  · have h5 : k < (if kd = 3 then 1 else 0) := h2
    rw [if_neg (by omega)] at h5
    omega
theorem MR_eq {a a' : Nat → Nat → Int32} {M : rM} (e : ∀ q, q = 0 ∨ 5 ≤ q → a' q = a q) (h : MR a M) : MR a' M := ⟨fun i hi => by rw [e 5 (Or.inr (by decide))]; exact h.1 i hi, fun kd k h1 h2 => by rw [e 6 (Or.inr (by decide))]; exact h.2.1 kd k h1 h2, fun q hq => by rw [e 7 (Or.inr (by decide))]; exact h.2.2 q hq⟩
theorem m0_V (n : Nat) : MV n mM0 := by
  refine ⟨fun i hi => ?_, rfl, fun kd k h1 h2 => ?_, fun q => Nat.zero_le n⟩
  · show (if i = 3 then 1 else 0) ≤ 16
    split <;> decide
  · have h5 : k < (if kd = 3 then 1 else 0) := h2
    rw [if_neg (by omega)] at h5
    omega
theorem m1_c (B : Nat → Nat) (n : Nat) (T : Nat → Nat) (F kd k : Nat) (S : rS) (M : rM) {i : Nat} (hi : i ≠ kd) : (rs_m1 B n T F kd k S M).2.c i = M.c i := by
  unfold rs_m1
  rw [(tb_c ..).1]
  exact updN_n hi
theorem msL_c (B : Nat → Nat) (n : Nat) (T : Nat → Nat) (F kd : Nat) {i : Nat} (hi : i ≠ kd) : ∀ j k S M, (rs_msL B n T F kd j k S M).2.c i = M.c i
  | 0, _, _, _ => rfl
  | j + 1, k, S, M => by rw [rs_msL_s, msL_c B n T F kd hi j, m1_c _ _ _ _ _ _ _ _ hi]
theorem sd_rms {B : Nat → Nat} {n : Nat} {T : Nat → Nat} {F kd : Nat} {M : rM} {S : rS} (h : snd (rs_ms B n T F kd S M).1) : snd S := by
  cases S with
  | inl q => exact snd_l q
  | inr e =>
    have h1 : snd (rs_msL B n T F kd (rs_iv B n 2 (.inr e)) 0 (.inr e) M).1 := h
    rw [rs_msL_e] at h1
    exact h1
theorem sd_rft {B : Nat → Nat} {n : Nat} {T : Nat → Nat} {M : rM} {S : rS} (h : snd (rs_ft B n T S M).1) : snd S := by
  cases S with
  | inl q => exact snd_l q
  | inr e =>
    have h1 : snd (rs_fL B n T (rs_iv B n 2 (.inr e)) (.inr e) M).1 := h
    rw [rs_fL_e] at h1
    exact h1
set_option maxRecDepth 100000 in
theorem c_rdI {L : Nat} {xs : Nat → Int32} {d b g : Nat} {h : List qx_E} {s : Nat → Int32} {a : Nat → Nat → Int32} (hb : tb h b s a) (hg : b + 10 < g) (ho : h[g]? = some (.inr (4, [.null, .null, .null]))) : wp_W L xs (d + 1) 8 0 (lv_args 0 [.ref g, .ref b]) [] h (fun v h' => v = none ∧ RG h' b g ∧ (∀ k, k ≠ g → h'[k]? = h[k]?) ∧ h'.length = h.length) := by
  show wp_W L xs _ 8 0 [(0, .ref g), (1, .ref b)] [] h _
  refine wp_aload_n dq_8_0 rfl ?_
  refine wp_oi dq_8_1 (by decide +kernel) (Nat.le_of_ble_eq_true rfl) ?_
  refine wp_aload_n dq_8_4 rfl ?_
  refine wp_aload_n dq_8_5 rfl ?_
  refine wp_putf dq_8_6 fp_8_9.1 ho ⟨Nat.le_of_ble_eq_true rfl, rfl, fp_8_9.2⟩ ?_
  refine wp_aload_n dq_8_9 rfl ?_
  refine wp_aload_n dq_8_10 rfl ?_
  refine wp_getf dq_8_11 fl_8_15 ((List.getElem?_set_ne (by omega)).trans (tb_c0 hb)) rfl ?_
  refine wp_putf dq_8_14 fp_8_21.1 (st_eq ho) ⟨Nat.le_of_ble_eq_true rfl, rfl, fp_8_21.2⟩ ?_
  refine wp_aload_n dq_8_17 rfl ?_
  refine wp_aload_n dq_8_18 rfl ?_
  refine wp_getf dq_8_19 fl_8_22 ((List.getElem?_set_ne (by omega)).trans ((List.getElem?_set_ne (by omega)).trans (tb_c0 hb))) rfl ?_
  refine wp_putf dq_8_22 fp_8_26.1 (st_eq (st_eq ho)) ⟨Nat.le_of_ble_eq_true rfl, rfl, fp_8_26.2⟩ ?_
  exact wp_vre dq_8_25 rfl ⟨rfl, ⟨Or.inr hg, st_eq (st_eq (st_eq ho))⟩, fun k hk => by rw [List.getElem?_set_ne (Ne.symm hk), List.getElem?_set_ne (Ne.symm hk), List.getElem?_set_ne (Ne.symm hk)], by rw [List.length_set, List.length_set, List.length_set]⟩
set_option maxRecDepth 100000 in
theorem c_msA {L : Nat} {xs : Nat → Int32} {d b b' : Nat} {h : List qx_E} {n w : Int32} (ho : h[0]? = some (.inr (0, [.ref 1, .int n, .int w, .ref b', .ref b]))) : wp_W L xs (d + 4) 105 0 (lv_args 0 [.ref 0]) [] h (fun v h' => v = none ∧ h'[0]? = some (.inr (0, [.ref 1, .int n, .int w, .ref b, .ref b'])) ∧ (∀ k, 0 < k → h'[k]? = h[k]?) ∧ h'.length = h.length) := by
  show wp_W L xs _ 105 0 [(0, .ref 0)] [] h _
  refine wp_aload_n dq_105_0 rfl ?_
  refine wp_getf dq_105_1 fl_105_20 ho rfl ?_
  refine wp_astore_n (lv' := [(0, .ref 0), (1, .ref b')]) dq_105_4 (by decide) rfl ?_
  refine wp_aload_n dq_105_5 rfl ?_
  refine wp_aload_n dq_105_6 rfl ?_
  refine wp_getf dq_105_7 fl_105_27 ho rfl ?_
  refine wp_putf dq_105_10 fp_105_20.1 ho ⟨Nat.le_of_ble_eq_true rfl, rfl, fp_105_20.2⟩ ?_
  refine wp_aload_n dq_105_13 rfl ?_
  refine wp_aload_n dq_105_14 rfl ?_
  refine wp_ifnonnull (tgt := 28) dq_105_15 rfl ?_
  refine wp_aload_n dq_105_28 rfl ?_
  refine wp_putf dq_105_29 fp_105_27.1 (st_eq ho) ⟨Nat.le_of_ble_eq_true rfl, rfl, fp_105_27.2⟩ ?_
  exact wp_vre dq_105_32 rfl ⟨rfl, st_eq (st_eq ho), fun k hk => by rw [List.getElem?_set_ne (by omega), List.getElem?_set_ne (by omega)], by rw [List.length_set, List.length_set]⟩
set_option maxRecDepth 100000 in
theorem c_msB {L : Nat} {xs : Nat → Int32} {d b : Nat} {h : List qx_E} {n w : Int32} (ho : h[0]? = some (.inr (0, [.ref 1, .int n, .int w, .null, .ref b]))) : wp_W L xs (d + 4) 105 0 (lv_args 0 [.ref 0]) [] h (fun v h' => v = none ∧ h'[0]? = some (.inr (0, [.ref 1, .int n, .int w, .ref b, .ref h.length])) ∧ (∀ k, 0 < k → k < h.length → h'[k]? = h[k]?) ∧ h'.length = h.length + 11 ∧ tb h' h.length (fun i => if i = 4 then -1 else 0) (fun _ _ => 0)) := by
  have hl : 0 < h.length := (List.getElem?_eq_some_iff.mp ho).1
  show wp_W L xs _ 105 0 [(0, .ref 0)] [] h _
  refine wp_aload_n dq_105_0 rfl ?_
  refine wp_getf dq_105_1 fl_105_20 ho rfl ?_
  refine wp_astore_nN (lv' := [(0, .ref 0), (1, .null)]) dq_105_4 (by decide) rfl ?_
  refine wp_aload_n dq_105_5 rfl ?_
  refine wp_aload_n dq_105_6 rfl ?_
  refine wp_getf dq_105_7 fl_105_27 ho rfl ?_
  refine wp_putf dq_105_10 fp_105_20.1 ho ⟨Nat.le_of_ble_eq_true rfl, rfl, fp_105_20.2⟩ ?_
  have ho1 := st_eq (c' := .inr (0, [.ref 1, .int n, .int w, .ref b, .ref b])) ho
  have hl1 : (h.set 0 (.inr (0, [.ref 1, .int n, .int w, .ref b, .ref b]))).length = h.length := List.length_set
  have hr1 : ∀ k, 0 < k → (h.set 0 (.inr (0, [.ref 1, .int n, .int w, .ref b, .ref b])))[k]? = h[k]? := fun k hk => List.getElem?_set_ne (by omega)
  show wp_W L xs _ 105 13 [(0, .ref 0), (1, .null)] [] (h.set 0 (.inr (0, [.ref 1, .int n, .int w, .ref b, .ref b]))) _
  generalize h.set 0 (.inr (0, [.ref 1, .int n, .int w, .ref b, .ref b])) = h1 at ho1 hl1 hr1
  refine wp_aload_n dq_105_13 rfl ?_
  refine wp_aload_nN dq_105_14 rfl ?_
  refine wp_ifnonnullN dq_105_15 ?_
  refine wp_new (ci := 1) (fs := [.null, .null, .int 0, .null, .null, .null]) dq_105_18 (by decide +kernel) ?_
  refine wp_dup dq_105_21 rfl ?_
  refine wp_ci0 dq_105_22 (by decide +kernel) mt_105_26 (by decide +kernel) (Nat.le_of_ble_eq_true rfl) (Nat.le_of_ble_eq_true rfl) (c_tablesI rfl) (fun v9 h9 q9 => ?_)
  obtain ⟨rfl, e9⟩ := q9
  refine wp_goto (tgt := 29) dq_105_25 rfl ?_
  have hn : tb h9 h1.length (fun i => if i = 4 then -1 else 0) (fun _ _ => 0) := by
    have := tb_new (g := h1) rfl rfl []
    rw [List.append_nil, ← e9] at this
    exact this
  have hk : ∀ k, k < h1.length → h9[k]? = h1[k]? := fun k hk => by rw [e9]; exact List.getElem?_append_left hk
  have hle : h9.length = h1.length + 11 := by rw [e9, List.length_append]; rfl
  clear e9
  refine wp_putf dq_105_29 fp_105_27.1 ((hk 0 (by omega)).trans ho1) ⟨Nat.le_of_ble_eq_true rfl, rfl, fp_105_27.2⟩ ?_
  have hl9 := tb_len hn
  refine wp_vre dq_105_32 rfl ⟨rfl, ?_, fun k h1 h2 => ?_, by rw [List.length_set]; omega, tb_eq (fun k h1 h2 => List.getElem?_set_ne (by omega)) (hl1 ▸ hn)⟩
  · rw [← hl1]
    exact st_eq ((hk 0 (by omega)).trans ho1)
  · rw [List.getElem?_set_ne (by omega), hk k (by omega), hr1 k h1]
set_option maxRecDepth 100000 in
theorem c_readK {L : Nat} {xs : Nat → Int32} {d b n : Nat} {B : Nat → Nat} {w : Int32} {mi : Value} {f : Nat → Int32} {h : List qx_E} {s : Nat → Int32} {a : Nat → Nat → Int32} {Q : Option Value → List qx_E → Prop} (h2b : 2 ≤ b) (p1 : h[0]? = some (.inr (0, [.ref 1, .int (nI n), .int w, mi, .ref b]))) (p2 : h[1]? = some (.inl (.byte, 480, f))) (p3 : PB f B) (p4 : n ≤ 480) (p5 : tb h b s a) (p6 : tc a)
  (hK : ∀ h' w' y a', h'.length = h.length + 1 → (∃ l4, h'[h.length]? = some (.inr (4, l4))) → (∀ k, 0 < k → k < h.length → (k < b ∨ b + 10 < k) → h'[k]? = h[k]?) → TS h' b B n (ra_7 B n) y a' → (snd (ra_7 B n) → RC B n (ra_T B n) (ra_F B n) y a' (ra_6 B n).2 ∧ w' = -1) → (∀ e, ra_7 B n = .inr e → w' = nI e.2) → h'[0]? = some (.inr (0, [.ref 1, .int (nI n), .int w', mi, .ref b])) → wp_W L xs (d + 10) 7 77 [(0, .ref 0), (1, .ref (b + 2)), (2, .ref h.length)] [] h' Q) : wp_W L xs (d + 10) 7 0 (lv_args 0 [.ref 0]) [] h Q := by
  have hl0 := tb_len p5
  show wp_W L xs _ 7 0 [(0, .ref 0)] [] h _
  refine wp_aload_n dq_7_0 rfl ?_
  refine wp_getf dq_7_1 fl_7_27 p1 rfl ?_
  refine wp_getf dq_7_4 fl_7_30 (tb_c0 p5) rfl ?_
  refine wp_astore_n (lv' := [(0, .ref 0), (1, .ref (b + 2))]) dq_7_7 (by decide) rfl ?_
  refine wp_new (ci := 4) (fs := [.null, .null, .null]) dq_7_8 (by decide +kernel) ?_
  have e1 : ∀ k, k < h.length → (h ++ [.inr (4, [.null, .null, .null])] : List qx_E)[k]? = h[k]? := fun k hk => List.getElem?_append_left hk
  have e2 : (h ++ [.inr (4, [.null, .null, .null])] : List qx_E)[h.length]? = some (.inr (4, [.null, .null, .null])) := by rw [List.getElem?_append_right (Nat.le_refl _), Nat.sub_self]; rfl
  have e3 : (h ++ [.inr (4, [.null, .null, .null])] : List qx_E).length = h.length + 1 := List.length_append
  generalize (h ++ [.inr (4, [.null, .null, .null])] : List qx_E) = h1 at e1 e2 e3
  refine wp_dup dq_7_11 rfl ?_
  refine wp_aload_n dq_7_12 rfl ?_
  refine wp_getf dq_7_13 fl_7_27 ((e1 0 (by omega)).trans p1) rfl ?_
  refine wp_ci1 dq_7_16 (by decide +kernel) mt_7_36 (by decide +kernel) (Nat.le_of_ble_eq_true rfl) (Nat.le_of_ble_eq_true rfl) (c_rdI (tb_eq (fun k h1 h2 => e1 k (by omega)) p5) hl0 e2) (fun v9 h2 q9 => ?_)
  obtain ⟨rfl, hg, e4, e5⟩ := q9
  refine wp_astore_n (lv' := [(0, .ref 0), (1, .ref (b + 2)), (2, .ref h.length)]) dq_7_19 (by decide) rfl ?_
  have e6 : ∀ k, k < h.length → h2[k]? = h[k]? := fun k hk => (e4 k (by omega)).trans (e1 k hk)
  have hl : h2.length = h.length + 1 := by omega
  clear e1 e2 e3 e4 e5 h1
  have hb := tb_eq (fun k h1 h2 => e6 k (by omega)) p5
  have q1 := (e6 0 (by omega)).trans p1
  have q2 := (e6 1 (by omega)).trans p2
  have hf : fr b h2 h2 := fr_rf
  refine wp_aload_n dq_7_20 rfl ?_
  refine wp_aload_n dq_7_21 rfl ?_
  refine wp_getf dq_7_22 fl_7_9 q1 rfl ?_
  refine wp_aload_n dq_7_25 rfl ?_
  refine wp_getf dq_7_26 fl_7_13 q1 rfl ?_
  refine wp_cv2 dq_7_29 mt_7_39 (ob_of (tb_c2 hb)) ⟨by decide +kernel, by decide +kernel⟩ (Nat.le_of_ble_eq_true rfl) (Nat.le_of_ble_eq_true rfl) (c_loadT hb p6 p4 q2 p3.2 (fun j hj => p3.1 j (by omega))) (fun v9 h9 q9 => ?_)
  obtain ⟨rfl, hT, hf9⟩ := q9
  have hg := RG_fr hg hf9
  have hf := fr_tr hf hf9
  clear hf9
  refine wp_aload_n dq_7_32 rfl ?_
  refine wp_getf dq_7_33 fl_7_27 ((hf.2 0 (Or.inl (by omega))).trans q1) rfl ?_
  obtain ⟨s9, hb9, -⟩ := id hT
  refine wp_cv0 dq_7_36 mt_7_45 (ob_of (tb_c0 hb9)) ⟨by decide +kernel, by decide +kernel⟩ (Nat.le_of_ble_eq_true rfl) (Nat.le_of_ble_eq_true rfl) (c_tempty hT) (fun v9 h9 q9 => ?_)
  clear hT hb9
  obtain ⟨rfl, a1, hT, ht0, hf9⟩ := q9
  have hg := RG_fr hg hf9
  have hf := fr_tr hf hf9
  clear hf9
  refine wp_aload_n dq_7_39 rfl ?_
  refine wp_cv0 dq_7_40 mt_7_48 (ob_of hg.2) ⟨by decide +kernel, by decide +kernel⟩ (Nat.le_of_ble_eq_true rfl) (Nat.le_of_ble_eq_true rfl) (c_st hT hg) (fun v9 h9 q9 => ?_)
  clear hT
  obtain ⟨rfl, hT, hf9⟩ := q9
  have hg := RG_fr hg hf9
  have hf := fr_tr hf hf9
  clear hf9
  refine wp_aload_n dq_7_43 rfl ?_
  refine wp_cv0 (P := fun v h' => v = none ∧ ∃ a', TS h' b B n (ra_2 B n) 0 a' ∧ fr b h9 h' ∧ (∀ q, q = 0 ∨ 5 ≤ q → a' q = a1 q) ∧ (snd (ra_2 B n) → PL B n (ra_T B n) a')) dq_7_44 mt_7_51 (ob_of hg.2) ⟨by decide +kernel, by decide +kernel⟩ (Nat.le_of_ble_eq_true rfl) (Nat.le_of_ble_eq_true rfl) (c_poK hT hg ht0 (fun h' a' k1 k2 k3 k4 => ⟨rfl, a', k1, k2, k3, k4⟩)) (fun v9 h9 q9 => ?_)
  clear hT
  obtain ⟨rfl, a2, hT, hf9, ha2, hPL⟩ := q9
  have hg := RG_fr hg hf9
  have hf := fr_tr hf hf9
  clear hf9
  refine wp_aload_n dq_7_47 rfl ?_
  refine wp_cv0 (P := fun v h' => v = none ∧ ∃ y, TS h' b B n (ra_3 B n) y a2 ∧ fr b h9 h' ∧ (snd (ra_2 B n) → y = nI (ra_F B n))) dq_7_48 mt_7_54 (ob_of hg.2) ⟨by decide +kernel, by decide +kernel⟩ (Nat.le_of_ble_eq_true rfl) (Nat.le_of_ble_eq_true rfl) (c_hdK (T := ra_T B n) hT hPL hg (fun h' y k1 k2 k3 => ⟨rfl, y, k1, k2, k3⟩)) (fun v9 h9 q9 => ?_)
  clear hT
  obtain ⟨rfl, y, hT, hf9, hy⟩ := q9
  have hg := RG_fr hg hf9
  have hf := fr_tr hf hf9
  clear hf9
  have hC : snd (ra_3 B n) → RC B n (ra_T B n) (ra_F B n) y a2 mM0 := fun hq => by
    obtain ⟨-, k1, k2⟩ := sp_hd rfl hq
    exact ⟨hPL k2, MR_eq ha2 (m0_R ht0), m0_V n, hy k2, k1⟩
  refine wp_aload_n dq_7_51 rfl ?_
  refine wp_iconst (x := 0) dq_7_52 rfl ?_
  refine wp_cv1 (P := fun v h' => v = none ∧ ∃ a', TS h' b B n (ra_4 B n).1 y a' ∧ fr b h9 h' ∧ (snd (ra_4 B n).1 → RC B n (ra_T B n) (ra_F B n) y a' (ra_4 B n).2)) dq_7_53 mt_7_57 (ob_of hg.2) ⟨by decide +kernel, by decide +kernel⟩ (Nat.le_of_ble_eq_true rfl) (Nat.le_of_ble_eq_true rfl) (c_msK (kd := 0) hT (fun hq => ⟨hC hq, rfl⟩) hg (by decide) (fun h' a' k1 k2 k3 => ⟨rfl, a', k1, k2, k3⟩)) (fun v9 h9 q9 => ?_)
  clear hT hC
  obtain ⟨rfl, a3, hT, hf9, hC⟩ := q9
  have hg := RG_fr hg hf9
  have hf := fr_tr hf hf9
  clear hf9
  refine wp_aload_n dq_7_56 rfl ?_
  refine wp_iconst (x := 1) dq_7_57 rfl ?_
  refine wp_cv1 (P := fun v h' => v = none ∧ ∃ a', TS h' b B n (ra_5 B n).1 y a' ∧ fr b h9 h' ∧ (snd (ra_5 B n).1 → RC B n (ra_T B n) (ra_F B n) y a' (ra_5 B n).2)) dq_7_58 mt_7_57 (ob_of hg.2) ⟨by decide +kernel, by decide +kernel⟩ (Nat.le_of_ble_eq_true rfl) (Nat.le_of_ble_eq_true rfl) (c_msK (kd := 1) hT (fun hq => ⟨hC hq, msL_c _ _ _ _ _ (by decide) _ _ _ _⟩) hg (by decide) (fun h' a' k1 k2 k3 => ⟨rfl, a', k1, k2, k3⟩)) (fun v9 h9 q9 => ?_)
  clear hT hC
  obtain ⟨rfl, a4, hT, hf9, hC⟩ := q9
  have hg := RG_fr hg hf9
  have hf := fr_tr hf hf9
  clear hf9
  refine wp_aload_n dq_7_61 rfl ?_
  refine wp_cv0 (P := fun v h' => v = none ∧ ∃ a', TS h' b B n (ra_6 B n).1 y a' ∧ fr b h9 h' ∧ (snd (ra_6 B n).1 → RC B n (ra_T B n) (ra_F B n) y a' (ra_6 B n).2)) dq_7_62 mt_7_61 (ob_of hg.2) ⟨by decide +kernel, by decide +kernel⟩ (Nat.le_of_ble_eq_true rfl) (Nat.le_of_ble_eq_true rfl) (c_ftK hT hg (fun hq => ⟨hC hq, by rw [(hC hq).2.2.1.2.1]; decide, fun _ => (msL_c _ _ _ _ _ (by decide) _ _ _ _).trans (msL_c _ _ _ _ _ (by decide) _ _ _ _)⟩) (fun h' a' k1 k2 k3 => ⟨rfl, a', k1, k2, k3⟩)) (fun v9 h9 q9 => ?_)
  clear hT hC
  obtain ⟨rfl, a5, hT, hf9, hC⟩ := q9
  have hg := RG_fr hg hf9
  have hf := fr_tr hf hf9
  clear hf9
  refine wp_aload_n dq_7_65 rfl ?_
  refine wp_cv0 (P := fun v h' => v = none ∧ TS h' b B n (ra_7 B n) y a5 ∧ fr b h9 h') dq_7_66 mt_7_64 (ob_of hg.2) ⟨by decide +kernel, by decide +kernel⟩ (Nat.le_of_ble_eq_true rfl) (Nat.le_of_ble_eq_true rfl) (c_weK hT hg (fun h' k1 k2 => ⟨rfl, k1, k2⟩)) (fun v9 h9 q9 => ?_)
  clear hT
  obtain ⟨rfl, hT, hf9⟩ := q9
  have hg := RG_fr hg hf9
  have hf := fr_tr hf hf9
  clear hf9
  obtain ⟨s9, hb9, hc9, hO9, hn9, h09, h19, hm9⟩ := id hT
  have q1 := (hf.2 0 (Or.inl (by omega))).trans q1
  refine wp_aload_n dq_7_69 rfl ?_
  refine wp_aload_n dq_7_70 rfl ?_
  refine wp_getf dq_7_71 fl_7_67 (tb_c2 hb9) rfl ?_
  refine wp_putf dq_7_74 fp_7_17.1 q1 ⟨Nat.le_of_ble_eq_true rfl, rfl, fp_7_17.2⟩ ?_
  have e7 : ∀ k, 0 < k → (h9.set 0 (.inr (0, [.ref 1, .int (nI n), .int w, mi, .ref b].set 2 (.int (s9 4)))))[k]? = h9[k]? := fun k hk => List.getElem?_set_ne (by omega)
  refine hK _ (s9 4) y a5 ?_ ⟨_, (e7 _ (by omega)).trans hg.2⟩ (fun k h1 h2 h3 => (e7 k h1).trans ((hf.2 k h3).trans (e6 k h2))) ⟨s9, tb_eq (fun k h1 h2 => e7 k (by omega)) hb9, hc9, hO9, hn9, h09, h19, hm9⟩ (fun hq => ⟨hC (sd_w rfl hq), ?_⟩) (fun e he => ?_) (st_eq q1)
  · rw [List.length_set]
    have := hf.1
    omega
  · obtain ⟨q, hq⟩ := hq
    rw [hq] at hm9
    exact hm9.2.2.2
  · rw [he] at hm9
    exact hm9.2.2.2.2
set_option maxRecDepth 100000 in
theorem P_read {L : Nat} {xs : Nat → Int32} {d n : Nat} {w : Int32} {B : Nat → Nat} {mr : Option rQ} {h : List qx_E} (hP : PI h B n w mr) (h17 : 17 < h.length) : wp_W L xs (d + 10) 7 0 (lv_args 0 [.ref 0]) [] h (fun r h' => frM h h' ∧ ((∃ e, ra_7 B n = .inr e ∧ r = some (.int (nI e.1)) ∧ PI h' B n (nI e.2) mr) ∨ (snd (ra_7 B n) ∧ r = some (.int 0) ∧ PI h' B n (-1) (some (B, n, ra_T B n, ra_F B n, (ra_6 B n).2))))) := by
  obtain ⟨f, b, s, a, mi, p1, p2, p3, p4, p5, p6, p7, p8⟩ := id hP
  obtain ⟨p9, p10⟩ := id p7
  have hl0 := tb_len p5
  refine c_readK p9 p1 p2 p3 p4 p5 p6 (fun h1 w' y a' k1 kg k2 hT k4 k5 k6 => ?_)
  obtain ⟨l4, kg⟩ := kg
  obtain ⟨s9, hb9, hc9, hO9, hn9, h09, h19, hm9⟩ := id hT
  have hw9 := TS_tw hc9 hn9 h19 hm9
  have hPM : ∀ b' : Nat, mi = .ref b' → sfe b' → (b + 10 < b' ∨ b' + 10 < b) → b' + 10 < h.length → ∀ k, b' ≤ k → k ≤ b' + 10 → h1[k]? = h[k]? := fun b' _ g1 g2 g3 k g4 g5 => k2 k (sf_0 g1 g4 g5) (by omega) (by omega)
  refine wp_aload_n dq_7_77 rfl ?_
  refine wp_cve0 dq_7_78 mt_7_68 (ob_of (tb_c2 hb9)) ⟨by decide +kernel, by decide +kernel⟩ (Nat.le_of_ble_eq_true rfl) (Nat.le_of_ble_eq_true rfl) (c_soundT hT) ?_
  rcases snd_or (ra_7 B n) with hs | ⟨e, he⟩
  · obtain ⟨hC, rfl⟩ := k4 hs
    obtain ⟨g1, g2, g3, g4, g5⟩ := hC
    refine wp_if_eq (tgt := 88) dq_7_81 rfl (fun c1 => absurd c1 (ok_1 hs)) (fun c1 => ?_)
    refine wp_aload_n dq_7_84 rfl ?_
    have hMI : ∀ h2 : List qx_E, tb h2 b s9 a' → MI h2 b (B, n, ra_T B n, ra_F B n, (ra_6 B n).2) := fun h2 hb2 => ⟨s9, a', hb2, hc9, hw9, ⟨hO9, hn9, h19, g1.1, g1.2.1⟩, g2, g3, h09.trans g4, g5⟩
    have hcd : s9 3 = 0 := by
      obtain ⟨q, hq⟩ := hs
      rw [hq] at hm9
      exact hm9.2.2.1
    cases mr with
    | none =>
      have e0 : mi = .null := p8
      subst e0
      refine wp_cv0 dq_7_85 mt_7_72 (ob_of k6) ⟨by decide +kernel, by decide +kernel⟩ (Nat.le_of_ble_eq_true rfl) (Nat.le_of_ble_eq_true rfl) (c_msB k6) (fun v9 h9 q9 => ?_)
      obtain ⟨rfl, r1, r2, r3, r4⟩ := q9
      have hb2 := tb_eq (h' := h9) (fun k h1 h2 => r2 k (by omega) (by omega)) hb9
      refine wp_aload_n dq_7_88 rfl ?_
      refine wp_getf dq_7_89 fl_7_75 (tb_c2 hb2) rfl ?_
      refine wp_ire dq_7_92 rfl ⟨rfl, Or.inl rfl⟩ ⟨⟨by omega, by omega, fun hS => SZ_rd hS r1 hb2 (fun k a1 a2 a3 => (r2 k a1 (by omega)).trans (k2 k a1 a2 a3)) ((r2 _ (by omega) (by omega)).trans kg) (Or.inr ⟨by omega, _, _, by rw [← k1]; exact r4⟩), fun k h1 h2 => (r2 k (by omega) (by omega)).trans (k2 k (by omega) (by omega) (by omega))⟩, Or.inr ⟨hs, by rw [hcd], f, h1.length, _, _, _, r1, (r2 1 (by omega) (by omega)).trans ((k2 1 (by omega) (by omega) (by omega)).trans p2), p3, p4, r4, tc_0, ⟨by omega, by omega⟩, b, rfl, hMI _ hb2, p7, by have := tb_len hb9; omega⟩⟩
    | some q =>
      obtain ⟨b', rfl, m2, m3, m4⟩ := p8
      have hl' : b' + 10 < h.length := by obtain ⟨_, _, hx, _⟩ := m2; exact tb_len hx
      have m2 := MI_eq (hPM b' rfl m3 m4 hl') m2
      refine wp_cv0 dq_7_85 mt_7_72 (ob_of k6) ⟨by decide +kernel, by decide +kernel⟩ (Nat.le_of_ble_eq_true rfl) (Nat.le_of_ble_eq_true rfl) (c_msA k6) (fun v9 h9 q9 => ?_)
      obtain ⟨rfl, r1, r2, r3⟩ := q9
      have hb2 := tb_eq (h' := h9) (fun k h1 h2 => r2 k (by omega)) hb9
      have m2 := MI_eq (h' := h9) (fun k h1 h2 => r2 k (sf_0 m3 h1 h2)) m2
      obtain ⟨s8, a8, m21, m22, -⟩ := m2
      refine wp_aload_n dq_7_88 rfl ?_
      refine wp_getf dq_7_89 fl_7_75 (tb_c2 hb2) rfl ?_
      refine wp_ire dq_7_92 rfl ⟨rfl, Or.inl rfl⟩ ⟨⟨by omega, by omega, fun hS => SZ_rd hS r1 hb2 (fun k a1 a2 a3 => (r2 k a1).trans (k2 k a1 a2 a3)) ((r2 _ (by omega)).trans kg) (Or.inl (by omega)), fun k h1 h2 => (r2 k (by omega)).trans (k2 k (by omega) (by omega) (by omega))⟩, Or.inr ⟨hs, by rw [hcd], f, b', _, _, _, r1, (r2 1 (by omega)).trans ((k2 1 (by omega) (by omega) (by omega)).trans p2), p3, p4, m21, m22, m3, b, rfl, hMI _ hb2, p7, by omega⟩⟩
  · refine wp_if_eq (tgt := 88) dq_7_81 rfl (fun c1 => ?_) (fun c1 => absurd (by rw [he]; rfl) c1)
    refine wp_aload_n dq_7_88 rfl ?_
    refine wp_getf dq_7_89 fl_7_75 (tb_c2 hb9) rfl ?_
    have hcd : s9 3 = nI e.1 := by
      rw [he] at hm9
      exact hm9.2.1
    refine wp_ire dq_7_92 rfl ⟨rfl, Or.inl rfl⟩ ⟨⟨by omega, by omega, fun hS => SZ_rd hS k6 hb9 k2 kg (Or.inl k1), fun k h1 h2 => k2 k (by omega) (by omega) (by omega)⟩, Or.inl ⟨e, he, by rw [hcd], f, b, s9, a', mi, by rw [← k5 e he]; exact k6, (k2 1 (by omega) (by omega) (by omega)).trans p2, p3, p4, hb9, hc9, p7, PM_eq (fun b' g0 g1 g2 => hPM b' g0 g1 g2 ?_) p8⟩⟩
    subst g0
    cases mr with
    | none => exact absurd p8 (by intro h; cases h)
    | some q =>
      obtain ⟨b2, e2, ⟨_, _, hx, _⟩, -, -⟩ := p8
      injection e2 with e2
      subst e2
      exact tb_len hx
