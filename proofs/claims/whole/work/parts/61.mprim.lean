/-! THE MODEL WHILE IT READS: z is what stays: (the heap at first, any, the mirror, the bytes kept) -/
abbrev rZ : Type := List qx_E × Int32 × (Nat → Int32) × (Nat → Int32)
def TR (h : List qx_E) (B : Nat → Nat) (n : Nat) (S : rS) (N : Nat → Int32) (z : rZ) : Prop := ∃ s fa, mw h s fa N z.2.2.1 z.2.2.2 ∧ frR z.1 h ∧ n ≤ 480 ∧ s 0 = nI n ∧ s 1 = z.2.1 ∧ s 2 = 0 ∧ tM (fun i => s (i + 1)) n S ∧ ∀ i, i < 480 → fa i = nI (B i) ∧ B i < 256
section TRS
variable {h : List qx_E} {B : Nat → Nat} {n : Nat} {S : rS} {N : Nat → Int32} {z : rZ}
theorem TR_A (hT : TR h B n S N z) : AW h B n N := by
  obtain ⟨s, fa, hb, hf, hn, h0, h1, h2, hm, hB⟩ := hT
  exact ⟨s, fa, N, _, _, hb, ⟨hn, fun i hi => (hB i (by omega)).2⟩, Or.inl ⟨h2, fun i hi => (hB i (by omega)).1, rfl⟩⟩
theorem TR_n (hT : TR h B n S N z) : n ≤ 480 := by
  obtain ⟨s, fa, hb, hf, hn, h0, h1, h2, hm, hB⟩ := hT
  exact hn
theorem TR_B (hT : TR h B n S N z) : ∀ j, j < n → B j < 256 := fun j hj => AW_B (TR_A hT) hj
theorem TR_v (hT : TR h B n S N z) {S' : rS} : rs_iv B n 2 S' < 65536 := rs_iv2 (TR_B hT)
theorem TR_pn (hT : TR h B n S N z) : rs_p S ≤ n := by
  obtain ⟨s, fa, hb, hf, hn, h0, h1, h2, hm, hB⟩ := hT
  exact TS_pn hm
theorem TR_x (hT : TR h B n S N z) : ∃ s fa, mw h s fa N z.2.2.1 z.2.2.2 ∧ s 0 = nI n ∧ (s 4 = 0 ↔ snd S) ∧ (snd S → s 3 = nI (rs_p S)) := by
  obtain ⟨s, fa, hb, hf, hn, h0, h1, h2, hm, hB⟩ := hT
  refine ⟨s, fa, hb, h0, ?_, fun hq => TS_p hm hq⟩
  cases S with
  | inl p => exact ⟨fun _ => snd_l p, fun _ => hm.2.2.1⟩
  | inr e =>
    obtain ⟨-, m2, m3, m4, -⟩ := hm
    have m2 : s 4 = nI e.1 := m2
    exact ⟨fun r => absurd (m2.symm.trans r) (nI_ne0 m3 (by omega)), fun r => absurd r not_snd⟩
theorem wp_tn {L : Nat} {xs : Nat → Int32} {d m pc i : Nat} {x : Int32} {lv : qx_L} {r : List Value} {Q : Option Value → List qx_E → Prop} (hd : decode (qx_code m) pc = .ok (.iastore, 1)) (hi : i < 500) (hT : TR h B n S N z) (kk : ∀ h', TR h' B n S (upd N i x) z → wp_W L xs d m (pc + 1) lv r h' Q) : wp_W L xs d m pc lv (.int x :: .int (nI i) :: .ref 15 :: r) h Q := by
  obtain ⟨s, fa, hb, hf, hn, h0, h1, h2, hm, hB⟩ := hT
  exact wp_n1 hd hi hb hf (fun h' hb hf => kk h' ⟨s, fa, hb, hf, hn, h0, h1, h2, hm, hB⟩)
end TRS
def rs_ro (n k : Nat) (S : rS) : rS := match S with
  | .inl p => if p + k ≤ n then .inl p else .inr (1, n)
  | .inr e => .inr e
def rsb (S : rS) : Bool := match S with
  | .inl _ => true
  | .inr _ => false
theorem bu_4 (B : Nat → Nat) (p : Nat) : bu_U B p 4 = B p * 16777216 + B (p + 1) * 65536 + B (p + 2) * 256 + B (p + 3) := by
  show (((0 * 256 + B (p + 0)) * 256 + B (p + 1)) * 256 + B (p + 2)) * 256 + B (p + 3) = _
  rw [Nat.add_zero]
  omega
theorem nI_31 : ∀ k, k < 32 → ((nI k &&& 31).toBitVec.smod 32).toNat = k := by decide +kernel
theorem wp_ishlN {L : Nat} {xs : Nat → Int32} {d m pc x k c : Nat} {lv : qx_L} {r : List Value} {h : List qx_E} {Q : Option Value → List qx_E → Prop} (hd : decode (qx_code m) pc = .ok (.ishl, 1)) (hk : k < 32) (hc : 2 ^ k = c) (hx : x * c < 4294967296) (kk : wp_W L xs d m (pc + 1) lv (.int (nI (x * c)) :: r) h Q) : wp_W L xs d m pc lv (.int (nI k) :: .int (nI x) :: r) h Q := by
  subst hc
  exact wp_ishl hd (by rw [pk_shlN (nI k &&& 31) k (nI_31 k hk) hx]; exact kk)
theorem wp_lshlN {L : Nat} {xs : Nat → Int32} {d m pc x k c : Nat} {lv : qx_L} {r : List Value} {h : List qx_E} {Q : Option Value → List qx_E → Prop} (hd : decode (qx_code m) pc = .ok (.lshl, 1)) (hk : k < 64) (hc : 2 ^ k = c) (kk : wp_W L xs d m (pc + 1) lv (.long (lN (x * c)) :: r) h Q) : wp_W L xs d m pc lv (.int (nI k) :: .long (lN x) :: r) h Q := by
  subst hc
  exact wp_lshl hd (by rw [wb_shl x hk]; exact kk)
set_option maxRecDepth 100000 in
theorem c_fail {L : Nat} {xs : Nat → Int32} {d n : Nat} {B : Nat → Nat} {N : Nat → Int32} {z : rZ} {S : rS} {h : List qx_E} {Q : Option Value → List qx_E → Prop} {c p : Nat} {x : Int32} (hT : TR h B n S N z) (hc : 0 < c ∧ c < 100) (hx : snd S → x = nI p) (hK : ∀ h', TR h' B n (rs_w false c p S) N z → Q none h') : wp_W L xs d 130 0 (lv_args 0 [.ref 13, .int (nI c), .int x]) [] h Q := by
  obtain ⟨s, fa, hb, hf, hn, h0, h1, h2, hm, hB⟩ := id hT
  show wp_W L xs _ 130 0 [(0, .ref 13), (1, .int (nI c)), (2, .int x)] [] h Q
  refine wp_aload_n dq_130_0 rfl ?_
  refine wp_getf dq_130_1 fl_130_116 (mw_0 hb) rfl ?_
  cases S with
  | inl p0 =>
    obtain ⟨m1, m2, m3, m4⟩ := hm
    refine wp_if_eq (tgt := 8) dq_130_4 rfl (fun c1 => ?_) (fun c1 => absurd m3 c1)
    refine wp_aload_n dq_130_8 rfl ?_
    refine wp_iload_n dq_130_9 rfl ?_
    refine wp_m4 dq_130_10 fp_130_116 hb hf (fun h hb hf => ?_)
    refine wp_aload_n dq_130_13 rfl ?_
    refine wp_iload_n dq_130_14 rfl ?_
    refine wp_m5 dq_130_15 fp_130_22 hb hf (fun h hb hf => ?_)
    exact wp_vre dq_130_18 rfl (hK _ ⟨_, fa, hb, hf, hn, h0, h1, h2, ⟨⟨p0, m1, m2⟩, rfl, hc.1, hc.2, hx (snd_l p0)⟩, hB⟩)
  | inr e =>
    obtain ⟨m1, m2, m3, m4, m5⟩ := hm
    refine wp_if_eq (tgt := 8) dq_130_4 rfl (fun c1 => absurd (m2.symm.trans c1) (nI_ne0 m3 (by omega))) (fun c1 => ?_)
    exact wp_vre dq_130_7 rfl (hK _ hT)
set_option maxRecDepth 100000 in
theorem c_room {L : Nat} {xs : Nat → Int32} {d n : Nat} {B : Nat → Nat} {N : Nat → Int32} {z : rZ} {S : rS} {h : List qx_E} {Q : Option Value → List qx_E → Prop} {k : Nat} (hT : TR h B n S N z) (hk : k < 4611686018427387904) (hK : ∀ h', TR h' B n (rs_ro n k S) N z → Q (some (.int (bI (rsb (rs_ro n k S))))) h') : wp_W L xs (d + 1) 129 0 (lv_args 0 [.ref 13, .long (lN k)]) [] h Q := by
  obtain ⟨s, fa, hb, hf, hn, h0, h1, h2, hm, hB⟩ := id hT
  show wp_W L xs _ 129 0 [(0, .ref 13), (1, .long (lN k))] [] h Q
  cases S with
  | inl p =>
    have hpn : p ≤ n := hm.1
    have m2 : s 3 = nI p := hm.2.1
    have m3 : s 4 = nI 0 := hm.2.2.1
    have hc := mw_0 hb
    rw [h0, h1, h2, m2, m3] at hc
    refine wp_aload_n dq_129_0 rfl ?_
    refine wp_getf (w := .int (nI 0)) dq_129_1 fl_129_116 hc rfl ?_
    refine wp_if_neN (tgt := 31) dq_129_4 rfl (by omega) (fun c9 => absurd c9 (by decide)) (fun _ => ?_)
    refine wp_lload_n dq_129_7 rfl ?_
    refine wp_aload_n dq_129_8 rfl ?_
    refine wp_getf (w := .int (nI n)) dq_129_9 fl_129_26 hc rfl ?_
    refine wp_aload_n dq_129_12 rfl ?_
    refine wp_getf (w := .int (nI p)) dq_129_13 fl_129_119 hc rfl ?_
    refine wp_isubN dq_129_16 (by omega) ?_
    refine wp_i2lN dq_129_17 (by omega) ?_
    refine wp_lc_leN (tgt := 31) dq_129_18 dq_129_19 rfl (by omega) (by omega) (fun c1 => ?_) (fun c1 => ?_)
    · refine wp_aload_n dq_129_31 rfl ?_
      refine wp_getf (w := .int (nI 0)) dq_129_32 fl_129_116 hc rfl ?_
      refine wp_if_neN (tgt := 42) dq_129_35 rfl (by omega) (fun c9 => absurd c9 (by decide)) (fun _ => ?_)
      refine wp_iconst (x := nI 1) dq_129_38 rfl ?_
      refine wp_goto (tgt := 43) dq_129_39 rfl ?_
      have e1 : rs_ro n k (.inl p) = .inl p := if_pos (by omega)
      rw [e1] at hK
      exact wp_ire dq_129_43 rfl ⟨rfl, Or.inr (Or.inl rfl)⟩ (hK _ hT)
    · refine wp_aload_n dq_129_22 rfl ?_
      refine wp_iconst (x := nI 1) dq_129_23 rfl ?_
      refine wp_aload_n dq_129_24 rfl ?_
      refine wp_getf (w := .int (nI n)) dq_129_25 fl_129_26 hc rfl ?_
      refine wp_cv2 (P := fun v h' => v = none ∧ TR h' B n (.inr (1, n)) N z) dq_129_28 mt_129_122 (ob_of hc) ⟨by decide +kernel, by decide +kernel⟩ (Nat.le_of_ble_eq_true rfl) (Nat.le_of_ble_eq_true rfl) (c_fail (c := 1) (p := n) hT (by decide) (fun _ => rfl) (fun h' k => ⟨rfl, k⟩)) (fun v9 h9 q9 => ?_)
      obtain ⟨rfl, hT9⟩ := q9
      obtain ⟨s9, fa9, hb9, -, hc9, -⟩ := TR_x hT9
      have e1 : rs_ro n k (.inl p) = .inr (1, n) := if_neg (by omega)
      rw [e1] at hK
      refine wp_aload_n dq_129_31 rfl ?_
      refine wp_getf dq_129_32 fl_129_116 (mw_0 hb9) rfl ?_
      refine wp_if_ne (tgt := 42) dq_129_35 rfl (fun c2 => ?_) (fun c2 => absurd (hc9.mp c2) not_snd)
      refine wp_iconst (x := nI 0) dq_129_42 rfl ?_
      exact wp_ire dq_129_43 rfl ⟨rfl, Or.inr (Or.inl rfl)⟩ (hK _ hT9)
  | inr e =>
    obtain ⟨m1, m2, m3, m4, m5⟩ := hm
    refine wp_aload_n dq_129_0 rfl ?_
    refine wp_getf dq_129_1 fl_129_116 (mw_0 hb) rfl ?_
    refine wp_if_ne (tgt := 31) dq_129_4 rfl (fun c1 => ?_) (fun c1 => absurd (m2.symm.trans c1) (nI_ne0 m3 (by omega)))
    refine wp_aload_n dq_129_31 rfl ?_
    refine wp_getf dq_129_32 fl_129_116 (mw_0 hb) rfl ?_
    refine wp_if_ne (tgt := 42) dq_129_35 rfl (fun c1 => ?_) (fun c1 => absurd (m2.symm.trans c1) (nI_ne0 m3 (by omega)))
    refine wp_iconst (x := nI 0) dq_129_42 rfl ?_
    exact wp_ire dq_129_43 rfl ⟨rfl, Or.inr (Or.inl rfl)⟩ (hK _ hT)
set_option maxRecDepth 100000 in
theorem c_u1 {L : Nat} {xs : Nat → Int32} {d n : Nat} {B : Nat → Nat} {N : Nat → Int32} {z : rZ} {S : rS} {h : List qx_E} {Q : Option Value → List qx_E → Prop} (hT : TR h B n S N z) (hK : ∀ h', TR h' B n (rs_is n 1 S) N z → Q (some (.int (nI (rs_iv B n 1 S)))) h') : wp_W L xs (d + 2) 134 0 (lv_args 0 [.ref 13]) [] h Q := by
  obtain ⟨s, fa, hb, -⟩ := id hT
  show wp_W L xs _ 134 0 [(0, .ref 13)] [] h Q
  refine wp_aload_n dq_134_0 rfl ?_
  refine wp_lconst (x := lN 1) dq_134_1 rfl ?_
  refine wp_cv1 (P := fun v h' => v = some (.int (bI (rsb (rs_ro n 1 S)))) ∧ TR h' B n (rs_ro n 1 S) N z) dq_134_2 mt_134_126 (ob_of (mw_0 hb)) ⟨by decide +kernel, by decide +kernel⟩ (Nat.le_of_ble_eq_true rfl) (Nat.le_of_ble_eq_true rfl) (c_room hT (by decide) (fun h' k => ⟨rfl, k⟩)) (fun v9 h9 q9 => ?_)
  clear hT hb
  obtain ⟨rfl, hT⟩ := q9
  cases S with
  | inr e =>
    refine wp_if_neB (tgt := 10) dq_134_5 rfl (fun c => by cases c) (fun _ => ?_)
    refine wp_iconst (x := nI 0) dq_134_8 rfl ?_
    exact wp_ire dq_134_9 rfl ⟨rfl, Or.inl rfl⟩ (hK _ hT)
  | inl p =>
    by_cases hp : p + 1 ≤ n
    · have e1 : rs_ro n 1 (.inl p) = .inl p := if_pos hp
      have e2 : rs_is n 1 (.inl p) = .inl (p + 1) := if_pos hp
      have e3 : rs_iv B n 1 (.inl p) = B p := rs_iv1 hp
      rw [e1] at hT
      rw [e2, e3] at hK
      refine wp_if_neB (tgt := 10) dq_134_5 rfl (fun _ => ?_) (fun c => by rw [e1] at c; cases c)
      obtain ⟨s, fa, hb, hf, hn, h0, h1, h2, hm, hB⟩ := id hT
      have m2 : s 3 = nI p := hm.2.1
      have m3 : s 4 = 0 := hm.2.2.1
      have m4 : s 5 = -1 := hm.2.2.2
      have hc := mw_0 hb
      rw [h0, h1, h2, m2] at hc
      have hBp : ∀ j, j < 1 → B (p + j) < 256 := fun j hj => (hB (p + j) (by omega)).2
      have hb0 : B p < 256 := hBp 0 (by decide)
      refine wp_aload_n dq_134_10 rfl ?_
      refine wp_dup dq_134_11 rfl ?_
      refine wp_getf (w := .int (nI p)) dq_134_12 fl_134_119 hc rfl ?_
      refine wp_iconst (x := nI 1) dq_134_15 rfl ?_
      refine wp_iaddN dq_134_16 ?_
      refine wp_m3 dq_134_17 fp_134_119 hb hf (fun h hb hf => ?_)
      refine wp_aload_n dq_134_20 rfl ?_
      refine wp_getf (w := .ref 14) dq_134_21 fl_134_7 (mw_0 hb) rfl ?_
      refine wp_aload_n dq_134_24 rfl ?_
      refine wp_getf (w := .int (nI (p + 1))) dq_134_25 fl_134_119 (mw_0 hb) rfl ?_
      refine wp_iconst (x := nI 1) dq_134_28 rfl ?_
      refine wp_isubN dq_134_29 (by omega) ?_
      refine wp_ialdV (z := (nI (B p))) dq_134_30 (mw_1 hb) (by omega) (by decide) (by rw [show ((p + 1) - 1) = p by omega]; exact (hB (p) (by omega)).1) ?_
      exact wp_ire dq_134_31 rfl ⟨rfl, Or.inl rfl⟩ (hK _ ⟨_, fa, hb, hf, hn, h0, h1, h2, ⟨hp, rfl, m3, m4⟩, hB⟩)
    · have e1 : rs_ro n 1 (.inl p) = .inr (1, n) := if_neg hp
      have e2 : rs_is n 1 (.inl p) = .inr (1, n) := if_neg hp
      have e3 : rs_iv B n 1 (.inl p) = 0 := if_neg hp
      rw [e1] at hT
      rw [e2, e3] at hK
      refine wp_if_neB (tgt := 10) dq_134_5 rfl (fun c => by rw [e1] at c; cases c) (fun _ => ?_)
      refine wp_iconst (x := nI 0) dq_134_8 rfl ?_
      exact wp_ire dq_134_9 rfl ⟨rfl, Or.inl rfl⟩ (hK _ hT)
set_option maxRecDepth 100000 in
theorem c_u2 {L : Nat} {xs : Nat → Int32} {d n : Nat} {B : Nat → Nat} {N : Nat → Int32} {z : rZ} {S : rS} {h : List qx_E} {Q : Option Value → List qx_E → Prop} (hT : TR h B n S N z) (hK : ∀ h', TR h' B n (rs_is n 2 S) N z → Q (some (.int (nI (rs_iv B n 2 S)))) h') : wp_W L xs (d + 2) 131 0 (lv_args 0 [.ref 13]) [] h Q := by
  obtain ⟨s, fa, hb, -⟩ := id hT
  show wp_W L xs _ 131 0 [(0, .ref 13)] [] h Q
  refine wp_aload_n dq_131_0 rfl ?_
  refine wp_ldc2 (v := lN 2) dq_131_1 (by decide +kernel) ?_
  refine wp_cv1 (P := fun v h' => v = some (.int (bI (rsb (rs_ro n 2 S)))) ∧ TR h' B n (rs_ro n 2 S) N z) dq_131_4 mt_131_126 (ob_of (mw_0 hb)) ⟨by decide +kernel, by decide +kernel⟩ (Nat.le_of_ble_eq_true rfl) (Nat.le_of_ble_eq_true rfl) (c_room hT (by decide) (fun h' k => ⟨rfl, k⟩)) (fun v9 h9 q9 => ?_)
  clear hT hb
  obtain ⟨rfl, hT⟩ := q9
  cases S with
  | inr e =>
    refine wp_if_neB (tgt := 12) dq_131_7 rfl (fun c => by cases c) (fun _ => ?_)
    refine wp_iconst (x := nI 0) dq_131_10 rfl ?_
    exact wp_ire dq_131_11 rfl ⟨rfl, Or.inl rfl⟩ (hK _ hT)
  | inl p =>
    by_cases hp : p + 2 ≤ n
    · have e1 : rs_ro n 2 (.inl p) = .inl p := if_pos hp
      have e2 : rs_is n 2 (.inl p) = .inl (p + 2) := if_pos hp
      have e3 : rs_iv B n 2 (.inl p) = B p * 256 + B (p + 1) := (if_pos hp : rs_iv B n 2 (.inl p) = bu_U B p 2).trans (bu_2 B p)
      rw [e1] at hT
      rw [e2, e3] at hK
      refine wp_if_neB (tgt := 12) dq_131_7 rfl (fun _ => ?_) (fun c => by rw [e1] at c; cases c)
      obtain ⟨s, fa, hb, hf, hn, h0, h1, h2, hm, hB⟩ := id hT
      have m2 : s 3 = nI p := hm.2.1
      have m3 : s 4 = 0 := hm.2.2.1
      have m4 : s 5 = -1 := hm.2.2.2
      have hc := mw_0 hb
      rw [h0, h1, h2, m2] at hc
      have hBp : ∀ j, j < 2 → B (p + j) < 256 := fun j hj => (hB (p + j) (by omega)).2
      have hb0 : B p < 256 := hBp 0 (by decide)
      have hb1 := hBp 1 (by decide)
      refine wp_aload_n dq_131_12 rfl ?_
      refine wp_dup dq_131_13 rfl ?_
      refine wp_getf (w := .int (nI p)) dq_131_14 fl_131_119 hc rfl ?_
      refine wp_iconst (x := nI 2) dq_131_17 rfl ?_
      refine wp_iaddN dq_131_18 ?_
      refine wp_m3 dq_131_19 fp_131_119 hb hf (fun h hb hf => ?_)
      refine wp_aload_n dq_131_22 rfl ?_
      refine wp_getf (w := .ref 14) dq_131_23 fl_131_7 (mw_0 hb) rfl ?_
      refine wp_aload_n dq_131_26 rfl ?_
      refine wp_getf (w := .int (nI (p + 2))) dq_131_27 fl_131_119 (mw_0 hb) rfl ?_
      refine wp_iconst (x := nI 2) dq_131_30 rfl ?_
      refine wp_isubN dq_131_31 (by omega) ?_
      refine wp_ialdV (z := (nI (B p))) dq_131_32 (mw_1 hb) (by omega) (by decide) (by rw [show ((p + 2) - 2) = p by omega]; exact (hB (p) (by omega)).1) ?_
      refine wp_sipush (x := nI 256) dq_131_33 rfl ?_
      refine wp_imulN dq_131_36 ?_
      refine wp_aload_n dq_131_37 rfl ?_
      refine wp_getf (w := .ref 14) dq_131_38 fl_131_7 (mw_0 hb) rfl ?_
      refine wp_aload_n dq_131_41 rfl ?_
      refine wp_getf (w := .int (nI (p + 2))) dq_131_42 fl_131_119 (mw_0 hb) rfl ?_
      refine wp_iconst (x := nI 1) dq_131_45 rfl ?_
      refine wp_isubN dq_131_46 (by omega) ?_
      refine wp_ialdV (z := (nI (B (p + 1)))) dq_131_47 (mw_1 hb) (by omega) (by decide) (by rw [show ((p + 2) - 1) = p + 1 by omega]; exact (hB (p + 1) (by omega)).1) ?_
      refine wp_iaddN dq_131_48 ?_
      exact wp_ire dq_131_49 rfl ⟨rfl, Or.inl rfl⟩ (hK _ ⟨_, fa, hb, hf, hn, h0, h1, h2, ⟨hp, rfl, m3, m4⟩, hB⟩)
    · have e1 : rs_ro n 2 (.inl p) = .inr (1, n) := if_neg hp
      have e2 : rs_is n 2 (.inl p) = .inr (1, n) := if_neg hp
      have e3 : rs_iv B n 2 (.inl p) = 0 := if_neg hp
      rw [e1] at hT
      rw [e2, e3] at hK
      refine wp_if_neB (tgt := 12) dq_131_7 rfl (fun c => by rw [e1] at c; cases c) (fun _ => ?_)
      refine wp_iconst (x := nI 0) dq_131_10 rfl ?_
      exact wp_ire dq_131_11 rfl ⟨rfl, Or.inl rfl⟩ (hK _ hT)
set_option maxRecDepth 100000 in
theorem c_u4 {L : Nat} {xs : Nat → Int32} {d n : Nat} {B : Nat → Nat} {N : Nat → Int32} {z : rZ} {S : rS} {h : List qx_E} {Q : Option Value → List qx_E → Prop} (hT : TR h B n S N z) (hK : ∀ h', TR h' B n (rs_is n 4 S) N z → Q (some (.long (lN (rs_iv B n 4 S)))) h') : wp_W L xs (d + 2) 128 0 (lv_args 0 [.ref 13]) [] h Q := by
  obtain ⟨s, fa, hb, -⟩ := id hT
  show wp_W L xs _ 128 0 [(0, .ref 13)] [] h Q
  refine wp_aload_n dq_128_0 rfl ?_
  refine wp_ldc2 (v := lN 4) dq_128_1 (by decide +kernel) ?_
  refine wp_cv1 (P := fun v h' => v = some (.int (bI (rsb (rs_ro n 4 S)))) ∧ TR h' B n (rs_ro n 4 S) N z) dq_128_4 mt_128_126 (ob_of (mw_0 hb)) ⟨by decide +kernel, by decide +kernel⟩ (Nat.le_of_ble_eq_true rfl) (Nat.le_of_ble_eq_true rfl) (c_room hT (by decide) (fun h' k => ⟨rfl, k⟩)) (fun v9 h9 q9 => ?_)
  clear hT hb
  obtain ⟨rfl, hT⟩ := q9
  cases S with
  | inr e =>
    refine wp_if_neB (tgt := 12) dq_128_7 rfl (fun c => by cases c) (fun _ => ?_)
    refine wp_lconst (x := lN 0) dq_128_10 rfl ?_
    exact wp_lre dq_128_11 rfl (hK _ hT)
  | inl p =>
    by_cases hp : p + 4 ≤ n
    · have e1 : rs_ro n 4 (.inl p) = .inl p := if_pos hp
      have e2 : rs_is n 4 (.inl p) = .inl (p + 4) := if_pos hp
      have e3 : rs_iv B n 4 (.inl p) = B p * 16777216 + B (p + 1) * 65536 + B (p + 2) * 256 + B (p + 3) := (if_pos hp : rs_iv B n 4 (.inl p) = bu_U B p 4).trans (bu_4 B p)
      rw [e1] at hT
      rw [e2, e3] at hK
      refine wp_if_neB (tgt := 12) dq_128_7 rfl (fun _ => ?_) (fun c => by rw [e1] at c; cases c)
      obtain ⟨s, fa, hb, hf, hn, h0, h1, h2, hm, hB⟩ := id hT
      have m2 : s 3 = nI p := hm.2.1
      have m3 : s 4 = 0 := hm.2.2.1
      have m4 : s 5 = -1 := hm.2.2.2
      have hc := mw_0 hb
      rw [h0, h1, h2, m2] at hc
      have hBp : ∀ j, j < 4 → B (p + j) < 256 := fun j hj => (hB (p + j) (by omega)).2
      have hb0 : B p < 256 := hBp 0 (by decide)
      have hb1 := hBp 1 (by decide)
      have hb2 := hBp 2 (by decide)
      have hb3 := hBp 3 (by decide)
      refine wp_aload_n dq_128_12 rfl ?_
      refine wp_dup dq_128_13 rfl ?_
      refine wp_getf (w := .int (nI p)) dq_128_14 fl_128_119 hc rfl ?_
      refine wp_iconst (x := nI 4) dq_128_17 rfl ?_
      refine wp_iaddN dq_128_18 ?_
      refine wp_m3 dq_128_19 fp_128_119 hb hf (fun h hb hf => ?_)
      refine wp_aload_n dq_128_22 rfl ?_
      refine wp_getf (w := .ref 14) dq_128_23 fl_128_7 (mw_0 hb) rfl ?_
      refine wp_aload_n dq_128_26 rfl ?_
      refine wp_getf (w := .int (nI (p + 4))) dq_128_27 fl_128_119 (mw_0 hb) rfl ?_
      refine wp_iconst (x := nI 4) dq_128_30 rfl ?_
      refine wp_isubN dq_128_31 (by omega) ?_
      refine wp_ialdV (z := (nI (B p))) dq_128_32 (mw_1 hb) (by omega) (by decide) (by rw [show ((p + 4) - 4) = p by omega]; exact (hB (p) (by omega)).1) ?_
      refine wp_i2lN dq_128_33 (by omega) ?_
      refine wp_bipush (x := nI 24) dq_128_34 rfl ?_
      refine wp_lshlN (c := 16777216) dq_128_36 (by decide) rfl ?_
      refine wp_aload_n dq_128_37 rfl ?_
      refine wp_getf (w := .ref 14) dq_128_38 fl_128_7 (mw_0 hb) rfl ?_
      refine wp_aload_n dq_128_41 rfl ?_
      refine wp_getf (w := .int (nI (p + 4))) dq_128_42 fl_128_119 (mw_0 hb) rfl ?_
      refine wp_iconst (x := nI 3) dq_128_45 rfl ?_
      refine wp_isubN dq_128_46 (by omega) ?_
      refine wp_ialdV (z := (nI (B (p + 1)))) dq_128_47 (mw_1 hb) (by omega) (by decide) (by rw [show ((p + 4) - 3) = p + 1 by omega]; exact (hB (p + 1) (by omega)).1) ?_
      refine wp_bipush (x := nI 16) dq_128_48 rfl ?_
      refine wp_ishlN (c := 65536) dq_128_50 (by decide) rfl (by omega) ?_
      refine wp_i2lN dq_128_51 (by omega) ?_
      refine wp_laddN dq_128_52 ?_
      refine wp_aload_n dq_128_53 rfl ?_
      refine wp_getf (w := .ref 14) dq_128_54 fl_128_7 (mw_0 hb) rfl ?_
      refine wp_aload_n dq_128_57 rfl ?_
      refine wp_getf (w := .int (nI (p + 4))) dq_128_58 fl_128_119 (mw_0 hb) rfl ?_
      refine wp_iconst (x := nI 2) dq_128_61 rfl ?_
      refine wp_isubN dq_128_62 (by omega) ?_
      refine wp_ialdV (z := (nI (B (p + 2)))) dq_128_63 (mw_1 hb) (by omega) (by decide) (by rw [show ((p + 4) - 2) = p + 2 by omega]; exact (hB (p + 2) (by omega)).1) ?_
      refine wp_bipush (x := nI 8) dq_128_64 rfl ?_
      refine wp_ishlN (c := 256) dq_128_66 (by decide) rfl (by omega) ?_
      refine wp_i2lN dq_128_67 (by omega) ?_
      refine wp_laddN dq_128_68 ?_
      refine wp_aload_n dq_128_69 rfl ?_
      refine wp_getf (w := .ref 14) dq_128_70 fl_128_7 (mw_0 hb) rfl ?_
      refine wp_aload_n dq_128_73 rfl ?_
      refine wp_getf (w := .int (nI (p + 4))) dq_128_74 fl_128_119 (mw_0 hb) rfl ?_
      refine wp_iconst (x := nI 1) dq_128_77 rfl ?_
      refine wp_isubN dq_128_78 (by omega) ?_
      refine wp_ialdV (z := (nI (B (p + 3)))) dq_128_79 (mw_1 hb) (by omega) (by decide) (by rw [show ((p + 4) - 1) = p + 3 by omega]; exact (hB (p + 3) (by omega)).1) ?_
      refine wp_i2lN dq_128_80 (by omega) ?_
      refine wp_laddN dq_128_81 ?_
      exact wp_lre dq_128_82 rfl (hK _ ⟨_, fa, hb, hf, hn, h0, h1, h2, ⟨hp, rfl, m3, m4⟩, hB⟩)
    · have e1 : rs_ro n 4 (.inl p) = .inr (1, n) := if_neg hp
      have e2 : rs_is n 4 (.inl p) = .inr (1, n) := if_neg hp
      have e3 : rs_iv B n 4 (.inl p) = 0 := if_neg hp
      rw [e1] at hT
      rw [e2, e3] at hK
      refine wp_if_neB (tgt := 12) dq_128_7 rfl (fun c => by rw [e1] at c; cases c) (fun _ => ?_)
      refine wp_lconst (x := lN 0) dq_128_10 rfl ?_
      exact wp_lre dq_128_11 rfl (hK _ hT)
