def RMI (s fc fd : Nat → Int32) (m : Option rQ) : Prop := match m with
  | none => s 1 = 0
  | some q => s 1 = 1 ∧ q.2.1 ≤ 480 ∧ (∀ i, i < q.2.1 → fd i = nI (q.1 i) ∧ q.1 i < 256) ∧ RZ q.1 q.2.1 q.2.2.1 q.2.2.2.1 q.2.2.2.2 fc ∧ snd (ra_7 q.1 q.2.1) ∧ q = (q.1, q.2.1, ra_T q.1 q.2.1, ra_F q.1 q.2.1, (ra_6 q.1 q.2.1).2)
/-- the model between two calls -/
def RI (h : List qx_E) (B : Nat → Nat) (n : Nat) (w : Int32) (m : Option rQ) : Prop := ∃ s fa fb fc fd, mw h s fa fb fc fd ∧ n ≤ 480 ∧ s 0 = nI n ∧ s 5 = w ∧ (∀ i, i < 480 → fa i = nI (B i) ∧ B i < 256) ∧ RMI s fc fd m
theorem RMI_s {s s' fc fd : Nat → Int32} {m : Option rQ} (h : RMI s fc fd m) (e : s' 1 = s 1) : RMI s' fc fd m := by
  cases m with
  | none => exact e.trans h
  | some q => exact ⟨e.trans h.1, h.2⟩
theorem mw_eq {h h' : List qx_E} {s fa fb fc fd : Nat → Int32} (e : ∀ k, 13 ≤ k → k ≤ 17 → h'[k]? = h[k]?) (hb : mw h s fa fb fc fd) : mw h' s fa fb fc fd := ⟨(e 13 (by decide) (by decide)).trans hb.1, (e 14 (by decide) (by decide)).trans hb.2.1, (e 15 (by decide) (by decide)).trans hb.2.2.1, (e 16 (by decide) (by decide)).trans hb.2.2.2.1, (e 17 (by decide) (by decide)).trans hb.2.2.2.2⟩
theorem RI_fr {h h' : List qx_E} {B : Nat → Nat} {n : Nat} {w : Int32} {m : Option rQ} (hR : RI h B n w m) (hf : frM h h') : RI h' B n w m := by
  obtain ⟨s, fa, fb, fc, fd, hb, r⟩ := hR
  exact ⟨s, fa, fb, fc, fd, mw_eq hf.2.2.2 hb, r⟩
theorem NK_c {B T : Nat → Nat} {N N' : Nat → Int32} {M : rM} {kd c kind : Nat} (h : ∀ i, i < c → NK B T N M kd i (kind + 8 * i)) (hc : c ≤ 16) (hk : kind ≤ 360) (hN : ∀ q, q < 500 → N' q = N q) : ∀ i, i < c → NK B T N' M kd i (kind + 8 * i) := fun i hi => NK_eq (h i hi) (fun j hj => hN _ (by omega)) rfl (fun _ _ => rfl)
theorem RZ_c {B : Nat → Nat} {n : Nat} {T : Nat → Nat} {F : Nat} {M : rM} {N N' : Nat → Int32} (h : RZ B n T F M N) (hN : ∀ q, q < 500 → N' q = N q) : RZ B n T F M N' := by
  obtain ⟨h1, h2, ⟨a0, a1, a2, a3, a4, a5, a6⟩, ⟨b1, b2, b3, b4⟩, h5, h6, ⟨c1, c2, c3, c4, c5⟩, ⟨d1, d2, d3, d4⟩⟩ := h
  refine ⟨PQ_c h1 (hN 2 (by decide)) (fun i _ _ => hN i (by omega)), h2, ⟨(hN 0 (by decide)).trans a0, (hN 1 (by decide)).trans a1, (hN 2 (by decide)).trans a2, (hN 3 (by decide)).trans a3, (hN 4 (by decide)).trans a4, (hN 5 (by decide)).trans a5, (hN 6 (by decide)).trans a6⟩, ⟨(hN 13 (by decide)).trans b1, (hN 14 (by decide)).trans b2, b3, b4⟩, NK_c h5 b3 (by decide) hN, NK_c h6 b4 (by decide) hN, ⟨(hN 16 (by decide)).trans c1, (hN 17 (by decide)).trans c2, fun w p1 p2 => ⟨(hN _ (by omega)).trans (c3 w p1 p2).1, fun r => (hN _ (by omega)).trans ((c3 w p1 p2).2 r)⟩, (hN 19 (by decide)).trans c4, (hN 18 (by decide)).trans c5⟩, ⟨d1, (hN 15 (by decide)).trans d2, NK_c d3 d4 (by decide) hN, d4⟩⟩
set_option maxRecDepth 100000 in
theorem c_rd0 {L : Nat} {xs : Nat → Int32} {d : Nat} {h0 : List qx_E} {Q : Option Value → List qx_E → Prop} {s fa fc fd : Nat → Int32} : ∀ j i fb (h : List qx_E), mw h s fa fb fc fd → frR h0 h → i + j = 100 → (∀ q, q < i → fb q = nI 0) → (∀ h' fb', mw h' s fa fb' fc fd → frR h0 h' → (∀ q, q < 100 → fb' q = nI 0) → wp_W L xs d 126 41 [(0, .ref 13)] [] h' Q) → wp_W L xs d 126 22 [(0, .ref 13), (1, .int (nI i))] [] h Q := by
  intro j
  induction j with
  | zero =>
    intro i fb h hb hf hi hz hK
    refine wp_iload_n dq_126_22 rfl ?_
    refine wp_bipush (x := nI 100) dq_126_23 rfl ?_
    refine wp_ic_geN (tgt := 41) dq_126_25 rfl (by omega) (by omega) (fun c1 => ?_) (fun c1 => absurd c1 (by omega))
    refine wp_fg (l := [(0, .ref 13)]) (e := [(1, .int (nI i))]) rfl rfl rfl ?_
    exact hK h fb hb hf (fun q hq => hz q (by omega))
  | succ j ih =>
    intro i fb h hb hf hi hz hK
    refine wp_iload_n dq_126_22 rfl ?_
    refine wp_bipush (x := nI 100) dq_126_23 rfl ?_
    refine wp_ic_geN (tgt := 41) dq_126_25 rfl (by omega) (by omega) (fun c1 => absurd c1 (by omega)) (fun c1 => ?_)
    refine wp_aload_n dq_126_28 rfl ?_
    refine wp_getf (w := .ref 15) dq_126_29 fl_126_13 (mw_0 hb) rfl ?_
    refine wp_iload_n dq_126_32 rfl ?_
    refine wp_iconst (x := nI 0) dq_126_33 rfl ?_
    refine wp_n1 dq_126_34 (by omega) hb hf (fun h hb hf => ?_)
    refine wp_iinc (y := nI (i + 1)) (lv' := [(0, .ref 13), (1, .int (nI (i + 1)))]) dq_126_35 rfl (nI_add _ _) (by decide) rfl ?_
    refine wp_goto (tgt := 22) dq_126_38 rfl ?_
    refine ih (i + 1) _ _ hb hf (by omega) (fun q hq => ?_) hK
    rcases Nat.lt_or_ge q i with r | r
    · rw [pk_un (by omega)]
      exact hz q r
    · rw [show q = i by omega, pk_us]
set_option maxRecDepth 100000 in
theorem c_rd1 {L : Nat} {xs : Nat → Int32} {d : Nat} {h0 : List qx_E} {Q : Option Value → List qx_E → Prop} {s fa fb fd : Nat → Int32} : ∀ j i fc (h : List qx_E), mw h s fa fb fc fd → frR h0 h → i + j = 500 → (∀ q, q < i → fc q = fb q) → (∀ h' fc', mw h' s fa fb fc' fd → frR h0 h' → (∀ q, q < 500 → fc' q = fb q) → wp_W L xs d 126 89 [(0, .ref 13)] [] h' Q) → wp_W L xs d 126 64 [(0, .ref 13), (1, .int (nI i))] [] h Q := by
  intro j
  induction j with
  | zero =>
    intro i fc h hb hf hi hz hK
    refine wp_iload_n dq_126_64 rfl ?_
    refine wp_sipush (x := nI 500) dq_126_65 rfl ?_
    refine wp_ic_geN (tgt := 89) dq_126_68 rfl (by omega) (by omega) (fun c1 => ?_) (fun c1 => absurd c1 (by omega))
    refine wp_fg (l := [(0, .ref 13)]) (e := [(1, .int (nI i))]) rfl rfl rfl ?_
    exact hK h fc hb hf (fun q hq => hz q (by omega))
  | succ j ih =>
    intro i fc h hb hf hi hz hK
    refine wp_iload_n dq_126_64 rfl ?_
    refine wp_sipush (x := nI 500) dq_126_65 rfl ?_
    refine wp_ic_geN (tgt := 89) dq_126_68 rfl (by omega) (by omega) (fun c1 => absurd c1 (by omega)) (fun c1 => ?_)
    refine wp_aload_n dq_126_71 rfl ?_
    refine wp_getf (w := .ref 16) dq_126_72 fl_126_16 (mw_0 hb) rfl ?_
    refine wp_iload_n dq_126_75 rfl ?_
    refine wp_aload_n dq_126_76 rfl ?_
    refine wp_getf (w := .ref 15) dq_126_77 fl_126_13 (mw_0 hb) rfl ?_
    refine wp_iload_n dq_126_80 rfl ?_
    refine wp_ialdV dq_126_81 (mw_2 hb) (by omega) (by decide) rfl ?_
    refine wp_n2 dq_126_82 (by omega) hb hf (fun h hb hf => ?_)
    refine wp_iinc (y := nI (i + 1)) (lv' := [(0, .ref 13), (1, .int (nI (i + 1)))]) dq_126_83 rfl (nI_add _ _) (by decide) rfl ?_
    refine wp_goto (tgt := 64) dq_126_86 rfl ?_
    refine ih (i + 1) _ _ hb hf (by omega) (fun q hq => ?_) hK
    rcases Nat.lt_or_ge q i with r | r
    · rw [pk_un (by omega)]
      exact hz q r
    · rw [show q = i by omega, pk_us]
set_option maxRecDepth 100000 in
theorem c_rd2 {L : Nat} {xs : Nat → Int32} {d : Nat} {h0 : List qx_E} {Q : Option Value → List qx_E → Prop} {s fa fb fc : Nat → Int32} {n : Nat} (hn : n ≤ 480) (h00 : s 0 = nI n) : ∀ j i fd (h : List qx_E), mw h s fa fb fc fd → frR h0 h → i + j = n → (∀ q, q < i → fd q = fa q) → (∀ h' fd', mw h' s fa fb fc fd' → frR h0 h' → (∀ q, q < n → fd' q = fa q) → wp_W L xs d 126 117 [(0, .ref 13)] [] h' Q) → wp_W L xs d 126 91 [(0, .ref 13), (1, .int (nI i))] [] h Q := by
  intro j
  induction j with
  | zero =>
    intro i fd h hb hf hi hz hK
    have ho := mw_0 hb
    rw [h00] at ho
    refine wp_iload_n dq_126_91 rfl ?_
    refine wp_aload_n dq_126_92 rfl ?_
    refine wp_getf (w := .int (nI n)) dq_126_93 fl_126_26 ho rfl ?_
    refine wp_ic_geN (tgt := 117) dq_126_96 rfl (by omega) (by omega) (fun c1 => ?_) (fun c1 => absurd c1 (by omega))
    refine wp_fg (l := [(0, .ref 13)]) (e := [(1, .int (nI i))]) rfl rfl rfl ?_
    exact hK h fd hb hf (fun q hq => hz q (by omega))
  | succ j ih =>
    intro i fd h hb hf hi hz hK
    have ho := mw_0 hb
    rw [h00] at ho
    refine wp_iload_n dq_126_91 rfl ?_
    refine wp_aload_n dq_126_92 rfl ?_
    refine wp_getf (w := .int (nI n)) dq_126_93 fl_126_26 ho rfl ?_
    refine wp_ic_geN (tgt := 117) dq_126_96 rfl (by omega) (by omega) (fun c1 => absurd c1 (by omega)) (fun c1 => ?_)
    refine wp_aload_n dq_126_99 rfl ?_
    refine wp_getf (w := .ref 17) dq_126_100 fl_126_19 (mw_0 hb) rfl ?_
    refine wp_iload_n dq_126_103 rfl ?_
    refine wp_aload_n dq_126_104 rfl ?_
    refine wp_getf (w := .ref 14) dq_126_105 fl_126_7 (mw_0 hb) rfl ?_
    refine wp_iload_n dq_126_108 rfl ?_
    refine wp_ialdV dq_126_109 (mw_1 hb) (by omega) (by decide) rfl ?_
    refine wp_n3 dq_126_110 (by omega) hb hf (fun h hb hf => ?_)
    refine wp_iinc (y := nI (i + 1)) (lv' := [(0, .ref 13), (1, .int (nI (i + 1)))]) dq_126_111 rfl (nI_add _ _) (by decide) rfl ?_
    refine wp_goto (tgt := 91) dq_126_114 rfl ?_
    refine ih (i + 1) _ _ hb hf (by omega) (fun q hq => ?_) hK
    rcases Nat.lt_or_ge q i with r | r
    · rw [pk_un (by omega)]
      exact hz q r
    · rw [show q = i by omega, pk_us]
set_option maxRecDepth 100000 in
theorem R_read {L : Nat} {xs : Nat → Int32} {d n : Nat} {w : Int32} {B : Nat → Nat} {mr : Option rQ} {h : List qx_E} (hR : RI h B n w mr) : wp_W L xs (d + 11) 126 0 (lv_args 0 [.ref 13]) [] h (fun r h' => frR h h' ∧ ((∃ e, ra_7 B n = .inr e ∧ r = some (.int (nI e.1)) ∧ RI h' B n (nI e.2) mr) ∨ (snd (ra_7 B n) ∧ r = some (.int 0) ∧ RI h' B n (-1) (some (B, n, ra_T B n, ra_F B n, (ra_6 B n).2))))) := by
  obtain ⟨s, fa, fb, fc, fd, hb, hn, h0, h5, hB, hm⟩ := hR
  have hz : ∃ x, x = h := ⟨h, rfl⟩
  obtain ⟨hh, hhe⟩ := hz
  have hf : frR hh h := by rw [hhe]; exact rr_rf
  have hgoal : wp_W L xs (d + 11) 126 0 [(0, .ref 13)] [] h (fun r h' => frR hh h' ∧ ((∃ e, ra_7 B n = .inr e ∧ r = some (.int (nI e.1)) ∧ RI h' B n (nI e.2) mr) ∨ (snd (ra_7 B n) ∧ r = some (.int 0) ∧ RI h' B n (-1) (some (B, n, ra_T B n, ra_F B n, (ra_6 B n).2))))) := by
    clear hhe
    refine wp_aload_n dq_126_0 rfl ?_
    refine wp_iconst (x := 0) dq_126_1 rfl ?_
    refine wp_m2 dq_126_2 fp_126_31 hb hf rfl (fun h hb hf => ?_)
    refine wp_aload_n dq_126_5 rfl ?_
    refine wp_iconst (x := nI 0) dq_126_6 rfl ?_
    refine wp_m3 dq_126_7 fp_126_119 hb hf (fun h hb hf => ?_)
    refine wp_aload_n dq_126_10 rfl ?_
    refine wp_iconst (x := 0) dq_126_11 rfl ?_
    refine wp_m4 dq_126_12 fp_126_116 hb hf (fun h hb hf => ?_)
    refine wp_aload_n dq_126_15 rfl ?_
    refine wp_iconst (x := -1) dq_126_16 rfl ?_
    refine wp_m5 dq_126_17 fp_126_22 hb hf (fun h hb hf => ?_)
    refine wp_iconst (x := nI 0) dq_126_20 rfl ?_
    refine wp_istore_n (lv' := [(0, .ref 13), (1, .int (nI 0))]) dq_126_21 (by decide) rfl ?_
    refine c_rd0 100 0 fb h hb hf (by decide) (fun q hq => by omega) (fun h fb hb hf hzz => ?_)
    have hT : TR h B n (.inl 0) fb (hh, s 1, fc, fd) := ⟨_, fa, hb, hf, hn, h0, rfl, rfl, ⟨Nat.zero_le n, rfl, rfl, rfl⟩, hB⟩
    refine wp_aload_n dq_126_41 rfl ?_
    refine wp_cv0 (P := fun v h' => v = none ∧ ∃ N', TR h' B n (ra_7 B n) N' (hh, s 1, fc, fd) ∧ (snd (ra_7 B n) → RZ B n (ra_T B n) (ra_F B n) (ra_6 B n).2 N')) dq_126_42 mt_126_246 (ob_of (mw_0 hb)) ⟨by decide +kernel, by decide +kernel⟩ (Nat.le_of_ble_eq_true rfl) (Nat.le_of_ble_eq_true rfl) (c_file hT rfl hzz (fun h' N' k1 k2 => ⟨rfl, N', k1, k2⟩)) (fun v9 h9 q9 => ?_)
    clear hT hb hf hB h0
    obtain ⟨rfl, N', hT, hRZ⟩ := q9
    obtain ⟨s9, fa9, hb, hf, -, h0, h1, h2, hm9, hB⟩ := hT
    refine wp_aload_n dq_126_45 rfl ?_
    refine wp_getf (w := .int (s9 4)) dq_126_46 fl_126_116 (mw_0 hb) rfl ?_
    rcases snd_or (ra_7 B n) with hs | ⟨e, he⟩
    · have hm4 : s9 4 = 0 ∧ s9 5 = -1 := by
        obtain ⟨q, hq⟩ := hs
        rw [hq] at hm9
        exact ⟨hm9.2.2.1, hm9.2.2.2⟩
      refine wp_if_eq (tgt := 57) dq_126_49 rfl (fun c1 => ?_) (fun c1 => absurd hm4.1 c1)
      refine wp_aload_n dq_126_57 rfl ?_
      refine wp_iconst (x := 1) dq_126_58 rfl ?_
      refine wp_m1 dq_126_59 fp_126_249 hb hf rfl (fun h hb hf => ?_)
      refine wp_iconst (x := nI 0) dq_126_62 rfl ?_
      refine wp_istore_n (lv' := [(0, .ref 13), (1, .int (nI 0))]) dq_126_63 (by decide) rfl ?_
      refine c_rd1 500 0 _ h hb hf (by decide) (fun q hq => by omega) (fun h fc' hb hf hzc => ?_)
      refine wp_iconst (x := nI 0) dq_126_89 rfl ?_
      refine wp_istore_n (lv' := [(0, .ref 13), (1, .int (nI 0))]) dq_126_90 (by decide) rfl ?_
      refine c_rd2 (s := upd s9 1 1) hn h0 n 0 _ h hb hf (by omega) (fun q hq => by omega) (fun h fd' hb hf hzd => ?_)
      refine wp_iconst (x := 0) dq_126_117 rfl ?_
      exact wp_ire dq_126_118 rfl ⟨rfl, Or.inl rfl⟩ ⟨hf, Or.inr ⟨hs, rfl, _, fa9, N', fc', fd', hb, hn, h0, hm4.2, hB, rfl, hn, fun i hi => ⟨(hzd i hi).trans (hB i (Nat.lt_of_lt_of_le hi hn)).1, (hB i (Nat.lt_of_lt_of_le hi hn)).2⟩, RZ_c (hRZ hs) hzc, hs, rfl⟩⟩
    · have hm4 : s9 4 = nI e.1 ∧ 0 < e.1 ∧ e.1 < 100 ∧ s9 5 = nI e.2 := by
        rw [he] at hm9
        exact hm9.2
      refine wp_if_eq (tgt := 57) dq_126_49 rfl (fun c1 => absurd (hm4.1.symm.trans c1) (nI_ne0 hm4.2.1 (by omega))) (fun c1 => ?_)
      refine wp_aload_n dq_126_52 rfl ?_
      refine wp_getf (w := .int (s9 4)) dq_126_53 fl_126_116 (mw_0 hb) rfl ?_
      exact wp_ire dq_126_56 rfl ⟨rfl, Or.inl rfl⟩ ⟨hf, Or.inl ⟨e, he, by rw [hm4.1], _, fa9, N', fc, fd, hb, hn, h0, hm4.2.2.2, hB, RMI_s hm h1⟩⟩
  rw [hhe] at hgoal
  exact hgoal
