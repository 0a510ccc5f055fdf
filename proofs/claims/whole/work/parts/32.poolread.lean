/-! THE SPEC: bytes B, size n, T the places of the pool's entries (0: none) -/
def snd (S : rS) : Prop := ∃ q, S = .inl q
def rs_p (S : rS) : Nat := match S with
  | .inl p => p
  | .inr _ => 0
def rs_w (c : Bool) (f p : Nat) (S : rS) : rS := match S with
  | .inl q => if c = true then .inl q else .inr (f, p)
  | .inr e => .inr e
def updN (T : Nat → Nat) (k p : Nat) : Nat → Nat := fun j => if j = k then p else T j
theorem updN_s {T : Nat → Nat} {k p : Nat} : updN T k p k = p := if_pos rfl
theorem updN_n {T : Nat → Nat} {k p j : Nat} (h : j ≠ k) : updN T k p j = T j := if_neg h
theorem sd_w {c : Bool} {f p : Nat} {S S' : rS} (e : rs_w c f p S = S') (h : snd S') : snd S := by
  subst e
  cases S with
  | inl q => exact ⟨q, rfl⟩
  | inr e => exact h
theorem sd_wc {c : Bool} {f p : Nat} {S S' : rS} (e : rs_w c f p S = S') (h : snd S') : c = true ∧ S' = S := by
  subst e
  cases S with
  | inl q =>
    cases c
    · obtain ⟨r, hr⟩ := h
      cases hr
    · exact ⟨rfl, rfl⟩
  | inr e =>
    obtain ⟨r, hr⟩ := h
    cases hr
theorem sd_is {n k : Nat} {S S' : rS} (e : rs_is n k S = S') (h : snd S') : snd S := by
  subst e
  cases S with
  | inl q => exact ⟨q, rfl⟩
  | inr e => exact h
theorem sd_isp {n k : Nat} {S S' : rS} (e : rs_is n k S = S') (h : snd S') : S = .inl (rs_p S) ∧ rs_p S + k ≤ n ∧ S' = .inl (rs_p S + k) := by
  subst e
  cases S with
  | inl q =>
    have h1 : snd (if q + k ≤ n then .inl (q + k) else .inr (1, n)) := h
    by_cases hq : q + k ≤ n
    · exact ⟨rfl, hq, if_pos hq⟩
    · rw [if_neg hq] at h1
      obtain ⟨r, hr⟩ := h1
      cases hr
  | inr e =>
    obtain ⟨r, hr⟩ := h
    cases hr
theorem iv_of {B : Nat → Nat} {n k : Nat} {S S' : rS} (e : rs_is n k S = S') (h : snd S') : rs_iv B n k S = bu_U B (rs_p S) k := by
  obtain ⟨e1, e2, -⟩ := sd_isp e h
  rw [e1]
  exact if_pos e2
theorem snd_p {S : rS} (h : snd S) : S = .inl (rs_p S) := by
  obtain ⟨q, rfl⟩ := h
  rfl
theorem snd_l (q : Nat) : snd (.inl q) := ⟨q, rfl⟩
theorem not_snd {e : Nat × Nat} : ¬ snd (.inr e) := fun h => by obtain ⟨q, hq⟩ := h; cases hq
theorem TS_p {s : Nat → Int32} {n : Nat} {S : rS} (hm : tM s n S) (h : snd S) : s 2 = nI (rs_p S) := by
  obtain ⟨q, rfl⟩ := h
  exact hm.2.1
theorem TS_pn {s : Nat → Int32} {n : Nat} {S : rS} (hm : tM s n S) : rs_p S ≤ n := by
  cases S with
  | inl q => exact hm.1
  | inr e => exact Nat.zero_le n
theorem rs_wtb {z : Int32} {c : Bool} {f p : Nat} {S : rS} (hz : snd S → z = bI c) : rs_wt z f p S = rs_w c f p S := by
  cases S with
  | inl q =>
    rw [hz ⟨q, rfl⟩]
    cases c
    · rfl
    · rfl
  | inr e => rfl
def rs_pl (B : Nat → Nat) (n N : Nat) : Nat → Nat → rS → (Nat → Nat) → rS × (Nat → Nat)
  | 0, _, S, T => (S, T)
  | j + 1, k, .inl p, T => if k < N then rs_pl B n N j (if rs_iv B n 1 (.inl p) = 5 ∨ rs_iv B n 1 (.inl p) = 6 then k + 2 else k + 1) (rs_en B n N k (rs_iv B n 1 (.inl p)) p (rs_is n 1 (.inl p))) (updN T k p) else (.inl p, T)
  | _ + 1, _, .inr e, T => (.inr e, T)
theorem rs_pl_e (B : Nat → Nat) (n N j k : Nat) (e : Nat × Nat) (T : Nat → Nat) : rs_pl B n N j k (.inr e) T = (.inr e, T) := by cases j <;> rfl
theorem rs_pl_x (B : Nat → Nat) (n N j k p : Nat) (T : Nat → Nat) (h : ¬ k < N) : rs_pl B n N j k (.inl p) T = (.inl p, T) := by
  cases j with
  | zero => rfl
  | succ j => exact if_neg h
/-- an entry in order -/
def eOK (B : Nat → Nat) (n p : Nat) : Prop := 0 < p ∧ ((B p = 1 ∧ p + 3 + bu_U B (p + 1) 2 ≤ n ∧ ∀ i, i < bu_U B (p + 1) 2 → 1 ≤ B (p + 3 + i) ∧ B (p + 3 + i) ≤ 127) ∨ ((B p = 7 ∨ B p = 8) ∧ p + 3 ≤ n) ∨ ((B p = 3 ∨ B p = 4 ∨ B p = 9 ∨ B p = 10 ∨ B p = 11 ∨ B p = 12) ∧ p + 5 ≤ n) ∨ ((B p = 5 ∨ B p = 6) ∧ p + 9 ≤ n))
theorem rs_ch_in {B : Nat → Nat} {n : Nat} : ∀ j S r, rs_ch B n j S = .inl r → ∃ p, S = .inl p ∧ r = p + j ∧ (0 < j → r ≤ n) ∧ ∀ i, i < j → 1 ≤ B (p + i) ∧ B (p + i) ≤ 127
  | 0, S, r, e => ⟨r, e, rfl, fun h => absurd h (by decide), fun i hi => absurd hi (Nat.not_lt_zero i)⟩
  | j + 1, .inr e0, r, e => by cases e
  | j + 1, .inl p, r, e => by
    have e1 : (if p + 1 ≤ n then (if 1 ≤ B p ∧ B p ≤ 127 then rs_ch B n j (.inl (p + 1)) else .inr (4, p)) else .inr (1, n)) = .inl r := e
    by_cases h1 : p + 1 ≤ n
    · rw [if_pos h1] at e1
      by_cases h2 : 1 ≤ B p ∧ B p ≤ 127
      · rw [if_pos h2] at e1
        obtain ⟨p', e2, e3, e4, e5⟩ := rs_ch_in j (.inl (p + 1)) r e1
        cases e2
        refine ⟨p, rfl, by omega, fun _ => by omega, fun i hi => ?_⟩
        cases i with
        | zero => exact h2
        | succ i => rw [show p + (i + 1) = p + 1 + i by omega]; exact e5 i (by omega)
      · rw [if_neg h2] at e1
        cases e1
    · rw [if_neg h1] at e1
      cases e1
theorem rs_en_ok {B : Nat → Nat} {n N k p r : Nat} (hp : 0 < p) (e : rs_en B n N k (rs_iv B n 1 (.inl p)) p (rs_is n 1 (.inl p)) = .inl r) : eOK B n p ∧ rs_iv B n 1 (.inl p) = B p ∧ p < r ∧ p + 1 ≤ n ∧ (B p = 1 → p + 3 ≤ n) := by
  by_cases hp1 : p + 1 ≤ n
  · rw [rs_iv1 hp1, show rs_is n 1 (.inl p) = .inl (p + 1) from if_pos hp1] at e
    rw [rs_iv1 hp1]
    unfold rs_en at e
    by_cases g1 : B p = 1
    · rw [if_pos g1] at e
      unfold rs_tx at e
      obtain ⟨q, e1, e2, e3, e4⟩ := rs_ch_in _ _ _ e
      obtain ⟨f1, f2, f3⟩ := sd_isp (rfl : rs_is n 2 (.inl (p + 1)) = _) (by rw [e1]; exact snd_l q)
      rw [f3] at e1
      injection e1 with e1
      have hv : rs_iv B n 2 (.inl (p + 1)) = bu_U B (p + 1) 2 := if_pos f2
      have h3 : p + 1 + 2 ≤ n := f2
      have hq : q = p + 3 := e1.symm
      subst hq
      rw [hv] at e2 e3 e4
      refine ⟨⟨hp, Or.inl ⟨g1, ?_, e4⟩⟩, rfl, by omega, hp1, fun _ => by omega⟩
      rcases Nat.eq_zero_or_pos (bu_U B (p + 1) 2) with z | z
      · omega
      · have := e3 z; omega
    · rw [if_neg g1] at e
      by_cases g2 : B p = 7 ∨ B p = 8
      · rw [if_pos g2] at e
        obtain ⟨f1, f2, f3⟩ := sd_isp e (snd_l r)
        have h3 : p + 1 + 2 ≤ n := f2
        injection f3 with f3
        have h4 : r = p + 1 + 2 := f3
        exact ⟨⟨hp, Or.inr (Or.inl ⟨g2, by omega⟩)⟩, rfl, by omega, hp1, fun h => absurd h g1⟩
      · rw [if_neg g2] at e
        by_cases g3 : B p = 3 ∨ B p = 4 ∨ B p = 9 ∨ B p = 10 ∨ B p = 11 ∨ B p = 12
        · rw [if_pos g3] at e
          obtain ⟨f1, f2, f3⟩ := sd_isp e (snd_l r)
          have h3 : p + 1 + 4 ≤ n := f2
          injection f3 with f3
          have h4 : r = p + 1 + 4 := f3
          exact ⟨⟨hp, Or.inr (Or.inr (Or.inl ⟨g3, by omega⟩))⟩, rfl, by omega, hp1, fun h => absurd h g1⟩
        · rw [if_neg g3] at e
          by_cases g4 : B p = 5 ∨ B p = 6
          · rw [if_pos g4] at e
            obtain ⟨f1, f2, f3⟩ := sd_isp e (snd_l r)
            have h8 : rs_p (rs_wt (if k + 1 < N then 1 else 0) 4 p (.inl (p + 1))) = p + 1 := by
              have f4 : (if (if k + 1 < N then 1 else 0 : Int32) = 0 then (.inr (4, p) : rS) else .inl (p + 1)) = .inl (rs_p (rs_wt (if k + 1 < N then 1 else 0) 4 p (.inl (p + 1)))) := f1
              by_cases hk : (if k + 1 < N then 1 else 0 : Int32) = 0
              · rw [if_pos hk] at f4
                cases f4
              · rw [if_neg hk] at f4
                injection f4 with f4
                exact f4.symm
            rw [h8] at f2 f3
            injection f3 with f3
            exact ⟨⟨hp, Or.inr (Or.inr (Or.inr ⟨g4, by omega⟩))⟩, rfl, by omega, hp1, fun h => absurd h g1⟩
          · rw [if_neg g4] at e
            cases e
  · exfalso
    rw [show rs_is n 1 (.inl p) = .inr (1, n) from if_neg hp1, show rs_iv B n 1 (.inl p) = 0 from if_neg hp1] at e
    cases e
/-- the pool's arrays: what the entries at the places say -/
def PR (B : Nat → Nat) (T : Nat → Nat) (a : Nat → Nat → Int32) : Prop := ∀ j, j < 64 → (T j = 0 → a 1 j = 0) ∧ (T j ≠ 0 → a 1 j = nI (B (T j)) ∧ a 2 j = nI (T j) ∧ (B (T j) = 1 → a 3 j = nI (bu_U B (T j + 1) 2)))
theorem tc_of {a a' : Nat → Nat → Int32} (h : tc a) (e : a' 5 = a 5) : tc a' := by unfold tc; rw [e]; exact h
/-- one entry: the arrays follow -/
theorem PR_st {B T : Nat → Nat} {n N k p r : Nat} {a : Nat → Nat → Int32} (hR : PR B T a) (hp : 0 < p) (e : rs_en B n N k (rs_iv B n 1 (.inl p)) p (rs_is n 1 (.inl p)) = .inl r) : PR B (updN T k p) (rs_ea B n k (rs_iv B n 1 (.inl p)) (rs_is n 1 (.inl p)) (tb_va (tb_va a 2 (upd (a 2) k (nI p))) 1 (upd (a 1) k (nI (rs_iv B n 1 (.inl p)))))) := by
  obtain ⟨-, h2, h3, h4, h5⟩ := rs_en_ok hp e
  rw [h2, show rs_is n 1 (.inl p) = .inl (p + 1) from if_pos h4]
  intro j hj
  have ha1 : (rs_ea B n k (B p) (.inl (p + 1)) (tb_va (tb_va a 2 (upd (a 2) k (nI p))) 1 (upd (a 1) k (nI (B p))))) 1 = upd (a 1) k (nI (B p)) := by
    unfold rs_ea
    split <;> rfl
  have ha2 : (rs_ea B n k (B p) (.inl (p + 1)) (tb_va (tb_va a 2 (upd (a 2) k (nI p))) 1 (upd (a 1) k (nI (B p))))) 2 = upd (a 2) k (nI p) := by
    unfold rs_ea
    split <;> rfl
  rw [ha1, ha2]
  by_cases hjk : j = k
  · subst hjk
    rw [updN_s, pk_us, pk_us]
    refine ⟨fun h => absurd h (by omega), fun _ => ⟨rfl, rfl, fun h1 => ?_⟩⟩
    unfold rs_ea
    rw [if_pos h1]
    show upd (a 3) j (nI (rs_iv B n 2 (.inl (p + 1)))) j = _
    rw [pk_us, show rs_iv B n 2 (.inl (p + 1)) = bu_U B (p + 1) 2 from if_pos (h5 h1)]
  · rw [updN_n hjk, pk_un hjk, pk_un hjk]
    have ha3 : (rs_ea B n k (B p) (.inl (p + 1)) (tb_va (tb_va a 2 (upd (a 2) k (nI p))) 1 (upd (a 1) k (nI (B p))))) 3 j = a 3 j := by
      unfold rs_ea
      split
      · exact pk_un hjk
      · rfl
    rw [ha3]
    exact hR j hj
/-- the places that a sound reading of the pool leaves -/
theorem rs_pl_ok {B : Nat → Nat} {n N : Nat} : ∀ j k S T r T', 1 ≤ k → (∀ q, S = .inl q → 0 < q) → (∀ i, T i ≠ 0 → 1 ≤ i ∧ i < N ∧ i < k ∧ eOK B n (T i)) → rs_pl B n N j k S T = (.inl r, T') → (∀ i, T' i ≠ 0 → 1 ≤ i ∧ i < N ∧ eOK B n (T' i)) ∧ ∃ q, S = .inl q ∧ q ≤ r
  | 0, k, S, T, r, T', hk, hS, hT, e => by
    injection e with e1 e2
    subst e1 e2
    exact ⟨fun i hi => by obtain ⟨a1, a2, a3, a4⟩ := hT i hi; exact ⟨a1, a2, a4⟩, r, rfl, Nat.le_refl r⟩
  | j + 1, k, .inr e0, T, r, T', hk, hS, hT, e => by
    injection e with e1 e2
    cases e1
  | j + 1, k, .inl p, T, r, T', hk, hS, hT, e => by
    have e1 : (if k < N then rs_pl B n N j (if rs_iv B n 1 (.inl p) = 5 ∨ rs_iv B n 1 (.inl p) = 6 then k + 2 else k + 1) (rs_en B n N k (rs_iv B n 1 (.inl p)) p (rs_is n 1 (.inl p))) (updN T k p) else (.inl p, T)) = (.inl r, T') := e
    by_cases hN : k < N
    · rw [if_pos hN] at e1
      have hp := hS p rfl
      cases hx : rs_en B n N k (rs_iv B n 1 (.inl p)) p (rs_is n 1 (.inl p)) with
      | inr e0 =>
        rw [hx, rs_pl_e] at e1
        injection e1 with e2 e3
        cases e2
      | inl q =>
        rw [hx] at e1
        obtain ⟨g1, g2, g3, g4, g5⟩ := rs_en_ok hp hx
        obtain ⟨f1, q', f2, f3⟩ := rs_pl_ok j _ (.inl q) (updN T k p) r T' (by split <;> omega) (fun q1 h1 => by cases h1; omega) (fun i hi => by
          by_cases hik : i = k
          · subst hik
            rw [updN_s] at hi ⊢
            exact ⟨hk, hN, by split <;> omega, g1⟩
          · rw [updN_n hik] at hi ⊢
            obtain ⟨b1, b2, b3, b4⟩ := hT i hi
            exact ⟨b1, b2, by split <;> omega, b4⟩) e1
        cases f2
        exact ⟨f1, p, rfl, by omega⟩
    · rw [if_neg hN] at e1
      injection e1 with e2 e3
      injection e2 with e2
      subst e2 e3
      exact ⟨fun i hi => by obtain ⟨a1, a2, a3, a4⟩ := hT i hi; exact ⟨a1, a2, a4⟩, p, rfl, Nat.le_refl p⟩
theorem c_wantB {L : Nat} {xs : Nat → Int32} {d b n : Nat} {B : Nat → Nat} {fp : Int32} {S : rS} {h : List qx_E} {a : Nat → Nat → Int32} {z y : Int32} {f p : Nat} {c : Bool} (hT : TS h b B n S fp a) (hf : 0 < f ∧ f < 100) (hz : snd S → z = bI c) (hy : snd S → y = nI p) : wp_W L xs d 15 0 (lv_args 0 [.ref (b + 2), .int z, .int (nI f), .int y]) [] h (fun v h' => v = none ∧ TS h' b B n (rs_w c f p S) fp a ∧ fr b h h') := by
  rw [← rs_wtb (f := f) (p := p) hz]
  exact c_wantT hT hf hy
theorem TS.intro {h : List qx_E} {b n : Nat} {B : Nat → Nat} {S : rS} {fp : Int32} {s : Nat → Int32} {a : Nat → Nat → Int32} (hb : tb h b s a) (hc : tc a) (hO : gO (a 0) B n) (hn : n ≤ 480) (h0 : s 0 = fp) (h1 : s 1 = nI n) (hm : tM s n S) : TS h b B n S fp a := ⟨s, hb, hc, hO, hn, h0, h1, hm⟩
theorem rs_ea1 {B : Nat → Nat} {n k t : Nat} {S : rS} {a : Nat → Nat → Int32} {x y : Int32} : rs_ea B n k t S (tb_va (tb_va a 2 (upd (a 2) k x)) 1 (upd (a 1) k y)) 1 k = y := by
  unfold rs_ea
  split <;> exact pk_us
theorem rs_eao {B : Nat → Nat} {n k t i : Nat} {S : rS} {a : Nat → Nat → Int32} {f g : Nat → Int32} (hi : i = 0 ∨ 4 ≤ i) : rs_ea B n k t S (tb_va (tb_va a 2 f) 1 g) i = a i := by
  unfold rs_ea
  split
  · show (if i = 3 then _ else if i = 1 then _ else if i = 2 then _ else a i) = a i
    rw [if_neg (by omega), if_neg (by omega), if_neg (by omega)]
  · show (if i = 1 then _ else if i = 2 then _ else a i) = a i
    rw [if_neg (by omega), if_neg (by omega)]
set_option maxRecDepth 100000 in
theorem c_reL {L : Nat} {xs : Nat → Int32} {d b n : Nat} {B : Nat → Nat} {fp : Int32} {N : Nat} {h0 : List qx_E} {Q : Option Value → List qx_E → Prop} (hNb : N < 65536) (hBB : ∀ j, j < n → B j < 256) : ∀ j k S (T : Nat → Nat) (h : List qx_E) (a : Nat → Nat → Int32), TS h b B n S fp a → fr b h0 h → (snd S → PR B T a ∧ N ≤ 64 ∧ 0 < rs_p S) → N ≤ k + j → k < 70000 → (∀ h' a', TS h' b B n (rs_pl B n N j k S T).1 fp a' → fr b h0 h' → (∀ i, i = 0 ∨ 4 ≤ i → a' i = a i) → (snd (rs_pl B n N j k S T).1 → PR B (rs_pl B n N j k S T).2 a') → Q none h') → wp_W L xs (d + 5) 19 2 [(0, .ref (b + 1)), (1, .int (nI N)), (2, .int (nI k))] [] h Q := by
  intro j
  induction j with
  | zero =>
    intro k S T h a hT hf hR hk hk9 hK
    refine wp_iload_n dq_19_2 rfl ?_
    refine wp_iload_n dq_19_3 rfl ?_
    refine wp_ic_ge (tgt := 87) dq_19_4 rfl (fun c1 => ?_) (fun c1 => absurd (nI_le (by omega) (by omega)) c1)
    exact wp_vre dq_19_87 rfl (hK h a hT hf (fun _ _ => rfl) (fun q => (hR q).1))
  | succ j ih =>
    intro k S T h a hT hf hR hk hk9 hK
    obtain ⟨s, hb, hc, hO, hn, h0, h1, hm⟩ := id hT
    cases S with
    | inr e0 =>
      have hE := hK h a (by rw [rs_pl_e]; exact hT) hf (fun _ _ => rfl) (fun q => by rw [rs_pl_e] at q; exact absurd q not_snd)
      refine wp_iload_n dq_19_2 rfl ?_
      refine wp_iload_n dq_19_3 rfl ?_
      refine wp_ic_ge (tgt := 87) dq_19_4 rfl (fun c1 => wp_vre dq_19_87 rfl hE) (fun c1 => ?_)
      refine wp_iload_n dq_19_7 rfl ?_
      refine wp_bipush (x := 64) dq_19_8 rfl ?_
      refine wp_ic_ge (tgt := 87) dq_19_10 rfl (fun c1 => wp_vre dq_19_87 rfl hE) (fun c1 => ?_)
      refine wp_aload_n dq_19_13 rfl ?_
      refine wp_getf dq_19_14 fl_19_12 (tb_c1 hb) rfl ?_
      refine wp_cve0 dq_19_17 mt_19_37 (ob_of (tb_c2 hb)) ⟨by decide +kernel, by decide +kernel⟩ (Nat.le_of_ble_eq_true rfl) (Nat.le_of_ble_eq_true rfl) (c_soundT hT) ?_
      refine wp_if_eq (tgt := 87) dq_19_20 rfl (fun c2 => wp_vre dq_19_87 rfl hE) (fun c2 => absurd rfl c2)
    | inl p =>
      obtain ⟨hR1, hN64, hp0⟩ := hR (snd_l p)
      have hR : PR B T a ∧ 0 < p := ⟨hR1, hp0⟩
      rcases Nat.lt_or_ge k N with hkN | hkN
      rotate_left
      · have hE := hK h a (by rw [rs_pl_x _ _ _ _ _ _ _ (by omega)]; exact hT) hf (fun _ _ => rfl) (fun q => by rw [rs_pl_x _ _ _ _ _ _ _ (by omega)]; exact hR1)
        refine wp_iload_n dq_19_2 rfl ?_
        refine wp_iload_n dq_19_3 rfl ?_
        refine wp_ic_ge (tgt := 87) dq_19_4 rfl (fun c1 => ?_) (fun c1 => absurd (nI_le (by omega) (by omega)) c1)
        exact wp_vre dq_19_87 rfl hE
      obtain ⟨hp, h2, h3, h4⟩ := id hm
      have hcl : (nI k).toNatClampNeg = k := nI_clamp (by omega)
      have hin : qx_in (nI k) 64 = true := qx_in_n (by omega) (by decide)
      have hv1 : rs_iv B n 1 (.inl p) < 256 := by
        show (if p + 1 ≤ n then bu_U B p 1 else 0) < 256
        split
        · exact bu_lt (k := 1) (fun j hj => hBB (p + j) (by omega))
        · decide
      have epl : rs_pl B n N (j + 1) k (.inl p) T = rs_pl B n N j (if rs_iv B n 1 (.inl p) = 5 ∨ rs_iv B n 1 (.inl p) = 6 then k + 2 else k + 1) (rs_en B n N k (rs_iv B n 1 (.inl p)) p (rs_is n 1 (.inl p))) (updN T k p) := if_pos hkN
      refine wp_iload_n dq_19_2 rfl ?_
      refine wp_iload_n dq_19_3 rfl ?_
      refine wp_ic_ge (tgt := 87) dq_19_4 rfl (fun c1 => ?_) (fun c1 => ?_)
      · exact absurd c1 (nI_ge (by omega) (by omega))
      · refine wp_iload_n dq_19_7 rfl ?_
        refine wp_bipush (x := 64) dq_19_8 rfl ?_
        refine wp_ic_ge (tgt := 87) dq_19_10 rfl (fun c2 => ?_) (fun c2 => ?_)
        · exact absurd c2 (nI_ge (b := 64) (by omega) (by omega))
        · refine wp_aload_n dq_19_13 rfl ?_
          refine wp_getf dq_19_14 fl_19_12 (tb_c1 hb) rfl ?_
          refine wp_cve0 dq_19_17 mt_19_37 (ob_of (tb_c2 hb)) ⟨by decide +kernel, by decide +kernel⟩ (Nat.le_of_ble_eq_true rfl) (Nat.le_of_ble_eq_true rfl) (c_soundT hT) ?_
          refine wp_if_eq (tgt := 87) dq_19_20 rfl (fun c3 => ?_) (fun c3 => ?_)
          · exact absurd c3 (by show ¬ (1 : Int32) = 0; decide)
          · refine wp_aload_n dq_19_23 rfl ?_
            refine wp_getf dq_19_24 fl_19_22 (tb_c1 hb) rfl ?_
            refine wp_iload_n dq_19_27 rfl ?_
            refine wp_aload_n dq_19_28 rfl ?_
            refine wp_getf dq_19_29 fl_19_12 (tb_c1 hb) rfl ?_
            refine wp_getf dq_19_32 fl_19_41 (tb_c2 hb) rfl ?_
            rw [show s 2 = nI p from h2]
            refine wp_a2 dq_19_35 hin hb hf (fun h hb hf => ?_)
            rw [hcl] at hb
            refine wp_aload_n dq_19_36 rfl ?_
            refine wp_getf dq_19_37 fl_19_18 (tb_c1 hb) rfl ?_
            refine wp_iload_n dq_19_40 rfl ?_
            refine wp_aload_n dq_19_41 rfl ?_
            refine wp_getf dq_19_42 fl_19_12 (tb_c1 hb) rfl ?_
            refine wp_iconst (x := 1) dq_19_45 rfl ?_
            have hT := TS.intro hb hc hO hn h0 h1 hm
            refine wp_cv1 dq_19_46 mt_19_45 (ob_of (tb_c2 hb)) ⟨by decide +kernel, by decide +kernel⟩ (Nat.le_of_ble_eq_true rfl) (Nat.le_of_ble_eq_true rfl) (c_itemT (k := 1) hT (by decide)) (fun v9 h9 q9 => ?_)
            obtain ⟨rfl, hT, hf9⟩ := q9
            have hf := fr_tr hf hf9
            clear hf9
            obtain ⟨s9, hb, hc9, hO9, hn9, h09, h19, hm9⟩ := id hT
            refine wp_l2i dq_19_49 ?_
            refine wp_a1 dq_19_50 hin hb hf (fun h hb hf => ?_)
            refine wp_aload_n dq_19_51 rfl ?_
            refine wp_iload_n dq_19_52 rfl ?_
            refine wp_iload_n dq_19_53 rfl ?_
            rw [lN_i, hcl] at hb
            have hT : TS h b B n (rs_is n 1 (.inl p)) fp (tb_va (tb_va a 2 (upd (a 2) k (nI p))) 1 (upd (a 1) k (nI (rs_iv B n 1 (.inl p))))) := ⟨_, hb, hc, hO, hn, h09, h19, hm9⟩
            refine wp_cv2 dq_19_54 mt_19_49 (ob_of (tb_c1 hb)) ⟨by decide +kernel, by decide +kernel⟩ (Nat.le_of_ble_eq_true rfl) (Nat.le_of_ble_eq_true rfl) (c_readEntry (t := rs_iv B n 1 (.inl p)) (p := p) hT (by omega) hv1 (by omega) pk_us (fun _ => pk_us)) (fun v9 h9 q9 => ?_)
            obtain ⟨rfl, hT, hf9⟩ := q9
            have hf := fr_tr hf hf9
            clear hf9
            obtain ⟨s8, hb, -⟩ := id hT
            have ha1 : rs_ea B n k (rs_iv B n 1 (.inl p)) (rs_is n 1 (.inl p)) (tb_va (tb_va a 2 (upd (a 2) k (nI p))) 1 (upd (a 1) k (nI (rs_iv B n 1 (.inl p))))) 1 k = nI (rs_iv B n 1 (.inl p)) := rs_ea1
            refine wp_aload_n dq_19_57 rfl ?_
            refine wp_getf dq_19_58 fl_19_18 (tb_c1 hb) rfl ?_
            refine wp_iload_n dq_19_61 rfl ?_
            refine wp_iald dq_19_62 (tb_c4 hb) hin ?_
            rw [hcl, ha1]
            refine wp_iconst (x := 5) dq_19_63 rfl ?_
            refine wp_ic_eq (tgt := 78) dq_19_64 rfl (fun c4 => ?_) (fun c4 => ?_)
            · refine wp_iinc (y := ((nI k) + 1)) (lv' := [(0, .ref (b + 1)), (1, .int (nI N)), (2, .int ((nI k) + 1))]) dq_19_78 rfl rfl (by decide) rfl ?_
              refine wp_iinc (y := (((nI k) + 1) + 1)) (lv' := [(0, .ref (b + 1)), (1, .int (nI N)), (2, .int (((nI k) + 1) + 1))]) dq_19_81 rfl rfl (by decide) rfl ?_
              refine wp_goto (tgt := 2) dq_19_84 rfl ?_
              rw [nI_1, nI_1]
              have ek : (if rs_iv B n 1 (.inl p) = 5 ∨ rs_iv B n 1 (.inl p) = 6 then k + 2 else k + 1) = k + 2 := if_pos (Or.inl ((nI_eq (b := 5) (by omega) (by decide)).mp c4))
              refine ih (k + 2) _ (updN T k p) _ _ hT hf (fun hq => ?_) (by omega) (by omega) (fun h3 a3 hT3 hf3 ha3 hR3 => hK h3 a3 ?_ hf3 (fun i hi => (ha3 i hi).trans (rs_eao hi)) ?_)
              · obtain ⟨r, hr⟩ := hq
                exact ⟨PR_st hR.1 hR.2 hr, hN64, by rw [hr]; have := rs_en_ok hR.2 hr; show 0 < r; omega⟩
              · rw [ek] at epl
                rw [epl]
                exact hT3
              · rw [ek] at epl
                rw [epl]
                exact hR3
            · refine wp_aload_n dq_19_67 rfl ?_
              refine wp_getf dq_19_68 fl_19_18 (tb_c1 hb) rfl ?_
              refine wp_iload_n dq_19_71 rfl ?_
              refine wp_iald dq_19_72 (tb_c4 hb) hin ?_
              rw [hcl, ha1]
              refine wp_bipush (x := 6) dq_19_73 rfl ?_
              refine wp_ic_ne (tgt := 81) dq_19_75 rfl (fun c5 => ?_) (fun c5 => ?_)
              · refine wp_iinc (y := ((nI k) + 1)) (lv' := [(0, .ref (b + 1)), (1, .int (nI N)), (2, .int ((nI k) + 1))]) dq_19_81 rfl rfl (by decide) rfl ?_
                refine wp_goto (tgt := 2) dq_19_84 rfl ?_
                rw [nI_1]
                have ek : (if rs_iv B n 1 (.inl p) = 5 ∨ rs_iv B n 1 (.inl p) = 6 then k + 2 else k + 1) = k + 1 := if_neg (fun r => r.elim (fun r => c4 (by rw [r]; rfl)) (fun r => c5 (by rw [r]; rfl)))
                refine ih (k + 1) _ (updN T k p) _ _ hT hf (fun hq => ?_) (by omega) (by omega) (fun h3 a3 hT3 hf3 ha3 hR3 => hK h3 a3 ?_ hf3 (fun i hi => (ha3 i hi).trans (rs_eao hi)) ?_)
                · obtain ⟨r, hr⟩ := hq
                  exact ⟨PR_st hR.1 hR.2 hr, hN64, by rw [hr]; have := rs_en_ok hR.2 hr; show 0 < r; omega⟩
                · rw [ek] at epl
                  rw [epl]
                  exact hT3
                · rw [ek] at epl
                  rw [epl]
                  exact hR3
              · refine wp_iinc (y := ((nI k) + 1)) (lv' := [(0, .ref (b + 1)), (1, .int (nI N)), (2, .int ((nI k) + 1))]) dq_19_78 rfl rfl (by decide) rfl ?_
                refine wp_iinc (y := (((nI k) + 1) + 1)) (lv' := [(0, .ref (b + 1)), (1, .int (nI N)), (2, .int (((nI k) + 1) + 1))]) dq_19_81 rfl rfl (by decide) rfl ?_
                refine wp_goto (tgt := 2) dq_19_84 rfl ?_
                rw [nI_1, nI_1]
                have ek : (if rs_iv B n 1 (.inl p) = 5 ∨ rs_iv B n 1 (.inl p) = 6 then k + 2 else k + 1) = k + 2 := if_pos (Or.inr ((nI_eq (b := 6) (by omega) (by decide)).mp c5))
                refine ih (k + 2) _ (updN T k p) _ _ hT hf (fun hq => ?_) (by omega) (by omega) (fun h3 a3 hT3 hf3 ha3 hR3 => hK h3 a3 ?_ hf3 (fun i hi => (ha3 i hi).trans (rs_eao hi)) ?_)
                · obtain ⟨r, hr⟩ := hq
                  exact ⟨PR_st hR.1 hR.2 hr, hN64, by rw [hr]; have := rs_en_ok hR.2 hr; show 0 < r; omega⟩
                · rw [ek] at epl
                  rw [epl]
                  exact hT3
                · rw [ek] at epl
                  rw [epl]
                  exact hR3
set_option maxRecDepth 100000 in
theorem c_readEntries {L : Nat} {xs : Nat → Int32} {d b n : Nat} {B : Nat → Nat} {fp : Int32} {S : rS} {h : List qx_E} {a : Nat → Nat → Int32} {N : Nat} (hT : TS h b B n S fp a) (hN : N < 65536) (hR : ∀ j, j < 64 → a 1 j = 0) (hp : snd S → N ≤ 64 ∧ 0 < rs_p S) : wp_W L xs (d + 5) 19 0 (lv_args 0 [.ref (b + 1), .int (nI N)]) [] h (fun v h' => v = none ∧ ∃ a', TS h' b B n (rs_pl B n N N 1 S (fun _ => 0)).1 fp a' ∧ fr b h h' ∧ (∀ i, i = 0 ∨ 4 ≤ i → a' i = a i) ∧ (snd (rs_pl B n N N 1 S (fun _ => 0)).1 → PR B (rs_pl B n N N 1 S (fun _ => 0)).2 a')) := by
  obtain ⟨s, hb, -⟩ := id hT
  show wp_W L xs _ 19 0 [(0, .ref (b + 1)), (1, .int (nI N))] [] h _
  refine wp_iconst (x := 1) dq_19_0 rfl ?_
  refine wp_istore_n (lv' := [(0, .ref (b + 1)), (1, .int (nI N)), (2, .int 1)]) dq_19_1 (by decide) rfl ?_
  exact c_reL hN (TS_B hT) N 1 S (fun _ => 0) h a hT fr_rf (fun q => ⟨fun j hj => ⟨fun _ => hR j hj, fun r => absurd rfl r⟩, hp q⟩) (by omega) (by decide) (fun h' a' hT' hf' ha' hR' => ⟨rfl, a', hT', hf', ha', hR'⟩)
