/-! WHAT A FILE IN ORDER SAYS IS SOUND, by the reading alone -/
def VE (B T : Nat → Nat) (w p : Nat) : Prop := tg B T (bu_U B p 2) = 7 ∧ (w = 5 → (bu_U B (p + 2) 2 = 0 ∨ tg B T (bu_U B (p + 2) 2) = 7) ∧ (bu_U B (p + 4) 2 = 0 ∨ tg B T (bu_U B (p + 4) 2) = 1))
def VW (B : Nat → Nat) (n : Nat) (T : Nat → Nat) (w cp : Nat) : Prop := (w = 1 → cp + 2 ≤ n ∧ tg B T (bu_U B cp 2) = 1) ∧ (w = 8 → cp + 2 ≤ n ∧ tg B T (bu_U B cp 2) = 7) ∧ (w = 3 → cp + 2 ≤ n ∧ (tg B T (bu_U B cp 2) = 3 ∨ tg B T (bu_U B cp 2) = 4 ∨ tg B T (bu_U B cp 2) = 5 ∨ tg B T (bu_U B cp 2) = 6 ∨ tg B T (bu_U B cp 2) = 8)) ∧ (4 ≤ w → w ≤ 7 → cp + 2 + ez w * bu_U B cp 2 ≤ n ∧ ∀ e, e < bu_U B cp 2 → VE B T w (cp + 2 + ez w * e))
def VA (B : Nat → Nat) (n : Nat) (T : Nat → Nat) (M : rM) : Prop := ∀ q, M.ct q ≠ 0 → VW B n T (q % 9 + 1) (M.ct q)
section VAL
variable {B : Nat → Nat} {n : Nat} {T : Nat → Nat}
theorem ix_v {t : Nat} {mz : Bool} {S S' : rS} (e : rs_ix B n T t mz S = S') (h : snd S') : (mz = true ∧ bu_U B (rs_p S) 2 = 0) ∨ tg B T (bu_U B (rs_p S) 2) = t := by
  have h1 := (sd_wc e h).1
  rw [(sp_ix e h).2.2, Bool.or_eq_true, Bool.and_eq_true, beq_iff_eq, beq_iff_eq] at h1
  exact h1
theorem ix_f {t : Nat} {S S' : rS} (e : rs_ix B n T t false S = S') (h : snd S') : tg B T (bu_U B (rs_p S) 2) = t := by
  rcases ix_v e h with ⟨r, -⟩ | r
  · cases r
  · exact r
theorem el_v {w : Nat} {S S' : rS} (e : rs_el B n T w S = S') (h : snd S') : S' = .inl (rs_p S + ez w) ∧ rs_p S + ez w ≤ n ∧ VE B T w (rs_p S) := by
  by_cases c : w = 5
  · rw [el_5 c] at e
    obtain ⟨a1, a2, a3⟩ := sd_isp e h
    have h1 := sd_is e h
    have b1 := sp_ix rfl h1
    have h2 := sd_ix rfl h1
    have c1 := sp_ix rfl h2
    have h3 := sd_ix rfl h2
    have d1 := sp_ix rfl h3
    have v1 := ix_f rfl h3
    have v2 := ix_v rfl h2
    have v3 := ix_v rfl h1
    have p3 : rs_p (rs_ix B n T 7 false S) = rs_p S + 2 := by rw [d1.1]; rfl
    have p2 : rs_p (rs_ix B n T 7 true (rs_ix B n T 7 false S)) = rs_p S + 4 := by rw [c1.1, p3]; rfl
    have p1 : rs_p (rs_ix B n T 1 true (rs_ix B n T 7 true (rs_ix B n T 7 false S))) = rs_p S + 6 := by rw [b1.1, p2]; rfl
    rw [p1] at a2 a3
    rw [p3] at v2
    rw [p2] at v3
    have ee : ez w = 8 := if_pos c
    rw [ee]
    refine ⟨a3, a2, v1, fun _ => ⟨?_, ?_⟩⟩
    · rcases v2 with ⟨-, r⟩ | r
      · exact Or.inl r
      · exact Or.inr r
    · rcases v3 with ⟨-, r⟩ | r
      · exact Or.inl r
      · exact Or.inr r
  · rw [el_n c] at e
    have d1 := sp_ix e h
    have ee : ez w = 2 := if_neg c
    rw [ee]
    exact ⟨d1.1, d1.2.1, ix_f e h, fun r => absurd r c⟩
theorem els_v {w : Nat} : ∀ j {S S' : rS}, rs_els B n T w j S = S' → snd S' → (j = 0 ∨ rs_p S + ez w * j ≤ n) ∧ ∀ e, e < j → VE B T w (rs_p S + ez w * e)
  | 0, S, S', e, h => ⟨Or.inl rfl, fun e he => by omega⟩
  | j + 1, S, S', e, h => by
    rw [rs_els_s] at e
    obtain ⟨h1, h2⟩ := els_v j e h
    have h3 := (sp_els e h).2
    obtain ⟨a1, a2, a3⟩ := el_v rfl h3
    have p1 : rs_p (rs_el B n T w S) = rs_p S + ez w := by rw [a1]; rfl
    rw [p1] at h1 h2
    refine ⟨Or.inr ?_, fun e he => ?_⟩
    · rw [Nat.mul_succ]
      rcases h1 with r | r
      · subst r
        omega
      · omega
    · cases e with
      | zero => exact a3
      | succ e =>
        have := h2 e (by omega)
        rw [Nat.mul_succ]
        rw [show rs_p S + (ez w * e + ez w) = rs_p S + ez w + ez w * e by omega]
        exact this
theorem li_v {w : Nat} {S S' : rS} (e : rs_li B n T w S = S') (h : snd S') : rs_p S + 2 + ez w * bu_U B (rs_p S) 2 ≤ n ∧ ∀ e, e < bu_U B (rs_p S) 2 → VE B T w (rs_p S + 2 + ez w * e) := by
  unfold rs_li at e
  obtain ⟨h1, h2⟩ := els_v _ e h
  have h3 := (sp_els e h).2
  have e3 := (sd_wc rfl h3).2
  have h4 := sd_w rfl h3
  have h5 := sd_is rfl h4
  have e5 : rs_li1 B S = S := (sd_wc rfl h5).2
  obtain ⟨a1, a2, a3⟩ := sd_isp rfl h4
  have e6 := iv_of (B := B) rfl h4
  rw [e5] at a2 a3 e6 h1 h2 e3
  rw [e3, a3, e6] at h1 h2
  have pp : rs_p (.inl (rs_p S + 2)) = rs_p S + 2 := rfl
  rw [pp] at h1 h2
  refine ⟨?_, h2⟩
  rcases h1 with r | r
  · rw [r]
    omega
  · exact r
theorem ck_v (i : Nat) : ck B T i = 8 ∨ ck B T i = 4 ∨ ck B T i = 5 ∨ ck B T i = 6 ∨ ck B T i = 3 ∨ ck B T i = 99 := by
  unfold ck
  repeat' split
  all_goals simp
theorem at1_v {kd o cty w : Nat} {M : rM} {S : rS} (hG : PG B n T) (h : snd (rs_at1 B n T kd o cty M S)) (hw : ah_w B n T kd S = w) (h0 : w ≠ 0) : VW B n T w (rs_p (rs_ah2 B n T S)) := by
  have h1 := (sp_at1 rfl h).2.2
  have e1 : rs_ah B n T kd o M S = rs_ah2 B n T S := by
    rw [ah_s hw h0] at h1 ⊢
    exact (sd_wc rfl h1).2
  rw [e1] at h1
  unfold rs_at1 at h
  rw [hw, if_neg h0, e1] at h
  by_cases c : 4 ≤ w ∧ w ≤ 7
  · rw [if_pos c] at h
    exact ⟨fun r => by omega, fun r => by omega, fun r => by omega, fun _ _ => li_v rfl h⟩
  · rw [if_neg c] at h
    refine ⟨fun r => ?_, fun r => ?_, fun r => ?_, fun a b => absurd ⟨a, b⟩ c⟩
    · subst r
      rw [rs_sg, if_neg (by decide)] at h
      have e2 := sp_wl rfl (sd_ix rfl h)
      rw [e2] at h
      exact ⟨(sp_ix rfl h).2.1, ix_f rfl h⟩
    · subst r
      rw [rs_sg, if_neg (by decide)] at h
      have e2 := sp_wl rfl (sd_ix rfl h)
      rw [e2] at h
      exact ⟨(sp_ix rfl h).2.1, ix_f rfl h⟩
    · subst r
      rw [rs_sg, if_neg (by decide)] at h
      have e2 := sp_wl rfl (sd_ix rfl h)
      rw [e2] at h
      refine ⟨(sp_ix rfl h).2.1, ?_⟩
      have h2 : tg B T (bu_U B (rs_p (rs_ah2 B n T S)) 2) = ck B T cty := ix_f rfl h
      have h3 := PG_tg hG (bu_U B (rs_p (rs_ah2 B n T S)) 2)
      have h4 := ck_v (B := B) (T := T) cty
      omega
theorem VA_ah {kd o cty : Nat} {M : rM} {S : rS} (hG : PG B n T) (h : snd (rs_at1 B n T kd o cty M S)) (hV : VA B n T M) : VA B n T (mb_ah B n T kd o S M) := by
  by_cases c : ah_w B n T kd S = 0
  · rw [(ah_0 (o := o) (M := M) c).2]
    exact hV
  · intro q hq
    rw [mb_w rfl c] at hq ⊢
    have hk := (ah_kw rfl c).2
    by_cases e : q = 9 * o + (ah_w B n T kd S - 1)
    · subst e
      rw [ct_s] at hq ⊢
      rw [show (9 * o + (ah_w B n T kd S - 1)) % 9 + 1 = ah_w B n T kd S by omega]
      exact at1_v hG h rfl c
    · rw [ct_n e] at hq ⊢
      exact hV q hq
theorem VA_tbL {kd o cty : Nat} (hG : PG B n T) : ∀ j S M, snd (rs_tbL B n T kd o cty j S M).1 → VA B n T M → VA B n T (rs_tbL B n T kd o cty j S M).2
  | 0, _, _, _, hV => hV
  | j + 1, S, M, h, hV => by
    rw [rs_tbL_s] at h ⊢
    exact VA_tbL hG j _ _ h (VA_ah hG (sp_tbL h).2 hV)
theorem VA_msL {F kd : Nat} (hG : PG B n T) : ∀ j k S M, snd (rs_msL B n T F kd j k S M).1 → VA B n T M → VA B n T (rs_msL B n T F kd j k S M).2
  | 0, _, _, _, _, hV => hV
  | j + 1, k, S, M, h, hV => by
    rw [rs_msL_s] at h ⊢
    refine VA_msL hG j _ _ _ h ?_
    have h1 := sd_msL h
    unfold rs_m1 rs_tb at h1 ⊢
    exact VA_tbL hG _ _ _ h1 hV
theorem VA_rcL (hG : PG B n T) : ∀ j k S M, snd (rs_rcL B n T j k S M).1 → VA B n T M → VA B n T (rs_rcL B n T j k S M).2
  | 0, _, _, _, _, hV => hV
  | j + 1, k, S, M, h, hV => by
    rw [rs_rcL_s] at h ⊢
    refine VA_rcL hG j _ _ _ h ?_
    have h1 := (sp_rcL h).2
    unfold rs_r1 rs_tb at h1 ⊢
    exact VA_tbL hG _ _ _ h1 hV
theorem VA_9 {M : rM} {S : rS} (hw : ah_w B n T 3 S = 9) (hV : VA B n T M) : VA B n T (mb_ah B n T 3 (16 * 3 + 0) S M) := by
  intro q hq
  rw [mb_w hw (by decide)] at hq ⊢
  by_cases e : q = 9 * (16 * 3 + 0) + (9 - 1)
  · subst e
    exact ⟨fun r => absurd r (by decide), fun r => absurd r (by decide), fun r => absurd r (by decide), fun _ r => absurd r (by decide)⟩
  · rw [ct_n e] at hq ⊢
    exact hV q hq
theorem VA_fL (hG : PG B n T) : ∀ j S M, snd (rs_fL B n T j S M).1 → VA B n T M → VA B n T (rs_fL B n T j S M).2
  | 0, _, _, _, hV => hV
  | j + 1, S, M, h, hV => by
    rw [rs_fL_s] at h ⊢
    refine VA_fL hG j _ _ h ?_
    have h1 := sd_fL h
    unfold rs_f1 at h1 ⊢
    by_cases c : ah_w B n T 3 S = 9
    · rw [if_pos c] at h1 ⊢
      exact VA_rcL hG _ _ _ _ (sd_w rfl h1) (VA_9 c hV)
    · rw [if_neg c] at h1 ⊢
      exact VA_ah hG h1 hV
def LK8 (B T : Nat → Nat) : Prop := ∀ i, tg B T i = 8 → tg B T (bu_U B (T i + 1) 2) = 1
theorem lk_LK8 {S : rS} (hG : PG B n T) (h : snd (rs_lks B T 63 1 S)) : LK8 B T := by
  intro i hi
  obtain ⟨a1, a2, a3, a4, a5⟩ := tg_ne hG hi (by decide)
  obtain ⟨e1, e2⟩ := lks_id h
  rw [e1] at h
  have e3 := e2 i a1 (by omega)
  unfold rs_lk at e3
  rw [if_neg (by omega), if_pos hi] at e3
  exact beq_iff_eq.mp (sd_wc e3 h).1
theorem ifs_v {F : Nat} : ∀ j k {S S' : rS}, rs_ifs B n T F j k S = S' → snd S' → (j = 0 ∨ rs_p S + 2 * j ≤ n) ∧ ∀ i, i < j → tg B T (bu_U B (rs_p S + 2 * i) 2) = 7
  | 0, k, S, S', e, h => ⟨Or.inl rfl, fun i hi => by omega⟩
  | j + 1, k, S, S', e, h => by
    rw [rs_ifs_s] at e
    obtain ⟨h1, h2⟩ := ifs_v j (k + 1) e h
    have h3 := (sp_ifs e h).2
    obtain ⟨a1, a2, a3⟩ := sp_if rfl h3
    have e4 : rs_if B n T F k S = rs_nc B n T false S := ifL_id rfl h3
    have h4 := h3
    rw [e4] at h4
    have v := nc_7 rfl h4
    rw [(sp_nc rfl h4).2.2] at v
    have p1 : rs_p (rs_if B n T F k S) = rs_p S + 2 := by rw [a1]; rfl
    rw [p1] at h1 h2
    refine ⟨Or.inr ?_, fun i hi => ?_⟩
    · rcases h1 with r | r
      · omega
      · omega
    · cases i with
      | zero => exact v
      | succ i =>
        have := h2 i (by omega)
        rw [show rs_p S + 2 * (i + 1) = rs_p S + 2 + 2 * i by omega]
        exact this
theorem ncz_7 {S S' : rS} (e : rs_nc B n T true S = S') (h : snd S') : bu_U B (rs_p S) 2 = 0 ∨ tg B T (bu_U B (rs_p S) 2) = 7 := by
  rcases ix_v rfl (sd_w e h) with ⟨-, r⟩ | r
  · exact Or.inl r
  · exact Or.inr r
end VAL
/-- all that the answers stand on -/
theorem ra_v {B : Nat → Nat} {n : Nat} (h : snd (ra_7 B n)) : VA B n (ra_T B n) (ra_6 B n).2 ∧ LK8 B (ra_T B n) ∧ 10 ≤ n ∧ tg B (ra_T B n) (bu_U B (ra_F B n + 2) 2) = 7 ∧ (bu_U B (ra_F B n + 4) 2 = 0 ∨ tg B (ra_T B n) (bu_U B (ra_F B n + 4) 2) = 7) ∧ ra_F B n + 8 + 2 * bu_U B (ra_F B n + 6) 2 ≤ n ∧ ∀ i, i < bu_U B (ra_F B n + 6) 2 → tg B (ra_T B n) (bu_U B (ra_F B n + 8 + 2 * i) 2) = 7 := by
  have h6 : snd (ra_6 B n).1 := sd_w rfl h
  have h5 : snd (ra_5 B n).1 := sd_rft h6
  have h4 : snd (ra_4 B n).1 := sd_rms h5
  have h3 : snd (ra_3 B n) := sd_rms h4
  have h2 : snd (ra_2 B n) := (sp_hd rfl h3).2.2
  have hpo : snd (rs_po2 B n (ra_1 B n)).1 := by
    have h2' : snd (rs_lks B (rs_po2 B n (ra_1 B n)).2 63 1 (rs_po2 B n (ra_1 B n)).1) := h2
    rw [(lks_id h2').1] at h2'
    exact h2'
  obtain ⟨hG, -, -, -, h1⟩ := po_PG hpo
  have hG : PG B n (ra_T B n) := hG
  have hV0 : VA B n (ra_T B n) mM0 := fun q hq => absurd rfl hq
  have hV4 := VA_msL (F := ra_F B n) (kd := 0) hG _ _ _ _ h4 hV0
  have hV5 := VA_msL (F := ra_F B n) (kd := 1) hG _ _ _ _ h5 hV4
  have hV6 := VA_fL hG _ _ _ h6 hV5
  have h3' : snd (rs_ifs B n (ra_T B n) (ra_F B n) (rs_iv B n 2 (rs_h2 B n (ra_T B n) (ra_2 B n))) 0 (rs_is n 2 (rs_h2 B n (ra_T B n) (ra_2 B n)))) := h3
  obtain ⟨i1, i2⟩ := ifs_v _ _ rfl h3'
  have hq := (sp_ifs rfl h3').2
  obtain ⟨j1, j2, j3, j4⟩ := sp_h2 rfl hq
  have pj : rs_p (rs_is n 2 (rs_h2 B n (ra_T B n) (ra_2 B n))) = ra_F B n + 8 := by rw [j1]; rfl
  have j3 : rs_iv B n 2 (rs_h2 B n (ra_T B n) (ra_2 B n)) = bu_U B (ra_F B n + 6) 2 := j3
  rw [pj, j3] at i1 i2
  have hh2 : snd (rs_h2 B n (ra_T B n) (ra_2 B n)) := sd_is rfl hq
  have hn1 : snd (rs_nc B n (ra_T B n) false (rs_h1 B n (ra_2 B n))) := sd_nc rfl hh2
  have hh1 : snd (rs_h1 B n (ra_2 B n)) := sd_nc rfl hn1
  have e1 := (sd_wc rfl hh1).2
  obtain ⟨k1, k2, k3⟩ := sd_isp rfl (sd_w rfl hh1)
  have p1 : rs_p (rs_h1 B n (ra_2 B n)) = ra_F B n + 2 := by
    have : rs_h1 B n (ra_2 B n) = rs_is n 2 (ra_2 B n) := e1
    rw [this, k3]
    rfl
  have v1 := nc_7 rfl hn1
  rw [(sp_nc rfl hn1).2.2, p1] at v1
  have p2 : rs_p (rs_nc B n (ra_T B n) false (rs_h1 B n (ra_2 B n))) = ra_F B n + 4 := by rw [(sp_nc rfl hn1).1, p1]; rfl
  have v2 := ncz_7 rfl hh2
  rw [p2] at v2
  have v3 : ra_F B n + 8 ≤ n := j2
  have hs1 : snd (ra_1 B n) := h1
  have hr : snd (rs_is n 2 (ra_1 B n)) := sd_w rfl (sd_pl rfl hpo)
  have f1 : rs_p (ra_1 B n) = 8 := by
    have a1 := (sd_wc (rfl : rs_st B n (.inl 0) = _) hs1).2
    have a2 := sd_w (rfl : rs_st B n (.inl 0) = _) hs1
    obtain ⟨b1, b2, b3⟩ := sd_isp rfl a2
    have a3 := sd_is rfl a2
    obtain ⟨c1, c2, c3⟩ := sd_isp (rfl : rs_st3 B n (.inl 0) = _) a3
    have a4 := sd_is (rfl : rs_st3 B n (.inl 0) = _) a3
    have d1 := (sd_wc (rfl : rs_st2 B n (.inl 0) = _) a4).2
    have a5 := sd_w (rfl : rs_st2 B n (.inl 0) = _) a4
    obtain ⟨g1, g2, g3⟩ := sd_isp rfl a5
    have e1 : ra_1 B n = rs_is n 2 (rs_st3 B n (.inl 0)) := a1
    rw [e1, b3, c3, d1, g3]
    rfl
  have f2 := (sd_isp rfl hr).2.1
  rw [f1] at f2
  refine ⟨hV6, lk_LK8 hG h2, f2, v1, v2, ?_, i2⟩
  rcases i1 with r | r
  · rw [r]
    omega
  · exact r
