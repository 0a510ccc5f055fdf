/-! attributes: the model's words and the class's -/
def kw2 (kd w : Nat) : Bool := decide (1 ≤ w ∧ w ≤ 9 ∧ (w ≤ 2 ∨ (w = 3 ∧ kd = 0) ∨ (w = 4 ∧ kd = 1) ∨ (5 ≤ w ∧ kd = 3)))
theorem kw2_t {kd w : Nat} : kw2 kd w = true ↔ 1 ≤ w ∧ w ≤ 9 ∧ (w ≤ 2 ∨ (w = 3 ∧ kd = 0) ∨ (w = 4 ∧ kd = 1) ∨ (5 ≤ w ∧ kd = 3)) := decide_eq_true_iff
theorem fd_tb : ∀ kd, kd < 4 → ∀ i, i < 9 → fdN (wd (qx_ttl.getD i 0)) kd = if kw2 kd (i + 1) = true then i + 1 else 0 := by decide +kernel
theorem kn_tb : ∀ i, i < 9 → kn (wd (qx_ttl.getD i 0)) = i + 1 := by decide +kernel
theorem kn_9 {l : List Nat} (h : 1 ≤ kn l ∧ kn l ≤ 9) : l = wd (qx_ttl.getD (kn l - 1) 0) := by
  unfold kn at h ⊢
  repeat' split
  all_goals first | (rename_i e; exact e) | skip
  all_goals (exfalso; revert h; simp_all)
theorem fd_kn {l : List Nat} {kd : Nat} (hkd : kd < 4) : fdN l kd = if kw2 kd (kn l) = true then kn l else 0 := by
  by_cases h : 1 ≤ kn l ∧ kn l ≤ 9
  · have e := kn_9 h
    have h2 := fd_tb kd hkd (kn l - 1) (by omega)
    rw [← e, show kn l - 1 + 1 = kn l by omega] at h2
    exact h2
  · rw [if_neg (fun r => h (by have := kw2_t.mp r; omega))]
    rcases Decidable.em (fdN l kd = 0) with r | r
    · exact r
    · obtain ⟨a1, a2, a3, a4⟩ := fdR_in (l := l) (kd := kd) 9 0 r
      have a5 := kn_tb (fdN l kd - 1) (by have : fdN l kd = fdR l kd 9 0 := rfl; omega)
      have a6 : l = wd (qx_ttl.getD (fdN l kd - 1) 0) := a4
      rw [← a6] at a5
      have : fdN l kd = fdR l kd 9 0 := rfl
      omega
/-! which attributes have been seen -/
def sbt (sn : Nat) (ct : Nat → Nat) (o : Nat) : Prop := sn < 1024 ∧ ∀ w, 1 ≤ w → w ≤ 9 → (sn.testBit w = true ↔ ct (9 * o + (w - 1)) ≠ 0)
theorem sbt_0 {ct : Nat → Nat} {o : Nat} (h : ∀ w, 1 ≤ w → w ≤ 9 → ct (9 * o + (w - 1)) = 0) : sbt 0 ct o := ⟨by decide, fun w h1 h2 => by rw [Nat.zero_testBit, h w h1 h2]; exact ⟨fun r => Bool.noConfusion r, fun r => absurd rfl r⟩⟩
theorem sbt_s {sn o w p : Nat} {ct : Nat → Nat} (h : sbt sn ct o) (h1 : 1 ≤ w) (h2 : w ≤ 9) (hp : p ≠ 0) : sbt (sn ||| 2 ^ w) (updN ct (9 * o + (w - 1)) p) o := by
  refine ⟨Nat.or_lt_two_pow (n := 10) h.1 (Nat.pow_lt_pow_right (by decide) (by omega)), fun v a1 a2 => ?_⟩
  rw [Nat.testBit_or, Nat.testBit_two_pow]
  by_cases e : w = v
  · subst e
    rw [updN_s, decide_eq_true rfl, Bool.or_true]
    exact ⟨fun _ => hp, fun _ => rfl⟩
  · rw [updN_n (by omega), decide_eq_false e, Bool.or_false]
    exact h.2 v a1 a2
theorem sbt_z {sn o w : Nat} {ct : Nat → Nat} (h : sbt sn ct o) (h1 : 1 ≤ w) (h2 : w ≤ 9) : sn / 2 ^ w % 2 = 0 ↔ ct (9 * o + (w - 1)) = 0 := by
  have e := h.2 w h1 h2
  rw [Nat.testBit_eq_decide_div_mod_eq, decide_eq_true_eq] at e
  constructor
  · intro r
    rcases Decidable.em (ct (9 * o + (w - 1)) = 0) with q | q
    · exact q
    · have := e.mpr q
      omega
  · intro r
    rcases Nat.mod_two_eq_zero_or_one (sn / 2 ^ w) with q | q
    · exact q
    · exact absurd r (e.mp q)
theorem nI_or {a b : Nat} (ha : a < 2 ^ 31) (hb : b < 2 ^ 31) : nI a ||| nI b = nI (a ||| b) := by
  apply Int32.toBitVec_inj.mp
  rw [Int32.toBitVec_or]
  show BitVec.ofNat 32 a ||| BitVec.ofNat 32 b = BitVec.ofNat 32 (a ||| b)
  apply BitVec.eq_of_toNat_eq
  rw [BitVec.toNat_or, BitVec.toNat_ofNat, BitVec.toNat_ofNat, BitVec.toNat_ofNat, Nat.mod_eq_of_lt (by omega), Nat.mod_eq_of_lt (by omega), Nat.mod_eq_of_lt (Nat.lt_trans (Nat.or_lt_two_pow ha hb) (by decide))]
section BROW
variable {L : Nat} {xs : Nat → Int32} {d m pc x y k : Nat} {lv : qx_L} {r : List Value} {h : List qx_E} {Q : Option Value → List qx_E → Prop}
theorem wp_seen (hd : decode (qx_code m) pc = .ok (.ishr, 1)) (hd1 : decode (qx_code m) (pc + 1) = .ok (.iconst 1, 1)) (hd2 : decode (qx_code m) (pc + 2) = .ok (.iand, 1)) (hx : x < 2 ^ 31) (hk : k < 32) (kk : wp_W L xs d m (pc + 3) lv (.int (nI (x / 2 ^ k % 2)) :: r) h Q) : wp_W L xs d m pc lv (.int (nI k) :: .int (nI x) :: r) h Q := by
  refine wp_ishr hd ?_
  rw [pk_shrN hx (nI k &&& 31) k (nI_31 k hk)]
  refine wp_iconst (x := 1) hd1 rfl ?_
  refine wp_iand hd2 ?_
  rw [pk_andN (Nat.lt_of_le_of_lt (Nat.div_le_self _ _) (by omega)) 1 (by decide)]
  exact kk
theorem wp_mark (hd : decode (qx_code m) pc = .ok (.ishl, 1)) (hd1 : decode (qx_code m) (pc + 1) = .ok (.ior, 1)) (hx : x < 2 ^ 31) (hk : k < 31) (kk : wp_W L xs d m (pc + 2) lv (.int (nI (x ||| 2 ^ k)) :: r) h Q) : wp_W L xs d m pc lv (.int (nI k) :: .int (nI 1) :: .int (nI x) :: r) h Q := by
  have hp : 2 ^ k < 2 ^ 31 := Nat.pow_lt_pow_right (by decide) hk
  refine wp_ishl hd ?_
  rw [pk_shlN (nI k &&& 31) k (nI_31 k (by omega)) (by omega), Nat.one_mul]
  refine wp_ior hd1 ?_
  rw [nI_or hx hp]
  exact kk
end BROW
/-! the notes of an owner -/
def ctv (B : Nat → Nat) (M : rM) (q : Nat) : Nat := if M.ct q = 0 then 0 else bu_U B (M.ct q) 2
def NOm (kd : Nat) (B : Nat → Nat) (N : Nat → Int32) (M : rM) (o b : Nat) : Prop := N (b + 3) = nI (ctv B M (9 * o)) ∧ N (b + 4) = nI (if M.ct (9 * o + 1) = 0 then 0 else 1) ∧ (kd = 0 → N (b + 5) = nI (ctv B M (9 * o + 2))) ∧ (kd = 1 → N (b + 6) = nI (ctv B M (9 * o + 3)) ∧ (M.ct (9 * o + 3) ≠ 0 → N (b + 7) = nI (M.ct (9 * o + 3) + 2)))
def NOf (B : Nat → Nat) (N : Nat → Int32) (M : rM) : Prop := N 16 = nI (ctv B M 432) ∧ N 17 = nI (if M.ct 433 = 0 then 0 else 1) ∧ (∀ w, 5 ≤ w → w ≤ 7 → N (2 * w - 3) = nI (ctv B M (431 + w)) ∧ (M.ct (431 + w) ≠ 0 → N (2 * w - 3 + 1) = nI (M.ct (431 + w) + 2))) ∧ N 19 = nI (ctv B M 439) ∧ N 18 = nI (if M.ct 440 = 0 then 0 else 1)
theorem ctv_s {B : Nat → Nat} {c np ct : Nat → Nat} {q p : Nat} (hp : p ≠ 0) : ctv B (c, np, updN ct q p) q = bu_U B p 2 := by
  show (if updN ct q p q = 0 then 0 else bu_U B (updN ct q p q) 2) = _
  rw [updN_s, if_neg hp]
theorem ctv_n {B : Nat → Nat} {c np ct c' np' : Nat → Nat} {q j p : Nat} (hq : j ≠ q) : ctv B (c, np, updN ct q p) j = ctv B (c', np', ct) j := by
  show (if updN ct q p j = 0 then 0 else bu_U B (updN ct q p j) 2) = (if ct j = 0 then 0 else bu_U B (ct j) 2)
  rw [updN_n hq]
theorem ct_n {c np ct : Nat → Nat} {q j p : Nat} (hq : j ≠ q) : rM.ct (c, np, updN ct q p) j = ct j := updN_n hq
theorem ct_s {c np ct : Nat → Nat} {q p : Nat} : rM.ct (c, np, updN ct q p) q = p := updN_s
section NOS
variable {kd : Nat} {B : Nat → Nat} {N : Nat → Int32} {M : rM} {o b p : Nat}
theorem NOm_1 (h : NOm kd B N M o b) (hp : p ≠ 0) : NOm kd B (upd N (b + 3) (nI (bu_U B p 2))) (M.c, M.np, updN M.ct (9 * o) p) o b := by
  obtain ⟨h1, h2, h3, h4⟩ := h
  refine ⟨by rw [pk_us, ctv_s hp], by rw [pk_un (by omega), ct_n (by omega)]; exact h2, fun k => by rw [pk_un (by omega), ctv_n (c' := M.c) (np' := M.np) (by omega)]; exact h3 k, fun k => ⟨by rw [pk_un (by omega), ctv_n (c' := M.c) (np' := M.np) (by omega)]; exact (h4 k).1, fun r => ?_⟩⟩
  rw [ct_n (by omega)] at r ⊢
  rw [pk_un (by omega)]
  exact (h4 k).2 r
theorem NOm_2 (h : NOm kd B N M o b) (hp : p ≠ 0) : NOm kd B (upd N (b + 4) (nI 1)) (M.c, M.np, updN M.ct (9 * o + 1) p) o b := by
  obtain ⟨h1, h2, h3, h4⟩ := h
  refine ⟨by rw [pk_un (by omega), ctv_n (c' := M.c) (np' := M.np) (by omega)]; exact h1, by rw [pk_us, ct_s, if_neg hp], fun k => by rw [pk_un (by omega), ctv_n (c' := M.c) (np' := M.np) (by omega)]; exact h3 k, fun k => ⟨by rw [pk_un (by omega), ctv_n (c' := M.c) (np' := M.np) (by omega)]; exact (h4 k).1, fun r => ?_⟩⟩
  rw [ct_n (by omega)] at r ⊢
  rw [pk_un (by omega)]
  exact (h4 k).2 r
theorem NOm_3 (h : NOm kd B N M o b) (hp : p ≠ 0) : NOm kd B (upd N (b + 5) (nI (bu_U B p 2))) (M.c, M.np, updN M.ct (9 * o + 2) p) o b := by
  obtain ⟨h1, h2, h3, h4⟩ := h
  refine ⟨by rw [pk_un (by omega), ctv_n (c' := M.c) (np' := M.np) (by omega)]; exact h1, by rw [pk_un (by omega), ct_n (by omega)]; exact h2, fun k => by rw [pk_us, ctv_s hp], fun k => ⟨by rw [pk_un (by omega), ctv_n (c' := M.c) (np' := M.np) (by omega)]; exact (h4 k).1, fun r => ?_⟩⟩
  rw [ct_n (by omega)] at r ⊢
  rw [pk_un (by omega)]
  exact (h4 k).2 r
theorem NOm_4 (h : NOm kd B N M o b) (hp : p ≠ 0) : NOm kd B (upd (upd N (b + 6) (nI (bu_U B p 2))) (b + 6 + 1) (nI (p + 2))) (M.c, M.np, updN M.ct (9 * o + 3) p) o b := by
  obtain ⟨h1, h2, h3, h4⟩ := h
  refine ⟨by rw [pk_un (by omega), pk_un (by omega), ctv_n (c' := M.c) (np' := M.np) (by omega)]; exact h1, by rw [pk_un (by omega), pk_un (by omega), ct_n (by omega)]; exact h2, fun k => by rw [pk_un (by omega), pk_un (by omega), ctv_n (c' := M.c) (np' := M.np) (by omega)]; exact h3 k, fun k => ⟨by rw [pk_un (by omega), pk_us, ctv_s hp], fun _ => by rw [ct_s]; exact pk_us⟩⟩
end NOS
set_option maxRecDepth 100000 in
theorem c_knows {L : Nat} {xs : Nat → Int32} {d : Nat} {h : List qx_E} {kind kd w : Nat} (hk : (kind = 100 ∧ kd = 0) ∨ (kind = 230 ∧ kd = 1) ∨ (kind = 0 ∧ kd = 3)) (hw : w ≤ 12) : qe_E L xs d 167 [.int (nI kind), .int (nI w)] h (some (.int (bI (kw2 kd w)))) h := by
  show wp_W L xs _ 167 0 [(0, .int (nI kind)), (1, .int (nI w))] [] h _
  refine wp_iload_n dq_167_0 rfl ?_
  refine wp_iconst (x := nI 1) dq_167_1 rfl ?_
  refine wp_ic_eqN (tgt := 10) dq_167_2 rfl (by omega) (by omega) (fun c1 => ?_) (fun c1 => ?_)
  · refine wp_iconst (x := nI 1) dq_167_10 rfl ?_
    exact wp_ire dq_167_11 rfl ⟨rfl, Or.inr (Or.inl rfl)⟩ ⟨sv1 (by omega), rfl⟩
  · refine wp_iload_n dq_167_5 rfl ?_
    refine wp_iconst (x := nI 2) dq_167_6 rfl ?_
    refine wp_ic_neN (tgt := 12) dq_167_7 rfl (by omega) (by omega) (fun c2 => ?_) (fun c2 => ?_)
    · refine wp_iload_n dq_167_12 rfl ?_
      refine wp_iconst (x := nI 3) dq_167_13 rfl ?_
      refine wp_ic_neN (tgt := 29) dq_167_14 rfl (by omega) (by omega) (fun c3 => ?_) (fun c3 => ?_)
      · refine wp_iload_n dq_167_29 rfl ?_
        refine wp_iconst (x := nI 4) dq_167_30 rfl ?_
        refine wp_ic_neN (tgt := 47) dq_167_31 rfl (by omega) (by omega) (fun c4 => ?_) (fun c4 => ?_)
        · refine wp_iload_n dq_167_47 rfl ?_
          refine wp_if_neN (tgt := 66) dq_167_48 rfl (by omega) (fun c5 => ?_) (fun c5 => ?_)
          · refine wp_iconst (x := nI 0) dq_167_66 rfl ?_
            exact wp_ire dq_167_67 rfl ⟨rfl, Or.inr (Or.inl rfl)⟩ ⟨sv0 (by omega), rfl⟩
          · refine wp_iload_n dq_167_51 rfl ?_
            refine wp_iconst (x := nI 5) dq_167_52 rfl ?_
            refine wp_ic_ltN (tgt := 66) dq_167_53 rfl (by omega) (by omega) (fun c6 => ?_) (fun c6 => ?_)
            · refine wp_iconst (x := nI 0) dq_167_66 rfl ?_
              exact wp_ire dq_167_67 rfl ⟨rfl, Or.inr (Or.inl rfl)⟩ ⟨sv0 (by omega), rfl⟩
            · refine wp_iload_n dq_167_56 rfl ?_
              refine wp_bipush (x := nI 9) dq_167_57 rfl ?_
              refine wp_ic_gtN (tgt := 66) dq_167_59 rfl (by omega) (by omega) (fun c7 => ?_) (fun c7 => ?_)
              · refine wp_iconst (x := nI 0) dq_167_66 rfl ?_
                exact wp_ire dq_167_67 rfl ⟨rfl, Or.inr (Or.inl rfl)⟩ ⟨sv0 (by omega), rfl⟩
              · refine wp_iconst (x := nI 1) dq_167_62 rfl ?_
                refine wp_goto (tgt := 67) dq_167_63 rfl ?_
                exact wp_ire dq_167_67 rfl ⟨rfl, Or.inr (Or.inl rfl)⟩ ⟨sv1 (by omega), rfl⟩
        · refine wp_iload_n dq_167_34 rfl ?_
          refine wp_sipush (x := nI 230) dq_167_35 rfl ?_
          refine wp_ic_neN (tgt := 45) dq_167_38 rfl (by omega) (by omega) (fun c8 => ?_) (fun c8 => ?_)
          · refine wp_iconst (x := nI 0) dq_167_45 rfl ?_
            exact wp_ire dq_167_46 rfl ⟨rfl, Or.inr (Or.inl rfl)⟩ ⟨sv0 (by omega), rfl⟩
          · refine wp_iconst (x := nI 1) dq_167_41 rfl ?_
            refine wp_goto (tgt := 46) dq_167_42 rfl ?_
            exact wp_ire dq_167_46 rfl ⟨rfl, Or.inr (Or.inl rfl)⟩ ⟨sv1 (by omega), rfl⟩
      · refine wp_iload_n dq_167_17 rfl ?_
        refine wp_bipush (x := nI 100) dq_167_18 rfl ?_
        refine wp_ic_neN (tgt := 27) dq_167_20 rfl (by omega) (by omega) (fun c9 => ?_) (fun c9 => ?_)
        · refine wp_iconst (x := nI 0) dq_167_27 rfl ?_
          exact wp_ire dq_167_28 rfl ⟨rfl, Or.inr (Or.inl rfl)⟩ ⟨sv0 (by omega), rfl⟩
        · refine wp_iconst (x := nI 1) dq_167_23 rfl ?_
          refine wp_goto (tgt := 28) dq_167_24 rfl ?_
          exact wp_ire dq_167_28 rfl ⟨rfl, Or.inr (Or.inl rfl)⟩ ⟨sv1 (by omega), rfl⟩
    · refine wp_iconst (x := nI 1) dq_167_10 rfl ?_
      exact wp_ire dq_167_11 rfl ⟨rfl, Or.inr (Or.inl rfl)⟩ ⟨sv1 (by omega), rfl⟩
