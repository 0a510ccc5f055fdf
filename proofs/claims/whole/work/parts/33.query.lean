/-! WHAT THE TABLES SAY, on Nats -/
def tg (B T : Nat → Nat) (i : Nat) : Nat := if i < 64 ∧ T i ≠ 0 then B (T i) else 0
def tl (B T : Nat → Nat) (i : Nat) : Nat := bu_U B (T i + 1) 2
def tx (B T : Nat → Nat) (i : Nat) : List Nat := (List.range (tl B T i)).map (fun j => B (T i + 3 + j))
def PG (B : Nat → Nat) (n : Nat) (T : Nat → Nat) : Prop := ∀ i, T i ≠ 0 → 1 ≤ i ∧ i < 64 ∧ eOK B n (T i)
def QF (B : Nat → Nat) (n : Nat) (T : Nat → Nat) (s : Nat → Int32) (a : Nat → Nat → Int32) : Prop := gO (a 0) B n ∧ n ≤ 480 ∧ s 1 = nI n ∧ PR B T a ∧ PG B n T
theorem bI_of {x : Int32} {c : Bool} (h01 : x = 0 ∨ x = 1) (h : x = 1 ↔ c = true) : x = bI c := by
  cases c with
  | true => rw [h.mpr rfl]; rfl
  | false =>
    rcases h01 with r | r
    · rw [r]; rfl
    · exact absurd (h.mp r) (by decide)
theorem bI_0 {c : Bool} : bI c = 0 ↔ c = false := by cases c <;> decide
theorem bI_1 {c : Bool} : bI c = 1 ↔ c = true := by cases c <;> decide
theorem bI_01 (c : Bool) : bI c = 0 ∨ bI c = 1 := by cases c <;> decide
theorem eOK_12 {B : Nat → Nat} {n p : Nat} (h : eOK B n p) : 1 ≤ B p ∧ B p ≤ 12 ∧ B p ≠ 2 ∧ p + 3 ≤ n := by
  obtain ⟨h0, ⟨h1, h2, -⟩ | ⟨h1, h2⟩ | ⟨h1, h2⟩ | ⟨h1, h2⟩⟩ := h
  · omega
  · omega
  · omega
  · omega
theorem PG_tg {B : Nat → Nat} {n : Nat} {T : Nat → Nat} (hG : PG B n T) (i : Nat) : tg B T i ≤ 12 := by
  unfold tg
  split
  · rename_i h
    exact (eOK_12 (hG i h.2).2.2).2.1
  · exact Nat.zero_le 12
theorem tg_ne {B : Nat → Nat} {n : Nat} {T : Nat → Nat} (hG : PG B n T) {i t : Nat} (h : tg B T i = t) (ht : t ≠ 0) : 1 ≤ i ∧ i < 64 ∧ T i ≠ 0 ∧ B (T i) = t ∧ eOK B n (T i) := by
  unfold tg at h
  split at h
  · rename_i h1
    obtain ⟨a1, a2, a3⟩ := hG i h1.2
    exact ⟨a1, a2, h1.2, h, a3⟩
  · exact absurd h.symm ht
/-- a text lies within -/
theorem tx_in {B : Nat → Nat} {n : Nat} {T : Nat → Nat} (hG : PG B n T) {i : Nat} (h : tg B T i = 1) : 1 ≤ i ∧ i < 64 ∧ T i ≠ 0 ∧ T i + 3 + tl B T i ≤ n ∧ ∀ j, j < tl B T i → 1 ≤ B (T i + 3 + j) ∧ B (T i + 3 + j) ≤ 127 := by
  obtain ⟨a1, a2, a3, a4, h0, h1⟩ := tg_ne hG h (by decide)
  rcases h1 with ⟨b1, b2, b3⟩ | ⟨b1, b2⟩ | ⟨b1, b2⟩ | ⟨b1, b2⟩
  · exact ⟨a1, a2, a3, b2, b3⟩
  · omega
  · omega
  · omega
section QFS
variable {B : Nat → Nat} {n : Nat} {T : Nat → Nat} {s : Nat → Int32} {a : Nat → Nat → Int32}
theorem QF_tg (hQ : QF B n T s a) {j : Nat} (hj : j < 64) : a 1 j = nI (tg B T j) := by
  obtain ⟨h1, h2⟩ := hQ.2.2.2.1 j hj
  unfold tg
  by_cases h : T j = 0
  · rw [if_neg (fun r => r.2 h)]
    exact h1 h
  · rw [if_pos ⟨hj, h⟩]
    exact (h2 h).1
theorem QF_pl (hQ : QF B n T s a) {j : Nat} (hj : j < 64) (h : T j ≠ 0) : a 2 j = nI (T j) := ((hQ.2.2.2.1 j hj).2 h).2.1
theorem QF_ln (hQ : QF B n T s a) {j : Nat} (h : tg B T j = 1) : a 3 j = nI (tl B T j) := by
  obtain ⟨a1, a2, a3, a4, -⟩ := tg_ne hQ.2.2.2.2 h (by decide)
  exact ((hQ.2.2.2.1 j a2).2 a3).2.2 a4
theorem QF_gB (hQ : QF B n T s a) : gB s a B n := gB_of hQ.1 hQ.2.1 hQ.2.2.1
theorem QF_B (hQ : QF B n T s a) {j : Nat} (hj : j < n) : B j < 256 := (hQ.1 j hj).2
theorem QF_n (hQ : QF B n T s a) : n ≤ 480 := hQ.2.1
theorem QF_u1 (hQ : QF B n T s a) {p : Nat} (hp : p < n) : f_u1At s a (nI p) = nI (B p) := ((QF_gB hQ).2 p hp).1
theorem QF_u2 (hQ : QF B n T s a) {p : Nat} (hp : p + 2 ≤ n) : f_u2At s a (nI p) = nI (bu_U B p 2) := by
  unfold f_u2At
  rw [show (2 : Int32) = nI 2 from rfl, num_U hQ.1 hQ.2.1 hQ.2.2.1 (by decide) hp, lN_i]
theorem QF_u2z (hQ : QF B n T s a) {p : Nat} (hp : n < p + 2) (hp2 : p < 2 ^ 31) : f_u2At s a (nI p) = 0 := by
  unfold f_u2At
  rw [show (2 : Int32) = nI 2 from rfl, num_0 hQ.2.1 hQ.2.2.1 (by decide) hp hp2]
  rfl
theorem QF_U2 (hQ : QF B n T s a) {p : Nat} (hp : p + 2 ≤ n) : bu_U B p 2 < 65536 := bu_lt (k := 2) (fun j hj => QF_B hQ (by omega))
theorem q_names (hQ : QF B n T s a) {i t : Nat} (hi : i < 65536) (ht : 0 < t) (ht9 : t < 2 ^ 31) : f_names s a (nI i) (nI t) = bI (tg B T i == t) := by
  have hg := PG_tg hQ.2.2.2.2 i
  unfold f_names
  rcases Nat.eq_zero_or_pos i with h0 | h0
  · subst h0
    rw [if_pos (by decide)]
    have h1 : tg B T 0 ≠ t := fun r => by obtain ⟨r1, -⟩ := tg_ne hQ.2.2.2.2 r (by omega); omega
    rw [beq_eq_false_iff_ne.mpr h1]
    rfl
  · rw [if_neg (show ¬ nI i < 1 from nI_nlt (a := i) (b := 1) (by omega) (by omega))]
    rcases Nat.lt_or_ge i 64 with h1 | h1
    · rw [if_neg (show ¬ 64 ≤ nI i from nI_ge (b := 64) h1 (by decide)), nI_clamp (by omega), QF_tg hQ h1]
      by_cases h2 : tg B T i = t
      · rw [if_pos (by rw [h2]), beq_iff_eq.mpr h2]
        rfl
      · rw [if_neg (fun r => h2 ((nI_eq (by omega) ht9).mp r)), beq_eq_false_iff_ne.mpr h2]
        rfl
    · rw [if_pos (show 64 ≤ nI i from nI_le (a := 64) h1 (by omega))]
      have h3 : tg B T i ≠ t := fun r => by obtain ⟨r1, r2, -⟩ := tg_ne hQ.2.2.2.2 r (by omega); omega
      rw [beq_eq_false_iff_ne.mpr h3]
      rfl
theorem q_nameN (hQ : QF B n T s a) {i : Nat} (hi : i < 65536) : f_names s a (nI i) (-1) = 0 := by
  have hg := PG_tg hQ.2.2.2.2 i
  unfold f_names
  split
  · rfl
  · split
    · rfl
    · rename_i h1 h2
      have h3 : i < 64 := by
        rcases Nat.lt_or_ge i 64 with r | r
        · exact r
        · exact absurd (nI_le (a := 64) r (by omega)) h2
      rw [nI_clamp (by omega), QF_tg hQ h3, if_neg (oI_ne (by omega))]
theorem nm_in (hQ : QF B n T s a) {i : Nat} (hi : i < 65536) {t : Nat} (ht : 0 < t) (ht9 : t < 2 ^ 31) : (f_names s a (nI i) (nI t) = 0 ↔ ¬ tg B T i = t) := by
  rw [q_names hQ hi ht ht9, bI_0, beq_eq_false_iff_ne]
theorem nm_1 (hQ : QF B n T s a) {i : Nat} (hi : i < 65536) : (f_names s a (nI i) 1 = 0 ↔ ¬ tg B T i = 1) := nm_in hQ hi (t := 1) (by decide) (by decide)
theorem nm_7 (hQ : QF B n T s a) {i : Nat} (hi : i < 65536) : (f_names s a (nI i) 7 = 0 ↔ ¬ tg B T i = 7) := nm_in hQ hi (t := 7) (by decide) (by decide)
theorem q_classText (hQ : QF B n T s a) {i : Nat} (hi : i < 65536) : f_classText s a (nI i) = nI (if tg B T i = 7 then bu_U B (T i + 1) 2 else 0) := by
  unfold f_classText
  by_cases h : tg B T i = 7
  · obtain ⟨a1, a2, a3, a4, a5⟩ := tg_ne hQ.2.2.2.2 h (by decide)
    have a6 := (eOK_12 a5).2.2.2
    rw [if_neg (fun r => (nm_7 hQ hi).mp r h), if_pos h, nI_clamp (by omega), QF_pl hQ a2 a3, nI_1, QF_u2 hQ (by omega)]
  · rw [if_pos ((nm_7 hQ hi).mpr h), if_neg h]
    rfl
theorem q_ctlt (hQ : QF B n T s a) {i : Nat} : (if tg B T i = 7 then bu_U B (T i + 1) 2 else 0) < 65536 := by
  split
  · rename_i h
    obtain ⟨a1, a2, a3, a4, a5⟩ := tg_ne hQ.2.2.2.2 h (by decide)
    have a6 := (eOK_12 a5).2.2.2
    exact QF_U2 hQ (by omega)
  · decide
def wd (k : Nat) : List Nat := (sx_t k).map Int32.toNatClampNeg
theorem wd_ok9 : ∀ k, k < 26 → 11 ≤ k → ∀ m, m < 19 → (sx_t k).getD m 0 = nI ((wd k).getD m 0) ∧ (wd k).getD m 0 < 128 := by decide +kernel
theorem wd_len (k : Nat) : (wd k).length = (sx_t k).length := List.length_map ..
theorem tx_len {i : Nat} : (tx B T i).length = tl B T i := by rw [tx, List.length_map, List.length_range]
theorem tx_get {i m : Nat} (h : m < tl B T i) : (tx B T i).getD m 0 = B (T i + 3 + m) := by
  rw [tx, List.getD_eq_getElem?_getD, List.getElem?_map, List.getElem?_range h]
  rfl
theorem li_ext {l l' : List Nat} (h : l.length = l'.length) (h2 : ∀ m, m < l.length → l.getD m 0 = l'.getD m 0) : l = l' := by
  apply List.ext_getElem h
  intro m h3 h4
  have h5 := h2 m h3
  rw [List.getD_eq_getElem?_getD, List.getD_eq_getElem?_getD, List.getElem?_eq_getElem h3, List.getElem?_eq_getElem h4] at h5
  exact h5
theorem tx_iff {i : Nat} {l : List Nat} : tx B T i = l ↔ tl B T i = l.length ∧ ∀ m, m < l.length → B (T i + 3 + m) = l.getD m 0 := by
  constructor
  · intro h
    subst h
    rw [tx_len]
    exact ⟨rfl, fun m hm => (tx_get hm).symm⟩
  · rintro ⟨h1, h2⟩
    refine li_ext (by rw [tx_len, h1]) (fun m hm => ?_)
    rw [tx_len] at hm
    rw [tx_get hm]
    exact h2 m (by omega)
theorem spL_iff (hQ : QF B n T s a) {k q : Nat} (hk : 11 ≤ k ∧ k < 26) (hq : q + (sx_t k).length ≤ n) : ∀ j i, i + j = (sx_t k).length → (f_spL s a (nI q) (sx_t k) j i = 1 ↔ ∀ m, i ≤ m → m < (sx_t k).length → B (q + m) = (wd k).getD m 0) ∧ (f_spL s a (nI q) (sx_t k) j i = 0 ∨ f_spL s a (nI q) (sx_t k) j i = 1)
  | 0, i, hi => ⟨⟨fun _ m h1 h2 => by omega, fun _ => rfl⟩, Or.inr rfl⟩
  | j + 1, i, hi => by
    have hl := sx_len k hk.1 hk.2
    have hn := QF_n hQ
    obtain ⟨w1, w2⟩ := wd_ok9 k hk.2 hk.1 i (by omega)
    have h1 : f_u1At s a (nI q + nI i) = nI (B (q + i)) := by rw [nI_add, QF_u1 hQ (by omega)]
    have hB := QF_B hQ (j := q + i) (by omega)
    obtain ⟨ih1, ih2⟩ := spL_iff hQ hk hq j (i + 1) (by omega)
    unfold f_spL
    rw [h1, w1]
    by_cases h2 : B (q + i) = (wd k).getD i 0
    · rw [if_pos (by rw [h2])]
      refine ⟨⟨fun r m h3 h4 => ?_, fun r => ih1.mpr (fun m h3 h4 => r m (by omega) h4)⟩, ih2⟩
      rcases Nat.eq_or_lt_of_le h3 with h5 | h5
      · rw [← h5]; exact h2
      · exact ih1.mp r m h5 h4
    · rw [if_neg (fun r => h2 ((nI_eq (by omega) (by omega)).mp r))]
      exact ⟨⟨fun r => absurd r (by decide), fun r => absurd (r i (Nat.le_refl i) (by omega)) h2⟩, Or.inl rfl⟩
theorem q_spells (hQ : QF B n T s a) {i k : Nat} (hi : i < 65536) (hk : 11 ≤ k ∧ k < 26) : f_spells s a (nI i) k = bI (decide (tg B T i = 1 ∧ tx B T i = wd k)) := by
  have hl := sx_len k hk.1 hk.2
  unfold f_spells
  by_cases h : tg B T i = 1
  · obtain ⟨a1, a2, a3, a4, a5⟩ := tx_in hQ.2.2.2.2 h
    have hn := QF_n hQ
    rw [if_neg (fun r => (nm_1 hQ hi).mp r h), nI_clamp (by omega), QF_ln hQ h, QF_pl hQ a2 a3, show (3 : Int32) = nI 3 from rfl, nI_add]
    by_cases h2 : tl B T i = (sx_t k).length
    · rw [if_pos (by rw [h2])]
      obtain ⟨e1, e2⟩ := spL_iff hQ hk (q := T i + 3) (by omega) (sx_t k).length 0 (by omega)
      refine bI_of e2 ?_
      rw [e1, decide_eq_true_eq, tx_iff, wd_len]
      exact ⟨fun r => ⟨h, h2, fun m hm => r m (Nat.zero_le m) hm⟩, fun r m _ hm => r.2.2 m hm⟩
    · rw [if_neg (fun r => h2 ((nI_eq (by omega) (by omega)).mp r)), decide_eq_false (fun r => h2 (by rw [← wd_len]; exact (tx_iff.mp r.2).1))]
      rfl
  · rw [if_pos ((nm_1 hQ hi).mpr h), decide_eq_false (fun r => h r.1)]
    rfl
theorem saL_iff (hQ : QF B n T s a) {p q l : Nat} (hp : p + l ≤ n) (hq : q + l ≤ n) : ∀ j i, i + j = l → (f_saL s a (nI p) (nI q) j i = 1 ↔ ∀ m, i ≤ m → m < l → B (p + m) = B (q + m)) ∧ (f_saL s a (nI p) (nI q) j i = 0 ∨ f_saL s a (nI p) (nI q) j i = 1)
  | 0, i, hi => ⟨⟨fun _ m h1 h2 => by omega, fun _ => rfl⟩, Or.inr rfl⟩
  | j + 1, i, hi => by
    have hn := QF_n hQ
    have h1 : f_u1At s a (nI p + nI i) = nI (B (p + i)) := by rw [nI_add, QF_u1 hQ (by omega)]
    have h1' : f_u1At s a (nI q + nI i) = nI (B (q + i)) := by rw [nI_add, QF_u1 hQ (by omega)]
    have hB := QF_B hQ (j := p + i) (by omega)
    have hB' := QF_B hQ (j := q + i) (by omega)
    obtain ⟨ih1, ih2⟩ := saL_iff hQ hp hq j (i + 1) (by omega)
    unfold f_saL
    rw [h1, h1']
    by_cases h2 : B (p + i) = B (q + i)
    · rw [if_pos (by rw [h2])]
      refine ⟨⟨fun r m h3 h4 => ?_, fun r => ih1.mpr (fun m h3 h4 => r m (by omega) h4)⟩, ih2⟩
      rcases Nat.eq_or_lt_of_le h3 with h5 | h5
      · rw [← h5]; exact h2
      · exact ih1.mp r m h5 h4
    · rw [if_neg (fun r => h2 ((nI_eq (by omega) (by omega)).mp r))]
      exact ⟨⟨fun r => absurd r (by decide), fun r => absurd (r i (Nat.le_refl i) (by omega)) h2⟩, Or.inl rfl⟩
theorem tx_eq {i j : Nat} : tx B T i = tx B T j ↔ tl B T i = tl B T j ∧ ∀ m, m < tl B T i → B (T i + 3 + m) = B (T j + 3 + m) := by
  rw [tx_iff, tx_len]
  constructor
  · rintro ⟨h1, h2⟩
    exact ⟨h1, fun m hm => by rw [h2 m (by omega), tx_get (by omega)]⟩
  · rintro ⟨h1, h2⟩
    exact ⟨h1, fun m hm => by rw [h2 m (by omega), tx_get hm]⟩
theorem q_same (hQ : QF B n T s a) {i j : Nat} (hi : i < 65536) (hj : j < 65536) : f_same s a (nI i) (nI j) = bI (decide (tg B T i = 1 ∧ tg B T j = 1 ∧ tx B T i = tx B T j)) := by
  unfold f_same
  by_cases h : tg B T i = 1
  · rw [if_neg (fun r => (nm_1 hQ hi).mp r h)]
    by_cases h' : tg B T j = 1
    · rw [if_neg (fun r => (nm_1 hQ hj).mp r h')]
      obtain ⟨a1, a2, a3, a4, a5⟩ := tx_in hQ.2.2.2.2 h
      obtain ⟨b1, b2, b3, b4, b5⟩ := tx_in hQ.2.2.2.2 h'
      have hn := QF_n hQ
      rw [nI_clamp (by omega), nI_clamp (by omega), QF_ln hQ h, QF_ln hQ h', QF_pl hQ a2 a3, QF_pl hQ b2 b3, show (3 : Int32) = nI 3 from rfl, nI_add, nI_add, nI_clamp (by omega)]
      by_cases h2 : tl B T i = tl B T j
      · rw [if_pos (by rw [h2])]
        obtain ⟨e1, e2⟩ := saL_iff hQ (l := tl B T i) (p := T i + 3) (q := T j + 3) (by omega) (by omega) (tl B T i) 0 (by omega)
        refine bI_of e2 ?_
        rw [e1, decide_eq_true_eq, tx_eq]
        exact ⟨fun r => ⟨h, h', h2, fun m hm => r m (Nat.zero_le m) hm⟩, fun r m _ hm => r.2.2.2 m hm⟩
      · rw [if_neg (fun r => h2 ((nI_eq (by omega) (by omega)).mp r)), decide_eq_false (fun r => h2 (tx_eq.mp r.2.2).1)]
        rfl
    · rw [if_pos ((nm_1 hQ hj).mpr h'), decide_eq_false (fun r => h' r.2.1)]
      rfl
  · rw [if_pos ((nm_1 hQ hi).mpr h), decide_eq_false (fun r => h r.1)]
    rfl
end QFS
/-! shapes -/
def te (B T : Nat → Nat) (i : Nat) : Nat := T i + 3 + tl B T i
def k_cn (B T : Nat → Nat) (i : Nat) : Bool := gm_cn B (T i + 3) (te B T i)
def k_ft (B T : Nat → Nat) (i : Nat) : Bool := decide (gm_ft B (T i + 3) (te B T i) = some (te B T i))
def k_mt (B T : Nat → Nat) (i : Nat) : Bool := gm_mt B (T i + 3) (te B T i)
def k_mm (B T : Nat → Nat) (i : Nat) : Bool := gm_mm B (T i + 3) (te B T i)
def k_ar (B T : Nat → Nat) (i : Nat) : Bool := k_ft B T i && B (T i + 3) == 91
def shv (c f u t m : Bool) : Int32 := (if c then 1 else 0) ||| (if f then (if u then 6 else 4) else 0) ||| (if t then 8 else 0) ||| (if m then 16 else 0)
theorem shv_w : ∀ c f u t m : Bool, ((shv c f u t m &&& 3 = 0) ↔ (c || (f && u)) = false) ∧ ((shv c f u t m &&& 16 = 0) ↔ m = false) ∧ ((shv c f u t m &&& 12 = 0) ↔ (f || t) = false) ∧ ((shv c f u t m &&& 1 = 0) ↔ c = false) ∧ ((shv c f u t m &&& 8 = 0) ↔ t = false) ∧ ((shv c f u t m &&& 4 = 0) ↔ f = false) := by decide +kernel
theorem sh_v {s : Nat → Int32} {a : Nat → Nat → Int32} {B : Nat → Nat} {p q : Nat} {f : Bool} (hf : oI (gm_ft B p q) = nI q ↔ f = true) {u : Bool} (hu : f = true → (f_u1At s a (nI p) = 91 ↔ u = true)) : f_shapes s a B p q = shv (gm_cn B p q) f u (gm_mt B p q) (gm_mm B p q) := by
  unfold f_shapes
  cases gm_cn B p q <;> cases gm_mt B p q <;> cases gm_mm B p q <;> cases f <;> first
    | (rw [if_neg (fun r => absurd (hf.mp r) (by decide)), if_neg (fun r => absurd (hf.mp r) (by decide))]; cases u <;> rfl)
    | (have hu' := hu rfl; cases u <;> first | (rw [if_pos (hf.mpr rfl), if_pos (hf.mpr rfl), if_neg (fun r => absurd (hu'.mp r) (by decide)), if_neg (fun r => absurd (hu'.mp r) (by decide))]; rfl) | (rw [if_pos (hf.mpr rfl), if_pos (hf.mpr rfl), if_pos (hu'.mpr rfl), if_pos (hu'.mpr rfl)]; rfl))
/-- the shapes stand in their array -/
def SH (B T : Nat → Nat) (a : Nat → Nat → Int32) : Prop := ∀ j, j < 64 → tg B T j = 1 → a 4 j = shv (k_cn B T j) (k_ft B T j) (B (T j + 3) == 91) (k_mt B T j) (k_mm B T j)
section QFH
variable {B : Nat → Nat} {n : Nat} {T : Nat → Nat} {s : Nat → Int32} {a : Nat → Nat → Int32}
theorem sh_of (hQ : QF B n T s a) {i : Nat} (h : tg B T i = 1) : f_shapes s a B (T i + 3) (te B T i) = shv (k_cn B T i) (k_ft B T i) (B (T i + 3) == 91) (k_mt B T i) (k_mm B T i) := by
  obtain ⟨a1, a2, a3, a4, a5⟩ := tx_in hQ.2.2.2.2 h
  have hn := QF_n hQ
  have h1 : T i + 3 ≤ te B T i := by unfold te; omega
  have h2 : te B T i ≤ n := by unfold te; omega
  refine sh_v ?_ (fun hf => ?_)
  · rw [k_ft, decide_eq_true_eq]
    exact oI_eq (fun k hk => by have := gm_ft_in h1 hk; omega) (by omega)
  · rw [k_ft, decide_eq_true_eq] at hf
    have h3 := gm_ft_in h1 hf
    have hB := QF_B hQ (j := T i + 3) (by omega)
    rw [QF_u1 hQ (by omega), beq_iff_eq]
    exact nI_eq (b := 91) (by omega) (by decide)
theorem q_sh (hQ : QF B n T s a) (hS : SH B T a) {i : Nat} (hi : i < 65536) {w : Int32} {c : Bool} (hw : shv (k_cn B T i) (k_ft B T i) (B (T i + 3) == 91) (k_mt B T i) (k_mm B T i) &&& w = 0 ↔ c = false) : f_hasShape s a (nI i) w = bI (tg B T i == 1 && c) := by
  unfold f_hasShape
  by_cases h : tg B T i = 1
  · obtain ⟨a1, a2, -⟩ := tx_in hQ.2.2.2.2 h
    rw [if_neg (fun r => (nm_1 hQ hi).mp r h), nI_clamp (by omega), hS i a2 h, beq_iff_eq.mpr h, Bool.true_and]
    cases c with
    | false => rw [if_pos (hw.mpr rfl)]; rfl
    | true => rw [if_neg (fun r => absurd (hw.mp r) (by decide))]; rfl
  · rw [if_pos ((nm_1 hQ hi).mpr h), beq_eq_false_iff_ne.mpr h]
    rfl
theorem q_sh3 (hQ : QF B n T s a) (hS : SH B T a) {i : Nat} (hi : i < 65536) : f_hasShape s a (nI i) 3 = bI (tg B T i == 1 && (k_cn B T i || k_ar B T i)) := q_sh hQ hS hi (shv_w ..).1
theorem q_sh16 (hQ : QF B n T s a) (hS : SH B T a) {i : Nat} (hi : i < 65536) : f_hasShape s a (nI i) 16 = bI (tg B T i == 1 && k_mm B T i) := q_sh hQ hS hi (shv_w ..).2.1
theorem q_sh12 (hQ : QF B n T s a) (hS : SH B T a) {i : Nat} (hi : i < 65536) : f_hasShape s a (nI i) 12 = bI (tg B T i == 1 && (k_ft B T i || k_mt B T i)) := q_sh hQ hS hi (shv_w ..).2.2.1
theorem q_sh1 (hQ : QF B n T s a) (hS : SH B T a) {i : Nat} (hi : i < 65536) : f_hasShape s a (nI i) 1 = bI (tg B T i == 1 && k_cn B T i) := q_sh hQ hS hi (shv_w ..).2.2.2.1
theorem q_sh8 (hQ : QF B n T s a) (hS : SH B T a) {i : Nat} (hi : i < 65536) : f_hasShape s a (nI i) 8 = bI (tg B T i == 1 && k_mt B T i) := q_sh hQ hS hi (shv_w ..).2.2.2.2.1
theorem q_sh4 (hQ : QF B n T s a) (hS : SH B T a) {i : Nat} (hi : i < 65536) : f_hasShape s a (nI i) 4 = bI (tg B T i == 1 && k_ft B T i) := q_sh hQ hS hi (shv_w ..).2.2.2.2.2
def cT (B T : Nat → Nat) (i : Nat) : Nat := if tg B T i = 7 then bu_U B (T i + 1) 2 else 0
theorem q_named (hQ : QF B n T s a) (hS : SH B T a) {i : Nat} (hi : i < 65536) : f_isNamedClass s a (nI i) = bI (tg B T (cT B T i) == 1 && k_cn B T (cT B T i)) := by
  unfold f_isNamedClass
  rw [q_classText hQ hi]
  exact q_sh1 hQ hS (q_ctlt hQ)
end QFH
