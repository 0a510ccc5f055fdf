def kc_aK (b : Nat) (ad adK adV : Nat → Nat) (t : Nat) (q : Option Nat) : Nat → Option Nat := fun k => if k = 0 then some b else if k < 10 then some (ad (k - 1)) else if k = 10 then some t else if k < 26 then some (adK (k - 11)) else if k < 41 then some (adV (k - 26)) else if k = 41 then q else none
theorem kc_a1 {b t : Nat} {ad adK adV : Nat → Nat} {q : Option Nat} {k : Nat} (h1 : 1 ≤ k) (h2 : k ≤ 9) : kc_aK b ad adK adV t q k = some (ad (k - 1)) := by
  unfold kc_aK
  rw [if_neg (by omega), if_pos (by omega)]
theorem kc_a2 {b t : Nat} {ad adK adV : Nat → Nat} {q : Option Nat} {k : Nat} (h1 : 11 ≤ k) (h2 : k < 26) : kc_aK b ad adK adV t q k = some (adK (k - 11)) := by
  unfold kc_aK
  rw [if_neg (by omega), if_neg (by omega), if_neg (by omega), if_pos (by omega)]
theorem kc_a3 {b t : Nat} {ad adK adV : Nat → Nat} {q : Option Nat} {k : Nat} (h1 : 26 ≤ k) (h2 : k < 41) : kc_aK b ad adK adV t q k = some (adV (k - 26)) := by
  unfold kc_aK
  rw [if_neg (by omega), if_neg (by omega), if_neg (by omega), if_neg (by omega), if_pos (by omega)]
theorem kc_ttl : ∀ i, i < 9 → 11 ≤ qx_ttl.getD i 0 ∧ qx_ttl.getD i 0 < 26 := by decide
theorem kc_slot : ∀ i, i < 9 → ([0, 1, 2, 3, 4, 5, 6, 7, 8] : List Int32).getD i 0 = Int32.ofNat i := by decide
theorem kc_ln : ∀ i, i < 15 → kc_len.getD i 0 = (qx_txs.getD i []).length ∧ kc_len.getD i 0 < 2 ^ 31 := by decide
theorem kc_go {b L : Nat} {xs : Nat → Int32} {s : State} (hL : L ≤ 2048) (hts : ∀ w ∈ lw_tbl, w.before #[Value.ref b] s = true) (hX : va_X b L xs s s.heap) (hbl : b < s.heap.size) (hgv : (Jvm.Cond.and given_1 narrow_1).before #[Value.ref b] s = true) : ∃ aK : Nat → Option Nat, aK 0 = some b ∧ qx_KC aK s.heap.size L xs s := by
  have hW : ∀ {i : Nat} {w : Cond}, kc_L[i]? = some w → w.before #[Value.ref b] s = true := fun e => flat_of_before _ hgv _ (List.mem_of_getElem? e)
  have hT : ∀ {i : Nat} {w : Cond}, tables_1[i]? = some w → w.before #[Value.ref b] s = true := fun e => hts _ (List.mem_append_right _ (List.mem_of_getElem? e))
  have hA : ∀ a : Nat, a < s.heap.size → ¬ (fun q : Nat => s.heap.size ≤ q) a := fun a h => Nat.not_le.mpr h
  obtain ⟨l1, l2, l3, n1, n2, n3, -, -⟩ := kc_l3
  obtain ⟨c1, c2, c3, c4, c5, c6⟩ := kc_aa
  obtain ⟨ad, ⟨hE, hI⟩, hev⟩ := va_Enof2 (args := #[Value.ref b]) (s := s) (E := "ClassFileReader$Known") (d := "LClassFileReader$Known;") (nm := kc_nm) (F := kc_F) (A := fun q : Nat => s.heap.size ≤ q) (fun i hi => hT (kc_ls i hi)) (hT n1) (fun i hi => hW (kc_ex i hi)) (fun q hq i hi => by
    obtain ⟨k, hk⟩ := List.getElem?_of_mem hq
    have hk4 : k < 4 := (List.getElem?_eq_some_iff.mp hk).1
    have h := hW (kc_f k hk4 i hi)
    rw [List.getD_eq_getElem?_getD, hk] at h
    exact h) (fun i j hi hj hij => (kc_ne i hi j hj hij).imp (fun e => hW e) (fun e => hW e)) hA
  obtain ⟨adK, adV, ⟨hS, -⟩, hes⟩ := vk_Sof (args := #[Value.ref b]) (s := s) (N := 15) (tm := kc_s) (len := kc_len) (byt := qx_txs) (A := fun q : Nat => s.heap.size ≤ q) (fun i hi => (kc_ln i hi).2) (fun i hi => hW (kc_sx i hi)) (fun i hi => hW (kc_sc i hi)) (fun i hi => hW (kc_sa i hi)) (fun i hi => hW (kc_sl i hi)) (fun i hi j hj => hW (kc_se i hi j hj)) (fun i j hi hj hij => (kc_sn i hi j hj hij).imp (fun e => hW e) (fun e => hW e)) hA
  obtain ⟨t, ht, hTA⟩ := va_Tof (args := #[Value.ref b]) (s := s) (tm := kc_al) (ty := .object "ClassFileReader$Known") (N := 9) (f := fun j => .ref (ad j)) (A := fun q : Nat => s.heap.size ≤ q) (by decide) (hW c1) (va_eqt (hW c2)) (fun j hj => va_eqv (hW (kc_el j hj)) (hev j hj)) hA
  obtain ⟨q, hq⟩ : ∃ q : Option Nat, va_Z "jdk/internal/util/Preconditions" "SIOOBE_FORMATTER" "Ljava/util/function/BiFunction;" (va_rf q) (fun q : Nat => s.heap.size ≤ q) s s.heap := by
    rcases va_Zqof (A := fun q : Nat => s.heap.size ≤ q) (hT l3) (hT n3) (hW c4) hA with h | ⟨t, h⟩
    · exact ⟨none, h⟩
    · exact ⟨some t, h⟩
  refine ⟨kc_aK b ad adK adV t q, rfl, ⟨b, rfl, ?_⟩, fun k ci fs e => ?_, fun k ty n f e => ?_, ?_, fun r hr => ?_, fun r hr => ?_, fun r hr => ?_, fun x hx => ?_, fun x y hx hy e => ?_⟩
  · obtain ⟨scr, h1, h2, h3, h4, h5⟩ := hX
    exact ⟨scr, h1, h2, h3, by omega, by rw [h4], h5, hA b hbl⟩
  · unfold qx_ko at e
    split at e
    · rename_i hen
      have hen2 : 1 ≤ k ∧ k ≤ 9 := by simpa [qx_en] using hen
      cases e
      have hi : k - 1 < 9 := by omega
      obtain ⟨z1, z2, z3⟩ := hE (k - 1) hi
      refine ⟨ad (k - 1), kc_a1 hen2.1 hen2.2, z2, fun j v ev => ?_⟩
      match j, ev with
      | 0, ev =>
        cases ev
        obtain ⟨g1, g2⟩ := kc_ttl (k - 1) hi
        rw [qx_cvk (kc_a2 g1 g2)]
        exact vk_OFof (hev (k - 1) hi) (va_eqv (hW (kc_ti (k - 1) hi)) (hes _ (by omega))) hA
      | 1, ev =>
        cases ev
        have := z3 ("ClassFileReader$Known", "slot", "I", [0, 1, 2, 3, 4, 5, 6, 7, 8]) (List.mem_of_getElem? (i := 0) rfl)
        rw [show (("ClassFileReader$Known", "slot", "I", [0, 1, 2, 3, 4, 5, 6, 7, 8]) : String × String × String × List Int32).2.2.2.getD (k - 1) 0 = Int32.ofNat (k - 1) from kc_slot (k - 1) hi] at this
        exact this
      | 2, ev => cases ev; exact z3 ("ClassFileReader$Known", "tables", "I", qx_etb) (List.mem_of_getElem? (i := 1) rfl)
      | 3, ev => cases ev; exact z3 ("ClassFileReader$Known", "tag", "I", qx_etg) (List.mem_of_getElem? (i := 2) rfl)
      | 4, ev => cases ev; exact z3 ("ClassFileReader$Known", "elementSize", "I", qx_esz) (List.mem_of_getElem? (i := 3) rfl)
      | j + 5, ev => cases ev
    · split at e
      · rename_i hk
        cases e
        obtain ⟨s1, s2, s3, s4⟩ := hS (k - 11) (by omega)
        refine ⟨adK (k - 11), kc_a2 hk.1 hk.2, s1, fun j v ev => ?_⟩
        match j, ev with
        | 0, ev =>
          cases ev
          rw [qx_cvk (kc_a3 (by omega) (by omega)), show k + 15 - 26 = k - 11 by omega]
          exact s3
        | 1, ev => cases ev; exact s2
        | j + 2, ev => cases ev
      · cases e
  · unfold qx_ka at e
    split at e
    · rename_i hk
      cases e
      have hk9 : k = 9 := by omega
      subst hk9
      refine ⟨t, rfl, ?_⟩
      obtain ⟨cell, y1, y2, y3, y4, y5, y6, y7⟩ := hTA
      exact ⟨cell, y1, y2, y3, y4, y5, fun j hj => (y6 j hj).trans (congrArg some (qx_cvk (kc_a1 (k := j + 1) (by omega) (by omega))).symm), y7⟩
    · split at e
      · rename_i hk
        cases e
        obtain ⟨s1, s2, s3, s4⟩ := hS (k + 1 - 26) (by omega)
        rw [(kc_ln (k + 1 - 26) (by omega)).1] at s4
        exact ⟨adV (k + 1 - 26), kc_a3 hk.1 hk.2, s4⟩
      · cases e
  · have h0 : ∀ i, i < 9 → va_Z "ClassFileReader$Known" (kc_nm.getD i "") "LClassFileReader$Known;" (qx_cv (kc_aK b ad adK adV t q) s.heap.size (.retAddr (i + 1))) (fun q : Nat => s.heap.size ≤ q) s s.heap := fun i hi => by
      rw [qx_cvk (kc_a1 (k := i + 1) (by omega) (by omega))]
      exact (hE i hi).1
    exact List.forall_mem_cons.mpr ⟨h0 0 (by decide), List.forall_mem_cons.mpr ⟨h0 1 (by decide), List.forall_mem_cons.mpr ⟨h0 2 (by decide), List.forall_mem_cons.mpr ⟨h0 3 (by decide), List.forall_mem_cons.mpr ⟨h0 4 (by decide), List.forall_mem_cons.mpr ⟨h0 5 (by decide), List.forall_mem_cons.mpr ⟨h0 6 (by decide), List.forall_mem_cons.mpr ⟨h0 7 (by decide), List.forall_mem_cons.mpr ⟨h0 8 (by decide), List.forall_mem_cons.mpr ⟨va_Zref (hT l1) (hT n1) ht hA, List.forall_mem_cons.mpr ⟨va_Zof (hT l2) (hT n2) (va_eqt (hW c3)) hA, List.forall_mem_cons.mpr ⟨hq, fun _ h => by cases h⟩⟩⟩⟩⟩⟩⟩⟩⟩⟩⟩⟩
  · obtain ⟨i, hi⟩ := List.getElem?_of_mem hr
    have hlt : i < 16 := (List.getElem?_eq_some_iff.mp hi).1
    have h1 := kc_sr i hlt
    rw [hi] at h1
    by_cases e4 : i = 4
    · subst e4
      cases hi
      obtain ⟨a9, c9, cA, kA, q1, -⟩ := Cond.exactly_spec (hW c6)
      have h9 := va_eqv (hW c5) q1
      have h8 := (hes 3 (by decide)).symm.trans h9
      cases h8
      exact ⟨adK 3, rfl, vk_R.of (hT h1) q1⟩
    · have h2 := kc_si i hlt e4
      rw [hi] at h2
      have h3 := Option.some.inj h2
      have h4 := congrArg Prod.fst h3
      have h5 := congrArg Prod.snd h3
      simp only at h4 h5
      have hlt2 : (if i < 4 then i else i - 1) < 15 := by split <;> omega
      have hv := hes _ hlt2
      rw [← h4] at hv
      refine ⟨_, ?_, vk_R.of (hT h1) hv⟩
      rw [h5, kc_a2 (by omega) (by omega), Nat.add_sub_cancel_left]
  · obtain ⟨i, hi⟩ := List.getElem?_of_mem hr
    have h1 := kc_nf i (List.getElem?_eq_some_iff.mp hi).1
    rw [hi] at h1
    exact va_Nw.of rfl (hT h1)
  · obtain ⟨i, hi⟩ := List.getElem?_of_mem hr
    have h1 := kc_nmm i (List.getElem?_eq_some_iff.mp hi).1
    rw [hi] at h1
    exact va_Nw.of rfl (hT h1)
  · have hx2 : 1 ≤ x ∧ x ≤ 9 := by simpa [qx_en] using hx
    exact ⟨_, kc_a1 hx2.1 hx2.2⟩
  · have hx2 : 1 ≤ x ∧ x ≤ 9 := by simpa [qx_en] using hx
    have hy2 : 1 ≤ y ∧ y ≤ 9 := by simpa [qx_en] using hy
    rw [kc_a1 hx2.1 hx2.2, kc_a1 hy2.1 hy2.2] at e
    have := hI (x - 1) (y - 1) (show x - 1 < 9 by omega) (show y - 1 < 9 by omega) (Option.some.inj e)
    omega
