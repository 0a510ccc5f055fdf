section QXH
variable {L d m pc len pc' k : Nat} {xs : Nat → Int32} {lv lv' : qx_L} {st st' : List Value} {h h' : List qx_E}
theorem qx_hp_ast {ty : FieldType} (hs : qx_g len 1 (qx_ast ty pc lv st h) = some (pc', lv', st', h')) : qx_hp h h' := by
  obtain ⟨x, j, k, r, n, f, -, hk, hj, e1⟩ := qx_ast_inv (qx_g_inv hs).2
  cases e1
  exact Or.inr (Or.inl ⟨k, _, _, hk, by rfl, rfl⟩)
theorem qx_hp_nwa {at_ : ArrayType} (hs : qx_g len 2 (qx_nwa at_ pc lv st h) = some (pc', lv', st', h')) : qx_hp h h' := by
  obtain ⟨n, r, -, hty, hn, hb4, e1⟩ := qx_nwa_inv (qx_g_inv hs).2
  cases e1
  exact Or.inr (Or.inr ⟨_, rfl⟩)
theorem qx_hp_new (hs : qx_g len 3 (match qx_new m k with
    | some (ci, fs) => some (pc + 3, lv, .ref h.length :: st, h ++ [.inr (ci, fs)])
    | none => none) = some (pc', lv', st', h')) : qx_hp h h' := by
  have e := (qx_g_inv hs).2
  split at e
  · cases e
    exact Or.inr (Or.inr ⟨_, rfl⟩)
  · cases e
theorem qx_hp_pf (hs : qx_g len 3 (qx_pf m k pc lv st h) = some (pc', lv', st', h')) : qx_hp h h' := by
  obtain ⟨v, a, r, ci, fs, j, -, ha, hf, hj2, hfit, hpok, e1⟩ := qx_pf_inv (qx_g_inv hs).2
  cases e1
  exact Or.inr (Or.inl ⟨a, _, _, ha, by rfl, rfl⟩)
theorem qx_hp_cpy (hs : qx_g len 3 (if qx_cp m k = true then qx_cpy d pc lv st h else none) = some (pc', lv', st', h')) : qx_hp h h' := by
  have e := (qx_g_inv hs).2
  split at e
  · obtain ⟨n, dp, k1, sp, k0, r, n9, f, n1, g, -, e0, e2, hd1, hcat, h1, h2, h3, h4, h5, h6, e1⟩ := qx_cpy_inv e
    cases e1
    exact Or.inr (Or.inl ⟨k1, _, _, e2, by rfl, rfl⟩)
  · cases e
end QXH
set_option maxHeartbeats 8000000 in
set_option maxRecDepth 100000 in
theorem qx_step_hp {L d m pc len pc' : Nat} {xs : Nat → Int32} {i : Instr} {lv lv' : qx_L} {st st' : List Value} {h h' : List qx_E} (hs : qx_step L xs d m pc i len lv st h = some (pc', lv', st', h')) : qx_hp h h' := by
  cases i
  case if_acmp cd off =>
    cases cd
    · exact absurd (show (none : Option qx_S) = some (pc', lv', st', h') from hs) (by simp)
    · simp only [qx_step, qx_g, qx_if, qx_to] at hs
      repeat' split at hs
      all_goals first
        | (cases hs; exact Or.inl rfl)
        | (simp only [Option.some.injEq, Prod.mk.injEq] at hs; exact Or.inl hs.2.2.2.symm)
        | cases hs
  all_goals first
    | exact absurd (show (none : Option qx_S) = some (pc', lv', st', h') from hs) (by simp)
    | exact qx_hp_ast hs
    | exact qx_hp_nwa hs
    | exact qx_hp_new hs
    | exact qx_hp_pf hs
    | exact qx_hp_cpy hs
    | (simp only [qx_step, qx_g, qx_ldI, qx_ldL, qx_ldA, qx_stI, qx_stL, qx_stA, qx_ii, qx_ll, qx_li, qx_i1, qx_l1, qx_if, qx_to, qx_ald, qx_aln, qx_gf] at hs
       repeat' split at hs
       all_goals first
         | (cases hs; exact Or.inl rfl)
         | (simp only [Option.some.injEq, Prod.mk.injEq] at hs; exact Or.inl hs.2.2.2.symm)
         | cases hs)
theorem qx_mono {L : Nat} {xs : Nat → Int32} : ∀ (n d m pc : Nat) (lv : qx_L) (st : List Value) (h : List qx_E) (v : Option Value) (h' : List qx_E), qx_run L xs n d m pc lv st h = some (v, h') → h.length ≤ h'.length ∧ qx_sl h ≤ qx_sl h' := by
  intro n
  induction n with
  | zero => intro d m pc lv st h v h' e; cases e
  | succ n ih =>
    intro d m pc lv st h v h' e
    unfold qx_run at e
    split at e
    · split at e
      · rename_i hs
        have h1 := qx_hp_le (qx_step_hp hs)
        have h2 := ih _ _ _ _ _ _ _ _ e
        exact ⟨Nat.le_trans h1.1 h2.1, Nat.le_trans h1.2 h2.2⟩
      · split at e
        · cases e
          exact ⟨Nat.le_refl _, Nat.le_refl _⟩
        · split at e
          · split at e
            · split at e
              · rename_i h9
                have h1 := ih _ _ _ _ _ _ _ _ h9
                have h2 := ih _ _ _ _ _ _ _ _ e
                exact ⟨Nat.le_trans h1.1 h2.1, Nat.le_trans h1.2 h2.2⟩
              · cases e
            · cases e
          · cases e
    · cases e
def qx_room (d mc ms : Nat) : Room := { frames := d, cells := mc, slots := ms, locals := qx_KK * d }
def qx_w (y : Nat) : List Cond := Cond.code (qx_y y) (qx_code y) (qx_mL y) (qx_rt y) :: qx_gt
def qx_Pc (D : va_G) (cT : FieldType → ClassId) (aK : Nat → Option Nat) (base L : Nat) (xs : Nat → Int32) (as : List Value) (h : List qx_E) : Array Value → State → Prop := va_Pc (as.map (qx_cv aK base)) (fun U => U.heap.size = base + h.length ∧ va_P D qx_cs (qx_cw cT aK base h) U.heap ∧ va_K D qx_cs (qx_tys cT) U ∧ qx_KC aK base L xs U)
def qx_Qc (D : va_G) (cT : FieldType → ClassId) (aK : Nat → Option Nat) (base : Nat) (v : Option Value) (h' : List qx_E) : Array Value → State → Outcome → State → Prop := fun _ st oc t => oc = .returned (v.map (qx_cv aK base)) ∧ va_P D qx_cs (qx_cw cT aK base h') t.heap ∧ va_F (fun q => base ≤ q) st t
def qx_WP (l : Launch) (D : va_G) (cT : FieldType → ClassId) (aK : Nat → Option Nat) (base L : Nat) (xs : Nat → Int32) (n : Nat) : Prop :=
  ∀ (d m pc : Nat) (lv : qx_L) (st : List Value) (h : List qx_E) (v : Option Value) (h' : List qx_E), qx_run L xs n d m pc lv st h = some (v, h') →
  ∀ (p : Program) (e : Env) (R : Room) (s : State) (mI : MethodId) (args : Array Value) (below : List Frame) (meth : Method) (c : Code) (H : Heap) (locs : List Loc) (cells slots : Nat) (Q : State → Prop) (n0 sl0 : Nat) (ls : Array Slot),
  qx_C p s mI args meth c m D cT aK base L xs → d ≤ R.frames → qx_KK * d ≤ R.locals → h'.length ≤ n0 + R.cells → qx_sl h' ≤ sl0 + R.slots → lv_has ls (qx_mL m) (lv.map (qx_cq aK base)) → qx_R s D cT aK base n0 sl0 h H locs cells slots →
  (∀ (pc : Nat) (ls : Array Slot) (H : Heap) (locs : List Loc) (cells slots : Nat) (i : Instr) (len : Nat) (st : List Value), decode (qx_code m) pc = .ok (i, len) → qx_re m i len st = some v → qx_R s D cT aK base n0 sl0 h' H locs cells slots → W p l e R s mI args below meth c H locs cells slots Q (F0 mI pc ls (st.map (qx_cv aK base)))) →
  W p l e R s mI args below meth c H locs cells slots Q (F0 mI pc ls (st.map (qx_cv aK base)))
theorem qx_largs {aK : Nat → Option Nat} {base : Nat} : ∀ (vs : List Value) (i : Nat), lv_args i (vs.map (qx_cv aK base)) = (lv_args i vs).map (qx_cq aK base)
  | [], i => rfl
  | v :: vs, i => by
    show (i, qx_cv aK base v) :: lv_args (if (qx_cv aK base v).category = 2 then i + 2 else i + 1) (vs.map (qx_cv aK base)) = (i, qx_cv aK base v) :: (lv_args (if v.category = 2 then i + 2 else i + 1) vs).map (qx_cq aK base)
    rw [qx_cat, qx_largs vs]
theorem qx_sllen {aK : Nat → Option Nat} {base : Nat} : ∀ (vs : List Value), (lg_sl (vs.map (qx_cv aK base))).length = (lg_sl vs).length
  | [] => rfl
  | v :: vs => by
    have ih := qx_sllen (aK := aK) (base := base) vs
    simp only [lg_sl, List.map_cons, List.flatMap_cons, List.length_append, qx_cat] at ih ⊢
    rw [ih]
    by_cases hv : v.category = 2 <;> simp [hv]
theorem qx_goodw {y : Nat} (hy : y < qx_NM) : GoodIn qx_gt (qx_w y) := by
  intro w hw
  have hm : w ∈ qx_gt := by
    rcases List.mem_cons.mp hw with rfl | h
    · exact (qx_code_ok hy).1
    · exact h
  exact ⟨hm, good_of_word (List.mem_filter.mp hm).2⟩
theorem qx_re_inv {m len : Nat} {i : Instr} {st : List Value} {v : Option Value} (e : qx_re m i len st = some v) : len = 1 ∧ ((∃ x ty, i = .ireturn ∧ st = [.int x] ∧ v = some (.int x) ∧ qx_rt m = some ty ∧ narrow ty (.int x) = .int x) ∨ (∃ x, i = .lreturn ∧ st = [.long x] ∧ v = some (.long x) ∧ qx_rt m = some .long) ∨ (∃ x, i = .areturn ∧ st = [x] ∧ v = some x ∧ (x = .null ∨ (∃ a, x = .ref a) ∨ ∃ a, x = .retAddr a) ∧ qx_rr (qx_rt m) = true) ∨ (i = .return_ ∧ st = [] ∧ v = none ∧ qx_rt m = none)) := by
  unfold qx_re at e
  split at e
  · split at e
    · split at e
      · rename_i hrt hc
        cases e
        exact ⟨rfl, Or.inl ⟨_, _, rfl, rfl, rfl, hrt, hc.1⟩⟩
      · cases e
    · cases e
  · split at e
    · rename_i hrt
      cases e
      exact ⟨rfl, Or.inr (Or.inl ⟨_, rfl, rfl, rfl, hrt⟩)⟩
    · cases e
  · split at e
    · rename_i hrt
      cases e
      exact ⟨rfl, Or.inr (Or.inr (Or.inl ⟨_, rfl, rfl, rfl, Or.inr (Or.inl ⟨_, rfl⟩), hrt⟩))⟩
    · cases e
  · split at e
    · rename_i hrt
      cases e
      exact ⟨rfl, Or.inr (Or.inr (Or.inl ⟨_, rfl, rfl, rfl, Or.inr (Or.inr ⟨_, rfl⟩), hrt⟩))⟩
    · cases e
  · split at e
    · rename_i hrt
      cases e
      exact ⟨rfl, Or.inr (Or.inr (Or.inl ⟨_, rfl, rfl, rfl, Or.inl rfl, hrt⟩))⟩
    · cases e
  · split at e
    · rename_i hrt
      cases e
      exact ⟨rfl, Or.inr (Or.inr (Or.inr ⟨rfl, rfl, rfl, hrt⟩))⟩
    · cases e
  · cases e
theorem qx_KC.calling {aK : Nat → Option Nat} {base L : Nat} {xs : Nat → Int32} {U : State} (hk : qx_KC aK base L xs U) (g : JFrame) (mk : MethodId) (a : Array Value) : qx_KC aK base L xs (U.calling g mk a) :=
  hk.go (U := U.calling g mk a) (H := U.heap) (locs := []) va_S.rf rfl (State.WarmedH.refl U)
set_option maxHeartbeats 4000000 in
set_option maxRecDepth 100000 in
theorem qx_met {l : Launch} {D : va_G} {cT : FieldType → ClassId} {aK : Nat → Option Nat} {base L : Nat} {xs : Nat → Int32} {n : Nat} (hW : qx_WP l D cT aK base L xs n) {d y : Nat} (hy : y < qx_NM) {as : List Value} {h : List qx_E} {v : Option Value} {h' : List qx_E} (hrun : qx_run L xs n d y 0 (lv_args 0 as) [] h = some (v, h')) (hal : (lg_sl as).length ≤ qx_mL y) :
    Met l (qx_y y) (qx_w y) (qx_room d (h'.length - h.length) (qx_sl h' - qx_sl h)) (qx_Pc D cT aK base L xs as h) (qx_Qc D cT aK base v h') (h'.length - h.length) (qx_sl h' - qx_sl h) (fun q => base ≤ q) := by
  have hmono := qx_mono _ _ _ _ _ _ _ _ _ hrun
  refine va_MetF (cc := qx_code y) (maxL := qx_mL y) (ret := qx_rt y) (qx_code_ok hy).2.1 rfl ?_
  intro p e s mI args below meth c s₁ B hml hv
  obtain ⟨rfl, hsz, hP, hK, hKC⟩ := hv
  have hts0 := atoms_spec (ws := qx_w y) B.pre
  have hts : ∀ w ∈ qx_gt, w.before ((as.map (qx_cv aK base)).toArray) s = true := fun w hw => hts0 w (List.mem_cons_of_mem _ hw)
  have hown : s.vm.findClass (qx_y y).cls = some mI.cls := findClass_of_methodNamed B.named
  have hl := lv_entry (as.map (qx_cv aK base)) (n := qx_mL y) (by rw [qx_sllen]; exact hal)
  rw [qx_largs] at hl
  rw [lg_entry_eq]
  refine hW d y 0 (lv_args 0 as) [] h v h' hrun p e _ s mI _ below meth c s.heap [] 0 0 _ h.length (qx_sl h) _ ⟨B.exec, B.bytes, hml, B.returns, hown, hts, hK, B.notSynchronized, (name_of_methodNamed B.named B.method).1, hKC⟩ (Nat.le_refl d) (Nat.le_refl _) (by show h'.length ≤ h.length + (h'.length - h.length); omega) (by show qx_sl h' ≤ qx_sl h + (qx_sl h' - qx_sl h); omega) hl ⟨hP, va_S.rf, hsz, rfl, rfl⟩ ?_
  intro pc ls H locs cells slots i len st hd hre hR
  obtain ⟨hP2, hS2, -, hc2, hs2⟩ := hR
  have e1 : cells = h'.length - h.length := by omega
  have e2 : slots = qx_sl h' - qx_sl h := by omega
  subst e1; subst e2
  have hlocks := B.notSynchronized
  replace hre := qx_re_inv hre
  obtain ⟨rfl, hre⟩ := hre
  rcases hre with ⟨x, ty, rfl, rfl, rfl, hrt, hn⟩ | ⟨x, rfl, rfl, rfl, hrt⟩ | ⟨x, rfl, rfl, rfl, hx, hrt⟩ | ⟨rfl, rfl, rfl, hrt⟩
  · exact W.zret (v := x) (ty := ty) B.exec B.bytes (B.returns.trans hrt) hn (fun t ht _ => ⟨rfl, by rw [ht]; exact hP2, hS2.F ht⟩) hS2.2.2 hd hlocks
  · exact W.lret (v := x) B.exec B.bytes (B.returns.trans hrt) (fun t ht _ => ⟨rfl, by rw [ht]; exact hP2, hS2.F ht⟩) hS2.2.2 hd hlocks
  · obtain ⟨rt, hrt2, hrt3⟩ := qx_rr_ok hrt
    exact W.aret (v := qx_cv aK base x) (rt := rt) B.exec B.bytes (B.returns.trans hrt2) hrt3 (by rcases hx with rfl | ⟨a, rfl⟩ | ⟨a, rfl⟩; exact Or.inl rfl; exact Or.inr ⟨_, rfl⟩; exact va_rf_or (aK a)) (fun t ht _ => ⟨rfl, by rw [ht]; exact hP2, hS2.F ht⟩) hS2.2.2 hd hlocks
  · exact W.vret B.exec B.bytes (B.returns.trans hrt) (fun t ht _ => ⟨rfl, by rw [ht]; exact hP2, hS2.F ht⟩) hS2.2.2 hd hlocks
section QXR
variable {p : Program} {l : Launch} {e : Env} {R : Room} {s : State} {mI : MethodId} {args : Array Value} {below : List Frame} {meth : Method} {c : Code} {H : Heap} {locs : List Loc} {cells slots : Nat} {Q : State → Prop}
variable {D : va_G} {cT : FieldType → ClassId} {aK : Nat → Option Nat} {base n0 sl0 L : Nat} {xs : Nat → Int32} {m pc d : Nat} {ls : Array Slot}
theorem qx_after {v : Option Value} {h' : List qx_E} {mc ms : Nat} {st0 rest : List Value} {a : Array Value} (hr : va_Run p l e R s mI args below meth c H locs cells slots mc ms (F0 mI pc ls st0) rest (qx_Qc D cT aK base v h' a) (fun q => base ≤ q)) (hS : va_S (fun q => base ≤ q) s.heap H locs) (kk : ∀ (H1 : Heap) (locs1 : List Loc), va_P D qx_cs (qx_cw cT aK base h') H1 → va_S (fun q => base ≤ q) s.heap H1 locs1 → W p l e R s mI args below meth c H1 locs1 (cells + mc) (slots + ms) Q (F0 mI (pc + 3) ls ((v.map (qx_cv aK base)).toList ++ rest))) : W p l e R s mI args below meth c H locs cells slots Q (F0 mI pc ls st0) := by
  intro T hT X
  obtain ⟨v9, st₀, t, T', L', h0, X', hL, e1, e2, ⟨hv, hp, hz, hk⟩, st⟩ := hr T hT X
  cases hv
  rw [h0] at hz hk
  obtain ⟨t2, a1, b1⟩ := kk T'.heap (locs ++ L') (by rw [e1]; exact hp) ⟨Nat.le_trans hS.1 (by rw [e1]; exact hz), fun q h1 h2 => by rw [e1, hk q (Nat.lt_of_lt_of_le h1 hS.1) h2]; exact hS.2.1 q h1 h2, fun q hq => by
      rcases List.mem_append.mp hq with h | h
      · exact hS.2.2 q h
      · exact hL q h⟩ T' rfl X'
  exact ⟨t2, st t2 a1, b1⟩
theorem qx_blind {as : List Value} {h : List qx_E} : FrameBlind (qx_Pc D cT aK base L xs as h) := by
  intro a U g mk hq
  obtain ⟨q0, q1, q2, q3, q4⟩ := hq
  exact ⟨q0, q1, q2, va_K.moved (u := U) (U := U.calling g mk a) (Vm.Alike.refl U.vm) q3, q4.calling g mk a⟩
theorem qx_pre {as : List Value} {h : List qx_E} (hK : va_K D qx_cs (qx_tys cT) s) (hKC : qx_KC aK base L xs s) (hP : va_P D qx_cs (qx_cw cT aK base h) H) (hS : va_S (fun q => base ≤ q) s.heap H locs) (hz : H.size = base + h.length) : ∀ U : State, U.heap = H → s.WarmedH U.vm → qx_Pc D cT aK base L xs as h (as.map (qx_cv aK base)).toArray U := fun U hU hW => ⟨rfl, by rw [hU]; exact hz, by rw [hU]; exact hP, va_K.moved hW.alike hK, hKC.go hS hU hW⟩
end QXR
theorem qx_split {st : List Value} {n : Nat} {r : Value} (e : st[n]? = some r) : st = st.take n ++ r :: st.drop (n + 1) := by
  obtain ⟨h1, h2⟩ := List.getElem?_eq_some_iff.mp e
  rw [← h2, List.getElem_cons_drop h1, List.take_append_drop]
set_option maxHeartbeats 8000000 in
set_option maxRecDepth 100000 in
theorem qx_all (l : Launch) (D : va_G) (cT : FieldType → ClassId) (aK : Nat → Option Nat) (base L : Nat) (xs : Nat → Int32) : ∀ n, qx_WP l D cT aK base L xs n := by
  intro n
  induction n with
  | zero => intro d m pc lv st h v h' hrun; cases hrun
  | succ n ih =>
    intro d m pc lv st h v h' hrun p e R s mI args below meth c H locs cells slots Q n0 sl0 ls hC hRf hRl hRc hRs hl hR kret
    unfold qx_run at hrun
    split at hrun
    · rename_i i len hd
      split at hrun
      · rename_i pc1 lv1 st1 h1 hs
        have hm := qx_mono _ _ _ _ _ _ _ _ _ hrun
        exact qx_step_ok hC hRf hRl hd hs (Nat.le_trans hm.1 hRc) (Nat.le_trans hm.2 hRs) hl hR (fun ls' H' locs' cells' slots' hl' hR' => ih d m pc1 lv1 st1 h1 v h' hrun p e R s mI args below meth c H' locs' cells' slots' Q n0 sl0 ls' hC hRf hRl hRc hRs hl' hR' kret)
      · split at hrun
        · rename_i v1 hre
          cases hrun
          exact kret pc ls H locs cells slots i len st hd hre hR
        · split at hrun
          · rename_i y k hca
            split at hrun
            · rename_i hg0
              obtain ⟨d1, rfl⟩ : ∃ d1, d = d1 + 1 := ⟨d - 1, by omega⟩
              obtain ⟨-, hg⟩ := hg0
              split at hrun
              · rename_i v1 h1 hcall
                rw [Nat.add_sub_cancel] at hcall
                obtain ⟨hx, hb, hml, hr, hown, hts, hK, hlocks, hname, hKC⟩ := id hC
                obtain ⟨hP, hS, hz, hcl, hsz⟩ := id hR
                have hm1 := qx_mono _ _ _ _ _ _ _ _ _ hcall
                have hm2 := qx_mono _ _ _ _ _ _ _ _ _ hrun
                refine qx_sized (fun hz1 => ?_)
                have hzH : H.size = base + h.length := by
                  refine Nat.le_antisymm (by rw [hz] at hz1; omega) ?_
                  rcases Nat.eq_zero_or_pos h.length with h0 | h0
                  · have := hS.1
                    omega
                  · have hlt : h.length - 1 < h.length := by omega
                    have h3 := (hP _ _ (qx_cw_some (List.getElem?_eq_getElem hlt))).lt
                    dsimp only at h3
                    omega
                obtain ⟨hyN, hlen, hinv⟩ := qx_ca_ok hca
                subst hlen
                have hM := qx_met ih hyN hcall hg.2.2
                have hfit : cells + (h1.length - h.length) ≤ R.cells ∧ slots + (qx_sl h1 - qx_sl h) ≤ R.slots := ⟨by omega, by omega⟩
                have hRR : (qx_room d1 (h1.length - h.length) (qx_sl h1 - qx_sl h)).frames + 1 ≤ R.frames ∧ 8 + (qx_mL y + 11) + (qx_room d1 (h1.length - h.length) (qx_sl h1 - qx_sl h)).locals ≤ R.locals := by
                  have h4 := (qx_code_ok hyN).2.2.1
                  refine ⟨hRf, ?_⟩
                  show 8 + (qx_mL y + 11) + qx_KK * d1 ≤ R.locals
                  rw [Nat.mul_succ] at hRl
                  omega
                have hcat : ∀ g0 : JFrame, g0 = F0 mI pc ls (st.map (qx_cv aK base)) → 2 * g0.monitorRoom + (((st.drop k).map (qx_cv aK base)).map fun v => v.category).sum ≤ 8 := fun g0 hg0 => by
                  subst hg0
                  exact lv_room (by rw [qx_sum_cat]; exact hg.2.1)
                have hS5 : CallFix p mI c (qx_code m) (qx_mL m) s args qx_gt (qx_y m).cls := ⟨hx, hb, hml, hown, hts⟩
                have hini := hts _ (qx_code_ok hyN).2.2.2.1
                have hnot := (qx_code_ok hyN).2.2.2.2
                have hcont : ∀ (H1 : Heap) (locs1 : List Loc), va_P D qx_cs (qx_cw cT aK base h1) H1 → va_S (fun q => base ≤ q) s.heap H1 locs1 → W p l e R s mI args below meth c H1 locs1 (cells + (h1.length - h.length)) (slots + (qx_sl h1 - qx_sl h)) Q (F0 mI (pc + 3) ls ((v1.map (qx_cv aK base)).toList ++ (st.drop k).map (qx_cv aK base))) := fun H1 locs1 hP1 hS1 => by
                  have hcast : (v1.map (qx_cv aK base)).toList ++ (st.drop k).map (qx_cv aK base) = (v1.toList ++ st.drop k).map (qx_cv aK base) := by
                    cases v1 <;> simp
                  rw [hcast]
                  exact ih (d1 + 1) m (pc + 3) lv (v1.toList ++ st.drop k) h1 v h' hrun p e R s mI args below meth c H1 locs1 _ _ Q n0 sl0 ls hC hRf hRl hRc hRs hl ⟨hP1, hS1, hz, by omega, by omega⟩ kret
                rcases hinv with ⟨ix, nn, rfl, rfl, recv, hrecv, hob, hlk, hin, hsel, hnp⟩ | ⟨ix, rfl, hlk, hst, hnp⟩ | ⟨ix, nn, rfl, rfl, b, hrecv, hlk, hin, hnm, hrt, hnp⟩
                · -- virtual
                  have hst : st = st.take nn ++ recv :: st.drop (nn + 1) := qx_split hrecv
                  have htk : (st.take (nn + 1)).reverse = recv :: (st.take nn).reverse := by
                    obtain ⟨q1, q2⟩ := List.getElem?_eq_some_iff.mp hrecv
                    rw [List.take_succ_eq_append_getElem q1, q2]
                    simp
                  rw [htk] at hM
                  obtain ⟨b, hbv, hcellB⟩ : ∃ b : Nat, qx_cv aK base recv = .ref b ∧ ∃ cellB : Cell, H[b]? = some cellB ∧ cellB.vm.isStatics = false ∧ s.vm.findClass (qx_y y).cls = some cellB.cls := by
                    obtain ⟨ci, fs, ho, hci⟩ := hob
                    rcases qx_ob_inv ho with ⟨a, rfl, ha⟩ | ⟨a, rfl, ha⟩
                    · refine ⟨base + a, rfl, ?_⟩
                      obtain ⟨⟨C, T, N⟩, hcl2, -⟩ := hP a _ (qx_cw_some ha)
                      have h5 := va_recv hK hP hcl2 (qx_cw_some ha)
                      rw [qx_ow_ok hyN hci hcl2]
                      exact h5
                    · obtain ⟨a9, e9, ⟨cell, q1, q2, q3, q4⟩, -⟩ := hKC.2.1 a ci fs ha
                      refine ⟨a9, qx_cvk e9, ?_⟩
                      have hlt : a9 < s.heap.size := (Array.getElem?_eq_some_iff.mp q1).1
                      exact ⟨cell, by rw [hS.2.1 _ hlt q4]; exact q1, q2, by rw [qx_owk_ok hyN hci ha]; exact q3⟩
                  have hpre : PreV s H (qx_y y).cls b (qx_Pc D cT aK base L xs (recv :: (st.take nn).reverse) h) ((st.take nn).reverse.map (qx_cv aK base)) := ⟨qx_blind, hcellB, fun U hU hW => by
                    have h6 := qx_pre (as := recv :: (st.take nn).reverse) hK hKC hP hS hzH U hU hW
                    rw [List.map_cons, hbv] at h6
                    exact h6⟩
                  have hstk : st.map (qx_cv aK base) = ((st.take nn).reverse.map (qx_cv aK base)).reverse ++ .ref b :: (st.drop (nn + 1)).map (qx_cv aK base) := by
                    rw [← List.map_reverse, List.reverse_reverse, ← hbv, ← List.map_cons, ← List.map_append, ← hst]
                  have hlenA : ((st.take nn).reverse.map (qx_cv aK base)).length = nn := by
                    have q1 := (List.getElem?_eq_some_iff.mp hrecv).1
                    simp only [List.length_map, List.length_reverse, List.length_take]
                    omega
                  rcases hlk with hlk | hlk
                  · exact qx_after (va_runV hS5 hM ⟨callB_of nn hts (qx_goodw hyN) rfl rfl rfl hini (hts _ hlk) ⟨hnot.1, hnot.2, hnp⟩ hRR, hts _ hin, hts _ hsel⟩ hpre rfl hlenA hl.1 hstk (hcat _ rfl) hd hfit) hS hcont
                  · exact qx_after (va_runVN hS5 hM ⟨va_cnB nn hts (qx_goodw hyN) rfl rfl rfl (hKC.2.2.2.2.2.2.1 _ hlk) hini ⟨hnot.1, hnot.2, hnp⟩ hRR, hts _ hin, hts _ hsel⟩ hpre rfl hlenA hl.1 hstk (hcat _ rfl) hd hfit) hS hcont
                · -- static
                  have hpre : PreS s H (qx_Pc D cT aK base L xs (st.take k).reverse h) ((st.take k).reverse.map (qx_cv aK base)) := ⟨qx_blind, qx_pre hK hKC hP hS hzH⟩
                  have hstk : st.map (qx_cv aK base) = ((st.take k).reverse.map (qx_cv aK base)).reverse ++ (st.drop k).map (qx_cv aK base) := by
                    rw [← List.map_reverse, List.reverse_reverse, ← List.map_append, List.take_append_drop]
                  have hlenA : ((st.take k).reverse.map (qx_cv aK base)).length = k := by
                    have q1 := hg.1
                    simp only [List.length_map, List.length_reverse, List.length_take]
                    omega
                  rcases hlk with hlk | hlk
                  · exact qx_after (va_runS hS5 hM ⟨callB_of k hts (qx_goodw hyN) rfl rfl rfl hini (hts _ hlk) ⟨hnot.1, hnot.2, hnp⟩ hRR, hts _ hst⟩ hpre rfl hlenA hl.1 hstk (hcat _ rfl) hd hfit) hS hcont
                  · exact qx_after (va_runSN hS5 hM ⟨va_cnB k hts (qx_goodw hyN) rfl rfl rfl (hKC.2.2.2.2.2.2.1 _ hlk) hini ⟨hnot.1, hnot.2, hnp⟩ hRR, hts _ hst, trivial⟩ hpre rfl hlenA hl.1 hstk (hcat _ rfl) hd hfit) hS hcont
                · -- special
                  have hst : st = st.take nn ++ .ref b :: st.drop (nn + 1) := qx_split hrecv
                  have htk : (st.take (nn + 1)).reverse = .ref b :: (st.take nn).reverse := by
                    obtain ⟨q1, q2⟩ := List.getElem?_eq_some_iff.mp hrecv
                    rw [List.take_succ_eq_append_getElem q1, q2]
                    simp
                  rw [htk] at hM
                  have hpre : PreS s H (qx_Pc D cT aK base L xs (.ref b :: (st.take nn).reverse) h) (.ref (base + b) :: (st.take nn).reverse.map (qx_cv aK base)) := ⟨qx_blind, qx_pre (as := .ref b :: (st.take nn).reverse) hK hKC hP hS hzH⟩
                  have hstk : st.map (qx_cv aK base) = ((st.take nn).reverse.map (qx_cv aK base)).reverse ++ .ref (base + b) :: (st.drop (nn + 1)).map (qx_cv aK base) := by
                    have q9 : qx_cv aK base (.ref b) = .ref (base + b) := rfl
                    rw [← List.map_reverse, List.reverse_reverse, ← q9, ← List.map_cons, ← List.map_append, ← hst]
                  have hlenA : ((st.take nn).reverse.map (qx_cv aK base)).length = nn := by
                    have q1 := (List.getElem?_eq_some_iff.mp hrecv).1
                    simp only [List.length_map, List.length_reverse, List.length_take]
                    omega
                  have hwq : qx_w y = Cond.code (qx_y y) (qx_code y) (qx_mL y) none :: qx_gt := by unfold qx_w; rw [hrt]
                  rcases hlk with hlk | hlk
                  · exact qx_after (va_runI hS5 hM ⟨callB_of nn hts (qx_goodw hyN) hwq rfl rfl hini (hts _ hlk) ⟨hnot.1, hnot.2, hnp⟩ hRR, hnm, hts _ hin⟩ hpre rfl hlenA hl.1 hstk (hcat _ rfl) hd hfit) hS hcont
                  · exact qx_after (va_runIN hS5 hM ⟨va_cnB nn hts (qx_goodw hyN) hwq rfl rfl (hKC.2.2.2.2.2.2.1 _ hlk) hini ⟨hnot.1, hnot.2, hnp⟩ hRR, hnm, hts _ hin⟩ hpre rfl hlenA hl.1 hstk (hcat _ rfl) hd hfit) hS hcont
              · cases hrun
            · cases hrun
          · cases hrun
    · cases hrun
