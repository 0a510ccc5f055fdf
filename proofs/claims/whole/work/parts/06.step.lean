section QXS
variable {p : Program} {l : Launch} {e : Env} {R : Room} {s : State} {mI : MethodId} {args : Array Value} {below : List Frame} {meth : Method} {c : Code} {H : Heap} {locs : List Loc} {cells slots : Nat} {Q : State → Prop}
variable {D : va_G} {cT : FieldType → ClassId} {aK : Nat → Option Nat} {base n0 sl0 L : Nat} {xs : Nat → Int32} {m pc d : Nat} {lv : qx_L} {st : List Value} {h : List qx_E} {ls : Array Slot}
theorem qx_sized {g : JFrame} (k : H.size ≤ s.heap.size + cells → W p l e R s mI args below meth c H locs cells slots Q g) : W p l e R s mI args below meth c H locs cells slots Q g := fun T hT X => k (by have := X.heapSize; rw [hT] at this; exact this) T hT X
theorem qx_aload {k : Nat} {v : Value} {rest : List Value} (hx : p.tables.exec = Jvm.exec) (hb : c.code = qx_code m) (hd : (∃ n : Fin 4, (n : Nat) = k ∧ decode (qx_code m) pc = .ok (.aload_n n, 1) ∧ d = pc + 1) ∨ (decode (qx_code m) pc = .ok (.aload k, 2) ∧ d = pc + 2)) (hv : v = .null ∨ (∃ x, v = .ref x) ∨ ∃ x, v = .retAddr x) (hl : ls[k]? = some (.val (qx_cv aK base v))) (kk : W p l e R s mI args below meth c H locs cells slots Q (F0 mI d ls (qx_cv aK base v :: rest))) : W p l e R s mI args below meth c H locs cells slots Q (F0 mI pc ls rest) := by
  rcases hd with ⟨n, hn, hd, rfl⟩ | ⟨hd, rfl⟩
  · rcases hv with rfl | ⟨x, rfl⟩ | ⟨x, rfl⟩
    · exact lv_aload_nN hx hb hd hn hl kk
    · exact lv_aload_n hx hb hd hn hl kk
    · have e9 : qx_cv aK base (.retAddr x) = va_rf (aK x) := rfl
      rw [e9] at hl kk
      rcases va_rf_or (aK x) with e8 | ⟨a, e8⟩ <;> rw [e8] at hl kk
      · exact lv_aload_nN hx hb hd hn hl kk
      · exact lv_aload_n hx hb hd hn hl kk
  · rcases hv with rfl | ⟨x, rfl⟩ | ⟨x, rfl⟩
    · exact lv_aloadN hx hb hd hl kk
    · exact lv_aload hx hb hd hl kk
    · have e9 : qx_cv aK base (.retAddr x) = va_rf (aK x) := rfl
      rw [e9] at hl kk
      rcases va_rf_or (aK x) with e8 | ⟨a, e8⟩ <;> rw [e8] at hl kk
      · exact lv_aloadN hx hb hd hl kk
      · exact lv_aload hx hb hd hl kk
theorem qx_astore {k nL : Nat} {v : Value} {rest : List Value} (hx : p.tables.exec = Jvm.exec) (hb : c.code = qx_code m) (hd : (∃ n : Fin 4, (n : Nat) = k ∧ decode (qx_code m) pc = .ok (.astore_n n, 1) ∧ d = pc + 1) ∨ (decode (qx_code m) pc = .ok (.astore k, 2) ∧ d = pc + 2)) (hv : v = .null ∨ (∃ x, v = .ref x) ∨ ∃ x, v = .retAddr x) (hl : lv_has ls nL (lv.map (qx_cq aK base))) (hk : k < nL) (kk : ∀ ls', lv_has ls' nL ((qx_st1 lv k v).map (qx_cq aK base)) → W p l e R s mI args below meth c H locs cells slots Q (F0 mI d ls' rest)) : W p l e R s mI args below meth c H locs cells slots Q (F0 mI pc ls (qx_cv aK base v :: rest)) := by
  rcases hd with ⟨n, hn, hd, rfl⟩ | ⟨hd, rfl⟩
  · rcases hv with rfl | ⟨x, rfl⟩ | ⟨x, rfl⟩
    · exact lv_astore_nN hx hb hd hn hl hk rfl (fun ls' hl' => kk ls' (qx_has_sub hl' qx_st1_sub))
    · exact lv_astore_n hx hb hd hn hl hk rfl (fun ls' hl' => kk ls' (qx_has_sub hl' qx_st1_sub))
    · have e9 : qx_cv aK base (.retAddr x) = va_rf (aK x) := rfl
      have hs9 := @qx_st1_sub aK base lv k (.retAddr x)
      rw [e9] at hs9 ⊢
      rcases va_rf_or (aK x) with e8 | ⟨a, e8⟩ <;> rw [e8] at hs9 ⊢
      · exact lv_astore_nN hx hb hd hn hl hk rfl (fun ls' hl' => kk ls' (qx_has_sub hl' hs9))
      · exact lv_astore_n hx hb hd hn hl hk rfl (fun ls' hl' => kk ls' (qx_has_sub hl' hs9))
  · rcases hv with rfl | ⟨x, rfl⟩ | ⟨x, rfl⟩
    · exact lv_astoreN hx hb hd hl hk rfl (fun ls' hl' => kk ls' (qx_has_sub hl' qx_st1_sub))
    · exact lv_astore hx hb hd hl hk rfl (fun ls' hl' => kk ls' (qx_has_sub hl' qx_st1_sub))
    · have e9 : qx_cv aK base (.retAddr x) = va_rf (aK x) := rfl
      have hs9 := @qx_st1_sub aK base lv k (.retAddr x)
      rw [e9] at hs9 ⊢
      rcases va_rf_or (aK x) with e8 | ⟨a, e8⟩ <;> rw [e8] at hs9 ⊢
      · exact lv_astoreN hx hb hd hl hk rfl (fun ls' hl' => kk ls' (qx_has_sub hl' hs9))
      · exact lv_astore hx hb hd hl hk rfl (fun ls' hl' => kk ls' (qx_has_sub hl' hs9))
/-- a constant object's field through a link within the nest -/
theorem qx_getkN {o n dd own ref : String} {index q : Nat} {v : Value} {rest : List Value} (hx : p.tables.exec = Jvm.exec) (hb : c.code = qx_code m) (hE : va_OF o n dd v q (fun q => base ≤ q) s s.heap) (hS : va_S (fun q => base ≤ q) s.heap H locs) (hown : s.vm.findClass own = some mI.cls) (hlink : (Cond.fieldLinkNest own index ref n dd qx_host).before args s = true) (hsame : ∀ x, s.fieldFound? o n dd = some x → s.fieldFound? ref n dd = some x) (hdg : decode (qx_code m) pc = .ok (.getfield index, 3)) (kk : W p l e R s mI args below meth c H locs cells slots Q (F0 mI (pc + 3) ls (v :: rest))) : W p l e R s mI args below meth c H locs cells slots Q (F0 mI pc ls (.ref q :: rest)) := by
  obtain ⟨cf, k, i, f, cell, h1, h2, h3, h4, h5, h6⟩ := hE
  have hlt : q < s.heap.size := (Array.getElem?_eq_some_iff.mp h3).1
  exact va_Wgetf hx hb hown hlink (hsame _ h1) h2 (by rw [hS.2.1 q hlt h6]; exact h3) h4 h5 rfl rfl hdg kk
/-- where a new cell stands -/
theorem qx_fresh {q : Nat} {e0 : va_E} {H1 : Heap} (hP : va_P D qx_cs (qx_cw cT aK base h ++ [(q, e0)]) H1) (hD : va_D (fun q => base ≤ q) (qx_cw cT aK base h ++ [(q, e0)])) (hz : H1.size ≤ base + h.length + 1) : q = base + h.length := by
  have hlen : (qx_cw cT aK base h).length = h.length := by simp [qx_cw]
  have hq : (qx_cw cT aK base h ++ [(q, e0)])[h.length]? = some (q, e0) := by rw [List.getElem?_append_right (by omega)]; simp [hlen]
  have h1 := (hP _ _ hq).lt
  have h2 : base ≤ q := hD.2 _ _ hq
  dsimp only at h1
  by_cases hlt : q - base < h.length
  · have h3 : (qx_cw cT aK base h ++ [(q, e0)])[q - base]? = some (base + (q - base), qx_ce cT aK base h[q - base]) := by
      rw [List.getElem?_append_left (by omega), qx_cw_at, List.getElem?_eq_getElem hlt]; rfl
    have h4 := hD.1 _ _ _ _ hq h3 (by dsimp only; omega)
    omega
  · omega

set_option maxHeartbeats 8000000 in
set_option maxRecDepth 100000 in
theorem qx_step_ok (hC : qx_C p s mI args meth c m D cT aK base L xs) (hRf : d ≤ R.frames) (hRl : qx_KK * d ≤ R.locals) {i : Instr} {len pc' : Nat} {lv' : qx_L} {st' : List Value} {h' : List qx_E} (hd : decode (qx_code m) pc = .ok (i, len)) (hs : qx_step L xs d m pc i len lv st h = some (pc', lv', st', h')) (hc : h'.length ≤ n0 + R.cells) (hsl : qx_sl h' ≤ sl0 + R.slots) (hl : lv_has ls (qx_mL m) (lv.map (qx_cq aK base))) (hR : qx_R s D cT aK base n0 sl0 h H locs cells slots)
    (kk : ∀ (ls' : Array Slot) (H' : Heap) (locs' : List Loc) (cells' slots' : Nat), lv_has ls' (qx_mL m) (lv'.map (qx_cq aK base)) → qx_R s D cT aK base n0 sl0 h' H' locs' cells' slots' → W p l e R s mI args below meth c H' locs' cells' slots' Q (F0 mI pc' ls' (st'.map (qx_cv aK base)))) :
    W p l e R s mI args below meth c H locs cells slots Q (F0 mI pc ls (st.map (qx_cv aK base))) := by
  obtain ⟨hx, hb, hml, hr, hown, hts, hK, hlocks, hname, hKC⟩ := hC
  obtain ⟨hP, hS, hz, hcl, hsz⟩ := id hR
  cases i
  case iconst n =>
    replace hs := qx_g_inv hs
    obtain ⟨rfl, hs⟩ := hs
    cases hs
    exact lv_iconst hx hb hd rfl (kk _ _ _ _ _ hl hR)
  case bipush n =>
    replace hs := qx_g_inv hs
    obtain ⟨rfl, hs⟩ := hs
    cases hs
    exact lv_bipush hx hb hd rfl (kk _ _ _ _ _ hl hR)
  case sipush n =>
    replace hs := qx_g_inv hs
    obtain ⟨rfl, hs⟩ := hs
    cases hs
    exact lv_sipush hx hb hd rfl (kk _ _ _ _ _ hl hR)
  case lconst n =>
    replace hs := qx_g_inv hs
    obtain ⟨rfl, hs⟩ := hs
    cases hs
    exact lv_lconst hx hb hd rfl (kk _ _ _ _ _ hl hR)
  case aconst_null =>
    replace hs := qx_g_inv hs
    obtain ⟨rfl, hs⟩ := hs
    cases hs
    exact lv_null hx hb hd (kk _ _ _ _ _ hl hR)
  case ldc k =>
    replace hs := qx_g_inv hs
    obtain ⟨rfl, hs⟩ := hs
    split at hs
    · rename_i v hv
      cases hs
      rcases qx_ldc_ok hv with ⟨x, rfl, hw⟩ | ⟨y, tx, rfl, hm⟩
      · exact lv_ldc hx hb hown (hts _ hw) hd (kk _ _ _ _ _ hl hR)
      · obtain ⟨a9, e9, hz9⟩ := hKC.2.2.2.2.1 _ hm
        have hk9 := kk ls H locs cells slots hl hR
        rw [List.map_cons, qx_cvk e9] at hk9
        exact va_ldcS hx hb hown hz9 hd hk9
    · cases hs
  case ldc_w k =>
    replace hs := qx_g_inv hs
    obtain ⟨rfl, hs⟩ := hs
    split at hs
    · rename_i v hv
      cases hs
      exact lv_ldcw hx hb hown (hts _ (qx_ldcw_ok hv)) hd (kk _ _ _ _ _ hl hR)
    · cases hs
  case ldc2_w k =>
    replace hs := qx_g_inv hs
    obtain ⟨rfl, hs⟩ := hs
    split at hs
    · rename_i v hv
      cases hs
      exact lv_ldc2 hx hb hown (hts _ (qx_ldc2_ok hv)) hd (kk _ _ _ _ _ hl hR)
    · cases hs
  case iload_n k =>
    replace hs := qx_g_inv hs
    obtain ⟨rfl, hs⟩ := hs
    obtain ⟨x, hv, e1⟩ := qx_ldI_inv hs
    cases e1
    exact lv_iload_n hx hb hd rfl (qx_lk_at hv hl) (kk _ _ _ _ _ hl hR)
  case iload k =>
    replace hs := qx_g_inv hs
    obtain ⟨rfl, hs⟩ := hs
    obtain ⟨x, hv, e1⟩ := qx_ldI_inv hs
    cases e1
    exact lv_iload hx hb hd (qx_lk_at hv hl) (kk _ _ _ _ _ hl hR)
  case lload_n k =>
    replace hs := qx_g_inv hs
    obtain ⟨rfl, hs⟩ := hs
    obtain ⟨x, hv, e1⟩ := qx_ldL_inv hs
    cases e1
    exact lv_lload_n hx hb hd rfl (qx_lk_at hv hl) (kk _ _ _ _ _ hl hR)
  case lload k =>
    replace hs := qx_g_inv hs
    obtain ⟨rfl, hs⟩ := hs
    obtain ⟨x, hv, e1⟩ := qx_ldL_inv hs
    cases e1
    exact lv_lload hx hb hd (qx_lk_at hv hl) (kk _ _ _ _ _ hl hR)
  case aload_n k =>
    replace hs := qx_g_inv hs
    obtain ⟨rfl, hs⟩ := hs
    obtain ⟨v, hv, ht, e1⟩ := qx_ldA_inv hs
    cases e1
    exact qx_aload hx hb (Or.inl ⟨k, rfl, hd, rfl⟩) ht (qx_lk_at hv hl) (kk _ _ _ _ _ hl hR)
  case aload k =>
    replace hs := qx_g_inv hs
    obtain ⟨rfl, hs⟩ := hs
    obtain ⟨v, hv, ht, e1⟩ := qx_ldA_inv hs
    cases e1
    exact qx_aload hx hb (Or.inr ⟨hd, rfl⟩) ht (qx_lk_at hv hl) (kk _ _ _ _ _ hl hR)
  case istore_n k =>
    replace hs := qx_g_inv hs
    obtain ⟨rfl, hs⟩ := hs
    obtain ⟨x, r, rfl, hk, e1⟩ := qx_stI_inv hs
    cases e1
    exact lv_istore_n hx hb hd rfl hl hk rfl (fun ls' hl' => kk _ _ _ _ _ (qx_has_sub hl' qx_st1_sub) hR)
  case istore k =>
    replace hs := qx_g_inv hs
    obtain ⟨rfl, hs⟩ := hs
    obtain ⟨x, r, rfl, hk, e1⟩ := qx_stI_inv hs
    cases e1
    exact lv_istore hx hb hd hl hk rfl (fun ls' hl' => kk _ _ _ _ _ (qx_has_sub hl' qx_st1_sub) hR)
  case lstore_n k =>
    replace hs := qx_g_inv hs
    obtain ⟨rfl, hs⟩ := hs
    obtain ⟨x, r, rfl, hk, e1⟩ := qx_stL_inv hs
    cases e1
    exact lv_lstore_n hx hb hd rfl hl hk rfl (fun ls' hl' => kk _ _ _ _ _ (qx_has_sub hl' qx_st2_sub) hR)
  case lstore k =>
    replace hs := qx_g_inv hs
    obtain ⟨rfl, hs⟩ := hs
    obtain ⟨x, r, rfl, hk, e1⟩ := qx_stL_inv hs
    cases e1
    exact lv_lstore hx hb hd hl hk rfl (fun ls' hl' => kk _ _ _ _ _ (qx_has_sub hl' qx_st2_sub) hR)
  case astore_n k =>
    replace hs := qx_g_inv hs
    obtain ⟨rfl, hs⟩ := hs
    obtain ⟨v, r, rfl, hk, ht, e1⟩ := qx_stA_inv hs
    cases e1
    exact qx_astore hx hb (Or.inl ⟨k, rfl, hd, rfl⟩) ht hl hk (fun ls' hl' => kk _ _ _ _ _ hl' hR)
  case astore k =>
    replace hs := qx_g_inv hs
    obtain ⟨rfl, hs⟩ := hs
    obtain ⟨v, r, rfl, hk, ht, e1⟩ := qx_stA_inv hs
    cases e1
    exact qx_astore hx hb (Or.inr ⟨hd, rfl⟩) ht hl hk (fun ls' hl' => kk _ _ _ _ _ hl' hR)
  case iinc k n =>
    replace hs := qx_g_inv hs
    obtain ⟨rfl, hs⟩ := hs
    split at hs
    · rename_i x hv
      split at hs
      · rename_i hk
        cases hs
        obtain ⟨q, hq⟩ := List.getElem?_of_mem (List.mem_map.mpr ⟨(k, .int x), qx_lk_mem hv, rfl⟩ : (k, Value.int x) ∈ lv.map (qx_cq aK base))
        exact lv_iinc hx hb hd hl hq rfl hk rfl (fun ls' hl' => kk _ _ _ _ _ (qx_has_sub hl' qx_st1_sub) hR)
      · cases hs
    · cases hs
  case iadd =>
    replace hs := qx_g_inv hs
    obtain ⟨rfl, hs⟩ := hs
    obtain ⟨x, y, r, rfl, e1⟩ := qx_ii_inv hs
    cases e1
    exact lv_iadd hx hb hd (kk _ _ _ _ _ hl hR)
  case isub =>
    replace hs := qx_g_inv hs
    obtain ⟨rfl, hs⟩ := hs
    obtain ⟨x, y, r, rfl, e1⟩ := qx_ii_inv hs
    cases e1
    exact lv_isub hx hb hd (kk _ _ _ _ _ hl hR)
  case imul =>
    replace hs := qx_g_inv hs
    obtain ⟨rfl, hs⟩ := hs
    obtain ⟨x, y, r, rfl, e1⟩ := qx_ii_inv hs
    cases e1
    exact lv_imul hx hb hd (kk _ _ _ _ _ hl hR)
  case iand =>
    replace hs := qx_g_inv hs
    obtain ⟨rfl, hs⟩ := hs
    obtain ⟨x, y, r, rfl, e1⟩ := qx_ii_inv hs
    cases e1
    exact lv_iand hx hb hd (kk _ _ _ _ _ hl hR)
  case ior =>
    replace hs := qx_g_inv hs
    obtain ⟨rfl, hs⟩ := hs
    obtain ⟨x, y, r, rfl, e1⟩ := qx_ii_inv hs
    cases e1
    exact lv_ior hx hb hd (kk _ _ _ _ _ hl hR)
  case ixor =>
    replace hs := qx_g_inv hs
    obtain ⟨rfl, hs⟩ := hs
    obtain ⟨x, y, r, rfl, e1⟩ := qx_ii_inv hs
    cases e1
    exact lv_ixor hx hb hd (kk _ _ _ _ _ hl hR)
  case ishl =>
    replace hs := qx_g_inv hs
    obtain ⟨rfl, hs⟩ := hs
    obtain ⟨x, y, r, rfl, e1⟩ := qx_ii_inv hs
    cases e1
    exact lv_ishl hx hb hd (kk _ _ _ _ _ hl hR)
  case ishr =>
    replace hs := qx_g_inv hs
    obtain ⟨rfl, hs⟩ := hs
    obtain ⟨x, y, r, rfl, e1⟩ := qx_ii_inv hs
    cases e1
    exact lv_ishr hx hb hd (kk _ _ _ _ _ hl hR)
  case iushr =>
    replace hs := qx_g_inv hs
    obtain ⟨rfl, hs⟩ := hs
    obtain ⟨x, y, r, rfl, e1⟩ := qx_ii_inv hs
    cases e1
    exact lv_iushr hx hb hd rfl (kk _ _ _ _ _ hl hR)
  case irem =>
    replace hs := qx_g_inv hs
    obtain ⟨rfl, hs⟩ := hs
    split at hs
    · split at hs
      · cases hs
      · rename_i hne
        cases hs
        exact lv_irem hx hb hd hne (kk _ _ _ _ _ hl hR)
    · cases hs
  case ineg =>
    replace hs := qx_g_inv hs
    obtain ⟨rfl, hs⟩ := hs
    obtain ⟨x, r, rfl, e1⟩ := qx_i1_inv hs
    cases e1
    exact lv_ineg hx hb hd (kk _ _ _ _ _ hl hR)
  case ladd =>
    replace hs := qx_g_inv hs
    obtain ⟨rfl, hs⟩ := hs
    obtain ⟨x, y, r, rfl, e1⟩ := qx_ll_inv hs
    cases e1
    exact lv_ladd hx hb hd (kk _ _ _ _ _ hl hR)
  case lsub =>
    replace hs := qx_g_inv hs
    obtain ⟨rfl, hs⟩ := hs
    obtain ⟨x, y, r, rfl, e1⟩ := qx_ll_inv hs
    cases e1
    exact lv_lsub hx hb hd (kk _ _ _ _ _ hl hR)
  case lmul =>
    replace hs := qx_g_inv hs
    obtain ⟨rfl, hs⟩ := hs
    obtain ⟨x, y, r, rfl, e1⟩ := qx_ll_inv hs
    cases e1
    exact lv_lmul hx hb hd (kk _ _ _ _ _ hl hR)
  case land =>
    replace hs := qx_g_inv hs
    obtain ⟨rfl, hs⟩ := hs
    obtain ⟨x, y, r, rfl, e1⟩ := qx_ll_inv hs
    cases e1
    exact lv_land hx hb hd (kk _ _ _ _ _ hl hR)
  case lor =>
    replace hs := qx_g_inv hs
    obtain ⟨rfl, hs⟩ := hs
    obtain ⟨x, y, r, rfl, e1⟩ := qx_ll_inv hs
    cases e1
    exact lv_lor hx hb hd (kk _ _ _ _ _ hl hR)
  case lshl =>
    replace hs := qx_g_inv hs
    obtain ⟨rfl, hs⟩ := hs
    obtain ⟨x, y, r, rfl, e1⟩ := qx_li_inv hs
    cases e1
    exact lv_lshl hx hb hd rfl (kk _ _ _ _ _ hl hR)
  case lshr =>
    replace hs := qx_g_inv hs
    obtain ⟨rfl, hs⟩ := hs
    obtain ⟨x, y, r, rfl, e1⟩ := qx_li_inv hs
    cases e1
    exact lv_lshr hx hb hd rfl (kk _ _ _ _ _ hl hR)
  case lcmp =>
    replace hs := qx_g_inv hs
    obtain ⟨rfl, hs⟩ := hs
    split at hs
    · cases hs
      exact W.lcmp hx hb hd (kk _ _ _ _ _ hl hR)
    · cases hs
  case i2l =>
    replace hs := qx_g_inv hs
    obtain ⟨rfl, hs⟩ := hs
    obtain ⟨x, r, rfl, e1⟩ := qx_i1_inv hs
    cases e1
    exact lv_i2l hx hb hd rfl (kk _ _ _ _ _ hl hR)
  case i2b =>
    replace hs := qx_g_inv hs
    obtain ⟨rfl, hs⟩ := hs
    obtain ⟨x, r, rfl, e1⟩ := qx_i1_inv hs
    cases e1
    exact lv_i2b hx hb hd rfl (kk _ _ _ _ _ hl hR)
  case i2c =>
    replace hs := qx_g_inv hs
    obtain ⟨rfl, hs⟩ := hs
    obtain ⟨x, r, rfl, e1⟩ := qx_i1_inv hs
    cases e1
    exact lv_i2c hx hb hd rfl (kk _ _ _ _ _ hl hR)
  case l2i =>
    replace hs := qx_g_inv hs
    obtain ⟨rfl, hs⟩ := hs
    obtain ⟨x, r, rfl, e1⟩ := qx_l1_inv hs
    cases e1
    exact lv_l2i hx hb hd rfl (kk _ _ _ _ _ hl hR)
  case dup =>
    replace hs := qx_g_inv hs
    obtain ⟨rfl, hs⟩ := hs
    split at hs
    · split at hs
      · rename_i v r hv
        cases hs
        exact lv_dup hx hb hd ((qx_cat v).trans hv) (kk _ _ _ _ _ hl hR)
      · cases hs
    · cases hs
  case dup_x1 =>
    replace hs := qx_g_inv hs
    obtain ⟨rfl, hs⟩ := hs
    split at hs
    · split at hs
      · rename_i v w r hv
        cases hs
        exact lv_dup_x1 hx hb hd ((qx_cat v).trans hv.1) ((qx_cat w).trans hv.2) (kk _ _ _ _ _ hl hR)
      · cases hs
    · cases hs
  case pop =>
    replace hs := qx_g_inv hs
    obtain ⟨rfl, hs⟩ := hs
    split at hs
    · split at hs
      · rename_i v r hv
        cases hs
        exact lv_pop hx hb hd ((qx_cat v).trans hv) (kk _ _ _ _ _ hl hR)
      · cases hs
    · cases hs
  case pop2 =>
    replace hs := qx_g_inv hs
    obtain ⟨rfl, hs⟩ := hs
    split at hs
    · split at hs
      · rename_i v r hv
        cases hs
        exact lv_pop2_2 hx hb hd ((qx_cat v).trans hv) (kk _ _ _ _ _ hl hR)
      · cases hs
    · cases hs
  case ifCond cd off =>
    replace hs := qx_g_inv hs
    obtain ⟨rfl, hs⟩ := hs
    split at hs
    · cases cd
      · obtain ⟨t, ht, e1⟩ := qx_if_inv hs
        cases e1
        refine lv_if_eq (tgt := t) hx hb hd ht (fun cc => ?_) (fun cc => ?_)
        · have hk := kk ls H locs cells slots hl hR
          rw [if_pos (decide_eq_true cc)] at hk
          exact hk
        · have hk := kk ls H locs cells slots hl hR
          rw [if_neg (by simp [cc])] at hk
          exact hk
      · obtain ⟨t, ht, e1⟩ := qx_if_inv hs
        cases e1
        refine lv_if_ne (tgt := t) hx hb hd ht (fun cc => ?_) (fun cc => ?_)
        · have hk := kk ls H locs cells slots hl hR
          rw [if_pos (decide_eq_true cc)] at hk
          exact hk
        · have hk := kk ls H locs cells slots hl hR
          rw [if_neg (by simp [cc])] at hk
          exact hk
      · obtain ⟨t, ht, e1⟩ := qx_if_inv hs
        cases e1
        refine lv_if_lt (tgt := t) hx hb hd ht (fun cc => ?_) (fun cc => ?_)
        · have hk := kk ls H locs cells slots hl hR
          rw [if_pos (decide_eq_true cc)] at hk
          exact hk
        · have hk := kk ls H locs cells slots hl hR
          rw [if_neg (by simp [cc])] at hk
          exact hk
      · obtain ⟨t, ht, e1⟩ := qx_if_inv hs
        cases e1
        refine lv_if_ge (tgt := t) hx hb hd ht (fun cc => ?_) (fun cc => ?_)
        · have hk := kk ls H locs cells slots hl hR
          rw [if_pos (decide_eq_true cc)] at hk
          exact hk
        · have hk := kk ls H locs cells slots hl hR
          rw [if_neg (by simp [cc])] at hk
          exact hk
      · obtain ⟨t, ht, e1⟩ := qx_if_inv hs
        cases e1
        refine lv_if_gt (tgt := t) hx hb hd ht (fun cc => ?_) (fun cc => ?_)
        · have hk := kk ls H locs cells slots hl hR
          rw [if_pos (decide_eq_true cc)] at hk
          exact hk
        · have hk := kk ls H locs cells slots hl hR
          rw [if_neg (by simp [cc])] at hk
          exact hk
      · obtain ⟨t, ht, e1⟩ := qx_if_inv hs
        cases e1
        refine lv_if_le (tgt := t) hx hb hd ht (fun cc => ?_) (fun cc => ?_)
        · have hk := kk ls H locs cells slots hl hR
          rw [if_pos (decide_eq_true cc)] at hk
          exact hk
        · have hk := kk ls H locs cells slots hl hR
          rw [if_neg (by simp [cc])] at hk
          exact hk
    · cases hs
  case if_icmp cd off =>
    replace hs := qx_g_inv hs
    obtain ⟨rfl, hs⟩ := hs
    split at hs
    · cases cd
      · obtain ⟨t, ht, e1⟩ := qx_if_inv hs
        cases e1
        refine lv_icmp_eq (tgt := t) hx hb hd ht (fun cc => ?_) (fun cc => ?_)
        · have hk := kk ls H locs cells slots hl hR
          rw [if_pos (decide_eq_true cc)] at hk
          exact hk
        · have hk := kk ls H locs cells slots hl hR
          rw [if_neg (by simp [cc])] at hk
          exact hk
      · obtain ⟨t, ht, e1⟩ := qx_if_inv hs
        cases e1
        refine lv_icmp_ne (tgt := t) hx hb hd ht (fun cc => ?_) (fun cc => ?_)
        · have hk := kk ls H locs cells slots hl hR
          rw [if_pos (decide_eq_true cc)] at hk
          exact hk
        · have hk := kk ls H locs cells slots hl hR
          rw [if_neg (by simp [cc])] at hk
          exact hk
      · obtain ⟨t, ht, e1⟩ := qx_if_inv hs
        cases e1
        refine lv_icmp_lt (tgt := t) hx hb hd ht (fun cc => ?_) (fun cc => ?_)
        · have hk := kk ls H locs cells slots hl hR
          rw [if_pos (decide_eq_true cc)] at hk
          exact hk
        · have hk := kk ls H locs cells slots hl hR
          rw [if_neg (by simp [cc])] at hk
          exact hk
      · obtain ⟨t, ht, e1⟩ := qx_if_inv hs
        cases e1
        refine lv_icmp_ge (tgt := t) hx hb hd ht (fun cc => ?_) (fun cc => ?_)
        · have hk := kk ls H locs cells slots hl hR
          rw [if_pos (decide_eq_true cc)] at hk
          exact hk
        · have hk := kk ls H locs cells slots hl hR
          rw [if_neg (by simp [cc])] at hk
          exact hk
      · obtain ⟨t, ht, e1⟩ := qx_if_inv hs
        cases e1
        refine lv_icmp_gt (tgt := t) hx hb hd ht (fun cc => ?_) (fun cc => ?_)
        · have hk := kk ls H locs cells slots hl hR
          rw [if_pos (decide_eq_true cc)] at hk
          exact hk
        · have hk := kk ls H locs cells slots hl hR
          rw [if_neg (by simp [cc])] at hk
          exact hk
      · obtain ⟨t, ht, e1⟩ := qx_if_inv hs
        cases e1
        refine lv_icmp_le (tgt := t) hx hb hd ht (fun cc => ?_) (fun cc => ?_)
        · have hk := kk ls H locs cells slots hl hR
          rw [if_pos (decide_eq_true cc)] at hk
          exact hk
        · have hk := kk ls H locs cells slots hl hR
          rw [if_neg (by simp [cc])] at hk
          exact hk
    · cases hs
  case ifnull off =>
    replace hs := qx_g_inv hs
    obtain ⟨rfl, hs⟩ := hs
    split at hs
    · obtain ⟨t, ht, e1⟩ := qx_to_inv hs
      cases e1
      exact lv_ifnullN hx hb hd ht (kk _ _ _ _ _ hl hR)
    · cases hs
      exact lv_ifnull hx hb hd (kk _ _ _ _ _ hl hR)
    · split at hs
      · rename_i hen
        cases hs
        obtain ⟨a9, e9⟩ := hKC.2.2.2.2.2.2.2.1 _ hen
        rw [List.map_cons, qx_cvk e9]
        exact lv_ifnull hx hb hd (kk _ _ _ _ _ hl hR)
      · cases hs
    · cases hs
  case ifnonnull off =>
    replace hs := qx_g_inv hs
    obtain ⟨rfl, hs⟩ := hs
    split at hs
    · cases hs
      exact lv_ifnonnullN hx hb hd (kk _ _ _ _ _ hl hR)
    · obtain ⟨t, ht, e1⟩ := qx_to_inv hs
      cases e1
      exact lv_ifnonnull hx hb hd ht (kk _ _ _ _ _ hl hR)
    · split at hs
      · rename_i hen
        obtain ⟨t, ht, e1⟩ := qx_to_inv hs
        cases e1
        obtain ⟨a9, e9⟩ := hKC.2.2.2.2.2.2.2.1 _ hen
        rw [List.map_cons, qx_cvk e9]
        exact lv_ifnonnull hx hb hd ht (kk _ _ _ _ _ hl hR)
      · cases hs
    · cases hs
  case if_acmp cd off =>
    cases cd
    · exact absurd hs (by simp [qx_step])
    · replace hs := qx_g_inv hs
      obtain ⟨rfl, hs⟩ := hs
      split at hs
      · rename_i y x r
        split at hs
        · rename_i hxy
          obtain ⟨t, ht, e1⟩ := qx_if_inv hs
          cases e1
          refine lv_acmp_ne (rx := aK x) (ry := aK y) (tgt := t) hx hb hd ht (fun cc => ?_) (fun cc => ?_)
          · have hk := kk ls H locs cells slots hl hR
            rw [if_pos (by simp only [decide_eq_true_eq]; exact fun hh => cc (by rw [hh]))] at hk
            exact hk
          · have hk := kk ls H locs cells slots hl hR
            rw [if_neg (by simp [hKC.2.2.2.2.2.2.2.2 x y hxy.1 hxy.2 cc])] at hk
            exact hk
        · cases hs
      · rename_i y r
        split at hs
        · rename_i hen
          obtain ⟨t, ht, e1⟩ := qx_to_inv hs
          cases e1
          obtain ⟨a9, e9⟩ := hKC.2.2.2.2.2.2.2.1 _ hen
          exact lv_acmp_ne (rx := none) (ry := aK y) hx hb hd ht (fun _ => kk _ _ _ _ _ hl hR) (fun hh => by rw [e9] at hh; cases hh)
        · cases hs
      · cases hs
  case goto off =>
    replace hs := qx_g_inv hs
    obtain ⟨rfl, hs⟩ := hs
    obtain ⟨t, ht, e1⟩ := qx_to_inv hs
    cases e1
    exact lv_goto hx hb hd ht (kk _ _ _ _ _ hl hR)
  case tableswitch dflt lo hi offs =>
    change (match st with
      | .int x :: r => if x.toInt < lo ∨ hi < x.toInt then qx_to pc dflt lv r h else (match offs[(x.toInt - lo).toNat]? with
        | some off => qx_to pc off lv r h
        | none => none)
      | _ => none) = _ at hs
    split at hs
    · split at hs
      · rename_i hcnd
        obtain ⟨t, ht, e1⟩ := qx_to_inv hs
        cases e1
        exact lv_tableOut hx hb hd hcnd ht (kk _ _ _ _ _ hl hR)
      · rename_i hcnd
        split at hs
        · rename_i off ho
          obtain ⟨t, ht, e1⟩ := qx_to_inv hs
          cases e1
          exact lv_tableIn hx hb hd (fun a => hcnd (Or.inl a)) (fun a => hcnd (Or.inr a)) ho ht (kk _ _ _ _ _ hl hR)
        · cases hs
    · cases hs
  case lookupswitch dflt ps =>
    change (match st with
      | .int x :: r => if (ps.toList.zip (ps.toList.drop 1)).all (fun (a, next) => a.1 < next.1) = true then qx_to pc (Op.lookupswitch.offset ps.toList dflt x.toInt) lv r h else none
      | _ => none) = _ at hs
    split at hs
    · split at hs
      · rename_i hcnd
        obtain ⟨t, ht, e1⟩ := qx_to_inv hs
        cases e1
        exact lv_lookup hx hb hd hcnd rfl ht (kk _ _ _ _ _ hl hR)
      · cases hs
    · cases hs
  case iaload =>
    replace hs := qx_g_inv hs
    obtain ⟨rfl, hs⟩ := hs
    obtain ⟨j, r, hh⟩ := qx_ald_inv hs
    rcases hh with ⟨hj, ety, rfl, e1⟩ | ⟨k, n, f, rfl, hk, hj, e1⟩ | ⟨k, n, f, rfl, hk, hj, e1⟩
    · cases e1
      obtain ⟨a9, e9, hT9⟩ := hKC.1
      rw [List.map_cons, List.map_cons, qx_cvk e9]
      exact va_ti hx hb hT9 hS hj rfl hd (kk _ _ _ _ _ hl hR)
    · cases e1
      exact va_iald hx hb hK hP k 0 (qx_cw_some hk) rfl hj hd (kk _ _ _ _ _ hl hR)
    · cases e1
      obtain ⟨a9, e9, hT9⟩ := hKC.2.2.1 k _ n f hk
      rw [List.map_cons, List.map_cons, qx_cvk e9]
      exact va_ti hx hb hT9 hS hj rfl hd (kk _ _ _ _ _ hl hR)
  case baload =>
    replace hs := qx_g_inv hs
    obtain ⟨rfl, hs⟩ := hs
    obtain ⟨j, r, hh⟩ := qx_ald_inv hs
    rcases hh with ⟨hj, ety, rfl, e1⟩ | ⟨k, n, f, rfl, hk, hj, e1⟩ | ⟨k, n, f, rfl, hk, hj, e1⟩
    · cases ety
    · cases e1
      exact va_bald hx hb hK hP k 1 (qx_cw_some hk) rfl hj hd (kk _ _ _ _ _ hl hR)
    · cases e1
      obtain ⟨a9, e9, hT9⟩ := hKC.2.2.1 k _ n f hk
      rw [List.map_cons, List.map_cons, qx_cvk e9]
      exact va_tb hx hb hT9 hS hj rfl hd (kk _ _ _ _ _ hl hR)
  case iastore =>
    replace hs := qx_g_inv hs
    obtain ⟨rfl, hs⟩ := hs
    obtain ⟨x, j, k, r, n, f, rfl, hk, hj, e1⟩ := qx_ast_inv hs
    cases e1
    refine va_iast hx hb hK hP qx_cw_D hS k 0 (qx_cw_some hk) rfl hj hd (fun H1 locs1 hP1 _ hS1 => ?_)
    refine kk _ _ _ _ _ hl ⟨?_, hS1, hz, by rw [List.length_set]; exact hcl, hsz.trans (qx_sl_set hk (by rfl)).symm⟩
    rw [← qx_cw_set]
    exact hP1
  case bastore =>
    replace hs := qx_g_inv hs
    obtain ⟨rfl, hs⟩ := hs
    obtain ⟨x, j, k, r, n, f, rfl, hk, hj, e1⟩ := qx_ast_inv hs
    cases e1
    refine va_bast hx hb hK hP qx_cw_D hS k 1 (qx_cw_some hk) rfl hj hd (fun H1 locs1 hP1 _ hS1 => ?_)
    refine kk _ _ _ _ _ hl ⟨?_, hS1, hz, by rw [List.length_set]; exact hcl, hsz.trans (qx_sl_set hk (by rfl)).symm⟩
    rw [← qx_cw_set]
    exact hP1
  case aaload =>
    replace hs := qx_g_inv hs
    obtain ⟨rfl, hs⟩ := hs
    split at hs
    · split at hs
      · split at hs
        · rename_i hka hj
          cases hs
          obtain ⟨a9, e9, hT9⟩ := hKC.2.2.1 _ _ _ _ hka
          rw [List.map_cons, List.map_cons, qx_cvk e9]
          exact vb_tq hx hb hT9 hS (qx_in_inv hj) rfl hd (kk _ _ _ _ _ hl hR)
        · cases hs
      · cases hs
    · cases hs
  case arraylength =>
    replace hs := qx_g_inv hs
    obtain ⟨rfl, hs⟩ := hs
    obtain ⟨r, hh⟩ := qx_aln_inv hs
    rcases hh with ⟨rfl, e1⟩ | ⟨k, t, n, f, rfl, hk, hk0, e1⟩ | ⟨k, t, n, f, rfl, hk, e1⟩
    · cases e1
      obtain ⟨a9, e9, hT9⟩ := hKC.1
      rw [List.map_cons, qx_cvk e9]
      exact va_tlen hx hb hT9 hS rfl hd (kk _ _ _ _ _ hl hR)
    · cases e1
      obtain ⟨t0, ht0⟩ : ∃ t0 : Nat, (qx_tys cT)[t0]? = some (cT t, t) := by
        rcases hk0 with rfl | rfl
        · exact ⟨0, rfl⟩
        · exact ⟨1, rfl⟩
      exact va_alen hx hb hK hP k t0 (qx_cw_some hk) ht0 rfl hd (kk _ _ _ _ _ hl hR)
    · cases e1
      obtain ⟨a9, e9, hT9⟩ := hKC.2.2.1 k t n f hk
      rw [List.map_cons, qx_cvk e9]
      exact va_tlen hx hb hT9 hS rfl hd (kk _ _ _ _ _ hl hR)
  case newarray at_ =>
    replace hs := qx_g_inv hs
    obtain ⟨rfl, hs⟩ := hs
    obtain ⟨n, r, rfl, hty, hn, hb4, e1⟩ := qx_nwa_inv hs
    cases e1
    simp only [List.length_append, List.length_cons, List.length_nil] at hc
    rw [qx_sl_push] at hsl
    have hsE : ∀ f : Nat → Int32, qx_slE (.inl (newarray.typeOf at_, n.toNatClampNeg, f)) = n.toNatClampNeg := fun _ => rfl
    rw [hsE] at hsl
    refine va_newa (atype := at_) hx hb (hts _ (qx_arr_ok hty)) rfl hK hP qx_cw_D hS (fun q hq => by rw [hz] at hq; exact Nat.le_trans (Nat.le_add_right _ _) hq) (a0 := (n.toNatClampNeg, .inl (fun _ => 0))) (fun cA => by rcases hty with rfl | rfl <;> rfl) hn rfl (by rcases hty with rfl | rfl <;> simp only [newarray.typeOf, componentBytes] <;> omega) (by omega) (by omega) hd (fun q cA H1 hK1 hP1 hD1 hS1 => ?_)
    refine qx_sized (fun hz1 => ?_)
    have hq := qx_fresh hP1 hD1 (by rw [hz] at hz1; omega)
    subst hq
    have hcA : cA = cT (newarray.typeOf at_) := by
      have h3 := (hK1.2 2 _ rfl).2
      rcases hty with rfl | rfl
      · exact Option.some.inj (h3.symm.trans (hK1.2 0 _ rfl).2)
      · exact Option.some.inj (h3.symm.trans (hK1.2 1 _ rfl).2)
    subst hcA
    refine kk _ _ _ _ _ hl ⟨?_, hS1, hz, by simp only [List.length_append, List.length_cons, List.length_nil]; omega, by rw [qx_sl_push, hsE]; omega⟩
    rw [← qx_cw_push]
    exact hP1
  case new k =>
    replace hs := qx_g_inv hs
    obtain ⟨rfl, hs⟩ := hs
    split at hs
    · rename_i ci fs hnw
      cases hs
      obtain ⟨C, T, hcl2, hin, hty, hlink, hins, hini, hfs, hmap⟩ := qx_new_ok hnw
      simp only [List.length_append, List.length_cons, List.length_nil] at hc
      rw [qx_sl_push] at hsl
      have hsE : qx_slE (.inr (ci, fs)) = qx_cN ci := rfl
      rw [hsE] at hsl
      refine va_new (ci := ci) (fs := fs) (C := C) (T := T) (N := qx_cN ci) hx hb hts hin (qx_fty ci) hty hown (hts _ hlink) (hts _ hins) (hts _ hini) hK hP qx_cw_D hS (fun q hq => by rw [hz] at hq; exact Nat.le_trans (Nat.le_add_right _ _) hq) hcl2 hfs (by omega) (by omega) hd (fun q H1 hP1 hD1 hS1 => ?_)
      refine qx_sized (fun hz1 => ?_)
      have hq := qx_fresh hP1 hD1 (by rw [hz] at hz1; omega)
      subst hq
      refine kk _ _ _ _ _ hl ⟨?_, hS1, hz, by simp only [List.length_append, List.length_cons, List.length_nil]; omega, by rw [qx_sl_push, hsE]; omega⟩
      rw [← qx_cw_push]
      have hce : qx_ce cT aK base (.inr (ci, fs)) = .inr (ci, fs) := by simp only [qx_ce]; rw [hmap]
      rw [hce]
      exact hP1
    · cases hs
  case getfield k =>
    replace hs := qx_g_inv hs
    obtain ⟨rfl, hs⟩ := hs
    obtain ⟨v, r, ci, fs, j, w, rfl, ho, hf, hw, e1⟩ := qx_gf_inv hs
    cases e1
    rcases qx_ob_inv ho with ⟨a, rfl, ha⟩ | ⟨a, rfl, ha⟩
    · obtain ⟨⟨C, T, N⟩, hcl2, -⟩ := hP a _ (qx_cw_some ha)
      obtain ⟨hin, hj, hlk⟩ := qx_fld_ok hf hcl2
      have hw' : (fs.map (qx_cv aK base))[j]? = some (qx_cv aK base w) := by rw [List.getElem?_map, hw]; rfl
      rcases hlk with hlk | hlk
      · exact va_get hx hb hts hin hown hK hP a (qx_cw_some ha) hcl2 j hj (hts _ hlk) (fun _ h9 => h9) hw' hd (kk _ _ _ _ _ hl hR)
      · exact va_getN hx hb hts hin hown hK hP a (qx_cw_some ha) hcl2 j hj ((hKC.2.2.2.2.2.1 _ hlk).use rfl) (fun _ h9 => h9) hw' hd (kk _ _ _ _ _ hl hR)
    · obtain ⟨a9, e9, -, hF9⟩ := hKC.2.1 a ci fs ha
      rw [List.map_cons, qx_cvk e9]
      rcases qx_fldk_ok hf ha with hlk | hlk
      · exact vk_getf hx hb (hF9 j w hw) hS hown (hts _ hlk) (fun _ h9 => h9) hd (kk _ _ _ _ _ hl hR)
      · exact qx_getkN hx hb (hF9 j w hw) hS hown ((hKC.2.2.2.2.2.1 _ hlk).use rfl) (fun _ h9 => h9) hd (kk _ _ _ _ _ hl hR)
  case putfield k =>
    replace hs := qx_g_inv hs
    obtain ⟨rfl, hs⟩ := hs
    obtain ⟨v, a, r, ci, fs, j, rfl, ha, hf, hj2, hfit, hpok, e1⟩ := qx_pf_inv hs
    cases e1
    obtain ⟨⟨C, T, N⟩, hcl2, -⟩ := hP a _ (qx_cw_some ha)
    obtain ⟨hin, hj, hlk⟩ := qx_fld_ok hf hcl2
    obtain ⟨hty, hnm⟩ := qx_cls_ok hcl2
    have hfit2 := qx_fit_ok (aK := aK) (base := base) hfit
    have hj3 : j < (fs.map (qx_cv aK base)).length := by rw [List.length_map]; exact hj2
    have kk2 : ∀ (H1 : Heap) (locs1 : List Loc), va_P D qx_cs ((qx_cw cT aK base h).set a (base + a, .inr (ci, (fs.map (qx_cv aK base)).set j (qx_cv aK base v)))) H1 → va_D (fun q => base ≤ q) ((qx_cw cT aK base h).set a (base + a, .inr (ci, (fs.map (qx_cv aK base)).set j (qx_cv aK base v)))) → va_S (fun q => base ≤ q) s.heap H1 locs1 → W p l e R s mI args below meth c H1 locs1 cells slots Q (F0 mI (pc + 3) ls (st'.map (qx_cv aK base))) := fun H1 locs1 hP1 _ hS1 => by
      refine kk _ _ _ _ _ hl ⟨?_, hS1, hz, by rw [List.length_set]; exact hcl, hsz.trans (qx_sl_set ha (by rfl)).symm⟩
      rw [← qx_cw_set]
      have hce : qx_ce cT aK base (.inr (ci, fs.set j v)) = .inr (ci, (fs.map (qx_cv aK base)).set j (qx_cv aK base v)) := by simp only [qx_ce]; rw [List.map_set]
      rw [hce]
      exact hP1
    rcases qx_pok_ok hf hpok hcl2 with hfin | ⟨hfin, hini, hdecl, hlk2⟩
    · rcases hlk with hlk | hlk
      · exact va_put hx hb hts hin (qx_fty ci) hty hnm hown hK hP qx_cw_D hS a (qx_cw_some ha) hcl2 j hj (hts _ hlk) (fun _ h9 => h9) hfin (hty j hj) hfit2.1 hfit2.2 hj3 hd kk2
      · exact va_putN hx hb hts hin (qx_fty ci) hty hnm hown hK hP qx_cw_D hS a (qx_cw_some ha) hcl2 j hj ((hKC.2.2.2.2.2.1 _ hlk).use rfl) (fun _ h9 => h9) hfin (hty j hj) hfit2.1 hfit2.2 hj3 hd kk2
    · exact va_putF hx hb hts hin (qx_fty ci) hty hnm hown hK hP qx_cw_D hS a (qx_cw_some ha) hcl2 j hj (hts _ hlk2) (fun _ h9 => h9) hfin (hname.trans hini) hdecl (hty j hj) hfit2.1 hfit2.2 hj3 hd kk2
  case getstatic k =>
    replace hs := qx_g_inv hs
    obtain ⟨rfl, hs⟩ := hs
    split at hs
    · rename_i v hv
      cases hs
      obtain ⟨C, n, dd, hm, hlk⟩ := qx_sta_ok hv
      rcases hlk with hlk | hlk
      · exact va_gets hx hb (hKC.2.2.2.1 _ hm) hS hown (hts _ hlk) (fun _ h9 => h9) hd (kk _ _ _ _ _ hl hR)
      · exact va_getsN hx hb (hKC.2.2.2.1 _ hm) hS hown ((hKC.2.2.2.2.2.1 _ hlk).use rfl) (fun _ h9 => h9) hd (kk _ _ _ _ _ hl hR)
    · cases hs
  case invokespecial k =>
    replace hs := qx_g_inv hs
    obtain ⟨rfl, hs⟩ := hs
    split at hs
    · rename_i hoi
      split at hs
      · split at hs
        · rename_i a r hcat
          cases hs
          refine W.objInit hx hb hown (hts _ (qx_oi_ok hoi.1)) (hts _ qx_oi_inst) (hts _ qx_oi_code) rfl (by rw [hml]; exact hl.1) rfl hd (Nat.le_trans hoi.2 hRf) ?_ (kk _ _ _ _ _ hl hR)
          have h1 : qx_KK * 1 ≤ qx_KK * d := Nat.mul_le_mul_left _ hoi.2
          have h2 : 2 * (F0 mI pc ls (qx_cv aK base (.ref a) :: st'.map (qx_cv aK base))).monitorRoom + ((st'.map (qx_cv aK base)).map fun v => v.category).sum ≤ 8 := lv_room (by rw [qx_sum_cat]; exact hcat)
          have h3 : 20 ≤ qx_KK := by decide
          refine Nat.le_trans (Nat.add_le_add_right h2 12) ?_
          omega
        · cases hs
      · cases hs
    · cases hs
  case invokestatic k =>
    replace hs := qx_g_inv hs
    obtain ⟨rfl, hs⟩ := hs
    split at hs
    · rename_i hcp
      obtain ⟨n, dp, k1, sp, k0, r, n9, f, n1, g, rfl, e0, e2, hd1, hcat, h1, h2, h3, h4, h5, h6, e1⟩ := qx_cpy_inv hs
      cases e1
      obtain ⟨hc1, hc2, hc3, hc4⟩ := qx_cp_ok hcp
      refine va_copyi (ty := .byte) hx hb (by rw [hml]; exact hl.1.symm) hown (hts _ hc1) (hts _ hc2) (hts _ hc3) (hts _ hc4) hK hP qx_cw_D hS k0 k1 1 1 (qx_cw_some e0) (qx_cw_some e2) rfl rfl rfl h1 h2 h3 h4 h5 h6 (Nat.le_trans hd1 hRf) ?_ hd (fun H1 locs1 hP1 _ hS1 => ?_)
      · have h7 : qx_KK * 1 ≤ qx_KK * d := Nat.mul_le_mul_left _ hd1
        have h8 : 8 + (nativeFrameWords "java/lang/System" "arraycopy" 5 + 11) ≤ qx_KK := by decide
        rw [qx_sum_cat]
        omega
      · refine kk _ _ _ _ _ hl ⟨?_, hS1, hz, by rw [List.length_set]; exact hcl, hsz.trans (qx_sl_set e2 (by rfl)).symm⟩
        rw [← qx_cw_set]
        exact hP1
    · cases hs
  all_goals exact (nomatch (show (none : Option qx_S) = some _ from hs))
end QXS
