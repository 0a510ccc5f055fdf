section QXO
variable {L : Nat} {xs : Nat → Int32} {d m pc tgt k : Nat} {off : Int} {lv lv' : qx_L} {r : List Value} {h : List qx_E} {Q : Option Value → List qx_E → Prop}
theorem wp_iconst {n : Int} {x : Int32} (hd : decode (qx_code m) pc = .ok (.iconst n, 1)) (hx : Int32.ofInt n = x) (kk : wp_W L xs d m (pc + 1) lv (.int x :: r) h Q) : wp_W L xs d m pc lv r h Q := by subst hx; exact wp_s hd rfl kk
theorem wp_bipush {n : Int} {x : Int32} (hd : decode (qx_code m) pc = .ok (.bipush n, 2)) (hx : (Int8.ofInt n).toInt32 = x) (kk : wp_W L xs d m (pc + 2) lv (.int x :: r) h Q) : wp_W L xs d m pc lv r h Q := by subst hx; exact wp_s hd rfl kk
theorem wp_sipush {n : Int} {x : Int32} (hd : decode (qx_code m) pc = .ok (.sipush n, 3)) (hx : (Int16.ofInt n).toInt32 = x) (kk : wp_W L xs d m (pc + 3) lv (.int x :: r) h Q) : wp_W L xs d m pc lv r h Q := by subst hx; exact wp_s hd rfl kk
theorem wp_lconst {n : Fin 2} {x : Int64} (hd : decode (qx_code m) pc = .ok (.lconst n, 1)) (hx : Int64.ofNat (n : Nat) = x) (kk : wp_W L xs d m (pc + 1) lv (.long x :: r) h Q) : wp_W L xs d m pc lv r h Q := by subst hx; exact wp_s hd rfl kk
theorem wp_null  (hd : decode (qx_code m) pc = .ok (.aconst_null, 1)) (kk : wp_W L xs d m (pc + 1) lv (.null :: r) h Q) : wp_W L xs d m pc lv r h Q := wp_s hd rfl kk
theorem wp_ldc {v : Value} (hd : decode (qx_code m) pc = .ok (.ldc k, 2)) (hx : qx_ldc m k = some v) (kk : wp_W L xs d m (pc + 2) lv (v :: r) h Q) : wp_W L xs d m pc lv r h Q := wp_s hd (by simp only [qx_step, qx_g, hx, if_true]) kk
theorem wp_ldcw {v : Int32} (hd : decode (qx_code m) pc = .ok (.ldc_w k, 3)) (hx : qx_ldcw m k = some v) (kk : wp_W L xs d m (pc + 3) lv (.int v :: r) h Q) : wp_W L xs d m pc lv r h Q := wp_s hd (by simp only [qx_step, qx_g, hx, if_true]) kk
theorem wp_ldc2 {v : Int64} (hd : decode (qx_code m) pc = .ok (.ldc2_w k, 3)) (hx : qx_ldc2 m k = some v) (kk : wp_W L xs d m (pc + 3) lv (.long v :: r) h Q) : wp_W L xs d m pc lv r h Q := wp_s hd (by simp only [qx_step, qx_g, hx, if_true]) kk
theorem wp_iload_n {n : Fin 4} {x : Int32} (hd : decode (qx_code m) pc = .ok (.iload_n n, 1)) (hx : qx_lk lv n = some (.int x)) (kk : wp_W L xs d m (pc + 1) lv (.int x :: r) h Q) : wp_W L xs d m pc lv r h Q := wp_s hd (by simp only [qx_step, qx_g, qx_ldI, hx, if_true]) kk
theorem wp_iload {x : Int32} (hd : decode (qx_code m) pc = .ok (.iload k, 2)) (hx : qx_lk lv k = some (.int x)) (kk : wp_W L xs d m (pc + 2) lv (.int x :: r) h Q) : wp_W L xs d m pc lv r h Q := wp_s hd (by simp only [qx_step, qx_g, qx_ldI, hx, if_true]) kk
theorem wp_lload_n {n : Fin 4} {x : Int64} (hd : decode (qx_code m) pc = .ok (.lload_n n, 1)) (hx : qx_lk lv n = some (.long x)) (kk : wp_W L xs d m (pc + 1) lv (.long x :: r) h Q) : wp_W L xs d m pc lv r h Q := wp_s hd (by simp only [qx_step, qx_g, qx_ldL, hx, if_true]) kk
theorem wp_lload {x : Int64} (hd : decode (qx_code m) pc = .ok (.lload k, 2)) (hx : qx_lk lv k = some (.long x)) (kk : wp_W L xs d m (pc + 2) lv (.long x :: r) h Q) : wp_W L xs d m pc lv r h Q := wp_s hd (by simp only [qx_step, qx_g, qx_ldL, hx, if_true]) kk
theorem wp_aload_n {n : Fin 4} {a : Nat} (hd : decode (qx_code m) pc = .ok (.aload_n n, 1)) (hx : qx_lk lv n = some (.ref a)) (kk : wp_W L xs d m (pc + 1) lv (.ref a :: r) h Q) : wp_W L xs d m pc lv r h Q := wp_s hd (by simp only [qx_step, qx_g, qx_ldA, hx, if_true]) kk
theorem wp_aload {a : Nat} (hd : decode (qx_code m) pc = .ok (.aload k, 2)) (hx : qx_lk lv k = some (.ref a)) (kk : wp_W L xs d m (pc + 2) lv (.ref a :: r) h Q) : wp_W L xs d m pc lv r h Q := wp_s hd (by simp only [qx_step, qx_g, qx_ldA, hx, if_true]) kk
theorem wp_astore_n {n : Fin 4} {a : Nat} (hd : decode (qx_code m) pc = .ok (.astore_n n, 1)) (hn : (n : Nat) < qx_mL m) (hx : qx_st1 lv n (.ref a) = lv') (kk : wp_W L xs d m (pc + 1) lv' r h Q) : wp_W L xs d m pc lv (.ref a :: r) h Q := by subst hx; exact wp_s hd (by simp only [qx_step, qx_g, qx_stA, hn, if_true]) kk
theorem wp_astore {a : Nat} (hd : decode (qx_code m) pc = .ok (.astore k, 2)) (hn : k < qx_mL m) (hx : qx_st1 lv k (.ref a) = lv') (kk : wp_W L xs d m (pc + 2) lv' r h Q) : wp_W L xs d m pc lv (.ref a :: r) h Q := by subst hx; exact wp_s hd (by simp only [qx_step, qx_g, qx_stA, hn, if_true]) kk
theorem wp_aload_nK {n : Fin 4} {a : Nat} (hd : decode (qx_code m) pc = .ok (.aload_n n, 1)) (hx : qx_lk lv n = some (.retAddr a)) (kk : wp_W L xs d m (pc + 1) lv (.retAddr a :: r) h Q) : wp_W L xs d m pc lv r h Q := wp_s hd (by simp only [qx_step, qx_g, qx_ldA, hx, if_true]) kk
theorem wp_aloadK {a : Nat} (hd : decode (qx_code m) pc = .ok (.aload k, 2)) (hx : qx_lk lv k = some (.retAddr a)) (kk : wp_W L xs d m (pc + 2) lv (.retAddr a :: r) h Q) : wp_W L xs d m pc lv r h Q := wp_s hd (by simp only [qx_step, qx_g, qx_ldA, hx, if_true]) kk
theorem wp_astore_nK {n : Fin 4} {a : Nat} (hd : decode (qx_code m) pc = .ok (.astore_n n, 1)) (hn : (n : Nat) < qx_mL m) (hx : qx_st1 lv n (.retAddr a) = lv') (kk : wp_W L xs d m (pc + 1) lv' r h Q) : wp_W L xs d m pc lv (.retAddr a :: r) h Q := by subst hx; exact wp_s hd (by simp only [qx_step, qx_g, qx_stA, hn, if_true]) kk
theorem wp_astoreK {a : Nat} (hd : decode (qx_code m) pc = .ok (.astore k, 2)) (hn : k < qx_mL m) (hx : qx_st1 lv k (.retAddr a) = lv') (kk : wp_W L xs d m (pc + 2) lv' r h Q) : wp_W L xs d m pc lv (.retAddr a :: r) h Q := by subst hx; exact wp_s hd (by simp only [qx_step, qx_g, qx_stA, hn, if_true]) kk
theorem wp_aload_nN {n : Fin 4} (hd : decode (qx_code m) pc = .ok (.aload_n n, 1)) (hx : qx_lk lv n = some .null) (kk : wp_W L xs d m (pc + 1) lv (.null :: r) h Q) : wp_W L xs d m pc lv r h Q := wp_s hd (by simp only [qx_step, qx_g, qx_ldA, hx, if_true]) kk
theorem wp_aloadN  (hd : decode (qx_code m) pc = .ok (.aload k, 2)) (hx : qx_lk lv k = some .null) (kk : wp_W L xs d m (pc + 2) lv (.null :: r) h Q) : wp_W L xs d m pc lv r h Q := wp_s hd (by simp only [qx_step, qx_g, qx_ldA, hx, if_true]) kk
theorem wp_astore_nN {n : Fin 4} (hd : decode (qx_code m) pc = .ok (.astore_n n, 1)) (hn : (n : Nat) < qx_mL m) (hx : qx_st1 lv n .null = lv') (kk : wp_W L xs d m (pc + 1) lv' r h Q) : wp_W L xs d m pc lv (.null :: r) h Q := by subst hx; exact wp_s hd (by simp only [qx_step, qx_g, qx_stA, hn, if_true]) kk
theorem wp_astoreN  (hd : decode (qx_code m) pc = .ok (.astore k, 2)) (hn : k < qx_mL m) (hx : qx_st1 lv k .null = lv') (kk : wp_W L xs d m (pc + 2) lv' r h Q) : wp_W L xs d m pc lv (.null :: r) h Q := by subst hx; exact wp_s hd (by simp only [qx_step, qx_g, qx_stA, hn, if_true]) kk
theorem wp_istore_n {n : Fin 4} {x : Int32} (hd : decode (qx_code m) pc = .ok (.istore_n n, 1)) (hn : (n : Nat) < qx_mL m) (hx : qx_st1 lv n (.int x) = lv') (kk : wp_W L xs d m (pc + 1) lv' r h Q) : wp_W L xs d m pc lv (.int x :: r) h Q := by subst hx; exact wp_s hd (by simp only [qx_step, qx_g, qx_stI, hn, if_true]) kk
theorem wp_istore {x : Int32} (hd : decode (qx_code m) pc = .ok (.istore k, 2)) (hn : k < qx_mL m) (hx : qx_st1 lv k (.int x) = lv') (kk : wp_W L xs d m (pc + 2) lv' r h Q) : wp_W L xs d m pc lv (.int x :: r) h Q := by subst hx; exact wp_s hd (by simp only [qx_step, qx_g, qx_stI, hn, if_true]) kk
theorem wp_lstore_n {n : Fin 4} {x : Int64} (hd : decode (qx_code m) pc = .ok (.lstore_n n, 1)) (hn : (n : Nat) + 1 < qx_mL m) (hx : qx_st2 lv n (.long x) = lv') (kk : wp_W L xs d m (pc + 1) lv' r h Q) : wp_W L xs d m pc lv (.long x :: r) h Q := by subst hx; exact wp_s hd (by simp only [qx_step, qx_g, qx_stL, hn, if_true]) kk
theorem wp_lstore {x : Int64} (hd : decode (qx_code m) pc = .ok (.lstore k, 2)) (hn : k + 1 < qx_mL m) (hx : qx_st2 lv k (.long x) = lv') (kk : wp_W L xs d m (pc + 2) lv' r h Q) : wp_W L xs d m pc lv (.long x :: r) h Q := by subst hx; exact wp_s hd (by simp only [qx_step, qx_g, qx_stL, hn, if_true]) kk
theorem wp_iinc {n : Int} {x y : Int32} (hd : decode (qx_code m) pc = .ok (.iinc k n, 3)) (h1 : qx_lk lv k = some (.int x)) (hy : x + Int32.ofInt n = y) (hn : k < qx_mL m) (hx : qx_st1 lv k (.int y) = lv') (kk : wp_W L xs d m (pc + 3) lv' r h Q) : wp_W L xs d m pc lv r h Q := by subst hy; subst hx; exact wp_s hd (by simp only [qx_step, qx_g, h1, hn, if_true]) kk
theorem wp_iadd {x y : Int32} (hd : decode (qx_code m) pc = .ok (.iadd, 1)) (kk : wp_W L xs d m (pc + 1) lv (.int (x + y) :: r) h Q) : wp_W L xs d m pc lv (.int y :: .int x :: r) h Q := wp_s hd rfl kk
theorem wp_isub {x y : Int32} (hd : decode (qx_code m) pc = .ok (.isub, 1)) (kk : wp_W L xs d m (pc + 1) lv (.int (x - y) :: r) h Q) : wp_W L xs d m pc lv (.int y :: .int x :: r) h Q := wp_s hd rfl kk
theorem wp_imul {x y : Int32} (hd : decode (qx_code m) pc = .ok (.imul, 1)) (kk : wp_W L xs d m (pc + 1) lv (.int (x * y) :: r) h Q) : wp_W L xs d m pc lv (.int y :: .int x :: r) h Q := wp_s hd rfl kk
theorem wp_iand {x y : Int32} (hd : decode (qx_code m) pc = .ok (.iand, 1)) (kk : wp_W L xs d m (pc + 1) lv (.int (x &&& y) :: r) h Q) : wp_W L xs d m pc lv (.int y :: .int x :: r) h Q := wp_s hd rfl kk
theorem wp_ior {x y : Int32} (hd : decode (qx_code m) pc = .ok (.ior, 1)) (kk : wp_W L xs d m (pc + 1) lv (.int (x ||| y) :: r) h Q) : wp_W L xs d m pc lv (.int y :: .int x :: r) h Q := wp_s hd rfl kk
theorem wp_ixor {x y : Int32} (hd : decode (qx_code m) pc = .ok (.ixor, 1)) (kk : wp_W L xs d m (pc + 1) lv (.int (x ^^^ y) :: r) h Q) : wp_W L xs d m pc lv (.int y :: .int x :: r) h Q := wp_s hd rfl kk
theorem wp_ishl {x y : Int32} (hd : decode (qx_code m) pc = .ok (.ishl, 1)) (kk : wp_W L xs d m (pc + 1) lv (.int (x <<< (y &&& 31)) :: r) h Q) : wp_W L xs d m pc lv (.int y :: .int x :: r) h Q := wp_s hd rfl kk
theorem wp_ishr {x y : Int32} (hd : decode (qx_code m) pc = .ok (.ishr, 1)) (kk : wp_W L xs d m (pc + 1) lv (.int (x >>> (y &&& 31)) :: r) h Q) : wp_W L xs d m pc lv (.int y :: .int x :: r) h Q := wp_s hd rfl kk
theorem wp_iushr {x y : Int32} (hd : decode (qx_code m) pc = .ok (.iushr, 1)) (kk : wp_W L xs d m (pc + 1) lv (.int ((x.toUInt32 >>> (y.toUInt32 &&& Int32.toUInt32 31)).toInt32) :: r) h Q) : wp_W L xs d m pc lv (.int y :: .int x :: r) h Q := wp_s hd rfl kk
theorem wp_ladd {x y : Int64} (hd : decode (qx_code m) pc = .ok (.ladd, 1)) (kk : wp_W L xs d m (pc + 1) lv (.long (x + y) :: r) h Q) : wp_W L xs d m pc lv (.long y :: .long x :: r) h Q := wp_s hd rfl kk
theorem wp_lsub {x y : Int64} (hd : decode (qx_code m) pc = .ok (.lsub, 1)) (kk : wp_W L xs d m (pc + 1) lv (.long (x - y) :: r) h Q) : wp_W L xs d m pc lv (.long y :: .long x :: r) h Q := wp_s hd rfl kk
theorem wp_lmul {x y : Int64} (hd : decode (qx_code m) pc = .ok (.lmul, 1)) (kk : wp_W L xs d m (pc + 1) lv (.long (x * y) :: r) h Q) : wp_W L xs d m pc lv (.long y :: .long x :: r) h Q := wp_s hd rfl kk
theorem wp_land {x y : Int64} (hd : decode (qx_code m) pc = .ok (.land, 1)) (kk : wp_W L xs d m (pc + 1) lv (.long (x &&& y) :: r) h Q) : wp_W L xs d m pc lv (.long y :: .long x :: r) h Q := wp_s hd rfl kk
theorem wp_lor {x y : Int64} (hd : decode (qx_code m) pc = .ok (.lor, 1)) (kk : wp_W L xs d m (pc + 1) lv (.long (x ||| y) :: r) h Q) : wp_W L xs d m pc lv (.long y :: .long x :: r) h Q := wp_s hd rfl kk
theorem wp_lshl {x : Int64} {y : Int32} (hd : decode (qx_code m) pc = .ok (.lshl, 1)) (kk : wp_W L xs d m (pc + 1) lv (.long (x <<< (y.toInt64 &&& 63)) :: r) h Q) : wp_W L xs d m pc lv (.int y :: .long x :: r) h Q := wp_s hd rfl kk
theorem wp_lshr {x : Int64} {y : Int32} (hd : decode (qx_code m) pc = .ok (.lshr, 1)) (kk : wp_W L xs d m (pc + 1) lv (.long (x >>> (y.toInt64 &&& 63)) :: r) h Q) : wp_W L xs d m pc lv (.int y :: .long x :: r) h Q := wp_s hd rfl kk
theorem wp_lcmp {x y : Int64} (hd : decode (qx_code m) pc = .ok (.lcmp, 1)) (kk : wp_W L xs d m (pc + 1) lv (.int (lg_cmp x y) :: r) h Q) : wp_W L xs d m pc lv (.long y :: .long x :: r) h Q := wp_s hd rfl kk
theorem wp_irem {x y : Int32} (hd : decode (qx_code m) pc = .ok (.irem, 1)) (hy : ¬ y = 0) (kk : wp_W L xs d m (pc + 1) lv (.int (x - x / y * y) :: r) h Q) : wp_W L xs d m pc lv (.int y :: .int x :: r) h Q := wp_s hd (by simp only [qx_step, qx_g, hy, if_true, if_false]) kk
theorem wp_ineg {x : Int32} (hd : decode (qx_code m) pc = .ok (.ineg, 1)) (kk : wp_W L xs d m (pc + 1) lv (.int (-x) :: r) h Q) : wp_W L xs d m pc lv (.int x :: r) h Q := wp_s hd rfl kk
theorem wp_i2l {x : Int32} (hd : decode (qx_code m) pc = .ok (.i2l, 1)) (kk : wp_W L xs d m (pc + 1) lv (.long x.toInt64 :: r) h Q) : wp_W L xs d m pc lv (.int x :: r) h Q := wp_s hd rfl kk
theorem wp_l2i {x : Int64} (hd : decode (qx_code m) pc = .ok (.l2i, 1)) (kk : wp_W L xs d m (pc + 1) lv (.int x.toInt32 :: r) h Q) : wp_W L xs d m pc lv (.long x :: r) h Q := wp_s hd rfl kk
theorem wp_i2b {x : Int32} (hd : decode (qx_code m) pc = .ok (.i2b, 1)) (kk : wp_W L xs d m (pc + 1) lv (.int x.toInt8.toInt32 :: r) h Q) : wp_W L xs d m pc lv (.int x :: r) h Q := wp_s hd rfl kk
theorem wp_i2c {x : Int32} (hd : decode (qx_code m) pc = .ok (.i2c, 1)) (kk : wp_W L xs d m (pc + 1) lv (.int (x.toUInt32 % 65536).toInt32 :: r) h Q) : wp_W L xs d m pc lv (.int x :: r) h Q := wp_s hd rfl kk
theorem wp_dup {v : Value} (hd : decode (qx_code m) pc = .ok (.dup, 1)) (hv : v.category = 1) (kk : wp_W L xs d m (pc + 1) lv (v :: v :: r) h Q) : wp_W L xs d m pc lv (v :: r) h Q := wp_s hd (by simp only [qx_step, qx_g, hv, if_true]) kk
theorem wp_dup_x1 {v w : Value} (hd : decode (qx_code m) pc = .ok (.dup_x1, 1)) (hv : v.category = 1 ∧ w.category = 1) (kk : wp_W L xs d m (pc + 1) lv (v :: w :: v :: r) h Q) : wp_W L xs d m pc lv (v :: w :: r) h Q := wp_s hd (by simp only [qx_step, qx_g, if_true]; rw [if_pos hv]) kk
theorem wp_pop {v : Value} (hd : decode (qx_code m) pc = .ok (.pop, 1)) (hv : v.category = 1) (kk : wp_W L xs d m (pc + 1) lv r h Q) : wp_W L xs d m pc lv (v :: r) h Q := wp_s hd (by simp only [qx_step, qx_g, hv, if_true]) kk
theorem wp_pop2 {v : Value} (hd : decode (qx_code m) pc = .ok (.pop2, 1)) (hv : v.category = 2) (kk : wp_W L xs d m (pc + 1) lv r h Q) : wp_W L xs d m pc lv (v :: r) h Q := wp_s hd (by simp only [qx_step, qx_g, hv, if_true]) kk
theorem qx_tg_of (ht : (pc : Int) + off = (tgt : Int)) : qx_tg pc off = some tgt := by unfold qx_tg; rw [if_pos (by omega)]; congr 1; omega
theorem wp_if_eq {x : Int32} (hd : decode (qx_code m) pc = .ok (.ifCond .eq off, 3)) (ht : (pc : Int) + off = (tgt : Int)) (kt : x = 0 → wp_W L xs d m tgt lv r h Q) (kf : ¬ x = 0 → wp_W L xs d m (pc + 3) lv r h Q) : wp_W L xs d m pc lv (.int x :: r) h Q := by
  by_cases cc : x = 0
  · exact wp_s hd (by simp only [qx_step, qx_g, qx_if, qx_tg_of ht, decide_eq_true cc, if_true]) (kt cc)
  · refine wp_s (pc' := pc + 3) hd (by simp only [qx_step, qx_g, qx_if, qx_tg_of ht, decide_eq_false cc, if_true]; rfl) ?_
    exact kf cc
theorem wp_if_ne {x : Int32} (hd : decode (qx_code m) pc = .ok (.ifCond .ne off, 3)) (ht : (pc : Int) + off = (tgt : Int)) (kt : ¬ x = 0 → wp_W L xs d m tgt lv r h Q) (kf : x = 0 → wp_W L xs d m (pc + 3) lv r h Q) : wp_W L xs d m pc lv (.int x :: r) h Q := by
  by_cases cc : ¬ x = 0
  · exact wp_s hd (by simp only [qx_step, qx_g, qx_if, qx_tg_of ht, decide_eq_true cc, if_true]) (kt cc)
  · refine wp_s (pc' := pc + 3) hd (by simp only [qx_step, qx_g, qx_if, qx_tg_of ht, decide_eq_false cc, if_true]; rfl) ?_
    exact kf (Decidable.of_not_not cc)
theorem wp_if_lt {x : Int32} (hd : decode (qx_code m) pc = .ok (.ifCond .lt off, 3)) (ht : (pc : Int) + off = (tgt : Int)) (kt : x < 0 → wp_W L xs d m tgt lv r h Q) (kf : ¬ x < 0 → wp_W L xs d m (pc + 3) lv r h Q) : wp_W L xs d m pc lv (.int x :: r) h Q := by
  by_cases cc : x < 0
  · exact wp_s hd (by simp only [qx_step, qx_g, qx_if, qx_tg_of ht, decide_eq_true cc, if_true]) (kt cc)
  · refine wp_s (pc' := pc + 3) hd (by simp only [qx_step, qx_g, qx_if, qx_tg_of ht, decide_eq_false cc, if_true]; rfl) ?_
    exact kf cc
theorem wp_if_ge {x : Int32} (hd : decode (qx_code m) pc = .ok (.ifCond .ge off, 3)) (ht : (pc : Int) + off = (tgt : Int)) (kt : 0 ≤ x → wp_W L xs d m tgt lv r h Q) (kf : ¬ 0 ≤ x → wp_W L xs d m (pc + 3) lv r h Q) : wp_W L xs d m pc lv (.int x :: r) h Q := by
  by_cases cc : 0 ≤ x
  · exact wp_s hd (by simp only [qx_step, qx_g, qx_if, qx_tg_of ht, decide_eq_true cc, if_true]) (kt cc)
  · refine wp_s (pc' := pc + 3) hd (by simp only [qx_step, qx_g, qx_if, qx_tg_of ht, decide_eq_false cc, if_true]; rfl) ?_
    exact kf cc
theorem wp_if_gt {x : Int32} (hd : decode (qx_code m) pc = .ok (.ifCond .gt off, 3)) (ht : (pc : Int) + off = (tgt : Int)) (kt : 0 < x → wp_W L xs d m tgt lv r h Q) (kf : ¬ 0 < x → wp_W L xs d m (pc + 3) lv r h Q) : wp_W L xs d m pc lv (.int x :: r) h Q := by
  by_cases cc : 0 < x
  · exact wp_s hd (by simp only [qx_step, qx_g, qx_if, qx_tg_of ht, decide_eq_true cc, if_true]) (kt cc)
  · refine wp_s (pc' := pc + 3) hd (by simp only [qx_step, qx_g, qx_if, qx_tg_of ht, decide_eq_false cc, if_true]; rfl) ?_
    exact kf cc
theorem wp_if_le {x : Int32} (hd : decode (qx_code m) pc = .ok (.ifCond .le off, 3)) (ht : (pc : Int) + off = (tgt : Int)) (kt : x ≤ 0 → wp_W L xs d m tgt lv r h Q) (kf : ¬ x ≤ 0 → wp_W L xs d m (pc + 3) lv r h Q) : wp_W L xs d m pc lv (.int x :: r) h Q := by
  by_cases cc : x ≤ 0
  · exact wp_s hd (by simp only [qx_step, qx_g, qx_if, qx_tg_of ht, decide_eq_true cc, if_true]) (kt cc)
  · refine wp_s (pc' := pc + 3) hd (by simp only [qx_step, qx_g, qx_if, qx_tg_of ht, decide_eq_false cc, if_true]; rfl) ?_
    exact kf cc
theorem wp_ic_eq {x y : Int32} (hd : decode (qx_code m) pc = .ok (.if_icmp .eq off, 3)) (ht : (pc : Int) + off = (tgt : Int)) (kt : x = y → wp_W L xs d m tgt lv r h Q) (kf : ¬ x = y → wp_W L xs d m (pc + 3) lv r h Q) : wp_W L xs d m pc lv (.int y :: .int x :: r) h Q := by
  by_cases cc : x = y
  · exact wp_s hd (by simp only [qx_step, qx_g, qx_if, qx_tg_of ht, decide_eq_true cc, if_true]) (kt cc)
  · refine wp_s (pc' := pc + 3) hd (by simp only [qx_step, qx_g, qx_if, qx_tg_of ht, decide_eq_false cc, if_true]; rfl) ?_
    exact kf cc
theorem wp_ic_ne {x y : Int32} (hd : decode (qx_code m) pc = .ok (.if_icmp .ne off, 3)) (ht : (pc : Int) + off = (tgt : Int)) (kt : ¬ x = y → wp_W L xs d m tgt lv r h Q) (kf : x = y → wp_W L xs d m (pc + 3) lv r h Q) : wp_W L xs d m pc lv (.int y :: .int x :: r) h Q := by
  by_cases cc : ¬ x = y
  · exact wp_s hd (by simp only [qx_step, qx_g, qx_if, qx_tg_of ht, decide_eq_true cc, if_true]) (kt cc)
  · refine wp_s (pc' := pc + 3) hd (by simp only [qx_step, qx_g, qx_if, qx_tg_of ht, decide_eq_false cc, if_true]; rfl) ?_
    exact kf (Decidable.of_not_not cc)
theorem wp_ic_lt {x y : Int32} (hd : decode (qx_code m) pc = .ok (.if_icmp .lt off, 3)) (ht : (pc : Int) + off = (tgt : Int)) (kt : x < y → wp_W L xs d m tgt lv r h Q) (kf : ¬ x < y → wp_W L xs d m (pc + 3) lv r h Q) : wp_W L xs d m pc lv (.int y :: .int x :: r) h Q := by
  by_cases cc : x < y
  · exact wp_s hd (by simp only [qx_step, qx_g, qx_if, qx_tg_of ht, decide_eq_true cc, if_true]) (kt cc)
  · refine wp_s (pc' := pc + 3) hd (by simp only [qx_step, qx_g, qx_if, qx_tg_of ht, decide_eq_false cc, if_true]; rfl) ?_
    exact kf cc
theorem wp_ic_ge {x y : Int32} (hd : decode (qx_code m) pc = .ok (.if_icmp .ge off, 3)) (ht : (pc : Int) + off = (tgt : Int)) (kt : y ≤ x → wp_W L xs d m tgt lv r h Q) (kf : ¬ y ≤ x → wp_W L xs d m (pc + 3) lv r h Q) : wp_W L xs d m pc lv (.int y :: .int x :: r) h Q := by
  by_cases cc : y ≤ x
  · exact wp_s hd (by simp only [qx_step, qx_g, qx_if, qx_tg_of ht, decide_eq_true cc, if_true]) (kt cc)
  · refine wp_s (pc' := pc + 3) hd (by simp only [qx_step, qx_g, qx_if, qx_tg_of ht, decide_eq_false cc, if_true]; rfl) ?_
    exact kf cc
theorem wp_ic_gt {x y : Int32} (hd : decode (qx_code m) pc = .ok (.if_icmp .gt off, 3)) (ht : (pc : Int) + off = (tgt : Int)) (kt : y < x → wp_W L xs d m tgt lv r h Q) (kf : ¬ y < x → wp_W L xs d m (pc + 3) lv r h Q) : wp_W L xs d m pc lv (.int y :: .int x :: r) h Q := by
  by_cases cc : y < x
  · exact wp_s hd (by simp only [qx_step, qx_g, qx_if, qx_tg_of ht, decide_eq_true cc, if_true]) (kt cc)
  · refine wp_s (pc' := pc + 3) hd (by simp only [qx_step, qx_g, qx_if, qx_tg_of ht, decide_eq_false cc, if_true]; rfl) ?_
    exact kf cc
theorem wp_ic_le {x y : Int32} (hd : decode (qx_code m) pc = .ok (.if_icmp .le off, 3)) (ht : (pc : Int) + off = (tgt : Int)) (kt : x ≤ y → wp_W L xs d m tgt lv r h Q) (kf : ¬ x ≤ y → wp_W L xs d m (pc + 3) lv r h Q) : wp_W L xs d m pc lv (.int y :: .int x :: r) h Q := by
  by_cases cc : x ≤ y
  · exact wp_s hd (by simp only [qx_step, qx_g, qx_if, qx_tg_of ht, decide_eq_true cc, if_true]) (kt cc)
  · refine wp_s (pc' := pc + 3) hd (by simp only [qx_step, qx_g, qx_if, qx_tg_of ht, decide_eq_false cc, if_true]; rfl) ?_
    exact kf cc
theorem wp_goto  (hd : decode (qx_code m) pc = .ok (.goto off, 3)) (ht : (pc : Int) + off = (tgt : Int)) (kk : wp_W L xs d m tgt lv r h Q) : wp_W L xs d m pc lv r h Q := wp_s hd (by simp only [qx_step, qx_g, qx_to, qx_tg_of ht, if_true]) kk
theorem wp_ifnullN  (hd : decode (qx_code m) pc = .ok (.ifnull off, 3)) (ht : (pc : Int) + off = (tgt : Int)) (kk : wp_W L xs d m tgt lv r h Q) : wp_W L xs d m pc lv (.null :: r) h Q := wp_s hd (by simp only [qx_step, qx_g, qx_to, qx_tg_of ht, if_true]) kk
theorem wp_ifnull {a : Nat} (hd : decode (qx_code m) pc = .ok (.ifnull off, 3)) (kk : wp_W L xs d m (pc + 3) lv r h Q) : wp_W L xs d m pc lv (.ref a :: r) h Q := wp_s hd rfl kk
theorem wp_ifnullK {a : Nat} (hd : decode (qx_code m) pc = .ok (.ifnull off, 3)) (he : qx_en a = true) (kk : wp_W L xs d m (pc + 3) lv r h Q) : wp_W L xs d m pc lv (.retAddr a :: r) h Q := wp_s hd (by simp only [qx_step, qx_g, he, if_true]) kk
theorem wp_ifnonnullN  (hd : decode (qx_code m) pc = .ok (.ifnonnull off, 3)) (kk : wp_W L xs d m (pc + 3) lv r h Q) : wp_W L xs d m pc lv (.null :: r) h Q := wp_s hd rfl kk
theorem wp_ifnonnull {a : Nat} (hd : decode (qx_code m) pc = .ok (.ifnonnull off, 3)) (ht : (pc : Int) + off = (tgt : Int)) (kk : wp_W L xs d m tgt lv r h Q) : wp_W L xs d m pc lv (.ref a :: r) h Q := wp_s hd (by simp only [qx_step, qx_g, qx_to, qx_tg_of ht, if_true]) kk
theorem wp_ifnonnullK {a : Nat} (hd : decode (qx_code m) pc = .ok (.ifnonnull off, 3)) (he : qx_en a = true) (ht : (pc : Int) + off = (tgt : Int)) (kk : wp_W L xs d m tgt lv r h Q) : wp_W L xs d m pc lv (.retAddr a :: r) h Q := wp_s hd (by simp only [qx_step, qx_g, qx_to, qx_tg_of ht, he, if_true]) kk
theorem wp_acmp_ne {x y : Nat} (hd : decode (qx_code m) pc = .ok (.if_acmp .ne off, 3)) (hx : qx_en x = true) (hy : qx_en y = true) (ht : (pc : Int) + off = (tgt : Int)) (kt : ¬ x = y → wp_W L xs d m tgt lv r h Q) (kf : x = y → wp_W L xs d m (pc + 3) lv r h Q) : wp_W L xs d m pc lv (.retAddr y :: .retAddr x :: r) h Q := by
  by_cases cc : ¬ x = y
  · exact wp_s hd (by simp only [qx_step, qx_g, qx_if, qx_tg_of ht, hx, hy, decide_eq_true cc, if_true, and_self]) (kt cc)
  · refine wp_s (pc' := pc + 3) hd (by simp only [qx_step, qx_g, qx_if, qx_tg_of ht, hx, hy, decide_eq_false cc, if_true, and_self]; rfl) ?_
    exact kf (Decidable.of_not_not cc)
theorem wp_acmp_neN {y : Nat} (hd : decode (qx_code m) pc = .ok (.if_acmp .ne off, 3)) (he : qx_en y = true) (ht : (pc : Int) + off = (tgt : Int)) (kk : wp_W L xs d m tgt lv r h Q) : wp_W L xs d m pc lv (.retAddr y :: .null :: r) h Q := wp_s hd (by simp only [qx_step, qx_g, qx_to, qx_tg_of ht, he, if_true]) kk
theorem wp_tabO {dflt lo hi : Int} {offs : Array Int} {len : Nat} {x : Int32} (hd : decode (qx_code m) pc = .ok (.tableswitch dflt lo hi offs, len)) (hx : x.toInt < lo ∨ hi < x.toInt) (ht : (pc : Int) + dflt = (tgt : Int)) (kk : wp_W L xs d m tgt lv r h Q) : wp_W L xs d m pc lv (.int x :: r) h Q :=
  wp_s hd (by simp only [qx_step]; rw [if_pos hx]; simp only [qx_to, qx_tg_of ht]) kk
theorem wp_tabI {dflt lo hi : Int} {offs : Array Int} {len : Nat} {x : Int32} (hd : decode (qx_code m) pc = .ok (.tableswitch dflt lo hi offs, len)) (h1 : ¬ x.toInt < lo) (h2 : ¬ hi < x.toInt) (ho : offs[(x.toInt - lo).toNat]? = some off) (ht : (pc : Int) + off = (tgt : Int)) (kk : wp_W L xs d m tgt lv r h Q) : wp_W L xs d m pc lv (.int x :: r) h Q :=
  wp_s hd (by simp only [qx_step]; rw [if_neg (by rintro (a | a); exact h1 a; exact h2 a), ho]; simp only [qx_to, qx_tg_of ht]) kk
theorem wp_lkup {dflt : Int} {ps : Array (Int × Int)} {len : Nat} {x : Int32} (hd : decode (qx_code m) pc = .ok (.lookupswitch dflt ps, len)) (hp : (ps.toList.zip (ps.toList.drop 1)).all (fun (a, next) => a.1 < next.1) = true) (ho : Op.lookupswitch.offset ps.toList dflt x.toInt = off) (ht : (pc : Int) + off = (tgt : Int)) (kk : wp_W L xs d m tgt lv r h Q) : wp_W L xs d m pc lv (.int x :: r) h Q :=
  wp_s hd (by simp only [qx_step]; rw [if_pos hp, ho]; simp only [qx_to, qx_tg_of ht]) kk
theorem qx_in_of {x : Int32} {n : Nat} (hx : vp_in x n) : qx_in x n = true := by
  unfold qx_in
  unfold vp_in at hx
  simp only [not_or] at hx
  simp [hx.1, hx.2]
theorem qx_in_n {j n : Nat} (hj : j < n) (hn : n < 2 ^ 31) : qx_in (nI j) n = true := qx_in_of (vp_in_nI hj hn)
theorem wp_iald {x : Int32} {a n : Nat} {f : Nat → Int32} (hd : decode (qx_code m) pc = .ok (.iaload, 1)) (ha : h[a]? = some (.inl (.int, n, f))) (hx : qx_in x n = true) (kk : wp_W L xs d m (pc + 1) lv (.int (f x.toNatClampNeg) :: r) h Q) : wp_W L xs d m pc lv (.int x :: .ref a :: r) h Q := wp_s hd (by simp only [qx_step, qx_g, qx_ald, ha, hx, if_true, and_self]) kk
theorem wp_ialdK {x : Int32} {a n : Nat} {f : Nat → Value} (hd : decode (qx_code m) pc = .ok (.iaload, 1)) (ha : qx_ka (a + 1) = some (.int, n, f)) (hx : qx_in x n = true) (kk : wp_W L xs d m (pc + 1) lv (f x.toNatClampNeg :: r) h Q) : wp_W L xs d m pc lv (.int x :: .retAddr (a + 1) :: r) h Q := wp_s hd (by simp only [qx_step, qx_g, qx_ald, ha, hx, if_true, and_self]) kk
theorem wp_bald {x : Int32} {a n : Nat} {f : Nat → Int32} (hd : decode (qx_code m) pc = .ok (.baload, 1)) (ha : h[a]? = some (.inl (.byte, n, f))) (hx : qx_in x n = true) (kk : wp_W L xs d m (pc + 1) lv (.int (f x.toNatClampNeg) :: r) h Q) : wp_W L xs d m pc lv (.int x :: .ref a :: r) h Q := wp_s hd (by simp only [qx_step, qx_g, qx_ald, ha, hx, if_true, and_self]) kk
theorem wp_baldK {x : Int32} {a n : Nat} {f : Nat → Value} (hd : decode (qx_code m) pc = .ok (.baload, 1)) (ha : qx_ka (a + 1) = some (.byte, n, f)) (hx : qx_in x n = true) (kk : wp_W L xs d m (pc + 1) lv (f x.toNatClampNeg :: r) h Q) : wp_W L xs d m pc lv (.int x :: .retAddr (a + 1) :: r) h Q := wp_s hd (by simp only [qx_step, qx_g, qx_ald, ha, hx, if_true, and_self]) kk
theorem wp_ialdX {x : Int32} (hd : decode (qx_code m) pc = .ok (.iaload, 1)) (hx : qx_in x L = true) (kk : wp_W L xs d m (pc + 1) lv (.int (xs x.toNatClampNeg) :: r) h Q) : wp_W L xs d m pc lv (.int x :: .retAddr 0 :: r) h Q := wp_s hd (by simp only [qx_step, qx_g, qx_ald, hx, if_true, and_self]) kk
theorem wp_aaldK {x : Int32} {a n : Nat} {C : String} {f : Nat → Value} (hd : decode (qx_code m) pc = .ok (.aaload, 1)) (ha : qx_ka (a + 1) = some (.object C, n, f)) (hx : qx_in x n = true) (kk : wp_W L xs d m (pc + 1) lv (f x.toNatClampNeg :: r) h Q) : wp_W L xs d m pc lv (.int x :: .retAddr (a + 1) :: r) h Q := wp_s hd (by simp only [qx_step, qx_g, ha, hx, if_true]) kk
theorem wp_alen {a n : Nat} {ty : FieldType} {f : Nat → Int32} (hd : decode (qx_code m) pc = .ok (.arraylength, 1)) (ha : h[a]? = some (.inl (ty, n, f))) (ht : ty = .int ∨ ty = .byte) (kk : wp_W L xs d m (pc + 1) lv (.int (Int32.ofNat n) :: r) h Q) : wp_W L xs d m pc lv (.ref a :: r) h Q := wp_s hd (by simp only [qx_step, qx_g, qx_aln, ha, if_true]; rw [if_pos ht]) kk
theorem wp_alenX  (hd : decode (qx_code m) pc = .ok (.arraylength, 1)) (kk : wp_W L xs d m (pc + 1) lv (.int (Int32.ofNat L) :: r) h Q) : wp_W L xs d m pc lv (.retAddr 0 :: r) h Q := wp_s hd rfl kk
theorem wp_alenK {a n : Nat} {ty : FieldType} {f : Nat → Value} (hd : decode (qx_code m) pc = .ok (.arraylength, 1)) (ha : qx_ka (a + 1) = some (ty, n, f)) (kk : wp_W L xs d m (pc + 1) lv (.int (Int32.ofNat n) :: r) h Q) : wp_W L xs d m pc lv (.retAddr (a + 1) :: r) h Q := wp_s hd (by simp only [qx_step, qx_g, qx_aln, ha, if_true]) kk
theorem wp_iast {x i : Int32} {a n : Nat} {f : Nat → Int32} (hd : decode (qx_code m) pc = .ok (.iastore, 1)) (ha : h[a]? = some (.inl (.int, n, f))) (hx : qx_in i n = true) (kk : wp_W L xs d m (pc + 1) lv r (h.set a (.inl (.int, n, upd f i.toNatClampNeg (vp_nar .int x)))) Q) : wp_W L xs d m pc lv (.int x :: .int i :: .ref a :: r) h Q := wp_s hd (by simp only [qx_step, qx_g, qx_ast, ha, hx, if_true, and_self]) kk
theorem wp_bast {x i : Int32} {a n : Nat} {f : Nat → Int32} (hd : decode (qx_code m) pc = .ok (.bastore, 1)) (ha : h[a]? = some (.inl (.byte, n, f))) (hx : qx_in i n = true) (kk : wp_W L xs d m (pc + 1) lv r (h.set a (.inl (.byte, n, upd f i.toNatClampNeg (vp_nar .byte x)))) Q) : wp_W L xs d m pc lv (.int x :: .int i :: .ref a :: r) h Q := wp_s hd (by simp only [qx_step, qx_g, qx_ast, ha, hx, if_true, and_self]) kk
theorem wp_newa {n : Int32} {at_ : ArrayType} (hd : decode (qx_code m) pc = .ok (.newarray at_, 2)) (hg : (at_ = .int ∨ at_ = .byte) ∧ ¬ n < 0 ∧ n.toNatClampNeg * 4 ≤ 536870912) (kk : wp_W L xs d m (pc + 2) lv (.ref h.length :: r) (h ++ [.inl (newarray.typeOf at_, n.toNatClampNeg, fun _ => 0)]) Q) : wp_W L xs d m pc lv (.int n :: r) h Q := wp_s hd (by simp only [qx_step, qx_g, qx_nwa, if_true]; rw [if_pos hg]) kk
theorem wp_new {ci : Nat} {fs : List Value} (hd : decode (qx_code m) pc = .ok (.new k, 3)) (hn : qx_new m k = some (ci, fs)) (kk : wp_W L xs d m (pc + 3) lv (.ref h.length :: r) (h ++ [.inr (ci, fs)]) Q) : wp_W L xs d m pc lv r h Q := wp_s hd (by simp only [qx_step, qx_g, hn, if_true]) kk
theorem wp_getf {a ci j : Nat} {fs : List Value} {w : Value} (hd : decode (qx_code m) pc = .ok (.getfield k, 3)) (hf : qx_fld m k = some (ci, j)) (ha : h[a]? = some (.inr (ci, fs))) (hw : fs[j]? = some w) (kk : wp_W L xs d m (pc + 3) lv (w :: r) h Q) : wp_W L xs d m pc lv (.ref a :: r) h Q := wp_s hd (by simp only [qx_step, qx_g, qx_gf, qx_ob, ha, hf, hw, if_true]) kk
theorem wp_getk {a ci j : Nat} {fs : List Value} {w : Value} (hd : decode (qx_code m) pc = .ok (.getfield k, 3)) (hf : qx_fld m k = some (ci, j)) (ha : qx_ko a = some (ci, fs)) (hw : fs[j]? = some w) (kk : wp_W L xs d m (pc + 3) lv (w :: r) h Q) : wp_W L xs d m pc lv (.retAddr a :: r) h Q := wp_s hd (by simp only [qx_step, qx_g, qx_gf, qx_ob, ha, hf, hw, if_true]) kk
theorem wp_putf {a ci j : Nat} {fs : List Value} {v : Value} (hd : decode (qx_code m) pc = .ok (.putfield k, 3)) (hf : qx_fld m k = some (ci, j)) (ha : h[a]? = some (.inr (ci, fs))) (hg : j < fs.length ∧ qx_fit (qx_fty ci j) v = true ∧ qx_pok m k = true) (kk : wp_W L xs d m (pc + 3) lv r (h.set a (.inr (ci, fs.set j v))) Q) : wp_W L xs d m pc lv (v :: .ref a :: r) h Q := wp_s hd (by simp only [qx_step, qx_g, qx_pf, ha, hf, if_true]; rw [if_pos ⟨trivial, hg⟩]) kk
theorem wp_gets {v : Value} (hd : decode (qx_code m) pc = .ok (.getstatic k, 3)) (hx : qx_sta m k = some v) (kk : wp_W L xs d m (pc + 3) lv (v :: r) h Q) : wp_W L xs d m pc lv r h Q := wp_s hd (by simp only [qx_step, qx_g, hx, if_true]) kk
end QXO
