def f_p_number (s : Nat → Int32) (a : Nat → Nat → Int32) (x : Int32) : Int32 := (f_numberOf s a x)
set_option maxRecDepth 100000 in
theorem c_p_number {L : Nat} {xs : Nat → Int32} {d : Nat} {h : List qx_E} {b : Nat} {s : Nat → Int32} {a : Nat → Nat → Int32} {n0 w0 : Int32} {b9 : Nat} {x : Int32} (ho : h[0]? = some (.inr (0, [.ref 1, .int n0, .int w0, .ref b, .ref b9]))) (hb : tb h b s a) (hw : tw s a) : qe_E L xs (d + 5) 107 [.ref 0, .int x] h (some (.int (f_p_number s a x))) h := by
  show wp_W L xs _ 107 0 [(0, .ref 0), (1, .int x)] [] h _
  refine wp_aload_n dq_107_0 rfl ?_
  refine wp_getf dq_107_1 fl_107_20 ho rfl ?_
  refine wp_ifnonnull (tgt := 11) dq_107_4 rfl ?_
  refine wp_aload_n dq_107_11 rfl ?_
  refine wp_getf dq_107_12 fl_107_20 ho rfl ?_
  refine wp_iload_n dq_107_15 rfl ?_
  refine wp_cve1 dq_107_16 mt_107_78 (ob_of (tb_c0 hb)) ⟨by decide +kernel, by decide +kernel⟩ (Nat.le_of_ble_eq_true rfl) (Nat.le_of_ble_eq_true rfl) (c_numberOf hb hw) ?_
  exact wp_ire dq_107_19 rfl ⟨rfl, Or.inl rfl⟩ ⟨by rw [f_p_number], rfl⟩

def f_n_number (x : Int32) : Int32 := (-1)
set_option maxRecDepth 100000 in
theorem c_n_number {L : Nat} {xs : Nat → Int32} {d : Nat} {h : List qx_E} {n0 w0 : Int32} {b9 : Nat} {x : Int32} (ho : h[0]? = some (.inr (0, [.ref 1, .int n0, .int w0, .null, .ref b9]))) : qe_E L xs (d + 2) 107 [.ref 0, .int x] h (some (.int (f_n_number x))) h := by
  show wp_W L xs _ 107 0 [(0, .ref 0), (1, .int x)] [] h _
  refine wp_aload_n dq_107_0 rfl ?_
  refine wp_getf dq_107_1 fl_107_20 ho rfl ?_
  refine wp_ifnonnullN dq_107_4 ?_
  refine wp_iconst (x := -1) dq_107_7 rfl ?_
  refine wp_goto (tgt := 19) dq_107_8 rfl ?_
  exact wp_ire dq_107_19 rfl ⟨rfl, Or.inl rfl⟩ ⟨by rw [f_n_number], rfl⟩

def f_p_flags (s : Nat → Int32) (a : Nat → Nat → Int32) (x : Int32) (k : Int32) : Int32 := (f_flagsOf s a x k)
set_option maxRecDepth 100000 in
theorem c_p_flags {L : Nat} {xs : Nat → Int32} {d : Nat} {h : List qx_E} {b : Nat} {s : Nat → Int32} {a : Nat → Nat → Int32} {n0 w0 : Int32} {b9 : Nat} {x : Int32} {k : Int32} (ho : h[0]? = some (.inr (0, [.ref 1, .int n0, .int w0, .ref b, .ref b9]))) (hb : tb h b s a) (hw : tw s a) : qe_E L xs (d + 6) 111 [.ref 0, .int x, .int k] h (some (.int (f_p_flags s a x k))) h := by
  show wp_W L xs _ 111 0 [(0, .ref 0), (1, .int x), (2, .int k)] [] h _
  refine wp_aload_n dq_111_0 rfl ?_
  refine wp_getf dq_111_1 fl_111_20 ho rfl ?_
  refine wp_ifnonnull (tgt := 11) dq_111_4 rfl ?_
  refine wp_aload_n dq_111_11 rfl ?_
  refine wp_getf dq_111_12 fl_111_20 ho rfl ?_
  refine wp_iload_n dq_111_15 rfl ?_
  refine wp_iload_n dq_111_16 rfl ?_
  refine wp_cve2 dq_111_17 mt_111_82 (ob_of (tb_c0 hb)) ⟨by decide +kernel, by decide +kernel⟩ (Nat.le_of_ble_eq_true rfl) (Nat.le_of_ble_eq_true rfl) (c_flagsOf hb hw) ?_
  exact wp_ire dq_111_20 rfl ⟨rfl, Or.inl rfl⟩ ⟨by rw [f_p_flags], rfl⟩

def f_n_flags (x : Int32) (k : Int32) : Int32 := (-1)
set_option maxRecDepth 100000 in
theorem c_n_flags {L : Nat} {xs : Nat → Int32} {d : Nat} {h : List qx_E} {n0 w0 : Int32} {b9 : Nat} {x : Int32} {k : Int32} (ho : h[0]? = some (.inr (0, [.ref 1, .int n0, .int w0, .null, .ref b9]))) : qe_E L xs (d + 2) 111 [.ref 0, .int x, .int k] h (some (.int (f_n_flags x k))) h := by
  show wp_W L xs _ 111 0 [(0, .ref 0), (1, .int x), (2, .int k)] [] h _
  refine wp_aload_n dq_111_0 rfl ?_
  refine wp_getf dq_111_1 fl_111_20 ho rfl ?_
  refine wp_ifnonnullN dq_111_4 ?_
  refine wp_iconst (x := -1) dq_111_7 rfl ?_
  refine wp_goto (tgt := 20) dq_111_8 rfl ?_
  exact wp_ire dq_111_20 rfl ⟨rfl, Or.inl rfl⟩ ⟨by rw [f_n_flags], rfl⟩

def f_p_text (s : Nat → Int32) (a : Nat → Nat → Int32) (x : Int32) (k : Int32) (e : Int32) : Int32 := (f_characterOf s a (f_textOf s a x k) e)
set_option maxRecDepth 100000 in
theorem c_p_text {L : Nat} {xs : Nat → Int32} {d : Nat} {h : List qx_E} {b : Nat} {s : Nat → Int32} {a : Nat → Nat → Int32} {n0 w0 : Int32} {b9 : Nat} {x : Int32} {k : Int32} {e : Int32} (ho : h[0]? = some (.inr (0, [.ref 1, .int n0, .int w0, .ref b, .ref b9]))) (hb : tb h b s a) (hw : tw s a) : qe_E L xs (d + 7) 114 [.ref 0, .int x, .int k, .int e] h (some (.int (f_p_text s a x k e))) h := by
  show wp_W L xs _ 114 0 [(0, .ref 0), (1, .int x), (2, .int k), (3, .int e)] [] h _
  refine wp_aload_n dq_114_0 rfl ?_
  refine wp_getf dq_114_1 fl_114_20 ho rfl ?_
  refine wp_ifnonnull (tgt := 11) dq_114_4 rfl ?_
  refine wp_aload_n dq_114_11 rfl ?_
  refine wp_getf dq_114_12 fl_114_20 ho rfl ?_
  refine wp_getf dq_114_15 fl_114_86 (tb_c0 hb) rfl ?_
  refine wp_aload_n dq_114_18 rfl ?_
  refine wp_getf dq_114_19 fl_114_20 ho rfl ?_
  refine wp_iload_n dq_114_22 rfl ?_
  refine wp_iload_n dq_114_23 rfl ?_
  refine wp_cve2 dq_114_24 mt_114_90 (ob_of (tb_c0 hb)) ⟨by decide +kernel, by decide +kernel⟩ (Nat.le_of_ble_eq_true rfl) (Nat.le_of_ble_eq_true rfl) (c_textOf hb hw) ?_
  refine wp_iload_n dq_114_27 rfl ?_
  refine wp_cve2 dq_114_28 mt_114_93 (ob_of (tb_c1 hb)) ⟨by decide +kernel, by decide +kernel⟩ (Nat.le_of_ble_eq_true rfl) (Nat.le_of_ble_eq_true rfl) (c_characterOf hb hw) ?_
  exact wp_ire dq_114_31 rfl ⟨rfl, Or.inl rfl⟩ ⟨by rw [f_p_text], rfl⟩

def f_n_text (x : Int32) (k : Int32) (e : Int32) : Int32 := (-1)
set_option maxRecDepth 100000 in
theorem c_n_text {L : Nat} {xs : Nat → Int32} {d : Nat} {h : List qx_E} {n0 w0 : Int32} {b9 : Nat} {x : Int32} {k : Int32} {e : Int32} (ho : h[0]? = some (.inr (0, [.ref 1, .int n0, .int w0, .null, .ref b9]))) : qe_E L xs (d + 2) 114 [.ref 0, .int x, .int k, .int e] h (some (.int (f_n_text x k e))) h := by
  show wp_W L xs _ 114 0 [(0, .ref 0), (1, .int x), (2, .int k), (3, .int e)] [] h _
  refine wp_aload_n dq_114_0 rfl ?_
  refine wp_getf dq_114_1 fl_114_20 ho rfl ?_
  refine wp_ifnonnullN dq_114_4 ?_
  refine wp_iconst (x := -1) dq_114_7 rfl ?_
  refine wp_goto (tgt := 31) dq_114_8 rfl ?_
  exact wp_ire dq_114_31 rfl ⟨rfl, Or.inl rfl⟩ ⟨by rw [f_n_text], rfl⟩

def f_p_exceptions (s : Nat → Int32) (a : Nat → Nat → Int32) (k : Int32) : Int32 := (if (f_has s a 1 k) = 0 then (-1) else (f_elementsOf s a 1 k 4))
set_option maxRecDepth 100000 in
theorem c_p_exceptions {L : Nat} {xs : Nat → Int32} {d : Nat} {h : List qx_E} {b : Nat} {s : Nat → Int32} {a : Nat → Nat → Int32} {n0 w0 : Int32} {b9 : Nat} {k : Int32} (ho : h[0]? = some (.inr (0, [.ref 1, .int n0, .int w0, .ref b, .ref b9]))) (hb : tb h b s a) (hw : tw s a) : qe_E L xs (d + 4) 117 [.ref 0, .int k] h (some (.int (f_p_exceptions s a k))) h := by
  show wp_W L xs _ 117 0 [(0, .ref 0), (1, .int k)] [] h _
  refine wp_aload_n dq_117_0 rfl ?_
  refine wp_getf dq_117_1 fl_117_20 ho rfl ?_
  refine wp_ifnull dq_117_4 ?_
  refine wp_aload_n dq_117_7 rfl ?_
  refine wp_getf dq_117_8 fl_117_20 ho rfl ?_
  refine wp_iconst (x := 1) dq_117_11 rfl ?_
  refine wp_iload_n dq_117_12 rfl ?_
  refine wp_cve2 dq_117_13 mt_117_98 (ob_of (tb_c0 hb)) ⟨by decide +kernel, by decide +kernel⟩ (Nat.le_of_ble_eq_true rfl) (Nat.le_of_ble_eq_true rfl) (c_has hb) ?_
  refine wp_if_ne (tgt := 21) dq_117_16 rfl (fun c1 => ?_) (fun c1 => ?_)
  · refine wp_aload_n dq_117_21 rfl ?_
    refine wp_getf dq_117_22 fl_117_20 ho rfl ?_
    refine wp_iconst (x := 1) dq_117_25 rfl ?_
    refine wp_iload_n dq_117_26 rfl ?_
    refine wp_gets (v := .retAddr 4) dq_117_27 (by decide +kernel) ?_
    refine wp_cve3 dq_117_30 mt_117_108 (ob_of (tb_c0 hb)) ⟨by decide +kernel, by decide +kernel⟩ (Nat.le_of_ble_eq_true rfl) (Nat.le_of_ble_eq_true rfl) (c_elementsOf (by decide) hb hw) ?_
    exact wp_ire dq_117_33 rfl ⟨rfl, Or.inl rfl⟩ ⟨by rw [f_p_exceptions, if_neg c1], rfl⟩
  · refine wp_iconst (x := -1) dq_117_19 rfl ?_
    exact wp_ire dq_117_20 rfl ⟨rfl, Or.inl rfl⟩ ⟨by rw [f_p_exceptions, if_pos c1], rfl⟩

def f_n_exceptions (k : Int32) : Int32 := (-1)
set_option maxRecDepth 100000 in
theorem c_n_exceptions {L : Nat} {xs : Nat → Int32} {d : Nat} {h : List qx_E} {n0 w0 : Int32} {b9 : Nat} {k : Int32} (ho : h[0]? = some (.inr (0, [.ref 1, .int n0, .int w0, .null, .ref b9]))) : qe_E L xs (d + 2) 117 [.ref 0, .int k] h (some (.int (f_n_exceptions k))) h := by
  show wp_W L xs _ 117 0 [(0, .ref 0), (1, .int k)] [] h _
  refine wp_aload_n dq_117_0 rfl ?_
  refine wp_getf dq_117_1 fl_117_20 ho rfl ?_
  refine wp_ifnullN (tgt := 19) dq_117_4 rfl ?_
  refine wp_iconst (x := -1) dq_117_19 rfl ?_
  exact wp_ire dq_117_20 rfl ⟨rfl, Or.inl rfl⟩ ⟨by rw [f_n_exceptions], rfl⟩

def f_p_exception (s : Nat → Int32) (a : Nat → Nat → Int32) (k : Int32) (e : Int32) (i : Int32) : Int32 := (f_characterOf s a (f_classText s a (f_elementItem s a 1 k 4 e 0)) i)
set_option maxRecDepth 100000 in
theorem c_p_exception {L : Nat} {xs : Nat → Int32} {d : Nat} {h : List qx_E} {b : Nat} {s : Nat → Int32} {a : Nat → Nat → Int32} {n0 w0 : Int32} {b9 : Nat} {k : Int32} {e : Int32} {i : Int32} (ho : h[0]? = some (.inr (0, [.ref 1, .int n0, .int w0, .ref b, .ref b9]))) (hb : tb h b s a) (hw : tw s a) : qe_E L xs (d + 5) 118 [.ref 0, .int k, .int e, .int i] h (some (.int (f_p_exception s a k e i))) h := by
  show wp_W L xs _ 118 0 [(0, .ref 0), (1, .int k), (2, .int e), (3, .int i)] [] h _
  refine wp_aload_n dq_118_0 rfl ?_
  refine wp_getf dq_118_1 fl_118_20 ho rfl ?_
  refine wp_ifnonnull (tgt := 9) dq_118_4 rfl ?_
  refine wp_aload_n dq_118_9 rfl ?_
  refine wp_getf dq_118_10 fl_118_20 ho rfl ?_
  refine wp_iconst (x := 1) dq_118_13 rfl ?_
  refine wp_iload_n dq_118_14 rfl ?_
  refine wp_gets (v := .retAddr 4) dq_118_15 (by decide +kernel) ?_
  refine wp_iload_n dq_118_18 rfl ?_
  refine wp_iconst (x := 0) dq_118_19 rfl ?_
  refine wp_cve5 dq_118_20 mt_118_112 (ob_of (tb_c0 hb)) ⟨by decide +kernel, by decide +kernel⟩ (Nat.le_of_ble_eq_true rfl) (Nat.le_of_ble_eq_true rfl) (c_elementItem (by decide) hb hw) ?_
  refine wp_istore (lv' := [(0, .ref 0), (1, .int k), (2, .int e), (3, .int i), (4, .int (f_elementItem s a 1 k 4 e 0))]) dq_118_23 (by decide) rfl ?_
  refine wp_aload_n dq_118_25 rfl ?_
  refine wp_getf dq_118_26 fl_118_20 ho rfl ?_
  refine wp_getf dq_118_29 fl_118_86 (tb_c0 hb) rfl ?_
  refine wp_aload_n dq_118_32 rfl ?_
  refine wp_getf dq_118_33 fl_118_20 ho rfl ?_
  refine wp_getf dq_118_36 fl_118_86 (tb_c0 hb) rfl ?_
  refine wp_iload dq_118_39 rfl ?_
  refine wp_cve1 dq_118_41 mt_118_116 (ob_of (tb_c1 hb)) ⟨by decide +kernel, by decide +kernel⟩ (Nat.le_of_ble_eq_true rfl) (Nat.le_of_ble_eq_true rfl) (c_classText hb hw) ?_
  refine wp_iload_n dq_118_44 rfl ?_
  refine wp_cve2 dq_118_45 mt_118_93 (ob_of (tb_c1 hb)) ⟨by decide +kernel, by decide +kernel⟩ (Nat.le_of_ble_eq_true rfl) (Nat.le_of_ble_eq_true rfl) (c_characterOf hb hw) ?_
  exact wp_ire dq_118_48 rfl ⟨rfl, Or.inl rfl⟩ ⟨by rw [f_p_exception], rfl⟩

def f_n_exception (k : Int32) (e : Int32) (i : Int32) : Int32 := (-1)
set_option maxRecDepth 100000 in
theorem c_n_exception {L : Nat} {xs : Nat → Int32} {d : Nat} {h : List qx_E} {n0 w0 : Int32} {b9 : Nat} {k : Int32} {e : Int32} {i : Int32} (ho : h[0]? = some (.inr (0, [.ref 1, .int n0, .int w0, .null, .ref b9]))) : qe_E L xs (d + 2) 118 [.ref 0, .int k, .int e, .int i] h (some (.int (f_n_exception k e i))) h := by
  show wp_W L xs _ 118 0 [(0, .ref 0), (1, .int k), (2, .int e), (3, .int i)] [] h _
  refine wp_aload_n dq_118_0 rfl ?_
  refine wp_getf dq_118_1 fl_118_20 ho rfl ?_
  refine wp_ifnonnullN dq_118_4 ?_
  refine wp_iconst (x := -1) dq_118_7 rfl ?_
  exact wp_ire dq_118_8 rfl ⟨rfl, Or.inl rfl⟩ ⟨by rw [f_n_exception], rfl⟩

def f_p_constant (s : Nat → Int32) (a : Nat → Nat → Int32) (k : Int32) : Int64 := (f_constantOf s a (f_contentItem s a 0 k 3))
set_option maxRecDepth 100000 in
theorem c_p_constant {L : Nat} {xs : Nat → Int32} {d : Nat} {h : List qx_E} {b : Nat} {s : Nat → Int32} {a : Nat → Nat → Int32} {n0 w0 : Int32} {b9 : Nat} {k : Int32} (ho : h[0]? = some (.inr (0, [.ref 1, .int n0, .int w0, .ref b, .ref b9]))) (hb : tb h b s a) (hw : tw s a) : qe_E L xs (d + 3) 119 [.ref 0, .int k] h (some (.long (f_p_constant s a k))) h := by
  show wp_W L xs _ 119 0 [(0, .ref 0), (1, .int k)] [] h _
  refine wp_aload_n dq_119_0 rfl ?_
  refine wp_getf dq_119_1 fl_119_20 ho rfl ?_
  refine wp_ifnonnull (tgt := 11) dq_119_4 rfl ?_
  refine wp_aload_n dq_119_11 rfl ?_
  refine wp_getf dq_119_12 fl_119_20 ho rfl ?_
  refine wp_getf dq_119_15 fl_119_86 (tb_c0 hb) rfl ?_
  refine wp_aload_n dq_119_18 rfl ?_
  refine wp_getf dq_119_19 fl_119_20 ho rfl ?_
  refine wp_iconst (x := 0) dq_119_22 rfl ?_
  refine wp_iload_n dq_119_23 rfl ?_
  refine wp_gets (v := .retAddr 3) dq_119_24 (by decide +kernel) ?_
  refine wp_cve3 dq_119_27 mt_119_124 (ob_of (tb_c0 hb)) ⟨by decide +kernel, by decide +kernel⟩ (Nat.le_of_ble_eq_true rfl) (Nat.le_of_ble_eq_true rfl) (c_contentItem (by decide) hb hw) ?_
  refine wp_cve1 dq_119_30 mt_119_127 (ob_of (tb_c1 hb)) ⟨by decide +kernel, by decide +kernel⟩ (Nat.le_of_ble_eq_true rfl) (Nat.le_of_ble_eq_true rfl) (c_constantOf hb hw) ?_
  exact wp_lre dq_119_33 rfl ⟨by rw [f_p_constant], rfl⟩

def f_n_constant (k : Int32) : Int64 := 1000000000000000000
set_option maxRecDepth 100000 in
theorem c_n_constant {L : Nat} {xs : Nat → Int32} {d : Nat} {h : List qx_E} {n0 w0 : Int32} {b9 : Nat} {k : Int32} (ho : h[0]? = some (.inr (0, [.ref 1, .int n0, .int w0, .null, .ref b9]))) : qe_E L xs (d + 2) 119 [.ref 0, .int k] h (some (.long (f_n_constant k))) h := by
  show wp_W L xs _ 119 0 [(0, .ref 0), (1, .int k)] [] h _
  refine wp_aload_n dq_119_0 rfl ?_
  refine wp_getf dq_119_1 fl_119_20 ho rfl ?_
  refine wp_ifnonnullN dq_119_4 ?_
  refine wp_ldc2 (v := 1000000000000000000) dq_119_7 (by decide +kernel) ?_
  exact wp_lre dq_119_10 rfl ⟨by rw [f_n_constant], rfl⟩

def f_p_deprecated (s : Nat → Int32) (a : Nat → Nat → Int32) (x : Int32) (k : Int32) : Int32 := (if x = 0 then (if (f_has s a x k) = 0 then (-1) else (if (f_contentOf s a x k 2) = 0 then 0 else 1)) else (if x = 1 then (if (f_has s a x k) = 0 then (-1) else (if (f_contentOf s a x k 2) = 0 then 0 else 1)) else (if x = 2 then (if (f_has s a x k) = 0 then (-1) else (if (f_contentOf s a x k 2) = 0 then 0 else 1)) else (-1))))
set_option maxRecDepth 100000 in
theorem c_p_deprecated {L : Nat} {xs : Nat → Int32} {d : Nat} {h : List qx_E} {b : Nat} {s : Nat → Int32} {a : Nat → Nat → Int32} {n0 w0 : Int32} {b9 : Nat} {x : Int32} {k : Int32} (ho : h[0]? = some (.inr (0, [.ref 1, .int n0, .int w0, .ref b, .ref b9]))) (hb : tb h b s a) (hw : tw s a) : qe_E L xs (d + 2) 121 [.ref 0, .int x, .int k] h (some (.int (f_p_deprecated s a x k))) h := by
  show wp_W L xs _ 121 0 [(0, .ref 0), (1, .int x), (2, .int k)] [] h _
  refine wp_iload_n dq_121_0 rfl ?_
  refine wp_if_eq (tgt := 14) dq_121_1 rfl (fun c1 => ?_) (fun c1 => ?_)
  · refine wp_iconst (x := 1) dq_121_14 rfl ?_
    refine wp_goto (tgt := 19) dq_121_15 rfl ?_
    refine wp_istore_n (lv' := [(0, .ref 0), (1, .int x), (2, .int k), (3, .int 1)]) dq_121_19 (by decide) rfl ?_
    refine wp_aload_n dq_121_20 rfl ?_
    refine wp_getf dq_121_21 fl_121_20 ho rfl ?_
    refine wp_ifnull dq_121_24 ?_
    refine wp_iload_n dq_121_27 rfl ?_
    refine wp_if_eq (tgt := 43) dq_121_28 rfl (fun c9 => absurd c9 (by decide)) (fun _ => ?_)
    refine wp_aload_n dq_121_31 rfl ?_
    refine wp_getf dq_121_32 fl_121_20 ho rfl ?_
    refine wp_iload_n dq_121_35 rfl ?_
    refine wp_iload_n dq_121_36 rfl ?_
    refine wp_cve2 dq_121_37 mt_121_98 (ob_of (tb_c0 hb)) ⟨by decide +kernel, by decide +kernel⟩ (Nat.le_of_ble_eq_true rfl) (Nat.le_of_ble_eq_true rfl) (c_has hb) ?_
    refine wp_if_ne (tgt := 45) dq_121_40 rfl (fun c2 => ?_) (fun c2 => ?_)
    · refine wp_aload_n dq_121_45 rfl ?_
      refine wp_getf dq_121_46 fl_121_20 ho rfl ?_
      refine wp_iload_n dq_121_49 rfl ?_
      refine wp_iload_n dq_121_50 rfl ?_
      refine wp_gets (v := .retAddr 2) dq_121_51 (by decide +kernel) ?_
      refine wp_cve3 dq_121_54 mt_121_134 (ob_of (tb_c0 hb)) ⟨by decide +kernel, by decide +kernel⟩ (Nat.le_of_ble_eq_true rfl) (Nat.le_of_ble_eq_true rfl) (c_contentOf (by decide) hb hw) ?_
      refine wp_if_ne (tgt := 64) dq_121_57 rfl (fun c3 => ?_) (fun c3 => ?_)
      · refine wp_iconst (x := 1) dq_121_64 rfl ?_
        exact wp_ire dq_121_65 rfl ⟨rfl, Or.inl rfl⟩ ⟨by rw [f_p_deprecated, if_pos c1, if_neg c2, if_neg c3], rfl⟩
      · refine wp_iconst (x := 0) dq_121_60 rfl ?_
        refine wp_goto (tgt := 65) dq_121_61 rfl ?_
        exact wp_ire dq_121_65 rfl ⟨rfl, Or.inl rfl⟩ ⟨by rw [f_p_deprecated, if_pos c1, if_neg c2, if_pos c3], rfl⟩
    · refine wp_iconst (x := -1) dq_121_43 rfl ?_
      exact wp_ire dq_121_44 rfl ⟨rfl, Or.inl rfl⟩ ⟨by rw [f_p_deprecated, if_pos c1, if_pos c2], rfl⟩
  · refine wp_iload_n dq_121_4 rfl ?_
    refine wp_iconst (x := 1) dq_121_5 rfl ?_
    refine wp_ic_eq (tgt := 14) dq_121_6 rfl (fun c4 => ?_) (fun c4 => ?_)
    · refine wp_iconst (x := 1) dq_121_14 rfl ?_
      refine wp_goto (tgt := 19) dq_121_15 rfl ?_
      refine wp_istore_n (lv' := [(0, .ref 0), (1, .int x), (2, .int k), (3, .int 1)]) dq_121_19 (by decide) rfl ?_
      refine wp_aload_n dq_121_20 rfl ?_
      refine wp_getf dq_121_21 fl_121_20 ho rfl ?_
      refine wp_ifnull dq_121_24 ?_
      refine wp_iload_n dq_121_27 rfl ?_
      refine wp_if_eq (tgt := 43) dq_121_28 rfl (fun c9 => absurd c9 (by decide)) (fun _ => ?_)
      refine wp_aload_n dq_121_31 rfl ?_
      refine wp_getf dq_121_32 fl_121_20 ho rfl ?_
      refine wp_iload_n dq_121_35 rfl ?_
      refine wp_iload_n dq_121_36 rfl ?_
      refine wp_cve2 dq_121_37 mt_121_98 (ob_of (tb_c0 hb)) ⟨by decide +kernel, by decide +kernel⟩ (Nat.le_of_ble_eq_true rfl) (Nat.le_of_ble_eq_true rfl) (c_has hb) ?_
      refine wp_if_ne (tgt := 45) dq_121_40 rfl (fun c5 => ?_) (fun c5 => ?_)
      · refine wp_aload_n dq_121_45 rfl ?_
        refine wp_getf dq_121_46 fl_121_20 ho rfl ?_
        refine wp_iload_n dq_121_49 rfl ?_
        refine wp_iload_n dq_121_50 rfl ?_
        refine wp_gets (v := .retAddr 2) dq_121_51 (by decide +kernel) ?_
        refine wp_cve3 dq_121_54 mt_121_134 (ob_of (tb_c0 hb)) ⟨by decide +kernel, by decide +kernel⟩ (Nat.le_of_ble_eq_true rfl) (Nat.le_of_ble_eq_true rfl) (c_contentOf (by decide) hb hw) ?_
        refine wp_if_ne (tgt := 64) dq_121_57 rfl (fun c6 => ?_) (fun c6 => ?_)
        · refine wp_iconst (x := 1) dq_121_64 rfl ?_
          exact wp_ire dq_121_65 rfl ⟨rfl, Or.inl rfl⟩ ⟨by rw [f_p_deprecated, if_neg c1, if_pos c4, if_neg c5, if_neg c6], rfl⟩
        · refine wp_iconst (x := 0) dq_121_60 rfl ?_
          refine wp_goto (tgt := 65) dq_121_61 rfl ?_
          exact wp_ire dq_121_65 rfl ⟨rfl, Or.inl rfl⟩ ⟨by rw [f_p_deprecated, if_neg c1, if_pos c4, if_neg c5, if_pos c6], rfl⟩
      · refine wp_iconst (x := -1) dq_121_43 rfl ?_
        exact wp_ire dq_121_44 rfl ⟨rfl, Or.inl rfl⟩ ⟨by rw [f_p_deprecated, if_neg c1, if_pos c4, if_pos c5], rfl⟩
    · refine wp_iload_n dq_121_9 rfl ?_
      refine wp_iconst (x := 2) dq_121_10 rfl ?_
      refine wp_ic_ne (tgt := 18) dq_121_11 rfl (fun c7 => ?_) (fun c7 => ?_)
      · refine wp_iconst (x := 0) dq_121_18 rfl ?_
        refine wp_istore_n (lv' := [(0, .ref 0), (1, .int x), (2, .int k), (3, .int 0)]) dq_121_19 (by decide) rfl ?_
        refine wp_aload_n dq_121_20 rfl ?_
        refine wp_getf dq_121_21 fl_121_20 ho rfl ?_
        refine wp_ifnull dq_121_24 ?_
        refine wp_iload_n dq_121_27 rfl ?_
        refine wp_if_eq (tgt := 43) dq_121_28 rfl (fun _ => ?_) (fun c9 => absurd c9 (by decide))
        refine wp_iconst (x := -1) dq_121_43 rfl ?_
        exact wp_ire dq_121_44 rfl ⟨rfl, Or.inl rfl⟩ ⟨by rw [f_p_deprecated, if_neg c1, if_neg c4, if_neg c7], rfl⟩
      · refine wp_iconst (x := 1) dq_121_14 rfl ?_
        refine wp_goto (tgt := 19) dq_121_15 rfl ?_
        refine wp_istore_n (lv' := [(0, .ref 0), (1, .int x), (2, .int k), (3, .int 1)]) dq_121_19 (by decide) rfl ?_
        refine wp_aload_n dq_121_20 rfl ?_
        refine wp_getf dq_121_21 fl_121_20 ho rfl ?_
        refine wp_ifnull dq_121_24 ?_
        refine wp_iload_n dq_121_27 rfl ?_
        refine wp_if_eq (tgt := 43) dq_121_28 rfl (fun c9 => absurd c9 (by decide)) (fun _ => ?_)
        refine wp_aload_n dq_121_31 rfl ?_
        refine wp_getf dq_121_32 fl_121_20 ho rfl ?_
        refine wp_iload_n dq_121_35 rfl ?_
        refine wp_iload_n dq_121_36 rfl ?_
        refine wp_cve2 dq_121_37 mt_121_98 (ob_of (tb_c0 hb)) ⟨by decide +kernel, by decide +kernel⟩ (Nat.le_of_ble_eq_true rfl) (Nat.le_of_ble_eq_true rfl) (c_has hb) ?_
        refine wp_if_ne (tgt := 45) dq_121_40 rfl (fun c8 => ?_) (fun c8 => ?_)
        · refine wp_aload_n dq_121_45 rfl ?_
          refine wp_getf dq_121_46 fl_121_20 ho rfl ?_
          refine wp_iload_n dq_121_49 rfl ?_
          refine wp_iload_n dq_121_50 rfl ?_
          refine wp_gets (v := .retAddr 2) dq_121_51 (by decide +kernel) ?_
          refine wp_cve3 dq_121_54 mt_121_134 (ob_of (tb_c0 hb)) ⟨by decide +kernel, by decide +kernel⟩ (Nat.le_of_ble_eq_true rfl) (Nat.le_of_ble_eq_true rfl) (c_contentOf (by decide) hb hw) ?_
          refine wp_if_ne (tgt := 64) dq_121_57 rfl (fun c9 => ?_) (fun c9 => ?_)
          · refine wp_iconst (x := 1) dq_121_64 rfl ?_
            exact wp_ire dq_121_65 rfl ⟨rfl, Or.inl rfl⟩ ⟨by rw [f_p_deprecated, if_neg c1, if_neg c4, if_pos c7, if_neg c8, if_neg c9], rfl⟩
          · refine wp_iconst (x := 0) dq_121_60 rfl ?_
            refine wp_goto (tgt := 65) dq_121_61 rfl ?_
            exact wp_ire dq_121_65 rfl ⟨rfl, Or.inl rfl⟩ ⟨by rw [f_p_deprecated, if_neg c1, if_neg c4, if_pos c7, if_neg c8, if_pos c9], rfl⟩
        · refine wp_iconst (x := -1) dq_121_43 rfl ?_
          exact wp_ire dq_121_44 rfl ⟨rfl, Or.inl rfl⟩ ⟨by rw [f_p_deprecated, if_neg c1, if_neg c4, if_pos c7, if_pos c8], rfl⟩

def f_n_deprecated (x : Int32) (k : Int32) : Int32 := (if x = 0 then (-1) else (if x = 1 then (-1) else (if x = 2 then (-1) else (-1))))
set_option maxRecDepth 100000 in
theorem c_n_deprecated {L : Nat} {xs : Nat → Int32} {d : Nat} {h : List qx_E} {n0 w0 : Int32} {b9 : Nat} {x : Int32} {k : Int32} (ho : h[0]? = some (.inr (0, [.ref 1, .int n0, .int w0, .null, .ref b9]))) : qe_E L xs (d + 2) 121 [.ref 0, .int x, .int k] h (some (.int (f_n_deprecated x k))) h := by
  show wp_W L xs _ 121 0 [(0, .ref 0), (1, .int x), (2, .int k)] [] h _
  refine wp_iload_n dq_121_0 rfl ?_
  refine wp_if_eq (tgt := 14) dq_121_1 rfl (fun c1 => ?_) (fun c1 => ?_)
  · refine wp_iconst (x := 1) dq_121_14 rfl ?_
    refine wp_goto (tgt := 19) dq_121_15 rfl ?_
    refine wp_istore_n (lv' := [(0, .ref 0), (1, .int x), (2, .int k), (3, .int 1)]) dq_121_19 (by decide) rfl ?_
    refine wp_aload_n dq_121_20 rfl ?_
    refine wp_getf dq_121_21 fl_121_20 ho rfl ?_
    refine wp_ifnullN (tgt := 43) dq_121_24 rfl ?_
    refine wp_iconst (x := -1) dq_121_43 rfl ?_
    exact wp_ire dq_121_44 rfl ⟨rfl, Or.inl rfl⟩ ⟨by rw [f_n_deprecated, if_pos c1], rfl⟩
  · refine wp_iload_n dq_121_4 rfl ?_
    refine wp_iconst (x := 1) dq_121_5 rfl ?_
    refine wp_ic_eq (tgt := 14) dq_121_6 rfl (fun c2 => ?_) (fun c2 => ?_)
    · refine wp_iconst (x := 1) dq_121_14 rfl ?_
      refine wp_goto (tgt := 19) dq_121_15 rfl ?_
      refine wp_istore_n (lv' := [(0, .ref 0), (1, .int x), (2, .int k), (3, .int 1)]) dq_121_19 (by decide) rfl ?_
      refine wp_aload_n dq_121_20 rfl ?_
      refine wp_getf dq_121_21 fl_121_20 ho rfl ?_
      refine wp_ifnullN (tgt := 43) dq_121_24 rfl ?_
      refine wp_iconst (x := -1) dq_121_43 rfl ?_
      exact wp_ire dq_121_44 rfl ⟨rfl, Or.inl rfl⟩ ⟨by rw [f_n_deprecated, if_neg c1, if_pos c2], rfl⟩
    · refine wp_iload_n dq_121_9 rfl ?_
      refine wp_iconst (x := 2) dq_121_10 rfl ?_
      refine wp_ic_ne (tgt := 18) dq_121_11 rfl (fun c3 => ?_) (fun c3 => ?_)
      · refine wp_iconst (x := 0) dq_121_18 rfl ?_
        refine wp_istore_n (lv' := [(0, .ref 0), (1, .int x), (2, .int k), (3, .int 0)]) dq_121_19 (by decide) rfl ?_
        refine wp_aload_n dq_121_20 rfl ?_
        refine wp_getf dq_121_21 fl_121_20 ho rfl ?_
        refine wp_ifnullN (tgt := 43) dq_121_24 rfl ?_
        refine wp_iconst (x := -1) dq_121_43 rfl ?_
        exact wp_ire dq_121_44 rfl ⟨rfl, Or.inl rfl⟩ ⟨by rw [f_n_deprecated, if_neg c1, if_neg c2, if_neg c3], rfl⟩
      · refine wp_iconst (x := 1) dq_121_14 rfl ?_
        refine wp_goto (tgt := 19) dq_121_15 rfl ?_
        refine wp_istore_n (lv' := [(0, .ref 0), (1, .int x), (2, .int k), (3, .int 1)]) dq_121_19 (by decide) rfl ?_
        refine wp_aload_n dq_121_20 rfl ?_
        refine wp_getf dq_121_21 fl_121_20 ho rfl ?_
        refine wp_ifnullN (tgt := 43) dq_121_24 rfl ?_
        refine wp_iconst (x := -1) dq_121_43 rfl ?_
        exact wp_ire dq_121_44 rfl ⟨rfl, Or.inl rfl⟩ ⟨by rw [f_n_deprecated, if_neg c1, if_neg c2, if_pos c3], rfl⟩

