/-! RUNS OF THE SMALL MACHINE, goal first: from here the method ends, with an answer and a heap that are in Q -/
theorem qx_run_up {L : Nat} {xs : Nat → Int32} : ∀ (n d m pc : Nat) (lv : qx_L) (st : List Value) (h : List qx_E) (r : Option Value × List qx_E), qx_run L xs n d m pc lv st h = some r → qx_run L xs (n + 1) d m pc lv st h = some r := by
  intro n
  induction n with
  | zero => intro d m pc lv st h r e; cases e
  | succ n ih =>
    intro d m pc lv st h r e
    unfold qx_run at e ⊢
    split at e
    · rename_i hd
      try rw [hd]
      try dsimp only
      split at e
      · rename_i hs
        try rw [hs]
        try dsimp only
        exact ih _ _ _ _ _ _ _ e
      · rename_i hs
        try rw [hs]
        try dsimp only
        split at e
        · rename_i hr
          try rw [hr]
          exact e
        · rename_i hr
          try rw [hr]
          try dsimp only
          split at e
          · rename_i hc
            try rw [hc]
            try dsimp only
            split at e
            · rename_i hg
              try rw [if_pos hg]
              split at e
              · rename_i hk
                first | rw [ih _ _ _ _ _ _ _ hk] | (have hk2 := ih _ _ _ _ _ _ _ hk; simp only [hk2])
                try dsimp only
                exact ih _ _ _ _ _ _ _ e
              · cases e
            · cases e
          · cases e
    · cases e
theorem qx_run_ups {L : Nat} {xs : Nat → Int32} {n d m pc : Nat} {lv : qx_L} {st : List Value} {h : List qx_E} {r : Option Value × List qx_E} (e : qx_run L xs n d m pc lv st h = some r) (k : Nat) : qx_run L xs (n + k) d m pc lv st h = some r := by
  induction k with
  | zero => exact e
  | succ k ih => exact qx_run_up _ _ _ _ _ _ _ _ ih
def wp_W (L : Nat) (xs : Nat → Int32) (d m pc : Nat) (lv : qx_L) (st : List Value) (h : List qx_E) (Q : Option Value → List qx_E → Prop) : Prop := ∃ (n : Nat) (v : Option Value) (h' : List qx_E), qx_run L xs n d m pc lv st h = some (v, h') ∧ Q v h'
section QXW
variable {L : Nat} {xs : Nat → Int32} {d m pc pc' len : Nat} {i : Instr} {lv lv' : qx_L} {st st' : List Value} {h h' : List qx_E} {Q Q' : Option Value → List qx_E → Prop} {v : Option Value}
theorem wp_mono (k : wp_W L xs d m pc lv st h Q) (hq : ∀ v h', Q v h' → Q' v h') : wp_W L xs d m pc lv st h Q' := by
  obtain ⟨n, v, h', e, q⟩ := k
  exact ⟨n, v, h', e, hq v h' q⟩
/-- one instruction -/
theorem wp_s (hd : decode (qx_code m) pc = .ok (i, len)) (hs : qx_step L xs d m pc i len lv st h = some (pc', lv', st', h')) (k : wp_W L xs d m pc' lv' st' h' Q) : wp_W L xs d m pc lv st h Q := by
  obtain ⟨n, v, h2, e, q⟩ := k
  refine ⟨n + 1, v, h2, ?_, q⟩
  unfold qx_run
  rw [hd]
  dsimp only
  rw [hs]
  exact e
/-- a return -/
theorem wp_r (hd : decode (qx_code m) pc = .ok (i, len)) (hs : qx_step L xs d m pc i len lv st h = none) (hr : qx_re m i len st = some v) (q : Q v h) : wp_W L xs d m pc lv st h Q := by
  refine ⟨1, v, h, ?_, q⟩
  unfold qx_run
  rw [hd]
  dsimp only
  rw [hs]
  dsimp only
  rw [hr]
/-- a call -/
theorem wp_c {y k : Nat} (hd : decode (qx_code m) pc = .ok (i, len)) (hs : qx_step L xs (d + 1) m pc i len lv st h = none) (hr : qx_re m i len st = none) (hc : qx_ca m i len st h = some (y, k)) (hg : k ≤ st.length ∧ ((st.drop k).map fun v => v.category).sum ≤ 8 ∧ (lg_sl (st.take k).reverse).length ≤ qx_mL y) (kk : wp_W L xs d y 0 (lv_args 0 (st.take k).reverse) [] h (fun v h' => wp_W L xs (d + 1) m (pc + 3) lv (v.toList ++ st.drop k) h' Q)) : wp_W L xs (d + 1) m pc lv st h Q := by
  obtain ⟨n1, v1, h1, e1, n2, v2, h2, e2, q⟩ := kk
  have f1 := qx_run_ups e1 n2
  have f2 := qx_run_ups e2 n1
  rw [Nat.add_comm n2 n1] at f2
  refine ⟨n1 + n2 + 1, v2, h2, ?_, q⟩
  unfold qx_run
  rw [hd]
  dsimp only
  rw [hs]
  dsimp only
  rw [hr]
  dsimp only
  rw [hc]
  dsimp only
  rw [if_pos ⟨Nat.succ_le_succ (Nat.zero_le d), hg⟩, Nat.add_sub_cancel, f1]
  exact f2
end QXW
