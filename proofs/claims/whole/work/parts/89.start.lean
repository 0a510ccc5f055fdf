set_option maxRecDepth 100000 in
theorem W_start {L : Nat} {xs : Nat → Int32} {d : Nat} (hL : L ≤ 2048) : wp_W L xs (d + 12) 188 0 [(0, .retAddr 0)] [] [] (fun v h' => v = some (.int 1) ∧ ∃ k, k ≤ 512 ∧ J h' k) := by
  refine wp_new (ci := 0) (fs := [.null, .int 0, .int 0, .null, .null]) dq_188_0 (by decide +kernel) ?_
  refine wp_dup dq_188_3 rfl ?_
  refine wp_ci0 dq_188_4 (by decide +kernel) mt_188_9 (by decide +kernel) (Nat.le_of_ble_eq_true rfl) (Nat.le_of_ble_eq_true rfl) (c_cfrI (d := d + 7) (b := 0) (g := []) rfl) (fun v9 h9 q9 => ?_)
  obtain ⟨rfl, e9⟩ := q9
  have hl : h9.length = 13 := by rw [e9]; rfl
  refine wp_astore_n (lv' := [(0, .retAddr 0), (1, .ref 0)]) dq_188_7 (by decide) rfl ?_
  refine wp_new (ci := 5) (fs := [.null, .int 0, .null, .null, .null, .int 0, .int 0, .int 0, .int 0, .int 0]) dq_188_8 (by decide +kernel) ?_
  rw [hl]
  refine wp_dup dq_188_11 rfl ?_
  refine wp_ci0 dq_188_12 (by decide +kernel) mt_188_12 (by decide +kernel) (Nat.le_of_ble_eq_true rfl) (Nat.le_of_ble_eq_true rfl) (c_cfmI (d := d + 10) (b := 13) hl) (fun v8 h8 q8 => ?_)
  obtain ⟨rfl, e8⟩ := q8
  rw [e9] at e8
  clear e9 hl
  refine wp_astore_n (lv' := [(0, .retAddr 0), (1, .ref 0), (2, .ref 13)]) dq_188_15 (by decide) rfl ?_
  refine wp_iconst (x := nI (4 * 0)) dq_188_16 rfl ?_
  refine wp_istore_n (lv' := [(0, .retAddr 0), (1, .ref 0), (2, .ref 13), (3, .int (nI (4 * 0)))]) dq_188_17 (by decide) rfl ?_
  refine W_loop hL (fun h' k hJ hk => ⟨rfl, k, hk, hJ⟩) 512 0 h8 ?_ (by omega) (by omega)
  subst e8
  refine ⟨Nat.le_of_ble_eq_true rfl, Nat.le_of_ble_eq_true rfl, ?_, fun _ => 0, 0, -1, none, ?_, ?_⟩
  · intro k c hc
    have hk := (List.getElem?_eq_some_iff.mp hc).1
    have hk : k < 18 := hk
    rcases (show k = 0 ∨ k = 1 ∨ k = 2 ∨ k = 3 ∨ k = 4 ∨ k = 5 ∨ k = 6 ∨ k = 7 ∨ k = 8 ∨ k = 9 ∨ k = 10 ∨ k = 11 ∨ k = 12 ∨ k = 13 ∨ k = 14 ∨ k = 15 ∨ k = 16 ∨ k = 17 by omega) with rfl | rfl | rfl | rfl | rfl | rfl | rfl | rfl | rfl | rfl | rfl | rfl | rfl | rfl | rfl | rfl | rfl | rfl
    all_goals (cases hc; exact Nat.le_of_ble_eq_true rfl)
  · exact ⟨fun _ => 0, 2, fun i => if i = 4 then -1 else 0, fun _ _ => 0, .null, rfl, rfl, ⟨fun j _ => ⟨(by decide : (0 : Int32) &&& 255 = nI 0), (by decide : 0 < 256)⟩, fun _ => rfl⟩, Nat.zero_le _, ⟨rfl, rfl, rfl, rfl, rfl, rfl, rfl, rfl, rfl, rfl, rfl⟩, tc_0, ⟨by decide, by decide⟩, rfl⟩
  · exact ⟨fun i => if i = 5 then -1 else 0, fun _ => 0, fun _ => 0, fun _ => 0, fun _ => 0, ⟨rfl, rfl, rfl, rfl, rfl⟩, Nat.zero_le _, rfl, rfl, fun i _ => ⟨rfl, (by decide : 0 < 256)⟩, rfl⟩
theorem SZ_sl : ∀ h : List qx_E, SZ h → qx_sl h ≤ 500 * h.length
  | [], _ => Nat.zero_le _
  | c :: t, hS => by
    have h1 := SZ_sl t (fun k c hc => hS (k + 1) c hc)
    have h2 : qx_slE c ≤ 500 := hS 0 c rfl
    have h3 : qx_sl (c :: t) = qx_slE c + qx_sl t := by simp [qx_sl]
    rw [h3, List.length_cons]
    omega
theorem W_whole {L : Nat} {xs : Nat → Int32} (hL : L ≤ 2048) : ∃ n h', qx_run L xs n 16 188 0 [(0, .retAddr 0)] [] [] = some (some (.int 1), h') ∧ h'.length ≤ 600000 ∧ qx_sl h' ≤ 7302250 := by
  obtain ⟨n, v, h', e, rfl, k, hk, j1, j2, j3, -⟩ := W_start (xs := xs) (d := 4) hL
  have := SZ_sl h' j3
  exact ⟨n, h', e, by omega, by omega⟩
