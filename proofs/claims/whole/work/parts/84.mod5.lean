set_option maxRecDepth 20000 in
set_option maxHeartbeats 2000000 in
/-- drinkOf -/
theorem xm_X9_drinkOf : xv_K yX9_drinkOf mX9_drinkOf (fun as h n Post => ∃ (fa : Nat → Int32) (dk : Int64) (nu : Nat → Int32) (p : Nat) (m : Int32) (b : Int32) (g : Int32) (r0 : Nat → Int32), as = [.ref 83, .int (nI p), .int m, .int b, .int g] ∧ (xs_MW h fa dk nu) ∧ (103 < n) ∧ (p < 7) ∧ (xs_ok (xs_nr nu p)) ∧ (h 94 = xs_ia 48 r0) ∧ (∀ (h' : xv_H) (dk' : Int64) (r' : Nat → Int32), h' 83 = xs_mo fa dk' → h' 94 = xs_ia 48 r' → (∀ i, i ≠ 83 → i ≠ 94 → h' i = h i) → Post (some (.int (xs_drk (xs_nr nu p) (nu (12 * p + 11)) m (b * g / 4)))) h' n)) := by
  refine xv_entry (by decide +kernel) rfl (fun h => absurd h (by decide)) ?_
  rintro X _ h n Post ⟨fa, dk, nu, p, m, b, g, r0, rfl, hW, h103, hp7, hok, hpr, hp⟩
  refine ⟨Nat.le_of_ble_eq_true rfl, ?_⟩
  show xv_V X mX9_drinkOf Post 0 0 0 [(0, .ref 83), (1, .int (nI p)), (2, .int m), (3, .int b), (4, .int g)] [] h n
  refine xi_aload_n (q := 1) dX9_drinkOf_0 rfl rfl ?_
  refine xi_iload_n (q := 2) dX9_drinkOf_1 rfl rfl ?_
  refine xi_iload_n (q := 3) dX9_drinkOf_2 rfl rfl ?_
  refine xi_iload_n (q := 4) dX9_drinkOf_3 rfl rfl ?_
  refine xi_iload (q := 6) dX9_drinkOf_4 rfl rfl ?_
  refine xi_iconst (x := 0) (q := 7) dX9_drinkOf_6 (by decide) rfl ?_
  refine xv_cV5 (q := 10) xm_X9_draw ln_X9_215 dX9_drinkOf_7 ⟨by omega, hW.1⟩ rfl ⟨(Nat.le_of_ble_eq_true rfl), (Nat.le_of_ble_eq_true rfl)⟩ (Nat.le_of_ble_eq_true rfl) ⟨rfl, rfl⟩ rfl (Nat.zero_le _) (Nat.zero_le _) ?_
  refine ⟨fa, _, nu, p, m, b, g, 0, _, rfl, hW, h103, hp7, hok, hpr, fun h8 p1 p2 p3 => ?_⟩
  have hW8 : xs_MW h8 fa _ nu := ⟨p1, (p3 88 (by omega) (by omega)).trans hW.2.1, (p3 93 (by omega) (by omega)).trans hW.2.2⟩
  refine xi_aload_n (q := 11) dX9_drinkOf_10 rfl rfl ?_
  refine xi_getf (q := 14) dX9_drinkOf_11 fl_X9_194 ⟨by omega, p1⟩ rfl rfl ?_
  refine xi_lstore (q := 16) dX9_drinkOf_14 (Nat.le_of_ble_eq_true rfl) rfl ?_
  refine xi_aload_n (q := 17) dX9_drinkOf_16 rfl rfl ?_
  refine xi_iload_n (q := 18) dX9_drinkOf_17 rfl rfl ?_
  refine xi_iload_n (q := 19) dX9_drinkOf_18 rfl rfl ?_
  refine xi_iload_n (q := 20) dX9_drinkOf_19 rfl rfl ?_
  refine xi_iload (q := 22) dX9_drinkOf_20 rfl rfl ?_
  refine xi_iconst (x := 1) (q := 23) dX9_drinkOf_22 (by decide) rfl ?_
  refine xv_cV5 (q := 26) xm_X9_draw ln_X9_215 dX9_drinkOf_23 ⟨by omega, p1⟩ rfl ⟨(Nat.le_of_ble_eq_true rfl), (Nat.le_of_ble_eq_true rfl)⟩ (Nat.le_of_ble_eq_true rfl) ⟨rfl, rfl⟩ rfl (Nat.zero_le _) (Nat.zero_le _) ?_
  refine ⟨fa, _, nu, p, m, b, g, 1, _, rfl, hW8, h103, hp7, hok, p2, fun h9 q1 q2 q3 => ?_⟩
  refine xi_lload (q := 28) dX9_drinkOf_26 rfl rfl ?_
  refine xi_aload_n (q := 29) dX9_drinkOf_28 rfl rfl ?_
  refine xi_getf (q := 32) dX9_drinkOf_29 fl_X9_194 ⟨by omega, q1⟩ rfl rfl ?_
  refine xi_ladd (q := 33) dX9_drinkOf_32 rfl ?_
  refine xi_ldc2 (q := 36) dX9_drinkOf_33 kc_X9_165 rfl ?_
  refine xi_ldiv (q := 37) dX9_drinkOf_36 (by decide) rfl ?_
  refine xi_l2i (q := 38) dX9_drinkOf_37 rfl ?_
  refine xi_ret ⟨_, rfl, rfl, dX9_drinkOf_38⟩ (Nat.zero_le _) (Nat.zero_le _) ?_
  exact hp h9 _ _ q1 q2 (fun i i1 i2 => (q3 i i1 i2).trans (p3 i i1 i2))

