set_option maxRecDepth 20000 in
set_option maxHeartbeats 2000000 in
/-- found -/
theorem xm_X9_found : xv_K yX9_found mX9_found (fun as h n Post => ∃ (fa : Nat → Int32) (dk : Int64) (x : Int32), as = [.ref 83, .int x] ∧ (h 83 = xs_mo fa dk) ∧ (103 < n) ∧ (∀ h' : xv_H, h' 83 = xs_mo (upd fa 1 x) dk → (∀ i, i ≠ 83 → h' i = h i) → Post (some (.int (-1000010 - x))) h' n)) := by
  refine xv_entry (by decide +kernel) rfl (fun h => absurd h (by decide)) ?_
  rintro X _ h n Post ⟨fa, dk, x, rfl, hm, h103, hp⟩
  refine ⟨Nat.le_of_ble_eq_true rfl, ?_⟩
  show xv_V X mX9_found Post 0 0 0 [(0, .ref 83), (1, .int x)] [] h n
  refine xi_aload_n (q := 1) dX9_found_0 rfl rfl ?_
  refine xi_iload_n (q := 2) dX9_found_1 rfl rfl ?_
  refine xi_putf (q := 5) dX9_found_2 fl_X9_75 ⟨by omega, hm⟩ (Or.inl rfl) (fun _ => rfl) (fun _ => rfl) (Nat.le_of_ble_eq_true rfl) rfl ?_
  refine xi_ldc (q := 7) dX9_found_5 kc_X9_78 rfl ?_
  refine xi_iload_n (q := 8) dX9_found_7 rfl rfl ?_
  refine xi_isub (q := 9) dX9_found_8 rfl ?_
  refine xi_ret ⟨_, rfl, rfl, dX9_found_9⟩ (Nat.zero_le _) (Nat.zero_le _) ?_
  exact hp _ ((va_up_self _ _ _).trans rfl) (fun i hi => va_up_ne _ _ hi)

set_option maxRecDepth 20000 in
set_option maxHeartbeats 2000000 in
/-- stands -/
theorem xm_X9_stands : xv_K yX9_stands mX9_stands (fun as h n Post => ∃ (fa : Nat → Int32) (dk : Int64) (th : Nat → Int32) (p : Nat), as = [.ref 83, .int (nI p)] ∧ (h 83 = xs_mo fa dk) ∧ (103 < n) ∧ (h 87 = .inl (.boolean, 7, .inl th)) ∧ (p < 7) ∧ ((th p = 0 → ∀ h' : xv_H, h' 83 = xs_mo (upd fa 1 1) dk → (∀ i, i ≠ 83 → h' i = h i) → Post (some (.int (-1000011))) h' n) ∧ (¬ th p = 0 → ∀ h' : xv_H, h' 83 = xs_mo (upd fa 1 0) dk → (∀ i, i ≠ 83 → h' i = h i) → Post (some (.int 0)) h' n))) := by
  refine xv_entry (by decide +kernel) rfl (fun h => absurd h (by decide)) ?_
  rintro X _ h n Post ⟨fa, dk, th, p, rfl, hm, h103, ht, hp7, hp⟩
  refine ⟨Nat.le_of_ble_eq_true rfl, ?_⟩
  show xv_V X mX9_stands Post 0 0 0 [(0, .ref 83), (1, .int (nI p))] [] h n
  refine xi_aload_n (q := 1) dX9_stands_0 rfl rfl ?_
  refine xi_iconst (x := 0) (q := 2) dX9_stands_1 (by decide) rfl ?_
  refine xi_putf (q := 5) dX9_stands_2 fl_X9_75 ⟨by omega, hm⟩ (Or.inl rfl) (fun _ => rfl) (fun _ => rfl) (Nat.le_of_ble_eq_true rfl) rfl ?_
  refine xi_aload_n (q := 6) dX9_stands_5 rfl rfl ?_
  refine xi_getf (q := 9) dX9_stands_6 fl_X9_19 (xv_self (by omega)) rfl rfl ?_
  refine xi_iload_n (q := 10) dX9_stands_9 rfl rfl ?_
  refine xi_zald (q := 11) dX9_stands_10 (xv_keep (by omega) ⟨by omega, ht⟩) (xv_ixN hp7 (by omega)) rfl ?_
  refine xi_if_eq (q := 14) (q2 := 18) dX9_stands_11 (by decide) rfl (fun c_11 => ?_) (fun c_11 => ?_)
  · refine xi_aload_n (q := 19) dX9_stands_18 rfl rfl ?_
    refine xi_iconst (x := 1) (q := 20) dX9_stands_19 (by decide) rfl ?_
    refine xv_cV1 (q := 23) xm_X9_found ln_X9_92 dX9_stands_20 (xv_self (by omega)) rfl ⟨(Nat.le_of_ble_eq_true rfl), (Nat.le_of_ble_eq_true rfl)⟩ (Nat.le_of_ble_eq_true rfl) ⟨rfl, rfl⟩ rfl (Nat.zero_le _) (Nat.zero_le _) ?_
    refine ⟨upd fa 1 0, dk, 1, rfl, (va_up_self _ _ _).trans rfl, h103, fun h8 p1 p2 => ?_⟩
    refine xi_ret ⟨_, rfl, rfl, dX9_stands_23⟩ (Nat.zero_le _) (Nat.zero_le _) ?_
    exact xv_eqr (hp.1 (by first | exact c_11 | exact Decidable.of_not_not c_11) h8 (p1.trans rfl) (fun i hi => (p2 i hi).trans (va_up_ne _ _ hi))) (by decide)
  · refine xi_iconst (x := 0) (q := 15) dX9_stands_14 (by decide) rfl ?_
    refine xi_goto (q := 23) dX9_stands_15 (by decide) ?_
    refine xi_ret ⟨_, rfl, rfl, dX9_stands_23⟩ (Nat.zero_le _) (Nat.zero_le _) ?_
    exact hp.2 c_11 _ ((va_up_self _ _ _).trans rfl) (fun i hi => va_up_ne _ _ hi)

theorem xn_bel {t k : Int32} : xs_bel t k = true ↔ (k = 0 ∨ t = k ∨ (k = 1 ∧ t = 2) ∨ (k = 3 ∧ t = 4)) := by
  unfold xs_bel
  rw [Bool.or_eq_true, Bool.or_eq_true, Bool.or_eq_true, Bool.and_eq_true, Bool.and_eq_true, decide_eq_true_eq, decide_eq_true_eq, decide_eq_true_eq, decide_eq_true_eq, decide_eq_true_eq, decide_eq_true_eq, eq_comm (a := k) (b := t)]
set_option maxRecDepth 20000 in
set_option maxHeartbeats 2000000 in
/-- isOf -/
theorem xm_X9_isOf : xv_K yX9_isOf mX9_isOf (fun as h n Post => ∃ (t : Int32) (k : Int32), as = [.int t, .int k] ∧ Post (some (.int (if xs_bel t k = true then 1 else 0))) h n) := by
  refine xv_entry (by decide +kernel) rfl (fun h => absurd h (by decide)) ?_
  rintro X _ h n Post ⟨t, k, rfl, hp⟩
  refine ⟨Nat.le_of_ble_eq_true rfl, ?_⟩
  show xv_V X mX9_isOf Post 0 0 0 [(0, .int t), (1, .int k)] [] h n
  refine xi_iload_n (q := 1) dX9_isOf_0 rfl rfl ?_
  refine xi_if_eq (q := 4) (q2 := 29) dX9_isOf_1 (by decide) rfl (fun c_1 => ?_) (fun c_1 => ?_)
  · refine xi_iconst (x := 1) (q := 30) dX9_isOf_29 (by decide) rfl ?_
    refine xi_goto (q := 34) dX9_isOf_30 (by decide) ?_
    refine xi_ret ⟨_, rfl, rfl, dX9_isOf_34⟩ (Nat.zero_le _) (Nat.zero_le _) ?_
    exact xv_eqb1 hp (xn_bel.mpr (by first | (simp [*]; done) | exact absurd (c_11.symm.trans c_21) (by decide)))
  · refine xi_iload_n (q := 5) dX9_isOf_4 rfl rfl ?_
    refine xi_iload_n (q := 6) dX9_isOf_5 rfl rfl ?_
    refine xi_icmp_eq (q := 9) (q2 := 29) dX9_isOf_6 (by decide) rfl (fun c_6 => ?_) (fun c_6 => ?_)
    · refine xi_iconst (x := 1) (q := 30) dX9_isOf_29 (by decide) rfl ?_
      refine xi_goto (q := 34) dX9_isOf_30 (by decide) ?_
      refine xi_ret ⟨_, rfl, rfl, dX9_isOf_34⟩ (Nat.zero_le _) (Nat.zero_le _) ?_
      exact xv_eqb1 hp (xn_bel.mpr (by first | (simp [*]; done) | exact absurd (c_11.symm.trans c_21) (by decide)))
    · refine xi_iload_n (q := 10) dX9_isOf_9 rfl rfl ?_
      refine xi_iconst (x := 1) (q := 11) dX9_isOf_10 (by decide) rfl ?_
      refine xi_icmp_ne (q := 14) (q2 := 19) dX9_isOf_11 (by decide) rfl (fun c_11 => ?_) (fun c_11 => ?_)
      · refine xi_iload_n (q := 20) dX9_isOf_19 rfl rfl ?_
        refine xi_iconst (x := 3) (q := 21) dX9_isOf_20 (by decide) rfl ?_
        refine xi_icmp_ne (q := 24) (q2 := 33) dX9_isOf_21 (by decide) rfl (fun c_21 => ?_) (fun c_21 => ?_)
        · refine xi_iconst (x := 0) (q := 34) dX9_isOf_33 (by decide) rfl ?_
          refine xi_ret ⟨_, rfl, rfl, dX9_isOf_34⟩ (Nat.zero_le _) (Nat.zero_le _) ?_
          exact xv_eqb0 hp (fun z => by have z2 := xn_bel.mp z; simp_all)
        · refine xi_iload_n (q := 25) dX9_isOf_24 rfl rfl ?_
          refine xi_iconst (x := 4) (q := 26) dX9_isOf_25 (by decide) rfl ?_
          refine xi_icmp_ne (q := 29) (q2 := 33) dX9_isOf_26 (by decide) rfl (fun c_26 => ?_) (fun c_26 => ?_)
          · refine xi_iconst (x := 0) (q := 34) dX9_isOf_33 (by decide) rfl ?_
            refine xi_ret ⟨_, rfl, rfl, dX9_isOf_34⟩ (Nat.zero_le _) (Nat.zero_le _) ?_
            exact xv_eqb0 hp (fun z => by have z2 := xn_bel.mp z; simp_all)
          · refine xi_iconst (x := 1) (q := 30) dX9_isOf_29 (by decide) rfl ?_
            refine xi_goto (q := 34) dX9_isOf_30 (by decide) ?_
            refine xi_ret ⟨_, rfl, rfl, dX9_isOf_34⟩ (Nat.zero_le _) (Nat.zero_le _) ?_
            exact xv_eqb1 hp (xn_bel.mpr (by first | (simp [*]; done) | exact absurd (c_11.symm.trans c_21) (by decide)))
      · refine xi_iload_n (q := 15) dX9_isOf_14 rfl rfl ?_
        refine xi_iconst (x := 2) (q := 16) dX9_isOf_15 (by decide) rfl ?_
        refine xi_icmp_eq (q := 19) (q2 := 29) dX9_isOf_16 (by decide) rfl (fun c_16 => ?_) (fun c_16 => ?_)
        · refine xi_iconst (x := 1) (q := 30) dX9_isOf_29 (by decide) rfl ?_
          refine xi_goto (q := 34) dX9_isOf_30 (by decide) ?_
          refine xi_ret ⟨_, rfl, rfl, dX9_isOf_34⟩ (Nat.zero_le _) (Nat.zero_le _) ?_
          exact xv_eqb1 hp (xn_bel.mpr (by first | (simp [*]; done) | exact absurd (c_11.symm.trans c_21) (by decide)))
        · refine xi_iload_n (q := 20) dX9_isOf_19 rfl rfl ?_
          refine xi_iconst (x := 3) (q := 21) dX9_isOf_20 (by decide) rfl ?_
          refine xi_icmp_ne (q := 24) (q2 := 33) dX9_isOf_21 (by decide) rfl (fun c_21 => ?_) (fun c_21 => ?_)
          · refine xi_iconst (x := 0) (q := 34) dX9_isOf_33 (by decide) rfl ?_
            refine xi_ret ⟨_, rfl, rfl, dX9_isOf_34⟩ (Nat.zero_le _) (Nat.zero_le _) ?_
            exact xv_eqb0 hp (fun z => by have z2 := xn_bel.mp z; simp_all)
          · refine xi_iload_n (q := 25) dX9_isOf_24 rfl rfl ?_
            refine xi_iconst (x := 4) (q := 26) dX9_isOf_25 (by decide) rfl ?_
            refine xi_icmp_ne (q := 29) (q2 := 33) dX9_isOf_26 (by decide) rfl (fun c_26 => ?_) (fun c_26 => ?_)
            · refine xi_iconst (x := 0) (q := 34) dX9_isOf_33 (by decide) rfl ?_
              refine xi_ret ⟨_, rfl, rfl, dX9_isOf_34⟩ (Nat.zero_le _) (Nat.zero_le _) ?_
              exact xv_eqb0 hp (fun z => by have z2 := xn_bel.mp z; simp_all)
            · refine xi_iconst (x := 1) (q := 30) dX9_isOf_29 (by decide) rfl ?_
              refine xi_goto (q := 34) dX9_isOf_30 (by decide) ?_
              refine xi_ret ⟨_, rfl, rfl, dX9_isOf_34⟩ (Nat.zero_le _) (Nat.zero_le _) ?_
              exact xv_eqb1 hp (xn_bel.mpr (by first | (simp [*]; done) | exact absurd (c_11.symm.trans c_21) (by decide)))

set_option maxRecDepth 20000 in
set_option maxHeartbeats 2000000 in
/-- size -/
theorem xm_X9_size : xv_K yX9_size mX9_size (fun as h n Post => ∃ (x : Int32), as = [.int x] ∧ Post (some (.int (xs_abs x))) h n) := by
  refine xv_entry (by decide +kernel) rfl (fun h => absurd h (by decide)) ?_
  rintro X _ h n Post ⟨x, rfl, hp⟩
  refine ⟨Nat.le_of_ble_eq_true rfl, ?_⟩
  show xv_V X mX9_size Post 0 0 0 [(0, .int x)] [] h n
  refine xi_iload_n (q := 1) dX9_size_0 rfl rfl ?_
  refine xi_if_ge (q := 4) (q2 := 9) dX9_size_1 (by decide) rfl (fun c_1 => ?_) (fun c_1 => ?_)
  · refine xi_iload_n (q := 10) dX9_size_9 rfl rfl ?_
    refine xi_ret ⟨_, rfl, rfl, dX9_size_10⟩ (Nat.zero_le _) (Nat.zero_le _) ?_
    exact xv_eqr hp (by unfold xs_abs; first | rw [if_pos c_1] | (rw [if_neg c_1]; exact (Int32.zero_sub _).symm))
  · refine xi_iload_n (q := 5) dX9_size_4 rfl rfl ?_
    refine xi_ineg (q := 6) dX9_size_5 rfl ?_
    refine xi_goto (q := 10) dX9_size_6 (by decide) ?_
    refine xi_ret ⟨_, rfl, rfl, dX9_size_10⟩ (Nat.zero_le _) (Nat.zero_le _) ?_
    exact xv_eqr hp (by unfold xs_abs; first | rw [if_pos c_1] | (rw [if_neg c_1]; exact (Int32.zero_sub _).symm))

set_option maxRecDepth 20000 in
set_option maxHeartbeats 2000000 in
/-- isTurn -/
theorem xm_X9_isTurn : xv_K yX9_isTurn mX9_isTurn (fun as h n Post => ∃ (m : Int32) (b : Int32) (g : Int32), as = [.int m, .int b, .int g] ∧ Post (some (.int (if (xs_i m (-6) 6 && xs_i b 0 2000 && xs_i g 0 4) = true then 1 else 0))) h n) := by
  refine xv_entry (by decide +kernel) rfl (fun h => absurd h (by decide)) ?_
  rintro X _ h n Post ⟨m, b, g, rfl, hp⟩
  refine ⟨Nat.le_of_ble_eq_true rfl, ?_⟩
  show xv_V X mX9_isTurn Post 0 0 0 [(0, .int m), (1, .int b), (2, .int g)] [] h n
  refine xi_iload_n (q := 1) dX9_isTurn_0 rfl rfl ?_
  refine xv_cS1 (q := 4) xm_X9_isNotch ln_X9_171 dX9_isTurn_1 ⟨(Nat.le_of_ble_eq_true rfl), (Nat.le_of_ble_eq_true rfl)⟩ (Nat.le_of_ble_eq_true rfl) ⟨rfl, rfl⟩ rfl (Nat.zero_le _) (Nat.zero_le _) ?_
  refine ⟨_, rfl, ?_⟩
  refine xi_if_eq (q := 7) (q2 := 35) dX9_isTurn_4 (by decide) rfl (fun c_4 => ?_) (fun c_4 => ?_)
  · skip
    refine xi_iconst (x := 0) (q := 36) dX9_isTurn_35 (by decide) rfl ?_
    refine xi_ret ⟨_, rfl, rfl, dX9_isTurn_36⟩ (Nat.zero_le _) (Nat.zero_le _) ?_
    exact xv_eqb0 hp (fun z => by simp only [Bool.and_eq_true, xs_i, decide_eq_true_eq] at z; exact xn_b0 c_4 z.1.1)
  · skip
    refine xi_iload_n (q := 8) dX9_isTurn_7 rfl rfl ?_
    refine xi_i2l (q := 9) dX9_isTurn_8 rfl ?_
    refine xi_lconst (x := 0) (q := 10) dX9_isTurn_9 (by decide) rfl ?_
    refine xi_ldc2 (q := 13) dX9_isTurn_10 kc_X9_207 rfl ?_
    refine xv_cS3 (q := 16) xm_X9_in ln_X9_81 dX9_isTurn_13 ⟨(Nat.le_of_ble_eq_true rfl), (Nat.le_of_ble_eq_true rfl)⟩ (Nat.le_of_ble_eq_true rfl) ⟨rfl, rfl⟩ rfl (Nat.zero_le _) (Nat.zero_le _) ?_
    refine ⟨b, 0, 2000, rfl, ?_⟩
    refine xi_if_eq (q := 19) (q2 := 35) dX9_isTurn_16 (by decide) rfl (fun c_16 => ?_) (fun c_16 => ?_)
    · skip
      refine xi_iconst (x := 0) (q := 36) dX9_isTurn_35 (by decide) rfl ?_
      refine xi_ret ⟨_, rfl, rfl, dX9_isTurn_36⟩ (Nat.zero_le _) (Nat.zero_le _) ?_
      exact xv_eqb0 hp (fun z => by simp only [Bool.and_eq_true, xs_i, decide_eq_true_eq] at z; exact xn_b0 c_16 z.1.2)
    · skip
      refine xi_iload_n (q := 20) dX9_isTurn_19 rfl rfl ?_
      refine xi_i2l (q := 21) dX9_isTurn_20 rfl ?_
      refine xi_lconst (x := 0) (q := 22) dX9_isTurn_21 (by decide) rfl ?_
      refine xi_ldc2 (q := 25) dX9_isTurn_22 kc_X9_98 rfl ?_
      refine xv_cS3 (q := 28) xm_X9_in ln_X9_81 dX9_isTurn_25 ⟨(Nat.le_of_ble_eq_true rfl), (Nat.le_of_ble_eq_true rfl)⟩ (Nat.le_of_ble_eq_true rfl) ⟨rfl, rfl⟩ rfl (Nat.zero_le _) (Nat.zero_le _) ?_
      refine ⟨g, 0, 4, rfl, ?_⟩
      refine xi_if_eq (q := 31) (q2 := 35) dX9_isTurn_28 (by decide) rfl (fun c_28 => ?_) (fun c_28 => ?_)
      · skip
        refine xi_iconst (x := 0) (q := 36) dX9_isTurn_35 (by decide) rfl ?_
        refine xi_ret ⟨_, rfl, rfl, dX9_isTurn_36⟩ (Nat.zero_le _) (Nat.zero_le _) ?_
        exact xv_eqb0 hp (fun z => by simp only [Bool.and_eq_true, xs_i, decide_eq_true_eq] at z; exact xn_b0 c_28 z.2)
      · skip
        refine xi_iconst (x := 1) (q := 32) dX9_isTurn_31 (by decide) rfl ?_
        refine xi_goto (q := 36) dX9_isTurn_32 (by decide) ?_
        refine xi_ret ⟨_, rfl, rfl, dX9_isTurn_36⟩ (Nat.zero_le _) (Nat.zero_le _) ?_
        exact xv_eqb1 hp (by simp only [Bool.and_eq_true, xs_i, decide_eq_true_eq]; exact ⟨⟨xn_b1 c_4, xn_b1 c_16⟩, xn_b1 c_28⟩)

theorem xn_isnb1 (v : Int32) : (10 ≤ v ∧ v ≤ 200) ↔ xs_isNb 1 v = true := by
  rw [xn_isN]
  unfold xs_isN
  rw [show xs_T0 (1 : Int32).toNatClampNeg = 10 from by decide +kernel, show xs_T1 (1 : Int32).toNatClampNeg = 200 from by decide +kernel]
  exact ⟨fun z => ⟨by decide, fun y => absurd y.1 (by decide), z⟩, fun z => z.2.2⟩
theorem xn_isnb2 (v : Int32) : (0 ≤ v ∧ v ≤ 11) ↔ xs_isNb 2 v = true := by
  rw [xn_isN]
  unfold xs_isN
  rw [show xs_T0 (2 : Int32).toNatClampNeg = 0 from by decide +kernel, show xs_T1 (2 : Int32).toNatClampNeg = 11 from by decide +kernel]
  exact ⟨fun z => ⟨by decide, fun y => absurd y.1 (by decide), z⟩, fun z => z.2.2⟩
theorem xn_isnb3 (v : Int32) : ((-20) ≤ v ∧ v ≤ 20) ↔ xs_isNb 3 v = true := by
  rw [xn_isN]
  unfold xs_isN
  rw [show xs_T0 (3 : Int32).toNatClampNeg = (-20) from by decide +kernel, show xs_T1 (3 : Int32).toNatClampNeg = 20 from by decide +kernel]
  exact ⟨fun z => ⟨by decide, fun y => absurd y.1 (by decide), z⟩, fun z => z.2.2⟩
theorem xn_isnb4 (v : Int32) : (0 ≤ v ∧ v ≤ 100) ↔ xs_isNb 4 v = true := by
  rw [xn_isN]
  unfold xs_isN
  rw [show xs_T0 (4 : Int32).toNatClampNeg = 0 from by decide +kernel, show xs_T1 (4 : Int32).toNatClampNeg = 100 from by decide +kernel]
  exact ⟨fun z => ⟨by decide, fun y => absurd y.1 (by decide), z⟩, fun z => z.2.2⟩
theorem xn_isnb5 (v : Int32) : ((-20) ≤ v ∧ v ≤ 50) ↔ xs_isNb 5 v = true := by
  rw [xn_isN]
  unfold xs_isN
  rw [show xs_T0 (5 : Int32).toNatClampNeg = (-20) from by decide +kernel, show xs_T1 (5 : Int32).toNatClampNeg = 50 from by decide +kernel]
  exact ⟨fun z => ⟨by decide, fun y => absurd y.1 (by decide), z⟩, fun z => z.2.2⟩
theorem xn_isnb6 (v : Int32) : (1 ≤ v ∧ v ≤ 100) ↔ xs_isNb 6 v = true := by
  rw [xn_isN]
  unfold xs_isN
  rw [show xs_T0 (6 : Int32).toNatClampNeg = 1 from by decide +kernel, show xs_T1 (6 : Int32).toNatClampNeg = 100 from by decide +kernel]
  exact ⟨fun z => ⟨by decide, fun y => absurd y.1 (by decide), z⟩, fun z => z.2.2⟩
theorem xn_isnb7 (v : Int32) : (20 ≤ v ∧ v ≤ 200) ↔ xs_isNb 7 v = true := by
  rw [xn_isN]
  unfold xs_isN
  rw [show xs_T0 (7 : Int32).toNatClampNeg = 20 from by decide +kernel, show xs_T1 (7 : Int32).toNatClampNeg = 200 from by decide +kernel]
  exact ⟨fun z => ⟨by decide, fun y => absurd y.1 (by decide), z⟩, fun z => z.2.2⟩
theorem xn_isnb8 (v : Int32) : (1 ≤ v ∧ v ≤ 100) ↔ xs_isNb 8 v = true := by
  rw [xn_isN]
  unfold xs_isN
  rw [show xs_T0 (8 : Int32).toNatClampNeg = 1 from by decide +kernel, show xs_T1 (8 : Int32).toNatClampNeg = 100 from by decide +kernel]
  exact ⟨fun z => ⟨by decide, fun y => absurd y.1 (by decide), z⟩, fun z => z.2.2⟩
theorem xn_isnb9 (v : Int32) : (1 ≤ v ∧ v ≤ 100) ↔ xs_isNb 9 v = true := by
  rw [xn_isN]
  unfold xs_isN
  rw [show xs_T0 (9 : Int32).toNatClampNeg = 1 from by decide +kernel, show xs_T1 (9 : Int32).toNatClampNeg = 100 from by decide +kernel]
  exact ⟨fun z => ⟨by decide, fun y => absurd y.1 (by decide), z⟩, fun z => z.2.2⟩
theorem xn_isnb10 (v : Int32) : (0 ≤ v ∧ v ≤ 500) ↔ xs_isNb 10 v = true := by
  rw [xn_isN]
  unfold xs_isN
  rw [show xs_T0 (10 : Int32).toNatClampNeg = 0 from by decide +kernel, show xs_T1 (10 : Int32).toNatClampNeg = 500 from by decide +kernel]
  exact ⟨fun z => ⟨by decide, fun y => absurd y.1 (by decide), z⟩, fun z => z.2.2⟩
theorem xn_isnb0 (v : Int32) : (v = 0 ∨ (4 ≤ v ∧ v ≤ 20)) ↔ xs_isNb 0 v = true := by
  rw [xn_isN]
  unfold xs_isN
  rw [show xs_T0 (0 : Int32).toNatClampNeg = 0 from by decide +kernel, show xs_T1 (0 : Int32).toNatClampNeg = 20 from by decide +kernel]
  simp only [true_and, xn_eq, xn_le, xn_lt, show (0 : Int32).toInt = 0 from rfl, show (4 : Int32).toInt = 4 from rfl, show (20 : Int32).toInt = 20 from rfl, show (10 : Int32).toInt = 10 from rfl]
  omega
theorem xn_g10 {w : Int32} (h : 0 ≤ w.toInt ∧ w.toInt ≤ 10) : w = 0 ∨ w = 1 ∨ w = 2 ∨ w = 3 ∨ w = 4 ∨ w = 5 ∨ w = 6 ∨ w = 7 ∨ w = 8 ∨ w = 9 ∨ w = 10 := by
  simp only [xn_eq, show (0 : Int32).toInt = 0 from rfl, show (1 : Int32).toInt = 1 from rfl, show (2 : Int32).toInt = 2 from rfl, show (3 : Int32).toInt = 3 from rfl, show (4 : Int32).toInt = 4 from rfl, show (5 : Int32).toInt = 5 from rfl, show (6 : Int32).toInt = 6 from rfl, show (7 : Int32).toInt = 7 from rfl, show (8 : Int32).toInt = 8 from rfl, show (9 : Int32).toInt = 9 from rfl, show (10 : Int32).toInt = 10 from rfl]
  omega
set_option maxRecDepth 20000 in
set_option maxHeartbeats 2000000 in
/-- isNumber -/
theorem xm_X9_isNumber : xv_K yX9_isNumber mX9_isNumber (fun as h n Post => ∃ (w : Int32) (v : Int32), as = [.int w, .int v] ∧ Post (some (.int (if xs_isNb w v = true then 1 else 0))) h n) := by
  refine xv_entry (by decide +kernel) rfl (fun h => absurd h (by decide)) ?_
  rintro X _ h n Post ⟨w, v, rfl, hp⟩
  refine ⟨Nat.le_of_ble_eq_true rfl, ?_⟩
  show xv_V X mX9_isNumber Post 0 0 0 [(0, .int w), (1, .int v)] [] h n
  by_cases hr : 0 ≤ w.toInt ∧ w.toInt ≤ 10
  · rcases xn_g10 hr with rfl | rfl | rfl | rfl | rfl | rfl | rfl | rfl | rfl | rfl | rfl
    · refine xi_iload_n (q := 1) dX9_isNumber_0 rfl rfl ?_
      refine xi_tableIn (q := 60) dX9_isNumber_1 (by decide) (by decide) rfl (by decide) ?_
      refine xi_iload_n (q := 61) dX9_isNumber_60 rfl rfl ?_
      refine xi_if_eq (q := 64) (q2 := 78) dX9_isNumber_61 (by decide) rfl (fun c_61 => ?_) (fun c_61 => ?_)
      · refine xi_iconst (x := 1) (q := 79) dX9_isNumber_78 (by decide) rfl ?_
        refine xi_goto (q := 83) dX9_isNumber_79 (by decide) ?_
        refine xi_ret ⟨_, rfl, rfl, dX9_isNumber_83⟩ (Nat.zero_le _) (Nat.zero_le _) ?_
        exact xv_eqb1 hp ((xn_isnb0 v).mp (Or.inl (by first | exact c_61 | exact Decidable.of_not_not c_61)))
      · refine xi_iload_n (q := 65) dX9_isNumber_64 rfl rfl ?_
        refine xi_i2l (q := 66) dX9_isNumber_65 rfl ?_
        refine xi_ldc2 (q := 69) dX9_isNumber_66 kc_X9_98 rfl ?_
        refine xi_ldc2 (q := 72) dX9_isNumber_69 kc_X9_100 rfl ?_
        refine xv_cS3 (q := 75) xm_X9_in ln_X9_81 dX9_isNumber_72 ⟨(Nat.le_of_ble_eq_true rfl), (Nat.le_of_ble_eq_true rfl)⟩ (Nat.le_of_ble_eq_true rfl) ⟨rfl, rfl⟩ rfl (Nat.zero_le _) (Nat.zero_le _) ?_
        refine ⟨v, 4, 20, rfl, ?_⟩
        refine xi_if_eq (q := 78) (q2 := 82) dX9_isNumber_75 (by decide) rfl (fun c_75 => ?_) (fun c_75 => ?_)
        · refine xi_iconst (x := 0) (q := 83) dX9_isNumber_82 (by decide) rfl ?_
          refine xi_ret ⟨_, rfl, rfl, dX9_isNumber_83⟩ (Nat.zero_le _) (Nat.zero_le _) ?_
          exact xv_eqb0 hp (fun z => ((xn_isnb0 v).mpr z).elim c_61 (xn_b0 c_75))
        · refine xi_iconst (x := 1) (q := 79) dX9_isNumber_78 (by decide) rfl ?_
          refine xi_goto (q := 83) dX9_isNumber_79 (by decide) ?_
          refine xi_ret ⟨_, rfl, rfl, dX9_isNumber_83⟩ (Nat.zero_le _) (Nat.zero_le _) ?_
          exact xv_eqb1 hp ((xn_isnb0 v).mp (Or.inr (xn_b1 c_75)))
    · refine xi_iload_n (q := 1) dX9_isNumber_0 rfl rfl ?_
      refine xi_tableIn (q := 84) dX9_isNumber_1 (by decide) (by decide) rfl (by decide) ?_
      refine xi_iload_n (q := 85) dX9_isNumber_84 rfl rfl ?_
      refine xi_i2l (q := 86) dX9_isNumber_85 rfl ?_
      refine xi_ldc2 (q := 89) dX9_isNumber_86 kc_X9_102 rfl ?_
      refine xi_ldc2 (q := 92) dX9_isNumber_89 kc_X9_104 rfl ?_
      refine xv_cS3 (q := 95) xm_X9_in ln_X9_81 dX9_isNumber_92 ⟨(Nat.le_of_ble_eq_true rfl), (Nat.le_of_ble_eq_true rfl)⟩ (Nat.le_of_ble_eq_true rfl) ⟨rfl, rfl⟩ rfl (Nat.zero_le _) (Nat.zero_le _) ?_
      refine ⟨v, 10, 200, rfl, ?_⟩
      refine xi_ret ⟨_, rfl, xn_nb, dX9_isNumber_95⟩ (Nat.zero_le _) (Nat.zero_le _) ?_
      exact xv_eqb hp (xn_isnb1 v)
    · refine xi_iload_n (q := 1) dX9_isNumber_0 rfl rfl ?_
      refine xi_tableIn (q := 96) dX9_isNumber_1 (by decide) (by decide) rfl (by decide) ?_
      refine xi_iload_n (q := 97) dX9_isNumber_96 rfl rfl ?_
      refine xi_i2l (q := 98) dX9_isNumber_97 rfl ?_
      refine xi_lconst (x := 0) (q := 99) dX9_isNumber_98 (by decide) rfl ?_
      refine xi_ldc2 (q := 102) dX9_isNumber_99 kc_X9_106 rfl ?_
      refine xv_cS3 (q := 105) xm_X9_in ln_X9_81 dX9_isNumber_102 ⟨(Nat.le_of_ble_eq_true rfl), (Nat.le_of_ble_eq_true rfl)⟩ (Nat.le_of_ble_eq_true rfl) ⟨rfl, rfl⟩ rfl (Nat.zero_le _) (Nat.zero_le _) ?_
      refine ⟨v, 0, 11, rfl, ?_⟩
      refine xi_ret ⟨_, rfl, xn_nb, dX9_isNumber_105⟩ (Nat.zero_le _) (Nat.zero_le _) ?_
      exact xv_eqb hp (xn_isnb2 v)
    · refine xi_iload_n (q := 1) dX9_isNumber_0 rfl rfl ?_
      refine xi_tableIn (q := 106) dX9_isNumber_1 (by decide) (by decide) rfl (by decide) ?_
      refine xi_iload_n (q := 107) dX9_isNumber_106 rfl rfl ?_
      refine xi_i2l (q := 108) dX9_isNumber_107 rfl ?_
      refine xi_ldc2 (q := 111) dX9_isNumber_108 kc_X9_108 rfl ?_
      refine xi_ldc2 (q := 114) dX9_isNumber_111 kc_X9_100 rfl ?_
      refine xv_cS3 (q := 117) xm_X9_in ln_X9_81 dX9_isNumber_114 ⟨(Nat.le_of_ble_eq_true rfl), (Nat.le_of_ble_eq_true rfl)⟩ (Nat.le_of_ble_eq_true rfl) ⟨rfl, rfl⟩ rfl (Nat.zero_le _) (Nat.zero_le _) ?_
      refine ⟨v, (-20), 20, rfl, ?_⟩
      refine xi_ret ⟨_, rfl, xn_nb, dX9_isNumber_117⟩ (Nat.zero_le _) (Nat.zero_le _) ?_
      exact xv_eqb hp (xn_isnb3 v)
    · refine xi_iload_n (q := 1) dX9_isNumber_0 rfl rfl ?_
      refine xi_tableIn (q := 118) dX9_isNumber_1 (by decide) (by decide) rfl (by decide) ?_
      refine xi_iload_n (q := 119) dX9_isNumber_118 rfl rfl ?_
      refine xi_i2l (q := 120) dX9_isNumber_119 rfl ?_
      refine xi_lconst (x := 0) (q := 121) dX9_isNumber_120 (by decide) rfl ?_
      refine xi_ldc2 (q := 124) dX9_isNumber_121 kc_X9_110 rfl ?_
      refine xv_cS3 (q := 127) xm_X9_in ln_X9_81 dX9_isNumber_124 ⟨(Nat.le_of_ble_eq_true rfl), (Nat.le_of_ble_eq_true rfl)⟩ (Nat.le_of_ble_eq_true rfl) ⟨rfl, rfl⟩ rfl (Nat.zero_le _) (Nat.zero_le _) ?_
      refine ⟨v, 0, 100, rfl, ?_⟩
      refine xi_ret ⟨_, rfl, xn_nb, dX9_isNumber_127⟩ (Nat.zero_le _) (Nat.zero_le _) ?_
      exact xv_eqb hp (xn_isnb4 v)
    · refine xi_iload_n (q := 1) dX9_isNumber_0 rfl rfl ?_
      refine xi_tableIn (q := 128) dX9_isNumber_1 (by decide) (by decide) rfl (by decide) ?_
      refine xi_iload_n (q := 129) dX9_isNumber_128 rfl rfl ?_
      refine xi_i2l (q := 130) dX9_isNumber_129 rfl ?_
      refine xi_ldc2 (q := 133) dX9_isNumber_130 kc_X9_108 rfl ?_
      refine xi_ldc2 (q := 136) dX9_isNumber_133 kc_X9_112 rfl ?_
      refine xv_cS3 (q := 139) xm_X9_in ln_X9_81 dX9_isNumber_136 ⟨(Nat.le_of_ble_eq_true rfl), (Nat.le_of_ble_eq_true rfl)⟩ (Nat.le_of_ble_eq_true rfl) ⟨rfl, rfl⟩ rfl (Nat.zero_le _) (Nat.zero_le _) ?_
      refine ⟨v, (-20), 50, rfl, ?_⟩
      refine xi_ret ⟨_, rfl, xn_nb, dX9_isNumber_139⟩ (Nat.zero_le _) (Nat.zero_le _) ?_
      exact xv_eqb hp (xn_isnb5 v)
    · refine xi_iload_n (q := 1) dX9_isNumber_0 rfl rfl ?_
      refine xi_tableIn (q := 140) dX9_isNumber_1 (by decide) (by decide) rfl (by decide) ?_
      refine xi_iload_n (q := 141) dX9_isNumber_140 rfl rfl ?_
      refine xi_i2l (q := 142) dX9_isNumber_141 rfl ?_
      refine xi_lconst (x := 1) (q := 143) dX9_isNumber_142 (by decide) rfl ?_
      refine xi_ldc2 (q := 146) dX9_isNumber_143 kc_X9_110 rfl ?_
      refine xv_cS3 (q := 149) xm_X9_in ln_X9_81 dX9_isNumber_146 ⟨(Nat.le_of_ble_eq_true rfl), (Nat.le_of_ble_eq_true rfl)⟩ (Nat.le_of_ble_eq_true rfl) ⟨rfl, rfl⟩ rfl (Nat.zero_le _) (Nat.zero_le _) ?_
      refine ⟨v, 1, 100, rfl, ?_⟩
      refine xi_ret ⟨_, rfl, xn_nb, dX9_isNumber_149⟩ (Nat.zero_le _) (Nat.zero_le _) ?_
      exact xv_eqb hp (xn_isnb6 v)
    · refine xi_iload_n (q := 1) dX9_isNumber_0 rfl rfl ?_
      refine xi_tableIn (q := 150) dX9_isNumber_1 (by decide) (by decide) rfl (by decide) ?_
      refine xi_iload_n (q := 151) dX9_isNumber_150 rfl rfl ?_
      refine xi_i2l (q := 152) dX9_isNumber_151 rfl ?_
      refine xi_ldc2 (q := 155) dX9_isNumber_152 kc_X9_100 rfl ?_
      refine xi_ldc2 (q := 158) dX9_isNumber_155 kc_X9_104 rfl ?_
      refine xv_cS3 (q := 161) xm_X9_in ln_X9_81 dX9_isNumber_158 ⟨(Nat.le_of_ble_eq_true rfl), (Nat.le_of_ble_eq_true rfl)⟩ (Nat.le_of_ble_eq_true rfl) ⟨rfl, rfl⟩ rfl (Nat.zero_le _) (Nat.zero_le _) ?_
      refine ⟨v, 20, 200, rfl, ?_⟩
      refine xi_ret ⟨_, rfl, xn_nb, dX9_isNumber_161⟩ (Nat.zero_le _) (Nat.zero_le _) ?_
      exact xv_eqb hp (xn_isnb7 v)
    · refine xi_iload_n (q := 1) dX9_isNumber_0 rfl rfl ?_
      refine xi_tableIn (q := 140) dX9_isNumber_1 (by decide) (by decide) rfl (by decide) ?_
      refine xi_iload_n (q := 141) dX9_isNumber_140 rfl rfl ?_
      refine xi_i2l (q := 142) dX9_isNumber_141 rfl ?_
      refine xi_lconst (x := 1) (q := 143) dX9_isNumber_142 (by decide) rfl ?_
      refine xi_ldc2 (q := 146) dX9_isNumber_143 kc_X9_110 rfl ?_
      refine xv_cS3 (q := 149) xm_X9_in ln_X9_81 dX9_isNumber_146 ⟨(Nat.le_of_ble_eq_true rfl), (Nat.le_of_ble_eq_true rfl)⟩ (Nat.le_of_ble_eq_true rfl) ⟨rfl, rfl⟩ rfl (Nat.zero_le _) (Nat.zero_le _) ?_
      refine ⟨v, 1, 100, rfl, ?_⟩
      refine xi_ret ⟨_, rfl, xn_nb, dX9_isNumber_149⟩ (Nat.zero_le _) (Nat.zero_le _) ?_
      exact xv_eqb hp (xn_isnb8 v)
    · refine xi_iload_n (q := 1) dX9_isNumber_0 rfl rfl ?_
      refine xi_tableIn (q := 140) dX9_isNumber_1 (by decide) (by decide) rfl (by decide) ?_
      refine xi_iload_n (q := 141) dX9_isNumber_140 rfl rfl ?_
      refine xi_i2l (q := 142) dX9_isNumber_141 rfl ?_
      refine xi_lconst (x := 1) (q := 143) dX9_isNumber_142 (by decide) rfl ?_
      refine xi_ldc2 (q := 146) dX9_isNumber_143 kc_X9_110 rfl ?_
      refine xv_cS3 (q := 149) xm_X9_in ln_X9_81 dX9_isNumber_146 ⟨(Nat.le_of_ble_eq_true rfl), (Nat.le_of_ble_eq_true rfl)⟩ (Nat.le_of_ble_eq_true rfl) ⟨rfl, rfl⟩ rfl (Nat.zero_le _) (Nat.zero_le _) ?_
      refine ⟨v, 1, 100, rfl, ?_⟩
      refine xi_ret ⟨_, rfl, xn_nb, dX9_isNumber_149⟩ (Nat.zero_le _) (Nat.zero_le _) ?_
      exact xv_eqb hp (xn_isnb9 v)
    · refine xi_iload_n (q := 1) dX9_isNumber_0 rfl rfl ?_
      refine xi_tableIn (q := 162) dX9_isNumber_1 (by decide) (by decide) rfl (by decide) ?_
      refine xi_iload_n (q := 163) dX9_isNumber_162 rfl rfl ?_
      refine xi_i2l (q := 164) dX9_isNumber_163 rfl ?_
      refine xi_lconst (x := 0) (q := 165) dX9_isNumber_164 (by decide) rfl ?_
      refine xi_ldc2 (q := 168) dX9_isNumber_165 kc_X9_114 rfl ?_
      refine xv_cS3 (q := 171) xm_X9_in ln_X9_81 dX9_isNumber_168 ⟨(Nat.le_of_ble_eq_true rfl), (Nat.le_of_ble_eq_true rfl)⟩ (Nat.le_of_ble_eq_true rfl) ⟨rfl, rfl⟩ rfl (Nat.zero_le _) (Nat.zero_le _) ?_
      refine ⟨v, 0, 500, rfl, ?_⟩
      refine xi_ret ⟨_, rfl, xn_nb, dX9_isNumber_171⟩ (Nat.zero_le _) (Nat.zero_le _) ?_
      exact xv_eqb hp (xn_isnb10 v)
  · refine xi_iload_n (q := 1) dX9_isNumber_0 rfl rfl ?_
    refine xi_tableOut (q := 172) dX9_isNumber_1 (by omega) (by decide) ?_
    refine xi_iconst (x := 0) (q := 173) dX9_isNumber_172 (by decide) rfl ?_
    refine xi_ret ⟨_, rfl, rfl, dX9_isNumber_173⟩ (Nat.zero_le _) (Nat.zero_le _) ?_
    exact xv_eqb0 hp (fun z => hr (by have y := xn_nbI z; rw [show (0 : Int32).toInt = 0 from rfl] at y; exact y))

theorem xn_le17 {x : Int32} : (1 ≤ x ↔ ¬ x ≤ 0) ∧ (7 ≤ x ↔ ¬ x ≤ 6) := by
  rw [xn_le, xn_le, xn_le, xn_le, show (0 : Int32).toInt = 0 from rfl, show (1 : Int32).toInt = 1 from rfl, show (6 : Int32).toInt = 6 from rfl, show (7 : Int32).toInt = 7 from rfl]
  omega
set_option maxRecDepth 20000 in
set_option maxHeartbeats 2000000 in
/-- kindOf -/
theorem xm_X9_kindOf : xv_K yX9_kindOf mX9_kindOf (fun as h n Post => ∃ (fa : Nat → Int32) (dk : Int64) (nu : Nat → Int32) (p : Nat) (r0 : Nat → Int32), as = [.ref 83, .int (nI p)] ∧ (xs_MW h fa dk nu) ∧ (103 < n) ∧ (p < 7) ∧ (xs_ok (xs_nr nu p)) ∧ (h 94 = xs_ia 48 r0) ∧ (∀ (h' : xv_H) (dk' : Int64) (r' : Nat → Int32), h' 83 = xs_mo fa dk' → h' 94 = xs_ia 48 r' → (∀ i, i ≠ 83 → i ≠ 94 → h' i = h i) → Post (some (.int (xs_tk (xs_nr nu p) (nu (12 * p + 11))))) h' n)) := by
  refine xv_entry (by decide +kernel) rfl (fun h => absurd h (by decide)) ?_
  rintro X _ h n Post ⟨fa, dk, nu, p, r0, rfl, hW, h103, hp7, hok, hpr, hp⟩
  refine ⟨Nat.le_of_ble_eq_true rfl, ?_⟩
  show xv_V X mX9_kindOf Post 0 0 0 [(0, .ref 83), (1, .int (nI p))] [] h n
  refine xi_aload_n (q := 1) dX9_kindOf_0 rfl rfl ?_
  refine xi_getf (q := 4) dX9_kindOf_1 fl_X9_23 ⟨by omega, hW.1⟩ rfl rfl ?_
  refine xi_bipush (x := 12) (q := 6) dX9_kindOf_4 (by decide) rfl ?_
  refine xi_iload_n (q := 7) dX9_kindOf_6 rfl rfl ?_
  refine xi_imul (q := 8) dX9_kindOf_7 rfl ?_
  refine xi_bipush (x := 11) (q := 10) dX9_kindOf_8 (by decide) rfl ?_
  refine xi_iadd (q := 11) dX9_kindOf_10 rfl ?_
  refine xi_iald (q := 12) dX9_kindOf_11 ⟨by omega, hW.2.1⟩ (xn_ix12 (j := 11) hp7 (by omega)) rfl ?_
  refine xi_if_ne (q := 15) (q2 := 31) dX9_kindOf_12 (by decide) rfl (fun c_12 => ?_) (fun c_12 => ?_)
  · refine xi_aload_n (q := 32) dX9_kindOf_31 rfl rfl ?_
    refine xi_iload_n (q := 33) dX9_kindOf_32 rfl rfl ?_
    refine xi_bipush (x := 6) (q := 35) dX9_kindOf_33 (by decide) rfl ?_
    refine xi_sipush (x := 1000) (q := 38) dX9_kindOf_35 (by decide) rfl ?_
    refine xi_iconst (x := 4) (q := 39) dX9_kindOf_38 (by decide) rfl ?_
    refine xv_cV4 (q := 42) xm_X9_workOf ln_X9_219 dX9_kindOf_39 ⟨by omega, hW.1⟩ rfl ⟨(Nat.le_of_ble_eq_true rfl), (Nat.le_of_ble_eq_true rfl)⟩ (Nat.le_of_ble_eq_true rfl) ⟨rfl, rfl⟩ rfl (Nat.zero_le _) (Nat.zero_le _) ?_
    refine ⟨fa, dk, nu, p, 6, 1000, 4, _, rfl, hW, h103, hp7, hok, hpr, fun h8 dk8 r8 p1 p2 p3 => ?_⟩
    refine xi_iconst (x := 1) (q := 43) dX9_kindOf_42 (by decide) rfl ?_
    refine xi_icmp_ge (q := 46) (q2 := 50) dX9_kindOf_43 (by decide) rfl (fun c_43 => ?_) (fun c_43 => ?_)
    · skip
      refine xi_iconst (x := 3) (q := 51) dX9_kindOf_50 (by decide) rfl ?_
      refine xi_ret ⟨_, rfl, rfl, dX9_kindOf_51⟩ (Nat.zero_le _) (Nat.zero_le _) ?_
      exact xv_eqr (hp h8 _ _ p1 p2 p3) (by unfold xs_tk; rw [if_neg c_12, if_neg (xn_le17.1.mp c_43)])
    · skip
      refine xi_iconst (x := 4) (q := 47) dX9_kindOf_46 (by decide) rfl ?_
      refine xi_goto (q := 51) dX9_kindOf_47 (by decide) ?_
      refine xi_ret ⟨_, rfl, rfl, dX9_kindOf_51⟩ (Nat.zero_le _) (Nat.zero_le _) ?_
      exact xv_eqr (hp h8 _ _ p1 p2 p3) (by unfold xs_tk; rw [if_neg c_12, if_pos (Decidable.of_not_not fun y => c_43 (xn_le17.1.mpr y))])
  · refine xi_aload_n (q := 16) dX9_kindOf_15 rfl rfl ?_
    refine xi_iload_n (q := 17) dX9_kindOf_16 rfl rfl ?_
    refine xv_cV1 (q := 20) xm_X9_unlike ln_X9_179 dX9_kindOf_17 ⟨by omega, hW.1⟩ rfl ⟨(Nat.le_of_ble_eq_true rfl), (Nat.le_of_ble_eq_true rfl)⟩ (Nat.le_of_ble_eq_true rfl) ⟨rfl, rfl⟩ rfl (Nat.zero_le _) (Nat.zero_le _) ?_
    refine ⟨_, _, _, p, rfl, hW, h103, hp7, ?_⟩
    refine xi_bipush (x := 7) (q := 22) dX9_kindOf_20 (by decide) rfl ?_
    refine xi_icmp_ge (q := 25) (q2 := 29) dX9_kindOf_22 (by decide) rfl (fun c_22 => ?_) (fun c_22 => ?_)
    · skip
      refine xi_iconst (x := 1) (q := 30) dX9_kindOf_29 (by decide) rfl ?_
      refine xi_ret ⟨_, rfl, rfl, dX9_kindOf_30⟩ (Nat.zero_le _) (Nat.zero_le _) ?_
      exact xv_eqr (hp h _ _ hW.1 hpr (fun _ _ _ => rfl)) (by unfold xs_tk; rw [if_pos (by first | exact c_12 | exact Decidable.of_not_not c_12), if_neg (xn_le17.2.mp c_22)])
    · skip
      refine xi_iconst (x := 2) (q := 26) dX9_kindOf_25 (by decide) rfl ?_
      refine xi_goto (q := 30) dX9_kindOf_26 (by decide) ?_
      refine xi_ret ⟨_, rfl, rfl, dX9_kindOf_30⟩ (Nat.zero_le _) (Nat.zero_le _) ?_
      exact xv_eqr (hp h _ _ hW.1 hpr (fun _ _ _ => rfl)) (by unfold xs_tk; rw [if_pos (by first | exact c_12 | exact Decidable.of_not_not c_12), if_pos (Decidable.of_not_not fun y => c_22 (xn_le17.2.mpr y))])

