set_option maxRecDepth 20000 in
set_option maxHeartbeats 2000000 in
/-- piston -/
theorem xm_X9_piston : xv_K yX9_piston mX9_piston (fun as h n Post => ∃ (σ : xs_Sg) (p : Int32) (k : Int32), as = [.ref 83, .int p, .int k] ∧ (xs_Mo h σ) ∧ (103 < n) ∧ (xs_V σ) ∧ xs_DM h n Post (xs_piston σ p k)) := by
  refine xv_entry (by decide +kernel) rfl (fun h => absurd h (by decide)) ?_
  rintro X _ h n Post ⟨σ, p, k, rfl, ⟨C, dk, hM, hR⟩, h103, hV, hp⟩
  refine ⟨Nat.le_of_ble_eq_true rfl, ?_⟩
  show xv_V X mX9_piston Post 0 0 0 [(0, .ref 83), (1, .int p), (2, .int k)] [] h n
  refine xi_aload_n (q := 1) dX9_piston_0 rfl rfl ?_
  refine xi_iconst (x := 0) (q := 2) dX9_piston_1 (by decide) rfl ?_
  refine xi_putf (q := 5) dX9_piston_2 fl_X9_71 ⟨by omega, (xs_M83 hM)⟩ (Or.inl rfl) (fun _ => rfl) (fun _ => rfl) (Nat.le_of_ble_eq_true rfl) rfl ?_
  refine xi_iload_n (q := 6) dX9_piston_5 rfl rfl ?_
  refine xv_cS1 (q := 9) xm_X9_isPlace ln_X9_116 dX9_piston_6 ⟨(Nat.le_of_ble_eq_true rfl), (Nat.le_of_ble_eq_true rfl)⟩ (Nat.le_of_ble_eq_true rfl) ⟨rfl, rfl⟩ rfl (Nat.zero_le _) (Nat.zero_le _) ?_
  refine ⟨_, rfl, ?_⟩
  refine xi_if_eq (q := 12) (q2 := 26) dX9_piston_9 (by decide) rfl (fun c_9 => ?_) (fun c_9 => ?_)
  · have g_9 : xs_i p 0 5 = false := decide_eq_false (xn_b0 c_9)
    refine xi_ldc (q := 28) dX9_piston_26 kc_X9_91 rfl ?_
    refine xi_ret ⟨_, rfl, rfl, dX9_piston_28⟩ (Nat.zero_le _) (Nat.zero_le _) ?_
    exact xs_finM (σ' := σ) hp (by simp only [xs_piston, xs_onE, xs_onP, xs_fn, xs_an, Bool.not_false, Bool.not_true, Bool.true_or, Bool.false_or, Bool.and_true, Bool.true_and, Bool.and_false, Bool.false_and, Bool.false_eq_true, if_true, if_false, ↓reduceIte, g_9] <;> rfl) _ (xs_Mx (σ' := σ) hM hR (fa := (upd (C 83) 0 0)) ((va_up_self _ _ _).trans rfl) (fun j hj => (pk_un (by omega)).trans (rfl)) ((va_up_ne _ _ (by omega)).trans (xs_M88 hM)) (fun _ _ => rfl) ((va_up_ne _ _ (by omega)).trans (xs_M94 hM)) ((va_up_ne _ _ (by omega)).trans (xs_M95 hM)) ((va_up_ne _ _ (by omega)).trans (xs_M96 hM)) ((va_up_ne _ _ (by omega)).trans (xs_M97 hM)) ((va_up_ne _ _ (by omega)).trans (xs_M98 hM)) ((va_up_ne _ _ (by omega)).trans (xs_M99 hM)) (fun i i1 i2 i3 i4 => ((va_up_ne _ _ (by omega)).trans (Eq.refl _))) (fun _ _ _ => rfl) hR.2) (fun i hi => ((va_up_ne _ _ (by omega)).trans (Eq.refl _)))
  · have g_9 : xs_i p 0 5 = true := decide_eq_true (xn_b1 c_9)
    obtain ⟨kp, hkp, rfl⟩ := xn_pk (m := 5) (by omega) (xn_b1 c_9)
    refine xi_iload_n (q := 13) dX9_piston_12 rfl rfl ?_
    refine xi_i2l (q := 14) dX9_piston_13 rfl ?_
    refine xi_ldc2 (q := 17) dX9_piston_14 kc_X9_163 rfl ?_
    refine xi_ldc2 (q := 20) dX9_piston_17 kc_X9_165 rfl ?_
    refine xv_cS3 (q := 23) xm_X9_in ln_X9_81 dX9_piston_20 ⟨(Nat.le_of_ble_eq_true rfl), (Nat.le_of_ble_eq_true rfl)⟩ (Nat.le_of_ble_eq_true rfl) ⟨rfl, rfl⟩ rfl (Nat.zero_le _) (Nat.zero_le _) ?_
    refine ⟨k, -1000, 1000, rfl, ?_⟩
    refine xi_if_ne (q := 26) (q2 := 29) dX9_piston_23 (by decide) rfl (fun c_23 => ?_) (fun c_23 => ?_)
    · have g_23 : xs_i k (-1000) 1000 = true := decide_eq_true (xn_b1 c_23)
      refine xi_aload_n (q := 30) dX9_piston_29 rfl rfl ?_
      refine xi_iload_n (q := 31) dX9_piston_30 rfl rfl ?_
      refine xv_cV1 (q := 34) xm_X9_stands ln_X9_123 dX9_piston_31 (xv_self (by omega)) rfl ⟨(Nat.le_of_ble_eq_true rfl), (Nat.le_of_ble_eq_true rfl)⟩ (Nat.le_of_ble_eq_true rfl) ⟨rfl, rfl⟩ rfl (Nat.zero_le _) (Nat.zero_le _) ?_
      refine ⟨(upd (C 83) 0 0), dk, C 87, kp, rfl, ((va_up_self _ _ _).trans rfl), by omega, ((va_up_ne _ _ (by omega)).trans (xs_M87 hM)), by omega, ?_, ?_⟩
      · intro z31 h31 p31 f31
        have Fh31 : ∀ i, i ≠ 83 → h31 i = h i := fun i j83 => (f31 i (by omega)).trans ((va_up_ne _ _ (by omega)).trans (Eq.refl _))
        have y31 : σ 6 kp 0 = 0 := (xs_ht hR (by omega)).symm.trans z31
        refine xi_istore_n (q := 35) dX9_piston_34 (Nat.le_of_ble_eq_true rfl) rfl ?_
        refine xi_iload_n (q := 36) dX9_piston_35 rfl rfl ?_
        refine xi_if_ge (q := 39) (q2 := 43) dX9_piston_36 (by decide) rfl (fun c_36 => ?_) (fun c_36 => ?_)
        · exact absurd c_36 (by decide)
        · skip
          refine xi_iload_n (q := 40) dX9_piston_39 rfl rfl ?_
          refine xi_goto (q := 49) dX9_piston_40 (by decide) ?_
          refine xi_ret ⟨_, rfl, rfl, dX9_piston_49⟩ (Nat.zero_le _) (Nat.zero_le _) ?_
          exact xs_finM (σ' := (xs_fd σ 1)) hp (by simp only [xs_piston, xs_onE, xs_onP, xs_fn1, xs_an, Bool.not_false, Bool.not_true, Bool.true_or, Bool.false_or, Bool.and_true, Bool.true_and, Bool.and_false, Bool.false_and, Bool.false_eq_true, if_true, if_false, ↓reduceIte, g_9, g_23, eq_true y31, xs_kk0 (k := kp) (by omega)] <;> rfl) _ (xs_Mx (σ' := (xs_fd σ 1)) hM hR (fa := (upd (upd (C 83) 0 0) 1 1)) p31 (fun j hj => (pk_un (by omega)).trans ((pk_un (by omega)).trans (rfl))) ((Fh31 88 (by omega)).trans (xs_M88 hM)) (fun _ _ => rfl) ((Fh31 94 (by omega)).trans (xs_M94 hM)) ((Fh31 95 (by omega)).trans (xs_M95 hM)) ((Fh31 96 (by omega)).trans (xs_M96 hM)) ((Fh31 97 (by omega)).trans (xs_M97 hM)) ((Fh31 98 (by omega)).trans (xs_M98 hM)) ((Fh31 99 (by omega)).trans (xs_M99 hM)) (fun i i1 i2 i3 i4 => (Fh31 i (by omega))) xs_fdo rfl) (fun i hi => (Fh31 i (by omega)))
      · intro z31 h31 p31 f31
        have Fh31 : ∀ i, i ≠ 83 → h31 i = h i := fun i j83 => (f31 i (by omega)).trans ((va_up_ne _ _ (by omega)).trans (Eq.refl _))
        have y31 : ¬ σ 6 kp 0 = 0 := fun e => z31 ((xs_ht hR (by omega)).trans e)
        refine xi_istore_n (q := 35) dX9_piston_34 (Nat.le_of_ble_eq_true rfl) rfl ?_
        refine xi_iload_n (q := 36) dX9_piston_35 rfl rfl ?_
        refine xi_if_ge (q := 39) (q2 := 43) dX9_piston_36 (by decide) rfl (fun c_36 => ?_) (fun c_36 => ?_)
        · skip
          refine xi_aload_n (q := 44) dX9_piston_43 rfl rfl ?_
          refine xi_iload_n (q := 45) dX9_piston_44 rfl rfl ?_
          refine xi_iload_n (q := 46) dX9_piston_45 rfl rfl ?_
          refine xv_cV2 (q := 49) xm_X9_pistonAt ln_X9_167 dX9_piston_46 ⟨by omega, p31⟩ rfl ⟨(Nat.le_of_ble_eq_true rfl), (Nat.le_of_ble_eq_true rfl)⟩ (Nat.le_of_ble_eq_true rfl) ⟨rfl, rfl⟩ rfl (Nat.zero_le _) (Nat.zero_le _) ?_
          refine ⟨(upd (upd (C 83) 0 0) 1 0), dk, (C 88), kp, _, rfl, ⟨p31, ((Fh31 88 (by omega)).trans (xs_M88 hM)), ((Fh31 93 (by omega)).trans (xs_M93 hM))⟩, by omega, by omega, (xe_ok (xs_hq hR (by omega)) (hV.2.2.2.1 kp (by omega) y31).1).1, ?_⟩
          rw [show C 88 (12 * kp + 0) = σ 4 kp 0 from (xs_hq hR (p := kp) (by omega)) 0 (by omega)]
          refine xi_ret ⟨_, rfl, rfl, dX9_piston_49⟩ (Nat.zero_le _) (Nat.zero_le _) ?_
          exact xs_finM (σ' := (xs_fd σ 0)) hp (by simp only [xs_piston, xs_onE, xs_onP, xs_fn, xs_an, Bool.not_false, Bool.not_true, Bool.true_or, Bool.false_or, Bool.and_true, Bool.true_and, Bool.and_false, Bool.false_and, Bool.false_eq_true, if_true, if_false, ↓reduceIte, g_9, g_23, eq_false y31, xs_kk0 (k := kp) (by omega)] <;> rfl) _ (xs_Mx (σ' := (xs_fd σ 0)) hM hR (fa := (upd (upd (C 83) 0 0) 1 0)) p31 (fun j hj => (pk_un (by omega)).trans ((pk_un (by omega)).trans (rfl))) ((Fh31 88 (by omega)).trans (xs_M88 hM)) (fun _ _ => rfl) ((Fh31 94 (by omega)).trans (xs_M94 hM)) ((Fh31 95 (by omega)).trans (xs_M95 hM)) ((Fh31 96 (by omega)).trans (xs_M96 hM)) ((Fh31 97 (by omega)).trans (xs_M97 hM)) ((Fh31 98 (by omega)).trans (xs_M98 hM)) ((Fh31 99 (by omega)).trans (xs_M99 hM)) (fun i i1 i2 i3 i4 => (Fh31 i (by omega))) xs_fdo rfl) (fun i hi => (Fh31 i (by omega)))
        · exact absurd (by decide) c_36
    · have g_23 : xs_i k (-1000) 1000 = false := decide_eq_false (xn_b0 c_23)
      refine xi_ldc (q := 28) dX9_piston_26 kc_X9_91 rfl ?_
      refine xi_ret ⟨_, rfl, rfl, dX9_piston_28⟩ (Nat.zero_le _) (Nat.zero_le _) ?_
      exact xs_finM (σ' := σ) hp (by simp only [xs_piston, xs_onE, xs_onP, xs_fn, xs_an, Bool.not_false, Bool.not_true, Bool.true_or, Bool.false_or, Bool.and_true, Bool.true_and, Bool.and_false, Bool.false_and, Bool.false_eq_true, if_true, if_false, ↓reduceIte, g_9, g_23, xs_kk0 (k := kp) (by omega)] <;> rfl) _ (xs_Mx (σ' := σ) hM hR (fa := (upd (C 83) 0 0)) ((va_up_self _ _ _).trans rfl) (fun j hj => (pk_un (by omega)).trans (rfl)) ((va_up_ne _ _ (by omega)).trans (xs_M88 hM)) (fun _ _ => rfl) ((va_up_ne _ _ (by omega)).trans (xs_M94 hM)) ((va_up_ne _ _ (by omega)).trans (xs_M95 hM)) ((va_up_ne _ _ (by omega)).trans (xs_M96 hM)) ((va_up_ne _ _ (by omega)).trans (xs_M97 hM)) ((va_up_ne _ _ (by omega)).trans (xs_M98 hM)) ((va_up_ne _ _ (by omega)).trans (xs_M99 hM)) (fun i i1 i2 i3 i4 => ((va_up_ne _ _ (by omega)).trans (Eq.refl _))) (fun _ _ _ => rfl) hR.2) (fun i hi => ((va_up_ne _ _ (by omega)).trans (Eq.refl _)))

set_option maxRecDepth 20000 in
set_option maxHeartbeats 2000000 in
/-- valve -/
theorem xm_X9_valve : xv_K yX9_valve mX9_valve (fun as h n Post => ∃ (σ : xs_Sg) (p : Int32) (m : Int32) (k : Int32), as = [.ref 83, .int p, .int m, .int k] ∧ (xs_Mo h σ) ∧ (103 < n) ∧ (xs_V σ) ∧ xs_DM h n Post (xs_valve σ p m k)) := by
  refine xv_entry (by decide +kernel) rfl (fun h => absurd h (by decide)) ?_
  rintro X _ h n Post ⟨σ, p, m, k, rfl, ⟨C, dk, hM, hR⟩, h103, hV, hp⟩
  refine ⟨Nat.le_of_ble_eq_true rfl, ?_⟩
  show xv_V X mX9_valve Post 0 0 0 [(0, .ref 83), (1, .int p), (2, .int m), (3, .int k)] [] h n
  refine xi_aload_n (q := 1) dX9_valve_0 rfl rfl ?_
  refine xi_iconst (x := 0) (q := 2) dX9_valve_1 (by decide) rfl ?_
  refine xi_putf (q := 5) dX9_valve_2 fl_X9_71 ⟨by omega, (xs_M83 hM)⟩ (Or.inl rfl) (fun _ => rfl) (fun _ => rfl) (Nat.le_of_ble_eq_true rfl) rfl ?_
  refine xi_iload_n (q := 6) dX9_valve_5 rfl rfl ?_
  refine xv_cS1 (q := 9) xm_X9_isPlace ln_X9_116 dX9_valve_6 ⟨(Nat.le_of_ble_eq_true rfl), (Nat.le_of_ble_eq_true rfl)⟩ (Nat.le_of_ble_eq_true rfl) ⟨rfl, rfl⟩ rfl (Nat.zero_le _) (Nat.zero_le _) ?_
  refine ⟨_, rfl, ?_⟩
  refine xi_if_eq (q := 12) (q2 := 33) dX9_valve_9 (by decide) rfl (fun c_9 => ?_) (fun c_9 => ?_)
  · have g_9 : xs_i p 0 5 = false := decide_eq_false (xn_b0 c_9)
    refine xi_ldc (q := 35) dX9_valve_33 kc_X9_91 rfl ?_
    refine xi_ret ⟨_, rfl, rfl, dX9_valve_35⟩ (Nat.zero_le _) (Nat.zero_le _) ?_
    exact xs_finM (σ' := σ) hp (by simp only [xs_valve, xs_onE, xs_onP, xs_fn, xs_an, Bool.not_false, Bool.not_true, Bool.true_or, Bool.false_or, Bool.and_true, Bool.true_and, Bool.and_false, Bool.false_and, Bool.false_eq_true, if_true, if_false, ↓reduceIte, g_9] <;> rfl) _ (xs_Mx (σ' := σ) hM hR (fa := (upd (C 83) 0 0)) ((va_up_self _ _ _).trans rfl) (fun j hj => (pk_un (by omega)).trans (rfl)) ((va_up_ne _ _ (by omega)).trans (xs_M88 hM)) (fun _ _ => rfl) ((va_up_ne _ _ (by omega)).trans (xs_M94 hM)) ((va_up_ne _ _ (by omega)).trans (xs_M95 hM)) ((va_up_ne _ _ (by omega)).trans (xs_M96 hM)) ((va_up_ne _ _ (by omega)).trans (xs_M97 hM)) ((va_up_ne _ _ (by omega)).trans (xs_M98 hM)) ((va_up_ne _ _ (by omega)).trans (xs_M99 hM)) (fun i i1 i2 i3 i4 => ((va_up_ne _ _ (by omega)).trans (Eq.refl _))) (fun _ _ _ => rfl) hR.2) (fun i hi => ((va_up_ne _ _ (by omega)).trans (Eq.refl _)))
  · have g_9 : xs_i p 0 5 = true := decide_eq_true (xn_b1 c_9)
    obtain ⟨kp, hkp, rfl⟩ := xn_pk (m := 5) (by omega) (xn_b1 c_9)
    refine xi_iload_n (q := 13) dX9_valve_12 rfl rfl ?_
    refine xv_cS1 (q := 16) xm_X9_isNotch ln_X9_171 dX9_valve_13 ⟨(Nat.le_of_ble_eq_true rfl), (Nat.le_of_ble_eq_true rfl)⟩ (Nat.le_of_ble_eq_true rfl) ⟨rfl, rfl⟩ rfl (Nat.zero_le _) (Nat.zero_le _) ?_
    refine ⟨_, rfl, ?_⟩
    refine xi_if_eq (q := 19) (q2 := 33) dX9_valve_16 (by decide) rfl (fun c_16 => ?_) (fun c_16 => ?_)
    · have g_16 : xs_i m (-6) 6 = false := decide_eq_false (xn_b0 c_16)
      refine xi_ldc (q := 35) dX9_valve_33 kc_X9_91 rfl ?_
      refine xi_ret ⟨_, rfl, rfl, dX9_valve_35⟩ (Nat.zero_le _) (Nat.zero_le _) ?_
      exact xs_finM (σ' := σ) hp (by simp only [xs_valve, xs_onE, xs_onP, xs_fn, xs_an, Bool.not_false, Bool.not_true, Bool.true_or, Bool.false_or, Bool.and_true, Bool.true_and, Bool.and_false, Bool.false_and, Bool.false_eq_true, if_true, if_false, ↓reduceIte, g_9, g_16, xs_kk0 (k := kp) (by omega)] <;> rfl) _ (xs_Mx (σ' := σ) hM hR (fa := (upd (C 83) 0 0)) ((va_up_self _ _ _).trans rfl) (fun j hj => (pk_un (by omega)).trans (rfl)) ((va_up_ne _ _ (by omega)).trans (xs_M88 hM)) (fun _ _ => rfl) ((va_up_ne _ _ (by omega)).trans (xs_M94 hM)) ((va_up_ne _ _ (by omega)).trans (xs_M95 hM)) ((va_up_ne _ _ (by omega)).trans (xs_M96 hM)) ((va_up_ne _ _ (by omega)).trans (xs_M97 hM)) ((va_up_ne _ _ (by omega)).trans (xs_M98 hM)) ((va_up_ne _ _ (by omega)).trans (xs_M99 hM)) (fun i i1 i2 i3 i4 => ((va_up_ne _ _ (by omega)).trans (Eq.refl _))) (fun _ _ _ => rfl) hR.2) (fun i hi => ((va_up_ne _ _ (by omega)).trans (Eq.refl _)))
    · have g_16 : xs_i m (-6) 6 = true := decide_eq_true (xn_b1 c_16)
      refine xi_iload_n (q := 20) dX9_valve_19 rfl rfl ?_
      refine xi_i2l (q := 21) dX9_valve_20 rfl ?_
      refine xi_ldc2 (q := 24) dX9_valve_21 kc_X9_163 rfl ?_
      refine xi_ldc2 (q := 27) dX9_valve_24 kc_X9_165 rfl ?_
      refine xv_cS3 (q := 30) xm_X9_in ln_X9_81 dX9_valve_27 ⟨(Nat.le_of_ble_eq_true rfl), (Nat.le_of_ble_eq_true rfl)⟩ (Nat.le_of_ble_eq_true rfl) ⟨rfl, rfl⟩ rfl (Nat.zero_le _) (Nat.zero_le _) ?_
      refine ⟨k, -1000, 1000, rfl, ?_⟩
      refine xi_if_ne (q := 33) (q2 := 36) dX9_valve_30 (by decide) rfl (fun c_30 => ?_) (fun c_30 => ?_)
      · have g_30 : xs_i k (-1000) 1000 = true := decide_eq_true (xn_b1 c_30)
        refine xi_aload_n (q := 37) dX9_valve_36 rfl rfl ?_
        refine xi_iload_n (q := 38) dX9_valve_37 rfl rfl ?_
        refine xv_cV1 (q := 41) xm_X9_stands ln_X9_123 dX9_valve_38 (xv_self (by omega)) rfl ⟨(Nat.le_of_ble_eq_true rfl), (Nat.le_of_ble_eq_true rfl)⟩ (Nat.le_of_ble_eq_true rfl) ⟨rfl, rfl⟩ rfl (Nat.zero_le _) (Nat.zero_le _) ?_
        refine ⟨(upd (C 83) 0 0), dk, C 87, kp, rfl, ((va_up_self _ _ _).trans rfl), by omega, ((va_up_ne _ _ (by omega)).trans (xs_M87 hM)), by omega, ?_, ?_⟩
        · intro z38 h38 p38 f38
          have Fh38 : ∀ i, i ≠ 83 → h38 i = h i := fun i j83 => (f38 i (by omega)).trans ((va_up_ne _ _ (by omega)).trans (Eq.refl _))
          have y38 : σ 6 kp 0 = 0 := (xs_ht hR (by omega)).symm.trans z38
          refine xi_istore (q := 43) dX9_valve_41 (Nat.le_of_ble_eq_true rfl) rfl ?_
          refine xi_iload (q := 45) dX9_valve_43 rfl rfl ?_
          refine xi_if_ge (q := 48) (q2 := 53) dX9_valve_45 (by decide) rfl (fun c_45 => ?_) (fun c_45 => ?_)
          · exact absurd c_45 (by decide)
          · skip
            refine xi_iload (q := 50) dX9_valve_48 rfl rfl ?_
            refine xi_goto (q := 60) dX9_valve_50 (by decide) ?_
            refine xi_ret ⟨_, rfl, rfl, dX9_valve_60⟩ (Nat.zero_le _) (Nat.zero_le _) ?_
            exact xs_finM (σ' := (xs_fd σ 1)) hp (by simp only [xs_valve, xs_onE, xs_onP, xs_fn1, xs_an, Bool.not_false, Bool.not_true, Bool.true_or, Bool.false_or, Bool.and_true, Bool.true_and, Bool.and_false, Bool.false_and, Bool.false_eq_true, if_true, if_false, ↓reduceIte, g_9, g_16, g_30, eq_true y38, xs_kk0 (k := kp) (by omega)] <;> rfl) _ (xs_Mx (σ' := (xs_fd σ 1)) hM hR (fa := (upd (upd (C 83) 0 0) 1 1)) p38 (fun j hj => (pk_un (by omega)).trans ((pk_un (by omega)).trans (rfl))) ((Fh38 88 (by omega)).trans (xs_M88 hM)) (fun _ _ => rfl) ((Fh38 94 (by omega)).trans (xs_M94 hM)) ((Fh38 95 (by omega)).trans (xs_M95 hM)) ((Fh38 96 (by omega)).trans (xs_M96 hM)) ((Fh38 97 (by omega)).trans (xs_M97 hM)) ((Fh38 98 (by omega)).trans (xs_M98 hM)) ((Fh38 99 (by omega)).trans (xs_M99 hM)) (fun i i1 i2 i3 i4 => (Fh38 i (by omega))) xs_fdo rfl) (fun i hi => (Fh38 i (by omega)))
        · intro z38 h38 p38 f38
          have Fh38 : ∀ i, i ≠ 83 → h38 i = h i := fun i j83 => (f38 i (by omega)).trans ((va_up_ne _ _ (by omega)).trans (Eq.refl _))
          have y38 : ¬ σ 6 kp 0 = 0 := fun e => z38 ((xs_ht hR (by omega)).trans e)
          refine xi_istore (q := 43) dX9_valve_41 (Nat.le_of_ble_eq_true rfl) rfl ?_
          refine xi_iload (q := 45) dX9_valve_43 rfl rfl ?_
          refine xi_if_ge (q := 48) (q2 := 53) dX9_valve_45 (by decide) rfl (fun c_45 => ?_) (fun c_45 => ?_)
          · skip
            refine xi_aload_n (q := 54) dX9_valve_53 rfl rfl ?_
            refine xi_iload_n (q := 55) dX9_valve_54 rfl rfl ?_
            refine xi_iload_n (q := 56) dX9_valve_55 rfl rfl ?_
            refine xi_iload_n (q := 57) dX9_valve_56 rfl rfl ?_
            refine xv_cV3 (q := 60) xm_X9_valveAt ln_X9_146 dX9_valve_57 ⟨by omega, p38⟩ rfl ⟨(Nat.le_of_ble_eq_true rfl), (Nat.le_of_ble_eq_true rfl)⟩ (Nat.le_of_ble_eq_true rfl) ⟨rfl, rfl⟩ rfl (Nat.zero_le _) (Nat.zero_le _) ?_
            refine ⟨(upd (upd (C 83) 0 0) 1 0), dk, (C 88), kp, _, _, rfl, ⟨p38, ((Fh38 88 (by omega)).trans (xs_M88 hM)), ((Fh38 93 (by omega)).trans (xs_M93 hM))⟩, by omega, by omega, ?_⟩
            rw [xs_hs hR (p := kp) (by omega), xe_val (xs_hq hR (p := kp) (by omega))]
            refine xi_ret ⟨_, rfl, rfl, dX9_valve_60⟩ (Nat.zero_le _) (Nat.zero_le _) ?_
            exact xs_finM (σ' := (xs_fd σ 0)) hp (by simp only [xs_valve, xs_onE, xs_onP, xs_fn, xs_an, Bool.not_false, Bool.not_true, Bool.true_or, Bool.false_or, Bool.and_true, Bool.true_and, Bool.and_false, Bool.false_and, Bool.false_eq_true, if_true, if_false, ↓reduceIte, g_9, g_16, g_30, eq_false y38, xs_kk0 (k := kp) (by omega)] <;> rfl) _ (xs_Mx (σ' := (xs_fd σ 0)) hM hR (fa := (upd (upd (C 83) 0 0) 1 0)) p38 (fun j hj => (pk_un (by omega)).trans ((pk_un (by omega)).trans (rfl))) ((Fh38 88 (by omega)).trans (xs_M88 hM)) (fun _ _ => rfl) ((Fh38 94 (by omega)).trans (xs_M94 hM)) ((Fh38 95 (by omega)).trans (xs_M95 hM)) ((Fh38 96 (by omega)).trans (xs_M96 hM)) ((Fh38 97 (by omega)).trans (xs_M97 hM)) ((Fh38 98 (by omega)).trans (xs_M98 hM)) ((Fh38 99 (by omega)).trans (xs_M99 hM)) (fun i i1 i2 i3 i4 => (Fh38 i (by omega))) xs_fdo rfl) (fun i hi => (Fh38 i (by omega)))
          · exact absurd (by decide) c_45
      · have g_30 : xs_i k (-1000) 1000 = false := decide_eq_false (xn_b0 c_30)
        refine xi_ldc (q := 35) dX9_valve_33 kc_X9_91 rfl ?_
        refine xi_ret ⟨_, rfl, rfl, dX9_valve_35⟩ (Nat.zero_le _) (Nat.zero_le _) ?_
        exact xs_finM (σ' := σ) hp (by simp only [xs_valve, xs_onE, xs_onP, xs_fn, xs_an, Bool.not_false, Bool.not_true, Bool.true_or, Bool.false_or, Bool.and_true, Bool.true_and, Bool.and_false, Bool.false_and, Bool.false_eq_true, if_true, if_false, ↓reduceIte, g_9, g_16, g_30, xs_kk0 (k := kp) (by omega)] <;> rfl) _ (xs_Mx (σ' := σ) hM hR (fa := (upd (C 83) 0 0)) ((va_up_self _ _ _).trans rfl) (fun j hj => (pk_un (by omega)).trans (rfl)) ((va_up_ne _ _ (by omega)).trans (xs_M88 hM)) (fun _ _ => rfl) ((va_up_ne _ _ (by omega)).trans (xs_M94 hM)) ((va_up_ne _ _ (by omega)).trans (xs_M95 hM)) ((va_up_ne _ _ (by omega)).trans (xs_M96 hM)) ((va_up_ne _ _ (by omega)).trans (xs_M97 hM)) ((va_up_ne _ _ (by omega)).trans (xs_M98 hM)) ((va_up_ne _ _ (by omega)).trans (xs_M99 hM)) (fun i i1 i2 i3 i4 => ((va_up_ne _ _ (by omega)).trans (Eq.refl _))) (fun _ _ _ => rfl) hR.2) (fun i hi => ((va_up_ne _ _ (by omega)).trans (Eq.refl _)))

set_option maxRecDepth 20000 in
set_option maxHeartbeats 2000000 in
/-- open -/
theorem xm_X9_open : xv_K yX9_open mX9_open (fun as h n Post => ∃ (σ : xs_Sg) (p : Int32) (m : Int32) (d : Int32) (k : Int32) (w : Int32), as = [.ref 83, .int p, .int m, .int d, .int k, .int w] ∧ (xs_Mo h σ) ∧ (103 < n) ∧ (xs_V σ) ∧ xs_DM h n Post (xs_open σ p m d k w)) := by
  refine xv_entry (by decide +kernel) rfl (fun h => absurd h (by decide)) ?_
  rintro X _ h n Post ⟨σ, p, m, d, k, w, rfl, ⟨C, dk, hM, hR⟩, h103, hV, hp⟩
  refine ⟨Nat.le_of_ble_eq_true rfl, ?_⟩
  show xv_V X mX9_open Post 0 0 0 [(0, .ref 83), (1, .int p), (2, .int m), (3, .int d), (4, .int k), (5, .int w)] [] h n
  refine xi_aload_n (q := 1) dX9_open_0 rfl rfl ?_
  refine xi_iconst (x := 0) (q := 2) dX9_open_1 (by decide) rfl ?_
  refine xi_putf (q := 5) dX9_open_2 fl_X9_71 ⟨by omega, (xs_M83 hM)⟩ (Or.inl rfl) (fun _ => rfl) (fun _ => rfl) (Nat.le_of_ble_eq_true rfl) rfl ?_
  refine xi_iload_n (q := 6) dX9_open_5 rfl rfl ?_
  refine xv_cS1 (q := 9) xm_X9_isPlace ln_X9_116 dX9_open_6 ⟨(Nat.le_of_ble_eq_true rfl), (Nat.le_of_ble_eq_true rfl)⟩ (Nat.le_of_ble_eq_true rfl) ⟨rfl, rfl⟩ rfl (Nat.zero_le _) (Nat.zero_le _) ?_
  refine ⟨_, rfl, ?_⟩
  refine xi_if_eq (q := 12) (q2 := 55) dX9_open_9 (by decide) rfl (fun c_9 => ?_) (fun c_9 => ?_)
  · have g_9 : xs_i p 0 5 = false := decide_eq_false (xn_b0 c_9)
    refine xi_ldc (q := 57) dX9_open_55 kc_X9_91 rfl ?_
    refine xi_ret ⟨_, rfl, rfl, dX9_open_57⟩ (Nat.zero_le _) (Nat.zero_le _) ?_
    exact xs_finM (σ' := σ) hp (by simp only [xs_open, xs_opn, xs_onE, xs_onP, xs_fn, xs_an, Bool.not_false, Bool.not_true, Bool.true_or, Bool.false_or, Bool.and_true, Bool.true_and, Bool.and_false, Bool.false_and, Bool.false_eq_true, if_true, if_false, ↓reduceIte, g_9] <;> rfl) _ (xs_Mx (σ' := σ) hM hR (fa := (upd (C 83) 0 0)) ((va_up_self _ _ _).trans rfl) (fun j hj => (pk_un (by omega)).trans (rfl)) ((va_up_ne _ _ (by omega)).trans (xs_M88 hM)) (fun _ _ => rfl) ((va_up_ne _ _ (by omega)).trans (xs_M94 hM)) ((va_up_ne _ _ (by omega)).trans (xs_M95 hM)) ((va_up_ne _ _ (by omega)).trans (xs_M96 hM)) ((va_up_ne _ _ (by omega)).trans (xs_M97 hM)) ((va_up_ne _ _ (by omega)).trans (xs_M98 hM)) ((va_up_ne _ _ (by omega)).trans (xs_M99 hM)) (fun i i1 i2 i3 i4 => ((va_up_ne _ _ (by omega)).trans (Eq.refl _))) (fun _ _ _ => rfl) hR.2) (fun i hi => ((va_up_ne _ _ (by omega)).trans (Eq.refl _)))
  · have g_9 : xs_i p 0 5 = true := decide_eq_true (xn_b1 c_9)
    obtain ⟨kp, hkp, rfl⟩ := xn_pk (m := 5) (by omega) (xn_b1 c_9)
    refine xi_iload_n (q := 13) dX9_open_12 rfl rfl ?_
    refine xv_cS1 (q := 16) xm_X9_isNotch ln_X9_171 dX9_open_13 ⟨(Nat.le_of_ble_eq_true rfl), (Nat.le_of_ble_eq_true rfl)⟩ (Nat.le_of_ble_eq_true rfl) ⟨rfl, rfl⟩ rfl (Nat.zero_le _) (Nat.zero_le _) ?_
    refine ⟨_, rfl, ?_⟩
    refine xi_if_eq (q := 19) (q2 := 55) dX9_open_16 (by decide) rfl (fun c_16 => ?_) (fun c_16 => ?_)
    · have g_16 : xs_i m (-6) 6 = false := decide_eq_false (xn_b0 c_16)
      refine xi_ldc (q := 57) dX9_open_55 kc_X9_91 rfl ?_
      refine xi_ret ⟨_, rfl, rfl, dX9_open_57⟩ (Nat.zero_le _) (Nat.zero_le _) ?_
      exact xs_finM (σ' := σ) hp (by simp only [xs_open, xs_opn, xs_onE, xs_onP, xs_fn, xs_an, Bool.not_false, Bool.not_true, Bool.true_or, Bool.false_or, Bool.and_true, Bool.true_and, Bool.and_false, Bool.false_and, Bool.false_eq_true, if_true, if_false, ↓reduceIte, g_9, g_16, xs_kk0 (k := kp) (by omega)] <;> rfl) _ (xs_Mx (σ' := σ) hM hR (fa := (upd (C 83) 0 0)) ((va_up_self _ _ _).trans rfl) (fun j hj => (pk_un (by omega)).trans (rfl)) ((va_up_ne _ _ (by omega)).trans (xs_M88 hM)) (fun _ _ => rfl) ((va_up_ne _ _ (by omega)).trans (xs_M94 hM)) ((va_up_ne _ _ (by omega)).trans (xs_M95 hM)) ((va_up_ne _ _ (by omega)).trans (xs_M96 hM)) ((va_up_ne _ _ (by omega)).trans (xs_M97 hM)) ((va_up_ne _ _ (by omega)).trans (xs_M98 hM)) ((va_up_ne _ _ (by omega)).trans (xs_M99 hM)) (fun i i1 i2 i3 i4 => ((va_up_ne _ _ (by omega)).trans (Eq.refl _))) (fun _ _ _ => rfl) hR.2) (fun i hi => ((va_up_ne _ _ (by omega)).trans (Eq.refl _)))
    · have g_16 : xs_i m (-6) 6 = true := decide_eq_true (xn_b1 c_16)
      refine xi_iload_n (q := 20) dX9_open_19 rfl rfl ?_
      refine xi_i2l (q := 21) dX9_open_20 rfl ?_
      refine xi_lconst (x := 0) (q := 22) dX9_open_21 (by decide) rfl ?_
      refine xi_lconst (x := 1) (q := 23) dX9_open_22 (by decide) rfl ?_
      refine xv_cS3 (q := 26) xm_X9_in ln_X9_81 dX9_open_23 ⟨(Nat.le_of_ble_eq_true rfl), (Nat.le_of_ble_eq_true rfl)⟩ (Nat.le_of_ble_eq_true rfl) ⟨rfl, rfl⟩ rfl (Nat.zero_le _) (Nat.zero_le _) ?_
      refine ⟨d, 0, 1, rfl, ?_⟩
      refine xi_if_eq (q := 29) (q2 := 55) dX9_open_26 (by decide) rfl (fun c_26 => ?_) (fun c_26 => ?_)
      · have g_26 : xs_i d 0 1 = false := decide_eq_false (xn_b0 c_26)
        refine xi_ldc (q := 57) dX9_open_55 kc_X9_91 rfl ?_
        refine xi_ret ⟨_, rfl, rfl, dX9_open_57⟩ (Nat.zero_le _) (Nat.zero_le _) ?_
        exact xs_finM (σ' := σ) hp (by simp only [xs_open, xs_opn, xs_onE, xs_onP, xs_fn, xs_an, Bool.not_false, Bool.not_true, Bool.true_or, Bool.false_or, Bool.and_true, Bool.true_and, Bool.and_false, Bool.false_and, Bool.false_eq_true, if_true, if_false, ↓reduceIte, g_9, g_16, g_26, xs_kk0 (k := kp) (by omega)] <;> rfl) _ (xs_Mx (σ' := σ) hM hR (fa := (upd (C 83) 0 0)) ((va_up_self _ _ _).trans rfl) (fun j hj => (pk_un (by omega)).trans (rfl)) ((va_up_ne _ _ (by omega)).trans (xs_M88 hM)) (fun _ _ => rfl) ((va_up_ne _ _ (by omega)).trans (xs_M94 hM)) ((va_up_ne _ _ (by omega)).trans (xs_M95 hM)) ((va_up_ne _ _ (by omega)).trans (xs_M96 hM)) ((va_up_ne _ _ (by omega)).trans (xs_M97 hM)) ((va_up_ne _ _ (by omega)).trans (xs_M98 hM)) ((va_up_ne _ _ (by omega)).trans (xs_M99 hM)) (fun i i1 i2 i3 i4 => ((va_up_ne _ _ (by omega)).trans (Eq.refl _))) (fun _ _ _ => rfl) hR.2) (fun i hi => ((va_up_ne _ _ (by omega)).trans (Eq.refl _)))
      · have g_26 : xs_i d 0 1 = true := decide_eq_true (xn_b1 c_26)
        refine xi_iload (q := 31) dX9_open_29 rfl rfl ?_
        refine xi_i2l (q := 32) dX9_open_31 rfl ?_
        refine xi_ldc2 (q := 35) dX9_open_32 kc_X9_163 rfl ?_
        refine xi_ldc2 (q := 38) dX9_open_35 kc_X9_165 rfl ?_
        refine xv_cS3 (q := 41) xm_X9_in ln_X9_81 dX9_open_38 ⟨(Nat.le_of_ble_eq_true rfl), (Nat.le_of_ble_eq_true rfl)⟩ (Nat.le_of_ble_eq_true rfl) ⟨rfl, rfl⟩ rfl (Nat.zero_le _) (Nat.zero_le _) ?_
        refine ⟨k, -1000, 1000, rfl, ?_⟩
        refine xi_if_eq (q := 44) (q2 := 55) dX9_open_41 (by decide) rfl (fun c_41 => ?_) (fun c_41 => ?_)
        · have g_41 : xs_i k (-1000) 1000 = false := decide_eq_false (xn_b0 c_41)
          refine xi_ldc (q := 57) dX9_open_55 kc_X9_91 rfl ?_
          refine xi_ret ⟨_, rfl, rfl, dX9_open_57⟩ (Nat.zero_le _) (Nat.zero_le _) ?_
          exact xs_finM (σ' := σ) hp (by simp only [xs_open, xs_opn, xs_onE, xs_onP, xs_fn, xs_an, Bool.not_false, Bool.not_true, Bool.true_or, Bool.false_or, Bool.and_true, Bool.true_and, Bool.and_false, Bool.false_and, Bool.false_eq_true, if_true, if_false, ↓reduceIte, g_9, g_16, g_26, g_41, xs_kk0 (k := kp) (by omega)] <;> rfl) _ (xs_Mx (σ' := σ) hM hR (fa := (upd (C 83) 0 0)) ((va_up_self _ _ _).trans rfl) (fun j hj => (pk_un (by omega)).trans (rfl)) ((va_up_ne _ _ (by omega)).trans (xs_M88 hM)) (fun _ _ => rfl) ((va_up_ne _ _ (by omega)).trans (xs_M94 hM)) ((va_up_ne _ _ (by omega)).trans (xs_M95 hM)) ((va_up_ne _ _ (by omega)).trans (xs_M96 hM)) ((va_up_ne _ _ (by omega)).trans (xs_M97 hM)) ((va_up_ne _ _ (by omega)).trans (xs_M98 hM)) ((va_up_ne _ _ (by omega)).trans (xs_M99 hM)) (fun i i1 i2 i3 i4 => ((va_up_ne _ _ (by omega)).trans (Eq.refl _))) (fun _ _ _ => rfl) hR.2) (fun i hi => ((va_up_ne _ _ (by omega)).trans (Eq.refl _)))
        · have g_41 : xs_i k (-1000) 1000 = true := decide_eq_true (xn_b1 c_41)
          refine xi_iload (q := 46) dX9_open_44 rfl rfl ?_
          refine xi_i2l (q := 47) dX9_open_46 rfl ?_
          refine xi_lconst (x := 0) (q := 48) dX9_open_47 (by decide) rfl ?_
          refine xi_lconst (x := 1) (q := 49) dX9_open_48 (by decide) rfl ?_
          refine xv_cS3 (q := 52) xm_X9_in ln_X9_81 dX9_open_49 ⟨(Nat.le_of_ble_eq_true rfl), (Nat.le_of_ble_eq_true rfl)⟩ (Nat.le_of_ble_eq_true rfl) ⟨rfl, rfl⟩ rfl (Nat.zero_le _) (Nat.zero_le _) ?_
          refine ⟨w, 0, 1, rfl, ?_⟩
          refine xi_if_ne (q := 55) (q2 := 58) dX9_open_52 (by decide) rfl (fun c_52 => ?_) (fun c_52 => ?_)
          · have g_52 : xs_i w 0 1 = true := decide_eq_true (xn_b1 c_52)
            refine xi_aload_n (q := 59) dX9_open_58 rfl rfl ?_
            refine xi_iload_n (q := 60) dX9_open_59 rfl rfl ?_
            refine xv_cV1 (q := 63) xm_X9_stands ln_X9_123 dX9_open_60 (xv_self (by omega)) rfl ⟨(Nat.le_of_ble_eq_true rfl), (Nat.le_of_ble_eq_true rfl)⟩ (Nat.le_of_ble_eq_true rfl) ⟨rfl, rfl⟩ rfl (Nat.zero_le _) (Nat.zero_le _) ?_
            refine ⟨(upd (C 83) 0 0), dk, C 87, kp, rfl, ((va_up_self _ _ _).trans rfl), by omega, ((va_up_ne _ _ (by omega)).trans (xs_M87 hM)), by omega, ?_, ?_⟩
            · intro z60 h60 p60 f60
              have Fh60 : ∀ i, i ≠ 83 → h60 i = h i := fun i j83 => (f60 i (by omega)).trans ((va_up_ne _ _ (by omega)).trans (Eq.refl _))
              have y60 : σ 6 kp 0 = 0 := (xs_ht hR (by omega)).symm.trans z60
              refine xi_istore (q := 65) dX9_open_63 (Nat.le_of_ble_eq_true rfl) rfl ?_
              refine xi_iload (q := 67) dX9_open_65 rfl rfl ?_
              refine xi_if_ge (q := 70) (q2 := 75) dX9_open_67 (by decide) rfl (fun c_67 => ?_) (fun c_67 => ?_)
              · exact absurd c_67 (by decide)
              · skip
                refine xi_iload (q := 72) dX9_open_70 rfl rfl ?_
                refine xi_goto (q := 86) dX9_open_72 (by decide) ?_
                refine xi_ret ⟨_, rfl, rfl, dX9_open_86⟩ (Nat.zero_le _) (Nat.zero_le _) ?_
                exact xs_finM (σ' := (xs_fd σ 1)) hp (by simp only [xs_open, xs_opn, xs_onE, xs_onP, xs_fn1, xs_an, Bool.not_false, Bool.not_true, Bool.true_or, Bool.false_or, Bool.and_true, Bool.true_and, Bool.and_false, Bool.false_and, Bool.false_eq_true, if_true, if_false, ↓reduceIte, g_9, g_16, g_26, g_41, g_52, eq_true y60, xs_kk0 (k := kp) (by omega)] <;> rfl) _ (xs_Mx (σ' := (xs_fd σ 1)) hM hR (fa := (upd (upd (C 83) 0 0) 1 1)) p60 (fun j hj => (pk_un (by omega)).trans ((pk_un (by omega)).trans (rfl))) ((Fh60 88 (by omega)).trans (xs_M88 hM)) (fun _ _ => rfl) ((Fh60 94 (by omega)).trans (xs_M94 hM)) ((Fh60 95 (by omega)).trans (xs_M95 hM)) ((Fh60 96 (by omega)).trans (xs_M96 hM)) ((Fh60 97 (by omega)).trans (xs_M97 hM)) ((Fh60 98 (by omega)).trans (xs_M98 hM)) ((Fh60 99 (by omega)).trans (xs_M99 hM)) (fun i i1 i2 i3 i4 => (Fh60 i (by omega))) xs_fdo rfl) (fun i hi => (Fh60 i (by omega)))
            · intro z60 h60 p60 f60
              have Fh60 : ∀ i, i ≠ 83 → h60 i = h i := fun i j83 => (f60 i (by omega)).trans ((va_up_ne _ _ (by omega)).trans (Eq.refl _))
              have y60 : ¬ σ 6 kp 0 = 0 := fun e => z60 ((xs_ht hR (by omega)).trans e)
              refine xi_istore (q := 65) dX9_open_63 (Nat.le_of_ble_eq_true rfl) rfl ?_
              refine xi_iload (q := 67) dX9_open_65 rfl rfl ?_
              refine xi_if_ge (q := 70) (q2 := 75) dX9_open_67 (by decide) rfl (fun c_67 => ?_) (fun c_67 => ?_)
              · skip
                refine xi_aload_n (q := 76) dX9_open_75 rfl rfl ?_
                refine xi_iload_n (q := 77) dX9_open_76 rfl rfl ?_
                refine xi_iload_n (q := 78) dX9_open_77 rfl rfl ?_
                refine xi_iload_n (q := 79) dX9_open_78 rfl rfl ?_
                refine xi_iload (q := 81) dX9_open_79 rfl rfl ?_
                refine xi_iload (q := 83) dX9_open_81 rfl rfl ?_
                refine xv_cV5 (q := 86) xm_X9_openAt ln_X9_154 dX9_open_83 ⟨by omega, p60⟩ rfl ⟨(Nat.le_of_ble_eq_true rfl), (Nat.le_of_ble_eq_true rfl)⟩ (Nat.le_of_ble_eq_true rfl) ⟨rfl, rfl⟩ rfl (Nat.zero_le _) (Nat.zero_le _) ?_
                refine ⟨(upd (upd (C 83) 0 0) 1 0), dk, (C 88), kp, _, _, _, _, rfl, ⟨p60, ((Fh60 88 (by omega)).trans (xs_M88 hM)), ((Fh60 93 (by omega)).trans (xs_M93 hM))⟩, by omega, by omega, ?_⟩
                rw [xs_hs hR (p := kp) (by omega), xe_opn (xs_hq hR (p := kp) (by omega))]
                refine xi_ret ⟨_, rfl, rfl, dX9_open_86⟩ (Nat.zero_le _) (Nat.zero_le _) ?_
                exact xs_finM (σ' := (xs_fd σ 0)) hp (by simp only [xs_open, xs_opn, xs_onE, xs_onP, xs_fn, xs_an, Bool.not_false, Bool.not_true, Bool.true_or, Bool.false_or, Bool.and_true, Bool.true_and, Bool.and_false, Bool.false_and, Bool.false_eq_true, if_true, if_false, ↓reduceIte, g_9, g_16, g_26, g_41, g_52, eq_false y60, xs_kk0 (k := kp) (by omega)] <;> rfl) _ (xs_Mx (σ' := (xs_fd σ 0)) hM hR (fa := (upd (upd (C 83) 0 0) 1 0)) p60 (fun j hj => (pk_un (by omega)).trans ((pk_un (by omega)).trans (rfl))) ((Fh60 88 (by omega)).trans (xs_M88 hM)) (fun _ _ => rfl) ((Fh60 94 (by omega)).trans (xs_M94 hM)) ((Fh60 95 (by omega)).trans (xs_M95 hM)) ((Fh60 96 (by omega)).trans (xs_M96 hM)) ((Fh60 97 (by omega)).trans (xs_M97 hM)) ((Fh60 98 (by omega)).trans (xs_M98 hM)) ((Fh60 99 (by omega)).trans (xs_M99 hM)) (fun i i1 i2 i3 i4 => (Fh60 i (by omega))) xs_fdo rfl) (fun i hi => (Fh60 i (by omega)))
              · exact absurd (by decide) c_67
          · have g_52 : xs_i w 0 1 = false := decide_eq_false (xn_b0 c_52)
            refine xi_ldc (q := 57) dX9_open_55 kc_X9_91 rfl ?_
            refine xi_ret ⟨_, rfl, rfl, dX9_open_57⟩ (Nat.zero_le _) (Nat.zero_le _) ?_
            exact xs_finM (σ' := σ) hp (by simp only [xs_open, xs_opn, xs_onE, xs_onP, xs_fn, xs_an, Bool.not_false, Bool.not_true, Bool.true_or, Bool.false_or, Bool.and_true, Bool.true_and, Bool.and_false, Bool.false_and, Bool.false_eq_true, if_true, if_false, ↓reduceIte, g_9, g_16, g_26, g_41, g_52, xs_kk0 (k := kp) (by omega)] <;> rfl) _ (xs_Mx (σ' := σ) hM hR (fa := (upd (C 83) 0 0)) ((va_up_self _ _ _).trans rfl) (fun j hj => (pk_un (by omega)).trans (rfl)) ((va_up_ne _ _ (by omega)).trans (xs_M88 hM)) (fun _ _ => rfl) ((va_up_ne _ _ (by omega)).trans (xs_M94 hM)) ((va_up_ne _ _ (by omega)).trans (xs_M95 hM)) ((va_up_ne _ _ (by omega)).trans (xs_M96 hM)) ((va_up_ne _ _ (by omega)).trans (xs_M97 hM)) ((va_up_ne _ _ (by omega)).trans (xs_M98 hM)) ((va_up_ne _ _ (by omega)).trans (xs_M99 hM)) (fun i i1 i2 i3 i4 => ((va_up_ne _ _ (by omega)).trans (Eq.refl _))) (fun _ _ _ => rfl) hR.2) (fun i hi => ((va_up_ne _ _ (by omega)).trans (Eq.refl _)))

set_option maxRecDepth 20000 in
set_option maxHeartbeats 2000000 in
/-- event -/
theorem xm_X9_event : xv_K yX9_event mX9_event (fun as h n Post => ∃ (σ : xs_Sg) (p : Int32) (m : Int32) (d : Int32) (w : Int32), as = [.ref 83, .int p, .int m, .int d, .int w] ∧ (xs_Mo h σ) ∧ (103 < n) ∧ (xs_V σ) ∧ xs_DM h n Post (xs_event σ p m d w)) := by
  refine xv_entry (by decide +kernel) rfl (fun h => absurd h (by decide)) ?_
  rintro X _ h n Post ⟨σ, p, m, d, w, rfl, ⟨C, dk, hM, hR⟩, h103, hV, hp⟩
  refine ⟨Nat.le_of_ble_eq_true rfl, ?_⟩
  show xv_V X mX9_event Post 0 0 0 [(0, .ref 83), (1, .int p), (2, .int m), (3, .int d), (4, .int w)] [] h n
  refine xi_aload_n (q := 1) dX9_event_0 rfl rfl ?_
  refine xi_iconst (x := 0) (q := 2) dX9_event_1 (by decide) rfl ?_
  refine xi_putf (q := 5) dX9_event_2 fl_X9_71 ⟨by omega, (xs_M83 hM)⟩ (Or.inl rfl) (fun _ => rfl) (fun _ => rfl) (Nat.le_of_ble_eq_true rfl) rfl ?_
  refine xi_iload_n (q := 6) dX9_event_5 rfl rfl ?_
  refine xv_cS1 (q := 9) xm_X9_isPlace ln_X9_116 dX9_event_6 ⟨(Nat.le_of_ble_eq_true rfl), (Nat.le_of_ble_eq_true rfl)⟩ (Nat.le_of_ble_eq_true rfl) ⟨rfl, rfl⟩ rfl (Nat.zero_le _) (Nat.zero_le _) ?_
  refine ⟨_, rfl, ?_⟩
  refine xi_if_eq (q := 12) (q2 := 42) dX9_event_9 (by decide) rfl (fun c_9 => ?_) (fun c_9 => ?_)
  · have g_9 : xs_i p 0 5 = false := decide_eq_false (xn_b0 c_9)
    refine xi_ldc (q := 44) dX9_event_42 kc_X9_91 rfl ?_
    refine xi_ret ⟨_, rfl, rfl, dX9_event_44⟩ (Nat.zero_le _) (Nat.zero_le _) ?_
    exact xs_finM (σ' := σ) hp (by simp only [xs_event, xs_onE, xs_onP, xs_fn, xs_an, Bool.not_false, Bool.not_true, Bool.true_or, Bool.false_or, Bool.and_true, Bool.true_and, Bool.and_false, Bool.false_and, Bool.false_eq_true, if_true, if_false, ↓reduceIte, g_9] <;> rfl) _ (xs_Mx (σ' := σ) hM hR (fa := (upd (C 83) 0 0)) ((va_up_self _ _ _).trans rfl) (fun j hj => (pk_un (by omega)).trans (rfl)) ((va_up_ne _ _ (by omega)).trans (xs_M88 hM)) (fun _ _ => rfl) ((va_up_ne _ _ (by omega)).trans (xs_M94 hM)) ((va_up_ne _ _ (by omega)).trans (xs_M95 hM)) ((va_up_ne _ _ (by omega)).trans (xs_M96 hM)) ((va_up_ne _ _ (by omega)).trans (xs_M97 hM)) ((va_up_ne _ _ (by omega)).trans (xs_M98 hM)) ((va_up_ne _ _ (by omega)).trans (xs_M99 hM)) (fun i i1 i2 i3 i4 => ((va_up_ne _ _ (by omega)).trans (Eq.refl _))) (fun _ _ _ => rfl) hR.2) (fun i hi => ((va_up_ne _ _ (by omega)).trans (Eq.refl _)))
  · have g_9 : xs_i p 0 5 = true := decide_eq_true (xn_b1 c_9)
    obtain ⟨kp, hkp, rfl⟩ := xn_pk (m := 5) (by omega) (xn_b1 c_9)
    refine xi_iload_n (q := 13) dX9_event_12 rfl rfl ?_
    refine xv_cS1 (q := 16) xm_X9_isNotch ln_X9_171 dX9_event_13 ⟨(Nat.le_of_ble_eq_true rfl), (Nat.le_of_ble_eq_true rfl)⟩ (Nat.le_of_ble_eq_true rfl) ⟨rfl, rfl⟩ rfl (Nat.zero_le _) (Nat.zero_le _) ?_
    refine ⟨_, rfl, ?_⟩
    refine xi_if_eq (q := 19) (q2 := 42) dX9_event_16 (by decide) rfl (fun c_16 => ?_) (fun c_16 => ?_)
    · have g_16 : xs_i m (-6) 6 = false := decide_eq_false (xn_b0 c_16)
      refine xi_ldc (q := 44) dX9_event_42 kc_X9_91 rfl ?_
      refine xi_ret ⟨_, rfl, rfl, dX9_event_44⟩ (Nat.zero_le _) (Nat.zero_le _) ?_
      exact xs_finM (σ' := σ) hp (by simp only [xs_event, xs_onE, xs_onP, xs_fn, xs_an, Bool.not_false, Bool.not_true, Bool.true_or, Bool.false_or, Bool.and_true, Bool.true_and, Bool.and_false, Bool.false_and, Bool.false_eq_true, if_true, if_false, ↓reduceIte, g_9, g_16, xs_kk0 (k := kp) (by omega)] <;> rfl) _ (xs_Mx (σ' := σ) hM hR (fa := (upd (C 83) 0 0)) ((va_up_self _ _ _).trans rfl) (fun j hj => (pk_un (by omega)).trans (rfl)) ((va_up_ne _ _ (by omega)).trans (xs_M88 hM)) (fun _ _ => rfl) ((va_up_ne _ _ (by omega)).trans (xs_M94 hM)) ((va_up_ne _ _ (by omega)).trans (xs_M95 hM)) ((va_up_ne _ _ (by omega)).trans (xs_M96 hM)) ((va_up_ne _ _ (by omega)).trans (xs_M97 hM)) ((va_up_ne _ _ (by omega)).trans (xs_M98 hM)) ((va_up_ne _ _ (by omega)).trans (xs_M99 hM)) (fun i i1 i2 i3 i4 => ((va_up_ne _ _ (by omega)).trans (Eq.refl _))) (fun _ _ _ => rfl) hR.2) (fun i hi => ((va_up_ne _ _ (by omega)).trans (Eq.refl _)))
    · have g_16 : xs_i m (-6) 6 = true := decide_eq_true (xn_b1 c_16)
      refine xi_iload_n (q := 20) dX9_event_19 rfl rfl ?_
      refine xi_i2l (q := 21) dX9_event_20 rfl ?_
      refine xi_lconst (x := 0) (q := 22) dX9_event_21 (by decide) rfl ?_
      refine xi_lconst (x := 1) (q := 23) dX9_event_22 (by decide) rfl ?_
      refine xv_cS3 (q := 26) xm_X9_in ln_X9_81 dX9_event_23 ⟨(Nat.le_of_ble_eq_true rfl), (Nat.le_of_ble_eq_true rfl)⟩ (Nat.le_of_ble_eq_true rfl) ⟨rfl, rfl⟩ rfl (Nat.zero_le _) (Nat.zero_le _) ?_
      refine ⟨d, 0, 1, rfl, ?_⟩
      refine xi_if_eq (q := 29) (q2 := 42) dX9_event_26 (by decide) rfl (fun c_26 => ?_) (fun c_26 => ?_)
      · have g_26 : xs_i d 0 1 = false := decide_eq_false (xn_b0 c_26)
        refine xi_ldc (q := 44) dX9_event_42 kc_X9_91 rfl ?_
        refine xi_ret ⟨_, rfl, rfl, dX9_event_44⟩ (Nat.zero_le _) (Nat.zero_le _) ?_
        exact xs_finM (σ' := σ) hp (by simp only [xs_event, xs_onE, xs_onP, xs_fn, xs_an, Bool.not_false, Bool.not_true, Bool.true_or, Bool.false_or, Bool.and_true, Bool.true_and, Bool.and_false, Bool.false_and, Bool.false_eq_true, if_true, if_false, ↓reduceIte, g_9, g_16, g_26, xs_kk0 (k := kp) (by omega)] <;> rfl) _ (xs_Mx (σ' := σ) hM hR (fa := (upd (C 83) 0 0)) ((va_up_self _ _ _).trans rfl) (fun j hj => (pk_un (by omega)).trans (rfl)) ((va_up_ne _ _ (by omega)).trans (xs_M88 hM)) (fun _ _ => rfl) ((va_up_ne _ _ (by omega)).trans (xs_M94 hM)) ((va_up_ne _ _ (by omega)).trans (xs_M95 hM)) ((va_up_ne _ _ (by omega)).trans (xs_M96 hM)) ((va_up_ne _ _ (by omega)).trans (xs_M97 hM)) ((va_up_ne _ _ (by omega)).trans (xs_M98 hM)) ((va_up_ne _ _ (by omega)).trans (xs_M99 hM)) (fun i i1 i2 i3 i4 => ((va_up_ne _ _ (by omega)).trans (Eq.refl _))) (fun _ _ _ => rfl) hR.2) (fun i hi => ((va_up_ne _ _ (by omega)).trans (Eq.refl _)))
      · have g_26 : xs_i d 0 1 = true := decide_eq_true (xn_b1 c_26)
        refine xi_iload (q := 31) dX9_event_29 rfl rfl ?_
        refine xi_i2l (q := 32) dX9_event_31 rfl ?_
        refine xi_lconst (x := 0) (q := 33) dX9_event_32 (by decide) rfl ?_
        refine xi_ldc2 (q := 36) dX9_event_33 kc_X9_174 rfl ?_
        refine xv_cS3 (q := 39) xm_X9_in ln_X9_81 dX9_event_36 ⟨(Nat.le_of_ble_eq_true rfl), (Nat.le_of_ble_eq_true rfl)⟩ (Nat.le_of_ble_eq_true rfl) ⟨rfl, rfl⟩ rfl (Nat.zero_le _) (Nat.zero_le _) ?_
        refine ⟨w, 0, 3, rfl, ?_⟩
        refine xi_if_ne (q := 42) (q2 := 45) dX9_event_39 (by decide) rfl (fun c_39 => ?_) (fun c_39 => ?_)
        · have g_39 : xs_i w 0 3 = true := decide_eq_true (xn_b1 c_39)
          refine xi_aload_n (q := 46) dX9_event_45 rfl rfl ?_
          refine xi_iload_n (q := 47) dX9_event_46 rfl rfl ?_
          refine xv_cV1 (q := 50) xm_X9_stands ln_X9_123 dX9_event_47 (xv_self (by omega)) rfl ⟨(Nat.le_of_ble_eq_true rfl), (Nat.le_of_ble_eq_true rfl)⟩ (Nat.le_of_ble_eq_true rfl) ⟨rfl, rfl⟩ rfl (Nat.zero_le _) (Nat.zero_le _) ?_
          refine ⟨(upd (C 83) 0 0), dk, C 87, kp, rfl, ((va_up_self _ _ _).trans rfl), by omega, ((va_up_ne _ _ (by omega)).trans (xs_M87 hM)), by omega, ?_, ?_⟩
          · intro z47 h47 p47 f47
            have Fh47 : ∀ i, i ≠ 83 → h47 i = h i := fun i j83 => (f47 i (by omega)).trans ((va_up_ne _ _ (by omega)).trans (Eq.refl _))
            have y47 : σ 6 kp 0 = 0 := (xs_ht hR (by omega)).symm.trans z47
            refine xi_istore (q := 52) dX9_event_50 (Nat.le_of_ble_eq_true rfl) rfl ?_
            refine xi_iload (q := 54) dX9_event_52 rfl rfl ?_
            refine xi_if_ge (q := 57) (q2 := 62) dX9_event_54 (by decide) rfl (fun c_54 => ?_) (fun c_54 => ?_)
            · exact absurd c_54 (by decide)
            · skip
              refine xi_iload (q := 59) dX9_event_57 rfl rfl ?_
              refine xi_goto (q := 71) dX9_event_59 (by decide) ?_
              refine xi_ret ⟨_, rfl, rfl, dX9_event_71⟩ (Nat.zero_le _) (Nat.zero_le _) ?_
              exact xs_finM (σ' := (xs_fd σ 1)) hp (by simp only [xs_event, xs_onE, xs_onP, xs_fn1, xs_an, Bool.not_false, Bool.not_true, Bool.true_or, Bool.false_or, Bool.and_true, Bool.true_and, Bool.and_false, Bool.false_and, Bool.false_eq_true, if_true, if_false, ↓reduceIte, g_9, g_16, g_26, g_39, eq_true y47, xs_kk0 (k := kp) (by omega)] <;> rfl) _ (xs_Mx (σ' := (xs_fd σ 1)) hM hR (fa := (upd (upd (C 83) 0 0) 1 1)) p47 (fun j hj => (pk_un (by omega)).trans ((pk_un (by omega)).trans (rfl))) ((Fh47 88 (by omega)).trans (xs_M88 hM)) (fun _ _ => rfl) ((Fh47 94 (by omega)).trans (xs_M94 hM)) ((Fh47 95 (by omega)).trans (xs_M95 hM)) ((Fh47 96 (by omega)).trans (xs_M96 hM)) ((Fh47 97 (by omega)).trans (xs_M97 hM)) ((Fh47 98 (by omega)).trans (xs_M98 hM)) ((Fh47 99 (by omega)).trans (xs_M99 hM)) (fun i i1 i2 i3 i4 => (Fh47 i (by omega))) xs_fdo rfl) (fun i hi => (Fh47 i (by omega)))
          · intro z47 h47 p47 f47
            have Fh47 : ∀ i, i ≠ 83 → h47 i = h i := fun i j83 => (f47 i (by omega)).trans ((va_up_ne _ _ (by omega)).trans (Eq.refl _))
            have y47 : ¬ σ 6 kp 0 = 0 := fun e => z47 ((xs_ht hR (by omega)).trans e)
            refine xi_istore (q := 52) dX9_event_50 (Nat.le_of_ble_eq_true rfl) rfl ?_
            refine xi_iload (q := 54) dX9_event_52 rfl rfl ?_
            refine xi_if_ge (q := 57) (q2 := 62) dX9_event_54 (by decide) rfl (fun c_54 => ?_) (fun c_54 => ?_)
            · skip
              refine xi_aload_n (q := 63) dX9_event_62 rfl rfl ?_
              refine xi_iload_n (q := 64) dX9_event_63 rfl rfl ?_
              refine xi_iload_n (q := 65) dX9_event_64 rfl rfl ?_
              refine xi_iload_n (q := 66) dX9_event_65 rfl rfl ?_
              refine xi_iload (q := 68) dX9_event_66 rfl rfl ?_
              refine xv_cV4 (q := 71) xm_X9_eventOf ln_X9_176 dX9_event_68 ⟨by omega, p47⟩ rfl ⟨(Nat.le_of_ble_eq_true rfl), (Nat.le_of_ble_eq_true rfl)⟩ (Nat.le_of_ble_eq_true rfl) ⟨rfl, rfl⟩ rfl (Nat.zero_le _) (Nat.zero_le _) ?_
              refine ⟨(upd (upd (C 83) 0 0) 1 0), dk, (C 88), kp, _, _, _, rfl, ⟨p47, ((Fh47 88 (by omega)).trans (xs_M88 hM)), ((Fh47 93 (by omega)).trans (xs_M93 hM))⟩, by omega, by omega, ?_⟩
              rw [xs_hs hR (p := kp) (by omega), xe_evt (xs_hq hR (p := kp) (by omega))]
              refine xi_ret ⟨_, rfl, rfl, dX9_event_71⟩ (Nat.zero_le _) (Nat.zero_le _) ?_
              exact xs_finM (σ' := (xs_fd σ 0)) hp (by simp only [xs_event, xs_onE, xs_onP, xs_fn, xs_an, Bool.not_false, Bool.not_true, Bool.true_or, Bool.false_or, Bool.and_true, Bool.true_and, Bool.and_false, Bool.false_and, Bool.false_eq_true, if_true, if_false, ↓reduceIte, g_9, g_16, g_26, g_39, eq_false y47, xs_kk0 (k := kp) (by omega)] <;> rfl) _ (xs_Mx (σ' := (xs_fd σ 0)) hM hR (fa := (upd (upd (C 83) 0 0) 1 0)) p47 (fun j hj => (pk_un (by omega)).trans ((pk_un (by omega)).trans (rfl))) ((Fh47 88 (by omega)).trans (xs_M88 hM)) (fun _ _ => rfl) ((Fh47 94 (by omega)).trans (xs_M94 hM)) ((Fh47 95 (by omega)).trans (xs_M95 hM)) ((Fh47 96 (by omega)).trans (xs_M96 hM)) ((Fh47 97 (by omega)).trans (xs_M97 hM)) ((Fh47 98 (by omega)).trans (xs_M98 hM)) ((Fh47 99 (by omega)).trans (xs_M99 hM)) (fun i i1 i2 i3 i4 => (Fh47 i (by omega))) xs_fdo rfl) (fun i hi => (Fh47 i (by omega)))
            · exact absurd (by decide) c_54
        · have g_39 : xs_i w 0 3 = false := decide_eq_false (xn_b0 c_39)
          refine xi_ldc (q := 44) dX9_event_42 kc_X9_91 rfl ?_
          refine xi_ret ⟨_, rfl, rfl, dX9_event_44⟩ (Nat.zero_le _) (Nat.zero_le _) ?_
          exact xs_finM (σ' := σ) hp (by simp only [xs_event, xs_onE, xs_onP, xs_fn, xs_an, Bool.not_false, Bool.not_true, Bool.true_or, Bool.false_or, Bool.and_true, Bool.true_and, Bool.and_false, Bool.false_and, Bool.false_eq_true, if_true, if_false, ↓reduceIte, g_9, g_16, g_26, g_39, xs_kk0 (k := kp) (by omega)] <;> rfl) _ (xs_Mx (σ' := σ) hM hR (fa := (upd (C 83) 0 0)) ((va_up_self _ _ _).trans rfl) (fun j hj => (pk_un (by omega)).trans (rfl)) ((va_up_ne _ _ (by omega)).trans (xs_M88 hM)) (fun _ _ => rfl) ((va_up_ne _ _ (by omega)).trans (xs_M94 hM)) ((va_up_ne _ _ (by omega)).trans (xs_M95 hM)) ((va_up_ne _ _ (by omega)).trans (xs_M96 hM)) ((va_up_ne _ _ (by omega)).trans (xs_M97 hM)) ((va_up_ne _ _ (by omega)).trans (xs_M98 hM)) ((va_up_ne _ _ (by omega)).trans (xs_M99 hM)) (fun i i1 i2 i3 i4 => ((va_up_ne _ _ (by omega)).trans (Eq.refl _))) (fun _ _ _ => rfl) hR.2) (fun i hi => ((va_up_ne _ _ (by omega)).trans (Eq.refl _)))

set_option maxRecDepth 20000 in
set_option maxHeartbeats 2000000 in
/-- valves -/
theorem xm_X9_valves : xv_K yX9_valves mX9_valves (fun as h n Post => ∃ (σ : xs_Sg) (p : Int32) (w : Int32), as = [.ref 83, .int p, .int w] ∧ (xs_Mo h σ) ∧ (103 < n) ∧ (xs_V σ) ∧ xs_DM h n Post (xs_valves σ p w)) := by
  refine xv_entry (by decide +kernel) rfl (fun h => absurd h (by decide)) ?_
  rintro X _ h n Post ⟨σ, p, w, rfl, ⟨C, dk, hM, hR⟩, h103, hV, hp⟩
  refine ⟨Nat.le_of_ble_eq_true rfl, ?_⟩
  show xv_V X mX9_valves Post 0 0 0 [(0, .ref 83), (1, .int p), (2, .int w)] [] h n
  refine xi_aload_n (q := 1) dX9_valves_0 rfl rfl ?_
  refine xi_iconst (x := 0) (q := 2) dX9_valves_1 (by decide) rfl ?_
  refine xi_putf (q := 5) dX9_valves_2 fl_X9_71 ⟨by omega, (xs_M83 hM)⟩ (Or.inl rfl) (fun _ => rfl) (fun _ => rfl) (Nat.le_of_ble_eq_true rfl) rfl ?_
  refine xi_iload_n (q := 6) dX9_valves_5 rfl rfl ?_
  refine xv_cS1 (q := 9) xm_X9_isPlace ln_X9_116 dX9_valves_6 ⟨(Nat.le_of_ble_eq_true rfl), (Nat.le_of_ble_eq_true rfl)⟩ (Nat.le_of_ble_eq_true rfl) ⟨rfl, rfl⟩ rfl (Nat.zero_le _) (Nat.zero_le _) ?_
  refine ⟨_, rfl, ?_⟩
  refine xi_if_eq (q := 12) (q2 := 22) dX9_valves_9 (by decide) rfl (fun c_9 => ?_) (fun c_9 => ?_)
  · have g_9 : xs_i p 0 5 = false := decide_eq_false (xn_b0 c_9)
    refine xi_ldc (q := 24) dX9_valves_22 kc_X9_91 rfl ?_
    refine xi_ret ⟨_, rfl, rfl, dX9_valves_24⟩ (Nat.zero_le _) (Nat.zero_le _) ?_
    exact xs_finM (σ' := σ) hp (by simp only [xs_valves, xs_onE, xs_onP, xs_fn, xs_an, Bool.not_false, Bool.not_true, Bool.true_or, Bool.false_or, Bool.and_true, Bool.true_and, Bool.and_false, Bool.false_and, Bool.false_eq_true, if_true, if_false, ↓reduceIte, g_9] <;> rfl) _ (xs_Mx (σ' := σ) hM hR (fa := (upd (C 83) 0 0)) ((va_up_self _ _ _).trans rfl) (fun j hj => (pk_un (by omega)).trans (rfl)) ((va_up_ne _ _ (by omega)).trans (xs_M88 hM)) (fun _ _ => rfl) ((va_up_ne _ _ (by omega)).trans (xs_M94 hM)) ((va_up_ne _ _ (by omega)).trans (xs_M95 hM)) ((va_up_ne _ _ (by omega)).trans (xs_M96 hM)) ((va_up_ne _ _ (by omega)).trans (xs_M97 hM)) ((va_up_ne _ _ (by omega)).trans (xs_M98 hM)) ((va_up_ne _ _ (by omega)).trans (xs_M99 hM)) (fun i i1 i2 i3 i4 => ((va_up_ne _ _ (by omega)).trans (Eq.refl _))) (fun _ _ _ => rfl) hR.2) (fun i hi => ((va_up_ne _ _ (by omega)).trans (Eq.refl _)))
  · have g_9 : xs_i p 0 5 = true := decide_eq_true (xn_b1 c_9)
    obtain ⟨kp, hkp, rfl⟩ := xn_pk (m := 5) (by omega) (xn_b1 c_9)
    refine xi_iload_n (q := 13) dX9_valves_12 rfl rfl ?_
    refine xi_i2l (q := 14) dX9_valves_13 rfl ?_
    refine xi_lconst (x := 0) (q := 15) dX9_valves_14 (by decide) rfl ?_
    refine xi_lconst (x := 1) (q := 16) dX9_valves_15 (by decide) rfl ?_
    refine xv_cS3 (q := 19) xm_X9_in ln_X9_81 dX9_valves_16 ⟨(Nat.le_of_ble_eq_true rfl), (Nat.le_of_ble_eq_true rfl)⟩ (Nat.le_of_ble_eq_true rfl) ⟨rfl, rfl⟩ rfl (Nat.zero_le _) (Nat.zero_le _) ?_
    refine ⟨w, 0, 1, rfl, ?_⟩
    refine xi_if_ne (q := 22) (q2 := 25) dX9_valves_19 (by decide) rfl (fun c_19 => ?_) (fun c_19 => ?_)
    · have g_19 : xs_i w 0 1 = true := decide_eq_true (xn_b1 c_19)
      refine xi_aload_n (q := 26) dX9_valves_25 rfl rfl ?_
      refine xi_iload_n (q := 27) dX9_valves_26 rfl rfl ?_
      refine xv_cV1 (q := 30) xm_X9_stands ln_X9_123 dX9_valves_27 (xv_self (by omega)) rfl ⟨(Nat.le_of_ble_eq_true rfl), (Nat.le_of_ble_eq_true rfl)⟩ (Nat.le_of_ble_eq_true rfl) ⟨rfl, rfl⟩ rfl (Nat.zero_le _) (Nat.zero_le _) ?_
      refine ⟨(upd (C 83) 0 0), dk, C 87, kp, rfl, ((va_up_self _ _ _).trans rfl), by omega, ((va_up_ne _ _ (by omega)).trans (xs_M87 hM)), by omega, ?_, ?_⟩
      · intro z27 h27 p27 f27
        have Fh27 : ∀ i, i ≠ 83 → h27 i = h i := fun i j83 => (f27 i (by omega)).trans ((va_up_ne _ _ (by omega)).trans (Eq.refl _))
        have y27 : σ 6 kp 0 = 0 := (xs_ht hR (by omega)).symm.trans z27
        refine xi_istore_n (q := 31) dX9_valves_30 (Nat.le_of_ble_eq_true rfl) rfl ?_
        refine xi_iload_n (q := 32) dX9_valves_31 rfl rfl ?_
        refine xi_if_ge (q := 35) (q2 := 39) dX9_valves_32 (by decide) rfl (fun c_32 => ?_) (fun c_32 => ?_)
        · exact absurd c_32 (by decide)
        · skip
          refine xi_iload_n (q := 36) dX9_valves_35 rfl rfl ?_
          refine xi_goto (q := 56) dX9_valves_36 (by decide) ?_
          refine xi_ret ⟨_, rfl, rfl, dX9_valves_56⟩ (Nat.zero_le _) (Nat.zero_le _) ?_
          exact xs_finM (σ' := (xs_fd σ 1)) hp (by simp only [xs_valves, xs_onE, xs_onP, xs_fn1, xs_an, Bool.not_false, Bool.not_true, Bool.true_or, Bool.false_or, Bool.and_true, Bool.true_and, Bool.and_false, Bool.false_and, Bool.false_eq_true, if_true, if_false, ↓reduceIte, g_9, g_19, eq_true y27, xs_kk0 (k := kp) (by omega)] <;> rfl) _ (xs_Mx (σ' := (xs_fd σ 1)) hM hR (fa := (upd (upd (C 83) 0 0) 1 1)) p27 (fun j hj => (pk_un (by omega)).trans ((pk_un (by omega)).trans (rfl))) ((Fh27 88 (by omega)).trans (xs_M88 hM)) (fun _ _ => rfl) ((Fh27 94 (by omega)).trans (xs_M94 hM)) ((Fh27 95 (by omega)).trans (xs_M95 hM)) ((Fh27 96 (by omega)).trans (xs_M96 hM)) ((Fh27 97 (by omega)).trans (xs_M97 hM)) ((Fh27 98 (by omega)).trans (xs_M98 hM)) ((Fh27 99 (by omega)).trans (xs_M99 hM)) (fun i i1 i2 i3 i4 => (Fh27 i (by omega))) xs_fdo rfl) (fun i hi => (Fh27 i (by omega)))
      · intro z27 h27 p27 f27
        have Fh27 : ∀ i, i ≠ 83 → h27 i = h i := fun i j83 => (f27 i (by omega)).trans ((va_up_ne _ _ (by omega)).trans (Eq.refl _))
        have y27 : ¬ σ 6 kp 0 = 0 := fun e => z27 ((xs_ht hR (by omega)).trans e)
        refine xi_istore_n (q := 31) dX9_valves_30 (Nat.le_of_ble_eq_true rfl) rfl ?_
        refine xi_iload_n (q := 32) dX9_valves_31 rfl rfl ?_
        refine xi_if_ge (q := 35) (q2 := 39) dX9_valves_32 (by decide) rfl (fun c_32 => ?_) (fun c_32 => ?_)
        · skip
          refine xi_iload_n (q := 40) dX9_valves_39 rfl rfl ?_
          refine xi_if_ne (q := 43) (q2 := 51) dX9_valves_40 (by decide) rfl (fun c_40 => ?_) (fun c_40 => ?_)
          · skip
            refine xi_aload_n (q := 52) dX9_valves_51 rfl rfl ?_
            refine xi_iload_n (q := 53) dX9_valves_52 rfl rfl ?_
            refine xv_cV1 (q := 56) xm_X9_leadOf ln_X9_182 dX9_valves_53 ⟨by omega, p27⟩ rfl ⟨(Nat.le_of_ble_eq_true rfl), (Nat.le_of_ble_eq_true rfl)⟩ (Nat.le_of_ble_eq_true rfl) ⟨rfl, rfl⟩ rfl (Nat.zero_le _) (Nat.zero_le _) ?_
            refine ⟨(upd (upd (C 83) 0 0) 1 0), dk, (C 88), kp, rfl, ⟨p27, ((Fh27 88 (by omega)).trans (xs_M88 hM)), ((Fh27 93 (by omega)).trans (xs_M93 hM))⟩, by omega, by omega, ?_⟩
            rw [xs_hs hR (p := kp) (by omega), xe_led (xs_hq hR (p := kp) (by omega))]
            refine xi_ret ⟨_, rfl, rfl, dX9_valves_56⟩ (Nat.zero_le _) (Nat.zero_le _) ?_
            exact xs_finM (σ' := (xs_fd σ 0)) hp (by simp only [xs_valves, xs_onE, xs_onP, xs_fn, xs_an, Bool.not_false, Bool.not_true, Bool.true_or, Bool.false_or, Bool.and_true, Bool.true_and, Bool.and_false, Bool.false_and, Bool.false_eq_true, if_true, if_false, ↓reduceIte, g_9, g_19, eq_false y27, eq_false (show ¬ w = 0 from c_40), xs_kk0 (k := kp) (by omega)] <;> rfl) _ (xs_Mx (σ' := (xs_fd σ 0)) hM hR (fa := (upd (upd (C 83) 0 0) 1 0)) p27 (fun j hj => (pk_un (by omega)).trans ((pk_un (by omega)).trans (rfl))) ((Fh27 88 (by omega)).trans (xs_M88 hM)) (fun _ _ => rfl) ((Fh27 94 (by omega)).trans (xs_M94 hM)) ((Fh27 95 (by omega)).trans (xs_M95 hM)) ((Fh27 96 (by omega)).trans (xs_M96 hM)) ((Fh27 97 (by omega)).trans (xs_M97 hM)) ((Fh27 98 (by omega)).trans (xs_M98 hM)) ((Fh27 99 (by omega)).trans (xs_M99 hM)) (fun i i1 i2 i3 i4 => (Fh27 i (by omega))) xs_fdo rfl) (fun i hi => (Fh27 i (by omega)))
          · skip
            refine xi_aload_n (q := 44) dX9_valves_43 rfl rfl ?_
            refine xi_iload_n (q := 45) dX9_valves_44 rfl rfl ?_
            refine xv_cV1 (q := 48) xm_X9_unlike ln_X9_179 dX9_valves_45 ⟨by omega, p27⟩ rfl ⟨(Nat.le_of_ble_eq_true rfl), (Nat.le_of_ble_eq_true rfl)⟩ (Nat.le_of_ble_eq_true rfl) ⟨rfl, rfl⟩ rfl (Nat.zero_le _) (Nat.zero_le _) ?_
            refine ⟨(upd (upd (C 83) 0 0) 1 0), dk, (C 88), kp, rfl, ⟨p27, ((Fh27 88 (by omega)).trans (xs_M88 hM)), ((Fh27 93 (by omega)).trans (xs_M93 hM))⟩, by omega, by omega, ?_⟩
            rw [xs_hs hR (p := kp) (by omega), xe_unl (xs_hq hR (p := kp) (by omega))]
            refine xi_goto (q := 56) dX9_valves_48 (by decide) ?_
            refine xi_ret ⟨_, rfl, rfl, dX9_valves_56⟩ (Nat.zero_le _) (Nat.zero_le _) ?_
            exact xs_finM (σ' := (xs_fd σ 0)) hp (by simp only [xs_valves, xs_onE, xs_onP, xs_fn, xs_an, Bool.not_false, Bool.not_true, Bool.true_or, Bool.false_or, Bool.and_true, Bool.true_and, Bool.and_false, Bool.false_and, Bool.false_eq_true, if_true, if_false, ↓reduceIte, g_9, g_19, eq_false y27, eq_true (show w = 0 from by first | exact c_40 | exact Decidable.of_not_not c_40), xs_kk0 (k := kp) (by omega)] <;> rfl) _ (xs_Mx (σ' := (xs_fd σ 0)) hM hR (fa := (upd (upd (C 83) 0 0) 1 0)) p27 (fun j hj => (pk_un (by omega)).trans ((pk_un (by omega)).trans (rfl))) ((Fh27 88 (by omega)).trans (xs_M88 hM)) (fun _ _ => rfl) ((Fh27 94 (by omega)).trans (xs_M94 hM)) ((Fh27 95 (by omega)).trans (xs_M95 hM)) ((Fh27 96 (by omega)).trans (xs_M96 hM)) ((Fh27 97 (by omega)).trans (xs_M97 hM)) ((Fh27 98 (by omega)).trans (xs_M98 hM)) ((Fh27 99 (by omega)).trans (xs_M99 hM)) (fun i i1 i2 i3 i4 => (Fh27 i (by omega))) xs_fdo rfl) (fun i hi => (Fh27 i (by omega)))
        · exact absurd (by decide) c_32
    · have g_19 : xs_i w 0 1 = false := decide_eq_false (xn_b0 c_19)
      refine xi_ldc (q := 24) dX9_valves_22 kc_X9_91 rfl ?_
      refine xi_ret ⟨_, rfl, rfl, dX9_valves_24⟩ (Nat.zero_le _) (Nat.zero_le _) ?_
      exact xs_finM (σ' := σ) hp (by simp only [xs_valves, xs_onE, xs_onP, xs_fn, xs_an, Bool.not_false, Bool.not_true, Bool.true_or, Bool.false_or, Bool.and_true, Bool.true_and, Bool.and_false, Bool.false_and, Bool.false_eq_true, if_true, if_false, ↓reduceIte, g_9, g_19, xs_kk0 (k := kp) (by omega)] <;> rfl) _ (xs_Mx (σ' := σ) hM hR (fa := (upd (C 83) 0 0)) ((va_up_self _ _ _).trans rfl) (fun j hj => (pk_un (by omega)).trans (rfl)) ((va_up_ne _ _ (by omega)).trans (xs_M88 hM)) (fun _ _ => rfl) ((va_up_ne _ _ (by omega)).trans (xs_M94 hM)) ((va_up_ne _ _ (by omega)).trans (xs_M95 hM)) ((va_up_ne _ _ (by omega)).trans (xs_M96 hM)) ((va_up_ne _ _ (by omega)).trans (xs_M97 hM)) ((va_up_ne _ _ (by omega)).trans (xs_M98 hM)) ((va_up_ne _ _ (by omega)).trans (xs_M99 hM)) (fun i i1 i2 i3 i4 => ((va_up_ne _ _ (by omega)).trans (Eq.refl _))) (fun _ _ _ => rfl) hR.2) (fun i hi => ((va_up_ne _ _ (by omega)).trans (Eq.refl _)))

set_option maxRecDepth 20000 in
set_option maxHeartbeats 2000000 in
/-- status -/
theorem xm_X9_status : xv_K yX9_status mX9_status (fun as h n Post => ∃ (σ : xs_Sg), as = [.ref 83] ∧ (xs_Mo h σ) ∧ (103 < n) ∧ (xs_V σ) ∧ xs_DM h n Post (xs_status σ)) := by
  refine xv_entry (by decide +kernel) rfl (fun h => absurd h (by decide)) ?_
  rintro X _ h n Post ⟨σ, rfl, ⟨C, dk, hM, hR⟩, h103, hV, hp⟩
  refine ⟨Nat.le_of_ble_eq_true rfl, ?_⟩
  show xv_V X mX9_status Post 0 0 0 [(0, .ref 83)] [] h n
  refine xi_aload_n (q := 1) dX9_status_0 rfl rfl ?_
  refine xi_iconst (x := 0) (q := 2) dX9_status_1 (by decide) rfl ?_
  refine xi_putf (q := 5) dX9_status_2 fl_X9_71 ⟨by omega, (xs_M83 hM)⟩ (Or.inl rfl) (fun _ => rfl) (fun _ => rfl) (Nat.le_of_ble_eq_true rfl) rfl ?_
  refine xi_aload_n (q := 6) dX9_status_5 rfl rfl ?_
  refine xi_getf (q := 9) dX9_status_6 fl_X9_75 (xv_self (by omega)) rfl rfl ?_
  refine xi_ret ⟨_, rfl, rfl, dX9_status_9⟩ (Nat.zero_le _) (Nat.zero_le _) ?_
  exact xs_finM (σ' := σ) hp (by rw [hR.2]; simp only [xs_status, xs_onE, xs_onP, xs_fn, xs_an, Bool.not_false, Bool.not_true, Bool.true_or, Bool.false_or, Bool.and_true, Bool.true_and, Bool.and_false, Bool.false_and, Bool.false_eq_true, if_true, if_false, ↓reduceIte] <;> rfl) _ (xs_Mx (σ' := σ) hM hR (fa := (upd (C 83) 0 0)) ((va_up_self _ _ _).trans rfl) (fun j hj => (pk_un (by omega)).trans (rfl)) ((va_up_ne _ _ (by omega)).trans (xs_M88 hM)) (fun _ _ => rfl) ((va_up_ne _ _ (by omega)).trans (xs_M94 hM)) ((va_up_ne _ _ (by omega)).trans (xs_M95 hM)) ((va_up_ne _ _ (by omega)).trans (xs_M96 hM)) ((va_up_ne _ _ (by omega)).trans (xs_M97 hM)) ((va_up_ne _ _ (by omega)).trans (xs_M98 hM)) ((va_up_ne _ _ (by omega)).trans (xs_M99 hM)) (fun i i1 i2 i3 i4 => ((va_up_ne _ _ (by omega)).trans (Eq.refl _))) (fun _ _ _ => rfl) hR.2) (fun i hi => ((va_up_ne _ _ (by omega)).trans (Eq.refl _)))

