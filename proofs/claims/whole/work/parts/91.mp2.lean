theorem xn_ltN {i : Int32} {N : Nat} (hN : N ≤ 1000) (h : 0 ≤ i ∧ i ≤ nI N - 1) : ∃ k, k < N ∧ i = nI k := by
  rw [xn_le, xn_le, xn_sub (by rw [xn_NI (by omega), show (1 : Int32).toInt = 1 from rfl]; omega) (by rw [xn_NI (by omega), show (1 : Int32).toInt = 1 from rfl]; omega), xn_NI (by omega), show (1 : Int32).toInt = 1 from rfl, show (0 : Int32).toInt = 0 from rfl] at h
  refine ⟨i.toNatClampNeg, ?_, xn_ofI h.1⟩
  show i.toInt.toNat < N
  omega
theorem xn_wb {w : Int32} {a b : Int32} {t : Bool} (h : (if t = true then (1 : Int32) else 0) = 0) : t = false := Bool.eq_false_iff.mpr (xn_b0 h)
set_option maxRecDepth 20000 in
set_option maxHeartbeats 2000000 in
/-- number -/
theorem xm_X9_number : xv_K yX9_number mX9_number (fun as h n Post => ∃ (σ : xs_Sg) (p : Int32) (w : Int32), as = [.ref 83, .int p, .int w] ∧ (xs_Mo h σ) ∧ (103 < n) ∧ (xs_V σ) ∧ xs_DM h n Post (xs_number σ p w)) := by
  refine xv_entry (by decide +kernel) rfl (fun h => absurd h (by decide)) ?_
  rintro X _ h n Post ⟨σ, p, w, rfl, ⟨C, dk, hM, hR⟩, h103, hV, hp⟩
  refine ⟨Nat.le_of_ble_eq_true rfl, ?_⟩
  show xv_V X mX9_number Post 0 0 0 [(0, .ref 83), (1, .int p), (2, .int w)] [] h n
  refine xi_aload_n (q := 1) dX9_number_0 rfl rfl ?_
  refine xi_iconst (x := 0) (q := 2) dX9_number_1 (by decide) rfl ?_
  refine xi_putf (q := 5) dX9_number_2 fl_X9_71 ⟨by omega, (xs_M83 hM)⟩ (Or.inl rfl) (fun _ => rfl) (fun _ => rfl) (Nat.le_of_ble_eq_true rfl) rfl ?_
  refine xi_iload_n (q := 6) dX9_number_5 rfl rfl ?_
  refine xv_cS1 (q := 9) xm_X9_isPlace ln_X9_116 dX9_number_6 ⟨(Nat.le_of_ble_eq_true rfl), (Nat.le_of_ble_eq_true rfl)⟩ (Nat.le_of_ble_eq_true rfl) ⟨rfl, rfl⟩ rfl (Nat.zero_le _) (Nat.zero_le _) ?_
  refine ⟨_, rfl, ?_⟩
  refine xi_if_eq (q := 12) (q2 := 24) dX9_number_9 (by decide) rfl (fun c_9 => ?_) (fun c_9 => ?_)
  · have g_9 : xs_i p 0 5 = false := decide_eq_false (xn_b0 c_9)
    refine xi_ldc (q := 26) dX9_number_24 kc_X9_91 rfl ?_
    refine xi_ret ⟨_, rfl, rfl, dX9_number_26⟩ (Nat.zero_le _) (Nat.zero_le _) ?_
    exact xs_finM (σ' := σ) hp (by simp only [xs_number, xs_onE, xs_onP, xs_fn, xs_an, Bool.not_false, Bool.not_true, Bool.true_or, Bool.false_or, Bool.and_true, Bool.true_and, Bool.and_false, Bool.false_and, Bool.false_eq_true, if_true, if_false, ↓reduceIte, g_9] <;> rfl) _ (xs_Mx (σ' := σ) hM hR (fa := (upd (C 83) 0 0)) ((va_up_self _ _ _).trans rfl) (fun j hj => (pk_un (by omega)).trans (rfl)) ((va_up_ne _ _ (by omega)).trans (xs_M88 hM)) (fun _ _ => rfl) ((va_up_ne _ _ (by omega)).trans (xs_M94 hM)) ((va_up_ne _ _ (by omega)).trans (xs_M95 hM)) ((va_up_ne _ _ (by omega)).trans (xs_M96 hM)) ((va_up_ne _ _ (by omega)).trans (xs_M97 hM)) ((va_up_ne _ _ (by omega)).trans (xs_M98 hM)) ((va_up_ne _ _ (by omega)).trans (xs_M99 hM)) (fun i i1 i2 i3 i4 => ((va_up_ne _ _ (by omega)).trans (Eq.refl _))) (fun _ _ _ => rfl) hR.2) (fun i hi => ((va_up_ne _ _ (by omega)).trans (Eq.refl _)))
  · have g_9 : xs_i p 0 5 = true := decide_eq_true (xn_b1 c_9)
    obtain ⟨kp, hkp, rfl⟩ := xn_pk (m := 5) (by omega) (xn_b1 c_9)
    refine xi_iload_n (q := 13) dX9_number_12 rfl rfl ?_
    refine xi_i2l (q := 14) dX9_number_13 rfl ?_
    refine xi_lconst (x := 0) (q := 15) dX9_number_14 (by decide) rfl ?_
    refine xi_ldc2 (q := 18) dX9_number_15 kc_X9_106 rfl ?_
    refine xv_cS3 (q := 21) xm_X9_in ln_X9_81 dX9_number_18 ⟨(Nat.le_of_ble_eq_true rfl), (Nat.le_of_ble_eq_true rfl)⟩ (Nat.le_of_ble_eq_true rfl) ⟨rfl, rfl⟩ rfl (Nat.zero_le _) (Nat.zero_le _) ?_
    refine ⟨w, 0, 11, rfl, ?_⟩
    refine xi_if_ne (q := 24) (q2 := 27) dX9_number_21 (by decide) rfl (fun c_21 => ?_) (fun c_21 => ?_)
    · have g_21 : xs_i w 0 11 = true := decide_eq_true (xn_b1 c_21)
      refine xi_aload_n (q := 28) dX9_number_27 rfl rfl ?_
      refine xi_iload_n (q := 29) dX9_number_28 rfl rfl ?_
      refine xv_cV1 (q := 32) xm_X9_stands ln_X9_123 dX9_number_29 (xv_self (by omega)) rfl ⟨(Nat.le_of_ble_eq_true rfl), (Nat.le_of_ble_eq_true rfl)⟩ (Nat.le_of_ble_eq_true rfl) ⟨rfl, rfl⟩ rfl (Nat.zero_le _) (Nat.zero_le _) ?_
      refine ⟨(upd (C 83) 0 0), dk, C 87, kp, rfl, ((va_up_self _ _ _).trans rfl), by omega, ((va_up_ne _ _ (by omega)).trans (xs_M87 hM)), by omega, ?_, ?_⟩
      · intro z29 h29 p29 f29
        have Fh29 : ∀ i, i ≠ 83 → h29 i = h i := fun i j83 => (f29 i (by omega)).trans ((va_up_ne _ _ (by omega)).trans (Eq.refl _))
        have y29 : σ 6 kp 0 = 0 := (xs_ht hR (by omega)).symm.trans z29
        refine xi_istore_n (q := 33) dX9_number_32 (Nat.le_of_ble_eq_true rfl) rfl ?_
        refine xi_iload_n (q := 34) dX9_number_33 rfl rfl ?_
        refine xi_if_ge (q := 37) (q2 := 41) dX9_number_34 (by decide) rfl (fun c_34 => ?_) (fun c_34 => ?_)
        · exact absurd c_34 (by decide)
        · skip
          refine xi_iload_n (q := 38) dX9_number_37 rfl rfl ?_
          refine xi_goto (q := 52) dX9_number_38 (by decide) ?_
          refine xi_ret ⟨_, rfl, rfl, dX9_number_52⟩ (Nat.zero_le _) (Nat.zero_le _) ?_
          exact xs_finM (σ' := (xs_fd σ 1)) hp (by simp only [xs_number, xs_onE, xs_onP, xs_fn1, xs_an, Bool.not_false, Bool.not_true, Bool.true_or, Bool.false_or, Bool.and_true, Bool.true_and, Bool.and_false, Bool.false_and, Bool.false_eq_true, if_true, if_false, ↓reduceIte, g_9, g_21, eq_true y29, xs_kk0 (k := kp) (by omega)] <;> rfl) _ (xs_Mx (σ' := (xs_fd σ 1)) hM hR (fa := (upd (upd (C 83) 0 0) 1 1)) p29 (fun j hj => (pk_un (by omega)).trans ((pk_un (by omega)).trans (rfl))) ((Fh29 88 (by omega)).trans (xs_M88 hM)) (fun _ _ => rfl) ((Fh29 94 (by omega)).trans (xs_M94 hM)) ((Fh29 95 (by omega)).trans (xs_M95 hM)) ((Fh29 96 (by omega)).trans (xs_M96 hM)) ((Fh29 97 (by omega)).trans (xs_M97 hM)) ((Fh29 98 (by omega)).trans (xs_M98 hM)) ((Fh29 99 (by omega)).trans (xs_M99 hM)) (fun i i1 i2 i3 i4 => (Fh29 i (by omega))) xs_fdo rfl) (fun i hi => (Fh29 i (by omega)))
      · intro z29 h29 p29 f29
        have Fh29 : ∀ i, i ≠ 83 → h29 i = h i := fun i j83 => (f29 i (by omega)).trans ((va_up_ne _ _ (by omega)).trans (Eq.refl _))
        have y29 : ¬ σ 6 kp 0 = 0 := fun e => z29 ((xs_ht hR (by omega)).trans e)
        refine xi_istore_n (q := 33) dX9_number_32 (Nat.le_of_ble_eq_true rfl) rfl ?_
        refine xi_iload_n (q := 34) dX9_number_33 rfl rfl ?_
        refine xi_if_ge (q := 37) (q2 := 41) dX9_number_34 (by decide) rfl (fun c_34 => ?_) (fun c_34 => ?_)
        · skip
          obtain ⟨kw, hkw, rfl⟩ := xn_pk (m := 11) (by omega) (xn_b1 c_21)
          have e51 : C 88 (12 * kp + kw) = (if 11 ≤ nI kw then σ 5 kp 0 else σ 4 kp kw) := by
            by_cases z : kw = 11
            · subst z
              rw [if_pos (by decide)]
              exact xs_hs hR (by omega)
            · rw [if_neg (fun y => by have := (nI_leI (by omega) (by omega)).mp (show nI 11 ≤ nI kw from y); omega)]
              exact xs_hq hR (by omega) kw (by omega)
          refine xi_aload_n (q := 42) dX9_number_41 rfl rfl ?_
          refine xi_getf (q := 45) dX9_number_42 fl_X9_23 ⟨by omega, p29⟩ rfl rfl ?_
          refine xi_bipush (x := 12) (q := 47) dX9_number_45 (by decide) rfl ?_
          refine xi_iload_n (q := 48) dX9_number_47 rfl rfl ?_
          refine xi_imul (q := 49) dX9_number_48 rfl ?_
          refine xi_iload_n (q := 50) dX9_number_49 rfl rfl ?_
          refine xi_iadd (q := 51) dX9_number_50 rfl ?_
          refine xi_iald (q := 52) dX9_number_51 ⟨by omega, ((Fh29 88 (by omega)).trans (xs_M88 hM))⟩ (xn_ixM (a := 12) (p := kp) (k := kw) (by omega) (by omega)) rfl ?_
          rw [e51]
          refine xi_ret ⟨_, rfl, rfl, dX9_number_52⟩ (Nat.zero_le _) (Nat.zero_le _) ?_
          exact xs_finM (σ' := (xs_fd σ 0)) hp (by simp only [xs_number, xs_onE, xs_onP, xs_fn, xs_an, Bool.not_false, Bool.not_true, Bool.true_or, Bool.false_or, Bool.and_true, Bool.true_and, Bool.and_false, Bool.false_and, Bool.false_eq_true, if_true, if_false, ↓reduceIte, g_9, g_21, eq_false y29, xs_kk0 (k := kp) (by omega), xs_kk0 (k := kw) (by omega)] <;> rfl) _ (xs_Mx (σ' := (xs_fd σ 0)) hM hR (fa := (upd (upd (C 83) 0 0) 1 0)) p29 (fun j hj => (pk_un (by omega)).trans ((pk_un (by omega)).trans (rfl))) ((Fh29 88 (by omega)).trans (xs_M88 hM)) (fun _ _ => rfl) ((Fh29 94 (by omega)).trans (xs_M94 hM)) ((Fh29 95 (by omega)).trans (xs_M95 hM)) ((Fh29 96 (by omega)).trans (xs_M96 hM)) ((Fh29 97 (by omega)).trans (xs_M97 hM)) ((Fh29 98 (by omega)).trans (xs_M98 hM)) ((Fh29 99 (by omega)).trans (xs_M99 hM)) (fun i i1 i2 i3 i4 => (Fh29 i (by omega))) xs_fdo rfl) (fun i hi => (Fh29 i (by omega)))
        · exact absurd (by decide) c_34
    · have g_21 : xs_i w 0 11 = false := decide_eq_false (xn_b0 c_21)
      refine xi_ldc (q := 26) dX9_number_24 kc_X9_91 rfl ?_
      refine xi_ret ⟨_, rfl, rfl, dX9_number_26⟩ (Nat.zero_le _) (Nat.zero_le _) ?_
      exact xs_finM (σ' := σ) hp (by simp only [xs_number, xs_onE, xs_onP, xs_fn, xs_an, Bool.not_false, Bool.not_true, Bool.true_or, Bool.false_or, Bool.and_true, Bool.true_and, Bool.and_false, Bool.false_and, Bool.false_eq_true, if_true, if_false, ↓reduceIte, g_9, g_21, xs_kk0 (k := kp) (by omega)] <;> rfl) _ (xs_Mx (σ' := σ) hM hR (fa := (upd (C 83) 0 0)) ((va_up_self _ _ _).trans rfl) (fun j hj => (pk_un (by omega)).trans (rfl)) ((va_up_ne _ _ (by omega)).trans (xs_M88 hM)) (fun _ _ => rfl) ((va_up_ne _ _ (by omega)).trans (xs_M94 hM)) ((va_up_ne _ _ (by omega)).trans (xs_M95 hM)) ((va_up_ne _ _ (by omega)).trans (xs_M96 hM)) ((va_up_ne _ _ (by omega)).trans (xs_M97 hM)) ((va_up_ne _ _ (by omega)).trans (xs_M98 hM)) ((va_up_ne _ _ (by omega)).trans (xs_M99 hM)) (fun i i1 i2 i3 i4 => ((va_up_ne _ _ (by omega)).trans (Eq.refl _))) (fun _ _ _ => rfl) hR.2) (fun i hi => ((va_up_ne _ _ (by omega)).trans (Eq.refl _)))

set_option maxRecDepth 20000 in
set_option maxHeartbeats 2000000 in
/-- kind -/
theorem xm_X9_kind : xv_K yX9_kind mX9_kind (fun as h n Post => ∃ (σ : xs_Sg) (p : Int32), as = [.ref 83, .int p] ∧ (xs_Mo h σ) ∧ (103 < n) ∧ (xs_V σ) ∧ xs_DM h n Post (xs_kind σ p)) := by
  refine xv_entry (by decide +kernel) rfl (fun h => absurd h (by decide)) ?_
  rintro X _ h n Post ⟨σ, p, rfl, ⟨C, dk, hM, hR⟩, h103, hV, hp⟩
  refine ⟨Nat.le_of_ble_eq_true rfl, ?_⟩
  show xv_V X mX9_kind Post 0 0 0 [(0, .ref 83), (1, .int p)] [] h n
  refine xi_aload_n (q := 1) dX9_kind_0 rfl rfl ?_
  refine xi_iconst (x := 0) (q := 2) dX9_kind_1 (by decide) rfl ?_
  refine xi_putf (q := 5) dX9_kind_2 fl_X9_71 ⟨by omega, (xs_M83 hM)⟩ (Or.inl rfl) (fun _ => rfl) (fun _ => rfl) (Nat.le_of_ble_eq_true rfl) rfl ?_
  refine xi_iload_n (q := 6) dX9_kind_5 rfl rfl ?_
  refine xv_cS1 (q := 9) xm_X9_isPlace ln_X9_116 dX9_kind_6 ⟨(Nat.le_of_ble_eq_true rfl), (Nat.le_of_ble_eq_true rfl)⟩ (Nat.le_of_ble_eq_true rfl) ⟨rfl, rfl⟩ rfl (Nat.zero_le _) (Nat.zero_le _) ?_
  refine ⟨_, rfl, ?_⟩
  refine xi_if_ne (q := 12) (q2 := 15) dX9_kind_9 (by decide) rfl (fun c_9 => ?_) (fun c_9 => ?_)
  · have g_9 : xs_i p 0 5 = true := decide_eq_true (xn_b1 c_9)
    obtain ⟨kp, hkp, rfl⟩ := xn_pk (m := 5) (by omega) (xn_b1 c_9)
    refine xi_aload_n (q := 16) dX9_kind_15 rfl rfl ?_
    refine xi_iload_n (q := 17) dX9_kind_16 rfl rfl ?_
    refine xv_cV1 (q := 20) xm_X9_stands ln_X9_123 dX9_kind_17 (xv_self (by omega)) rfl ⟨(Nat.le_of_ble_eq_true rfl), (Nat.le_of_ble_eq_true rfl)⟩ (Nat.le_of_ble_eq_true rfl) ⟨rfl, rfl⟩ rfl (Nat.zero_le _) (Nat.zero_le _) ?_
    refine ⟨(upd (C 83) 0 0), dk, C 87, kp, rfl, ((va_up_self _ _ _).trans rfl), by omega, ((va_up_ne _ _ (by omega)).trans (xs_M87 hM)), by omega, ?_, ?_⟩
    · intro z17 h17 p17 f17
      have Fh17 : ∀ i, i ≠ 83 → h17 i = h i := fun i j83 => (f17 i (by omega)).trans ((va_up_ne _ _ (by omega)).trans (Eq.refl _))
      have y17 : σ 6 kp 0 = 0 := (xs_ht hR (by omega)).symm.trans z17
      refine xi_istore_n (q := 21) dX9_kind_20 (Nat.le_of_ble_eq_true rfl) rfl ?_
      refine xi_iload_n (q := 22) dX9_kind_21 rfl rfl ?_
      refine xi_if_ge (q := 25) (q2 := 29) dX9_kind_22 (by decide) rfl (fun c_22 => ?_) (fun c_22 => ?_)
      · exact absurd c_22 (by decide)
      · skip
        refine xi_iload_n (q := 26) dX9_kind_25 rfl rfl ?_
        refine xi_goto (q := 34) dX9_kind_26 (by decide) ?_
        refine xi_ret ⟨_, rfl, rfl, dX9_kind_34⟩ (Nat.zero_le _) (Nat.zero_le _) ?_
        exact xs_finM (σ' := (xs_fd σ 1)) hp (by simp only [xs_kind, xs_onE, xs_onP, xs_fn1, xs_an, Bool.not_false, Bool.not_true, Bool.true_or, Bool.false_or, Bool.and_true, Bool.true_and, Bool.and_false, Bool.false_and, Bool.false_eq_true, if_true, if_false, ↓reduceIte, g_9, eq_true y17, xs_kk0 (k := kp) (by omega)] <;> rfl) _ (xs_Mx (σ' := (xs_fd σ 1)) hM hR (fa := (upd (upd (C 83) 0 0) 1 1)) p17 (fun j hj => (pk_un (by omega)).trans ((pk_un (by omega)).trans (rfl))) ((Fh17 88 (by omega)).trans (xs_M88 hM)) (fun _ _ => rfl) ((Fh17 94 (by omega)).trans (xs_M94 hM)) ((Fh17 95 (by omega)).trans (xs_M95 hM)) ((Fh17 96 (by omega)).trans (xs_M96 hM)) ((Fh17 97 (by omega)).trans (xs_M97 hM)) ((Fh17 98 (by omega)).trans (xs_M98 hM)) ((Fh17 99 (by omega)).trans (xs_M99 hM)) (fun i i1 i2 i3 i4 => (Fh17 i (by omega))) xs_fdo rfl) (fun i hi => (Fh17 i (by omega)))
    · intro z17 h17 p17 f17
      have Fh17 : ∀ i, i ≠ 83 → h17 i = h i := fun i j83 => (f17 i (by omega)).trans ((va_up_ne _ _ (by omega)).trans (Eq.refl _))
      have y17 : ¬ σ 6 kp 0 = 0 := fun e => z17 ((xs_ht hR (by omega)).trans e)
      refine xi_istore_n (q := 21) dX9_kind_20 (Nat.le_of_ble_eq_true rfl) rfl ?_
      refine xi_iload_n (q := 22) dX9_kind_21 rfl rfl ?_
      refine xi_if_ge (q := 25) (q2 := 29) dX9_kind_22 (by decide) rfl (fun c_22 => ?_) (fun c_22 => ?_)
      · skip
        refine xi_aload_n (q := 30) dX9_kind_29 rfl rfl ?_
        refine xi_iload_n (q := 31) dX9_kind_30 rfl rfl ?_
        refine xv_cV1 (q := 34) xm_X9_kindOf ln_X9_265 dX9_kind_31 ⟨by omega, p17⟩ rfl ⟨(Nat.le_of_ble_eq_true rfl), (Nat.le_of_ble_eq_true rfl)⟩ (Nat.le_of_ble_eq_true rfl) ⟨rfl, rfl⟩ rfl (Nat.zero_le _) (Nat.zero_le _) ?_
        refine ⟨(upd (upd (C 83) 0 0) 1 0), dk, (C 88), kp, _, rfl, ⟨p17, ((Fh17 88 (by omega)).trans (xs_M88 hM)), ((Fh17 93 (by omega)).trans (xs_M93 hM))⟩, by omega, by omega, (xe_ok (xs_hq hR (by omega)) (hV.2.2.2.1 kp (by omega) y17).1), ((Fh17 94 (by omega)).trans (xs_M94 hM)), fun h31 d31 r31 p31 q31 f31 => ?_⟩
        have Fh31 : ∀ i, i ≠ 83 → i ≠ 94 → h31 i = h i := fun i j83 j94 => (f31 i (by omega) (by omega)).trans (Fh17 i (by omega))
        rw [xs_hs hR (p := kp) (by omega), xe_tk (xs_hq hR (p := kp) (by omega))]
        refine xi_ret ⟨_, rfl, rfl, dX9_kind_34⟩ (Nat.zero_le _) (Nat.zero_le _) ?_
        exact xs_finM (σ' := (xs_fd σ 0)) hp (by simp only [xs_kind, xs_onE, xs_onP, xs_fn, xs_an, Bool.not_false, Bool.not_true, Bool.true_or, Bool.false_or, Bool.and_true, Bool.true_and, Bool.and_false, Bool.false_and, Bool.false_eq_true, if_true, if_false, ↓reduceIte, g_9, eq_false y17, xs_kk0 (k := kp) (by omega)] <;> rfl) _ (xs_Mx (σ' := (xs_fd σ 0)) hM hR (fa := (upd (upd (C 83) 0 0) 1 0)) p31 (fun j hj => (pk_un (by omega)).trans ((pk_un (by omega)).trans (rfl))) ((Fh31 88 (by omega) (by omega)).trans (xs_M88 hM)) (fun _ _ => rfl) q31 ((Fh31 95 (by omega) (by omega)).trans (xs_M95 hM)) ((Fh31 96 (by omega) (by omega)).trans (xs_M96 hM)) ((Fh31 97 (by omega) (by omega)).trans (xs_M97 hM)) ((Fh31 98 (by omega) (by omega)).trans (xs_M98 hM)) ((Fh31 99 (by omega) (by omega)).trans (xs_M99 hM)) (fun i i1 i2 i3 i4 => (Fh31 i (by omega) (by omega))) xs_fdo rfl) (fun i hi => (Fh31 i (by omega) (by omega)))
      · exact absurd (by decide) c_22
  · have g_9 : xs_i p 0 5 = false := decide_eq_false (xn_b0 c_9)
    refine xi_ldc (q := 14) dX9_kind_12 kc_X9_91 rfl ?_
    refine xi_ret ⟨_, rfl, rfl, dX9_kind_14⟩ (Nat.zero_le _) (Nat.zero_le _) ?_
    exact xs_finM (σ' := σ) hp (by simp only [xs_kind, xs_onE, xs_onP, xs_fn, xs_an, Bool.not_false, Bool.not_true, Bool.true_or, Bool.false_or, Bool.and_true, Bool.true_and, Bool.and_false, Bool.false_and, Bool.false_eq_true, if_true, if_false, ↓reduceIte, g_9] <;> rfl) _ (xs_Mx (σ' := σ) hM hR (fa := (upd (C 83) 0 0)) ((va_up_self _ _ _).trans rfl) (fun j hj => (pk_un (by omega)).trans (rfl)) ((va_up_ne _ _ (by omega)).trans (xs_M88 hM)) (fun _ _ => rfl) ((va_up_ne _ _ (by omega)).trans (xs_M94 hM)) ((va_up_ne _ _ (by omega)).trans (xs_M95 hM)) ((va_up_ne _ _ (by omega)).trans (xs_M96 hM)) ((va_up_ne _ _ (by omega)).trans (xs_M97 hM)) ((va_up_ne _ _ (by omega)).trans (xs_M98 hM)) ((va_up_ne _ _ (by omega)).trans (xs_M99 hM)) (fun i i1 i2 i3 i4 => ((va_up_ne _ _ (by omega)).trans (Eq.refl _))) (fun _ _ _ => rfl) hR.2) (fun i hi => ((va_up_ne _ _ (by omega)).trans (Eq.refl _)))

set_option maxRecDepth 20000 in
set_option maxHeartbeats 2000000 in
/-- is -/
theorem xm_X9_is : xv_K yX9_is mX9_is (fun as h n Post => ∃ (σ : xs_Sg) (p : Int32) (w : Int32), as = [.ref 83, .int p, .int w] ∧ (xs_Mo h σ) ∧ (103 < n) ∧ (xs_V σ) ∧ xs_DM h n Post (xs_is σ p w)) := by
  refine xv_entry (by decide +kernel) rfl (fun h => absurd h (by decide)) ?_
  rintro X _ h n Post ⟨σ, p, w, rfl, ⟨C, dk, hM, hR⟩, h103, hV, hp⟩
  refine ⟨Nat.le_of_ble_eq_true rfl, ?_⟩
  show xv_V X mX9_is Post 0 0 0 [(0, .ref 83), (1, .int p), (2, .int w)] [] h n
  refine xi_aload_n (q := 1) dX9_is_0 rfl rfl ?_
  refine xi_iconst (x := 0) (q := 2) dX9_is_1 (by decide) rfl ?_
  refine xi_putf (q := 5) dX9_is_2 fl_X9_71 ⟨by omega, (xs_M83 hM)⟩ (Or.inl rfl) (fun _ => rfl) (fun _ => rfl) (Nat.le_of_ble_eq_true rfl) rfl ?_
  refine xi_iload_n (q := 6) dX9_is_5 rfl rfl ?_
  refine xv_cS1 (q := 9) xm_X9_isPlace ln_X9_116 dX9_is_6 ⟨(Nat.le_of_ble_eq_true rfl), (Nat.le_of_ble_eq_true rfl)⟩ (Nat.le_of_ble_eq_true rfl) ⟨rfl, rfl⟩ rfl (Nat.zero_le _) (Nat.zero_le _) ?_
  refine ⟨_, rfl, ?_⟩
  refine xi_if_eq (q := 12) (q2 := 24) dX9_is_9 (by decide) rfl (fun c_9 => ?_) (fun c_9 => ?_)
  · have g_9 : xs_i p 0 5 = false := decide_eq_false (xn_b0 c_9)
    refine xi_ldc (q := 26) dX9_is_24 kc_X9_91 rfl ?_
    refine xi_goto (q := 55) dX9_is_26 (by decide) ?_
    refine xi_ret ⟨_, rfl, rfl, dX9_is_55⟩ (Nat.zero_le _) (Nat.zero_le _) ?_
    exact xs_finM (σ' := σ) hp (by simp only [xs_is, xs_onE, xs_onP, xs_fn, xs_an, Bool.not_false, Bool.not_true, Bool.true_or, Bool.false_or, Bool.and_true, Bool.true_and, Bool.and_false, Bool.false_and, Bool.false_eq_true, if_true, if_false, ↓reduceIte, g_9] <;> rfl) _ (xs_Mx (σ' := σ) hM hR (fa := (upd (C 83) 0 0)) ((va_up_self _ _ _).trans rfl) (fun j hj => (pk_un (by omega)).trans (rfl)) ((va_up_ne _ _ (by omega)).trans (xs_M88 hM)) (fun _ _ => rfl) ((va_up_ne _ _ (by omega)).trans (xs_M94 hM)) ((va_up_ne _ _ (by omega)).trans (xs_M95 hM)) ((va_up_ne _ _ (by omega)).trans (xs_M96 hM)) ((va_up_ne _ _ (by omega)).trans (xs_M97 hM)) ((va_up_ne _ _ (by omega)).trans (xs_M98 hM)) ((va_up_ne _ _ (by omega)).trans (xs_M99 hM)) (fun i i1 i2 i3 i4 => ((va_up_ne _ _ (by omega)).trans (Eq.refl _))) (fun _ _ _ => rfl) hR.2) (fun i hi => ((va_up_ne _ _ (by omega)).trans (Eq.refl _)))
  · have g_9 : xs_i p 0 5 = true := decide_eq_true (xn_b1 c_9)
    obtain ⟨kp, hkp, rfl⟩ := xn_pk (m := 5) (by omega) (xn_b1 c_9)
    refine xi_iload_n (q := 13) dX9_is_12 rfl rfl ?_
    refine xi_i2l (q := 14) dX9_is_13 rfl ?_
    refine xi_lconst (x := 0) (q := 15) dX9_is_14 (by decide) rfl ?_
    refine xi_ldc2 (q := 18) dX9_is_15 kc_X9_98 rfl ?_
    refine xv_cS3 (q := 21) xm_X9_in ln_X9_81 dX9_is_18 ⟨(Nat.le_of_ble_eq_true rfl), (Nat.le_of_ble_eq_true rfl)⟩ (Nat.le_of_ble_eq_true rfl) ⟨rfl, rfl⟩ rfl (Nat.zero_le _) (Nat.zero_le _) ?_
    refine ⟨w, 0, 4, rfl, ?_⟩
    refine xi_if_ne (q := 24) (q2 := 29) dX9_is_21 (by decide) rfl (fun c_21 => ?_) (fun c_21 => ?_)
    · have g_21 : xs_i w 0 4 = true := decide_eq_true (xn_b1 c_21)
      refine xi_aload_n (q := 30) dX9_is_29 rfl rfl ?_
      refine xi_getf (q := 33) dX9_is_30 fl_X9_19 (xv_self (by omega)) rfl rfl ?_
      refine xi_iload_n (q := 34) dX9_is_33 rfl rfl ?_
      refine xi_zald (q := 35) dX9_is_34 (xv_keep (by omega) ⟨by omega, (xs_M87 hM)⟩) (xv_ixN (by omega) (by omega)) rfl ?_
      refine xi_if_eq (q := 38) (q2 := 54) dX9_is_35 (by decide) rfl (fun c_35 => ?_) (fun c_35 => ?_)
      · have y35 : σ 6 kp 0 = 0 := (xs_ht hR (by omega)).symm.trans (by first | exact c_35 | exact Decidable.of_not_not c_35)
        refine xi_iconst (x := 0) (q := 55) dX9_is_54 (by decide) rfl ?_
        refine xi_ret ⟨_, rfl, rfl, dX9_is_55⟩ (Nat.zero_le _) (Nat.zero_le _) ?_
        exact xs_finM (σ' := σ) hp (by simp only [xs_is, xs_onE, xs_onP, xs_fn, xs_an, Bool.not_false, Bool.not_true, Bool.true_or, Bool.false_or, Bool.and_true, Bool.true_and, Bool.and_false, Bool.false_and, Bool.false_eq_true, if_true, if_false, ↓reduceIte, g_9, g_21, eq_true y35, xs_kk0 (k := kp) (by omega)] <;> rfl) _ (xs_Mx (σ' := σ) hM hR (fa := (upd (C 83) 0 0)) ((va_up_self _ _ _).trans rfl) (fun j hj => (pk_un (by omega)).trans (rfl)) ((va_up_ne _ _ (by omega)).trans (xs_M88 hM)) (fun _ _ => rfl) ((va_up_ne _ _ (by omega)).trans (xs_M94 hM)) ((va_up_ne _ _ (by omega)).trans (xs_M95 hM)) ((va_up_ne _ _ (by omega)).trans (xs_M96 hM)) ((va_up_ne _ _ (by omega)).trans (xs_M97 hM)) ((va_up_ne _ _ (by omega)).trans (xs_M98 hM)) ((va_up_ne _ _ (by omega)).trans (xs_M99 hM)) (fun i i1 i2 i3 i4 => ((va_up_ne _ _ (by omega)).trans (Eq.refl _))) (fun _ _ _ => rfl) hR.2) (fun i hi => ((va_up_ne _ _ (by omega)).trans (Eq.refl _)))
      · have y35 : ¬ σ 6 kp 0 = 0 := fun e => c_35 ((xs_ht hR (by omega)).trans e)
        refine xi_aload_n (q := 39) dX9_is_38 rfl rfl ?_
        refine xi_iload_n (q := 40) dX9_is_39 rfl rfl ?_
        refine xv_cV1 (q := 43) xm_X9_kindOf ln_X9_265 dX9_is_40 (xv_self (by omega)) rfl ⟨(Nat.le_of_ble_eq_true rfl), (Nat.le_of_ble_eq_true rfl)⟩ (Nat.le_of_ble_eq_true rfl) ⟨rfl, rfl⟩ rfl (Nat.zero_le _) (Nat.zero_le _) ?_
        refine ⟨(upd (C 83) 0 0), dk, (C 88), kp, _, rfl, ⟨((va_up_self _ _ _).trans rfl), ((va_up_ne _ _ (by omega)).trans (xs_M88 hM)), ((va_up_ne _ _ (by omega)).trans (xs_M93 hM))⟩, by omega, by omega, (xe_ok (xs_hq hR (by omega)) (hV.2.2.2.1 kp (by omega) y35).1), ((va_up_ne _ _ (by omega)).trans (xs_M94 hM)), fun h40 d40 r40 p40 q40 f40 => ?_⟩
        have Fh40 : ∀ i, i ≠ 83 → i ≠ 94 → h40 i = h i := fun i j83 j94 => (f40 i (by omega) (by omega)).trans ((va_up_ne _ _ (by omega)).trans (Eq.refl _))
        rw [xs_hs hR (p := kp) (by omega), xe_tk (xs_hq hR (p := kp) (by omega))]
        refine xi_iload_n (q := 44) dX9_is_43 rfl rfl ?_
        refine xv_cS2 (q := 47) xm_X9_isOf ln_X9_268 dX9_is_44 ⟨(Nat.le_of_ble_eq_true rfl), (Nat.le_of_ble_eq_true rfl)⟩ (Nat.le_of_ble_eq_true rfl) ⟨rfl, rfl⟩ rfl (Nat.zero_le _) (Nat.zero_le _) ?_
        refine ⟨_, _, rfl, ?_⟩
        refine xi_if_eq (q := 50) (q2 := 54) dX9_is_47 (by decide) rfl (fun c_47 => ?_) (fun c_47 => ?_)
        · have g_47 : xs_bel (xs_tk (σ 4 kp) (σ 5 kp 0)) w = false := Bool.eq_false_iff.mpr (xn_b0 c_47)
          refine xi_iconst (x := 0) (q := 55) dX9_is_54 (by decide) rfl ?_
          refine xi_ret ⟨_, rfl, rfl, dX9_is_55⟩ (Nat.zero_le _) (Nat.zero_le _) ?_
          exact xs_finM (σ' := σ) hp (by simp only [xs_is, xs_onE, xs_onP, xs_fn, xs_an, Bool.not_false, Bool.not_true, Bool.true_or, Bool.false_or, Bool.and_true, Bool.true_and, Bool.and_false, Bool.false_and, Bool.false_eq_true, if_true, if_false, ↓reduceIte, g_9, g_21, eq_false y35, g_47, xs_kk0 (k := kp) (by omega)] <;> rfl) _ (xs_Mx (σ' := σ) hM hR (fa := (upd (C 83) 0 0)) p40 (fun j hj => (pk_un (by omega)).trans (rfl)) ((Fh40 88 (by omega) (by omega)).trans (xs_M88 hM)) (fun _ _ => rfl) q40 ((Fh40 95 (by omega) (by omega)).trans (xs_M95 hM)) ((Fh40 96 (by omega) (by omega)).trans (xs_M96 hM)) ((Fh40 97 (by omega) (by omega)).trans (xs_M97 hM)) ((Fh40 98 (by omega) (by omega)).trans (xs_M98 hM)) ((Fh40 99 (by omega) (by omega)).trans (xs_M99 hM)) (fun i i1 i2 i3 i4 => (Fh40 i (by omega) (by omega))) (fun _ _ _ => rfl) hR.2) (fun i hi => (Fh40 i (by omega) (by omega)))
        · have g_47 : xs_bel (xs_tk (σ 4 kp) (σ 5 kp 0)) w = true := xn_b1 c_47
          refine xi_iconst (x := 1) (q := 51) dX9_is_50 (by decide) rfl ?_
          refine xi_goto (q := 55) dX9_is_51 (by decide) ?_
          refine xi_ret ⟨_, rfl, rfl, dX9_is_55⟩ (Nat.zero_le _) (Nat.zero_le _) ?_
          exact xs_finM (σ' := σ) hp (by simp only [xs_is, xs_onE, xs_onP, xs_fn, xs_an, Bool.not_false, Bool.not_true, Bool.true_or, Bool.false_or, Bool.and_true, Bool.true_and, Bool.and_false, Bool.false_and, Bool.false_eq_true, if_true, if_false, ↓reduceIte, g_9, g_21, eq_false y35, g_47, xs_kk0 (k := kp) (by omega)] <;> rfl) _ (xs_Mx (σ' := σ) hM hR (fa := (upd (C 83) 0 0)) p40 (fun j hj => (pk_un (by omega)).trans (rfl)) ((Fh40 88 (by omega) (by omega)).trans (xs_M88 hM)) (fun _ _ => rfl) q40 ((Fh40 95 (by omega) (by omega)).trans (xs_M95 hM)) ((Fh40 96 (by omega) (by omega)).trans (xs_M96 hM)) ((Fh40 97 (by omega) (by omega)).trans (xs_M97 hM)) ((Fh40 98 (by omega) (by omega)).trans (xs_M98 hM)) ((Fh40 99 (by omega) (by omega)).trans (xs_M99 hM)) (fun i i1 i2 i3 i4 => (Fh40 i (by omega) (by omega))) (fun _ _ _ => rfl) hR.2) (fun i hi => (Fh40 i (by omega) (by omega)))
    · have g_21 : xs_i w 0 4 = false := decide_eq_false (xn_b0 c_21)
      refine xi_ldc (q := 26) dX9_is_24 kc_X9_91 rfl ?_
      refine xi_goto (q := 55) dX9_is_26 (by decide) ?_
      refine xi_ret ⟨_, rfl, rfl, dX9_is_55⟩ (Nat.zero_le _) (Nat.zero_le _) ?_
      exact xs_finM (σ' := σ) hp (by simp only [xs_is, xs_onE, xs_onP, xs_fn, xs_an, Bool.not_false, Bool.not_true, Bool.true_or, Bool.false_or, Bool.and_true, Bool.true_and, Bool.and_false, Bool.false_and, Bool.false_eq_true, if_true, if_false, ↓reduceIte, g_9, g_21, xs_kk0 (k := kp) (by omega)] <;> rfl) _ (xs_Mx (σ' := σ) hM hR (fa := (upd (C 83) 0 0)) ((va_up_self _ _ _).trans rfl) (fun j hj => (pk_un (by omega)).trans (rfl)) ((va_up_ne _ _ (by omega)).trans (xs_M88 hM)) (fun _ _ => rfl) ((va_up_ne _ _ (by omega)).trans (xs_M94 hM)) ((va_up_ne _ _ (by omega)).trans (xs_M95 hM)) ((va_up_ne _ _ (by omega)).trans (xs_M96 hM)) ((va_up_ne _ _ (by omega)).trans (xs_M97 hM)) ((va_up_ne _ _ (by omega)).trans (xs_M98 hM)) ((va_up_ne _ _ (by omega)).trans (xs_M99 hM)) (fun i i1 i2 i3 i4 => ((va_up_ne _ _ (by omega)).trans (Eq.refl _))) (fun _ _ _ => rfl) hR.2) (fun i hi => ((va_up_ne _ _ (by omega)).trans (Eq.refl _)))

set_option maxRecDepth 20000 in
set_option maxHeartbeats 2000000 in
/-- as -/
theorem xm_X9_as : xv_K yX9_as mX9_as (fun as h n Post => ∃ (σ : xs_Sg) (p : Int32) (w : Int32), as = [.ref 83, .int p, .int w] ∧ (xs_Mo h σ) ∧ (103 < n) ∧ (xs_V σ) ∧ xs_DM h n Post (xs_asK σ p w)) := by
  refine xv_entry (by decide +kernel) rfl (fun h => absurd h (by decide)) ?_
  rintro X _ h n Post ⟨σ, p, w, rfl, ⟨C, dk, hM, hR⟩, h103, hV, hp⟩
  refine ⟨Nat.le_of_ble_eq_true rfl, ?_⟩
  show xv_V X mX9_as Post 0 0 0 [(0, .ref 83), (1, .int p), (2, .int w)] [] h n
  refine xi_aload_n (q := 1) dX9_as_0 rfl rfl ?_
  refine xi_iconst (x := 0) (q := 2) dX9_as_1 (by decide) rfl ?_
  refine xi_putf (q := 5) dX9_as_2 fl_X9_71 ⟨by omega, (xs_M83 hM)⟩ (Or.inl rfl) (fun _ => rfl) (fun _ => rfl) (Nat.le_of_ble_eq_true rfl) rfl ?_
  refine xi_iload_n (q := 6) dX9_as_5 rfl rfl ?_
  refine xv_cS1 (q := 9) xm_X9_isPlace ln_X9_116 dX9_as_6 ⟨(Nat.le_of_ble_eq_true rfl), (Nat.le_of_ble_eq_true rfl)⟩ (Nat.le_of_ble_eq_true rfl) ⟨rfl, rfl⟩ rfl (Nat.zero_le _) (Nat.zero_le _) ?_
  refine ⟨_, rfl, ?_⟩
  refine xi_if_eq (q := 12) (q2 := 24) dX9_as_9 (by decide) rfl (fun c_9 => ?_) (fun c_9 => ?_)
  · have g_9 : xs_i p 0 5 = false := decide_eq_false (xn_b0 c_9)
    refine xi_ldc (q := 26) dX9_as_24 kc_X9_91 rfl ?_
    refine xi_ret ⟨_, rfl, rfl, dX9_as_26⟩ (Nat.zero_le _) (Nat.zero_le _) ?_
    exact xs_finM (σ' := σ) hp (by simp only [xs_asK, xs_onE, xs_onP, xs_fn, xs_an, Bool.not_false, Bool.not_true, Bool.true_or, Bool.false_or, Bool.and_true, Bool.true_and, Bool.and_false, Bool.false_and, Bool.false_eq_true, if_true, if_false, ↓reduceIte, g_9] <;> rfl) _ (xs_Mx (σ' := σ) hM hR (fa := (upd (C 83) 0 0)) ((va_up_self _ _ _).trans rfl) (fun j hj => (pk_un (by omega)).trans (rfl)) ((va_up_ne _ _ (by omega)).trans (xs_M88 hM)) (fun _ _ => rfl) ((va_up_ne _ _ (by omega)).trans (xs_M94 hM)) ((va_up_ne _ _ (by omega)).trans (xs_M95 hM)) ((va_up_ne _ _ (by omega)).trans (xs_M96 hM)) ((va_up_ne _ _ (by omega)).trans (xs_M97 hM)) ((va_up_ne _ _ (by omega)).trans (xs_M98 hM)) ((va_up_ne _ _ (by omega)).trans (xs_M99 hM)) (fun i i1 i2 i3 i4 => ((va_up_ne _ _ (by omega)).trans (Eq.refl _))) (fun _ _ _ => rfl) hR.2) (fun i hi => ((va_up_ne _ _ (by omega)).trans (Eq.refl _)))
  · have g_9 : xs_i p 0 5 = true := decide_eq_true (xn_b1 c_9)
    obtain ⟨kp, hkp, rfl⟩ := xn_pk (m := 5) (by omega) (xn_b1 c_9)
    refine xi_iload_n (q := 13) dX9_as_12 rfl rfl ?_
    refine xi_i2l (q := 14) dX9_as_13 rfl ?_
    refine xi_lconst (x := 0) (q := 15) dX9_as_14 (by decide) rfl ?_
    refine xi_ldc2 (q := 18) dX9_as_15 kc_X9_98 rfl ?_
    refine xv_cS3 (q := 21) xm_X9_in ln_X9_81 dX9_as_18 ⟨(Nat.le_of_ble_eq_true rfl), (Nat.le_of_ble_eq_true rfl)⟩ (Nat.le_of_ble_eq_true rfl) ⟨rfl, rfl⟩ rfl (Nat.zero_le _) (Nat.zero_le _) ?_
    refine ⟨w, 0, 4, rfl, ?_⟩
    refine xi_if_ne (q := 24) (q2 := 27) dX9_as_21 (by decide) rfl (fun c_21 => ?_) (fun c_21 => ?_)
    · have g_21 : xs_i w 0 4 = true := decide_eq_true (xn_b1 c_21)
      refine xi_aload_n (q := 28) dX9_as_27 rfl rfl ?_
      refine xi_iload_n (q := 29) dX9_as_28 rfl rfl ?_
      refine xv_cV1 (q := 32) xm_X9_stands ln_X9_123 dX9_as_29 (xv_self (by omega)) rfl ⟨(Nat.le_of_ble_eq_true rfl), (Nat.le_of_ble_eq_true rfl)⟩ (Nat.le_of_ble_eq_true rfl) ⟨rfl, rfl⟩ rfl (Nat.zero_le _) (Nat.zero_le _) ?_
      refine ⟨(upd (C 83) 0 0), dk, C 87, kp, rfl, ((va_up_self _ _ _).trans rfl), by omega, ((va_up_ne _ _ (by omega)).trans (xs_M87 hM)), by omega, ?_, ?_⟩
      · intro z29 h29 p29 f29
        have Fh29 : ∀ i, i ≠ 83 → h29 i = h i := fun i j83 => (f29 i (by omega)).trans ((va_up_ne _ _ (by omega)).trans (Eq.refl _))
        have y29 : σ 6 kp 0 = 0 := (xs_ht hR (by omega)).symm.trans z29
        refine xi_istore_n (q := 33) dX9_as_32 (Nat.le_of_ble_eq_true rfl) rfl ?_
        refine xi_iload_n (q := 34) dX9_as_33 rfl rfl ?_
        refine xi_if_ge (q := 37) (q2 := 41) dX9_as_34 (by decide) rfl (fun c_34 => ?_) (fun c_34 => ?_)
        · exact absurd c_34 (by decide)
        · skip
          refine xi_iload_n (q := 38) dX9_as_37 rfl rfl ?_
          refine xi_goto (q := 72) dX9_as_38 (by decide) ?_
          refine xi_ret ⟨_, rfl, rfl, dX9_as_72⟩ (Nat.zero_le _) (Nat.zero_le _) ?_
          exact xs_finM (σ' := (xs_fd σ 1)) hp (by simp only [xs_asK, xs_onE, xs_onP, xs_fn1, xs_an, Bool.not_false, Bool.not_true, Bool.true_or, Bool.false_or, Bool.and_true, Bool.true_and, Bool.and_false, Bool.false_and, Bool.false_eq_true, if_true, if_false, ↓reduceIte, g_9, g_21, eq_true y29, xs_kk0 (k := kp) (by omega)] <;> rfl) _ (xs_Mx (σ' := (xs_fd σ 1)) hM hR (fa := (upd (upd (C 83) 0 0) 1 1)) p29 (fun j hj => (pk_un (by omega)).trans ((pk_un (by omega)).trans (rfl))) ((Fh29 88 (by omega)).trans (xs_M88 hM)) (fun _ _ => rfl) ((Fh29 94 (by omega)).trans (xs_M94 hM)) ((Fh29 95 (by omega)).trans (xs_M95 hM)) ((Fh29 96 (by omega)).trans (xs_M96 hM)) ((Fh29 97 (by omega)).trans (xs_M97 hM)) ((Fh29 98 (by omega)).trans (xs_M98 hM)) ((Fh29 99 (by omega)).trans (xs_M99 hM)) (fun i i1 i2 i3 i4 => (Fh29 i (by omega))) xs_fdo rfl) (fun i hi => (Fh29 i (by omega)))
      · intro z29 h29 p29 f29
        have Fh29 : ∀ i, i ≠ 83 → h29 i = h i := fun i j83 => (f29 i (by omega)).trans ((va_up_ne _ _ (by omega)).trans (Eq.refl _))
        have y29 : ¬ σ 6 kp 0 = 0 := fun e => z29 ((xs_ht hR (by omega)).trans e)
        refine xi_istore_n (q := 33) dX9_as_32 (Nat.le_of_ble_eq_true rfl) rfl ?_
        refine xi_iload_n (q := 34) dX9_as_33 rfl rfl ?_
        refine xi_if_ge (q := 37) (q2 := 41) dX9_as_34 (by decide) rfl (fun c_34 => ?_) (fun c_34 => ?_)
        · skip
          refine xi_aload_n (q := 42) dX9_as_41 rfl rfl ?_
          refine xi_iload_n (q := 43) dX9_as_42 rfl rfl ?_
          refine xv_cV1 (q := 46) xm_X9_kindOf ln_X9_265 dX9_as_43 ⟨by omega, p29⟩ rfl ⟨(Nat.le_of_ble_eq_true rfl), (Nat.le_of_ble_eq_true rfl)⟩ (Nat.le_of_ble_eq_true rfl) ⟨rfl, rfl⟩ rfl (Nat.zero_le _) (Nat.zero_le _) ?_
          refine ⟨(upd (upd (C 83) 0 0) 1 0), dk, (C 88), kp, _, rfl, ⟨p29, ((Fh29 88 (by omega)).trans (xs_M88 hM)), ((Fh29 93 (by omega)).trans (xs_M93 hM))⟩, by omega, by omega, (xe_ok (xs_hq hR (by omega)) (hV.2.2.2.1 kp (by omega) y29).1), ((Fh29 94 (by omega)).trans (xs_M94 hM)), fun h43 d43 r43 p43 q43 f43 => ?_⟩
          have Fh43 : ∀ i, i ≠ 83 → i ≠ 94 → h43 i = h i := fun i j83 j94 => (f43 i (by omega) (by omega)).trans (Fh29 i (by omega))
          rw [xs_hs hR (p := kp) (by omega), xe_tk (xs_hq hR (p := kp) (by omega))]
          refine xi_iload_n (q := 47) dX9_as_46 rfl rfl ?_
          refine xv_cS2 (q := 50) xm_X9_isOf ln_X9_268 dX9_as_47 ⟨(Nat.le_of_ble_eq_true rfl), (Nat.le_of_ble_eq_true rfl)⟩ (Nat.le_of_ble_eq_true rfl) ⟨rfl, rfl⟩ rfl (Nat.zero_le _) (Nat.zero_le _) ?_
          refine ⟨_, _, rfl, ?_⟩
          refine xi_if_eq (q := 53) (q2 := 67) dX9_as_50 (by decide) rfl (fun c_50 => ?_) (fun c_50 => ?_)
          · have g_50 : xs_bel (xs_tk (σ 4 kp) (σ 5 kp 0)) w = false := Bool.eq_false_iff.mpr (xn_b0 c_50)
            refine xi_aload_n (q := 68) dX9_as_67 rfl rfl ?_
            refine xi_iconst (x := 3) (q := 69) dX9_as_68 (by decide) rfl ?_
            refine xv_cV1 (q := 72) xm_X9_found ln_X9_92 dX9_as_69 ⟨by omega, p43⟩ rfl ⟨(Nat.le_of_ble_eq_true rfl), (Nat.le_of_ble_eq_true rfl)⟩ (Nat.le_of_ble_eq_true rfl) ⟨rfl, rfl⟩ rfl (Nat.zero_le _) (Nat.zero_le _) ?_
            refine ⟨(upd (upd (C 83) 0 0) 1 0), d43, 3, rfl, p43, by omega, fun h69 p69 f69 => ?_⟩
            have Fh69 : ∀ i, i ≠ 83 → i ≠ 94 → h69 i = h i := fun i j83 j94 => (f69 i (by omega)).trans (Fh43 i (by omega) (by omega))
            refine xi_ret ⟨_, rfl, rfl, dX9_as_72⟩ (Nat.zero_le _) (Nat.zero_le _) ?_
            exact xs_finM (σ' := (xs_fd σ 3)) hp (by simp only [xs_asK, xs_onE, xs_onP, xs_fn, xs_an, Bool.not_false, Bool.not_true, Bool.true_or, Bool.false_or, Bool.and_true, Bool.true_and, Bool.and_false, Bool.false_and, Bool.false_eq_true, if_true, if_false, ↓reduceIte, g_9, g_21, eq_false y29, g_50, xs_kk0 (k := kp) (by omega)] <;> rfl) _ (xs_Mx (σ' := (xs_fd σ 3)) hM hR (fa := (upd (upd (upd (C 83) 0 0) 1 0) 1 3)) p69 (fun j hj => (pk_un (by omega)).trans ((pk_un (by omega)).trans ((pk_un (by omega)).trans (rfl)))) ((Fh69 88 (by omega) (by omega)).trans (xs_M88 hM)) (fun _ _ => rfl) ((f69 94 (by omega)).trans q43) ((Fh69 95 (by omega) (by omega)).trans (xs_M95 hM)) ((Fh69 96 (by omega) (by omega)).trans (xs_M96 hM)) ((Fh69 97 (by omega) (by omega)).trans (xs_M97 hM)) ((Fh69 98 (by omega) (by omega)).trans (xs_M98 hM)) ((Fh69 99 (by omega) (by omega)).trans (xs_M99 hM)) (fun i i1 i2 i3 i4 => (Fh69 i (by omega) (by omega))) xs_fdo rfl) (fun i hi => (Fh69 i (by omega) (by omega)))
          · have g_50 : xs_bel (xs_tk (σ 4 kp) (σ 5 kp 0)) w = true := xn_b1 c_50
            refine xi_aload_n (q := 54) dX9_as_53 rfl rfl ?_
            refine xi_getf (q := 57) dX9_as_54 fl_X9_23 ⟨by omega, p43⟩ rfl rfl ?_
            refine xi_bipush (x := 12) (q := 59) dX9_as_57 (by decide) rfl ?_
            refine xi_iload_n (q := 60) dX9_as_59 rfl rfl ?_
            refine xi_imul (q := 61) dX9_as_60 rfl ?_
            refine xi_iconst (x := 1) (q := 62) dX9_as_61 (by decide) rfl ?_
            refine xi_iadd (q := 63) dX9_as_62 rfl ?_
            refine xi_iald (q := 64) dX9_as_63 ⟨by omega, ((Fh43 88 (by omega) (by omega)).trans (xs_M88 hM))⟩ (xn_ix12 (j := 1) (by omega) (by omega)) rfl ?_
            rw [show C 88 (12 * kp + 1) = σ 4 kp 1 from (xs_hq hR (p := kp) (by omega)) 1 (by omega)]
            refine xi_goto (q := 72) dX9_as_64 (by decide) ?_
            refine xi_ret ⟨_, rfl, rfl, dX9_as_72⟩ (Nat.zero_le _) (Nat.zero_le _) ?_
            exact xs_finM (σ' := (xs_fd σ 0)) hp (by simp only [xs_asK, xs_onE, xs_onP, xs_fn, xs_an, Bool.not_false, Bool.not_true, Bool.true_or, Bool.false_or, Bool.and_true, Bool.true_and, Bool.and_false, Bool.false_and, Bool.false_eq_true, if_true, if_false, ↓reduceIte, g_9, g_21, eq_false y29, g_50, xs_kk0 (k := kp) (by omega)] <;> rfl) _ (xs_Mx (σ' := (xs_fd σ 0)) hM hR (fa := (upd (upd (C 83) 0 0) 1 0)) p43 (fun j hj => (pk_un (by omega)).trans ((pk_un (by omega)).trans (rfl))) ((Fh43 88 (by omega) (by omega)).trans (xs_M88 hM)) (fun _ _ => rfl) q43 ((Fh43 95 (by omega) (by omega)).trans (xs_M95 hM)) ((Fh43 96 (by omega) (by omega)).trans (xs_M96 hM)) ((Fh43 97 (by omega) (by omega)).trans (xs_M97 hM)) ((Fh43 98 (by omega) (by omega)).trans (xs_M98 hM)) ((Fh43 99 (by omega) (by omega)).trans (xs_M99 hM)) (fun i i1 i2 i3 i4 => (Fh43 i (by omega) (by omega))) xs_fdo rfl) (fun i hi => (Fh43 i (by omega) (by omega)))
        · exact absurd (by decide) c_34
    · have g_21 : xs_i w 0 4 = false := decide_eq_false (xn_b0 c_21)
      refine xi_ldc (q := 26) dX9_as_24 kc_X9_91 rfl ?_
      refine xi_ret ⟨_, rfl, rfl, dX9_as_26⟩ (Nat.zero_le _) (Nat.zero_le _) ?_
      exact xs_finM (σ' := σ) hp (by simp only [xs_asK, xs_onE, xs_onP, xs_fn, xs_an, Bool.not_false, Bool.not_true, Bool.true_or, Bool.false_or, Bool.and_true, Bool.true_and, Bool.and_false, Bool.false_and, Bool.false_eq_true, if_true, if_false, ↓reduceIte, g_9, g_21, xs_kk0 (k := kp) (by omega)] <;> rfl) _ (xs_Mx (σ' := σ) hM hR (fa := (upd (C 83) 0 0)) ((va_up_self _ _ _).trans rfl) (fun j hj => (pk_un (by omega)).trans (rfl)) ((va_up_ne _ _ (by omega)).trans (xs_M88 hM)) (fun _ _ => rfl) ((va_up_ne _ _ (by omega)).trans (xs_M94 hM)) ((va_up_ne _ _ (by omega)).trans (xs_M95 hM)) ((va_up_ne _ _ (by omega)).trans (xs_M96 hM)) ((va_up_ne _ _ (by omega)).trans (xs_M97 hM)) ((va_up_ne _ _ (by omega)).trans (xs_M98 hM)) ((va_up_ne _ _ (by omega)).trans (xs_M99 hM)) (fun i i1 i2 i3 i4 => ((va_up_ne _ _ (by omega)).trans (Eq.refl _))) (fun _ _ _ => rfl) hR.2) (fun i hi => ((va_up_ne _ _ (by omega)).trans (Eq.refl _)))

set_option maxRecDepth 20000 in
set_option maxHeartbeats 2000000 in
/-- card -/
theorem xm_X9_card : xv_K yX9_card mX9_card (fun as h n Post => ∃ (σ : xs_Sg) (p : Int32) (m : Int32) (b : Int32) (g : Int32) (d : Int32) (k : Int32), as = [.ref 83, .int p, .int m, .int b, .int g, .int d, .int k] ∧ (xs_Mo h σ) ∧ (103 < n) ∧ (xs_V σ) ∧ xs_DM h n Post (xs_card σ p m b g d k)) := by
  refine xv_entry (by decide +kernel) rfl (fun h => absurd h (by decide)) ?_
  rintro X _ h n Post ⟨σ, p, m, b, g, d, k, rfl, ⟨C, dk, hM, hR⟩, h103, hV, hp⟩
  refine ⟨Nat.le_of_ble_eq_true rfl, ?_⟩
  show xv_V X mX9_card Post 0 0 0 [(0, .ref 83), (1, .int p), (2, .int m), (3, .int b), (4, .int g), (5, .int d), (6, .int k)] [] h n
  refine xi_aload_n (q := 1) dX9_card_0 rfl rfl ?_
  refine xi_iconst (x := 0) (q := 2) dX9_card_1 (by decide) rfl ?_
  refine xi_putf (q := 5) dX9_card_2 fl_X9_71 ⟨by omega, (xs_M83 hM)⟩ (Or.inl rfl) (fun _ => rfl) (fun _ => rfl) (Nat.le_of_ble_eq_true rfl) rfl ?_
  refine xi_iload_n (q := 6) dX9_card_5 rfl rfl ?_
  refine xv_cS1 (q := 9) xm_X9_isPlace ln_X9_116 dX9_card_6 ⟨(Nat.le_of_ble_eq_true rfl), (Nat.le_of_ble_eq_true rfl)⟩ (Nat.le_of_ble_eq_true rfl) ⟨rfl, rfl⟩ rfl (Nat.zero_le _) (Nat.zero_le _) ?_
  refine ⟨_, rfl, ?_⟩
  refine xi_if_eq (q := 12) (q2 := 46) dX9_card_9 (by decide) rfl (fun c_9 => ?_) (fun c_9 => ?_)
  · have g_9 : xs_i p 0 5 = false := decide_eq_false (xn_b0 c_9)
    refine xi_ldc (q := 48) dX9_card_46 kc_X9_91 rfl ?_
    refine xi_ret ⟨_, rfl, rfl, dX9_card_48⟩ (Nat.zero_le _) (Nat.zero_le _) ?_
    exact xs_finM (σ' := σ) hp (by simp only [xs_card, xs_sel, xs_onE, xs_onP, xs_fn, xs_an, Bool.not_false, Bool.not_true, Bool.true_or, Bool.false_or, Bool.and_true, Bool.true_and, Bool.and_false, Bool.false_and, Bool.false_eq_true, if_true, if_false, ↓reduceIte, g_9] <;> rfl) _ (xs_Mx (σ' := σ) hM hR (fa := (upd (C 83) 0 0)) ((va_up_self _ _ _).trans rfl) (fun j hj => (pk_un (by omega)).trans (rfl)) ((va_up_ne _ _ (by omega)).trans (xs_M88 hM)) (fun _ _ => rfl) ((va_up_ne _ _ (by omega)).trans (xs_M94 hM)) ((va_up_ne _ _ (by omega)).trans (xs_M95 hM)) ((va_up_ne _ _ (by omega)).trans (xs_M96 hM)) ((va_up_ne _ _ (by omega)).trans (xs_M97 hM)) ((va_up_ne _ _ (by omega)).trans (xs_M98 hM)) ((va_up_ne _ _ (by omega)).trans (xs_M99 hM)) (fun i i1 i2 i3 i4 => ((va_up_ne _ _ (by omega)).trans (Eq.refl _))) (fun _ _ _ => rfl) hR.2) (fun i hi => ((va_up_ne _ _ (by omega)).trans (Eq.refl _)))
  · have g_9 : xs_i p 0 5 = true := decide_eq_true (xn_b1 c_9)
    obtain ⟨kp, hkp, rfl⟩ := xn_pk (m := 5) (by omega) (xn_b1 c_9)
    refine xi_iload_n (q := 13) dX9_card_12 rfl rfl ?_
    refine xi_iload_n (q := 14) dX9_card_13 rfl rfl ?_
    refine xi_iload (q := 16) dX9_card_14 rfl rfl ?_
    refine xv_cS3 (q := 19) xm_X9_isTurn ln_X9_209 dX9_card_16 ⟨(Nat.le_of_ble_eq_true rfl), (Nat.le_of_ble_eq_true rfl)⟩ (Nat.le_of_ble_eq_true rfl) ⟨rfl, rfl⟩ rfl (Nat.zero_le _) (Nat.zero_le _) ?_
    refine ⟨_, _, _, rfl, ?_⟩
    refine xi_if_eq (q := 22) (q2 := 46) dX9_card_19 (by decide) rfl (fun c_19 => ?_) (fun c_19 => ?_)
    · have g_19 : (xs_i m (-6) 6 && xs_i b 0 2000 && xs_i g 0 4) = false := Bool.eq_false_iff.mpr (xn_b0 c_19)
      refine xi_ldc (q := 48) dX9_card_46 kc_X9_91 rfl ?_
      refine xi_ret ⟨_, rfl, rfl, dX9_card_48⟩ (Nat.zero_le _) (Nat.zero_le _) ?_
      exact xs_finM (σ' := σ) hp (by simp only [xs_card, xs_sel, xs_onE, xs_onP, xs_fn, xs_an, Bool.not_false, Bool.not_true, Bool.true_or, Bool.false_or, Bool.and_true, Bool.true_and, Bool.and_false, Bool.false_and, Bool.false_eq_true, if_true, if_false, ↓reduceIte, g_9, g_19, xs_kk0 (k := kp) (by omega)] <;> rfl) _ (xs_Mx (σ' := σ) hM hR (fa := (upd (C 83) 0 0)) ((va_up_self _ _ _).trans rfl) (fun j hj => (pk_un (by omega)).trans (rfl)) ((va_up_ne _ _ (by omega)).trans (xs_M88 hM)) (fun _ _ => rfl) ((va_up_ne _ _ (by omega)).trans (xs_M94 hM)) ((va_up_ne _ _ (by omega)).trans (xs_M95 hM)) ((va_up_ne _ _ (by omega)).trans (xs_M96 hM)) ((va_up_ne _ _ (by omega)).trans (xs_M97 hM)) ((va_up_ne _ _ (by omega)).trans (xs_M98 hM)) ((va_up_ne _ _ (by omega)).trans (xs_M99 hM)) (fun i i1 i2 i3 i4 => ((va_up_ne _ _ (by omega)).trans (Eq.refl _))) (fun _ _ _ => rfl) hR.2) (fun i hi => ((va_up_ne _ _ (by omega)).trans (Eq.refl _)))
    · have g_19 : (xs_i m (-6) 6 && xs_i b 0 2000 && xs_i g 0 4) = true := xn_b1 c_19
      have t_19 : (xs_i m (-6) 6 = true ∧ xs_i b 0 2000 = true) ∧ xs_i g 0 4 = true := by rw [← Bool.and_eq_true, ← Bool.and_eq_true]; exact g_19
      refine xi_iload (q := 24) dX9_card_22 rfl rfl ?_
      refine xi_i2l (q := 25) dX9_card_24 rfl ?_
      refine xi_lconst (x := 0) (q := 26) dX9_card_25 (by decide) rfl ?_
      refine xi_lconst (x := 1) (q := 27) dX9_card_26 (by decide) rfl ?_
      refine xv_cS3 (q := 30) xm_X9_in ln_X9_81 dX9_card_27 ⟨(Nat.le_of_ble_eq_true rfl), (Nat.le_of_ble_eq_true rfl)⟩ (Nat.le_of_ble_eq_true rfl) ⟨rfl, rfl⟩ rfl (Nat.zero_le _) (Nat.zero_le _) ?_
      refine ⟨d, 0, 1, rfl, ?_⟩
      refine xi_if_eq (q := 33) (q2 := 46) dX9_card_30 (by decide) rfl (fun c_30 => ?_) (fun c_30 => ?_)
      · have g_30 : xs_i d 0 1 = false := decide_eq_false (xn_b0 c_30)
        refine xi_ldc (q := 48) dX9_card_46 kc_X9_91 rfl ?_
        refine xi_ret ⟨_, rfl, rfl, dX9_card_48⟩ (Nat.zero_le _) (Nat.zero_le _) ?_
        exact xs_finM (σ' := σ) hp (by simp only [xs_card, xs_sel, xs_onE, xs_onP, xs_fn, xs_an, Bool.not_false, Bool.not_true, Bool.true_or, Bool.false_or, Bool.and_true, Bool.true_and, Bool.and_false, Bool.false_and, Bool.false_eq_true, if_true, if_false, ↓reduceIte, g_9, g_19, g_30, xs_kk0 (k := kp) (by omega)] <;> rfl) _ (xs_Mx (σ' := σ) hM hR (fa := (upd (C 83) 0 0)) ((va_up_self _ _ _).trans rfl) (fun j hj => (pk_un (by omega)).trans (rfl)) ((va_up_ne _ _ (by omega)).trans (xs_M88 hM)) (fun _ _ => rfl) ((va_up_ne _ _ (by omega)).trans (xs_M94 hM)) ((va_up_ne _ _ (by omega)).trans (xs_M95 hM)) ((va_up_ne _ _ (by omega)).trans (xs_M96 hM)) ((va_up_ne _ _ (by omega)).trans (xs_M97 hM)) ((va_up_ne _ _ (by omega)).trans (xs_M98 hM)) ((va_up_ne _ _ (by omega)).trans (xs_M99 hM)) (fun i i1 i2 i3 i4 => ((va_up_ne _ _ (by omega)).trans (Eq.refl _))) (fun _ _ _ => rfl) hR.2) (fun i hi => ((va_up_ne _ _ (by omega)).trans (Eq.refl _)))
      · have g_30 : xs_i d 0 1 = true := decide_eq_true (xn_b1 c_30)
        refine xi_iload (q := 35) dX9_card_33 rfl rfl ?_
        refine xi_i2l (q := 36) dX9_card_35 rfl ?_
        refine xi_lconst (x := 0) (q := 37) dX9_card_36 (by decide) rfl ?_
        refine xi_ldc2 (q := 40) dX9_card_37 kc_X9_213 rfl ?_
        refine xv_cS3 (q := 43) xm_X9_in ln_X9_81 dX9_card_40 ⟨(Nat.le_of_ble_eq_true rfl), (Nat.le_of_ble_eq_true rfl)⟩ (Nat.le_of_ble_eq_true rfl) ⟨rfl, rfl⟩ rfl (Nat.zero_le _) (Nat.zero_le _) ?_
        refine ⟨k, 0, 47, rfl, ?_⟩
        refine xi_if_ne (q := 46) (q2 := 49) dX9_card_43 (by decide) rfl (fun c_43 => ?_) (fun c_43 => ?_)
        · have g_43 : xs_i k 0 47 = true := decide_eq_true (xn_b1 c_43)
          refine xi_aload_n (q := 50) dX9_card_49 rfl rfl ?_
          refine xi_iload_n (q := 51) dX9_card_50 rfl rfl ?_
          refine xv_cV1 (q := 54) xm_X9_stands ln_X9_123 dX9_card_51 (xv_self (by omega)) rfl ⟨(Nat.le_of_ble_eq_true rfl), (Nat.le_of_ble_eq_true rfl)⟩ (Nat.le_of_ble_eq_true rfl) ⟨rfl, rfl⟩ rfl (Nat.zero_le _) (Nat.zero_le _) ?_
          refine ⟨(upd (C 83) 0 0), dk, C 87, kp, rfl, ((va_up_self _ _ _).trans rfl), by omega, ((va_up_ne _ _ (by omega)).trans (xs_M87 hM)), by omega, ?_, ?_⟩
          · intro z51 h51 p51 f51
            have Fh51 : ∀ i, i ≠ 83 → h51 i = h i := fun i j83 => (f51 i (by omega)).trans ((va_up_ne _ _ (by omega)).trans (Eq.refl _))
            have y51 : σ 6 kp 0 = 0 := (xs_ht hR (by omega)).symm.trans z51
            refine xi_istore (q := 56) dX9_card_54 (Nat.le_of_ble_eq_true rfl) rfl ?_
            refine xi_iload (q := 58) dX9_card_56 rfl rfl ?_
            refine xi_if_ge (q := 61) (q2 := 64) dX9_card_58 (by decide) rfl (fun c_58 => ?_) (fun c_58 => ?_)
            · exact absurd c_58 (by decide)
            · skip
              refine xi_iload (q := 63) dX9_card_61 rfl rfl ?_
              refine xi_ret ⟨_, rfl, rfl, dX9_card_63⟩ (Nat.zero_le _) (Nat.zero_le _) ?_
              exact xs_finM (σ' := (xs_fd σ 1)) hp (by simp only [xs_card, xs_sel, xs_onE, xs_onP, xs_fn1, xs_an, Bool.not_false, Bool.not_true, Bool.true_or, Bool.false_or, Bool.and_true, Bool.true_and, Bool.and_false, Bool.false_and, Bool.false_eq_true, if_true, if_false, ↓reduceIte, g_9, g_19, g_30, g_43, eq_true y51, xs_kk0 (k := kp) (by omega)] <;> rfl) _ (xs_Mx (σ' := (xs_fd σ 1)) hM hR (fa := (upd (upd (C 83) 0 0) 1 1)) p51 (fun j hj => (pk_un (by omega)).trans ((pk_un (by omega)).trans (rfl))) ((Fh51 88 (by omega)).trans (xs_M88 hM)) (fun _ _ => rfl) ((Fh51 94 (by omega)).trans (xs_M94 hM)) ((Fh51 95 (by omega)).trans (xs_M95 hM)) ((Fh51 96 (by omega)).trans (xs_M96 hM)) ((Fh51 97 (by omega)).trans (xs_M97 hM)) ((Fh51 98 (by omega)).trans (xs_M98 hM)) ((Fh51 99 (by omega)).trans (xs_M99 hM)) (fun i i1 i2 i3 i4 => (Fh51 i (by omega))) xs_fdo rfl) (fun i hi => (Fh51 i (by omega)))
          · intro z51 h51 p51 f51
            have Fh51 : ∀ i, i ≠ 83 → h51 i = h i := fun i j83 => (f51 i (by omega)).trans ((va_up_ne _ _ (by omega)).trans (Eq.refl _))
            have y51 : ¬ σ 6 kp 0 = 0 := fun e => z51 ((xs_ht hR (by omega)).trans e)
            refine xi_istore (q := 56) dX9_card_54 (Nat.le_of_ble_eq_true rfl) rfl ?_
            refine xi_iload (q := 58) dX9_card_56 rfl rfl ?_
            refine xi_if_ge (q := 61) (q2 := 64) dX9_card_58 (by decide) rfl (fun c_58 => ?_) (fun c_58 => ?_)
            · skip
              obtain ⟨kk, hkk, rfl⟩ := xn_pk (m := 47) (by omega) (xn_b1 c_43)
              refine xi_aload_n (q := 65) dX9_card_64 rfl rfl ?_
              refine xi_iload_n (q := 66) dX9_card_65 rfl rfl ?_
              refine xi_iload_n (q := 67) dX9_card_66 rfl rfl ?_
              refine xi_iload_n (q := 68) dX9_card_67 rfl rfl ?_
              refine xi_iload (q := 70) dX9_card_68 rfl rfl ?_
              refine xi_iload (q := 72) dX9_card_70 rfl rfl ?_
              refine xv_cV5 (q := 75) xm_X9_draw ln_X9_215 dX9_card_72 ⟨by omega, p51⟩ rfl ⟨(Nat.le_of_ble_eq_true rfl), (Nat.le_of_ble_eq_true rfl)⟩ (Nat.le_of_ble_eq_true rfl) ⟨rfl, rfl⟩ rfl (Nat.zero_le _) (Nat.zero_le _) ?_
              refine ⟨(upd (upd (C 83) 0 0) 1 0), dk, (C 88), kp, _, _, _, _, _, rfl, ⟨p51, ((Fh51 88 (by omega)).trans (xs_M88 hM)), ((Fh51 93 (by omega)).trans (xs_M93 hM))⟩, by omega, by omega, (xe_ok (xs_hq hR (by omega)) (hV.2.2.2.1 kp (by omega) y51).1), ((Fh51 94 (by omega)).trans (xs_M94 hM)), fun h72 p72 q72 f72 => ?_⟩
              have Fh72 : ∀ i, i ≠ 83 → i ≠ 94 → h72 i = h i := fun i j83 j94 => (f72 i (by omega) (by omega)).trans (Fh51 i (by omega))
              refine xi_aload_n (q := 76) dX9_card_75 rfl rfl ?_
              refine xi_getf (q := 79) dX9_card_76 fl_X9_41 ⟨by omega, p72⟩ rfl rfl ?_
              refine xi_iload (q := 81) dX9_card_79 rfl rfl ?_
              refine xi_iald (q := 82) dX9_card_81 ⟨by omega, q72⟩ (xv_ixN (by omega) (by omega)) rfl ?_
              rw [xs_hs hR (p := kp) (by omega), xe_cd (xs_hq hR (p := kp) (by omega))]
              refine xi_ret ⟨_, rfl, rfl, dX9_card_82⟩ (Nat.zero_le _) (Nat.zero_le _) ?_
              exact xs_finM (σ' := (xs_fd σ 0)) hp (by simp only [xs_card, xs_sel, xs_onE, xs_onP, xs_fn, xs_an, Bool.not_false, Bool.not_true, Bool.true_or, Bool.false_or, Bool.and_true, Bool.true_and, Bool.and_false, Bool.false_and, Bool.false_eq_true, if_true, if_false, ↓reduceIte, g_9, g_19, g_30, g_43, eq_false y51, xs_kk0 (k := kp) (by omega), xs_kk0 (k := kk) (by omega)] <;> rfl) _ (xs_Mx (σ' := (xs_fd σ 0)) hM hR (fa := (upd (upd (C 83) 0 0) 1 0)) p72 (fun j hj => (pk_un (by omega)).trans ((pk_un (by omega)).trans (rfl))) ((Fh72 88 (by omega) (by omega)).trans (xs_M88 hM)) (fun _ _ => rfl) q72 ((Fh72 95 (by omega) (by omega)).trans (xs_M95 hM)) ((Fh72 96 (by omega) (by omega)).trans (xs_M96 hM)) ((Fh72 97 (by omega) (by omega)).trans (xs_M97 hM)) ((Fh72 98 (by omega) (by omega)).trans (xs_M98 hM)) ((Fh72 99 (by omega) (by omega)).trans (xs_M99 hM)) (fun i i1 i2 i3 i4 => (Fh72 i (by omega) (by omega))) xs_fdo rfl) (fun i hi => (Fh72 i (by omega) (by omega)))
            · exact absurd (by decide) c_58
        · have g_43 : xs_i k 0 47 = false := decide_eq_false (xn_b0 c_43)
          refine xi_ldc (q := 48) dX9_card_46 kc_X9_91 rfl ?_
          refine xi_ret ⟨_, rfl, rfl, dX9_card_48⟩ (Nat.zero_le _) (Nat.zero_le _) ?_
          exact xs_finM (σ' := σ) hp (by simp only [xs_card, xs_sel, xs_onE, xs_onP, xs_fn, xs_an, Bool.not_false, Bool.not_true, Bool.true_or, Bool.false_or, Bool.and_true, Bool.true_and, Bool.and_false, Bool.false_and, Bool.false_eq_true, if_true, if_false, ↓reduceIte, g_9, g_19, g_30, g_43, xs_kk0 (k := kp) (by omega)] <;> rfl) _ (xs_Mx (σ' := σ) hM hR (fa := (upd (C 83) 0 0)) ((va_up_self _ _ _).trans rfl) (fun j hj => (pk_un (by omega)).trans (rfl)) ((va_up_ne _ _ (by omega)).trans (xs_M88 hM)) (fun _ _ => rfl) ((va_up_ne _ _ (by omega)).trans (xs_M94 hM)) ((va_up_ne _ _ (by omega)).trans (xs_M95 hM)) ((va_up_ne _ _ (by omega)).trans (xs_M96 hM)) ((va_up_ne _ _ (by omega)).trans (xs_M97 hM)) ((va_up_ne _ _ (by omega)).trans (xs_M98 hM)) ((va_up_ne _ _ (by omega)).trans (xs_M99 hM)) (fun i i1 i2 i3 i4 => ((va_up_ne _ _ (by omega)).trans (Eq.refl _))) (fun _ _ _ => rfl) hR.2) (fun i hi => ((va_up_ne _ _ (by omega)).trans (Eq.refl _)))

set_option maxRecDepth 20000 in
set_option maxHeartbeats 2000000 in
/-- work -/
theorem xm_X9_work : xv_K yX9_work mX9_work (fun as h n Post => ∃ (σ : xs_Sg) (p : Int32) (m : Int32) (b : Int32) (g : Int32) (w : Int32), as = [.ref 83, .int p, .int m, .int b, .int g, .int w] ∧ (xs_Mo h σ) ∧ (103 < n) ∧ (xs_V σ) ∧ xs_DM h n Post (xs_work σ p m b g w)) := by
  refine xv_entry (by decide +kernel) rfl (fun h => absurd h (by decide)) ?_
  rintro X _ h n Post ⟨σ, p, m, b, g, w, rfl, ⟨C, dk, hM, hR⟩, h103, hV, hp⟩
  refine ⟨Nat.le_of_ble_eq_true rfl, ?_⟩
  show xv_V X mX9_work Post 0 0 0 [(0, .ref 83), (1, .int p), (2, .int m), (3, .int b), (4, .int g), (5, .int w)] [] h n
  refine xi_aload_n (q := 1) dX9_work_0 rfl rfl ?_
  refine xi_iconst (x := 0) (q := 2) dX9_work_1 (by decide) rfl ?_
  refine xi_putf (q := 5) dX9_work_2 fl_X9_71 ⟨by omega, (xs_M83 hM)⟩ (Or.inl rfl) (fun _ => rfl) (fun _ => rfl) (Nat.le_of_ble_eq_true rfl) rfl ?_
  refine xi_iload_n (q := 6) dX9_work_5 rfl rfl ?_
  refine xv_cS1 (q := 9) xm_X9_isPlace ln_X9_116 dX9_work_6 ⟨(Nat.le_of_ble_eq_true rfl), (Nat.le_of_ble_eq_true rfl)⟩ (Nat.le_of_ble_eq_true rfl) ⟨rfl, rfl⟩ rfl (Nat.zero_le _) (Nat.zero_le _) ?_
  refine ⟨_, rfl, ?_⟩
  refine xi_if_eq (q := 12) (q2 := 33) dX9_work_9 (by decide) rfl (fun c_9 => ?_) (fun c_9 => ?_)
  · have g_9 : xs_i p 0 5 = false := decide_eq_false (xn_b0 c_9)
    refine xi_ldc (q := 35) dX9_work_33 kc_X9_91 rfl ?_
    refine xi_ret ⟨_, rfl, rfl, dX9_work_35⟩ (Nat.zero_le _) (Nat.zero_le _) ?_
    exact xs_finM (σ' := σ) hp (by simp only [xs_work, xs_onE, xs_onP, xs_fn, xs_an, Bool.not_false, Bool.not_true, Bool.true_or, Bool.false_or, Bool.and_true, Bool.true_and, Bool.and_false, Bool.false_and, Bool.false_eq_true, if_true, if_false, ↓reduceIte, g_9] <;> rfl) _ (xs_Mx (σ' := σ) hM hR (fa := (upd (C 83) 0 0)) ((va_up_self _ _ _).trans rfl) (fun j hj => (pk_un (by omega)).trans (rfl)) ((va_up_ne _ _ (by omega)).trans (xs_M88 hM)) (fun _ _ => rfl) ((va_up_ne _ _ (by omega)).trans (xs_M94 hM)) ((va_up_ne _ _ (by omega)).trans (xs_M95 hM)) ((va_up_ne _ _ (by omega)).trans (xs_M96 hM)) ((va_up_ne _ _ (by omega)).trans (xs_M97 hM)) ((va_up_ne _ _ (by omega)).trans (xs_M98 hM)) ((va_up_ne _ _ (by omega)).trans (xs_M99 hM)) (fun i i1 i2 i3 i4 => ((va_up_ne _ _ (by omega)).trans (Eq.refl _))) (fun _ _ _ => rfl) hR.2) (fun i hi => ((va_up_ne _ _ (by omega)).trans (Eq.refl _)))
  · have g_9 : xs_i p 0 5 = true := decide_eq_true (xn_b1 c_9)
    obtain ⟨kp, hkp, rfl⟩ := xn_pk (m := 5) (by omega) (xn_b1 c_9)
    refine xi_iload_n (q := 13) dX9_work_12 rfl rfl ?_
    refine xi_iload_n (q := 14) dX9_work_13 rfl rfl ?_
    refine xi_iload (q := 16) dX9_work_14 rfl rfl ?_
    refine xv_cS3 (q := 19) xm_X9_isTurn ln_X9_209 dX9_work_16 ⟨(Nat.le_of_ble_eq_true rfl), (Nat.le_of_ble_eq_true rfl)⟩ (Nat.le_of_ble_eq_true rfl) ⟨rfl, rfl⟩ rfl (Nat.zero_le _) (Nat.zero_le _) ?_
    refine ⟨_, _, _, rfl, ?_⟩
    refine xi_if_eq (q := 22) (q2 := 33) dX9_work_19 (by decide) rfl (fun c_19 => ?_) (fun c_19 => ?_)
    · have g_19 : (xs_i m (-6) 6 && xs_i b 0 2000 && xs_i g 0 4) = false := Bool.eq_false_iff.mpr (xn_b0 c_19)
      refine xi_ldc (q := 35) dX9_work_33 kc_X9_91 rfl ?_
      refine xi_ret ⟨_, rfl, rfl, dX9_work_35⟩ (Nat.zero_le _) (Nat.zero_le _) ?_
      exact xs_finM (σ' := σ) hp (by simp only [xs_work, xs_onE, xs_onP, xs_fn, xs_an, Bool.not_false, Bool.not_true, Bool.true_or, Bool.false_or, Bool.and_true, Bool.true_and, Bool.and_false, Bool.false_and, Bool.false_eq_true, if_true, if_false, ↓reduceIte, g_9, g_19, xs_kk0 (k := kp) (by omega)] <;> rfl) _ (xs_Mx (σ' := σ) hM hR (fa := (upd (C 83) 0 0)) ((va_up_self _ _ _).trans rfl) (fun j hj => (pk_un (by omega)).trans (rfl)) ((va_up_ne _ _ (by omega)).trans (xs_M88 hM)) (fun _ _ => rfl) ((va_up_ne _ _ (by omega)).trans (xs_M94 hM)) ((va_up_ne _ _ (by omega)).trans (xs_M95 hM)) ((va_up_ne _ _ (by omega)).trans (xs_M96 hM)) ((va_up_ne _ _ (by omega)).trans (xs_M97 hM)) ((va_up_ne _ _ (by omega)).trans (xs_M98 hM)) ((va_up_ne _ _ (by omega)).trans (xs_M99 hM)) (fun i i1 i2 i3 i4 => ((va_up_ne _ _ (by omega)).trans (Eq.refl _))) (fun _ _ _ => rfl) hR.2) (fun i hi => ((va_up_ne _ _ (by omega)).trans (Eq.refl _)))
    · have g_19 : (xs_i m (-6) 6 && xs_i b 0 2000 && xs_i g 0 4) = true := xn_b1 c_19
      have t_19 : (xs_i m (-6) 6 = true ∧ xs_i b 0 2000 = true) ∧ xs_i g 0 4 = true := by rw [← Bool.and_eq_true, ← Bool.and_eq_true]; exact g_19
      refine xi_iload (q := 24) dX9_work_22 rfl rfl ?_
      refine xi_i2l (q := 25) dX9_work_24 rfl ?_
      refine xi_lconst (x := 0) (q := 26) dX9_work_25 (by decide) rfl ?_
      refine xi_lconst (x := 1) (q := 27) dX9_work_26 (by decide) rfl ?_
      refine xv_cS3 (q := 30) xm_X9_in ln_X9_81 dX9_work_27 ⟨(Nat.le_of_ble_eq_true rfl), (Nat.le_of_ble_eq_true rfl)⟩ (Nat.le_of_ble_eq_true rfl) ⟨rfl, rfl⟩ rfl (Nat.zero_le _) (Nat.zero_le _) ?_
      refine ⟨w, 0, 1, rfl, ?_⟩
      refine xi_if_ne (q := 33) (q2 := 36) dX9_work_30 (by decide) rfl (fun c_30 => ?_) (fun c_30 => ?_)
      · have g_30 : xs_i w 0 1 = true := decide_eq_true (xn_b1 c_30)
        refine xi_aload_n (q := 37) dX9_work_36 rfl rfl ?_
        refine xi_iload_n (q := 38) dX9_work_37 rfl rfl ?_
        refine xv_cV1 (q := 41) xm_X9_stands ln_X9_123 dX9_work_38 (xv_self (by omega)) rfl ⟨(Nat.le_of_ble_eq_true rfl), (Nat.le_of_ble_eq_true rfl)⟩ (Nat.le_of_ble_eq_true rfl) ⟨rfl, rfl⟩ rfl (Nat.zero_le _) (Nat.zero_le _) ?_
        refine ⟨(upd (C 83) 0 0), dk, C 87, kp, rfl, ((va_up_self _ _ _).trans rfl), by omega, ((va_up_ne _ _ (by omega)).trans (xs_M87 hM)), by omega, ?_, ?_⟩
        · intro z38 h38 p38 f38
          have Fh38 : ∀ i, i ≠ 83 → h38 i = h i := fun i j83 => (f38 i (by omega)).trans ((va_up_ne _ _ (by omega)).trans (Eq.refl _))
          have y38 : σ 6 kp 0 = 0 := (xs_ht hR (by omega)).symm.trans z38
          refine xi_istore (q := 43) dX9_work_41 (Nat.le_of_ble_eq_true rfl) rfl ?_
          refine xi_iload (q := 45) dX9_work_43 rfl rfl ?_
          refine xi_if_ge (q := 48) (q2 := 53) dX9_work_45 (by decide) rfl (fun c_45 => ?_) (fun c_45 => ?_)
          · exact absurd c_45 (by decide)
          · skip
            refine xi_iload (q := 50) dX9_work_48 rfl rfl ?_
            refine xi_goto (q := 79) dX9_work_50 (by decide) ?_
            refine xi_ret ⟨_, rfl, rfl, dX9_work_79⟩ (Nat.zero_le _) (Nat.zero_le _) ?_
            exact xs_finM (σ' := (xs_fd σ 1)) hp (by simp only [xs_work, xs_onE, xs_onP, xs_fn1, xs_an, Bool.not_false, Bool.not_true, Bool.true_or, Bool.false_or, Bool.and_true, Bool.true_and, Bool.and_false, Bool.false_and, Bool.false_eq_true, if_true, if_false, ↓reduceIte, g_9, g_19, g_30, eq_true y38, xs_kk0 (k := kp) (by omega)] <;> rfl) _ (xs_Mx (σ' := (xs_fd σ 1)) hM hR (fa := (upd (upd (C 83) 0 0) 1 1)) p38 (fun j hj => (pk_un (by omega)).trans ((pk_un (by omega)).trans (rfl))) ((Fh38 88 (by omega)).trans (xs_M88 hM)) (fun _ _ => rfl) ((Fh38 94 (by omega)).trans (xs_M94 hM)) ((Fh38 95 (by omega)).trans (xs_M95 hM)) ((Fh38 96 (by omega)).trans (xs_M96 hM)) ((Fh38 97 (by omega)).trans (xs_M97 hM)) ((Fh38 98 (by omega)).trans (xs_M98 hM)) ((Fh38 99 (by omega)).trans (xs_M99 hM)) (fun i i1 i2 i3 i4 => (Fh38 i (by omega))) xs_fdo rfl) (fun i hi => (Fh38 i (by omega)))
        · intro z38 h38 p38 f38
          have Fh38 : ∀ i, i ≠ 83 → h38 i = h i := fun i j83 => (f38 i (by omega)).trans ((va_up_ne _ _ (by omega)).trans (Eq.refl _))
          have y38 : ¬ σ 6 kp 0 = 0 := fun e => z38 ((xs_ht hR (by omega)).trans e)
          refine xi_istore (q := 43) dX9_work_41 (Nat.le_of_ble_eq_true rfl) rfl ?_
          refine xi_iload (q := 45) dX9_work_43 rfl rfl ?_
          refine xi_if_ge (q := 48) (q2 := 53) dX9_work_45 (by decide) rfl (fun c_45 => ?_) (fun c_45 => ?_)
          · skip
            refine xi_iload (q := 55) dX9_work_53 rfl rfl ?_
            refine xi_if_ne (q := 58) (q2 := 70) dX9_work_55 (by decide) rfl (fun c_55 => ?_) (fun c_55 => ?_)
            · skip
              refine xi_aload_n (q := 71) dX9_work_70 rfl rfl ?_
              refine xi_iload_n (q := 72) dX9_work_71 rfl rfl ?_
              refine xi_iload_n (q := 73) dX9_work_72 rfl rfl ?_
              refine xi_iload_n (q := 74) dX9_work_73 rfl rfl ?_
              refine xi_iload (q := 76) dX9_work_74 rfl rfl ?_
              refine xv_cV4 (q := 79) xm_X9_drinkOf ln_X9_222 dX9_work_76 ⟨by omega, p38⟩ rfl ⟨(Nat.le_of_ble_eq_true rfl), (Nat.le_of_ble_eq_true rfl)⟩ (Nat.le_of_ble_eq_true rfl) ⟨rfl, rfl⟩ rfl (Nat.zero_le _) (Nat.zero_le _) ?_
              refine ⟨(upd (upd (C 83) 0 0) 1 0), dk, (C 88), kp, _, _, _, _, rfl, ⟨p38, ((Fh38 88 (by omega)).trans (xs_M88 hM)), ((Fh38 93 (by omega)).trans (xs_M93 hM))⟩, by omega, by omega, (xe_ok (xs_hq hR (by omega)) (hV.2.2.2.1 kp (by omega) y38).1), ((Fh38 94 (by omega)).trans (xs_M94 hM)), fun h76 d76 r76 p76 q76 f76 => ?_⟩
              have Fh76 : ∀ i, i ≠ 83 → i ≠ 94 → h76 i = h i := fun i j83 j94 => (f76 i (by omega) (by omega)).trans (Fh38 i (by omega))
              rw [xs_hs hR (p := kp) (by omega), xe_drk (xs_hq hR (p := kp) (by omega))]
              refine xi_ret ⟨_, rfl, rfl, dX9_work_79⟩ (Nat.zero_le _) (Nat.zero_le _) ?_
              exact xs_finM (σ' := (xs_fd σ 0)) hp (by simp only [xs_work, xs_onE, xs_onP, xs_fn, xs_an, Bool.not_false, Bool.not_true, Bool.true_or, Bool.false_or, Bool.and_true, Bool.true_and, Bool.and_false, Bool.false_and, Bool.false_eq_true, if_true, if_false, ↓reduceIte, g_9, g_19, g_30, eq_false y38, eq_false (show ¬ w = 0 from c_55), xs_kk0 (k := kp) (by omega)] <;> rfl) _ (xs_Mx (σ' := (xs_fd σ 0)) hM hR (fa := (upd (upd (C 83) 0 0) 1 0)) p76 (fun j hj => (pk_un (by omega)).trans ((pk_un (by omega)).trans (rfl))) ((Fh76 88 (by omega) (by omega)).trans (xs_M88 hM)) (fun _ _ => rfl) q76 ((Fh76 95 (by omega) (by omega)).trans (xs_M95 hM)) ((Fh76 96 (by omega) (by omega)).trans (xs_M96 hM)) ((Fh76 97 (by omega) (by omega)).trans (xs_M97 hM)) ((Fh76 98 (by omega) (by omega)).trans (xs_M98 hM)) ((Fh76 99 (by omega) (by omega)).trans (xs_M99 hM)) (fun i i1 i2 i3 i4 => (Fh76 i (by omega) (by omega))) xs_fdo rfl) (fun i hi => (Fh76 i (by omega) (by omega)))
            · skip
              refine xi_aload_n (q := 59) dX9_work_58 rfl rfl ?_
              refine xi_iload_n (q := 60) dX9_work_59 rfl rfl ?_
              refine xi_iload_n (q := 61) dX9_work_60 rfl rfl ?_
              refine xi_iload_n (q := 62) dX9_work_61 rfl rfl ?_
              refine xi_iload (q := 64) dX9_work_62 rfl rfl ?_
              refine xv_cV4 (q := 67) xm_X9_workOf ln_X9_219 dX9_work_64 ⟨by omega, p38⟩ rfl ⟨(Nat.le_of_ble_eq_true rfl), (Nat.le_of_ble_eq_true rfl)⟩ (Nat.le_of_ble_eq_true rfl) ⟨rfl, rfl⟩ rfl (Nat.zero_le _) (Nat.zero_le _) ?_
              refine ⟨(upd (upd (C 83) 0 0) 1 0), dk, (C 88), kp, _, _, _, _, rfl, ⟨p38, ((Fh38 88 (by omega)).trans (xs_M88 hM)), ((Fh38 93 (by omega)).trans (xs_M93 hM))⟩, by omega, by omega, (xe_ok (xs_hq hR (by omega)) (hV.2.2.2.1 kp (by omega) y38).1), ((Fh38 94 (by omega)).trans (xs_M94 hM)), fun h64 d64 r64 p64 q64 f64 => ?_⟩
              have Fh64 : ∀ i, i ≠ 83 → i ≠ 94 → h64 i = h i := fun i j83 j94 => (f64 i (by omega) (by omega)).trans (Fh38 i (by omega))
              rw [xs_hs hR (p := kp) (by omega), xe_wrk (xs_hq hR (p := kp) (by omega))]
              refine xi_goto (q := 79) dX9_work_67 (by decide) ?_
              refine xi_ret ⟨_, rfl, rfl, dX9_work_79⟩ (Nat.zero_le _) (Nat.zero_le _) ?_
              exact xs_finM (σ' := (xs_fd σ 0)) hp (by simp only [xs_work, xs_onE, xs_onP, xs_fn, xs_an, Bool.not_false, Bool.not_true, Bool.true_or, Bool.false_or, Bool.and_true, Bool.true_and, Bool.and_false, Bool.false_and, Bool.false_eq_true, if_true, if_false, ↓reduceIte, g_9, g_19, g_30, eq_false y38, eq_true (show w = 0 from by first | exact c_55 | exact Decidable.of_not_not c_55), xs_kk0 (k := kp) (by omega)] <;> rfl) _ (xs_Mx (σ' := (xs_fd σ 0)) hM hR (fa := (upd (upd (C 83) 0 0) 1 0)) p64 (fun j hj => (pk_un (by omega)).trans ((pk_un (by omega)).trans (rfl))) ((Fh64 88 (by omega) (by omega)).trans (xs_M88 hM)) (fun _ _ => rfl) q64 ((Fh64 95 (by omega) (by omega)).trans (xs_M95 hM)) ((Fh64 96 (by omega) (by omega)).trans (xs_M96 hM)) ((Fh64 97 (by omega) (by omega)).trans (xs_M97 hM)) ((Fh64 98 (by omega) (by omega)).trans (xs_M98 hM)) ((Fh64 99 (by omega) (by omega)).trans (xs_M99 hM)) (fun i i1 i2 i3 i4 => (Fh64 i (by omega) (by omega))) xs_fdo rfl) (fun i hi => (Fh64 i (by omega) (by omega)))
          · exact absurd (by decide) c_45
      · have g_30 : xs_i w 0 1 = false := decide_eq_false (xn_b0 c_30)
        refine xi_ldc (q := 35) dX9_work_33 kc_X9_91 rfl ?_
        refine xi_ret ⟨_, rfl, rfl, dX9_work_35⟩ (Nat.zero_le _) (Nat.zero_le _) ?_
        exact xs_finM (σ' := σ) hp (by simp only [xs_work, xs_onE, xs_onP, xs_fn, xs_an, Bool.not_false, Bool.not_true, Bool.true_or, Bool.false_or, Bool.and_true, Bool.true_and, Bool.and_false, Bool.false_and, Bool.false_eq_true, if_true, if_false, ↓reduceIte, g_9, g_19, g_30, xs_kk0 (k := kp) (by omega)] <;> rfl) _ (xs_Mx (σ' := σ) hM hR (fa := (upd (C 83) 0 0)) ((va_up_self _ _ _).trans rfl) (fun j hj => (pk_un (by omega)).trans (rfl)) ((va_up_ne _ _ (by omega)).trans (xs_M88 hM)) (fun _ _ => rfl) ((va_up_ne _ _ (by omega)).trans (xs_M94 hM)) ((va_up_ne _ _ (by omega)).trans (xs_M95 hM)) ((va_up_ne _ _ (by omega)).trans (xs_M96 hM)) ((va_up_ne _ _ (by omega)).trans (xs_M97 hM)) ((va_up_ne _ _ (by omega)).trans (xs_M98 hM)) ((va_up_ne _ _ (by omega)).trans (xs_M99 hM)) (fun i i1 i2 i3 i4 => ((va_up_ne _ _ (by omega)).trans (Eq.refl _))) (fun _ _ _ => rfl) hR.2) (fun i hi => ((va_up_ne _ _ (by omega)).trans (Eq.refl _)))

set_option maxRecDepth 20000 in
set_option maxHeartbeats 2000000 in
/-- setting -/
theorem xm_X9_setting : xv_K yX9_setting mX9_setting (fun as h n Post => ∃ (σ : xs_Sg) (p : Int32) (w : Int32), as = [.ref 83, .int p, .int w] ∧ (xs_Mo h σ) ∧ (103 < n) ∧ (xs_V σ) ∧ xs_DM h n Post (xs_setting σ p w)) := by
  refine xv_entry (by decide +kernel) rfl (fun h => absurd h (by decide)) ?_
  rintro X _ h n Post ⟨σ, p, w, rfl, ⟨C, dk, hM, hR⟩, h103, hV, hp⟩
  refine ⟨Nat.le_of_ble_eq_true rfl, ?_⟩
  show xv_V X mX9_setting Post 0 0 0 [(0, .ref 83), (1, .int p), (2, .int w)] [] h n
  refine xi_aload_n (q := 1) dX9_setting_0 rfl rfl ?_
  refine xi_iconst (x := 0) (q := 2) dX9_setting_1 (by decide) rfl ?_
  refine xi_putf (q := 5) dX9_setting_2 fl_X9_71 ⟨by omega, (xs_M83 hM)⟩ (Or.inl rfl) (fun _ => rfl) (fun _ => rfl) (Nat.le_of_ble_eq_true rfl) rfl ?_
  refine xi_iload_n (q := 6) dX9_setting_5 rfl rfl ?_
  refine xv_cS1 (q := 9) xm_X9_isPlace ln_X9_116 dX9_setting_6 ⟨(Nat.le_of_ble_eq_true rfl), (Nat.le_of_ble_eq_true rfl)⟩ (Nat.le_of_ble_eq_true rfl) ⟨rfl, rfl⟩ rfl (Nat.zero_le _) (Nat.zero_le _) ?_
  refine ⟨_, rfl, ?_⟩
  refine xi_if_eq (q := 12) (q2 := 24) dX9_setting_9 (by decide) rfl (fun c_9 => ?_) (fun c_9 => ?_)
  · have g_9 : xs_i p 0 5 = false := decide_eq_false (xn_b0 c_9)
    refine xi_ldc (q := 26) dX9_setting_24 kc_X9_91 rfl ?_
    refine xi_ret ⟨_, rfl, rfl, dX9_setting_26⟩ (Nat.zero_le _) (Nat.zero_le _) ?_
    exact xs_finM (σ' := σ) hp (by simp only [xs_setting, xs_onE, xs_onP, xs_fn, xs_an, Bool.not_false, Bool.not_true, Bool.true_or, Bool.false_or, Bool.and_true, Bool.true_and, Bool.and_false, Bool.false_and, Bool.false_eq_true, if_true, if_false, ↓reduceIte, g_9] <;> rfl) _ (xs_Mx (σ' := σ) hM hR (fa := (upd (C 83) 0 0)) ((va_up_self _ _ _).trans rfl) (fun j hj => (pk_un (by omega)).trans (rfl)) ((va_up_ne _ _ (by omega)).trans (xs_M88 hM)) (fun _ _ => rfl) ((va_up_ne _ _ (by omega)).trans (xs_M94 hM)) ((va_up_ne _ _ (by omega)).trans (xs_M95 hM)) ((va_up_ne _ _ (by omega)).trans (xs_M96 hM)) ((va_up_ne _ _ (by omega)).trans (xs_M97 hM)) ((va_up_ne _ _ (by omega)).trans (xs_M98 hM)) ((va_up_ne _ _ (by omega)).trans (xs_M99 hM)) (fun i i1 i2 i3 i4 => ((va_up_ne _ _ (by omega)).trans (Eq.refl _))) (fun _ _ _ => rfl) hR.2) (fun i hi => ((va_up_ne _ _ (by omega)).trans (Eq.refl _)))
  · have g_9 : xs_i p 0 5 = true := decide_eq_true (xn_b1 c_9)
    obtain ⟨kp, hkp, rfl⟩ := xn_pk (m := 5) (by omega) (xn_b1 c_9)
    refine xi_iload_n (q := 13) dX9_setting_12 rfl rfl ?_
    refine xi_i2l (q := 14) dX9_setting_13 rfl ?_
    refine xi_lconst (x := 0) (q := 15) dX9_setting_14 (by decide) rfl ?_
    refine xi_ldc2 (q := 18) dX9_setting_15 kc_X9_89 rfl ?_
    refine xv_cS3 (q := 21) xm_X9_in ln_X9_81 dX9_setting_18 ⟨(Nat.le_of_ble_eq_true rfl), (Nat.le_of_ble_eq_true rfl)⟩ (Nat.le_of_ble_eq_true rfl) ⟨rfl, rfl⟩ rfl (Nat.zero_le _) (Nat.zero_le _) ?_
    refine ⟨w, 0, 2, rfl, ?_⟩
    refine xi_if_ne (q := 24) (q2 := 27) dX9_setting_21 (by decide) rfl (fun c_21 => ?_) (fun c_21 => ?_)
    · have g_21 : xs_i w 0 2 = true := decide_eq_true (xn_b1 c_21)
      refine xi_aload_n (q := 28) dX9_setting_27 rfl rfl ?_
      refine xi_iload_n (q := 29) dX9_setting_28 rfl rfl ?_
      refine xv_cV1 (q := 32) xm_X9_stands ln_X9_123 dX9_setting_29 (xv_self (by omega)) rfl ⟨(Nat.le_of_ble_eq_true rfl), (Nat.le_of_ble_eq_true rfl)⟩ (Nat.le_of_ble_eq_true rfl) ⟨rfl, rfl⟩ rfl (Nat.zero_le _) (Nat.zero_le _) ?_
      refine ⟨(upd (C 83) 0 0), dk, C 87, kp, rfl, ((va_up_self _ _ _).trans rfl), by omega, ((va_up_ne _ _ (by omega)).trans (xs_M87 hM)), by omega, ?_, ?_⟩
      · intro z29 h29 p29 f29
        have Fh29 : ∀ i, i ≠ 83 → h29 i = h i := fun i j83 => (f29 i (by omega)).trans ((va_up_ne _ _ (by omega)).trans (Eq.refl _))
        have y29 : σ 6 kp 0 = 0 := (xs_ht hR (by omega)).symm.trans z29
        refine xi_istore_n (q := 33) dX9_setting_32 (Nat.le_of_ble_eq_true rfl) rfl ?_
        refine xi_iload_n (q := 34) dX9_setting_33 rfl rfl ?_
        refine xi_if_ge (q := 37) (q2 := 39) dX9_setting_34 (by decide) rfl (fun c_34 => ?_) (fun c_34 => ?_)
        · exact absurd c_34 (by decide)
        · skip
          refine xi_iload_n (q := 38) dX9_setting_37 rfl rfl ?_
          refine xi_ret ⟨_, rfl, rfl, dX9_setting_38⟩ (Nat.zero_le _) (Nat.zero_le _) ?_
          exact xs_finM (σ' := (xs_fd σ 1)) hp (by simp only [xs_setting, xs_onE, xs_onP, xs_fn1, xs_an, Bool.not_false, Bool.not_true, Bool.true_or, Bool.false_or, Bool.and_true, Bool.true_and, Bool.and_false, Bool.false_and, Bool.false_eq_true, if_true, if_false, ↓reduceIte, g_9, g_21, eq_true y29, xs_kk0 (k := kp) (by omega)] <;> rfl) _ (xs_Mx (σ' := (xs_fd σ 1)) hM hR (fa := (upd (upd (C 83) 0 0) 1 1)) p29 (fun j hj => (pk_un (by omega)).trans ((pk_un (by omega)).trans (rfl))) ((Fh29 88 (by omega)).trans (xs_M88 hM)) (fun _ _ => rfl) ((Fh29 94 (by omega)).trans (xs_M94 hM)) ((Fh29 95 (by omega)).trans (xs_M95 hM)) ((Fh29 96 (by omega)).trans (xs_M96 hM)) ((Fh29 97 (by omega)).trans (xs_M97 hM)) ((Fh29 98 (by omega)).trans (xs_M98 hM)) ((Fh29 99 (by omega)).trans (xs_M99 hM)) (fun i i1 i2 i3 i4 => (Fh29 i (by omega))) xs_fdo rfl) (fun i hi => (Fh29 i (by omega)))
      · intro z29 h29 p29 f29
        have Fh29 : ∀ i, i ≠ 83 → h29 i = h i := fun i j83 => (f29 i (by omega)).trans ((va_up_ne _ _ (by omega)).trans (Eq.refl _))
        have y29 : ¬ σ 6 kp 0 = 0 := fun e => z29 ((xs_ht hR (by omega)).trans e)
        refine xi_istore_n (q := 33) dX9_setting_32 (Nat.le_of_ble_eq_true rfl) rfl ?_
        refine xi_iload_n (q := 34) dX9_setting_33 rfl rfl ?_
        refine xi_if_ge (q := 37) (q2 := 39) dX9_setting_34 (by decide) rfl (fun c_34 => ?_) (fun c_34 => ?_)
        · skip
          refine xi_aload_n (q := 40) dX9_setting_39 rfl rfl ?_
          refine xi_iload_n (q := 41) dX9_setting_40 rfl rfl ?_
          refine xv_cV1 (q := 44) xm_X9_settle ln_X9_191 dX9_setting_41 ⟨by omega, p29⟩ rfl ⟨(Nat.le_of_ble_eq_true rfl), (Nat.le_of_ble_eq_true rfl)⟩ (Nat.le_of_ble_eq_true rfl) ⟨rfl, rfl⟩ rfl (Nat.zero_le _) (Nat.zero_le _) ?_
          refine ⟨(upd (upd (C 83) 0 0) 1 0), dk, (C 88), kp, rfl, ⟨p29, ((Fh29 88 (by omega)).trans (xs_M88 hM)), ((Fh29 93 (by omega)).trans (xs_M93 hM))⟩, by omega, by omega, fun h41 n41 p41 q41 e41 f41 => ?_⟩
          rw [xs_hs hR (p := kp) (by omega), xe_set (xs_hq hR (p := kp) (by omega))] at p41 ⊢
          have Fh41 : ∀ i, i ≠ 83 → i ≠ 88 → h41 i = h i := fun i j83 j88 => (f41 i (by omega) (by omega)).trans (Fh29 i (by omega))
          refine xi_istore (q := 46) dX9_setting_44 (Nat.le_of_ble_eq_true rfl) rfl ?_
          refine xi_iload_n (q := 47) dX9_setting_46 rfl rfl ?_
          refine xi_if_ne (q := 50) (q2 := 57) dX9_setting_47 (by decide) rfl (fun c_47 => ?_) (fun c_47 => ?_)
          · skip
            refine xi_iload_n (q := 58) dX9_setting_57 rfl rfl ?_
            refine xi_iconst (x := 1) (q := 59) dX9_setting_58 (by decide) rfl ?_
            refine xi_icmp_ne (q := 62) (q2 := 69) dX9_setting_59 (by decide) rfl (fun c_59 => ?_) (fun c_59 => ?_)
            · skip
              refine xi_iload (q := 71) dX9_setting_69 rfl rfl ?_
              refine xi_ret ⟨_, rfl, rfl, dX9_setting_71⟩ (Nat.zero_le _) (Nat.zero_le _) ?_
              exact xs_finM (σ' := (xs_fd σ 0)) hp (by simp only [xs_setting, xs_onE, xs_onP, xs_fn, xs_an, Bool.not_false, Bool.not_true, Bool.true_or, Bool.false_or, Bool.and_true, Bool.true_and, Bool.and_false, Bool.false_and, Bool.false_eq_true, if_true, if_false, ↓reduceIte, g_9, g_21, eq_false y29, eq_false (show ¬ w = 0 from c_47), eq_false (show ¬ w = 1 from c_59), xs_kk0 (k := kp) (by omega)] <;> rfl) _ (xs_Mx (σ' := (xs_fd σ 0)) hM hR (fa := (upd (upd (upd (upd (C 83) 0 0) 1 0) 2 (xs_set (σ 4 kp) (σ 5 kp 0)).2.1) 3 (xs_set (σ 4 kp) (σ 5 kp 0)).2.2)) p41 (fun j hj => (pk_un (by omega)).trans ((pk_un (by omega)).trans ((pk_un (by omega)).trans ((pk_un (by omega)).trans (rfl))))) q41 e41 ((Fh41 94 (by omega) (by omega)).trans (xs_M94 hM)) ((Fh41 95 (by omega) (by omega)).trans (xs_M95 hM)) ((Fh41 96 (by omega) (by omega)).trans (xs_M96 hM)) ((Fh41 97 (by omega) (by omega)).trans (xs_M97 hM)) ((Fh41 98 (by omega) (by omega)).trans (xs_M98 hM)) ((Fh41 99 (by omega) (by omega)).trans (xs_M99 hM)) (fun i i1 i2 i3 i4 => (Fh41 i (by omega) (by omega))) xs_fdo rfl) (fun i hi => (Fh41 i (by omega) (by omega)))
            · skip
              refine xi_aload_n (q := 63) dX9_setting_62 rfl rfl ?_
              refine xi_getf (q := 66) dX9_setting_63 fl_X9_188 ⟨by omega, p41⟩ rfl rfl ?_
              refine xi_goto (q := 71) dX9_setting_66 (by decide) ?_
              refine xi_ret ⟨_, rfl, rfl, dX9_setting_71⟩ (Nat.zero_le _) (Nat.zero_le _) ?_
              exact xs_finM (σ' := (xs_fd σ 0)) hp (by simp only [xs_setting, xs_onE, xs_onP, xs_fn, xs_an, Bool.not_false, Bool.not_true, Bool.true_or, Bool.false_or, Bool.and_true, Bool.true_and, Bool.and_false, Bool.false_and, Bool.false_eq_true, if_true, if_false, ↓reduceIte, g_9, g_21, eq_false y29, eq_false (show ¬ w = 0 from c_47), eq_true (show w = 1 from by first | exact c_59 | exact Decidable.of_not_not c_59), xs_kk0 (k := kp) (by omega)] <;> rfl) _ (xs_Mx (σ' := (xs_fd σ 0)) hM hR (fa := (upd (upd (upd (upd (C 83) 0 0) 1 0) 2 (xs_set (σ 4 kp) (σ 5 kp 0)).2.1) 3 (xs_set (σ 4 kp) (σ 5 kp 0)).2.2)) p41 (fun j hj => (pk_un (by omega)).trans ((pk_un (by omega)).trans ((pk_un (by omega)).trans ((pk_un (by omega)).trans (rfl))))) q41 e41 ((Fh41 94 (by omega) (by omega)).trans (xs_M94 hM)) ((Fh41 95 (by omega) (by omega)).trans (xs_M95 hM)) ((Fh41 96 (by omega) (by omega)).trans (xs_M96 hM)) ((Fh41 97 (by omega) (by omega)).trans (xs_M97 hM)) ((Fh41 98 (by omega) (by omega)).trans (xs_M98 hM)) ((Fh41 99 (by omega) (by omega)).trans (xs_M99 hM)) (fun i i1 i2 i3 i4 => (Fh41 i (by omega) (by omega))) xs_fdo rfl) (fun i hi => (Fh41 i (by omega) (by omega)))
          · skip
            refine xi_aload_n (q := 51) dX9_setting_50 rfl rfl ?_
            refine xi_getf (q := 54) dX9_setting_51 fl_X9_185 ⟨by omega, p41⟩ rfl rfl ?_
            refine xi_goto (q := 71) dX9_setting_54 (by decide) ?_
            refine xi_ret ⟨_, rfl, rfl, dX9_setting_71⟩ (Nat.zero_le _) (Nat.zero_le _) ?_
            exact xs_finM (σ' := (xs_fd σ 0)) hp (by simp only [xs_setting, xs_onE, xs_onP, xs_fn, xs_an, Bool.not_false, Bool.not_true, Bool.true_or, Bool.false_or, Bool.and_true, Bool.true_and, Bool.and_false, Bool.false_and, Bool.false_eq_true, if_true, if_false, ↓reduceIte, g_9, g_21, eq_false y29, eq_true (show w = 0 from by first | exact c_47 | exact Decidable.of_not_not c_47), xs_kk0 (k := kp) (by omega)] <;> rfl) _ (xs_Mx (σ' := (xs_fd σ 0)) hM hR (fa := (upd (upd (upd (upd (C 83) 0 0) 1 0) 2 (xs_set (σ 4 kp) (σ 5 kp 0)).2.1) 3 (xs_set (σ 4 kp) (σ 5 kp 0)).2.2)) p41 (fun j hj => (pk_un (by omega)).trans ((pk_un (by omega)).trans ((pk_un (by omega)).trans ((pk_un (by omega)).trans (rfl))))) q41 e41 ((Fh41 94 (by omega) (by omega)).trans (xs_M94 hM)) ((Fh41 95 (by omega) (by omega)).trans (xs_M95 hM)) ((Fh41 96 (by omega) (by omega)).trans (xs_M96 hM)) ((Fh41 97 (by omega) (by omega)).trans (xs_M97 hM)) ((Fh41 98 (by omega) (by omega)).trans (xs_M98 hM)) ((Fh41 99 (by omega) (by omega)).trans (xs_M99 hM)) (fun i i1 i2 i3 i4 => (Fh41 i (by omega) (by omega))) xs_fdo rfl) (fun i hi => (Fh41 i (by omega) (by omega)))
        · exact absurd (by decide) c_34
    · have g_21 : xs_i w 0 2 = false := decide_eq_false (xn_b0 c_21)
      refine xi_ldc (q := 26) dX9_setting_24 kc_X9_91 rfl ?_
      refine xi_ret ⟨_, rfl, rfl, dX9_setting_26⟩ (Nat.zero_le _) (Nat.zero_le _) ?_
      exact xs_finM (σ' := σ) hp (by simp only [xs_setting, xs_onE, xs_onP, xs_fn, xs_an, Bool.not_false, Bool.not_true, Bool.true_or, Bool.false_or, Bool.and_true, Bool.true_and, Bool.and_false, Bool.false_and, Bool.false_eq_true, if_true, if_false, ↓reduceIte, g_9, g_21, xs_kk0 (k := kp) (by omega)] <;> rfl) _ (xs_Mx (σ' := σ) hM hR (fa := (upd (C 83) 0 0)) ((va_up_self _ _ _).trans rfl) (fun j hj => (pk_un (by omega)).trans (rfl)) ((va_up_ne _ _ (by omega)).trans (xs_M88 hM)) (fun _ _ => rfl) ((va_up_ne _ _ (by omega)).trans (xs_M94 hM)) ((va_up_ne _ _ (by omega)).trans (xs_M95 hM)) ((va_up_ne _ _ (by omega)).trans (xs_M96 hM)) ((va_up_ne _ _ (by omega)).trans (xs_M97 hM)) ((va_up_ne _ _ (by omega)).trans (xs_M98 hM)) ((va_up_ne _ _ (by omega)).trans (xs_M99 hM)) (fun i i1 i2 i3 i4 => ((va_up_ne _ _ (by omega)).trans (Eq.refl _))) (fun _ _ _ => rfl) hR.2) (fun i hi => ((va_up_ne _ _ (by omega)).trans (Eq.refl _)))

set_option maxRecDepth 20000 in
set_option maxHeartbeats 2000000 in
/-- fire -/
theorem xm_X9_fire : xv_K yX9_fire mX9_fire (fun as h n Post => ∃ (σ : xs_Sg) (w : Int32), as = [.ref 83, .int w] ∧ (xs_Mo h σ) ∧ (103 < n) ∧ (xs_V σ) ∧ xs_DM h n Post (xs_fire σ w)) := by
  refine xv_entry (by decide +kernel) rfl (fun h => absurd h (by decide)) ?_
  rintro X _ h n Post ⟨σ, w, rfl, ⟨C, dk, hM, hR⟩, h103, hV, hp⟩
  refine ⟨Nat.le_of_ble_eq_true rfl, ?_⟩
  show xv_V X mX9_fire Post 0 0 0 [(0, .ref 83), (1, .int w)] [] h n
  refine xi_aload_n (q := 1) dX9_fire_0 rfl rfl ?_
  refine xi_iconst (x := 0) (q := 2) dX9_fire_1 (by decide) rfl ?_
  refine xi_putf (q := 5) dX9_fire_2 fl_X9_71 ⟨by omega, (xs_M83 hM)⟩ (Or.inl rfl) (fun _ => rfl) (fun _ => rfl) (Nat.le_of_ble_eq_true rfl) rfl ?_
  refine xi_iload_n (q := 6) dX9_fire_5 rfl rfl ?_
  refine xi_if_ne (q := 9) (q2 := 16) dX9_fire_6 (by decide) rfl (fun c_6 => ?_) (fun c_6 => ?_)
  · skip
    refine xi_iload_n (q := 17) dX9_fire_16 rfl rfl ?_
    refine xi_iconst (x := 1) (q := 18) dX9_fire_17 (by decide) rfl ?_
    refine xi_icmp_ne (q := 21) (q2 := 28) dX9_fire_18 (by decide) rfl (fun c_18 => ?_) (fun c_18 => ?_)
    · skip
      refine xi_iload_n (q := 29) dX9_fire_28 rfl rfl ?_
      refine xi_iconst (x := 2) (q := 30) dX9_fire_29 (by decide) rfl ?_
      refine xi_icmp_ne (q := 33) (q2 := 40) dX9_fire_30 (by decide) rfl (fun c_30 => ?_) (fun c_30 => ?_)
      · skip
        refine xi_iload_n (q := 41) dX9_fire_40 rfl rfl ?_
        refine xi_iconst (x := 3) (q := 42) dX9_fire_41 (by decide) rfl ?_
        refine xi_icmp_ne (q := 45) (q2 := 52) dX9_fire_42 (by decide) rfl (fun c_42 => ?_) (fun c_42 => ?_)
        · skip
          refine xi_iload_n (q := 53) dX9_fire_52 rfl rfl ?_
          refine xi_iconst (x := 4) (q := 54) dX9_fire_53 (by decide) rfl ?_
          refine xi_icmp_ne (q := 57) (q2 := 64) dX9_fire_54 (by decide) rfl (fun c_54 => ?_) (fun c_54 => ?_)
          · skip
            refine xi_iload_n (q := 65) dX9_fire_64 rfl rfl ?_
            refine xi_iconst (x := 5) (q := 66) dX9_fire_65 (by decide) rfl ?_
            refine xi_icmp_ne (q := 69) (q2 := 76) dX9_fire_66 (by decide) rfl (fun c_66 => ?_) (fun c_66 => ?_)
            · have gl : xs_i w 0 5 = false := by
                rw [← Bool.not_eq_true]
                intro z
                rcases xn_g05 z with e | e | e | e | e | e <;> first | exact c_6 e | exact c_18 e | exact c_30 e | exact c_42 e | exact c_54 e | exact c_66 e
              refine xi_ldc (q := 78) dX9_fire_76 kc_X9_91 rfl ?_
              refine xi_ret ⟨_, rfl, rfl, dX9_fire_78⟩ (Nat.zero_le _) (Nat.zero_le _) ?_
              exact xs_finM (σ' := σ) hp (by simp only [xs_fire, xs_onE, xs_onP, xs_fn, xs_an, Bool.not_false, Bool.not_true, Bool.true_or, Bool.false_or, Bool.and_true, Bool.true_and, Bool.and_false, Bool.false_and, Bool.false_eq_true, if_true, if_false, ↓reduceIte, gl] <;> rfl) _ (xs_Mx (σ' := σ) hM hR (fa := (upd (C 83) 0 0)) ((va_up_self _ _ _).trans rfl) (fun j hj => (pk_un (by omega)).trans (rfl)) ((va_up_ne _ _ (by omega)).trans (xs_M88 hM)) (fun _ _ => rfl) ((va_up_ne _ _ (by omega)).trans (xs_M94 hM)) ((va_up_ne _ _ (by omega)).trans (xs_M95 hM)) ((va_up_ne _ _ (by omega)).trans (xs_M96 hM)) ((va_up_ne _ _ (by omega)).trans (xs_M97 hM)) ((va_up_ne _ _ (by omega)).trans (xs_M98 hM)) ((va_up_ne _ _ (by omega)).trans (xs_M99 hM)) (fun i i1 i2 i3 i4 => ((va_up_ne _ _ (by omega)).trans (Eq.refl _))) (fun _ _ _ => rfl) hR.2) (fun i hi => ((va_up_ne _ _ (by omega)).trans (Eq.refl _)))
            · have hw66 : w = 5 := by first | exact c_66 | exact Decidable.of_not_not c_66
              subst hw66
              refine xi_aload_n (q := 70) dX9_fire_69 rfl rfl ?_
              refine xi_getf (q := 73) dX9_fire_70 fl_X9_250 (xv_self (by omega)) rfl rfl ?_
              refine xi_goto (q := 78) dX9_fire_73 (by decide) ?_
              refine xi_ret ⟨_, rfl, rfl, dX9_fire_78⟩ (Nat.zero_le _) (Nat.zero_le _) ?_
              exact xs_finM (σ' := σ) hp (by rw [show C 83 10 = σ 13 0 5 from hR.1.2.2.2.1.2 5 (by omega)]; simp only [xs_fire, xs_onE, xs_onP, xs_fn, xs_an, Bool.not_false, Bool.not_true, Bool.true_or, Bool.false_or, Bool.and_true, Bool.true_and, Bool.and_false, Bool.false_and, Bool.false_eq_true, if_true, if_false, ↓reduceIte, (show xs_i 5 0 5 = true from by decide), eq_false (show ¬ (5 : Int32) = 0 from by decide), eq_false (show ¬ (5 : Int32) = 1 from by decide), eq_false (show ¬ (5 : Int32) = 2 from by decide), eq_false (show ¬ (5 : Int32) = 3 from by decide), eq_false (show ¬ (5 : Int32) = 4 from by decide), eq_true (show (5 : Int32) = 5 from rfl)] <;> rfl) _ (xs_Mx (σ' := σ) hM hR (fa := (upd (C 83) 0 0)) ((va_up_self _ _ _).trans rfl) (fun j hj => (pk_un (by omega)).trans (rfl)) ((va_up_ne _ _ (by omega)).trans (xs_M88 hM)) (fun _ _ => rfl) ((va_up_ne _ _ (by omega)).trans (xs_M94 hM)) ((va_up_ne _ _ (by omega)).trans (xs_M95 hM)) ((va_up_ne _ _ (by omega)).trans (xs_M96 hM)) ((va_up_ne _ _ (by omega)).trans (xs_M97 hM)) ((va_up_ne _ _ (by omega)).trans (xs_M98 hM)) ((va_up_ne _ _ (by omega)).trans (xs_M99 hM)) (fun i i1 i2 i3 i4 => ((va_up_ne _ _ (by omega)).trans (Eq.refl _))) (fun _ _ _ => rfl) hR.2) (fun i hi => ((va_up_ne _ _ (by omega)).trans (Eq.refl _)))
          · have hw54 : w = 4 := by first | exact c_54 | exact Decidable.of_not_not c_54
            subst hw54
            refine xi_aload_n (q := 58) dX9_fire_57 rfl rfl ?_
            refine xi_getf (q := 61) dX9_fire_58 fl_X9_262 (xv_self (by omega)) rfl rfl ?_
            refine xi_goto (q := 78) dX9_fire_61 (by decide) ?_
            refine xi_ret ⟨_, rfl, rfl, dX9_fire_78⟩ (Nat.zero_le _) (Nat.zero_le _) ?_
            exact xs_finM (σ' := σ) hp (by rw [show C 83 9 = σ 13 0 4 from hR.1.2.2.2.1.2 4 (by omega)]; simp only [xs_fire, xs_onE, xs_onP, xs_fn, xs_an, Bool.not_false, Bool.not_true, Bool.true_or, Bool.false_or, Bool.and_true, Bool.true_and, Bool.and_false, Bool.false_and, Bool.false_eq_true, if_true, if_false, ↓reduceIte, (show xs_i 4 0 5 = true from by decide), eq_false (show ¬ (4 : Int32) = 0 from by decide), eq_false (show ¬ (4 : Int32) = 1 from by decide), eq_false (show ¬ (4 : Int32) = 2 from by decide), eq_false (show ¬ (4 : Int32) = 3 from by decide), eq_true (show (4 : Int32) = 4 from rfl)] <;> rfl) _ (xs_Mx (σ' := σ) hM hR (fa := (upd (C 83) 0 0)) ((va_up_self _ _ _).trans rfl) (fun j hj => (pk_un (by omega)).trans (rfl)) ((va_up_ne _ _ (by omega)).trans (xs_M88 hM)) (fun _ _ => rfl) ((va_up_ne _ _ (by omega)).trans (xs_M94 hM)) ((va_up_ne _ _ (by omega)).trans (xs_M95 hM)) ((va_up_ne _ _ (by omega)).trans (xs_M96 hM)) ((va_up_ne _ _ (by omega)).trans (xs_M97 hM)) ((va_up_ne _ _ (by omega)).trans (xs_M98 hM)) ((va_up_ne _ _ (by omega)).trans (xs_M99 hM)) (fun i i1 i2 i3 i4 => ((va_up_ne _ _ (by omega)).trans (Eq.refl _))) (fun _ _ _ => rfl) hR.2) (fun i hi => ((va_up_ne _ _ (by omega)).trans (Eq.refl _)))
        · have hw42 : w = 3 := by first | exact c_42 | exact Decidable.of_not_not c_42
          subst hw42
          refine xi_aload_n (q := 46) dX9_fire_45 rfl rfl ?_
          refine xi_getf (q := 49) dX9_fire_46 fl_X9_259 (xv_self (by omega)) rfl rfl ?_
          refine xi_goto (q := 78) dX9_fire_49 (by decide) ?_
          refine xi_ret ⟨_, rfl, rfl, dX9_fire_78⟩ (Nat.zero_le _) (Nat.zero_le _) ?_
          exact xs_finM (σ' := σ) hp (by rw [show C 83 8 = σ 13 0 3 from hR.1.2.2.2.1.2 3 (by omega)]; simp only [xs_fire, xs_onE, xs_onP, xs_fn, xs_an, Bool.not_false, Bool.not_true, Bool.true_or, Bool.false_or, Bool.and_true, Bool.true_and, Bool.and_false, Bool.false_and, Bool.false_eq_true, if_true, if_false, ↓reduceIte, (show xs_i 3 0 5 = true from by decide), eq_false (show ¬ (3 : Int32) = 0 from by decide), eq_false (show ¬ (3 : Int32) = 1 from by decide), eq_false (show ¬ (3 : Int32) = 2 from by decide), eq_true (show (3 : Int32) = 3 from rfl)] <;> rfl) _ (xs_Mx (σ' := σ) hM hR (fa := (upd (C 83) 0 0)) ((va_up_self _ _ _).trans rfl) (fun j hj => (pk_un (by omega)).trans (rfl)) ((va_up_ne _ _ (by omega)).trans (xs_M88 hM)) (fun _ _ => rfl) ((va_up_ne _ _ (by omega)).trans (xs_M94 hM)) ((va_up_ne _ _ (by omega)).trans (xs_M95 hM)) ((va_up_ne _ _ (by omega)).trans (xs_M96 hM)) ((va_up_ne _ _ (by omega)).trans (xs_M97 hM)) ((va_up_ne _ _ (by omega)).trans (xs_M98 hM)) ((va_up_ne _ _ (by omega)).trans (xs_M99 hM)) (fun i i1 i2 i3 i4 => ((va_up_ne _ _ (by omega)).trans (Eq.refl _))) (fun _ _ _ => rfl) hR.2) (fun i hi => ((va_up_ne _ _ (by omega)).trans (Eq.refl _)))
      · have hw30 : w = 2 := by first | exact c_30 | exact Decidable.of_not_not c_30
        subst hw30
        refine xi_aload_n (q := 34) dX9_fire_33 rfl rfl ?_
        refine xi_getf (q := 37) dX9_fire_34 fl_X9_253 (xv_self (by omega)) rfl rfl ?_
        refine xi_goto (q := 78) dX9_fire_37 (by decide) ?_
        refine xi_ret ⟨_, rfl, rfl, dX9_fire_78⟩ (Nat.zero_le _) (Nat.zero_le _) ?_
        exact xs_finM (σ' := σ) hp (by rw [show C 83 7 = σ 13 0 2 from hR.1.2.2.2.1.2 2 (by omega)]; simp only [xs_fire, xs_onE, xs_onP, xs_fn, xs_an, Bool.not_false, Bool.not_true, Bool.true_or, Bool.false_or, Bool.and_true, Bool.true_and, Bool.and_false, Bool.false_and, Bool.false_eq_true, if_true, if_false, ↓reduceIte, (show xs_i 2 0 5 = true from by decide), eq_false (show ¬ (2 : Int32) = 0 from by decide), eq_false (show ¬ (2 : Int32) = 1 from by decide), eq_true (show (2 : Int32) = 2 from rfl)] <;> rfl) _ (xs_Mx (σ' := σ) hM hR (fa := (upd (C 83) 0 0)) ((va_up_self _ _ _).trans rfl) (fun j hj => (pk_un (by omega)).trans (rfl)) ((va_up_ne _ _ (by omega)).trans (xs_M88 hM)) (fun _ _ => rfl) ((va_up_ne _ _ (by omega)).trans (xs_M94 hM)) ((va_up_ne _ _ (by omega)).trans (xs_M95 hM)) ((va_up_ne _ _ (by omega)).trans (xs_M96 hM)) ((va_up_ne _ _ (by omega)).trans (xs_M97 hM)) ((va_up_ne _ _ (by omega)).trans (xs_M98 hM)) ((va_up_ne _ _ (by omega)).trans (xs_M99 hM)) (fun i i1 i2 i3 i4 => ((va_up_ne _ _ (by omega)).trans (Eq.refl _))) (fun _ _ _ => rfl) hR.2) (fun i hi => ((va_up_ne _ _ (by omega)).trans (Eq.refl _)))
    · have hw18 : w = 1 := by first | exact c_18 | exact Decidable.of_not_not c_18
      subst hw18
      refine xi_aload_n (q := 22) dX9_fire_21 rfl rfl ?_
      refine xi_getf (q := 25) dX9_fire_22 fl_X9_246 (xv_self (by omega)) rfl rfl ?_
      refine xi_goto (q := 78) dX9_fire_25 (by decide) ?_
      refine xi_ret ⟨_, rfl, rfl, dX9_fire_78⟩ (Nat.zero_le _) (Nat.zero_le _) ?_
      exact xs_finM (σ' := σ) hp (by rw [show C 83 6 = σ 13 0 1 from hR.1.2.2.2.1.2 1 (by omega)]; simp only [xs_fire, xs_onE, xs_onP, xs_fn, xs_an, Bool.not_false, Bool.not_true, Bool.true_or, Bool.false_or, Bool.and_true, Bool.true_and, Bool.and_false, Bool.false_and, Bool.false_eq_true, if_true, if_false, ↓reduceIte, (show xs_i 1 0 5 = true from by decide), eq_false (show ¬ (1 : Int32) = 0 from by decide), eq_true (show (1 : Int32) = 1 from rfl)] <;> rfl) _ (xs_Mx (σ' := σ) hM hR (fa := (upd (C 83) 0 0)) ((va_up_self _ _ _).trans rfl) (fun j hj => (pk_un (by omega)).trans (rfl)) ((va_up_ne _ _ (by omega)).trans (xs_M88 hM)) (fun _ _ => rfl) ((va_up_ne _ _ (by omega)).trans (xs_M94 hM)) ((va_up_ne _ _ (by omega)).trans (xs_M95 hM)) ((va_up_ne _ _ (by omega)).trans (xs_M96 hM)) ((va_up_ne _ _ (by omega)).trans (xs_M97 hM)) ((va_up_ne _ _ (by omega)).trans (xs_M98 hM)) ((va_up_ne _ _ (by omega)).trans (xs_M99 hM)) (fun i i1 i2 i3 i4 => ((va_up_ne _ _ (by omega)).trans (Eq.refl _))) (fun _ _ _ => rfl) hR.2) (fun i hi => ((va_up_ne _ _ (by omega)).trans (Eq.refl _)))
  · have hw6 : w = 0 := by first | exact c_6 | exact Decidable.of_not_not c_6
    subst hw6
    refine xi_aload_n (q := 10) dX9_fire_9 rfl rfl ?_
    refine xi_getf (q := 13) dX9_fire_10 fl_X9_256 (xv_self (by omega)) rfl rfl ?_
    refine xi_goto (q := 78) dX9_fire_13 (by decide) ?_
    refine xi_ret ⟨_, rfl, rfl, dX9_fire_78⟩ (Nat.zero_le _) (Nat.zero_le _) ?_
    exact xs_finM (σ' := σ) hp (by rw [show C 83 5 = σ 13 0 0 from hR.1.2.2.2.1.2 0 (by omega)]; simp only [xs_fire, xs_onE, xs_onP, xs_fn, xs_an, Bool.not_false, Bool.not_true, Bool.true_or, Bool.false_or, Bool.and_true, Bool.true_and, Bool.and_false, Bool.false_and, Bool.false_eq_true, if_true, if_false, ↓reduceIte, (show xs_i 0 0 5 = true from by decide), eq_true (show (0 : Int32) = 0 from rfl)] <;> rfl) _ (xs_Mx (σ' := σ) hM hR (fa := (upd (C 83) 0 0)) ((va_up_self _ _ _).trans rfl) (fun j hj => (pk_un (by omega)).trans (rfl)) ((va_up_ne _ _ (by omega)).trans (xs_M88 hM)) (fun _ _ => rfl) ((va_up_ne _ _ (by omega)).trans (xs_M94 hM)) ((va_up_ne _ _ (by omega)).trans (xs_M95 hM)) ((va_up_ne _ _ (by omega)).trans (xs_M96 hM)) ((va_up_ne _ _ (by omega)).trans (xs_M97 hM)) ((va_up_ne _ _ (by omega)).trans (xs_M98 hM)) ((va_up_ne _ _ (by omega)).trans (xs_M99 hM)) (fun i i1 i2 i3 i4 => ((va_up_ne _ _ (by omega)).trans (Eq.refl _))) (fun _ _ _ => rfl) hR.2) (fun i hi => ((va_up_ne _ _ (by omega)).trans (Eq.refl _)))

set_option maxRecDepth 20000 in
set_option maxHeartbeats 2000000 in
/-- trace -/
theorem xm_X9_trace : xv_K yX9_trace mX9_trace (fun as h n Post => ∃ (σ : xs_Sg) (i : Int32), as = [.ref 83, .int i] ∧ (xs_Mo h σ) ∧ (103 < n) ∧ (xs_V σ) ∧ xs_DM h n Post (xs_trace σ i)) := by
  refine xv_entry (by decide +kernel) rfl (fun h => absurd h (by decide)) ?_
  rintro X _ h n Post ⟨σ, i, rfl, ⟨C, dk, hM, hR⟩, h103, hV, hp⟩
  refine ⟨Nat.le_of_ble_eq_true rfl, ?_⟩
  show xv_V X mX9_trace Post 0 0 0 [(0, .ref 83), (1, .int i)] [] h n
  refine xi_aload_n (q := 1) dX9_trace_0 rfl rfl ?_
  refine xi_iconst (x := 0) (q := 2) dX9_trace_1 (by decide) rfl ?_
  refine xi_putf (q := 5) dX9_trace_2 fl_X9_71 ⟨by omega, (xs_M83 hM)⟩ (Or.inl rfl) (fun _ => rfl) (fun _ => rfl) (Nat.le_of_ble_eq_true rfl) rfl ?_
  refine xi_iload_n (q := 6) dX9_trace_5 rfl rfl ?_
  refine xi_i2l (q := 7) dX9_trace_6 rfl ?_
  refine xi_lconst (x := 0) (q := 8) dX9_trace_7 (by decide) rfl ?_
  refine xi_aload_n (q := 9) dX9_trace_8 rfl rfl ?_
  refine xi_getf (q := 12) dX9_trace_9 fl_X9_271 (xv_self (by omega)) rfl rfl ?_
  refine xi_iconst (x := 1) (q := 13) dX9_trace_12 (by decide) rfl ?_
  refine xi_isub (q := 14) dX9_trace_13 rfl ?_
  refine xi_i2l (q := 15) dX9_trace_14 rfl ?_
  refine xv_cS3 (q := 18) xm_X9_in ln_X9_81 dX9_trace_15 ⟨(Nat.le_of_ble_eq_true rfl), (Nat.le_of_ble_eq_true rfl)⟩ (Nat.le_of_ble_eq_true rfl) ⟨rfl, rfl⟩ rfl (Nat.zero_le _) (Nat.zero_le _) ?_
  refine ⟨i, 0, C 83 11 - 1, rfl, ?_⟩
  refine xi_if_eq (q := 21) (q2 := 30) dX9_trace_18 (by decide) rfl (fun c_18 => ?_) (fun c_18 => ?_)
  · have g_18 : xs_i i 0 (σ 14 0 0 - 1) = false := by rw [← hR.1.2.2.2.1.1.1]; exact decide_eq_false (xn_b0 c_18)
    refine xi_ldc (q := 32) dX9_trace_30 kc_X9_158 rfl ?_
    refine xi_ret ⟨_, rfl, rfl, dX9_trace_32⟩ (Nat.zero_le _) (Nat.zero_le _) ?_
    exact xs_finM (σ' := σ) hp (by simp only [xs_trace, xs_onE, xs_onP, xs_fn, xs_an, Bool.not_false, Bool.not_true, Bool.true_or, Bool.false_or, Bool.and_true, Bool.true_and, Bool.and_false, Bool.false_and, Bool.false_eq_true, if_true, if_false, ↓reduceIte, g_18] <;> rfl) _ (xs_Mx (σ' := σ) hM hR (fa := (upd (C 83) 0 0)) ((va_up_self _ _ _).trans rfl) (fun j hj => (pk_un (by omega)).trans (rfl)) ((va_up_ne _ _ (by omega)).trans (xs_M88 hM)) (fun _ _ => rfl) ((va_up_ne _ _ (by omega)).trans (xs_M94 hM)) ((va_up_ne _ _ (by omega)).trans (xs_M95 hM)) ((va_up_ne _ _ (by omega)).trans (xs_M96 hM)) ((va_up_ne _ _ (by omega)).trans (xs_M97 hM)) ((va_up_ne _ _ (by omega)).trans (xs_M98 hM)) ((va_up_ne _ _ (by omega)).trans (xs_M99 hM)) (fun i i1 i2 i3 i4 => ((va_up_ne _ _ (by omega)).trans (Eq.refl _))) (fun _ _ _ => rfl) hR.2) (fun i hi => ((va_up_ne _ _ (by omega)).trans (Eq.refl _)))
  · obtain ⟨N, hN, eN⟩ := hV.2.2.2.2.2.2.2.1
    have g_18 : xs_i i 0 (σ 14 0 0 - 1) = true := by rw [← hR.1.2.2.2.1.1.1]; exact decide_eq_true (xn_b1 c_18)
    have eN2 : C 83 11 = nI N := hR.1.2.2.2.1.1.1.trans eN
    obtain ⟨ki, hki, rfl⟩ := xn_ltN (N := N) (by omega) (by rw [← eN2]; exact xn_b1 c_18)
    refine xi_aload_n (q := 22) dX9_trace_21 rfl rfl ?_
    refine xi_getf (q := 25) dX9_trace_22 fl_X9_68 (xv_self (by omega)) rfl rfl ?_
    refine xi_iload_n (q := 26) dX9_trace_25 rfl rfl ?_
    refine xi_iald (q := 27) dX9_trace_26 (xv_keep (by omega) ⟨by omega, (xs_M103 hM)⟩) (xv_ixN (by omega) (by omega)) rfl ?_
    refine xi_goto (q := 32) dX9_trace_27 (by decide) ?_
    refine xi_ret ⟨_, rfl, rfl, dX9_trace_32⟩ (Nat.zero_le _) (Nat.zero_le _) ?_
    exact xs_finM (σ' := σ) hp (by rw [show C 103 ki = σ 15 0 ki from hR.1.2.2.2.1.1.2 ki (by omega)]; simp only [xs_trace, xs_onE, xs_onP, xs_fn, xs_an, Bool.not_false, Bool.not_true, Bool.true_or, Bool.false_or, Bool.and_true, Bool.true_and, Bool.and_false, Bool.false_and, Bool.false_eq_true, if_true, if_false, ↓reduceIte, g_18, xs_kk0 (k := ki) (by omega)] <;> rfl) _ (xs_Mx (σ' := σ) hM hR (fa := (upd (C 83) 0 0)) ((va_up_self _ _ _).trans rfl) (fun j hj => (pk_un (by omega)).trans (rfl)) ((va_up_ne _ _ (by omega)).trans (xs_M88 hM)) (fun _ _ => rfl) ((va_up_ne _ _ (by omega)).trans (xs_M94 hM)) ((va_up_ne _ _ (by omega)).trans (xs_M95 hM)) ((va_up_ne _ _ (by omega)).trans (xs_M96 hM)) ((va_up_ne _ _ (by omega)).trans (xs_M97 hM)) ((va_up_ne _ _ (by omega)).trans (xs_M98 hM)) ((va_up_ne _ _ (by omega)).trans (xs_M99 hM)) (fun i i1 i2 i3 i4 => ((va_up_ne _ _ (by omega)).trans (Eq.refl _))) (fun _ _ _ => rfl) hR.2) (fun i hi => ((va_up_ne _ _ (by omega)).trans (Eq.refl _)))

set_option maxRecDepth 20000 in
set_option maxHeartbeats 2000000 in
/-- plan -/
theorem xm_X9_plan : xv_K yX9_plan mX9_plan (fun as h n Post => ∃ (σ : xs_Sg) (i : Int32) (w : Int32), as = [.ref 83, .int i, .int w] ∧ (xs_Mo h σ) ∧ (103 < n) ∧ (xs_V σ) ∧ xs_DM h n Post (xs_plan σ i w)) := by
  refine xv_entry (by decide +kernel) rfl (fun h => absurd h (by decide)) ?_
  rintro X _ h n Post ⟨σ, i, w, rfl, ⟨C, dk, hM, hR⟩, h103, hV, hp⟩
  refine ⟨Nat.le_of_ble_eq_true rfl, ?_⟩
  show xv_V X mX9_plan Post 0 0 0 [(0, .ref 83), (1, .int i), (2, .int w)] [] h n
  refine xi_aload_n (q := 1) dX9_plan_0 rfl rfl ?_
  refine xi_iconst (x := 0) (q := 2) dX9_plan_1 (by decide) rfl ?_
  refine xi_putf (q := 5) dX9_plan_2 fl_X9_71 ⟨by omega, (xs_M83 hM)⟩ (Or.inl rfl) (fun _ => rfl) (fun _ => rfl) (Nat.le_of_ble_eq_true rfl) rfl ?_
  refine xi_iload_n (q := 6) dX9_plan_5 rfl rfl ?_
  refine xi_i2l (q := 7) dX9_plan_6 rfl ?_
  refine xi_lconst (x := 0) (q := 8) dX9_plan_7 (by decide) rfl ?_
  refine xi_ldc2 (q := 11) dX9_plan_8 kc_X9_174 rfl ?_
  refine xv_cS3 (q := 14) xm_X9_in ln_X9_81 dX9_plan_11 ⟨(Nat.le_of_ble_eq_true rfl), (Nat.le_of_ble_eq_true rfl)⟩ (Nat.le_of_ble_eq_true rfl) ⟨rfl, rfl⟩ rfl (Nat.zero_le _) (Nat.zero_le _) ?_
  refine ⟨w, 0, 3, rfl, ?_⟩
  refine xi_if_ne (q := 17) (q2 := 20) dX9_plan_14 (by decide) rfl (fun c_14 => ?_) (fun c_14 => ?_)
  · have g_14 : xs_i w 0 3 = true := decide_eq_true (xn_b1 c_14)
    refine xi_aload_n (q := 21) dX9_plan_20 rfl rfl ?_
    refine xi_getf (q := 24) dX9_plan_21 fl_X9_243 (xv_self (by omega)) rfl rfl ?_
    refine xi_if_ne (q := 27) (q2 := 30) dX9_plan_24 (by decide) rfl (fun c_24 => ?_) (fun c_24 => ?_)
    · have y24 : ¬ σ 11 0 0 = 0 := fun e => c_24 (hR.1.2.2.2.2.1.trans e)
      refine xi_iload_n (q := 31) dX9_plan_30 rfl rfl ?_
      refine xi_i2l (q := 32) dX9_plan_31 rfl ?_
      refine xi_lconst (x := 0) (q := 33) dX9_plan_32 (by decide) rfl ?_
      refine xi_aload_n (q := 34) dX9_plan_33 rfl rfl ?_
      refine xi_getf (q := 37) dX9_plan_34 fl_X9_243 (xv_self (by omega)) rfl rfl ?_
      refine xi_iconst (x := 1) (q := 38) dX9_plan_37 (by decide) rfl ?_
      refine xi_isub (q := 39) dX9_plan_38 rfl ?_
      refine xi_i2l (q := 40) dX9_plan_39 rfl ?_
      refine xv_cS3 (q := 43) xm_X9_in ln_X9_81 dX9_plan_40 ⟨(Nat.le_of_ble_eq_true rfl), (Nat.le_of_ble_eq_true rfl)⟩ (Nat.le_of_ble_eq_true rfl) ⟨rfl, rfl⟩ rfl (Nat.zero_le _) (Nat.zero_le _) ?_
      refine ⟨i, 0, C 83 4 - 1, rfl, ?_⟩
      refine xi_if_ne (q := 46) (q2 := 49) dX9_plan_43 (by decide) rfl (fun c_43 => ?_) (fun c_43 => ?_)
      · obtain ⟨N, hN, eN⟩ := hV.2.2.2.2.2.2.1
        have g_43 : xs_i i 0 (σ 11 0 0 - 1) = true := by rw [← hR.1.2.2.2.2.1]; exact decide_eq_true (xn_b1 c_43)
        have eN2 : C 83 4 = nI N := hR.1.2.2.2.2.1.trans eN
        obtain ⟨ki, hki, rfl⟩ := xn_ltN (N := N) (by omega) (by rw [← eN2]; exact xn_b1 c_43)
        obtain ⟨⟨pa, pb⟩, pc, pd, pe, pf⟩ := hR.1.2.2.2.2.2 ki (by rw [eN, xn_NI (by omega)]; omega) (by omega)
        refine xi_iload_n (q := 50) dX9_plan_49 rfl rfl ?_
        refine xi_if_ne (q := 53) (q2 := 66) dX9_plan_50 (by decide) rfl (fun c_50 => ?_) (fun c_50 => ?_)
        · skip
          refine xi_iload_n (q := 67) dX9_plan_66 rfl rfl ?_
          refine xi_iconst (x := 1) (q := 68) dX9_plan_67 (by decide) rfl ?_
          refine xi_icmp_ne (q := 71) (q2 := 84) dX9_plan_68 (by decide) rfl (fun c_68 => ?_) (fun c_68 => ?_)
          · skip
            refine xi_iload_n (q := 85) dX9_plan_84 rfl rfl ?_
            refine xi_iconst (x := 2) (q := 86) dX9_plan_85 (by decide) rfl ?_
            refine xi_icmp_ne (q := 89) (q2 := 98) dX9_plan_86 (by decide) rfl (fun c_86 => ?_) (fun c_86 => ?_)
            · have hw3 : w = 3 := by
                rcases xn_g03 g_14 with e | e | e | e <;> first | exact e | exact absurd e c_50 | exact absurd e c_68 | exact absurd e c_86
              subst hw3
              refine xi_aload_n (q := 99) dX9_plan_98 rfl rfl ?_
              refine xi_getf (q := 102) dX9_plan_99 fl_X9_65 (xv_self (by omega)) rfl rfl ?_
              refine xi_iload_n (q := 103) dX9_plan_102 rfl rfl ?_
              refine xi_iald (q := 104) dX9_plan_103 (xv_keep (by omega) ⟨by omega, (xs_M102 hM)⟩) (xv_ixN (by omega) (by omega)) rfl ?_
              refine xi_ret ⟨_, rfl, rfl, dX9_plan_104⟩ (Nat.zero_le _) (Nat.zero_le _) ?_
              exact xs_finM (σ' := σ) hp (by rw [← pf]; simp only [xs_plan, xs_onE, xs_onP, xs_fn, xs_an, Bool.not_false, Bool.not_true, Bool.true_or, Bool.false_or, Bool.and_true, Bool.true_and, Bool.and_false, Bool.false_and, Bool.false_eq_true, if_true, if_false, ↓reduceIte, (show xs_i 3 0 3 = true from by decide), eq_false y24, g_43, (show (4 * nI ki + 3 : Int32).toNatClampNeg = 4 * ki + 3 from by rw [show (4 * nI ki : Int32) = nI (4 * ki) from pk_mul 4 ki, show nI (4 * ki) + 3 = nI (4 * ki + 3) from nI_add _ _]; exact nI_clamp (by omega))] <;> rfl) _ (xs_Mx (σ' := σ) hM hR (fa := (upd (C 83) 0 0)) ((va_up_self _ _ _).trans rfl) (fun j hj => (pk_un (by omega)).trans (rfl)) ((va_up_ne _ _ (by omega)).trans (xs_M88 hM)) (fun _ _ => rfl) ((va_up_ne _ _ (by omega)).trans (xs_M94 hM)) ((va_up_ne _ _ (by omega)).trans (xs_M95 hM)) ((va_up_ne _ _ (by omega)).trans (xs_M96 hM)) ((va_up_ne _ _ (by omega)).trans (xs_M97 hM)) ((va_up_ne _ _ (by omega)).trans (xs_M98 hM)) ((va_up_ne _ _ (by omega)).trans (xs_M99 hM)) (fun i i1 i2 i3 i4 => ((va_up_ne _ _ (by omega)).trans (Eq.refl _))) (fun _ _ _ => rfl) hR.2) (fun i hi => ((va_up_ne _ _ (by omega)).trans (Eq.refl _)))
            · have hw86 : w = 2 := by first | exact c_86 | exact Decidable.of_not_not c_86
              subst hw86
              refine xi_aload_n (q := 90) dX9_plan_89 rfl rfl ?_
              refine xi_getf (q := 93) dX9_plan_90 fl_X9_62 (xv_self (by omega)) rfl rfl ?_
              refine xi_iload_n (q := 94) dX9_plan_93 rfl rfl ?_
              refine xi_iald (q := 95) dX9_plan_94 (xv_keep (by omega) ⟨by omega, (xs_M101 hM)⟩) (xv_ixN (by omega) (by omega)) rfl ?_
              refine xi_goto (q := 104) dX9_plan_95 (by decide) ?_
              refine xi_ret ⟨_, rfl, rfl, dX9_plan_104⟩ (Nat.zero_le _) (Nat.zero_le _) ?_
              exact xs_finM (σ' := σ) hp (by rw [← pe]; simp only [xs_plan, xs_onE, xs_onP, xs_fn, xs_an, Bool.not_false, Bool.not_true, Bool.true_or, Bool.false_or, Bool.and_true, Bool.true_and, Bool.and_false, Bool.false_and, Bool.false_eq_true, if_true, if_false, ↓reduceIte, (show xs_i 2 0 3 = true from by decide), eq_false y24, g_43, (show (4 * nI ki + 2 : Int32).toNatClampNeg = 4 * ki + 2 from by rw [show (4 * nI ki : Int32) = nI (4 * ki) from pk_mul 4 ki, show nI (4 * ki) + 2 = nI (4 * ki + 2) from nI_add _ _]; exact nI_clamp (by omega))] <;> rfl) _ (xs_Mx (σ' := σ) hM hR (fa := (upd (C 83) 0 0)) ((va_up_self _ _ _).trans rfl) (fun j hj => (pk_un (by omega)).trans (rfl)) ((va_up_ne _ _ (by omega)).trans (xs_M88 hM)) (fun _ _ => rfl) ((va_up_ne _ _ (by omega)).trans (xs_M94 hM)) ((va_up_ne _ _ (by omega)).trans (xs_M95 hM)) ((va_up_ne _ _ (by omega)).trans (xs_M96 hM)) ((va_up_ne _ _ (by omega)).trans (xs_M97 hM)) ((va_up_ne _ _ (by omega)).trans (xs_M98 hM)) ((va_up_ne _ _ (by omega)).trans (xs_M99 hM)) (fun i i1 i2 i3 i4 => ((va_up_ne _ _ (by omega)).trans (Eq.refl _))) (fun _ _ _ => rfl) hR.2) (fun i hi => ((va_up_ne _ _ (by omega)).trans (Eq.refl _)))
          · have hw68 : w = 1 := by first | exact c_68 | exact Decidable.of_not_not c_68
            subst hw68
            refine xi_iconst (x := 1) (q := 72) dX9_plan_71 (by decide) rfl ?_
            refine xi_aload_n (q := 73) dX9_plan_72 rfl rfl ?_
            refine xi_getf (q := 76) dX9_plan_73 fl_X9_59 (xv_self (by omega)) rfl rfl ?_
            refine xi_iload_n (q := 77) dX9_plan_76 rfl rfl ?_
            refine xi_iald (q := 78) dX9_plan_77 (xv_keep (by omega) ⟨by omega, (xs_M100 hM)⟩) (xv_ixN (by omega) (by omega)) rfl ?_
            refine xi_iconst (x := 4) (q := 79) dX9_plan_78 (by decide) rfl ?_
            refine xi_irem (q := 80) dX9_plan_79 (by decide) rfl ?_
            refine xi_iadd (q := 81) dX9_plan_80 rfl ?_
            refine xi_goto (q := 104) dX9_plan_81 (by decide) ?_
            refine xi_ret ⟨_, rfl, rfl, dX9_plan_104⟩ (Nat.zero_le _) (Nat.zero_le _) ?_
            exact xs_finM (σ' := σ) hp (by rw [show (1 + (C 100 ki - C 100 ki / 4 * 4)) = σ 12 0 (4 * ki + 1) from pd.symm]; simp only [xs_plan, xs_onE, xs_onP, xs_fn, xs_an, Bool.not_false, Bool.not_true, Bool.true_or, Bool.false_or, Bool.and_true, Bool.true_and, Bool.and_false, Bool.false_and, Bool.false_eq_true, if_true, if_false, ↓reduceIte, (show xs_i 1 0 3 = true from by decide), eq_false y24, g_43, (show (4 * nI ki + 1 : Int32).toNatClampNeg = 4 * ki + 1 from by rw [show (4 * nI ki : Int32) = nI (4 * ki) from pk_mul 4 ki, show nI (4 * ki) + 1 = nI (4 * ki + 1) from nI_add _ _]; exact nI_clamp (by omega))] <;> rfl) _ (xs_Mx (σ' := σ) hM hR (fa := (upd (C 83) 0 0)) ((va_up_self _ _ _).trans rfl) (fun j hj => (pk_un (by omega)).trans (rfl)) ((va_up_ne _ _ (by omega)).trans (xs_M88 hM)) (fun _ _ => rfl) ((va_up_ne _ _ (by omega)).trans (xs_M94 hM)) ((va_up_ne _ _ (by omega)).trans (xs_M95 hM)) ((va_up_ne _ _ (by omega)).trans (xs_M96 hM)) ((va_up_ne _ _ (by omega)).trans (xs_M97 hM)) ((va_up_ne _ _ (by omega)).trans (xs_M98 hM)) ((va_up_ne _ _ (by omega)).trans (xs_M99 hM)) (fun i i1 i2 i3 i4 => ((va_up_ne _ _ (by omega)).trans (Eq.refl _))) (fun _ _ _ => rfl) hR.2) (fun i hi => ((va_up_ne _ _ (by omega)).trans (Eq.refl _)))
        · have hw50 : w = 0 := by first | exact c_50 | exact Decidable.of_not_not c_50
          subst hw50
          refine xi_iconst (x := 1) (q := 54) dX9_plan_53 (by decide) rfl ?_
          refine xi_aload_n (q := 55) dX9_plan_54 rfl rfl ?_
          refine xi_getf (q := 58) dX9_plan_55 fl_X9_59 (xv_self (by omega)) rfl rfl ?_
          refine xi_iload_n (q := 59) dX9_plan_58 rfl rfl ?_
          refine xi_iald (q := 60) dX9_plan_59 (xv_keep (by omega) ⟨by omega, (xs_M100 hM)⟩) (xv_ixN (by omega) (by omega)) rfl ?_
          refine xi_iconst (x := 4) (q := 61) dX9_plan_60 (by decide) rfl ?_
          refine xi_idiv (q := 62) dX9_plan_61 (by decide) rfl ?_
          refine xi_iadd (q := 63) dX9_plan_62 rfl ?_
          refine xi_goto (q := 104) dX9_plan_63 (by decide) ?_
          refine xi_ret ⟨_, rfl, rfl, dX9_plan_104⟩ (Nat.zero_le _) (Nat.zero_le _) ?_
          exact xs_finM (σ' := σ) hp (by rw [← pc]; simp only [xs_plan, xs_onE, xs_onP, xs_fn, xs_an, Bool.not_false, Bool.not_true, Bool.true_or, Bool.false_or, Bool.and_true, Bool.true_and, Bool.and_false, Bool.false_and, Bool.false_eq_true, if_true, if_false, ↓reduceIte, (show xs_i 0 0 3 = true from by decide), eq_false y24, g_43, (show (4 * nI ki + 0 : Int32).toNatClampNeg = 4 * ki from by rw [show (4 * nI ki : Int32) = nI (4 * ki) from pk_mul 4 ki, show nI (4 * ki) + 0 = nI (4 * ki + 0) from nI_add _ _]; exact nI_clamp (by omega))] <;> rfl) _ (xs_Mx (σ' := σ) hM hR (fa := (upd (C 83) 0 0)) ((va_up_self _ _ _).trans rfl) (fun j hj => (pk_un (by omega)).trans (rfl)) ((va_up_ne _ _ (by omega)).trans (xs_M88 hM)) (fun _ _ => rfl) ((va_up_ne _ _ (by omega)).trans (xs_M94 hM)) ((va_up_ne _ _ (by omega)).trans (xs_M95 hM)) ((va_up_ne _ _ (by omega)).trans (xs_M96 hM)) ((va_up_ne _ _ (by omega)).trans (xs_M97 hM)) ((va_up_ne _ _ (by omega)).trans (xs_M98 hM)) ((va_up_ne _ _ (by omega)).trans (xs_M99 hM)) (fun i i1 i2 i3 i4 => ((va_up_ne _ _ (by omega)).trans (Eq.refl _))) (fun _ _ _ => rfl) hR.2) (fun i hi => ((va_up_ne _ _ (by omega)).trans (Eq.refl _)))
      · have g_43 : xs_i i 0 (σ 11 0 0 - 1) = false := by rw [← hR.1.2.2.2.2.1]; exact decide_eq_false (xn_b0 c_43)
        refine xi_ldc (q := 48) dX9_plan_46 kc_X9_158 rfl ?_
        refine xi_ret ⟨_, rfl, rfl, dX9_plan_48⟩ (Nat.zero_le _) (Nat.zero_le _) ?_
        exact xs_finM (σ' := σ) hp (by simp only [xs_plan, xs_onE, xs_onP, xs_fn, xs_an, Bool.not_false, Bool.not_true, Bool.true_or, Bool.false_or, Bool.and_true, Bool.true_and, Bool.and_false, Bool.false_and, Bool.false_eq_true, if_true, if_false, ↓reduceIte, g_14, eq_false y24, g_43] <;> rfl) _ (xs_Mx (σ' := σ) hM hR (fa := (upd (C 83) 0 0)) ((va_up_self _ _ _).trans rfl) (fun j hj => (pk_un (by omega)).trans (rfl)) ((va_up_ne _ _ (by omega)).trans (xs_M88 hM)) (fun _ _ => rfl) ((va_up_ne _ _ (by omega)).trans (xs_M94 hM)) ((va_up_ne _ _ (by omega)).trans (xs_M95 hM)) ((va_up_ne _ _ (by omega)).trans (xs_M96 hM)) ((va_up_ne _ _ (by omega)).trans (xs_M97 hM)) ((va_up_ne _ _ (by omega)).trans (xs_M98 hM)) ((va_up_ne _ _ (by omega)).trans (xs_M99 hM)) (fun i i1 i2 i3 i4 => ((va_up_ne _ _ (by omega)).trans (Eq.refl _))) (fun _ _ _ => rfl) hR.2) (fun i hi => ((va_up_ne _ _ (by omega)).trans (Eq.refl _)))
    · have y24 : σ 11 0 0 = 0 := hR.1.2.2.2.2.1.symm.trans (by first | exact c_24 | exact Decidable.of_not_not c_24)
      refine xi_ldc (q := 29) dX9_plan_27 kc_X9_237 rfl ?_
      refine xi_ret ⟨_, rfl, rfl, dX9_plan_29⟩ (Nat.zero_le _) (Nat.zero_le _) ?_
      exact xs_finM (σ' := σ) hp (by simp only [xs_plan, xs_onE, xs_onP, xs_fn, xs_an, Bool.not_false, Bool.not_true, Bool.true_or, Bool.false_or, Bool.and_true, Bool.true_and, Bool.and_false, Bool.false_and, Bool.false_eq_true, if_true, if_false, ↓reduceIte, g_14, eq_true y24] <;> rfl) _ (xs_Mx (σ' := σ) hM hR (fa := (upd (C 83) 0 0)) ((va_up_self _ _ _).trans rfl) (fun j hj => (pk_un (by omega)).trans (rfl)) ((va_up_ne _ _ (by omega)).trans (xs_M88 hM)) (fun _ _ => rfl) ((va_up_ne _ _ (by omega)).trans (xs_M94 hM)) ((va_up_ne _ _ (by omega)).trans (xs_M95 hM)) ((va_up_ne _ _ (by omega)).trans (xs_M96 hM)) ((va_up_ne _ _ (by omega)).trans (xs_M97 hM)) ((va_up_ne _ _ (by omega)).trans (xs_M98 hM)) ((va_up_ne _ _ (by omega)).trans (xs_M99 hM)) (fun i i1 i2 i3 i4 => ((va_up_ne _ _ (by omega)).trans (Eq.refl _))) (fun _ _ _ => rfl) hR.2) (fun i hi => ((va_up_ne _ _ (by omega)).trans (Eq.refl _)))
  · have g_14 : xs_i w 0 3 = false := decide_eq_false (xn_b0 c_14)
    refine xi_ldc (q := 19) dX9_plan_17 kc_X9_91 rfl ?_
    refine xi_ret ⟨_, rfl, rfl, dX9_plan_19⟩ (Nat.zero_le _) (Nat.zero_le _) ?_
    exact xs_finM (σ' := σ) hp (by simp only [xs_plan, xs_onE, xs_onP, xs_fn, xs_an, Bool.not_false, Bool.not_true, Bool.true_or, Bool.false_or, Bool.and_true, Bool.true_and, Bool.and_false, Bool.false_and, Bool.false_eq_true, if_true, if_false, ↓reduceIte, g_14] <;> rfl) _ (xs_Mx (σ' := σ) hM hR (fa := (upd (C 83) 0 0)) ((va_up_self _ _ _).trans rfl) (fun j hj => (pk_un (by omega)).trans (rfl)) ((va_up_ne _ _ (by omega)).trans (xs_M88 hM)) (fun _ _ => rfl) ((va_up_ne _ _ (by omega)).trans (xs_M94 hM)) ((va_up_ne _ _ (by omega)).trans (xs_M95 hM)) ((va_up_ne _ _ (by omega)).trans (xs_M96 hM)) ((va_up_ne _ _ (by omega)).trans (xs_M97 hM)) ((va_up_ne _ _ (by omega)).trans (xs_M98 hM)) ((va_up_ne _ _ (by omega)).trans (xs_M99 hM)) (fun i i1 i2 i3 i4 => ((va_up_ne _ _ (by omega)).trans (Eq.refl _))) (fun _ _ _ => rfl) hR.2) (fun i hi => ((va_up_ne _ _ (by omega)).trans (Eq.refl _)))

