def xs_dw (a r : Nat) : Int32 := if r = 0 then nI a else nI a - nI r
theorem xn_dw (a r : Nat) : xs_dw a r = nI a - nI r := by
  unfold xs_dw
  by_cases z : r = 0
  · rw [if_pos z, z]
    exact (Int32.sub_zero _).symm
  · rw [if_neg z]
set_option maxRecDepth 20000 in
set_option maxHeartbeats 2000000 in
/-- run -/
theorem xm_X9_run : xv_K yX9_run mX9_run (fun as h n Post => ∃ (σ : xs_Sg) (p : Int32) (b : Int32) (w : Int32) (s : Int32) (i : Int32) (q : Int32), as = [.ref 83, .int p, .int b, .int w, .int s, .int i, .int q] ∧ (xs_Mo h σ) ∧ (103 < n) ∧ (xs_V σ) ∧ xs_DM h n Post (xs_run σ p b w s i q)) := by
  refine xv_entry (by decide +kernel) rfl (fun h => absurd h (by decide)) ?_
  rintro X _ h n Post ⟨σ, p, b, w, s, i, q, rfl, ⟨C, dk, hM, hR⟩, h103, hV, hp⟩
  refine ⟨Nat.le_of_ble_eq_true rfl, ?_⟩
  show xv_V X mX9_run Post 0 0 0 [(0, .ref 83), (1, .int p), (2, .int b), (3, .int w), (4, .int s), (5, .int i), (6, .int q)] [] h n
  refine xi_aload_n (q := 1) dX9_run_0 rfl rfl ?_
  refine xi_iconst (x := 0) (q := 2) dX9_run_1 (by decide) rfl ?_
  refine xi_putf (q := 5) dX9_run_2 fl_X9_71 ⟨by omega, (xs_M83 hM)⟩ (Or.inl rfl) (fun _ => rfl) (fun _ => rfl) (Nat.le_of_ble_eq_true rfl) rfl ?_
  refine xi_iload_n (q := 6) dX9_run_5 rfl rfl ?_
  refine xv_cS1 (q := 9) xm_X9_isPlace ln_X9_116 dX9_run_6 ⟨(Nat.le_of_ble_eq_true rfl), (Nat.le_of_ble_eq_true rfl)⟩ (Nat.le_of_ble_eq_true rfl) ⟨rfl, rfl⟩ rfl (Nat.zero_le _) (Nat.zero_le _) ?_
  refine ⟨_, rfl, ?_⟩
  refine xi_if_eq (q := 12) (q2 := 57) dX9_run_9 (by decide) rfl (fun c_9 => ?_) (fun c_9 => ?_)
  · have g_9 : xs_i p 0 5 = false := decide_eq_false (xn_b0 c_9)
    refine xi_ldc (q := 59) dX9_run_57 kc_X9_91 rfl ?_
    refine xi_ret ⟨_, rfl, rfl, dX9_run_59⟩ (Nat.zero_le _) (Nat.zero_le _) ?_
    exact xs_finM (σ' := σ) hp (by simp only [xs_run, xs_onE, xs_onP, xs_fn, xs_an, Bool.not_false, Bool.not_true, Bool.true_or, Bool.false_or, Bool.and_true, Bool.true_and, Bool.and_false, Bool.false_and, Bool.false_eq_true, if_true, if_false, ↓reduceIte, g_9] <;> rfl) _ (xs_Mx (σ' := σ) hM hR (fa := (upd (C 83) 0 0)) ((va_up_self _ _ _).trans rfl) (fun j hj => (pk_un (by omega)).trans (rfl)) ((va_up_ne _ _ (by omega)).trans (xs_M88 hM)) (fun _ _ => rfl) ((va_up_ne _ _ (by omega)).trans (xs_M94 hM)) ((va_up_ne _ _ (by omega)).trans (xs_M95 hM)) ((va_up_ne _ _ (by omega)).trans (xs_M96 hM)) ((va_up_ne _ _ (by omega)).trans (xs_M97 hM)) ((va_up_ne _ _ (by omega)).trans (xs_M98 hM)) ((va_up_ne _ _ (by omega)).trans (xs_M99 hM)) (fun i i1 i2 i3 i4 => ((va_up_ne _ _ (by omega)).trans (Eq.refl _))) (fun _ _ _ => rfl) hR.2) (fun i hi => ((va_up_ne _ _ (by omega)).trans (Eq.refl _)))
  · have g_9 : xs_i p 0 5 = true := decide_eq_true (xn_b1 c_9)
    obtain ⟨kp, hkp, rfl⟩ := xn_pk (m := 5) (by omega) (xn_b1 c_9)
    refine xi_iload_n (q := 13) dX9_run_12 rfl rfl ?_
    refine xi_i2l (q := 14) dX9_run_13 rfl ?_
    refine xi_lconst (x := 0) (q := 15) dX9_run_14 (by decide) rfl ?_
    refine xi_ldc2 (q := 18) dX9_run_15 kc_X9_207 rfl ?_
    refine xv_cS3 (q := 21) xm_X9_in ln_X9_81 dX9_run_18 ⟨(Nat.le_of_ble_eq_true rfl), (Nat.le_of_ble_eq_true rfl)⟩ (Nat.le_of_ble_eq_true rfl) ⟨rfl, rfl⟩ rfl (Nat.zero_le _) (Nat.zero_le _) ?_
    refine ⟨b, 0, 2000, rfl, ?_⟩
    refine xi_if_eq (q := 24) (q2 := 57) dX9_run_21 (by decide) rfl (fun c_21 => ?_) (fun c_21 => ?_)
    · have g_21 : xs_i b 0 2000 = false := decide_eq_false (xn_b0 c_21)
      refine xi_ldc (q := 59) dX9_run_57 kc_X9_91 rfl ?_
      refine xi_ret ⟨_, rfl, rfl, dX9_run_59⟩ (Nat.zero_le _) (Nat.zero_le _) ?_
      exact xs_finM (σ' := σ) hp (by simp only [xs_run, xs_onE, xs_onP, xs_fn, xs_an, Bool.not_false, Bool.not_true, Bool.true_or, Bool.false_or, Bool.and_true, Bool.true_and, Bool.and_false, Bool.false_and, Bool.false_eq_true, if_true, if_false, ↓reduceIte, g_9, g_21, xs_kk0 (k := kp) (by omega)] <;> rfl) _ (xs_Mx (σ' := σ) hM hR (fa := (upd (C 83) 0 0)) ((va_up_self _ _ _).trans rfl) (fun j hj => (pk_un (by omega)).trans (rfl)) ((va_up_ne _ _ (by omega)).trans (xs_M88 hM)) (fun _ _ => rfl) ((va_up_ne _ _ (by omega)).trans (xs_M94 hM)) ((va_up_ne _ _ (by omega)).trans (xs_M95 hM)) ((va_up_ne _ _ (by omega)).trans (xs_M96 hM)) ((va_up_ne _ _ (by omega)).trans (xs_M97 hM)) ((va_up_ne _ _ (by omega)).trans (xs_M98 hM)) ((va_up_ne _ _ (by omega)).trans (xs_M99 hM)) (fun i i1 i2 i3 i4 => ((va_up_ne _ _ (by omega)).trans (Eq.refl _))) (fun _ _ _ => rfl) hR.2) (fun i hi => ((va_up_ne _ _ (by omega)).trans (Eq.refl _)))
    · have g_21 : xs_i b 0 2000 = true := decide_eq_true (xn_b1 c_21)
      refine xi_iload_n (q := 25) dX9_run_24 rfl rfl ?_
      refine xi_i2l (q := 26) dX9_run_25 rfl ?_
      refine xi_lconst (x := 0) (q := 27) dX9_run_26 (by decide) rfl ?_
      refine xi_ldc2 (q := 30) dX9_run_27 kc_X9_165 rfl ?_
      refine xv_cS3 (q := 33) xm_X9_in ln_X9_81 dX9_run_30 ⟨(Nat.le_of_ble_eq_true rfl), (Nat.le_of_ble_eq_true rfl)⟩ (Nat.le_of_ble_eq_true rfl) ⟨rfl, rfl⟩ rfl (Nat.zero_le _) (Nat.zero_le _) ?_
      refine ⟨w, 0, 1000, rfl, ?_⟩
      refine xi_if_eq (q := 36) (q2 := 57) dX9_run_33 (by decide) rfl (fun c_33 => ?_) (fun c_33 => ?_)
      · have g_33 : xs_i w 0 1000 = false := decide_eq_false (xn_b0 c_33)
        refine xi_ldc (q := 59) dX9_run_57 kc_X9_91 rfl ?_
        refine xi_ret ⟨_, rfl, rfl, dX9_run_59⟩ (Nat.zero_le _) (Nat.zero_le _) ?_
        exact xs_finM (σ' := σ) hp (by simp only [xs_run, xs_onE, xs_onP, xs_fn, xs_an, Bool.not_false, Bool.not_true, Bool.true_or, Bool.false_or, Bool.and_true, Bool.true_and, Bool.and_false, Bool.false_and, Bool.false_eq_true, if_true, if_false, ↓reduceIte, g_9, g_21, g_33, xs_kk0 (k := kp) (by omega)] <;> rfl) _ (xs_Mx (σ' := σ) hM hR (fa := (upd (C 83) 0 0)) ((va_up_self _ _ _).trans rfl) (fun j hj => (pk_un (by omega)).trans (rfl)) ((va_up_ne _ _ (by omega)).trans (xs_M88 hM)) (fun _ _ => rfl) ((va_up_ne _ _ (by omega)).trans (xs_M94 hM)) ((va_up_ne _ _ (by omega)).trans (xs_M95 hM)) ((va_up_ne _ _ (by omega)).trans (xs_M96 hM)) ((va_up_ne _ _ (by omega)).trans (xs_M97 hM)) ((va_up_ne _ _ (by omega)).trans (xs_M98 hM)) ((va_up_ne _ _ (by omega)).trans (xs_M99 hM)) (fun i i1 i2 i3 i4 => ((va_up_ne _ _ (by omega)).trans (Eq.refl _))) (fun _ _ _ => rfl) hR.2) (fun i hi => ((va_up_ne _ _ (by omega)).trans (Eq.refl _)))
      · have g_33 : xs_i w 0 1000 = true := decide_eq_true (xn_b1 c_33)
        obtain ⟨kw, hkw, rfl⟩ := xn_pk (m := 1000) (by omega) (xn_b1 c_33)
        refine xi_iload (q := 38) dX9_run_36 rfl rfl ?_
        refine xv_cS1 (q := 41) xm_X9_isSheet ln_X9_85 dX9_run_38 ⟨(Nat.le_of_ble_eq_true rfl), (Nat.le_of_ble_eq_true rfl)⟩ (Nat.le_of_ble_eq_true rfl) ⟨rfl, rfl⟩ rfl (Nat.zero_le _) (Nat.zero_le _) ?_
        refine ⟨_, rfl, ?_⟩
        refine xi_if_eq (q := 44) (q2 := 57) dX9_run_41 (by decide) rfl (fun c_41 => ?_) (fun c_41 => ?_)
        · have g_41 : xs_i s 0 7 = false := decide_eq_false (xn_b0 c_41)
          refine xi_ldc (q := 59) dX9_run_57 kc_X9_91 rfl ?_
          refine xi_ret ⟨_, rfl, rfl, dX9_run_59⟩ (Nat.zero_le _) (Nat.zero_le _) ?_
          exact xs_finM (σ' := σ) hp (by simp only [xs_run, xs_onE, xs_onP, xs_fn, xs_an, Bool.not_false, Bool.not_true, Bool.true_or, Bool.false_or, Bool.and_true, Bool.true_and, Bool.and_false, Bool.false_and, Bool.false_eq_true, if_true, if_false, ↓reduceIte, g_9, g_21, g_33, g_41, xs_kk0 (k := kp) (by omega), xs_kk0 (k := kw) (by omega)] <;> rfl) _ (xs_Mx (σ' := σ) hM hR (fa := (upd (C 83) 0 0)) ((va_up_self _ _ _).trans rfl) (fun j hj => (pk_un (by omega)).trans (rfl)) ((va_up_ne _ _ (by omega)).trans (xs_M88 hM)) (fun _ _ => rfl) ((va_up_ne _ _ (by omega)).trans (xs_M94 hM)) ((va_up_ne _ _ (by omega)).trans (xs_M95 hM)) ((va_up_ne _ _ (by omega)).trans (xs_M96 hM)) ((va_up_ne _ _ (by omega)).trans (xs_M97 hM)) ((va_up_ne _ _ (by omega)).trans (xs_M98 hM)) ((va_up_ne _ _ (by omega)).trans (xs_M99 hM)) (fun i i1 i2 i3 i4 => ((va_up_ne _ _ (by omega)).trans (Eq.refl _))) (fun _ _ _ => rfl) hR.2) (fun i hi => ((va_up_ne _ _ (by omega)).trans (Eq.refl _)))
        · have g_41 : xs_i s 0 7 = true := decide_eq_true (xn_b1 c_41)
          obtain ⟨ks, hks, rfl⟩ := xn_pk (m := 7) (by omega) (xn_b1 c_41)
          refine xi_iload (q := 46) dX9_run_44 rfl rfl ?_
          refine xi_i2l (q := 47) dX9_run_46 rfl ?_
          refine xi_lconst (x := 1) (q := 48) dX9_run_47 (by decide) rfl ?_
          refine xi_ldc2 (q := 51) dX9_run_48 kc_X9_102 rfl ?_
          refine xv_cS3 (q := 54) xm_X9_in ln_X9_81 dX9_run_51 ⟨(Nat.le_of_ble_eq_true rfl), (Nat.le_of_ble_eq_true rfl)⟩ (Nat.le_of_ble_eq_true rfl) ⟨rfl, rfl⟩ rfl (Nat.zero_le _) (Nat.zero_le _) ?_
          refine ⟨q, 1, 10, rfl, ?_⟩
          refine xi_if_ne (q := 57) (q2 := 60) dX9_run_54 (by decide) rfl (fun c_54 => ?_) (fun c_54 => ?_)
          · have g_54 : xs_i q 1 10 = true := decide_eq_true (xn_b1 c_54)
            obtain ⟨kq, ⟨hq1, hq2⟩, rfl⟩ : ∃ kq : Nat, (1 ≤ kq ∧ kq ≤ 10) ∧ q = nI kq := by
              have z := xn_b1 c_54
              rw [xn_le, xn_le, show (1 : Int32).toInt = 1 from rfl, show (10 : Int32).toInt = 10 from rfl] at z
              refine ⟨q.toNatClampNeg, ?_, xn_ofI (by omega)⟩
              show 1 ≤ q.toInt.toNat ∧ q.toInt.toNat ≤ 10
              omega
            have e3q : (3 * nI kq : Int32) = nI (3 * kq) := pk_mul 3 kq
            refine xi_aload_n (q := 61) dX9_run_60 rfl rfl ?_
            refine xi_getf (q := 64) dX9_run_61 fl_X9_19 (xv_self (by omega)) rfl rfl ?_
            refine xi_iload_n (q := 65) dX9_run_64 rfl rfl ?_
            refine xi_zald (q := 66) dX9_run_65 (xv_keep (by omega) ⟨by omega, (xs_M87 hM)⟩) (xv_ixN (by omega) (by omega)) rfl ?_
            refine xi_if_eq (q := 69) (q2 := 79) dX9_run_66 (by decide) rfl (fun c_66 => ?_) (fun c_66 => ?_)
            · have y66 : σ 6 kp 0 = 0 := (xs_ht hR (by omega)).symm.trans (by first | exact c_66 | exact Decidable.of_not_not c_66)
              refine xi_aload_n (q := 80) dX9_run_79 rfl rfl ?_
              refine xi_iconst (x := 1) (q := 81) dX9_run_80 (by decide) rfl ?_
              refine xv_cV1 (q := 84) xm_X9_found ln_X9_92 dX9_run_81 (xv_self (by omega)) rfl ⟨(Nat.le_of_ble_eq_true rfl), (Nat.le_of_ble_eq_true rfl)⟩ (Nat.le_of_ble_eq_true rfl) ⟨rfl, rfl⟩ rfl (Nat.zero_le _) (Nat.zero_le _) ?_
              refine ⟨(upd (C 83) 0 0), dk, 1, rfl, ((va_up_self _ _ _).trans rfl), by omega, fun h81 p81 f81 => ?_⟩
              have Fh81 : ∀ i, i ≠ 83 → h81 i = h i := fun i j83 => (f81 i (by omega)).trans ((va_up_ne _ _ (by omega)).trans (Eq.refl _))
              refine xi_ret ⟨_, rfl, rfl, dX9_run_84⟩ (Nat.zero_le _) (Nat.zero_le _) ?_
              exact xs_finM (σ' := (xs_fd σ 1)) hp (by simp only [xs_run, xs_onE, xs_onP, xs_fn, xs_an, Bool.not_false, Bool.not_true, Bool.true_or, Bool.false_or, Bool.and_true, Bool.true_and, Bool.and_false, Bool.false_and, Bool.false_eq_true, if_true, if_false, ↓reduceIte, g_9, g_21, g_33, g_41, g_54, eq_true y66, xs_kk0 (k := kp) (by omega), xs_kk0 (k := kw) (by omega), xs_kk0 (k := ks) (by omega), xs_kk0 (k := kq) (by omega)] <;> rfl) _ (xs_Mx (σ' := (xs_fd σ 1)) hM hR (fa := (upd (upd (C 83) 0 0) 1 1)) p81 (fun j hj => (pk_un (by omega)).trans ((pk_un (by omega)).trans (rfl))) ((Fh81 88 (by omega)).trans (xs_M88 hM)) (fun _ _ => rfl) ((Fh81 94 (by omega)).trans (xs_M94 hM)) ((Fh81 95 (by omega)).trans (xs_M95 hM)) ((Fh81 96 (by omega)).trans (xs_M96 hM)) ((Fh81 97 (by omega)).trans (xs_M97 hM)) ((Fh81 98 (by omega)).trans (xs_M98 hM)) ((Fh81 99 (by omega)).trans (xs_M99 hM)) (fun i i1 i2 i3 i4 => (Fh81 i (by omega))) xs_fdo rfl) (fun i hi => (Fh81 i (by omega)))
            · have y66 : ¬ σ 6 kp 0 = 0 := fun e => c_66 ((xs_ht hR (by omega)).trans e)
              refine xi_aload_n (q := 70) dX9_run_69 rfl rfl ?_
              refine xi_getf (q := 73) dX9_run_70 fl_X9_7 (xv_self (by omega)) rfl rfl ?_
              refine xi_iload (q := 75) dX9_run_73 rfl rfl ?_
              refine xi_iald (q := 76) dX9_run_75 (xv_keep (by omega) ⟨by omega, (xs_M84 hM)⟩) (xv_ixN (by omega) (by omega)) rfl ?_
              refine xi_if_ge (q := 79) (q2 := 85) dX9_run_76 (by decide) rfl (fun c_76 => ?_) (fun c_76 => ?_)
              · have y76 : ¬ σ 0 ks 0 = 0 := (xs_ln hV hR (by omega)).1 c_76
                refine xi_iload (q := 87) dX9_run_85 rfl rfl ?_
                refine xi_if_lt (q := 90) (q2 := 111) dX9_run_87 (by decide) rfl (fun c_87 => ?_) (fun c_87 => ?_)
                · have g_87 : xs_has i (3 * nI kq) (σ 2 ks 0) = false := xn_hasN (fun z => by rw [xn_le] at z; rw [xn_lt] at c_87; omega)
                  refine xi_aload_n (q := 112) dX9_run_111 rfl rfl ?_
                  refine xi_iconst (x := 2) (q := 113) dX9_run_112 (by decide) rfl ?_
                  refine xv_cV1 (q := 116) xm_X9_found ln_X9_92 dX9_run_113 (xv_self (by omega)) rfl ⟨(Nat.le_of_ble_eq_true rfl), (Nat.le_of_ble_eq_true rfl)⟩ (Nat.le_of_ble_eq_true rfl) ⟨rfl, rfl⟩ rfl (Nat.zero_le _) (Nat.zero_le _) ?_
                  refine ⟨(upd (C 83) 0 0), dk, 2, rfl, ((va_up_self _ _ _).trans rfl), by omega, fun h113 p113 f113 => ?_⟩
                  have Fh113 : ∀ i, i ≠ 83 → h113 i = h i := fun i j83 => (f113 i (by omega)).trans ((va_up_ne _ _ (by omega)).trans (Eq.refl _))
                  refine xi_ret ⟨_, rfl, rfl, dX9_run_116⟩ (Nat.zero_le _) (Nat.zero_le _) ?_
                  exact xs_finM (σ' := (xs_fd σ 2)) hp (by simp only [xs_run, xs_onE, xs_onP, xs_fn, xs_an, Bool.not_false, Bool.not_true, Bool.true_or, Bool.false_or, Bool.and_true, Bool.true_and, Bool.and_false, Bool.false_and, Bool.false_eq_true, if_true, if_false, ↓reduceIte, g_9, g_21, g_33, g_41, g_54, eq_false y66, eq_false y76, g_87, xs_kk0 (k := kp) (by omega), xs_kk0 (k := kw) (by omega), xs_kk0 (k := ks) (by omega), xs_kk0 (k := kq) (by omega)] <;> rfl) _ (xs_Mx (σ' := (xs_fd σ 2)) hM hR (fa := (upd (upd (C 83) 0 0) 1 2)) p113 (fun j hj => (pk_un (by omega)).trans ((pk_un (by omega)).trans (rfl))) ((Fh113 88 (by omega)).trans (xs_M88 hM)) (fun _ _ => rfl) ((Fh113 94 (by omega)).trans (xs_M94 hM)) ((Fh113 95 (by omega)).trans (xs_M95 hM)) ((Fh113 96 (by omega)).trans (xs_M96 hM)) ((Fh113 97 (by omega)).trans (xs_M97 hM)) ((Fh113 98 (by omega)).trans (xs_M98 hM)) ((Fh113 99 (by omega)).trans (xs_M99 hM)) (fun i i1 i2 i3 i4 => (Fh113 i (by omega))) xs_fdo rfl) (fun i hi => (Fh113 i (by omega)))
                · have h0_87 : 0 ≤ i := by rw [xn_le]; rw [xn_lt] at c_87; omega
                  refine xi_iload (q := 92) dX9_run_90 rfl rfl ?_
                  refine xi_i2l (q := 93) dX9_run_92 rfl ?_
                  refine xi_iconst (x := 3) (q := 94) dX9_run_93 (by decide) rfl ?_
                  refine xi_iload (q := 96) dX9_run_94 rfl rfl ?_
                  refine xi_imul (q := 97) dX9_run_96 rfl ?_
                  refine xi_i2l (q := 98) dX9_run_97 rfl ?_
                  refine xi_ladd (q := 99) dX9_run_98 rfl ?_
                  refine xi_aload_n (q := 100) dX9_run_99 rfl rfl ?_
                  refine xi_getf (q := 103) dX9_run_100 fl_X9_13 (xv_self (by omega)) rfl rfl ?_
                  refine xi_iload (q := 105) dX9_run_103 rfl rfl ?_
                  refine xi_iald (q := 106) dX9_run_105 (xv_keep (by omega) ⟨by omega, (xs_M85 hM)⟩) (xv_ixN (by omega) (by omega)) rfl ?_
                  rw [(hR.1.1 ks (by omega)).2.1]
                  refine xi_i2l (q := 107) dX9_run_106 rfl ?_
                  refine xi_lcmp (q := 108) dX9_run_107 rfl ?_
                  refine xi_if_le (q := 111) (q2 := 117) dX9_run_108 (by decide) rfl (fun c_108 => ?_) (fun c_108 => ?_)
                  · have g_108 : xs_has i (3 * nI kq) (σ 2 ks 0) = true := (xn_hasL (k := 3 * nI kq) h0_87 (by rw [e3q, xn_NI (by omega)]; omega) (hV.2.1 ks (by omega) y76).1).mp c_108
                    obtain ⟨ki, hki, rfl⟩ := xn_hasA (m := 3 * kq) (by omega) (by rw [← e3q]; exact g_108) (hV.2.1 ks (by omega) y76).1.2
                    refine xi_iconst (x := 0) (q := 118) dX9_run_117 (by decide) rfl ?_
                    refine xi_istore (q := 120) dX9_run_118 (Nat.le_of_ble_eq_true rfl) rfl ?_
                    refine xv_weakS (lv' := [(0, .ref 83), (1, .int (nI kp)), (2, .int b), (3, .int (nI kw)), (4, .int (nI ks)), (5, .int (nI ki)), (6, .int (nI kq)), (7, .int (nI 0))]) ⟨rfl, rfl, rfl, rfl, rfl, rfl, rfl, rfl, trivial⟩ ?_
                    refine xv_lpH (lv := fun k => [(0, .ref 83), (1, .int (nI kp)), (2, .int b), (3, .int (nI kw)), (4, .int (nI ks)), (5, .int (nI ki)), (6, .int (nI kq)), (7, .int (nI k))]) (I := fun k hI => ∃ (dI : Int64), hI 83 = xs_mo (upd (C 83) 0 0) dI ∧ (∀ t, t < k → (fun t => xs_rvb (σ 3 ks) (ki + 3 * t)) t = true) ∧ ∀ i, i ≠ 83 → hI i = h i) (N := kq) (fun k h120 hk I120 ih120 => ?_) 0 _ (by omega) ⟨_, ((va_up_self _ _ _).trans rfl), (fun t ht => absurd ht (by omega)), fun i _ => ((va_up_ne _ _ (by omega)).trans (Eq.refl _))⟩
                    show xv_V X mX9_run Post 0 0 120 [(0, .ref 83), (1, .int (nI kp)), (2, .int b), (3, .int (nI kw)), (4, .int (nI ks)), (5, .int (nI ki)), (6, .int (nI kq)), (7, .int (nI k))] [] h120 n
                    obtain ⟨d120, p83_120, x120, F120⟩ := I120
                    refine xi_iload (q := 122) dX9_run_120 rfl rfl ?_
                    refine xi_iload (q := 124) dX9_run_122 rfl rfl ?_
                    refine xi_icmp_ge (q := 127) (q2 := 207) dX9_run_124 (by decide) rfl (fun c_124 => ?_) (fun c_124 => ?_)
                    · have hk2 : k = kq := by have z : kq ≤ k := xn_leN c_124 (by omega) (by omega); omega
                      rw [hk2] at x120
                      have gt : xs_all (fun t => xs_rvb (σ 3 ks) (ki + 3 * t)) kq = true := xn_allT x120
                      obtain ⟨RO, hRO⟩ : ∃ f : Nat → Int32, f = xs_ro σ ks ki := ⟨_, rfl⟩
                      obtain ⟨WO, hWO⟩ : ∃ f : Nat → Int32, f = xs_wo σ kp b := ⟨_, rfl⟩
                      obtain ⟨DO, hDO⟩ : ∃ f : Nat → Int32, f = xs_do σ kp b := ⟨_, rfl⟩
                      obtain ⟨MM, hMM⟩ : ∃ M : Nat → Nat → Nat, M = xs_M WO RO := ⟨_, rfl⟩
                      obtain ⟨CC, hCC⟩ : ∃ M : Nat → Nat → Nat, M = xs_C DO RO := ⟨_, rfl⟩
                      have hrv : ∀ s, s < kq → xs_rv RO s := fun s hs => xn_rvb (it := σ 3 ks) (a := ki) (x120 s hs) (fun j hj => by rw [hRO]; show σ 3 ks (ki + (3 * s + j)) = _; rw [show ki + (3 * s + j) = ki + 3 * s + j by omega])
                      have hit : ∀ s j, s < kq → j < 3 → C 86 (60 * ks + ki + 3 * s + j) = RO (3 * s + j) := fun s j hs hj => by rw [hRO, show 60 * ks + ki + 3 * s + j = 60 * ks + (ki + (3 * s + j)) by omega]; exact (hR.1.1 ks (by omega)).2.2 _ (by omega)
                      have hok : xs_ok (σ 4 kp) := (hV.2.2.2.1 kp (by omega) y66).1
                      have hDb : ∀ c, c < 24 → 0 ≤ (DO c).toInt ∧ (DO c).toInt ≤ 1000000 := fun c hc => by
                        have hcb : 0 ≤ (nI (1 + c % 4)).toInt ∧ (nI (1 + c % 4)).toInt ≤ 4 := by rw [xn_NI (by omega)]; omega
                        have z := xn_drkb (f := σ 4 kp) (s := σ 5 kp 0) (m := nI (1 + c / 4)) hok (xn_B (b := b) (r := nI (1 + c % 4)) (by have z := xn_gI g_21; exact z) hcb)
                        rw [hDO]
                        exact ⟨z.1, Int.le_trans z.2 (by decide)⟩
                      have hMb : ∀ s c, s < kq → MM s c ≤ 4000 := fun s c hs => by
                        rw [hMM]
                        have z := hrv s hs
                        exact xn_Mb ⟨by have := z.1; omega, z.1.2⟩ z.2.2
                      have hCb : ∀ s c, s < kq → c < 24 → CC s c ≤ 500000 := fun s c hs hc => by
                        rw [hCC]
                        have z := hrv s hs
                        exact xn_Cb (hDb c hc) ⟨by have := z.1; omega, z.1.2⟩
                      have hBd : ∀ r t, r ≤ kq → xs_bd (r * 500000) (xs_bc MM CC kq r t) := fun r t hr => xn_bdb hCb r t hr
                      refine xi_aload_n (q := 208) dX9_run_207 rfl rfl ?_
                      refine xi_iconst (x := 0) (q := 209) dX9_run_208 (by decide) rfl ?_
                      refine xi_putf (q := 212) dX9_run_209 fl_X9_75 ⟨by omega, p83_120⟩ (Or.inl rfl) (fun _ => rfl) (fun _ => rfl) (Nat.le_of_ble_eq_true rfl) rfl ?_
                      refine xi_iconst (x := 0) (q := 213) dX9_run_212 (by decide) rfl ?_
                      refine xi_istore (q := 215) dX9_run_213 (Nat.le_of_ble_eq_true rfl) rfl ?_
                      refine xv_weakS (lv' := [(0, .ref 83), (1, .int (nI kp)), (2, .int b), (3, .int (nI kw)), (4, .int (nI ks)), (5, .int (nI ki)), (6, .int (nI kq)), (7, .int (nI 0))]) ⟨rfl, rfl, rfl, rfl, rfl, rfl, rfl, rfl, trivial⟩ ?_
                      refine xv_lpH (lv := fun k => [(0, .ref 83), (1, .int (nI kp)), (2, .int b), (3, .int (nI kw)), (4, .int (nI ks)), (5, .int (nI ki)), (6, .int (nI kq)), (7, .int (nI k))]) (I := fun k hI => ∃ (dI : Int64) (g94 : Nat → Int32) (g97 : Nat → Int32) (g98 : Nat → Int32), hI 83 = xs_mo (upd (upd (C 83) 0 0) 1 0) dI ∧ hI 94 = xs_ia 48 g94 ∧ hI 97 = xs_ia 240 g97 ∧ hI 98 = xs_ia 240 g98 ∧ (∀ s c, s < kq → c < k → g97 (24 * s + c) = xs_mm (MM s c) ∧ g98 (24 * s + c) = nI (CC s c)) ∧ ∀ i, i ≠ 83 → i ≠ 94 → i ≠ 97 → i ≠ 98 → hI i = h i) (N := 24) (fun k h215 hk I215 ih215 => ?_) 0 _ (by omega) ⟨_, _, _, _, ((va_up_self _ _ _).trans rfl), ((va_up_ne _ _ (by omega)).trans ((F120 94 (by omega)).trans (xs_M94 hM))), ((va_up_ne _ _ (by omega)).trans ((F120 97 (by omega)).trans (xs_M97 hM))), ((va_up_ne _ _ (by omega)).trans ((F120 98 (by omega)).trans (xs_M98 hM))), (fun s c _ hc => absurd hc (by omega)), fun i _ _ _ _ => ((va_up_ne _ _ (by omega)).trans (F120 i (by omega)))⟩
                      show xv_V X mX9_run Post 0 0 215 [(0, .ref 83), (1, .int (nI kp)), (2, .int b), (3, .int (nI kw)), (4, .int (nI ks)), (5, .int (nI ki)), (6, .int (nI kq)), (7, .int (nI k))] [] h215 n
                      obtain ⟨d215, g94_215, g97_215, g98_215, p83_215, p94_215, p97_215, p98_215, x215, F215⟩ := I215
                      refine xi_iload (q := 217) dX9_run_215 rfl rfl ?_
                      refine xi_bipush (x := 24) (q := 219) dX9_run_217 (by decide) rfl ?_
                      refine xi_icmp_ge (q := 222) (q2 := 412) dX9_run_219 (by decide) rfl (fun c_219 => ?_) (fun c_219 => ?_)
                      · have hk2 : k = 24 := by have z : 24 ≤ k := xn_leN c_219 (by omega) (by omega); omega
                        subst hk2
                        have hT := x215
                        refine xi_iload (q := 414) dX9_run_412 rfl rfl ?_
                        refine xi_istore (q := 416) dX9_run_414 (Nat.le_of_ble_eq_true rfl) rfl ?_
                        refine xv_weakS (lv' := [(0, .ref 83), (3, .int (nI kw)), (6, .int (nI kq)), (7, .int (xs_dw kq 0))]) ⟨rfl, rfl, rfl, rfl, trivial⟩ ?_
                        refine xv_lpH (lv := fun r => [(0, .ref 83), (3, .int (nI kw)), (6, .int (nI kq)), (7, .int (xs_dw kq r))]) (I := fun r hI => ∃ (dI : Int64) (g99 : Nat → Int32), hI 83 = xs_mo (upd (upd (C 83) 0 0) 1 0) dI ∧ hI 94 = xs_ia 48 g94_215 ∧ hI 97 = xs_ia 240 g97_215 ∧ hI 98 = xs_ia 240 g98_215 ∧ hI 99 = xs_ia 11011 g99 ∧ (∀ r' u, r' < r → u ≤ kw → g99 (1001 * (kq - r') + u) = xs_en2 (xs_bc MM CC kq r' u)) ∧ ∀ i, i ≠ 83 → i ≠ 94 → i ≠ 97 → i ≠ 98 → i ≠ 99 → hI i = h i) (N := (kq + 1)) (fun r h416 hr I416 ih416 => ?_) 0 _ (by omega) ⟨_, _, p83_215, p94_215, p97_215, p98_215, ((F215 99 (by omega) (by omega) (by omega) (by omega)).trans (xs_M99 hM)), (fun _ _ h _ => absurd h (by omega)), fun i _ _ _ _ _ => (F215 i (by omega) (by omega) (by omega) (by omega))⟩
                        show xv_V X mX9_run Post 0 0 416 [(0, .ref 83), (3, .int (nI kw)), (6, .int (nI kq)), (7, .int (xs_dw kq r))] [] h416 n
                        obtain ⟨d416, g99_416, p83_416, p94_416, p97_416, p98_416, p99_416, x416, F416⟩ := I416
                        rw [xn_dw kq r]
                        refine xi_iload (q := 418) dX9_run_416 rfl rfl ?_
                        refine xi_if_lt (q := 421) (q2 := 604) dX9_run_418 (by decide) rfl (fun c_418 => ?_) (fun c_418 => ?_)
                        · have hr2 : r = kq + 1 := by have z := (xn_dnlt (by omega) (by omega)).mp c_418; omega
                          rw [hr2] at x416
                          refine xi_aload_n (q := 605) dX9_run_604 rfl rfl ?_
                          refine xi_getf (q := 608) dX9_run_605 fl_X9_56 ⟨by omega, p83_416⟩ rfl rfl ?_
                          refine xi_iload_n (q := 609) dX9_run_608 rfl rfl ?_
                          refine xi_iald (q := 610) dX9_run_609 ⟨by omega, p99_416⟩ (xv_ixN (by omega) (by omega)) rfl ?_
                          rw [show g99_416 kw = xs_en2 (xs_bc MM CC kq kq kw) from by have z := x416 kq kw (by omega) (Nat.le_refl _); rw [Nat.sub_self, Nat.mul_zero, Nat.zero_add] at z; exact z]
                          refine xi_istore (q := 612) dX9_run_610 (Nat.le_of_ble_eq_true rfl) rfl ?_
                          refine xi_iload (q := 614) dX9_run_612 rfl rfl ?_
                          refine xi_ldc (q := 616) dX9_run_614 kc_X9_158 rfl ?_
                          refine xi_icmp_ne (q := 619) (q2 := 622) dX9_run_616 (by decide) rfl (fun c_616 => ?_) (fun c_616 => ?_)
                          · obtain ⟨v0, e0⟩ : ∃ v, xs_bc MM CC kq kq kw = some v := by
                              cases h : xs_bc MM CC kq kq kw with
                              | none => exact absurd (by rw [h]; rfl) c_616
                              | some v => exact ⟨v, rfl⟩
                            have hbc : xs_bc (xs_rMC σ kp ks ki b).1 (xs_rMC σ kp ks ki b).2 = xs_bc MM CC ∧ xs_kk (xs_rMC σ kp ks ki b).1 (xs_rMC σ kp ks ki b).2 = xs_kk MM CC := by
                              have e1 : (xs_rMC σ kp ks ki b).1 = MM := by rw [hMM, hWO, hRO]; rfl
                              have e2 : (xs_rMC σ kp ks ki b).2 = CC := by rw [hCC, hDO, hRO]; rfl
                              rw [e1, e2]
                              exact ⟨rfl, rfl⟩
                            rw [show xs_en2 (xs_bc MM CC kq kq kw) = nI v0 from by rw [e0]; rfl]
                            refine xi_aload_n (q := 623) dX9_run_622 rfl rfl ?_
                            refine xi_iload (q := 625) dX9_run_623 rfl rfl ?_
                            refine xi_putf (q := 628) dX9_run_625 fl_X9_243 ⟨by omega, p83_416⟩ (Or.inl rfl) (fun _ => rfl) (fun _ => rfl) (Nat.le_of_ble_eq_true rfl) rfl ?_
                            refine xi_iload_n (q := 629) dX9_run_628 rfl rfl ?_
                            refine xi_istore (q := 631) dX9_run_629 (Nat.le_of_ble_eq_true rfl) rfl ?_
                            refine xi_iconst (x := 0) (q := 632) dX9_run_631 (by decide) rfl ?_
                            refine xi_istore (q := 634) dX9_run_632 (Nat.le_of_ble_eq_true rfl) rfl ?_
                            refine xv_weakS (lv' := [(0, .ref 83), (6, .int (nI kq)), (7, .int (nI v0)), (8, .int (nI (xs_tt MM CC kq kw 0))), (9, .int (nI 0))]) ⟨rfl, rfl, rfl, rfl, rfl, trivial⟩ ?_
                            refine xv_lpH (lv := fun k => [(0, .ref 83), (6, .int (nI kq)), (7, .int (nI v0)), (8, .int (nI (xs_tt MM CC kq kw k))), (9, .int (nI k))]) (I := fun k hI => ∃ (dI : Int64) (g100 : Nat → Int32) (g101 : Nat → Int32) (g102 : Nat → Int32), hI 83 = xs_mo (upd (upd (upd (C 83) 0 0) 1 0) 4 (nI kq)) dI ∧ hI 94 = xs_ia 48 g94_215 ∧ hI 97 = xs_ia 240 g97_215 ∧ hI 98 = xs_ia 240 g98_215 ∧ hI 99 = xs_ia 11011 g99_416 ∧ hI 100 = xs_ia 10 g100 ∧ hI 101 = xs_ia 10 g101 ∧ hI 102 = xs_ia 10 g102 ∧ (∀ i, i < k → g100 i = nI (xs_cx MM CC kq i (xs_tt MM CC kq kw i)) ∧ g101 i = nI (MM i (xs_cx MM CC kq i (xs_tt MM CC kq kw i))) ∧ g102 i = nI (CC i (xs_cx MM CC kq i (xs_tt MM CC kq kw i)))) ∧ ∀ i, i ≠ 83 → i ≠ 94 → i ≠ 97 → i ≠ 98 → i ≠ 99 → i ≠ 100 → i ≠ 101 → i ≠ 102 → hI i = h i) (N := kq) (fun k h634 hk I634 ih634 => ?_) 0 _ (by omega) ⟨_, _, _, _, ((va_up_self _ _ _).trans rfl), ((va_up_ne _ _ (by omega)).trans p94_416), ((va_up_ne _ _ (by omega)).trans p97_416), ((va_up_ne _ _ (by omega)).trans p98_416), ((va_up_ne _ _ (by omega)).trans p99_416), ((va_up_ne _ _ (by omega)).trans ((F416 100 (by omega) (by omega) (by omega) (by omega) (by omega)).trans (xs_M100 hM))), ((va_up_ne _ _ (by omega)).trans ((F416 101 (by omega) (by omega) (by omega) (by omega) (by omega)).trans (xs_M101 hM))), ((va_up_ne _ _ (by omega)).trans ((F416 102 (by omega) (by omega) (by omega) (by omega) (by omega)).trans (xs_M102 hM))), (fun _ h => absurd h (by omega)), fun i _ _ _ _ _ _ _ _ => ((va_up_ne _ _ (by omega)).trans (F416 i (by omega) (by omega) (by omega) (by omega) (by omega)))⟩
                            show xv_V X mX9_run Post 0 0 634 [(0, .ref 83), (6, .int (nI kq)), (7, .int (nI v0)), (8, .int (nI (xs_tt MM CC kq kw k))), (9, .int (nI k))] [] h634 n
                            obtain ⟨d634, g100_634, g101_634, g102_634, p83_634, p94_634, p97_634, p98_634, p99_634, p100_634, p101_634, p102_634, x634, F634⟩ := I634
                            refine xi_iload (q := 636) dX9_run_634 rfl rfl ?_
                            refine xi_iload (q := 638) dX9_run_636 rfl rfl ?_
                            refine xi_icmp_ge (q := 641) (q2 := 831) dX9_run_638 (by decide) rfl (fun c_638 => ?_) (fun c_638 => ?_)
                            · have hk2 : k = kq := by have z : kq ≤ k := xn_leN c_638 (by omega) (by omega); omega
                              rw [hk2] at x634
                              refine xi_iload (q := 833) dX9_run_831 rfl rfl ?_
                              refine xi_ret ⟨_, rfl, rfl, dX9_run_833⟩ (Nat.zero_le _) (Nat.zero_le _) ?_
                              have eN : xs_rno σ kp ks ki kq kw b = (nI v0, xs_fd (xs_pl σ (nI kq) (xs_kk MM CC kq kq kw (σ 12 0))) 0) := by
                                unfold xs_rno
                                rw [hbc.1, hbc.2, e0]
                                rfl
                              have eK : (xs_kk MM CC kq kq kw (σ 12 0)) = xs_kE MM CC kq kw (σ 12 0) kq := (xn_kE kq (Nat.le_refl _)).trans (by rw [Nat.sub_self]; rfl)
                              exact xs_finM (σ' := (xs_fd (xs_pl σ (nI kq) (xs_kk MM CC kq kq kw (σ 12 0))) 0)) hp (by simp only [xs_run, xs_onE, xs_onP, xs_fn, xs_an, Bool.not_false, Bool.not_true, Bool.true_or, Bool.false_or, Bool.and_true, Bool.true_and, Bool.and_false, Bool.false_and, Bool.false_eq_true, if_true, if_false, ↓reduceIte, g_9, g_21, g_33, g_41, g_54, eq_false y66, eq_false y76, g_108, gt, eN, xs_kk0 (k := kp) (by omega), xs_kk0 (k := kw) (by omega), xs_kk0 (k := ks) (by omega), xs_kk0 (k := kq) (by omega), xs_kk0 (k := ki) (by omega)] <;> rfl) _ ⟨(xs_cu (xs_cu (xs_cu (xs_cu (xs_cu (xs_cu (xs_cu (xs_cu C 83 (upd (upd (upd (C 83) 0 0) 1 0) 4 (nI kq))) 94 g94_215) 97 g97_215) 98 g98_215) 99 g99_416) 100 g100_634) 101 g101_634) 102 g102_634), _, ⟨p83_634, ((F634 84 (by omega) (by omega) (by omega) (by omega) (by omega) (by omega) (by omega) (by omega)).trans (xs_M84 (C := C) hM)), ((F634 85 (by omega) (by omega) (by omega) (by omega) (by omega) (by omega) (by omega) (by omega)).trans (xs_M85 (C := C) hM)), ((F634 86 (by omega) (by omega) (by omega) (by omega) (by omega) (by omega) (by omega) (by omega)).trans (xs_M86 (C := C) hM)), ((F634 87 (by omega) (by omega) (by omega) (by omega) (by omega) (by omega) (by omega) (by omega)).trans (xs_M87 (C := C) hM)), ((F634 88 (by omega) (by omega) (by omega) (by omega) (by omega) (by omega) (by omega) (by omega)).trans (xs_M88 (C := C) hM)), ((F634 89 (by omega) (by omega) (by omega) (by omega) (by omega) (by omega) (by omega) (by omega)).trans (xs_M89 (C := C) hM)), ((F634 90 (by omega) (by omega) (by omega) (by omega) (by omega) (by omega) (by omega) (by omega)).trans (xs_M90 (C := C) hM)), ((F634 91 (by omega) (by omega) (by omega) (by omega) (by omega) (by omega) (by omega) (by omega)).trans (xs_M91 (C := C) hM)), ((F634 92 (by omega) (by omega) (by omega) (by omega) (by omega) (by omega) (by omega) (by omega)).trans (xs_M92 (C := C) hM)), ((F634 93 (by omega) (by omega) (by omega) (by omega) (by omega) (by omega) (by omega) (by omega)).trans (xs_M93 (C := C) hM)), p94_634, ((F634 95 (by omega) (by omega) (by omega) (by omega) (by omega) (by omega) (by omega) (by omega)).trans (xs_M95 (C := C) hM)), ((F634 96 (by omega) (by omega) (by omega) (by omega) (by omega) (by omega) (by omega) (by omega)).trans (xs_M96 (C := C) hM)), p97_634, p98_634, p99_634, p100_634, p101_634, p102_634, ((F634 103 (by omega) (by omega) (by omega) (by omega) (by omega) (by omega) (by omega) (by omega)).trans (xs_M103 (C := C) hM))⟩, ⟨xs_Rfd (xs_Rpl hR.1 rfl (fun i hi hi2 => by
                                        rw [xn_NI (by omega)] at hi
                                        have z := x634 i (by omega)
                                        have y := xn_kEr (M := MM) (C := CC) (n := kq) (l := kw) (ke := σ 12 0) kq i (by omega)
                                        have z2 := (xn_cx (M := MM) (C := CC) (by omega) (xn_tt e0 i (by omega)).1.choose_spec).2.1
                                        rw [eK, y.1, y.2.1, y.2.2.1, y.2.2.2]
                                        show (0 ≤ (g100_634 i).toInt ∧ (g100_634 i).toInt < 24) ∧ _ = 1 + g100_634 i / 4 ∧ _ = 1 + xs_rem (g100_634 i) 4 ∧ _ = g101_634 i ∧ _ = g102_634 i
                                        rw [z.1, z.2.1, z.2.2, (xn_dvN z2).1, (xn_dvN z2).2.1, xn_NI (by omega)]
                                        exact ⟨⟨by omega, by omega⟩, rfl, rfl, rfl, rfl⟩) (fun i hi => (pk_un (by omega)).trans ((pk_un (by omega)).trans ((pk_un (by omega)).trans (rfl)))) (fun _ _ => rfl) (fun i hi i1 i2 => (by rw [xs_cuo (by omega), xs_cuo (by omega), xs_cuo (by omega), xs_cuo (by omega), xs_cuo (by omega), xs_cuo (by omega), xs_cuo (by omega), xs_cuo (by omega)]))), rfl⟩⟩ (fun i hi => (F634 i (by omega) (by omega) (by omega) (by omega) (by omega) (by omega) (by omega) (by omega)))
                            · have hk2 : k < kq := xn_nleN c_638 (by omega) (by omega)
                              obtain ⟨⟨v, hv⟩, hTl⟩ := xn_tt (M := MM) (C := CC) e0 k (by omega)
                              have hx := xn_cx (M := MM) (C := CC) hk2 hv
                              obtain ⟨T, hT3⟩ : ∃ T, T = (xs_tt MM CC kq kw k) := ⟨_, rfl⟩
                              rw [← hT3] at hv hTl hx
                              rw [← hT3]
                              obtain ⟨F, hF⟩ : ∃ F, F = xs_cand (MM k) (CC k) (xs_bc MM CC kq (kq - (k + 1))) T := ⟨_, rfl⟩
                              rw [← hF] at hx
                              have hvb := hBd (kq - k) T (by omega) v hv
                              refine xi_ldc (q := 643) dX9_run_641 kc_X9_158 rfl ?_
                              refine xi_istore (q := 645) dX9_run_643 (Nat.le_of_ble_eq_true rfl) rfl ?_
                              refine xi_bipush (x := 23) (q := 647) dX9_run_645 (by decide) rfl ?_
                              rw [show (23 : Int32) = nI 23 - nI 0 from by decide]
                              refine xi_istore (q := 649) dX9_run_647 (Nat.le_of_ble_eq_true rfl) rfl ?_
                              refine xv_weakS (lv' := [(0, .ref 83), (6, .int (nI kq)), (7, .int (nI v0)), (8, .int (nI T)), (9, .int (nI k)), (10, .int (xs_lc F v 0)), (11, .int (nI 23 - nI 0))]) ⟨rfl, rfl, rfl, rfl, rfl, rfl, rfl, trivial⟩ ?_
                              refine xv_lp (lv := fun j => [(0, .ref 83), (6, .int (nI kq)), (7, .int (nI v0)), (8, .int (nI T)), (9, .int (nI k)), (10, .int (xs_lc F v j)), (11, .int (nI 23 - nI j))]) (N := 24) (k0 := 0) (by omega) (fun j hj ih649 => ?_)
                              show xv_V X mX9_run Post 0 0 649 [(0, .ref 83), (6, .int (nI kq)), (7, .int (nI v0)), (8, .int (nI T)), (9, .int (nI k)), (10, .int (xs_lc F v j)), (11, .int (nI 23 - nI j))] [] _ n
                              refine xi_iload (q := 651) dX9_run_649 rfl rfl ?_
                              refine xi_if_lt (q := 654) (q2 := 764) dX9_run_651 (by decide) rfl (fun c_651 => ?_) (fun c_651 => ?_)
                              · have hj24 : j = 24 := by have z := (xn_dnlt (a := 23) (r := j) (by omega) (by omega)).mp c_651; omega
                                obtain ⟨cK, hcK⟩ : ∃ c, c = xs_cx MM CC kq k T := ⟨_, rfl⟩
                                rw [← hcK] at hx
                                obtain ⟨hm0, hmt, -⟩ := xn_candS (by rw [← hF]; exact hx.1)
                                rw [hj24, show xs_lc F v 24 = nI cK from by rw [hx.2.2.1]; exact xn_lc 24 (by omega) hx.2.2.2]
                                refine xi_aload_n (q := 765) dX9_run_764 rfl rfl ?_
                                refine xi_getf (q := 768) dX9_run_765 fl_X9_59 ⟨by omega, p83_634⟩ rfl rfl ?_
                                refine xi_iload (q := 770) dX9_run_768 rfl rfl ?_
                                refine xi_iload (q := 772) dX9_run_770 rfl rfl ?_
                                refine xi_iast (q := 773) dX9_run_772 ⟨by omega, p100_634⟩ (xv_ixN (by omega) (by omega)) rfl ?_
                                refine xi_aload_n (q := 774) dX9_run_773 rfl rfl ?_
                                refine xi_getf (q := 777) dX9_run_774 fl_X9_62 (xv_keep (by omega) ⟨by omega, p83_634⟩) rfl rfl ?_
                                refine xi_iload (q := 779) dX9_run_777 rfl rfl ?_
                                refine xi_aload_n (q := 780) dX9_run_779 rfl rfl ?_
                                refine xi_getf (q := 783) dX9_run_780 fl_X9_50 (xv_keep (by omega) ⟨by omega, p83_634⟩) rfl rfl ?_
                                refine xi_bipush (x := 24) (q := 785) dX9_run_783 (by decide) rfl ?_
                                refine xi_iload (q := 787) dX9_run_785 rfl rfl ?_
                                refine xi_imul (q := 788) dX9_run_787 rfl ?_
                                refine xi_iload (q := 790) dX9_run_788 rfl rfl ?_
                                refine xi_iadd (q := 791) dX9_run_790 rfl ?_
                                refine xi_iald (q := 792) dX9_run_791 (xv_keep (by omega) ⟨by omega, p97_634⟩) (xn_ixM (a := 24) (p := k) (k := cK) (by omega) (by omega)) rfl ?_
                                rw [(hT k cK hk2 hx.2.1).1, xn_mm1 hm0]
                                refine xi_iast (q := 793) dX9_run_792 (xv_keep (by omega) ⟨by omega, p101_634⟩) (xv_ixN (by omega) (by omega)) rfl ?_
                                refine xi_aload_n (q := 794) dX9_run_793 rfl rfl ?_
                                refine xi_getf (q := 797) dX9_run_794 fl_X9_65 (xv_keep (by omega) (xv_keep (by omega) ⟨by omega, p83_634⟩)) rfl rfl ?_
                                refine xi_iload (q := 799) dX9_run_797 rfl rfl ?_
                                refine xi_aload_n (q := 800) dX9_run_799 rfl rfl ?_
                                refine xi_getf (q := 803) dX9_run_800 fl_X9_53 (xv_keep (by omega) (xv_keep (by omega) ⟨by omega, p83_634⟩)) rfl rfl ?_
                                refine xi_bipush (x := 24) (q := 805) dX9_run_803 (by decide) rfl ?_
                                refine xi_iload (q := 807) dX9_run_805 rfl rfl ?_
                                refine xi_imul (q := 808) dX9_run_807 rfl ?_
                                refine xi_iload (q := 810) dX9_run_808 rfl rfl ?_
                                refine xi_iadd (q := 811) dX9_run_810 rfl ?_
                                refine xi_iald (q := 812) dX9_run_811 (xv_keep (by omega) (xv_keep (by omega) ⟨by omega, p98_634⟩)) (xn_ixM (a := 24) (p := k) (k := cK) (by omega) (by omega)) rfl ?_
                                rw [(hT k cK hk2 hx.2.1).2]
                                refine xi_iast (q := 813) dX9_run_812 (xv_keep (by omega) (xv_keep (by omega) ⟨by omega, p102_634⟩)) (xv_ixN (by omega) (by omega)) rfl ?_
                                refine xi_iload (q := 815) dX9_run_813 rfl rfl ?_
                                refine xi_aload_n (q := 816) dX9_run_815 rfl rfl ?_
                                refine xi_getf (q := 819) dX9_run_816 fl_X9_62 (xv_keep (by omega) (xv_keep (by omega) (xv_keep (by omega) ⟨by omega, p83_634⟩))) rfl rfl ?_
                                refine xi_iload (q := 821) dX9_run_819 rfl rfl ?_
                                refine xi_iald (q := 822) dX9_run_821 (xv_keep (by omega) (xv_self (by omega))) (xv_ixN (by omega) (by omega)) rfl ?_
                                rw [pk_us]
                                refine xi_isub (q := 823) dX9_run_822 rfl ?_
                                rw [xn_subN hmt, show T - MM k cK = (xs_tt MM CC kq kw (k + 1)) from by show _ = (xs_tt MM CC kq kw k) - MM k (xs_cx MM CC kq k (xs_tt MM CC kq kw k)); rw [← hT3, ← hcK]]
                                refine xi_istore (q := 825) dX9_run_823 (Nat.le_of_ble_eq_true rfl) rfl ?_
                                refine xi_iinc (y := nI (k + 1)) (q := 828) dX9_run_825 rfl (xn_inc k) (Nat.le_of_ble_eq_true rfl) rfl ?_
                                refine xi_goto (q := 634) dX9_run_828 (by decide) ?_
                                refine xv_weakS (lv' := [(0, .ref 83), (6, .int (nI kq)), (7, .int (nI v0)), (8, .int (nI (xs_tt MM CC kq kw (k + 1)))), (9, .int (nI (k + 1)))]) ⟨rfl, rfl, rfl, rfl, rfl, trivial⟩ ?_
                                exact ih634 _ (by omega) ⟨_, _, _, _, ((va_up_ne _ _ (by omega)).trans ((va_up_ne _ _ (by omega)).trans ((va_up_ne _ _ (by omega)).trans p83_634))), ((va_up_ne _ _ (by omega)).trans ((va_up_ne _ _ (by omega)).trans ((va_up_ne _ _ (by omega)).trans p94_634))), ((va_up_ne _ _ (by omega)).trans ((va_up_ne _ _ (by omega)).trans ((va_up_ne _ _ (by omega)).trans p97_634))), ((va_up_ne _ _ (by omega)).trans ((va_up_ne _ _ (by omega)).trans ((va_up_ne _ _ (by omega)).trans p98_634))), ((va_up_ne _ _ (by omega)).trans ((va_up_ne _ _ (by omega)).trans ((va_up_ne _ _ (by omega)).trans p99_634))), ((va_up_ne _ _ (by omega)).trans ((va_up_ne _ _ (by omega)).trans ((va_up_self _ _ _).trans rfl))), ((va_up_ne _ _ (by omega)).trans ((va_up_self _ _ _).trans rfl)), ((va_up_self _ _ _).trans rfl), (fun i hi => by
                                      by_cases e : i = k
                                      · rw [e, pk_us, pk_us, pk_us, ← hT3, ← hcK]
                                        exact ⟨rfl, rfl, rfl⟩
                                      · rw [pk_un e, pk_un e, pk_un e]; exact x634 i (by omega)), fun i _ _ _ _ _ _ _ _ => ((va_up_ne _ _ (by omega)).trans ((va_up_ne _ _ (by omega)).trans ((va_up_ne _ _ (by omega)).trans (F634 i (by omega) (by omega) (by omega) (by omega) (by omega) (by omega) (by omega) (by omega)))))⟩
                              · have hj2 : j ≤ 23 := by
                                  rcases Nat.lt_or_ge 23 j with z | z
                                  · exact absurd ((xn_dnlt (a := 23) (r := j) (by omega) (by omega)).mpr z) c_651
                                  · exact z
                                rw [show nI 23 - nI j = nI (23 - j) from xn_subN hj2]
                                have hmb := hMb k (23 - j) hk2
                                refine xi_aload_n (q := 655) dX9_run_654 rfl rfl ?_
                                refine xi_getf (q := 658) dX9_run_655 fl_X9_50 ⟨by omega, p83_634⟩ rfl rfl ?_
                                refine xi_bipush (x := 24) (q := 660) dX9_run_658 (by decide) rfl ?_
                                refine xi_iload (q := 662) dX9_run_660 rfl rfl ?_
                                refine xi_imul (q := 663) dX9_run_662 rfl ?_
                                refine xi_iload (q := 665) dX9_run_663 rfl rfl ?_
                                refine xi_iadd (q := 666) dX9_run_665 rfl ?_
                                refine xi_iald (q := 667) dX9_run_666 ⟨by omega, p97_634⟩ (xn_ixM (a := 24) (p := k) (k := 23 - j) (by omega) (by omega)) rfl ?_
                                rw [(hT k (23 - j) hk2 (by omega)).1]
                                refine xi_istore (q := 669) dX9_run_667 (Nat.le_of_ble_eq_true rfl) rfl ?_
                                refine xi_iload (q := 671) dX9_run_669 rfl rfl ?_
                                refine xi_ldc (q := 673) dX9_run_671 kc_X9_158 rfl ?_
                                refine xi_icmp_eq (q := 676) (q2 := 683) dX9_run_673 (by decide) rfl (fun c_673 => ?_) (fun c_673 => ?_)
                                · skip
                                  refine xi_ldc (q := 685) dX9_run_683 kc_X9_158 rfl ?_
                                  refine xi_goto (q := 707) dX9_run_685 (by decide) ?_
                                  refine xi_istore (q := 709) dX9_run_707 (Nat.le_of_ble_eq_true rfl) rfl ?_
                                  refine xi_iload (q := 711) dX9_run_709 rfl rfl ?_
                                  refine xi_ldc (q := 713) dX9_run_711 kc_X9_158 rfl ?_
                                  refine xi_icmp_eq (q := 716) (q2 := 754) dX9_run_713 (by decide) rfl (fun c_713 => ?_) (fun c_713 => ?_)
                                  · skip
                                    refine xi_iload (q := 756) dX9_run_754 rfl rfl ?_
                                    refine xi_istore (q := 758) dX9_run_756 (Nat.le_of_ble_eq_true rfl) rfl ?_
                                    refine xi_iinc (q := 761) dX9_run_758 rfl rfl (Nat.le_of_ble_eq_true rfl) rfl ?_
                                    rw [show nI (23 - j) + Int32.ofInt (-1) = nI 23 - nI (j + 1) from by rw [← xn_subN hj2]; exact xn_dn1]
                                    refine xi_goto (q := 649) dX9_run_761 (by decide) ?_
                                    rw [show xs_lc F v j = xs_lc F v (j + 1) from (if_neg (fun z => by rw [hF, xn_cn0 (Or.inl ((xn_mm hmb).mp c_673))] at z; cases z)).symm]
                                    refine xv_weakS (lv' := [(0, .ref 83), (6, .int (nI kq)), (7, .int (nI v0)), (8, .int (nI T)), (9, .int (nI k)), (10, .int (xs_lc F v (j + 1))), (11, .int (nI 23 - nI (j + 1)))]) ⟨rfl, rfl, rfl, rfl, rfl, rfl, rfl, trivial⟩ ?_
                                    have Q := ih649 (by omega)
                                    skip
                                    exact Q
                                  · exact absurd rfl c_713
                                · have hm0 : ¬ MM k (23 - j) = 0 := fun z => c_673 ((xn_mm hmb).mpr z)
                                  rw [xn_mm1 hm0]
                                  refine xi_iload (q := 678) dX9_run_676 rfl rfl ?_
                                  refine xi_iload (q := 680) dX9_run_678 rfl rfl ?_
                                  refine xi_icmp_le (q := 683) (q2 := 688) dX9_run_680 (by decide) rfl (fun c_680 => ?_) (fun c_680 => ?_)
                                  · have hmt : MM k (23 - j) ≤ T := xn_leN c_680 (by omega) (by omega)
                                    refine xi_aload_n (q := 689) dX9_run_688 rfl rfl ?_
                                    refine xi_getf (q := 692) dX9_run_689 fl_X9_56 ⟨by omega, p83_634⟩ rfl rfl ?_
                                    refine xi_sipush (x := 1001) (q := 695) dX9_run_692 (by decide) rfl ?_
                                    refine xi_iload (q := 697) dX9_run_695 rfl rfl ?_
                                    refine xi_iconst (x := 1) (q := 698) dX9_run_697 (by decide) rfl ?_
                                    refine xi_iadd (q := 699) dX9_run_698 rfl ?_
                                    refine xi_imul (q := 700) dX9_run_699 rfl ?_
                                    refine xi_iload (q := 702) dX9_run_700 rfl rfl ?_
                                    refine xi_iadd (q := 703) dX9_run_702 rfl ?_
                                    refine xi_iload (q := 705) dX9_run_703 rfl rfl ?_
                                    refine xi_isub (q := 706) dX9_run_705 rfl ?_
                                    refine xi_iald (q := 707) dX9_run_706 ⟨by omega, p99_634⟩ (by rw [nI_1, show (1001 * nI (k + 1) : Int32) = nI (1001 * (k + 1)) from pk_mul 1001 (k + 1), nI_add, xn_subN (by omega)]; exact xv_ixN (by omega) (by omega)) rfl ?_
                                    rw [show g99_416 (1001 * (k + 1) + T - MM k (23 - j)) = xs_en2 (xs_bc MM CC kq (kq - (k + 1)) (T - MM k (23 - j))) from by rw [show 1001 * (k + 1) + T - MM k (23 - j) = 1001 * (kq - (kq - (k + 1))) + (T - MM k (23 - j)) by omega]; exact x416 _ _ (by omega) (by omega)]
                                    refine xi_istore (q := 709) dX9_run_707 (Nat.le_of_ble_eq_true rfl) rfl ?_
                                    refine xi_iload (q := 711) dX9_run_709 rfl rfl ?_
                                    refine xi_ldc (q := 713) dX9_run_711 kc_X9_158 rfl ?_
                                    refine xi_icmp_eq (q := 716) (q2 := 754) dX9_run_713 (by decide) rfl (fun c_713 => ?_) (fun c_713 => ?_)
                                    · skip
                                      refine xi_iload (q := 756) dX9_run_754 rfl rfl ?_
                                      refine xi_istore (q := 758) dX9_run_756 (Nat.le_of_ble_eq_true rfl) rfl ?_
                                      refine xi_iinc (q := 761) dX9_run_758 rfl rfl (Nat.le_of_ble_eq_true rfl) rfl ?_
                                      rw [show nI (23 - j) + Int32.ofInt (-1) = nI 23 - nI (j + 1) from by rw [← xn_subN hj2]; exact xn_dn1]
                                      refine xi_goto (q := 649) dX9_run_761 (by decide) ?_
                                      rw [show xs_lc F v j = xs_lc F v (j + 1) from (if_neg (fun z => by rw [hF, xn_cn1 hm0 hmt, (xn_en2 (fun v hv => by have := hBd (kq - (k + 1)) (T - MM k (23 - j)) (by omega) v hv; omega)).mp c_713] at z; cases z)).symm]
                                      refine xv_weakS (lv' := [(0, .ref 83), (6, .int (nI kq)), (7, .int (nI v0)), (8, .int (nI T)), (9, .int (nI k)), (10, .int (xs_lc F v (j + 1))), (11, .int (nI 23 - nI (j + 1)))]) ⟨rfl, rfl, rfl, rfl, rfl, rfl, rfl, trivial⟩ ?_
                                      have Q := ih649 (by omega)
                                      skip
                                      exact Q
                                    · obtain ⟨u, hu⟩ : ∃ u, xs_bc MM CC kq (kq - (k + 1)) (T - MM k (23 - j)) = some u := by
                                        cases h : xs_bc MM CC kq (kq - (k + 1)) (T - MM k (23 - j)) with
                                        | none => exact absurd (by rw [h]; rfl) c_713
                                        | some v => exact ⟨v, rfl⟩
                                      rw [show xs_en2 (xs_bc MM CC kq (kq - (k + 1)) (T - MM k (23 - j))) = nI u from by rw [hu]; rfl]
                                      have hFc0 : F (23 - j) = some (u + CC k (23 - j)) := by rw [hF, xn_cn1 hm0 hmt, hu, Nat.add_comm]; rfl
                                      have hub := hBd (kq - (k + 1)) (T - MM k (23 - j)) (by omega) u hu
                                      have hcb := hCb k (23 - j) hk2 (by omega)
                                      refine xi_iload (q := 718) dX9_run_716 rfl rfl ?_
                                      refine xi_aload_n (q := 719) dX9_run_718 rfl rfl ?_
                                      refine xi_getf (q := 722) dX9_run_719 fl_X9_53 ⟨by omega, p83_634⟩ rfl rfl ?_
                                      refine xi_bipush (x := 24) (q := 724) dX9_run_722 (by decide) rfl ?_
                                      refine xi_iload (q := 726) dX9_run_724 rfl rfl ?_
                                      refine xi_imul (q := 727) dX9_run_726 rfl ?_
                                      refine xi_iload (q := 729) dX9_run_727 rfl rfl ?_
                                      refine xi_iadd (q := 730) dX9_run_729 rfl ?_
                                      refine xi_iald (q := 731) dX9_run_730 ⟨by omega, p98_634⟩ (xn_ixM (a := 24) (p := k) (k := 23 - j) (by omega) (by omega)) rfl ?_
                                      rw [(hT k (23 - j) hk2 (by omega)).2]
                                      refine xi_iadd (q := 732) dX9_run_731 rfl ?_
                                      rw [nI_add]
                                      refine xi_aload_n (q := 733) dX9_run_732 rfl rfl ?_
                                      refine xi_getf (q := 736) dX9_run_733 fl_X9_56 ⟨by omega, p83_634⟩ rfl rfl ?_
                                      refine xi_sipush (x := 1001) (q := 739) dX9_run_736 (by decide) rfl ?_
                                      refine xi_iload (q := 741) dX9_run_739 rfl rfl ?_
                                      refine xi_imul (q := 742) dX9_run_741 rfl ?_
                                      refine xi_iload (q := 744) dX9_run_742 rfl rfl ?_
                                      refine xi_iadd (q := 745) dX9_run_744 rfl ?_
                                      refine xi_iald (q := 746) dX9_run_745 ⟨by omega, p99_634⟩ (xn_ixM (a := 1001) (p := k) (k := T) (by omega) (by omega)) rfl ?_
                                      rw [show g99_416 (1001 * k + T) = nI v from by have z := x416 (kq - k) T (by omega) (by omega); rw [show kq - (kq - k) = k by omega, hv] at z; exact z]
                                      refine xi_icmp_ne (q := 749) (q2 := 754) dX9_run_746 (by decide) rfl (fun c_746 => ?_) (fun c_746 => ?_)
                                      · skip
                                        refine xi_iload (q := 756) dX9_run_754 rfl rfl ?_
                                        refine xi_istore (q := 758) dX9_run_756 (Nat.le_of_ble_eq_true rfl) rfl ?_
                                        refine xi_iinc (q := 761) dX9_run_758 rfl rfl (Nat.le_of_ble_eq_true rfl) rfl ?_
                                        rw [show nI (23 - j) + Int32.ofInt (-1) = nI 23 - nI (j + 1) from by rw [← xn_subN hj2]; exact xn_dn1]
                                        refine xi_goto (q := 649) dX9_run_761 (by decide) ?_
                                        rw [show xs_lc F v j = xs_lc F v (j + 1) from (if_neg (fun z => c_746 (by rw [hFc0] at z; rw [Option.some.inj z]))).symm]
                                        refine xv_weakS (lv' := [(0, .ref 83), (6, .int (nI kq)), (7, .int (nI v0)), (8, .int (nI T)), (9, .int (nI k)), (10, .int (xs_lc F v (j + 1))), (11, .int (nI 23 - nI (j + 1)))]) ⟨rfl, rfl, rfl, rfl, rfl, rfl, rfl, trivial⟩ ?_
                                        have Q := ih649 (by omega)
                                        skip
                                        exact Q
                                      · have hFc : F (23 - j) = some v := by
                                          have z : nI (u + CC k (23 - j)) = nI v := by first | exact c_746 | exact Decidable.of_not_not c_746
                                          rw [hFc0, (nI_eq (by omega) (by omega)).mp z]
                                        refine xi_iload (q := 751) dX9_run_749 rfl rfl ?_
                                        refine xi_goto (q := 756) dX9_run_751 (by decide) ?_
                                        refine xi_istore (q := 758) dX9_run_756 (Nat.le_of_ble_eq_true rfl) rfl ?_
                                        refine xi_iinc (q := 761) dX9_run_758 rfl rfl (Nat.le_of_ble_eq_true rfl) rfl ?_
                                        rw [show nI (23 - j) + Int32.ofInt (-1) = nI 23 - nI (j + 1) from by rw [← xn_subN hj2]; exact xn_dn1]
                                        refine xi_goto (q := 649) dX9_run_761 (by decide) ?_
                                        refine xv_weakS (lv' := [(0, .ref 83), (6, .int (nI kq)), (7, .int (nI v0)), (8, .int (nI T)), (9, .int (nI k)), (10, .int (nI (23 - j))), (11, .int (nI 23 - nI (j + 1)))]) ⟨rfl, rfl, rfl, rfl, rfl, rfl, rfl, trivial⟩ ?_
                                        have Q := ih649 (by omega)
                                        rw [show xs_lc F v (j + 1) = nI (23 - j) from if_pos hFc] at Q
                                        exact Q
                                  · skip
                                    refine xi_ldc (q := 685) dX9_run_683 kc_X9_158 rfl ?_
                                    refine xi_goto (q := 707) dX9_run_685 (by decide) ?_
                                    refine xi_istore (q := 709) dX9_run_707 (Nat.le_of_ble_eq_true rfl) rfl ?_
                                    refine xi_iload (q := 711) dX9_run_709 rfl rfl ?_
                                    refine xi_ldc (q := 713) dX9_run_711 kc_X9_158 rfl ?_
                                    refine xi_icmp_eq (q := 716) (q2 := 754) dX9_run_713 (by decide) rfl (fun c_713 => ?_) (fun c_713 => ?_)
                                    · skip
                                      refine xi_iload (q := 756) dX9_run_754 rfl rfl ?_
                                      refine xi_istore (q := 758) dX9_run_756 (Nat.le_of_ble_eq_true rfl) rfl ?_
                                      refine xi_iinc (q := 761) dX9_run_758 rfl rfl (Nat.le_of_ble_eq_true rfl) rfl ?_
                                      rw [show nI (23 - j) + Int32.ofInt (-1) = nI 23 - nI (j + 1) from by rw [← xn_subN hj2]; exact xn_dn1]
                                      refine xi_goto (q := 649) dX9_run_761 (by decide) ?_
                                      rw [show xs_lc F v j = xs_lc F v (j + 1) from (if_neg (fun z => by rw [hF, xn_cn0 (Or.inr (xn_nleN c_680 (by omega) (by omega)))] at z; cases z)).symm]
                                      refine xv_weakS (lv' := [(0, .ref 83), (6, .int (nI kq)), (7, .int (nI v0)), (8, .int (nI T)), (9, .int (nI k)), (10, .int (xs_lc F v (j + 1))), (11, .int (nI 23 - nI (j + 1)))]) ⟨rfl, rfl, rfl, rfl, rfl, rfl, rfl, trivial⟩ ?_
                                      have Q := ih649 (by omega)
                                      skip
                                      exact Q
                                    · exact absurd rfl c_713
                          · have e0 : xs_bc MM CC kq kq kw = none := (xn_en2 (fun v hv => by have := hBd kq kw (Nat.le_refl _) v hv; omega)).mp (by first | exact c_616 | exact Decidable.of_not_not c_616)
                            have hbc : xs_bc (xs_rMC σ kp ks ki b).1 (xs_rMC σ kp ks ki b).2 = xs_bc MM CC ∧ xs_kk (xs_rMC σ kp ks ki b).1 (xs_rMC σ kp ks ki b).2 = xs_kk MM CC := by
                              have e1 : (xs_rMC σ kp ks ki b).1 = MM := by rw [hMM, hWO, hRO]; rfl
                              have e2 : (xs_rMC σ kp ks ki b).2 = CC := by rw [hCC, hDO, hRO]; rfl
                              rw [e1, e2]
                              exact ⟨rfl, rfl⟩
                            have eN : xs_rno σ kp ks ki kq kw b = (-1000000, xs_fd σ 0) := by
                              unfold xs_rno
                              rw [hbc.1, e0]
                              rfl
                            refine xi_ldc (q := 621) dX9_run_619 kc_X9_158 rfl ?_
                            refine xi_ret ⟨_, rfl, rfl, dX9_run_621⟩ (Nat.zero_le _) (Nat.zero_le _) ?_
                            exact xs_finM (σ' := (xs_fd σ 0)) hp (by simp only [xs_run, xs_onE, xs_onP, xs_fn, xs_an, Bool.not_false, Bool.not_true, Bool.true_or, Bool.false_or, Bool.and_true, Bool.true_and, Bool.and_false, Bool.false_and, Bool.false_eq_true, if_true, if_false, ↓reduceIte, g_9, g_21, g_33, g_41, g_54, eq_false y66, eq_false y76, g_108, gt, eN, xs_kk0 (k := kp) (by omega), xs_kk0 (k := kw) (by omega), xs_kk0 (k := ks) (by omega), xs_kk0 (k := kq) (by omega), xs_kk0 (k := ki) (by omega)] <;> rfl) _ (xs_Mx (σ' := (xs_fd σ 0)) hM hR (fa := (upd (upd (C 83) 0 0) 1 0)) p83_416 (fun j hj => (pk_un (by omega)).trans ((pk_un (by omega)).trans (rfl))) ((F416 88 (by omega) (by omega) (by omega) (by omega) (by omega)).trans (xs_M88 hM)) (fun _ _ => rfl) p94_416 ((F416 95 (by omega) (by omega) (by omega) (by omega) (by omega)).trans (xs_M95 hM)) ((F416 96 (by omega) (by omega) (by omega) (by omega) (by omega)).trans (xs_M96 hM)) p97_416 p98_416 p99_416 (fun i i1 i2 i3 i4 => (F416 i (by omega) (by omega) (by omega) (by omega) (by omega))) xs_fdo rfl) (fun i hi => (F416 i (by omega) (by omega) (by omega) (by omega) (by omega)))
                        · have hr2 : r ≤ kq := by
                            rcases Nat.lt_or_ge kq r with z | z
                            · exact absurd ((xn_dnlt (by omega) (by omega)).mpr z) c_418
                            · exact z
                          obtain ⟨K, hK⟩ : ∃ K, K = kq - r := ⟨_, rfl⟩
                          rw [show nI kq - nI r = nI K from by rw [hK]; exact xn_subN hr2]
                          refine xi_iconst (x := 0) (q := 422) dX9_run_421 (by decide) rfl ?_
                          refine xi_istore (q := 424) dX9_run_422 (Nat.le_of_ble_eq_true rfl) rfl ?_
                          refine xv_weakS (lv' := [(0, .ref 83), (3, .int (nI kw)), (6, .int (nI kq)), (7, .int (nI K)), (8, .int (nI 0))]) ⟨rfl, rfl, rfl, rfl, rfl, trivial⟩ ?_
                          refine xv_lpH (lv := fun t => [(0, .ref 83), (3, .int (nI kw)), (6, .int (nI kq)), (7, .int (nI K)), (8, .int (nI t))]) (I := fun t hI => ∃ (dI : Int64) (g99 : Nat → Int32), hI 83 = xs_mo (upd (upd (C 83) 0 0) 1 0) dI ∧ hI 94 = xs_ia 48 g94_215 ∧ hI 97 = xs_ia 240 g97_215 ∧ hI 98 = xs_ia 240 g98_215 ∧ hI 99 = xs_ia 11011 g99 ∧ ((∀ r' u, r' < r → u ≤ kw → g99 (1001 * (kq - r') + u) = xs_en2 (xs_bc MM CC kq r' u)) ∧ ∀ u, u < t → g99 (1001 * K + u) = xs_en2 (xs_bc MM CC kq r u)) ∧ ∀ i, i ≠ 83 → i ≠ 94 → i ≠ 97 → i ≠ 98 → i ≠ 99 → hI i = h i) (N := (kw + 1)) (fun t h424 ht I424 ih424 => ?_) 0 _ (by omega) ⟨_, _, p83_416, p94_416, p97_416, p98_416, p99_416, ⟨x416, fun _ h => absurd h (by omega)⟩, fun i _ _ _ _ _ => (F416 i (by omega) (by omega) (by omega) (by omega) (by omega))⟩
                          show xv_V X mX9_run Post 0 0 424 [(0, .ref 83), (3, .int (nI kw)), (6, .int (nI kq)), (7, .int (nI K)), (8, .int (nI t))] [] h424 n
                          obtain ⟨d424, g99_424, p83_424, p94_424, p97_424, p98_424, p99_424, x424, F424⟩ := I424
                          refine xi_iload (q := 426) dX9_run_424 rfl rfl ?_
                          refine xi_iload_n (q := 427) dX9_run_426 rfl rfl ?_
                          refine xi_icmp_gt (q := 430) (q2 := 598) dX9_run_427 (by decide) rfl (fun c_427 => ?_) (fun c_427 => ?_)
                          · have ht2 : t = kw + 1 := by have z := (nI_ltI (by omega) (by omega)).mp c_427; omega
                            rw [ht2] at x424
                            refine xi_iinc (q := 601) dX9_run_598 rfl rfl (Nat.le_of_ble_eq_true rfl) rfl ?_
                            rw [show nI K + Int32.ofInt (-1) = nI kq - nI (r + 1) from by rw [hK, ← xn_subN hr2]; exact xn_dn1]
                            refine xi_goto (q := 416) dX9_run_601 (by decide) ?_
                            refine xv_weakS (lv' := [(0, .ref 83), (3, .int (nI kw)), (6, .int (nI kq)), (7, .int (nI kq - nI (r + 1)))]) ⟨rfl, rfl, rfl, rfl, trivial⟩ ?_
                            have Q := ih416 _ (by omega) ⟨_, _, p83_424, p94_424, p97_424, p98_424, p99_424, (fun r' u h1 h2 => by
                                  rcases Nat.lt_or_ge r' r with z | z
                                  · exact x424.1 r' u z h2
                                  · rw [show r' = r by omega, ← hK]; exact x424.2 u (by omega)), fun i _ _ _ _ _ => (F424 i (by omega) (by omega) (by omega) (by omega) (by omega))⟩
                            rw [xn_dw kq (r + 1)] at Q
                            exact Q
                          · have ht2 : t ≤ kw := by
                              rcases Nat.lt_or_ge kw t with z | z
                              · exact absurd ((nI_ltI (by omega) (by omega)).mpr z) c_427
                              · exact z
                            refine xi_iload (q := 432) dX9_run_430 rfl rfl ?_
                            refine xi_iload (q := 434) dX9_run_432 rfl rfl ?_
                            refine xi_icmp_ne (q := 437) (q2 := 441) dX9_run_434 (by decide) rfl (fun c_434 => ?_) (fun c_434 => ?_)
                            · have r0 : ¬ r = 0 := fun z => c_434 (by rw [hK, z, Nat.sub_zero])
                              refine xi_ldc (q := 443) dX9_run_441 kc_X9_158 rfl ?_
                              rw [show (-1000000 : Int32) = (xs_bv (MM K) (CC K) (xs_bc MM CC kq (r - 1)) r t 0) from (if_neg r0).symm]
                              refine xi_istore (q := 445) dX9_run_443 (Nat.le_of_ble_eq_true rfl) rfl ?_
                              refine xi_iconst (x := 0) (q := 446) dX9_run_445 (by decide) rfl ?_
                              refine xi_istore (q := 448) dX9_run_446 (Nat.le_of_ble_eq_true rfl) rfl ?_
                              refine xv_weakS (lv' := [(0, .ref 83), (3, .int (nI kw)), (6, .int (nI kq)), (7, .int (nI K)), (8, .int (nI t)), (9, .int (xs_bv (MM K) (CC K) (xs_bc MM CC kq (r - 1)) r t 0)), (10, .int (nI 0))]) ⟨rfl, rfl, rfl, rfl, rfl, rfl, rfl, trivial⟩ ?_
                              refine xv_lp (lv := fun c => [(0, .ref 83), (3, .int (nI kw)), (6, .int (nI kq)), (7, .int (nI K)), (8, .int (nI t)), (9, .int (xs_bv (MM K) (CC K) (xs_bc MM CC kq (r - 1)) r t c)), (10, .int (nI c))]) (N := 24) (k0 := 0) (by omega) (fun c hc ih448 => ?_)
                              show xv_V X mX9_run Post 0 0 448 [(0, .ref 83), (3, .int (nI kw)), (6, .int (nI kq)), (7, .int (nI K)), (8, .int (nI t)), (9, .int (xs_bv (MM K) (CC K) (xs_bc MM CC kq (r - 1)) r t c)), (10, .int (nI c))] [] _ n
                              refine xi_iload (q := 450) dX9_run_448 rfl rfl ?_
                              refine xi_bipush (x := 24) (q := 452) dX9_run_450 (by decide) rfl ?_
                              refine xi_icmp_ge (q := 455) (q2 := 576) dX9_run_452 (by decide) rfl (fun c_452 => ?_) (fun c_452 => ?_)
                              · have hc3 : c = 24 := by have z : 24 ≤ c := xn_leN c_452 (by omega) (by omega); omega
                                rw [show (xs_bv (MM K) (CC K) (xs_bc MM CC kq (r - 1)) r t c) = xs_en2 (xs_bc MM CC kq r t) from by rw [hK]; exact xn_bv24 hr2 (Or.inl hc3)]
                                refine xi_aload_n (q := 577) dX9_run_576 rfl rfl ?_
                                refine xi_getf (q := 580) dX9_run_577 fl_X9_56 ⟨by omega, p83_424⟩ rfl rfl ?_
                                refine xi_sipush (x := 1001) (q := 583) dX9_run_580 (by decide) rfl ?_
                                refine xi_iload (q := 585) dX9_run_583 rfl rfl ?_
                                refine xi_imul (q := 586) dX9_run_585 rfl ?_
                                refine xi_iload (q := 588) dX9_run_586 rfl rfl ?_
                                refine xi_iadd (q := 589) dX9_run_588 rfl ?_
                                refine xi_iload (q := 591) dX9_run_589 rfl rfl ?_
                                refine xi_iast (q := 592) dX9_run_591 ⟨by omega, p99_424⟩ (xn_ixM (a := 1001) (p := K) (k := t) (by omega) (by omega)) rfl ?_
                                refine xi_iinc (y := nI (t + 1)) (q := 595) dX9_run_592 rfl (xn_inc t) (Nat.le_of_ble_eq_true rfl) rfl ?_
                                refine xi_goto (q := 424) dX9_run_595 (by decide) ?_
                                refine xv_weakS (lv' := [(0, .ref 83), (3, .int (nI kw)), (6, .int (nI kq)), (7, .int (nI K)), (8, .int (nI (t + 1)))]) ⟨rfl, rfl, rfl, rfl, rfl, trivial⟩ ?_
                                exact ih424 _ (by omega) ⟨_, _, ((va_up_ne _ _ (by omega)).trans p83_424), ((va_up_ne _ _ (by omega)).trans p94_424), ((va_up_ne _ _ (by omega)).trans p97_424), ((va_up_ne _ _ (by omega)).trans p98_424), ((va_up_self _ _ _).trans rfl), ⟨fun r' u h1 h2 => (pk_un (by omega)).trans (x424.1 r' u h1 h2), fun u hu => by
                                      by_cases e : u = t
                                      · rw [e, pk_us]
                                      · rw [pk_un (by omega)]; exact x424.2 u (by omega)⟩, fun i _ _ _ _ _ => ((va_up_ne _ _ (by omega)).trans (F424 i (by omega) (by omega) (by omega) (by omega) (by omega)))⟩
                              · have hc2 : c < 24 := xn_nleN c_452 (by omega) (by omega)
                                refine xi_iload (q := 457) dX9_run_455 rfl rfl ?_
                                refine xi_iload (q := 459) dX9_run_457 rfl rfl ?_
                                refine xi_icmp_ge (q := 462) (q2 := 576) dX9_run_459 (by decide) rfl (fun c_459 => ?_) (fun c_459 => ?_)
                                · have r1 : r = 0 := by have z : kq ≤ K := xn_leN c_459 (by omega) (by omega); omega
                                  rw [show (xs_bv (MM K) (CC K) (xs_bc MM CC kq (r - 1)) r t c) = xs_en2 (xs_bc MM CC kq r t) from by rw [hK]; exact xn_bv24 hr2 (Or.inr r1)]
                                  refine xi_aload_n (q := 577) dX9_run_576 rfl rfl ?_
                                  refine xi_getf (q := 580) dX9_run_577 fl_X9_56 ⟨by omega, p83_424⟩ rfl rfl ?_
                                  refine xi_sipush (x := 1001) (q := 583) dX9_run_580 (by decide) rfl ?_
                                  refine xi_iload (q := 585) dX9_run_583 rfl rfl ?_
                                  refine xi_imul (q := 586) dX9_run_585 rfl ?_
                                  refine xi_iload (q := 588) dX9_run_586 rfl rfl ?_
                                  refine xi_iadd (q := 589) dX9_run_588 rfl ?_
                                  refine xi_iload (q := 591) dX9_run_589 rfl rfl ?_
                                  refine xi_iast (q := 592) dX9_run_591 ⟨by omega, p99_424⟩ (xn_ixM (a := 1001) (p := K) (k := t) (by omega) (by omega)) rfl ?_
                                  refine xi_iinc (y := nI (t + 1)) (q := 595) dX9_run_592 rfl (xn_inc t) (Nat.le_of_ble_eq_true rfl) rfl ?_
                                  refine xi_goto (q := 424) dX9_run_595 (by decide) ?_
                                  refine xv_weakS (lv' := [(0, .ref 83), (3, .int (nI kw)), (6, .int (nI kq)), (7, .int (nI K)), (8, .int (nI (t + 1)))]) ⟨rfl, rfl, rfl, rfl, rfl, trivial⟩ ?_
                                  exact ih424 _ (by omega) ⟨_, _, ((va_up_ne _ _ (by omega)).trans p83_424), ((va_up_ne _ _ (by omega)).trans p94_424), ((va_up_ne _ _ (by omega)).trans p97_424), ((va_up_ne _ _ (by omega)).trans p98_424), ((va_up_self _ _ _).trans rfl), ⟨fun r' u h1 h2 => (pk_un (by omega)).trans (x424.1 r' u h1 h2), fun u hu => by
                                        by_cases e : u = t
                                        · rw [e, pk_us]
                                        · rw [pk_un (by omega)]; exact x424.2 u (by omega)⟩, fun i _ _ _ _ _ => ((va_up_ne _ _ (by omega)).trans (F424 i (by omega) (by omega) (by omega) (by omega) (by omega)))⟩
                                · have hKq : K < kq := xn_nleN c_459 (by omega) (by omega)
                                  have r1 : ¬ r = 0 := by omega
                                  obtain ⟨F, hF⟩ : ∃ F, F = xs_cand (MM K) (CC K) (xs_bc MM CC kq (r - 1)) t := ⟨_, rfl⟩
                                  rw [show (xs_bv (MM K) (CC K) (xs_bc MM CC kq (r - 1)) r t c) = xs_en2 (xs_mn F c) from by rw [hF]; exact if_neg r1]
                                  have hmb := hMb K c hKq
                                  refine xi_aload_n (q := 463) dX9_run_462 rfl rfl ?_
                                  refine xi_getf (q := 466) dX9_run_463 fl_X9_50 ⟨by omega, p83_424⟩ rfl rfl ?_
                                  refine xi_bipush (x := 24) (q := 468) dX9_run_466 (by decide) rfl ?_
                                  refine xi_iload (q := 470) dX9_run_468 rfl rfl ?_
                                  refine xi_imul (q := 471) dX9_run_470 rfl ?_
                                  refine xi_iload (q := 473) dX9_run_471 rfl rfl ?_
                                  refine xi_iadd (q := 474) dX9_run_473 rfl ?_
                                  refine xi_iald (q := 475) dX9_run_474 ⟨by omega, p97_424⟩ (xn_ixM (a := 24) (p := K) (k := c) (by omega) (by omega)) rfl ?_
                                  rw [(hT K c hKq hc2).1]
                                  refine xi_istore (q := 477) dX9_run_475 (Nat.le_of_ble_eq_true rfl) rfl ?_
                                  refine xi_iload (q := 479) dX9_run_477 rfl rfl ?_
                                  refine xi_ldc (q := 481) dX9_run_479 kc_X9_158 rfl ?_
                                  refine xi_icmp_eq (q := 484) (q2 := 491) dX9_run_481 (by decide) rfl (fun c_481 => ?_) (fun c_481 => ?_)
                                  · skip
                                    refine xi_ldc (q := 493) dX9_run_491 kc_X9_158 rfl ?_
                                    refine xi_goto (q := 515) dX9_run_493 (by decide) ?_
                                    refine xi_istore (q := 517) dX9_run_515 (Nat.le_of_ble_eq_true rfl) rfl ?_
                                    refine xi_iload (q := 519) dX9_run_517 rfl rfl ?_
                                    refine xi_ldc (q := 521) dX9_run_519 kc_X9_158 rfl ?_
                                    refine xi_icmp_eq (q := 524) (q2 := 570) dX9_run_521 (by decide) rfl (fun c_521 => ?_) (fun c_521 => ?_)
                                    · skip
                                      refine xi_iinc (y := nI (c + 1)) (q := 573) dX9_run_570 rfl (xn_inc c) (Nat.le_of_ble_eq_true rfl) rfl ?_
                                      refine xi_goto (q := 448) dX9_run_573 (by decide) ?_
                                      rw [xn_st0 (f := F) (show F c = none from by rw [hF]; exact xn_cn0 (Or.inl ((xn_mm hmb).mp c_481)))]
                                      refine xv_weakS (lv' := [(0, .ref 83), (3, .int (nI kw)), (6, .int (nI kq)), (7, .int (nI K)), (8, .int (nI t)), (9, .int (xs_en2 (xs_mn F (c + 1)))), (10, .int (nI (c + 1)))]) ⟨rfl, rfl, rfl, rfl, rfl, rfl, rfl, trivial⟩ ?_
                                      have Q := ih448 (by omega)
                                      rw [show (xs_bv (MM K) (CC K) (xs_bc MM CC kq (r - 1)) r t (c + 1)) = (xs_en2 (xs_mn F (c + 1))) from by rw [hF]; exact if_neg r1] at Q
                                      exact Q
                                    · exact absurd rfl c_521
                                  · have hm0 : ¬ MM K c = 0 := fun z => c_481 ((xn_mm hmb).mpr z)
                                    rw [xn_mm1 hm0]
                                    refine xi_iload (q := 486) dX9_run_484 rfl rfl ?_
                                    refine xi_iload (q := 488) dX9_run_486 rfl rfl ?_
                                    refine xi_icmp_le (q := 491) (q2 := 496) dX9_run_488 (by decide) rfl (fun c_488 => ?_) (fun c_488 => ?_)
                                    · have hmt : MM K c ≤ t := xn_leN c_488 (by omega) (by omega)
                                      refine xi_aload_n (q := 497) dX9_run_496 rfl rfl ?_
                                      refine xi_getf (q := 500) dX9_run_497 fl_X9_56 ⟨by omega, p83_424⟩ rfl rfl ?_
                                      refine xi_sipush (x := 1001) (q := 503) dX9_run_500 (by decide) rfl ?_
                                      refine xi_iload (q := 505) dX9_run_503 rfl rfl ?_
                                      refine xi_iconst (x := 1) (q := 506) dX9_run_505 (by decide) rfl ?_
                                      refine xi_iadd (q := 507) dX9_run_506 rfl ?_
                                      refine xi_imul (q := 508) dX9_run_507 rfl ?_
                                      refine xi_iload (q := 510) dX9_run_508 rfl rfl ?_
                                      refine xi_iadd (q := 511) dX9_run_510 rfl ?_
                                      refine xi_iload (q := 513) dX9_run_511 rfl rfl ?_
                                      refine xi_isub (q := 514) dX9_run_513 rfl ?_
                                      refine xi_iald (q := 515) dX9_run_514 ⟨by omega, p99_424⟩ (by rw [nI_1, show (1001 * nI (K + 1) : Int32) = nI (1001 * (K + 1)) from pk_mul 1001 (K + 1), nI_add, xn_subN (by omega)]; exact xv_ixN (by omega) (by omega)) rfl ?_
                                      rw [show g99_424 (1001 * (K + 1) + t - MM K c) = xs_en2 (xs_bc MM CC kq (r - 1) (t - MM K c)) from by rw [show 1001 * (K + 1) + t - MM K c = 1001 * (kq - (r - 1)) + (t - MM K c) by omega]; exact x424.1 (r - 1) _ (by omega) (by omega)]
                                      refine xi_istore (q := 517) dX9_run_515 (Nat.le_of_ble_eq_true rfl) rfl ?_
                                      refine xi_iload (q := 519) dX9_run_517 rfl rfl ?_
                                      refine xi_ldc (q := 521) dX9_run_519 kc_X9_158 rfl ?_
                                      refine xi_icmp_eq (q := 524) (q2 := 570) dX9_run_521 (by decide) rfl (fun c_521 => ?_) (fun c_521 => ?_)
                                      · skip
                                        refine xi_iinc (y := nI (c + 1)) (q := 573) dX9_run_570 rfl (xn_inc c) (Nat.le_of_ble_eq_true rfl) rfl ?_
                                        refine xi_goto (q := 448) dX9_run_573 (by decide) ?_
                                        rw [xn_st0 (f := F) (show F c = none from by rw [hF]; rw [xn_cn1 hm0 hmt, (xn_en2 (fun v hv => by have := hBd (r - 1) (t - MM K c) (by omega) v hv; omega)).mp c_521]; rfl)]
                                        refine xv_weakS (lv' := [(0, .ref 83), (3, .int (nI kw)), (6, .int (nI kq)), (7, .int (nI K)), (8, .int (nI t)), (9, .int (xs_en2 (xs_mn F (c + 1)))), (10, .int (nI (c + 1)))]) ⟨rfl, rfl, rfl, rfl, rfl, rfl, rfl, trivial⟩ ?_
                                        have Q := ih448 (by omega)
                                        rw [show (xs_bv (MM K) (CC K) (xs_bc MM CC kq (r - 1)) r t (c + 1)) = (xs_en2 (xs_mn F (c + 1))) from by rw [hF]; exact if_neg r1] at Q
                                        exact Q
                                      · obtain ⟨u, hu⟩ : ∃ u, xs_bc MM CC kq (r - 1) (t - MM K c) = some u := by
                                          cases h : xs_bc MM CC kq (r - 1) (t - MM K c) with
                                          | none => exact absurd (by rw [h]; rfl) c_521
                                          | some v => exact ⟨v, rfl⟩
                                        rw [show xs_en2 (xs_bc MM CC kq (r - 1) (t - MM K c)) = nI u from by rw [hu]; rfl]
                                        have hFc : F c = some (u + CC K c) := by rw [hF, xn_cn1 hm0 hmt, hu, Nat.add_comm]; rfl
                                        have hub := hBd (r - 1) (t - MM K c) (by omega) u hu
                                        have hcb := hCb K c hKq hc2
                                        have hbF : xs_bd 500000000 (xs_mn F c) := by
                                          rw [hF]
                                          intro v hv
                                          have := xn_bdm (K := (r - 1) * 500000 + 500000) (f := xs_cand (MM K) (CC K) (xs_bc MM CC kq (r - 1)) t) (fun c hc => xn_bdc (hCb K c hKq hc) (fun t => hBd (r - 1) t (by omega))) c (by omega) v hv
                                          omega
                                        refine xi_iload (q := 526) dX9_run_524 rfl rfl ?_
                                        refine xi_ldc (q := 528) dX9_run_526 kc_X9_158 rfl ?_
                                        refine xi_icmp_eq (q := 531) (q2 := 552) dX9_run_528 (by decide) rfl (fun c_528 => ?_) (fun c_528 => ?_)
                                        · skip
                                          refine xi_iload (q := 554) dX9_run_552 rfl rfl ?_
                                          refine xi_aload_n (q := 555) dX9_run_554 rfl rfl ?_
                                          refine xi_getf (q := 558) dX9_run_555 fl_X9_53 ⟨by omega, p83_424⟩ rfl rfl ?_
                                          refine xi_bipush (x := 24) (q := 560) dX9_run_558 (by decide) rfl ?_
                                          refine xi_iload (q := 562) dX9_run_560 rfl rfl ?_
                                          refine xi_imul (q := 563) dX9_run_562 rfl ?_
                                          refine xi_iload (q := 565) dX9_run_563 rfl rfl ?_
                                          refine xi_iadd (q := 566) dX9_run_565 rfl ?_
                                          refine xi_iald (q := 567) dX9_run_566 ⟨by omega, p98_424⟩ (xn_ixM (a := 24) (p := K) (k := c) (by omega) (by omega)) rfl ?_
                                          rw [(hT K c hKq hc2).2]
                                          refine xi_iadd (q := 568) dX9_run_567 rfl ?_
                                          rw [nI_add]
                                          refine xi_istore (q := 570) dX9_run_568 (Nat.le_of_ble_eq_true rfl) rfl ?_
                                          refine xi_iinc (y := nI (c + 1)) (q := 573) dX9_run_570 rfl (xn_inc c) (Nat.le_of_ble_eq_true rfl) rfl ?_
                                          refine xi_goto (q := 448) dX9_run_573 (by decide) ?_
                                          rw [show nI (u + CC K c) = xs_en2 (xs_mn F (c + 1)) from xn_st1 hbF (by omega) hFc (Or.inl c_528)]
                                          refine xv_weakS (lv' := [(0, .ref 83), (3, .int (nI kw)), (6, .int (nI kq)), (7, .int (nI K)), (8, .int (nI t)), (9, .int (xs_en2 (xs_mn F (c + 1)))), (10, .int (nI (c + 1)))]) ⟨rfl, rfl, rfl, rfl, rfl, rfl, rfl, trivial⟩ ?_
                                          have Q := ih448 (by omega)
                                          rw [show (xs_bv (MM K) (CC K) (xs_bc MM CC kq (r - 1)) r t (c + 1)) = (xs_en2 (xs_mn F (c + 1))) from by rw [hF]; exact if_neg r1] at Q
                                          exact Q
                                        · skip
                                          refine xi_iload (q := 533) dX9_run_531 rfl rfl ?_
                                          refine xi_aload_n (q := 534) dX9_run_533 rfl rfl ?_
                                          refine xi_getf (q := 537) dX9_run_534 fl_X9_53 ⟨by omega, p83_424⟩ rfl rfl ?_
                                          refine xi_bipush (x := 24) (q := 539) dX9_run_537 (by decide) rfl ?_
                                          refine xi_iload (q := 541) dX9_run_539 rfl rfl ?_
                                          refine xi_imul (q := 542) dX9_run_541 rfl ?_
                                          refine xi_iload (q := 544) dX9_run_542 rfl rfl ?_
                                          refine xi_iadd (q := 545) dX9_run_544 rfl ?_
                                          refine xi_iald (q := 546) dX9_run_545 ⟨by omega, p98_424⟩ (xn_ixM (a := 24) (p := K) (k := c) (by omega) (by omega)) rfl ?_
                                          rw [(hT K c hKq hc2).2]
                                          refine xi_iadd (q := 547) dX9_run_546 rfl ?_
                                          rw [nI_add]
                                          refine xi_iload (q := 549) dX9_run_547 rfl rfl ?_
                                          refine xi_icmp_ge (q := 552) (q2 := 570) dX9_run_549 (by decide) rfl (fun c_549 => ?_) (fun c_549 => ?_)
                                          · skip
                                            refine xi_iinc (y := nI (c + 1)) (q := 573) dX9_run_570 rfl (xn_inc c) (Nat.le_of_ble_eq_true rfl) rfl ?_
                                            refine xi_goto (q := 448) dX9_run_573 (by decide) ?_
                                            rw [xn_st3 hbF (by omega) hFc c_528 c_549]
                                            refine xv_weakS (lv' := [(0, .ref 83), (3, .int (nI kw)), (6, .int (nI kq)), (7, .int (nI K)), (8, .int (nI t)), (9, .int (xs_en2 (xs_mn F (c + 1)))), (10, .int (nI (c + 1)))]) ⟨rfl, rfl, rfl, rfl, rfl, rfl, rfl, trivial⟩ ?_
                                            have Q := ih448 (by omega)
                                            rw [show (xs_bv (MM K) (CC K) (xs_bc MM CC kq (r - 1)) r t (c + 1)) = (xs_en2 (xs_mn F (c + 1))) from by rw [hF]; exact if_neg r1] at Q
                                            exact Q
                                          · skip
                                            refine xi_iload (q := 554) dX9_run_552 rfl rfl ?_
                                            refine xi_aload_n (q := 555) dX9_run_554 rfl rfl ?_
                                            refine xi_getf (q := 558) dX9_run_555 fl_X9_53 ⟨by omega, p83_424⟩ rfl rfl ?_
                                            refine xi_bipush (x := 24) (q := 560) dX9_run_558 (by decide) rfl ?_
                                            refine xi_iload (q := 562) dX9_run_560 rfl rfl ?_
                                            refine xi_imul (q := 563) dX9_run_562 rfl ?_
                                            refine xi_iload (q := 565) dX9_run_563 rfl rfl ?_
                                            refine xi_iadd (q := 566) dX9_run_565 rfl ?_
                                            refine xi_iald (q := 567) dX9_run_566 ⟨by omega, p98_424⟩ (xn_ixM (a := 24) (p := K) (k := c) (by omega) (by omega)) rfl ?_
                                            rw [(hT K c hKq hc2).2]
                                            refine xi_iadd (q := 568) dX9_run_567 rfl ?_
                                            rw [nI_add]
                                            refine xi_istore (q := 570) dX9_run_568 (Nat.le_of_ble_eq_true rfl) rfl ?_
                                            refine xi_iinc (y := nI (c + 1)) (q := 573) dX9_run_570 rfl (xn_inc c) (Nat.le_of_ble_eq_true rfl) rfl ?_
                                            refine xi_goto (q := 448) dX9_run_573 (by decide) ?_
                                            rw [show nI (u + CC K c) = xs_en2 (xs_mn F (c + 1)) from xn_st1 hbF (by omega) hFc (Or.inr c_549)]
                                            refine xv_weakS (lv' := [(0, .ref 83), (3, .int (nI kw)), (6, .int (nI kq)), (7, .int (nI K)), (8, .int (nI t)), (9, .int (xs_en2 (xs_mn F (c + 1)))), (10, .int (nI (c + 1)))]) ⟨rfl, rfl, rfl, rfl, rfl, rfl, rfl, trivial⟩ ?_
                                            have Q := ih448 (by omega)
                                            rw [show (xs_bv (MM K) (CC K) (xs_bc MM CC kq (r - 1)) r t (c + 1)) = (xs_en2 (xs_mn F (c + 1))) from by rw [hF]; exact if_neg r1] at Q
                                            exact Q
                                    · skip
                                      refine xi_ldc (q := 493) dX9_run_491 kc_X9_158 rfl ?_
                                      refine xi_goto (q := 515) dX9_run_493 (by decide) ?_
                                      refine xi_istore (q := 517) dX9_run_515 (Nat.le_of_ble_eq_true rfl) rfl ?_
                                      refine xi_iload (q := 519) dX9_run_517 rfl rfl ?_
                                      refine xi_ldc (q := 521) dX9_run_519 kc_X9_158 rfl ?_
                                      refine xi_icmp_eq (q := 524) (q2 := 570) dX9_run_521 (by decide) rfl (fun c_521 => ?_) (fun c_521 => ?_)
                                      · skip
                                        refine xi_iinc (y := nI (c + 1)) (q := 573) dX9_run_570 rfl (xn_inc c) (Nat.le_of_ble_eq_true rfl) rfl ?_
                                        refine xi_goto (q := 448) dX9_run_573 (by decide) ?_
                                        rw [xn_st0 (f := F) (show F c = none from by rw [hF]; exact xn_cn0 (Or.inr (xn_nleN c_488 (by omega) (by omega))))]
                                        refine xv_weakS (lv' := [(0, .ref 83), (3, .int (nI kw)), (6, .int (nI kq)), (7, .int (nI K)), (8, .int (nI t)), (9, .int (xs_en2 (xs_mn F (c + 1)))), (10, .int (nI (c + 1)))]) ⟨rfl, rfl, rfl, rfl, rfl, rfl, rfl, trivial⟩ ?_
                                        have Q := ih448 (by omega)
                                        rw [show (xs_bv (MM K) (CC K) (xs_bc MM CC kq (r - 1)) r t (c + 1)) = (xs_en2 (xs_mn F (c + 1))) from by rw [hF]; exact if_neg r1] at Q
                                        exact Q
                                      · exact absurd rfl c_521
                            · have r0 : r = 0 := by
                                have z : nI K = nI kq := by first | exact c_434 | exact Decidable.of_not_not c_434
                                have z2 := (nI_eq (by omega) (by omega)).mp z
                                omega
                              refine xi_iconst (x := 0) (q := 438) dX9_run_437 (by decide) rfl ?_
                              rw [show (0 : Int32) = (xs_bv (MM K) (CC K) (xs_bc MM CC kq (r - 1)) r t 0) from (if_pos r0).symm]
                              refine xi_goto (q := 443) dX9_run_438 (by decide) ?_
                              refine xi_istore (q := 445) dX9_run_443 (Nat.le_of_ble_eq_true rfl) rfl ?_
                              refine xi_iconst (x := 0) (q := 446) dX9_run_445 (by decide) rfl ?_
                              refine xi_istore (q := 448) dX9_run_446 (Nat.le_of_ble_eq_true rfl) rfl ?_
                              refine xv_weakS (lv' := [(0, .ref 83), (3, .int (nI kw)), (6, .int (nI kq)), (7, .int (nI K)), (8, .int (nI t)), (9, .int (xs_bv (MM K) (CC K) (xs_bc MM CC kq (r - 1)) r t 0)), (10, .int (nI 0))]) ⟨rfl, rfl, rfl, rfl, rfl, rfl, rfl, trivial⟩ ?_
                              refine xv_lp (lv := fun c => [(0, .ref 83), (3, .int (nI kw)), (6, .int (nI kq)), (7, .int (nI K)), (8, .int (nI t)), (9, .int (xs_bv (MM K) (CC K) (xs_bc MM CC kq (r - 1)) r t c)), (10, .int (nI c))]) (N := 24) (k0 := 0) (by omega) (fun c hc ih448 => ?_)
                              show xv_V X mX9_run Post 0 0 448 [(0, .ref 83), (3, .int (nI kw)), (6, .int (nI kq)), (7, .int (nI K)), (8, .int (nI t)), (9, .int (xs_bv (MM K) (CC K) (xs_bc MM CC kq (r - 1)) r t c)), (10, .int (nI c))] [] _ n
                              refine xi_iload (q := 450) dX9_run_448 rfl rfl ?_
                              refine xi_bipush (x := 24) (q := 452) dX9_run_450 (by decide) rfl ?_
                              refine xi_icmp_ge (q := 455) (q2 := 576) dX9_run_452 (by decide) rfl (fun c_452 => ?_) (fun c_452 => ?_)
                              · have hc3 : c = 24 := by have z : 24 ≤ c := xn_leN c_452 (by omega) (by omega); omega
                                rw [show (xs_bv (MM K) (CC K) (xs_bc MM CC kq (r - 1)) r t c) = xs_en2 (xs_bc MM CC kq r t) from by rw [hK]; exact xn_bv24 hr2 (Or.inl hc3)]
                                refine xi_aload_n (q := 577) dX9_run_576 rfl rfl ?_
                                refine xi_getf (q := 580) dX9_run_577 fl_X9_56 ⟨by omega, p83_424⟩ rfl rfl ?_
                                refine xi_sipush (x := 1001) (q := 583) dX9_run_580 (by decide) rfl ?_
                                refine xi_iload (q := 585) dX9_run_583 rfl rfl ?_
                                refine xi_imul (q := 586) dX9_run_585 rfl ?_
                                refine xi_iload (q := 588) dX9_run_586 rfl rfl ?_
                                refine xi_iadd (q := 589) dX9_run_588 rfl ?_
                                refine xi_iload (q := 591) dX9_run_589 rfl rfl ?_
                                refine xi_iast (q := 592) dX9_run_591 ⟨by omega, p99_424⟩ (xn_ixM (a := 1001) (p := K) (k := t) (by omega) (by omega)) rfl ?_
                                refine xi_iinc (y := nI (t + 1)) (q := 595) dX9_run_592 rfl (xn_inc t) (Nat.le_of_ble_eq_true rfl) rfl ?_
                                refine xi_goto (q := 424) dX9_run_595 (by decide) ?_
                                refine xv_weakS (lv' := [(0, .ref 83), (3, .int (nI kw)), (6, .int (nI kq)), (7, .int (nI K)), (8, .int (nI (t + 1)))]) ⟨rfl, rfl, rfl, rfl, rfl, trivial⟩ ?_
                                exact ih424 _ (by omega) ⟨_, _, ((va_up_ne _ _ (by omega)).trans p83_424), ((va_up_ne _ _ (by omega)).trans p94_424), ((va_up_ne _ _ (by omega)).trans p97_424), ((va_up_ne _ _ (by omega)).trans p98_424), ((va_up_self _ _ _).trans rfl), ⟨fun r' u h1 h2 => (pk_un (by omega)).trans (x424.1 r' u h1 h2), fun u hu => by
                                      by_cases e : u = t
                                      · rw [e, pk_us]
                                      · rw [pk_un (by omega)]; exact x424.2 u (by omega)⟩, fun i _ _ _ _ _ => ((va_up_ne _ _ (by omega)).trans (F424 i (by omega) (by omega) (by omega) (by omega) (by omega)))⟩
                              · have hc2 : c < 24 := xn_nleN c_452 (by omega) (by omega)
                                refine xi_iload (q := 457) dX9_run_455 rfl rfl ?_
                                refine xi_iload (q := 459) dX9_run_457 rfl rfl ?_
                                refine xi_icmp_ge (q := 462) (q2 := 576) dX9_run_459 (by decide) rfl (fun c_459 => ?_) (fun c_459 => ?_)
                                · have r1 : r = 0 := by have z : kq ≤ K := xn_leN c_459 (by omega) (by omega); omega
                                  rw [show (xs_bv (MM K) (CC K) (xs_bc MM CC kq (r - 1)) r t c) = xs_en2 (xs_bc MM CC kq r t) from by rw [hK]; exact xn_bv24 hr2 (Or.inr r1)]
                                  refine xi_aload_n (q := 577) dX9_run_576 rfl rfl ?_
                                  refine xi_getf (q := 580) dX9_run_577 fl_X9_56 ⟨by omega, p83_424⟩ rfl rfl ?_
                                  refine xi_sipush (x := 1001) (q := 583) dX9_run_580 (by decide) rfl ?_
                                  refine xi_iload (q := 585) dX9_run_583 rfl rfl ?_
                                  refine xi_imul (q := 586) dX9_run_585 rfl ?_
                                  refine xi_iload (q := 588) dX9_run_586 rfl rfl ?_
                                  refine xi_iadd (q := 589) dX9_run_588 rfl ?_
                                  refine xi_iload (q := 591) dX9_run_589 rfl rfl ?_
                                  refine xi_iast (q := 592) dX9_run_591 ⟨by omega, p99_424⟩ (xn_ixM (a := 1001) (p := K) (k := t) (by omega) (by omega)) rfl ?_
                                  refine xi_iinc (y := nI (t + 1)) (q := 595) dX9_run_592 rfl (xn_inc t) (Nat.le_of_ble_eq_true rfl) rfl ?_
                                  refine xi_goto (q := 424) dX9_run_595 (by decide) ?_
                                  refine xv_weakS (lv' := [(0, .ref 83), (3, .int (nI kw)), (6, .int (nI kq)), (7, .int (nI K)), (8, .int (nI (t + 1)))]) ⟨rfl, rfl, rfl, rfl, rfl, trivial⟩ ?_
                                  exact ih424 _ (by omega) ⟨_, _, ((va_up_ne _ _ (by omega)).trans p83_424), ((va_up_ne _ _ (by omega)).trans p94_424), ((va_up_ne _ _ (by omega)).trans p97_424), ((va_up_ne _ _ (by omega)).trans p98_424), ((va_up_self _ _ _).trans rfl), ⟨fun r' u h1 h2 => (pk_un (by omega)).trans (x424.1 r' u h1 h2), fun u hu => by
                                        by_cases e : u = t
                                        · rw [e, pk_us]
                                        · rw [pk_un (by omega)]; exact x424.2 u (by omega)⟩, fun i _ _ _ _ _ => ((va_up_ne _ _ (by omega)).trans (F424 i (by omega) (by omega) (by omega) (by omega) (by omega)))⟩
                                · have hKq : K < kq := xn_nleN c_459 (by omega) (by omega)
                                  have r1 : ¬ r = 0 := by omega
                                  obtain ⟨F, hF⟩ : ∃ F, F = xs_cand (MM K) (CC K) (xs_bc MM CC kq (r - 1)) t := ⟨_, rfl⟩
                                  rw [show (xs_bv (MM K) (CC K) (xs_bc MM CC kq (r - 1)) r t c) = xs_en2 (xs_mn F c) from by rw [hF]; exact if_neg r1]
                                  have hmb := hMb K c hKq
                                  refine xi_aload_n (q := 463) dX9_run_462 rfl rfl ?_
                                  refine xi_getf (q := 466) dX9_run_463 fl_X9_50 ⟨by omega, p83_424⟩ rfl rfl ?_
                                  refine xi_bipush (x := 24) (q := 468) dX9_run_466 (by decide) rfl ?_
                                  refine xi_iload (q := 470) dX9_run_468 rfl rfl ?_
                                  refine xi_imul (q := 471) dX9_run_470 rfl ?_
                                  refine xi_iload (q := 473) dX9_run_471 rfl rfl ?_
                                  refine xi_iadd (q := 474) dX9_run_473 rfl ?_
                                  refine xi_iald (q := 475) dX9_run_474 ⟨by omega, p97_424⟩ (xn_ixM (a := 24) (p := K) (k := c) (by omega) (by omega)) rfl ?_
                                  rw [(hT K c hKq hc2).1]
                                  refine xi_istore (q := 477) dX9_run_475 (Nat.le_of_ble_eq_true rfl) rfl ?_
                                  refine xi_iload (q := 479) dX9_run_477 rfl rfl ?_
                                  refine xi_ldc (q := 481) dX9_run_479 kc_X9_158 rfl ?_
                                  refine xi_icmp_eq (q := 484) (q2 := 491) dX9_run_481 (by decide) rfl (fun c_481 => ?_) (fun c_481 => ?_)
                                  · skip
                                    refine xi_ldc (q := 493) dX9_run_491 kc_X9_158 rfl ?_
                                    refine xi_goto (q := 515) dX9_run_493 (by decide) ?_
                                    refine xi_istore (q := 517) dX9_run_515 (Nat.le_of_ble_eq_true rfl) rfl ?_
                                    refine xi_iload (q := 519) dX9_run_517 rfl rfl ?_
                                    refine xi_ldc (q := 521) dX9_run_519 kc_X9_158 rfl ?_
                                    refine xi_icmp_eq (q := 524) (q2 := 570) dX9_run_521 (by decide) rfl (fun c_521 => ?_) (fun c_521 => ?_)
                                    · skip
                                      refine xi_iinc (y := nI (c + 1)) (q := 573) dX9_run_570 rfl (xn_inc c) (Nat.le_of_ble_eq_true rfl) rfl ?_
                                      refine xi_goto (q := 448) dX9_run_573 (by decide) ?_
                                      rw [xn_st0 (f := F) (show F c = none from by rw [hF]; exact xn_cn0 (Or.inl ((xn_mm hmb).mp c_481)))]
                                      refine xv_weakS (lv' := [(0, .ref 83), (3, .int (nI kw)), (6, .int (nI kq)), (7, .int (nI K)), (8, .int (nI t)), (9, .int (xs_en2 (xs_mn F (c + 1)))), (10, .int (nI (c + 1)))]) ⟨rfl, rfl, rfl, rfl, rfl, rfl, rfl, trivial⟩ ?_
                                      have Q := ih448 (by omega)
                                      rw [show (xs_bv (MM K) (CC K) (xs_bc MM CC kq (r - 1)) r t (c + 1)) = (xs_en2 (xs_mn F (c + 1))) from by rw [hF]; exact if_neg r1] at Q
                                      exact Q
                                    · exact absurd rfl c_521
                                  · have hm0 : ¬ MM K c = 0 := fun z => c_481 ((xn_mm hmb).mpr z)
                                    rw [xn_mm1 hm0]
                                    refine xi_iload (q := 486) dX9_run_484 rfl rfl ?_
                                    refine xi_iload (q := 488) dX9_run_486 rfl rfl ?_
                                    refine xi_icmp_le (q := 491) (q2 := 496) dX9_run_488 (by decide) rfl (fun c_488 => ?_) (fun c_488 => ?_)
                                    · have hmt : MM K c ≤ t := xn_leN c_488 (by omega) (by omega)
                                      refine xi_aload_n (q := 497) dX9_run_496 rfl rfl ?_
                                      refine xi_getf (q := 500) dX9_run_497 fl_X9_56 ⟨by omega, p83_424⟩ rfl rfl ?_
                                      refine xi_sipush (x := 1001) (q := 503) dX9_run_500 (by decide) rfl ?_
                                      refine xi_iload (q := 505) dX9_run_503 rfl rfl ?_
                                      refine xi_iconst (x := 1) (q := 506) dX9_run_505 (by decide) rfl ?_
                                      refine xi_iadd (q := 507) dX9_run_506 rfl ?_
                                      refine xi_imul (q := 508) dX9_run_507 rfl ?_
                                      refine xi_iload (q := 510) dX9_run_508 rfl rfl ?_
                                      refine xi_iadd (q := 511) dX9_run_510 rfl ?_
                                      refine xi_iload (q := 513) dX9_run_511 rfl rfl ?_
                                      refine xi_isub (q := 514) dX9_run_513 rfl ?_
                                      refine xi_iald (q := 515) dX9_run_514 ⟨by omega, p99_424⟩ (by rw [nI_1, show (1001 * nI (K + 1) : Int32) = nI (1001 * (K + 1)) from pk_mul 1001 (K + 1), nI_add, xn_subN (by omega)]; exact xv_ixN (by omega) (by omega)) rfl ?_
                                      rw [show g99_424 (1001 * (K + 1) + t - MM K c) = xs_en2 (xs_bc MM CC kq (r - 1) (t - MM K c)) from by rw [show 1001 * (K + 1) + t - MM K c = 1001 * (kq - (r - 1)) + (t - MM K c) by omega]; exact x424.1 (r - 1) _ (by omega) (by omega)]
                                      refine xi_istore (q := 517) dX9_run_515 (Nat.le_of_ble_eq_true rfl) rfl ?_
                                      refine xi_iload (q := 519) dX9_run_517 rfl rfl ?_
                                      refine xi_ldc (q := 521) dX9_run_519 kc_X9_158 rfl ?_
                                      refine xi_icmp_eq (q := 524) (q2 := 570) dX9_run_521 (by decide) rfl (fun c_521 => ?_) (fun c_521 => ?_)
                                      · skip
                                        refine xi_iinc (y := nI (c + 1)) (q := 573) dX9_run_570 rfl (xn_inc c) (Nat.le_of_ble_eq_true rfl) rfl ?_
                                        refine xi_goto (q := 448) dX9_run_573 (by decide) ?_
                                        rw [xn_st0 (f := F) (show F c = none from by rw [hF]; rw [xn_cn1 hm0 hmt, (xn_en2 (fun v hv => by have := hBd (r - 1) (t - MM K c) (by omega) v hv; omega)).mp c_521]; rfl)]
                                        refine xv_weakS (lv' := [(0, .ref 83), (3, .int (nI kw)), (6, .int (nI kq)), (7, .int (nI K)), (8, .int (nI t)), (9, .int (xs_en2 (xs_mn F (c + 1)))), (10, .int (nI (c + 1)))]) ⟨rfl, rfl, rfl, rfl, rfl, rfl, rfl, trivial⟩ ?_
                                        have Q := ih448 (by omega)
                                        rw [show (xs_bv (MM K) (CC K) (xs_bc MM CC kq (r - 1)) r t (c + 1)) = (xs_en2 (xs_mn F (c + 1))) from by rw [hF]; exact if_neg r1] at Q
                                        exact Q
                                      · obtain ⟨u, hu⟩ : ∃ u, xs_bc MM CC kq (r - 1) (t - MM K c) = some u := by
                                          cases h : xs_bc MM CC kq (r - 1) (t - MM K c) with
                                          | none => exact absurd (by rw [h]; rfl) c_521
                                          | some v => exact ⟨v, rfl⟩
                                        rw [show xs_en2 (xs_bc MM CC kq (r - 1) (t - MM K c)) = nI u from by rw [hu]; rfl]
                                        have hFc : F c = some (u + CC K c) := by rw [hF, xn_cn1 hm0 hmt, hu, Nat.add_comm]; rfl
                                        have hub := hBd (r - 1) (t - MM K c) (by omega) u hu
                                        have hcb := hCb K c hKq hc2
                                        have hbF : xs_bd 500000000 (xs_mn F c) := by
                                          rw [hF]
                                          intro v hv
                                          have := xn_bdm (K := (r - 1) * 500000 + 500000) (f := xs_cand (MM K) (CC K) (xs_bc MM CC kq (r - 1)) t) (fun c hc => xn_bdc (hCb K c hKq hc) (fun t => hBd (r - 1) t (by omega))) c (by omega) v hv
                                          omega
                                        refine xi_iload (q := 526) dX9_run_524 rfl rfl ?_
                                        refine xi_ldc (q := 528) dX9_run_526 kc_X9_158 rfl ?_
                                        refine xi_icmp_eq (q := 531) (q2 := 552) dX9_run_528 (by decide) rfl (fun c_528 => ?_) (fun c_528 => ?_)
                                        · skip
                                          refine xi_iload (q := 554) dX9_run_552 rfl rfl ?_
                                          refine xi_aload_n (q := 555) dX9_run_554 rfl rfl ?_
                                          refine xi_getf (q := 558) dX9_run_555 fl_X9_53 ⟨by omega, p83_424⟩ rfl rfl ?_
                                          refine xi_bipush (x := 24) (q := 560) dX9_run_558 (by decide) rfl ?_
                                          refine xi_iload (q := 562) dX9_run_560 rfl rfl ?_
                                          refine xi_imul (q := 563) dX9_run_562 rfl ?_
                                          refine xi_iload (q := 565) dX9_run_563 rfl rfl ?_
                                          refine xi_iadd (q := 566) dX9_run_565 rfl ?_
                                          refine xi_iald (q := 567) dX9_run_566 ⟨by omega, p98_424⟩ (xn_ixM (a := 24) (p := K) (k := c) (by omega) (by omega)) rfl ?_
                                          rw [(hT K c hKq hc2).2]
                                          refine xi_iadd (q := 568) dX9_run_567 rfl ?_
                                          rw [nI_add]
                                          refine xi_istore (q := 570) dX9_run_568 (Nat.le_of_ble_eq_true rfl) rfl ?_
                                          refine xi_iinc (y := nI (c + 1)) (q := 573) dX9_run_570 rfl (xn_inc c) (Nat.le_of_ble_eq_true rfl) rfl ?_
                                          refine xi_goto (q := 448) dX9_run_573 (by decide) ?_
                                          rw [show nI (u + CC K c) = xs_en2 (xs_mn F (c + 1)) from xn_st1 hbF (by omega) hFc (Or.inl c_528)]
                                          refine xv_weakS (lv' := [(0, .ref 83), (3, .int (nI kw)), (6, .int (nI kq)), (7, .int (nI K)), (8, .int (nI t)), (9, .int (xs_en2 (xs_mn F (c + 1)))), (10, .int (nI (c + 1)))]) ⟨rfl, rfl, rfl, rfl, rfl, rfl, rfl, trivial⟩ ?_
                                          have Q := ih448 (by omega)
                                          rw [show (xs_bv (MM K) (CC K) (xs_bc MM CC kq (r - 1)) r t (c + 1)) = (xs_en2 (xs_mn F (c + 1))) from by rw [hF]; exact if_neg r1] at Q
                                          exact Q
                                        · skip
                                          refine xi_iload (q := 533) dX9_run_531 rfl rfl ?_
                                          refine xi_aload_n (q := 534) dX9_run_533 rfl rfl ?_
                                          refine xi_getf (q := 537) dX9_run_534 fl_X9_53 ⟨by omega, p83_424⟩ rfl rfl ?_
                                          refine xi_bipush (x := 24) (q := 539) dX9_run_537 (by decide) rfl ?_
                                          refine xi_iload (q := 541) dX9_run_539 rfl rfl ?_
                                          refine xi_imul (q := 542) dX9_run_541 rfl ?_
                                          refine xi_iload (q := 544) dX9_run_542 rfl rfl ?_
                                          refine xi_iadd (q := 545) dX9_run_544 rfl ?_
                                          refine xi_iald (q := 546) dX9_run_545 ⟨by omega, p98_424⟩ (xn_ixM (a := 24) (p := K) (k := c) (by omega) (by omega)) rfl ?_
                                          rw [(hT K c hKq hc2).2]
                                          refine xi_iadd (q := 547) dX9_run_546 rfl ?_
                                          rw [nI_add]
                                          refine xi_iload (q := 549) dX9_run_547 rfl rfl ?_
                                          refine xi_icmp_ge (q := 552) (q2 := 570) dX9_run_549 (by decide) rfl (fun c_549 => ?_) (fun c_549 => ?_)
                                          · skip
                                            refine xi_iinc (y := nI (c + 1)) (q := 573) dX9_run_570 rfl (xn_inc c) (Nat.le_of_ble_eq_true rfl) rfl ?_
                                            refine xi_goto (q := 448) dX9_run_573 (by decide) ?_
                                            rw [xn_st3 hbF (by omega) hFc c_528 c_549]
                                            refine xv_weakS (lv' := [(0, .ref 83), (3, .int (nI kw)), (6, .int (nI kq)), (7, .int (nI K)), (8, .int (nI t)), (9, .int (xs_en2 (xs_mn F (c + 1)))), (10, .int (nI (c + 1)))]) ⟨rfl, rfl, rfl, rfl, rfl, rfl, rfl, trivial⟩ ?_
                                            have Q := ih448 (by omega)
                                            rw [show (xs_bv (MM K) (CC K) (xs_bc MM CC kq (r - 1)) r t (c + 1)) = (xs_en2 (xs_mn F (c + 1))) from by rw [hF]; exact if_neg r1] at Q
                                            exact Q
                                          · skip
                                            refine xi_iload (q := 554) dX9_run_552 rfl rfl ?_
                                            refine xi_aload_n (q := 555) dX9_run_554 rfl rfl ?_
                                            refine xi_getf (q := 558) dX9_run_555 fl_X9_53 ⟨by omega, p83_424⟩ rfl rfl ?_
                                            refine xi_bipush (x := 24) (q := 560) dX9_run_558 (by decide) rfl ?_
                                            refine xi_iload (q := 562) dX9_run_560 rfl rfl ?_
                                            refine xi_imul (q := 563) dX9_run_562 rfl ?_
                                            refine xi_iload (q := 565) dX9_run_563 rfl rfl ?_
                                            refine xi_iadd (q := 566) dX9_run_565 rfl ?_
                                            refine xi_iald (q := 567) dX9_run_566 ⟨by omega, p98_424⟩ (xn_ixM (a := 24) (p := K) (k := c) (by omega) (by omega)) rfl ?_
                                            rw [(hT K c hKq hc2).2]
                                            refine xi_iadd (q := 568) dX9_run_567 rfl ?_
                                            rw [nI_add]
                                            refine xi_istore (q := 570) dX9_run_568 (Nat.le_of_ble_eq_true rfl) rfl ?_
                                            refine xi_iinc (y := nI (c + 1)) (q := 573) dX9_run_570 rfl (xn_inc c) (Nat.le_of_ble_eq_true rfl) rfl ?_
                                            refine xi_goto (q := 448) dX9_run_573 (by decide) ?_
                                            rw [show nI (u + CC K c) = xs_en2 (xs_mn F (c + 1)) from xn_st1 hbF (by omega) hFc (Or.inr c_549)]
                                            refine xv_weakS (lv' := [(0, .ref 83), (3, .int (nI kw)), (6, .int (nI kq)), (7, .int (nI K)), (8, .int (nI t)), (9, .int (xs_en2 (xs_mn F (c + 1)))), (10, .int (nI (c + 1)))]) ⟨rfl, rfl, rfl, rfl, rfl, rfl, rfl, trivial⟩ ?_
                                            have Q := ih448 (by omega)
                                            rw [show (xs_bv (MM K) (CC K) (xs_bc MM CC kq (r - 1)) r t (c + 1)) = (xs_en2 (xs_mn F (c + 1))) from by rw [hF]; exact if_neg r1] at Q
                                            exact Q
                                    · skip
                                      refine xi_ldc (q := 493) dX9_run_491 kc_X9_158 rfl ?_
                                      refine xi_goto (q := 515) dX9_run_493 (by decide) ?_
                                      refine xi_istore (q := 517) dX9_run_515 (Nat.le_of_ble_eq_true rfl) rfl ?_
                                      refine xi_iload (q := 519) dX9_run_517 rfl rfl ?_
                                      refine xi_ldc (q := 521) dX9_run_519 kc_X9_158 rfl ?_
                                      refine xi_icmp_eq (q := 524) (q2 := 570) dX9_run_521 (by decide) rfl (fun c_521 => ?_) (fun c_521 => ?_)
                                      · skip
                                        refine xi_iinc (y := nI (c + 1)) (q := 573) dX9_run_570 rfl (xn_inc c) (Nat.le_of_ble_eq_true rfl) rfl ?_
                                        refine xi_goto (q := 448) dX9_run_573 (by decide) ?_
                                        rw [xn_st0 (f := F) (show F c = none from by rw [hF]; exact xn_cn0 (Or.inr (xn_nleN c_488 (by omega) (by omega))))]
                                        refine xv_weakS (lv' := [(0, .ref 83), (3, .int (nI kw)), (6, .int (nI kq)), (7, .int (nI K)), (8, .int (nI t)), (9, .int (xs_en2 (xs_mn F (c + 1)))), (10, .int (nI (c + 1)))]) ⟨rfl, rfl, rfl, rfl, rfl, rfl, rfl, trivial⟩ ?_
                                        have Q := ih448 (by omega)
                                        rw [show (xs_bv (MM K) (CC K) (xs_bc MM CC kq (r - 1)) r t (c + 1)) = (xs_en2 (xs_mn F (c + 1))) from by rw [hF]; exact if_neg r1] at Q
                                        exact Q
                                      · exact absurd rfl c_521
                      · have hk2 : k < 24 := xn_nleN c_219 (by omega) (by omega)
                        refine xi_aload_n (q := 223) dX9_run_222 rfl rfl ?_
                        refine xi_iload_n (q := 224) dX9_run_223 rfl rfl ?_
                        refine xi_iconst (x := 1) (q := 225) dX9_run_224 (by decide) rfl ?_
                        refine xi_iload (q := 227) dX9_run_225 rfl rfl ?_
                        refine xi_iconst (x := 4) (q := 228) dX9_run_227 (by decide) rfl ?_
                        refine xi_idiv (q := 229) dX9_run_228 (by decide) rfl ?_
                        refine xi_iadd (q := 230) dX9_run_229 rfl ?_
                        refine xi_iload_n (q := 231) dX9_run_230 rfl rfl ?_
                        refine xi_iconst (x := 1) (q := 232) dX9_run_231 (by decide) rfl ?_
                        refine xi_iload (q := 234) dX9_run_232 rfl rfl ?_
                        refine xi_iconst (x := 4) (q := 235) dX9_run_234 (by decide) rfl ?_
                        refine xi_irem (q := 236) dX9_run_235 (by decide) rfl ?_
                        refine xi_iadd (q := 237) dX9_run_236 rfl ?_
                        refine xv_cV4 (q := 240) xm_X9_workOf ln_X9_219 dX9_run_237 ⟨by omega, p83_215⟩ rfl ⟨(Nat.le_of_ble_eq_true rfl), (Nat.le_of_ble_eq_true rfl)⟩ (Nat.le_of_ble_eq_true rfl) ⟨rfl, rfl⟩ rfl (Nat.zero_le _) (Nat.zero_le _) ?_
                        refine ⟨(upd (upd (C 83) 0 0) 1 0), d215, (C 88), kp, _, _, _, _, rfl, ⟨p83_215, ((F215 88 (by omega) (by omega) (by omega) (by omega)).trans (xs_M88 hM)), ((F215 93 (by omega) (by omega) (by omega) (by omega)).trans (xs_M93 hM))⟩, by omega, by omega, (xe_ok (xs_hq hR (by omega)) (hV.2.2.2.1 kp (by omega) y66).1), p94_215, fun h237 d237 r237 p237 q237 f237 => ?_⟩
                        have Fh237 : ∀ i, i ≠ 83 → i ≠ 94 → i ≠ 97 → i ≠ 98 → h237 i = h i := fun i j83 j94 j97 j98 => (f237 i (by omega) (by omega)).trans (F215 i (by omega) (by omega) (by omega) (by omega))
                        rw [xs_hs hR (p := kp) (by omega), xe_wrk (xs_hq hR (p := kp) (by omega)), (xn_dvN hk2).1, (xn_dvN hk2).2.2, show xs_wrk (σ 4 kp) (σ 5 kp 0) (nI (1 + k / 4)) (b * nI (1 + k % 4) / 4) = WO k from by rw [hWO]; rfl]
                        refine xi_istore (q := 242) dX9_run_240 (Nat.le_of_ble_eq_true rfl) rfl ?_
                        refine xi_aload_n (q := 243) dX9_run_242 rfl rfl ?_
                        refine xi_iload_n (q := 244) dX9_run_243 rfl rfl ?_
                        refine xi_iconst (x := 1) (q := 245) dX9_run_244 (by decide) rfl ?_
                        refine xi_iload (q := 247) dX9_run_245 rfl rfl ?_
                        refine xi_iconst (x := 4) (q := 248) dX9_run_247 (by decide) rfl ?_
                        refine xi_idiv (q := 249) dX9_run_248 (by decide) rfl ?_
                        refine xi_iadd (q := 250) dX9_run_249 rfl ?_
                        refine xi_iload_n (q := 251) dX9_run_250 rfl rfl ?_
                        refine xi_iconst (x := 1) (q := 252) dX9_run_251 (by decide) rfl ?_
                        refine xi_iload (q := 254) dX9_run_252 rfl rfl ?_
                        refine xi_iconst (x := 4) (q := 255) dX9_run_254 (by decide) rfl ?_
                        refine xi_irem (q := 256) dX9_run_255 (by decide) rfl ?_
                        refine xi_iadd (q := 257) dX9_run_256 rfl ?_
                        refine xv_cV4 (q := 260) xm_X9_drinkOf ln_X9_222 dX9_run_257 ⟨by omega, p237⟩ rfl ⟨(Nat.le_of_ble_eq_true rfl), (Nat.le_of_ble_eq_true rfl)⟩ (Nat.le_of_ble_eq_true rfl) ⟨rfl, rfl⟩ rfl (Nat.zero_le _) (Nat.zero_le _) ?_
                        refine ⟨(upd (upd (C 83) 0 0) 1 0), d237, (C 88), kp, _, _, _, _, rfl, ⟨p237, ((Fh237 88 (by omega) (by omega) (by omega) (by omega)).trans (xs_M88 hM)), ((Fh237 93 (by omega) (by omega) (by omega) (by omega)).trans (xs_M93 hM))⟩, by omega, by omega, (xe_ok (xs_hq hR (by omega)) (hV.2.2.2.1 kp (by omega) y66).1), q237, fun h257 d257 r257 p257 q257 f257 => ?_⟩
                        have Fh257 : ∀ i, i ≠ 83 → i ≠ 94 → i ≠ 97 → i ≠ 98 → h257 i = h i := fun i j83 j94 j97 j98 => (f257 i (by omega) (by omega)).trans (Fh237 i (by omega) (by omega) (by omega) (by omega))
                        rw [xs_hs hR (p := kp) (by omega), xe_drk (xs_hq hR (p := kp) (by omega)), (xn_dvN hk2).1, (xn_dvN hk2).2.2, show xs_drk (σ 4 kp) (σ 5 kp 0) (nI (1 + k / 4)) (b * nI (1 + k % 4) / 4) = DO k from by rw [hDO]; rfl]
                        refine xi_istore (q := 262) dX9_run_260 (Nat.le_of_ble_eq_true rfl) rfl ?_
                        refine xi_iconst (x := 0) (q := 263) dX9_run_262 (by decide) rfl ?_
                        refine xi_istore (q := 265) dX9_run_263 (Nat.le_of_ble_eq_true rfl) rfl ?_
                        refine xv_weakS (lv' := [(0, .ref 83), (1, .int (nI kp)), (2, .int b), (3, .int (nI kw)), (4, .int (nI ks)), (5, .int (nI ki)), (6, .int (nI kq)), (7, .int (nI k)), (8, .int (WO k)), (9, .int (DO k)), (10, .int (nI 0))]) ⟨rfl, rfl, rfl, rfl, rfl, rfl, rfl, rfl, rfl, rfl, rfl, trivial⟩ ?_
                        refine xv_lpH (lv := fun j => [(0, .ref 83), (1, .int (nI kp)), (2, .int b), (3, .int (nI kw)), (4, .int (nI ks)), (5, .int (nI ki)), (6, .int (nI kq)), (7, .int (nI k)), (8, .int (WO k)), (9, .int (DO k)), (10, .int (nI j))]) (I := fun j hI => ∃ (dI : Int64) (g94 : Nat → Int32) (g97 : Nat → Int32) (g98 : Nat → Int32), hI 83 = xs_mo (upd (upd (C 83) 0 0) 1 0) dI ∧ hI 94 = xs_ia 48 g94 ∧ hI 97 = xs_ia 240 g97 ∧ hI 98 = xs_ia 240 g98 ∧ (∀ s c, s < kq → (c < k ∨ c = k ∧ s < j) → g97 (24 * s + c) = xs_mm (MM s c) ∧ g98 (24 * s + c) = nI (CC s c)) ∧ ∀ i, i ≠ 83 → i ≠ 94 → i ≠ 97 → i ≠ 98 → hI i = h i) (N := kq) (fun j h265 hj I265 ih265 => ?_) 0 _ (by omega) ⟨_, _, _, _, p257, q257, ((f257 97 (by omega) (by omega)).trans ((f237 97 (by omega) (by omega)).trans p97_215)), ((f257 98 (by omega) (by omega)).trans ((f237 98 (by omega) (by omega)).trans p98_215)), (fun s c hs hc => x215 s c hs (hc.resolve_right (by omega))), fun i _ _ _ _ => (Fh257 i (by omega) (by omega) (by omega) (by omega))⟩
                        show xv_V X mX9_run Post 0 0 265 [(0, .ref 83), (1, .int (nI kp)), (2, .int b), (3, .int (nI kw)), (4, .int (nI ks)), (5, .int (nI ki)), (6, .int (nI kq)), (7, .int (nI k)), (8, .int (WO k)), (9, .int (DO k)), (10, .int (nI j))] [] h265 n
                        obtain ⟨d265, g94_265, g97_265, g98_265, p83_265, p94_265, p97_265, p98_265, x265, F265⟩ := I265
                        refine xi_iload (q := 267) dX9_run_265 rfl rfl ?_
                        refine xi_iload (q := 269) dX9_run_267 rfl rfl ?_
                        refine xi_icmp_ge (q := 272) (q2 := 406) dX9_run_269 (by decide) rfl (fun c_269 => ?_) (fun c_269 => ?_)
                        · have hj3 : j = kq := by have z : kq ≤ j := xn_leN c_269 (by omega) (by omega); omega
                          rw [hj3] at x265
                          refine xi_iinc (y := nI (k + 1)) (q := 409) dX9_run_406 rfl (xn_inc k) (Nat.le_of_ble_eq_true rfl) rfl ?_
                          refine xi_goto (q := 215) dX9_run_409 (by decide) ?_
                          refine xv_weakS (lv' := [(0, .ref 83), (1, .int (nI kp)), (2, .int b), (3, .int (nI kw)), (4, .int (nI ks)), (5, .int (nI ki)), (6, .int (nI kq)), (7, .int (nI (k + 1)))]) ⟨rfl, rfl, rfl, rfl, rfl, rfl, rfl, rfl, trivial⟩ ?_
                          exact ih215 _ (by omega) ⟨_, _, _, _, p83_265, p94_265, p97_265, p98_265, (fun s c hs hc => x265 s c hs (by omega)), fun i _ _ _ _ => (F265 i (by omega) (by omega) (by omega) (by omega))⟩
                        · have hj2 : j < kq := xn_nleN c_269 (by omega) (by omega)
                          refine xi_bipush (x := 60) (q := 274) dX9_run_272 (by decide) rfl ?_
                          refine xi_iload (q := 276) dX9_run_274 rfl rfl ?_
                          refine xi_imul (q := 277) dX9_run_276 rfl ?_
                          refine xi_iload (q := 279) dX9_run_277 rfl rfl ?_
                          refine xi_iadd (q := 280) dX9_run_279 rfl ?_
                          refine xi_iconst (x := 3) (q := 281) dX9_run_280 (by decide) rfl ?_
                          refine xi_iload (q := 283) dX9_run_281 rfl rfl ?_
                          refine xi_imul (q := 284) dX9_run_283 rfl ?_
                          refine xi_iadd (q := 285) dX9_run_284 rfl ?_
                          rw [show (60 * nI ks + nI ki + 3 * nI j : Int32) = nI (60 * ks + ki + 3 * j) from by rw [show (60 * nI ks : Int32) = nI (60 * ks) from pk_mul 60 ks, show (3 * nI j : Int32) = nI (3 * j) from pk_mul 3 j, nI_add, nI_add]]
                          refine xi_istore (q := 287) dX9_run_285 (Nat.le_of_ble_eq_true rfl) rfl ?_
                          refine xi_iload (q := 289) dX9_run_287 rfl rfl ?_
                          refine xi_aload_n (q := 290) dX9_run_289 rfl rfl ?_
                          refine xi_getf (q := 293) dX9_run_290 fl_X9_16 ⟨by omega, p83_265⟩ rfl rfl ?_
                          refine xi_iload (q := 295) dX9_run_293 rfl rfl ?_
                          refine xi_iconst (x := 1) (q := 296) dX9_run_295 (by decide) rfl ?_
                          refine xi_iadd (q := 297) dX9_run_296 rfl ?_
                          refine xi_iald (q := 298) dX9_run_297 ⟨by omega, ((F265 86 (by omega) (by omega) (by omega) (by omega)).trans (xs_M86 hM))⟩ (by rw [nI_1]; exact xv_ixN (by omega) (by omega)) rfl ?_
                          rw [show C 86 (60 * ks + ki + 3 * j + 1) = RO (3 * j + 1) from hit j 1 hj2 (by omega)]
                          refine xi_isub (q := 299) dX9_run_298 rfl ?_
                          refine xi_bipush (x := 10) (q := 301) dX9_run_299 (by decide) rfl ?_
                          refine xi_idiv (q := 302) dX9_run_301 (by decide) rfl ?_
                          refine xi_istore (q := 304) dX9_run_302 (Nat.le_of_ble_eq_true rfl) rfl ?_
                          refine xi_iload (q := 306) dX9_run_304 rfl rfl ?_
                          refine xi_bipush (x := 60) (q := 308) dX9_run_306 (by decide) rfl ?_
                          refine xi_icmp_le (q := 311) (q2 := 316) dX9_run_308 (by decide) rfl (fun c_308 => ?_) (fun c_308 => ?_)
                          · rw [xn_spA.1 c_308]
                            refine xi_iload (q := 318) dX9_run_316 rfl rfl ?_
                            refine xi_istore (q := 320) dX9_run_318 (Nat.le_of_ble_eq_true rfl) rfl ?_
                            refine xi_aload_n (q := 321) dX9_run_320 rfl rfl ?_
                            refine xi_getf (q := 324) dX9_run_321 fl_X9_50 ⟨by omega, p83_265⟩ rfl rfl ?_
                            refine xi_bipush (x := 24) (q := 326) dX9_run_324 (by decide) rfl ?_
                            refine xi_iload (q := 328) dX9_run_326 rfl rfl ?_
                            refine xi_imul (q := 329) dX9_run_328 rfl ?_
                            refine xi_iload (q := 331) dX9_run_329 rfl rfl ?_
                            refine xi_iadd (q := 332) dX9_run_331 rfl ?_
                            refine xi_iload (q := 334) dX9_run_332 rfl rfl ?_
                            refine xi_iconst (x := 1) (q := 335) dX9_run_334 (by decide) rfl ?_
                            refine xi_icmp_ge (q := 338) (q2 := 343) dX9_run_335 (by decide) rfl (fun c_335 => ?_) (fun c_335 => ?_)
                            · have vm : (60 * RO (3 * j) + xs_sp (WO k) (RO (3 * j + 1)) - 1) / xs_sp (WO k) (RO (3 * j + 1)) + 3 * RO (3 * j + 2) = xs_mm (MM j k) := by rw [hMM]; exact xn_Mq (fun z => by rw [xn_lt] at z; rw [xn_le] at c_335; omega) (hrv j hj2).1 (hrv j hj2).2.2
                              have vc : DO k * RO (3 * j) / 100 = nI (CC j k) := by rw [hCC]; exact xn_Ce (hDb k hk2) ⟨by have := (hrv j hj2).1; omega, (hrv j hj2).1.2⟩
                              refine xi_bipush (x := 60) (q := 345) dX9_run_343 (by decide) rfl ?_
                              refine xi_aload_n (q := 346) dX9_run_345 rfl rfl ?_
                              refine xi_getf (q := 349) dX9_run_346 fl_X9_16 ⟨by omega, p83_265⟩ rfl rfl ?_
                              refine xi_iload (q := 351) dX9_run_349 rfl rfl ?_
                              refine xi_iald (q := 352) dX9_run_351 ⟨by omega, ((F265 86 (by omega) (by omega) (by omega) (by omega)).trans (xs_M86 hM))⟩ (xv_ixN (by omega) (by omega)) rfl ?_
                              rw [show C 86 (60 * ks + ki + 3 * j) = RO (3 * j) from hit j 0 hj2 (by omega)]
                              refine xi_imul (q := 353) dX9_run_352 rfl ?_
                              refine xi_iload (q := 355) dX9_run_353 rfl rfl ?_
                              refine xi_iadd (q := 356) dX9_run_355 rfl ?_
                              refine xi_iconst (x := 1) (q := 357) dX9_run_356 (by decide) rfl ?_
                              refine xi_isub (q := 358) dX9_run_357 rfl ?_
                              refine xi_iload (q := 360) dX9_run_358 rfl rfl ?_
                              refine xi_idiv (q := 361) dX9_run_360 (fun z => by rw [z] at c_335; exact absurd c_335 (by decide)) rfl ?_
                              refine xi_iconst (x := 3) (q := 362) dX9_run_361 (by decide) rfl ?_
                              refine xi_aload_n (q := 363) dX9_run_362 rfl rfl ?_
                              refine xi_getf (q := 366) dX9_run_363 fl_X9_16 ⟨by omega, p83_265⟩ rfl rfl ?_
                              refine xi_iload (q := 368) dX9_run_366 rfl rfl ?_
                              refine xi_iconst (x := 2) (q := 369) dX9_run_368 (by decide) rfl ?_
                              refine xi_iadd (q := 370) dX9_run_369 rfl ?_
                              refine xi_iald (q := 371) dX9_run_370 ⟨by omega, ((F265 86 (by omega) (by omega) (by omega) (by omega)).trans (xs_M86 hM))⟩ (by rw [show (nI (60 * ks + ki + 3 * j) + 2 : Int32) = nI (60 * ks + ki + 3 * j + 2) from nI_add _ 2]; exact xv_ixN (by omega) (by omega)) rfl ?_
                              rw [show C 86 (60 * ks + ki + 3 * j + 2) = RO (3 * j + 2) from hit j 2 hj2 (by omega)]
                              refine xi_imul (q := 372) dX9_run_371 rfl ?_
                              refine xi_iadd (q := 373) dX9_run_372 rfl ?_
                              refine xi_iast (q := 374) dX9_run_373 ⟨by omega, p97_265⟩ (xn_ixM (a := 24) (p := j) (k := k) (by omega) (by omega)) rfl ?_
                              refine xi_aload_n (q := 375) dX9_run_374 rfl rfl ?_
                              refine xi_getf (q := 378) dX9_run_375 fl_X9_53 (xv_keep (by omega) ⟨by omega, p83_265⟩) rfl rfl ?_
                              refine xi_bipush (x := 24) (q := 380) dX9_run_378 (by decide) rfl ?_
                              refine xi_iload (q := 382) dX9_run_380 rfl rfl ?_
                              refine xi_imul (q := 383) dX9_run_382 rfl ?_
                              refine xi_iload (q := 385) dX9_run_383 rfl rfl ?_
                              refine xi_iadd (q := 386) dX9_run_385 rfl ?_
                              refine xi_iload (q := 388) dX9_run_386 rfl rfl ?_
                              refine xi_aload_n (q := 389) dX9_run_388 rfl rfl ?_
                              refine xi_getf (q := 392) dX9_run_389 fl_X9_16 (xv_keep (by omega) ⟨by omega, p83_265⟩) rfl rfl ?_
                              refine xi_iload (q := 394) dX9_run_392 rfl rfl ?_
                              refine xi_iald (q := 395) dX9_run_394 (xv_keep (by omega) ⟨by omega, ((F265 86 (by omega) (by omega) (by omega) (by omega)).trans (xs_M86 hM))⟩) (xv_ixN (by omega) (by omega)) rfl ?_
                              rw [show C 86 (60 * ks + ki + 3 * j) = RO (3 * j) from hit j 0 hj2 (by omega)]
                              refine xi_imul (q := 396) dX9_run_395 rfl ?_
                              refine xi_bipush (x := 100) (q := 398) dX9_run_396 (by decide) rfl ?_
                              refine xi_idiv (q := 399) dX9_run_398 (by decide) rfl ?_
                              refine xi_iast (q := 400) dX9_run_399 (xv_keep (by omega) ⟨by omega, p98_265⟩) (xn_ixM (a := 24) (p := j) (k := k) (by omega) (by omega)) rfl ?_
                              refine xi_iinc (y := nI (j + 1)) (q := 403) dX9_run_400 rfl (xn_inc j) (Nat.le_of_ble_eq_true rfl) rfl ?_
                              refine xi_goto (q := 265) dX9_run_403 (by decide) ?_
                              refine xv_weakS (lv' := [(0, .ref 83), (1, .int (nI kp)), (2, .int b), (3, .int (nI kw)), (4, .int (nI ks)), (5, .int (nI ki)), (6, .int (nI kq)), (7, .int (nI k)), (8, .int (WO k)), (9, .int (DO k)), (10, .int (nI (j + 1)))]) ⟨rfl, rfl, rfl, rfl, rfl, rfl, rfl, rfl, rfl, rfl, rfl, trivial⟩ ?_
                              exact ih265 _ (by omega) ⟨_, _, _, _, ((va_up_ne _ _ (by omega)).trans ((va_up_ne _ _ (by omega)).trans p83_265)), ((va_up_ne _ _ (by omega)).trans ((va_up_ne _ _ (by omega)).trans p94_265)), ((va_up_ne _ _ (by omega)).trans ((va_up_self _ _ _).trans rfl)), ((va_up_self _ _ _).trans rfl), (fun s c hs hc => by
                                    by_cases e : 24 * s + c = 24 * j + k
                                    · have e1 : s = j := by omega
                                      have e2 : c = k := by omega
                                      rw [e1, e2, pk_us, pk_us]
                                      exact ⟨vm, vc⟩
                                    · rw [pk_un e, pk_un e]
                                      exact x265 s c hs (by omega)), fun i _ _ _ _ => ((va_up_ne _ _ (by omega)).trans ((va_up_ne _ _ (by omega)).trans (F265 i (by omega) (by omega) (by omega) (by omega))))⟩
                            · have vm : (-1000000 : Int32) = xs_mm (MM j k) := by rw [hMM]; exact (xn_Mz (by rw [xn_lt]; rw [xn_le] at c_335; omega)).symm
                              have vc : DO k * RO (3 * j) / 100 = nI (CC j k) := by rw [hCC]; exact xn_Ce (hDb k hk2) ⟨by have := (hrv j hj2).1; omega, (hrv j hj2).1.2⟩
                              refine xi_ldc (q := 340) dX9_run_338 kc_X9_158 rfl ?_
                              refine xi_goto (q := 373) dX9_run_340 (by decide) ?_
                              refine xi_iast (q := 374) dX9_run_373 ⟨by omega, p97_265⟩ (xn_ixM (a := 24) (p := j) (k := k) (by omega) (by omega)) rfl ?_
                              refine xi_aload_n (q := 375) dX9_run_374 rfl rfl ?_
                              refine xi_getf (q := 378) dX9_run_375 fl_X9_53 (xv_keep (by omega) ⟨by omega, p83_265⟩) rfl rfl ?_
                              refine xi_bipush (x := 24) (q := 380) dX9_run_378 (by decide) rfl ?_
                              refine xi_iload (q := 382) dX9_run_380 rfl rfl ?_
                              refine xi_imul (q := 383) dX9_run_382 rfl ?_
                              refine xi_iload (q := 385) dX9_run_383 rfl rfl ?_
                              refine xi_iadd (q := 386) dX9_run_385 rfl ?_
                              refine xi_iload (q := 388) dX9_run_386 rfl rfl ?_
                              refine xi_aload_n (q := 389) dX9_run_388 rfl rfl ?_
                              refine xi_getf (q := 392) dX9_run_389 fl_X9_16 (xv_keep (by omega) ⟨by omega, p83_265⟩) rfl rfl ?_
                              refine xi_iload (q := 394) dX9_run_392 rfl rfl ?_
                              refine xi_iald (q := 395) dX9_run_394 (xv_keep (by omega) ⟨by omega, ((F265 86 (by omega) (by omega) (by omega) (by omega)).trans (xs_M86 hM))⟩) (xv_ixN (by omega) (by omega)) rfl ?_
                              rw [show C 86 (60 * ks + ki + 3 * j) = RO (3 * j) from hit j 0 hj2 (by omega)]
                              refine xi_imul (q := 396) dX9_run_395 rfl ?_
                              refine xi_bipush (x := 100) (q := 398) dX9_run_396 (by decide) rfl ?_
                              refine xi_idiv (q := 399) dX9_run_398 (by decide) rfl ?_
                              refine xi_iast (q := 400) dX9_run_399 (xv_keep (by omega) ⟨by omega, p98_265⟩) (xn_ixM (a := 24) (p := j) (k := k) (by omega) (by omega)) rfl ?_
                              refine xi_iinc (y := nI (j + 1)) (q := 403) dX9_run_400 rfl (xn_inc j) (Nat.le_of_ble_eq_true rfl) rfl ?_
                              refine xi_goto (q := 265) dX9_run_403 (by decide) ?_
                              refine xv_weakS (lv' := [(0, .ref 83), (1, .int (nI kp)), (2, .int b), (3, .int (nI kw)), (4, .int (nI ks)), (5, .int (nI ki)), (6, .int (nI kq)), (7, .int (nI k)), (8, .int (WO k)), (9, .int (DO k)), (10, .int (nI (j + 1)))]) ⟨rfl, rfl, rfl, rfl, rfl, rfl, rfl, rfl, rfl, rfl, rfl, trivial⟩ ?_
                              exact ih265 _ (by omega) ⟨_, _, _, _, ((va_up_ne _ _ (by omega)).trans ((va_up_ne _ _ (by omega)).trans p83_265)), ((va_up_ne _ _ (by omega)).trans ((va_up_ne _ _ (by omega)).trans p94_265)), ((va_up_ne _ _ (by omega)).trans ((va_up_self _ _ _).trans rfl)), ((va_up_self _ _ _).trans rfl), (fun s c hs hc => by
                                    by_cases e : 24 * s + c = 24 * j + k
                                    · have e1 : s = j := by omega
                                      have e2 : c = k := by omega
                                      rw [e1, e2, pk_us, pk_us]
                                      exact ⟨vm, vc⟩
                                    · rw [pk_un e, pk_un e]
                                      exact x265 s c hs (by omega)), fun i _ _ _ _ => ((va_up_ne _ _ (by omega)).trans ((va_up_ne _ _ (by omega)).trans (F265 i (by omega) (by omega) (by omega) (by omega))))⟩
                          · skip
                            refine xi_bipush (x := 60) (q := 313) dX9_run_311 (by decide) rfl ?_
                            rw [show (60 : Int32) = xs_sp (WO k) (RO (3 * j + 1)) from xn_spA.2 c_308]
                            refine xi_goto (q := 318) dX9_run_313 (by decide) ?_
                            refine xi_istore (q := 320) dX9_run_318 (Nat.le_of_ble_eq_true rfl) rfl ?_
                            refine xi_aload_n (q := 321) dX9_run_320 rfl rfl ?_
                            refine xi_getf (q := 324) dX9_run_321 fl_X9_50 ⟨by omega, p83_265⟩ rfl rfl ?_
                            refine xi_bipush (x := 24) (q := 326) dX9_run_324 (by decide) rfl ?_
                            refine xi_iload (q := 328) dX9_run_326 rfl rfl ?_
                            refine xi_imul (q := 329) dX9_run_328 rfl ?_
                            refine xi_iload (q := 331) dX9_run_329 rfl rfl ?_
                            refine xi_iadd (q := 332) dX9_run_331 rfl ?_
                            refine xi_iload (q := 334) dX9_run_332 rfl rfl ?_
                            refine xi_iconst (x := 1) (q := 335) dX9_run_334 (by decide) rfl ?_
                            refine xi_icmp_ge (q := 338) (q2 := 343) dX9_run_335 (by decide) rfl (fun c_335 => ?_) (fun c_335 => ?_)
                            · have vm : (60 * RO (3 * j) + xs_sp (WO k) (RO (3 * j + 1)) - 1) / xs_sp (WO k) (RO (3 * j + 1)) + 3 * RO (3 * j + 2) = xs_mm (MM j k) := by rw [hMM]; exact xn_Mq (fun z => by rw [xn_lt] at z; rw [xn_le] at c_335; omega) (hrv j hj2).1 (hrv j hj2).2.2
                              have vc : DO k * RO (3 * j) / 100 = nI (CC j k) := by rw [hCC]; exact xn_Ce (hDb k hk2) ⟨by have := (hrv j hj2).1; omega, (hrv j hj2).1.2⟩
                              refine xi_bipush (x := 60) (q := 345) dX9_run_343 (by decide) rfl ?_
                              refine xi_aload_n (q := 346) dX9_run_345 rfl rfl ?_
                              refine xi_getf (q := 349) dX9_run_346 fl_X9_16 ⟨by omega, p83_265⟩ rfl rfl ?_
                              refine xi_iload (q := 351) dX9_run_349 rfl rfl ?_
                              refine xi_iald (q := 352) dX9_run_351 ⟨by omega, ((F265 86 (by omega) (by omega) (by omega) (by omega)).trans (xs_M86 hM))⟩ (xv_ixN (by omega) (by omega)) rfl ?_
                              rw [show C 86 (60 * ks + ki + 3 * j) = RO (3 * j) from hit j 0 hj2 (by omega)]
                              refine xi_imul (q := 353) dX9_run_352 rfl ?_
                              refine xi_iload (q := 355) dX9_run_353 rfl rfl ?_
                              refine xi_iadd (q := 356) dX9_run_355 rfl ?_
                              refine xi_iconst (x := 1) (q := 357) dX9_run_356 (by decide) rfl ?_
                              refine xi_isub (q := 358) dX9_run_357 rfl ?_
                              refine xi_iload (q := 360) dX9_run_358 rfl rfl ?_
                              refine xi_idiv (q := 361) dX9_run_360 (fun z => by rw [z] at c_335; exact absurd c_335 (by decide)) rfl ?_
                              refine xi_iconst (x := 3) (q := 362) dX9_run_361 (by decide) rfl ?_
                              refine xi_aload_n (q := 363) dX9_run_362 rfl rfl ?_
                              refine xi_getf (q := 366) dX9_run_363 fl_X9_16 ⟨by omega, p83_265⟩ rfl rfl ?_
                              refine xi_iload (q := 368) dX9_run_366 rfl rfl ?_
                              refine xi_iconst (x := 2) (q := 369) dX9_run_368 (by decide) rfl ?_
                              refine xi_iadd (q := 370) dX9_run_369 rfl ?_
                              refine xi_iald (q := 371) dX9_run_370 ⟨by omega, ((F265 86 (by omega) (by omega) (by omega) (by omega)).trans (xs_M86 hM))⟩ (by rw [show (nI (60 * ks + ki + 3 * j) + 2 : Int32) = nI (60 * ks + ki + 3 * j + 2) from nI_add _ 2]; exact xv_ixN (by omega) (by omega)) rfl ?_
                              rw [show C 86 (60 * ks + ki + 3 * j + 2) = RO (3 * j + 2) from hit j 2 hj2 (by omega)]
                              refine xi_imul (q := 372) dX9_run_371 rfl ?_
                              refine xi_iadd (q := 373) dX9_run_372 rfl ?_
                              refine xi_iast (q := 374) dX9_run_373 ⟨by omega, p97_265⟩ (xn_ixM (a := 24) (p := j) (k := k) (by omega) (by omega)) rfl ?_
                              refine xi_aload_n (q := 375) dX9_run_374 rfl rfl ?_
                              refine xi_getf (q := 378) dX9_run_375 fl_X9_53 (xv_keep (by omega) ⟨by omega, p83_265⟩) rfl rfl ?_
                              refine xi_bipush (x := 24) (q := 380) dX9_run_378 (by decide) rfl ?_
                              refine xi_iload (q := 382) dX9_run_380 rfl rfl ?_
                              refine xi_imul (q := 383) dX9_run_382 rfl ?_
                              refine xi_iload (q := 385) dX9_run_383 rfl rfl ?_
                              refine xi_iadd (q := 386) dX9_run_385 rfl ?_
                              refine xi_iload (q := 388) dX9_run_386 rfl rfl ?_
                              refine xi_aload_n (q := 389) dX9_run_388 rfl rfl ?_
                              refine xi_getf (q := 392) dX9_run_389 fl_X9_16 (xv_keep (by omega) ⟨by omega, p83_265⟩) rfl rfl ?_
                              refine xi_iload (q := 394) dX9_run_392 rfl rfl ?_
                              refine xi_iald (q := 395) dX9_run_394 (xv_keep (by omega) ⟨by omega, ((F265 86 (by omega) (by omega) (by omega) (by omega)).trans (xs_M86 hM))⟩) (xv_ixN (by omega) (by omega)) rfl ?_
                              rw [show C 86 (60 * ks + ki + 3 * j) = RO (3 * j) from hit j 0 hj2 (by omega)]
                              refine xi_imul (q := 396) dX9_run_395 rfl ?_
                              refine xi_bipush (x := 100) (q := 398) dX9_run_396 (by decide) rfl ?_
                              refine xi_idiv (q := 399) dX9_run_398 (by decide) rfl ?_
                              refine xi_iast (q := 400) dX9_run_399 (xv_keep (by omega) ⟨by omega, p98_265⟩) (xn_ixM (a := 24) (p := j) (k := k) (by omega) (by omega)) rfl ?_
                              refine xi_iinc (y := nI (j + 1)) (q := 403) dX9_run_400 rfl (xn_inc j) (Nat.le_of_ble_eq_true rfl) rfl ?_
                              refine xi_goto (q := 265) dX9_run_403 (by decide) ?_
                              refine xv_weakS (lv' := [(0, .ref 83), (1, .int (nI kp)), (2, .int b), (3, .int (nI kw)), (4, .int (nI ks)), (5, .int (nI ki)), (6, .int (nI kq)), (7, .int (nI k)), (8, .int (WO k)), (9, .int (DO k)), (10, .int (nI (j + 1)))]) ⟨rfl, rfl, rfl, rfl, rfl, rfl, rfl, rfl, rfl, rfl, rfl, trivial⟩ ?_
                              exact ih265 _ (by omega) ⟨_, _, _, _, ((va_up_ne _ _ (by omega)).trans ((va_up_ne _ _ (by omega)).trans p83_265)), ((va_up_ne _ _ (by omega)).trans ((va_up_ne _ _ (by omega)).trans p94_265)), ((va_up_ne _ _ (by omega)).trans ((va_up_self _ _ _).trans rfl)), ((va_up_self _ _ _).trans rfl), (fun s c hs hc => by
                                    by_cases e : 24 * s + c = 24 * j + k
                                    · have e1 : s = j := by omega
                                      have e2 : c = k := by omega
                                      rw [e1, e2, pk_us, pk_us]
                                      exact ⟨vm, vc⟩
                                    · rw [pk_un e, pk_un e]
                                      exact x265 s c hs (by omega)), fun i _ _ _ _ => ((va_up_ne _ _ (by omega)).trans ((va_up_ne _ _ (by omega)).trans (F265 i (by omega) (by omega) (by omega) (by omega))))⟩
                            · have vm : (-1000000 : Int32) = xs_mm (MM j k) := by rw [hMM]; exact (xn_Mz (by rw [xn_lt]; rw [xn_le] at c_335; omega)).symm
                              have vc : DO k * RO (3 * j) / 100 = nI (CC j k) := by rw [hCC]; exact xn_Ce (hDb k hk2) ⟨by have := (hrv j hj2).1; omega, (hrv j hj2).1.2⟩
                              refine xi_ldc (q := 340) dX9_run_338 kc_X9_158 rfl ?_
                              refine xi_goto (q := 373) dX9_run_340 (by decide) ?_
                              refine xi_iast (q := 374) dX9_run_373 ⟨by omega, p97_265⟩ (xn_ixM (a := 24) (p := j) (k := k) (by omega) (by omega)) rfl ?_
                              refine xi_aload_n (q := 375) dX9_run_374 rfl rfl ?_
                              refine xi_getf (q := 378) dX9_run_375 fl_X9_53 (xv_keep (by omega) ⟨by omega, p83_265⟩) rfl rfl ?_
                              refine xi_bipush (x := 24) (q := 380) dX9_run_378 (by decide) rfl ?_
                              refine xi_iload (q := 382) dX9_run_380 rfl rfl ?_
                              refine xi_imul (q := 383) dX9_run_382 rfl ?_
                              refine xi_iload (q := 385) dX9_run_383 rfl rfl ?_
                              refine xi_iadd (q := 386) dX9_run_385 rfl ?_
                              refine xi_iload (q := 388) dX9_run_386 rfl rfl ?_
                              refine xi_aload_n (q := 389) dX9_run_388 rfl rfl ?_
                              refine xi_getf (q := 392) dX9_run_389 fl_X9_16 (xv_keep (by omega) ⟨by omega, p83_265⟩) rfl rfl ?_
                              refine xi_iload (q := 394) dX9_run_392 rfl rfl ?_
                              refine xi_iald (q := 395) dX9_run_394 (xv_keep (by omega) ⟨by omega, ((F265 86 (by omega) (by omega) (by omega) (by omega)).trans (xs_M86 hM))⟩) (xv_ixN (by omega) (by omega)) rfl ?_
                              rw [show C 86 (60 * ks + ki + 3 * j) = RO (3 * j) from hit j 0 hj2 (by omega)]
                              refine xi_imul (q := 396) dX9_run_395 rfl ?_
                              refine xi_bipush (x := 100) (q := 398) dX9_run_396 (by decide) rfl ?_
                              refine xi_idiv (q := 399) dX9_run_398 (by decide) rfl ?_
                              refine xi_iast (q := 400) dX9_run_399 (xv_keep (by omega) ⟨by omega, p98_265⟩) (xn_ixM (a := 24) (p := j) (k := k) (by omega) (by omega)) rfl ?_
                              refine xi_iinc (y := nI (j + 1)) (q := 403) dX9_run_400 rfl (xn_inc j) (Nat.le_of_ble_eq_true rfl) rfl ?_
                              refine xi_goto (q := 265) dX9_run_403 (by decide) ?_
                              refine xv_weakS (lv' := [(0, .ref 83), (1, .int (nI kp)), (2, .int b), (3, .int (nI kw)), (4, .int (nI ks)), (5, .int (nI ki)), (6, .int (nI kq)), (7, .int (nI k)), (8, .int (WO k)), (9, .int (DO k)), (10, .int (nI (j + 1)))]) ⟨rfl, rfl, rfl, rfl, rfl, rfl, rfl, rfl, rfl, rfl, rfl, trivial⟩ ?_
                              exact ih265 _ (by omega) ⟨_, _, _, _, ((va_up_ne _ _ (by omega)).trans ((va_up_ne _ _ (by omega)).trans p83_265)), ((va_up_ne _ _ (by omega)).trans ((va_up_ne _ _ (by omega)).trans p94_265)), ((va_up_ne _ _ (by omega)).trans ((va_up_self _ _ _).trans rfl)), ((va_up_self _ _ _).trans rfl), (fun s c hs hc => by
                                    by_cases e : 24 * s + c = 24 * j + k
                                    · have e1 : s = j := by omega
                                      have e2 : c = k := by omega
                                      rw [e1, e2, pk_us, pk_us]
                                      exact ⟨vm, vc⟩
                                    · rw [pk_un e, pk_un e]
                                      exact x265 s c hs (by omega)), fun i _ _ _ _ => ((va_up_ne _ _ (by omega)).trans ((va_up_ne _ _ (by omega)).trans (F265 i (by omega) (by omega) (by omega) (by omega))))⟩
                    · have hk2 : k < kq := xn_nleN c_124 (by omega) (by omega)
                      refine xi_bipush (x := 60) (q := 129) dX9_run_127 (by decide) rfl ?_
                      refine xi_iload (q := 131) dX9_run_129 rfl rfl ?_
                      refine xi_imul (q := 132) dX9_run_131 rfl ?_
                      refine xi_iload (q := 134) dX9_run_132 rfl rfl ?_
                      refine xi_iadd (q := 135) dX9_run_134 rfl ?_
                      refine xi_iconst (x := 3) (q := 136) dX9_run_135 (by decide) rfl ?_
                      refine xi_iload (q := 138) dX9_run_136 rfl rfl ?_
                      refine xi_imul (q := 139) dX9_run_138 rfl ?_
                      refine xi_iadd (q := 140) dX9_run_139 rfl ?_
                      rw [show (60 * nI ks + nI ki + 3 * nI k : Int32) = nI (60 * ks + ki + 3 * k) from by rw [show (60 * nI ks : Int32) = nI (60 * ks) from pk_mul 60 ks, show (3 * nI k : Int32) = nI (3 * k) from pk_mul 3 k, nI_add, nI_add]]
                      refine xi_istore (q := 142) dX9_run_140 (Nat.le_of_ble_eq_true rfl) rfl ?_
                      refine xi_aload_n (q := 143) dX9_run_142 rfl rfl ?_
                      refine xi_getf (q := 146) dX9_run_143 fl_X9_16 ⟨by omega, p83_120⟩ rfl rfl ?_
                      refine xi_iload (q := 148) dX9_run_146 rfl rfl ?_
                      refine xi_iald (q := 149) dX9_run_148 ⟨by omega, ((F120 86 (by omega)).trans (xs_M86 hM))⟩ (xv_ixN (by omega) (by omega)) rfl ?_
                      rw [show C 86 (60 * ks + ki + 3 * k) = σ 3 ks (ki + 3 * k) from by rw [show 60 * ks + ki + 3 * k = 60 * ks + (ki + 3 * k) by omega]; exact (hR.1.1 ks (by omega)).2.2 _ (by omega)]
                      refine xi_i2l (q := 150) dX9_run_149 rfl ?_
                      refine xi_lconst (x := 1) (q := 151) dX9_run_150 (by decide) rfl ?_
                      refine xi_ldc2 (q := 154) dX9_run_151 kc_X9_112 rfl ?_
                      refine xv_cS3 (q := 157) xm_X9_in ln_X9_81 dX9_run_154 ⟨(Nat.le_of_ble_eq_true rfl), (Nat.le_of_ble_eq_true rfl)⟩ (Nat.le_of_ble_eq_true rfl) ⟨rfl, rfl⟩ rfl (Nat.zero_le _) (Nat.zero_le _) ?_
                      refine ⟨_, 1, 50, rfl, ?_⟩
                      refine xi_if_eq (q := 160) (q2 := 198) dX9_run_157 (by decide) rfl (fun c_157 => ?_) (fun c_157 => ?_)
                      · have gf : xs_all (fun t => xs_rvb (σ 3 ks) (ki + 3 * t)) kq = false := xn_allF (i := k) (Bool.eq_false_iff.mpr (fun z => by
                          have z : xs_rvb (σ 3 ks) (ki + 3 * k) = true := z
                          unfold xs_rvb at z
                          simp only [Bool.and_eq_true, decide_eq_true_eq] at z
                          exact xn_b0 c_157 z.1)) hk2
                        refine xi_ldc (q := 200) dX9_run_198 kc_X9_91 rfl ?_
                        refine xi_ret ⟨_, rfl, rfl, dX9_run_200⟩ (Nat.zero_le _) (Nat.zero_le _) ?_
                        exact xs_finM (σ' := σ) hp (by simp only [xs_run, xs_onE, xs_onP, xs_fn, xs_an, Bool.not_false, Bool.not_true, Bool.true_or, Bool.false_or, Bool.and_true, Bool.true_and, Bool.and_false, Bool.false_and, Bool.false_eq_true, if_true, if_false, ↓reduceIte, g_9, g_21, g_33, g_41, g_54, eq_false y66, eq_false y76, g_108, gf, xs_kk0 (k := kp) (by omega), xs_kk0 (k := kw) (by omega), xs_kk0 (k := ks) (by omega), xs_kk0 (k := kq) (by omega), xs_kk0 (k := ki) (by omega)] <;> rfl) _ (xs_Mx (σ' := σ) hM hR (fa := (upd (C 83) 0 0)) p83_120 (fun j hj => (pk_un (by omega)).trans (rfl)) ((F120 88 (by omega)).trans (xs_M88 hM)) (fun _ _ => rfl) ((F120 94 (by omega)).trans (xs_M94 hM)) ((F120 95 (by omega)).trans (xs_M95 hM)) ((F120 96 (by omega)).trans (xs_M96 hM)) ((F120 97 (by omega)).trans (xs_M97 hM)) ((F120 98 (by omega)).trans (xs_M98 hM)) ((F120 99 (by omega)).trans (xs_M99 hM)) (fun i i1 i2 i3 i4 => (F120 i (by omega))) (fun _ _ _ => rfl) hR.2) (fun i hi => (F120 i (by omega)))
                      · skip
                        refine xi_aload_n (q := 161) dX9_run_160 rfl rfl ?_
                        refine xi_getf (q := 164) dX9_run_161 fl_X9_16 ⟨by omega, p83_120⟩ rfl rfl ?_
                        refine xi_iload (q := 166) dX9_run_164 rfl rfl ?_
                        refine xi_iconst (x := 1) (q := 167) dX9_run_166 (by decide) rfl ?_
                        refine xi_iadd (q := 168) dX9_run_167 rfl ?_
                        refine xi_iald (q := 169) dX9_run_168 ⟨by omega, ((F120 86 (by omega)).trans (xs_M86 hM))⟩ (by rw [nI_1]; exact xv_ixN (by omega) (by omega)) rfl ?_
                        rw [show C 86 (60 * ks + ki + 3 * k + 1) = σ 3 ks (ki + 3 * k + 1) from by rw [show 60 * ks + ki + 3 * k + 1 = 60 * ks + (ki + 3 * k + 1) by omega]; exact (hR.1.1 ks (by omega)).2.2 _ (by omega)]
                        refine xi_i2l (q := 170) dX9_run_169 rfl ?_
                        refine xi_lconst (x := 0) (q := 171) dX9_run_170 (by decide) rfl ?_
                        refine xi_ldc2 (q := 174) dX9_run_171 kc_X9_207 rfl ?_
                        refine xv_cS3 (q := 177) xm_X9_in ln_X9_81 dX9_run_174 ⟨(Nat.le_of_ble_eq_true rfl), (Nat.le_of_ble_eq_true rfl)⟩ (Nat.le_of_ble_eq_true rfl) ⟨rfl, rfl⟩ rfl (Nat.zero_le _) (Nat.zero_le _) ?_
                        refine ⟨_, 0, 2000, rfl, ?_⟩
                        refine xi_if_eq (q := 180) (q2 := 198) dX9_run_177 (by decide) rfl (fun c_177 => ?_) (fun c_177 => ?_)
                        · have gf : xs_all (fun t => xs_rvb (σ 3 ks) (ki + 3 * t)) kq = false := xn_allF (i := k) (Bool.eq_false_iff.mpr (fun z => by
                            have z : xs_rvb (σ 3 ks) (ki + 3 * k) = true := z
                            unfold xs_rvb at z
                            simp only [Bool.and_eq_true, decide_eq_true_eq] at z
                            exact xn_b0 c_177 z.2.1)) hk2
                          refine xi_ldc (q := 200) dX9_run_198 kc_X9_91 rfl ?_
                          refine xi_ret ⟨_, rfl, rfl, dX9_run_200⟩ (Nat.zero_le _) (Nat.zero_le _) ?_
                          exact xs_finM (σ' := σ) hp (by simp only [xs_run, xs_onE, xs_onP, xs_fn, xs_an, Bool.not_false, Bool.not_true, Bool.true_or, Bool.false_or, Bool.and_true, Bool.true_and, Bool.and_false, Bool.false_and, Bool.false_eq_true, if_true, if_false, ↓reduceIte, g_9, g_21, g_33, g_41, g_54, eq_false y66, eq_false y76, g_108, gf, xs_kk0 (k := kp) (by omega), xs_kk0 (k := kw) (by omega), xs_kk0 (k := ks) (by omega), xs_kk0 (k := kq) (by omega), xs_kk0 (k := ki) (by omega)] <;> rfl) _ (xs_Mx (σ' := σ) hM hR (fa := (upd (C 83) 0 0)) p83_120 (fun j hj => (pk_un (by omega)).trans (rfl)) ((F120 88 (by omega)).trans (xs_M88 hM)) (fun _ _ => rfl) ((F120 94 (by omega)).trans (xs_M94 hM)) ((F120 95 (by omega)).trans (xs_M95 hM)) ((F120 96 (by omega)).trans (xs_M96 hM)) ((F120 97 (by omega)).trans (xs_M97 hM)) ((F120 98 (by omega)).trans (xs_M98 hM)) ((F120 99 (by omega)).trans (xs_M99 hM)) (fun i i1 i2 i3 i4 => (F120 i (by omega))) (fun _ _ _ => rfl) hR.2) (fun i hi => (F120 i (by omega)))
                        · skip
                          refine xi_aload_n (q := 181) dX9_run_180 rfl rfl ?_
                          refine xi_getf (q := 184) dX9_run_181 fl_X9_16 ⟨by omega, p83_120⟩ rfl rfl ?_
                          refine xi_iload (q := 186) dX9_run_184 rfl rfl ?_
                          refine xi_iconst (x := 2) (q := 187) dX9_run_186 (by decide) rfl ?_
                          refine xi_iadd (q := 188) dX9_run_187 rfl ?_
                          refine xi_iald (q := 189) dX9_run_188 ⟨by omega, ((F120 86 (by omega)).trans (xs_M86 hM))⟩ (by rw [show (nI (60 * ks + ki + 3 * k) + 2 : Int32) = nI (60 * ks + ki + 3 * k + 2) from nI_add _ 2]; exact xv_ixN (by omega) (by omega)) rfl ?_
                          rw [show C 86 (60 * ks + ki + 3 * k + 2) = σ 3 ks (ki + 3 * k + 2) from by rw [show 60 * ks + ki + 3 * k + 2 = 60 * ks + (ki + 3 * k + 2) by omega]; exact (hR.1.1 ks (by omega)).2.2 _ (by omega)]
                          refine xi_i2l (q := 190) dX9_run_189 rfl ?_
                          refine xi_lconst (x := 0) (q := 191) dX9_run_190 (by decide) rfl ?_
                          refine xi_lconst (x := 1) (q := 192) dX9_run_191 (by decide) rfl ?_
                          refine xv_cS3 (q := 195) xm_X9_in ln_X9_81 dX9_run_192 ⟨(Nat.le_of_ble_eq_true rfl), (Nat.le_of_ble_eq_true rfl)⟩ (Nat.le_of_ble_eq_true rfl) ⟨rfl, rfl⟩ rfl (Nat.zero_le _) (Nat.zero_le _) ?_
                          refine ⟨_, 0, 1, rfl, ?_⟩
                          refine xi_if_ne (q := 198) (q2 := 201) dX9_run_195 (by decide) rfl (fun c_195 => ?_) (fun c_195 => ?_)
                          · have f195 : (fun t => xs_rvb (σ 3 ks) (ki + 3 * t)) k = true := by
                              show xs_rvb (σ 3 ks) (ki + 3 * k) = true
                              unfold xs_rvb
                              simp only [Bool.and_eq_true, decide_eq_true_eq]
                              exact ⟨xn_b1 c_157, xn_b1 c_177, xn_b1 c_195⟩
                            refine xi_iinc (y := nI (k + 1)) (q := 204) dX9_run_201 rfl (xn_inc k) (Nat.le_of_ble_eq_true rfl) rfl ?_
                            refine xi_goto (q := 120) dX9_run_204 (by decide) ?_
                            refine xv_weakS (lv' := [(0, .ref 83), (1, .int (nI kp)), (2, .int b), (3, .int (nI kw)), (4, .int (nI ks)), (5, .int (nI ki)), (6, .int (nI kq)), (7, .int (nI (k + 1)))]) ⟨rfl, rfl, rfl, rfl, rfl, rfl, rfl, rfl, trivial⟩ ?_
                            exact ih120 _ (by omega) ⟨_, p83_120, (fun t ht => by
                                  rcases Nat.lt_or_ge t k with z | z
                                  · exact x120 t z
                                  · rw [show t = k by omega]; exact f195), fun i _ => (F120 i (by omega))⟩
                          · have gf : xs_all (fun t => xs_rvb (σ 3 ks) (ki + 3 * t)) kq = false := xn_allF (i := k) (Bool.eq_false_iff.mpr (fun z => by
                              have z : xs_rvb (σ 3 ks) (ki + 3 * k) = true := z
                              unfold xs_rvb at z
                              simp only [Bool.and_eq_true, decide_eq_true_eq] at z
                              exact xn_b0 c_195 z.2.2)) hk2
                            refine xi_ldc (q := 200) dX9_run_198 kc_X9_91 rfl ?_
                            refine xi_ret ⟨_, rfl, rfl, dX9_run_200⟩ (Nat.zero_le _) (Nat.zero_le _) ?_
                            exact xs_finM (σ' := σ) hp (by simp only [xs_run, xs_onE, xs_onP, xs_fn, xs_an, Bool.not_false, Bool.not_true, Bool.true_or, Bool.false_or, Bool.and_true, Bool.true_and, Bool.and_false, Bool.false_and, Bool.false_eq_true, if_true, if_false, ↓reduceIte, g_9, g_21, g_33, g_41, g_54, eq_false y66, eq_false y76, g_108, gf, xs_kk0 (k := kp) (by omega), xs_kk0 (k := kw) (by omega), xs_kk0 (k := ks) (by omega), xs_kk0 (k := kq) (by omega), xs_kk0 (k := ki) (by omega)] <;> rfl) _ (xs_Mx (σ' := σ) hM hR (fa := (upd (C 83) 0 0)) p83_120 (fun j hj => (pk_un (by omega)).trans (rfl)) ((F120 88 (by omega)).trans (xs_M88 hM)) (fun _ _ => rfl) ((F120 94 (by omega)).trans (xs_M94 hM)) ((F120 95 (by omega)).trans (xs_M95 hM)) ((F120 96 (by omega)).trans (xs_M96 hM)) ((F120 97 (by omega)).trans (xs_M97 hM)) ((F120 98 (by omega)).trans (xs_M98 hM)) ((F120 99 (by omega)).trans (xs_M99 hM)) (fun i i1 i2 i3 i4 => (F120 i (by omega))) (fun _ _ _ => rfl) hR.2) (fun i hi => (F120 i (by omega)))
                  · have g_108 : xs_has i (3 * nI kq) (σ 2 ks 0) = false := Bool.eq_false_iff.mpr (fun z => c_108 ((xn_hasL (k := 3 * nI kq) h0_87 (by rw [e3q, xn_NI (by omega)]; omega) (hV.2.1 ks (by omega) y76).1).mpr z))
                    refine xi_aload_n (q := 112) dX9_run_111 rfl rfl ?_
                    refine xi_iconst (x := 2) (q := 113) dX9_run_112 (by decide) rfl ?_
                    refine xv_cV1 (q := 116) xm_X9_found ln_X9_92 dX9_run_113 (xv_self (by omega)) rfl ⟨(Nat.le_of_ble_eq_true rfl), (Nat.le_of_ble_eq_true rfl)⟩ (Nat.le_of_ble_eq_true rfl) ⟨rfl, rfl⟩ rfl (Nat.zero_le _) (Nat.zero_le _) ?_
                    refine ⟨(upd (C 83) 0 0), dk, 2, rfl, ((va_up_self _ _ _).trans rfl), by omega, fun h113 p113 f113 => ?_⟩
                    have Fh113 : ∀ i, i ≠ 83 → h113 i = h i := fun i j83 => (f113 i (by omega)).trans ((va_up_ne _ _ (by omega)).trans (Eq.refl _))
                    refine xi_ret ⟨_, rfl, rfl, dX9_run_116⟩ (Nat.zero_le _) (Nat.zero_le _) ?_
                    exact xs_finM (σ' := (xs_fd σ 2)) hp (by simp only [xs_run, xs_onE, xs_onP, xs_fn, xs_an, Bool.not_false, Bool.not_true, Bool.true_or, Bool.false_or, Bool.and_true, Bool.true_and, Bool.and_false, Bool.false_and, Bool.false_eq_true, if_true, if_false, ↓reduceIte, g_9, g_21, g_33, g_41, g_54, eq_false y66, eq_false y76, g_108, xs_kk0 (k := kp) (by omega), xs_kk0 (k := kw) (by omega), xs_kk0 (k := ks) (by omega), xs_kk0 (k := kq) (by omega)] <;> rfl) _ (xs_Mx (σ' := (xs_fd σ 2)) hM hR (fa := (upd (upd (C 83) 0 0) 1 2)) p113 (fun j hj => (pk_un (by omega)).trans ((pk_un (by omega)).trans (rfl))) ((Fh113 88 (by omega)).trans (xs_M88 hM)) (fun _ _ => rfl) ((Fh113 94 (by omega)).trans (xs_M94 hM)) ((Fh113 95 (by omega)).trans (xs_M95 hM)) ((Fh113 96 (by omega)).trans (xs_M96 hM)) ((Fh113 97 (by omega)).trans (xs_M97 hM)) ((Fh113 98 (by omega)).trans (xs_M98 hM)) ((Fh113 99 (by omega)).trans (xs_M99 hM)) (fun i i1 i2 i3 i4 => (Fh113 i (by omega))) xs_fdo rfl) (fun i hi => (Fh113 i (by omega)))
              · have y76 : σ 0 ks 0 = 0 := (xs_ln hV hR (by omega)).2 c_76
                refine xi_aload_n (q := 80) dX9_run_79 rfl rfl ?_
                refine xi_iconst (x := 1) (q := 81) dX9_run_80 (by decide) rfl ?_
                refine xv_cV1 (q := 84) xm_X9_found ln_X9_92 dX9_run_81 (xv_self (by omega)) rfl ⟨(Nat.le_of_ble_eq_true rfl), (Nat.le_of_ble_eq_true rfl)⟩ (Nat.le_of_ble_eq_true rfl) ⟨rfl, rfl⟩ rfl (Nat.zero_le _) (Nat.zero_le _) ?_
                refine ⟨(upd (C 83) 0 0), dk, 1, rfl, ((va_up_self _ _ _).trans rfl), by omega, fun h81 p81 f81 => ?_⟩
                have Fh81 : ∀ i, i ≠ 83 → h81 i = h i := fun i j83 => (f81 i (by omega)).trans ((va_up_ne _ _ (by omega)).trans (Eq.refl _))
                refine xi_ret ⟨_, rfl, rfl, dX9_run_84⟩ (Nat.zero_le _) (Nat.zero_le _) ?_
                exact xs_finM (σ' := (xs_fd σ 1)) hp (by simp only [xs_run, xs_onE, xs_onP, xs_fn, xs_an, Bool.not_false, Bool.not_true, Bool.true_or, Bool.false_or, Bool.and_true, Bool.true_and, Bool.and_false, Bool.false_and, Bool.false_eq_true, if_true, if_false, ↓reduceIte, g_9, g_21, g_33, g_41, g_54, eq_false y66, eq_true y76, xs_kk0 (k := kp) (by omega), xs_kk0 (k := kw) (by omega), xs_kk0 (k := ks) (by omega), xs_kk0 (k := kq) (by omega)] <;> rfl) _ (xs_Mx (σ' := (xs_fd σ 1)) hM hR (fa := (upd (upd (C 83) 0 0) 1 1)) p81 (fun j hj => (pk_un (by omega)).trans ((pk_un (by omega)).trans (rfl))) ((Fh81 88 (by omega)).trans (xs_M88 hM)) (fun _ _ => rfl) ((Fh81 94 (by omega)).trans (xs_M94 hM)) ((Fh81 95 (by omega)).trans (xs_M95 hM)) ((Fh81 96 (by omega)).trans (xs_M96 hM)) ((Fh81 97 (by omega)).trans (xs_M97 hM)) ((Fh81 98 (by omega)).trans (xs_M98 hM)) ((Fh81 99 (by omega)).trans (xs_M99 hM)) (fun i i1 i2 i3 i4 => (Fh81 i (by omega))) xs_fdo rfl) (fun i hi => (Fh81 i (by omega)))
          · have g_54 : xs_i q 1 10 = false := decide_eq_false (xn_b0 c_54)
            refine xi_ldc (q := 59) dX9_run_57 kc_X9_91 rfl ?_
            refine xi_ret ⟨_, rfl, rfl, dX9_run_59⟩ (Nat.zero_le _) (Nat.zero_le _) ?_
            exact xs_finM (σ' := σ) hp (by simp only [xs_run, xs_onE, xs_onP, xs_fn, xs_an, Bool.not_false, Bool.not_true, Bool.true_or, Bool.false_or, Bool.and_true, Bool.true_and, Bool.and_false, Bool.false_and, Bool.false_eq_true, if_true, if_false, ↓reduceIte, g_9, g_21, g_33, g_41, g_54, xs_kk0 (k := kp) (by omega), xs_kk0 (k := kw) (by omega), xs_kk0 (k := ks) (by omega)] <;> rfl) _ (xs_Mx (σ' := σ) hM hR (fa := (upd (C 83) 0 0)) ((va_up_self _ _ _).trans rfl) (fun j hj => (pk_un (by omega)).trans (rfl)) ((va_up_ne _ _ (by omega)).trans (xs_M88 hM)) (fun _ _ => rfl) ((va_up_ne _ _ (by omega)).trans (xs_M94 hM)) ((va_up_ne _ _ (by omega)).trans (xs_M95 hM)) ((va_up_ne _ _ (by omega)).trans (xs_M96 hM)) ((va_up_ne _ _ (by omega)).trans (xs_M97 hM)) ((va_up_ne _ _ (by omega)).trans (xs_M98 hM)) ((va_up_ne _ _ (by omega)).trans (xs_M99 hM)) (fun i i1 i2 i3 i4 => ((va_up_ne _ _ (by omega)).trans (Eq.refl _))) (fun _ _ _ => rfl) hR.2) (fun i hi => ((va_up_ne _ _ (by omega)).trans (Eq.refl _)))

