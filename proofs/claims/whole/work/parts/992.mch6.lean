theorem xn_hasK {i k sz : Int32} (h : k < 0) : xs_has i k sz = false := by
  unfold xs_has
  rw [decide_eq_false (show ¬ 0 ≤ k from fun z => by rw [xn_le] at z; rw [xn_lt] at h; omega), Bool.false_and, Bool.and_false]
set_option maxRecDepth 20000 in
set_option maxHeartbeats 2000000 in
/-- copy -/
theorem xm_X9_copy : xv_K yX9_copy mX9_copy (fun as h n Post => ∃ (σ : xs_Sg) (a : Int32) (i : Int32) (b : Int32) (j : Int32) (c : Int32), as = [.ref 83, .int a, .int i, .int b, .int j, .int c] ∧ (xs_Mo h σ) ∧ (103 < n) ∧ (xs_V σ) ∧ xs_DM h n Post (xs_copy σ a i b j c)) := by
  refine xv_entry (by decide +kernel) rfl (fun h => absurd h (by decide)) ?_
  rintro X _ h n Post ⟨σ, a, i, b, j, c, rfl, ⟨C, dk, hM, hR⟩, h103, hV, hp⟩
  refine ⟨Nat.le_of_ble_eq_true rfl, ?_⟩
  show xv_V X mX9_copy Post 0 0 0 [(0, .ref 83), (1, .int a), (2, .int i), (3, .int b), (4, .int j), (5, .int c)] [] h n
  refine xi_aload_n (q := 1) dX9_copy_0 rfl rfl ?_
  refine xi_iconst (x := 0) (q := 2) dX9_copy_1 (by decide) rfl ?_
  refine xi_putf (q := 5) dX9_copy_2 fl_X9_71 ⟨by omega, (xs_M83 hM)⟩ (Or.inl rfl) (fun _ => rfl) (fun _ => rfl) (Nat.le_of_ble_eq_true rfl) rfl ?_
  refine xi_iload_n (q := 6) dX9_copy_5 rfl rfl ?_
  refine xv_cS1 (q := 9) xm_X9_isSheet ln_X9_85 dX9_copy_6 ⟨(Nat.le_of_ble_eq_true rfl), (Nat.le_of_ble_eq_true rfl)⟩ (Nat.le_of_ble_eq_true rfl) ⟨rfl, rfl⟩ rfl (Nat.zero_le _) (Nat.zero_le _) ?_
  refine ⟨_, rfl, ?_⟩
  refine xi_if_eq (q := 12) (q2 := 19) dX9_copy_9 (by decide) rfl (fun c_9 => ?_) (fun c_9 => ?_)
  · have g_9 : xs_i a 0 7 = false := decide_eq_false (xn_b0 c_9)
    refine xi_ldc (q := 21) dX9_copy_19 kc_X9_91 rfl ?_
    refine xi_ret ⟨_, rfl, rfl, dX9_copy_21⟩ (Nat.zero_le _) (Nat.zero_le _) ?_
    exact xs_finM (σ' := σ) hp (by simp only [xs_copy, xs_onE, xs_onP, xs_fn, xs_an, Bool.not_false, Bool.not_true, Bool.true_or, Bool.false_or, Bool.and_true, Bool.true_and, Bool.and_false, Bool.false_and, Bool.false_eq_true, if_true, if_false, ↓reduceIte, g_9] <;> rfl) _ (xs_Mx (σ' := σ) hM hR (fa := (upd (C 83) 0 0)) ((va_up_self _ _ _).trans rfl) (fun j hj => (pk_un (by omega)).trans (rfl)) ((va_up_ne _ _ (by omega)).trans (xs_M88 hM)) (fun _ _ => rfl) ((va_up_ne _ _ (by omega)).trans (xs_M94 hM)) ((va_up_ne _ _ (by omega)).trans (xs_M95 hM)) ((va_up_ne _ _ (by omega)).trans (xs_M96 hM)) ((va_up_ne _ _ (by omega)).trans (xs_M97 hM)) ((va_up_ne _ _ (by omega)).trans (xs_M98 hM)) ((va_up_ne _ _ (by omega)).trans (xs_M99 hM)) (fun i i1 i2 i3 i4 => ((va_up_ne _ _ (by omega)).trans (Eq.refl _))) (fun _ _ _ => rfl) hR.2) (fun i hi => ((va_up_ne _ _ (by omega)).trans (Eq.refl _)))
  · have g_9 : xs_i a 0 7 = true := decide_eq_true (xn_b1 c_9)
    obtain ⟨ka, hka, rfl⟩ := xn_pk (m := 7) (by omega) (xn_b1 c_9)
    refine xi_iload_n (q := 13) dX9_copy_12 rfl rfl ?_
    refine xv_cS1 (q := 16) xm_X9_isSheet ln_X9_85 dX9_copy_13 ⟨(Nat.le_of_ble_eq_true rfl), (Nat.le_of_ble_eq_true rfl)⟩ (Nat.le_of_ble_eq_true rfl) ⟨rfl, rfl⟩ rfl (Nat.zero_le _) (Nat.zero_le _) ?_
    refine ⟨_, rfl, ?_⟩
    refine xi_if_ne (q := 19) (q2 := 22) dX9_copy_16 (by decide) rfl (fun c_16 => ?_) (fun c_16 => ?_)
    · have g_16 : xs_i b 0 7 = true := decide_eq_true (xn_b1 c_16)
      obtain ⟨kb, hkb, rfl⟩ := xn_pk (m := 7) (by omega) (xn_b1 c_16)
      refine xi_aload_n (q := 23) dX9_copy_22 rfl rfl ?_
      refine xi_iconst (x := 0) (q := 24) dX9_copy_23 (by decide) rfl ?_
      refine xi_putf (q := 27) dX9_copy_24 fl_X9_75 (xv_self (by omega)) (Or.inl rfl) (fun _ => rfl) (fun _ => rfl) (Nat.le_of_ble_eq_true rfl) rfl ?_
      refine xi_aload_n (q := 28) dX9_copy_27 rfl rfl ?_
      refine xi_getf (q := 31) dX9_copy_28 fl_X9_7 (xv_self (by omega)) rfl rfl ?_
      refine xi_iload_n (q := 32) dX9_copy_31 rfl rfl ?_
      refine xi_iald (q := 33) dX9_copy_32 (xv_keep (by omega) (xv_keep (by omega) ⟨by omega, (xs_M84 hM)⟩)) (xv_ixN (by omega) (by omega)) rfl ?_
      refine xi_if_lt (q := 36) (q2 := 45) dX9_copy_33 (by decide) rfl (fun c_33 => ?_) (fun c_33 => ?_)
      · have y33 : σ 0 ka 0 = 0 := (xs_ln hV hR (by omega)).2 (fun z => by rw [xn_le] at z; rw [xn_lt] at c_33; omega)
        refine xi_aload_n (q := 46) dX9_copy_45 rfl rfl ?_
        refine xi_iconst (x := 1) (q := 47) dX9_copy_46 (by decide) rfl ?_
        refine xv_cV1 (q := 50) xm_X9_found ln_X9_92 dX9_copy_47 (xv_self (by omega)) rfl ⟨(Nat.le_of_ble_eq_true rfl), (Nat.le_of_ble_eq_true rfl)⟩ (Nat.le_of_ble_eq_true rfl) ⟨rfl, rfl⟩ rfl (Nat.zero_le _) (Nat.zero_le _) ?_
        refine ⟨(upd (upd (C 83) 0 0) 1 0), dk, 1, rfl, ((va_up_self _ _ _).trans rfl), by omega, fun h47 p47 f47 => ?_⟩
        have Fh47 : ∀ i, i ≠ 83 → h47 i = h i := fun i j83 => (f47 i (by omega)).trans ((va_up_ne _ _ (by omega)).trans ((va_up_ne _ _ (by omega)).trans (Eq.refl _)))
        refine xi_ret ⟨_, rfl, rfl, dX9_copy_50⟩ (Nat.zero_le _) (Nat.zero_le _) ?_
        exact xs_finM (σ' := (xs_fd σ 1)) hp (by simp only [xs_copy, xs_onE, xs_onP, xs_fn, xs_an, Bool.not_false, Bool.not_true, Bool.true_or, Bool.false_or, Bool.and_true, Bool.true_and, Bool.and_false, Bool.false_and, Bool.false_eq_true, if_true, if_false, ↓reduceIte, g_9, g_16, eq_true y33, xs_kk0 (k := ka) (by omega), xs_kk0 (k := kb) (by omega)] <;> rfl) _ (xs_Mx (σ' := (xs_fd σ 1)) hM hR (fa := (upd (upd (upd (C 83) 0 0) 1 0) 1 1)) p47 (fun j hj => (pk_un (by omega)).trans ((pk_un (by omega)).trans ((pk_un (by omega)).trans (rfl)))) ((Fh47 88 (by omega)).trans (xs_M88 hM)) (fun _ _ => rfl) ((Fh47 94 (by omega)).trans (xs_M94 hM)) ((Fh47 95 (by omega)).trans (xs_M95 hM)) ((Fh47 96 (by omega)).trans (xs_M96 hM)) ((Fh47 97 (by omega)).trans (xs_M97 hM)) ((Fh47 98 (by omega)).trans (xs_M98 hM)) ((Fh47 99 (by omega)).trans (xs_M99 hM)) (fun i i1 i2 i3 i4 => (Fh47 i (by omega))) xs_fdo rfl) (fun i hi => (Fh47 i (by omega)))
      · have y33 : ¬ σ 0 ka 0 = 0 := (xs_ln hV hR (by omega)).1 (by rw [xn_le]; rw [xn_lt] at c_33; omega)
        refine xi_aload_n (q := 37) dX9_copy_36 rfl rfl ?_
        refine xi_getf (q := 40) dX9_copy_37 fl_X9_7 (xv_self (by omega)) rfl rfl ?_
        refine xi_iload_n (q := 41) dX9_copy_40 rfl rfl ?_
        refine xi_iald (q := 42) dX9_copy_41 (xv_keep (by omega) (xv_keep (by omega) ⟨by omega, (xs_M84 hM)⟩)) (xv_ixN (by omega) (by omega)) rfl ?_
        refine xi_if_ge (q := 45) (q2 := 51) dX9_copy_42 (by decide) rfl (fun c_42 => ?_) (fun c_42 => ?_)
        · have y42 : ¬ σ 0 kb 0 = 0 := (xs_ln hV hR (by omega)).1 c_42
          refine xi_aload_n (q := 52) dX9_copy_51 rfl rfl ?_
          refine xi_getf (q := 55) dX9_copy_52 fl_X9_7 (xv_self (by omega)) rfl rfl ?_
          refine xi_iload_n (q := 56) dX9_copy_55 rfl rfl ?_
          refine xi_iald (q := 57) dX9_copy_56 (xv_keep (by omega) (xv_keep (by omega) ⟨by omega, (xs_M84 hM)⟩)) (xv_ixN (by omega) (by omega)) rfl ?_
          refine xi_aload_n (q := 58) dX9_copy_57 rfl rfl ?_
          refine xi_getf (q := 61) dX9_copy_58 fl_X9_7 (xv_self (by omega)) rfl rfl ?_
          refine xi_iload_n (q := 62) dX9_copy_61 rfl rfl ?_
          refine xi_iald (q := 63) dX9_copy_62 (xv_keep (by omega) (xv_keep (by omega) ⟨by omega, (xs_M84 hM)⟩)) (xv_ixN (by omega) (by omega)) rfl ?_
          refine xi_icmp_eq (q := 66) (q2 := 72) dX9_copy_63 (by decide) rfl (fun c_63 => ?_) (fun c_63 => ?_)
          · have y63 : σ 1 ka 0 = σ 1 kb 0 := (xs_ln1 hR (by omega) y33).symm.trans (c_63.trans (xs_ln1 hR (by omega) y42))
            refine xi_iload_n (q := 73) dX9_copy_72 rfl rfl ?_
            refine xi_if_lt (q := 76) (q2 := 121) dX9_copy_73 (by decide) rfl (fun c_73 => ?_) (fun c_73 => ?_)
            · have g_73 : xs_has i c (σ 2 ka 0) = false := xn_hasN (fun z => by rw [xn_le] at z; rw [xn_lt] at c_73; omega)
              refine xi_aload_n (q := 122) dX9_copy_121 rfl rfl ?_
              refine xi_iconst (x := 2) (q := 123) dX9_copy_122 (by decide) rfl ?_
              refine xv_cV1 (q := 126) xm_X9_found ln_X9_92 dX9_copy_123 (xv_self (by omega)) rfl ⟨(Nat.le_of_ble_eq_true rfl), (Nat.le_of_ble_eq_true rfl)⟩ (Nat.le_of_ble_eq_true rfl) ⟨rfl, rfl⟩ rfl (Nat.zero_le _) (Nat.zero_le _) ?_
              refine ⟨(upd (upd (C 83) 0 0) 1 0), dk, 2, rfl, ((va_up_self _ _ _).trans rfl), by omega, fun h123 p123 f123 => ?_⟩
              have Fh123 : ∀ i, i ≠ 83 → h123 i = h i := fun i j83 => (f123 i (by omega)).trans ((va_up_ne _ _ (by omega)).trans ((va_up_ne _ _ (by omega)).trans (Eq.refl _)))
              refine xi_ret ⟨_, rfl, rfl, dX9_copy_126⟩ (Nat.zero_le _) (Nat.zero_le _) ?_
              exact xs_finM (σ' := (xs_fd σ 2)) hp (by simp only [xs_copy, xs_onE, xs_onP, xs_fn, xs_an, Bool.not_false, Bool.not_true, Bool.true_or, Bool.false_or, Bool.and_true, Bool.true_and, Bool.and_false, Bool.false_and, Bool.false_eq_true, if_true, if_false, ↓reduceIte, g_9, g_16, eq_false y33, eq_false y42, eq_true y63, g_73, xs_kk0 (k := ka) (by omega), xs_kk0 (k := kb) (by omega)] <;> rfl) _ (xs_Mx (σ' := (xs_fd σ 2)) hM hR (fa := (upd (upd (upd (C 83) 0 0) 1 0) 1 2)) p123 (fun j hj => (pk_un (by omega)).trans ((pk_un (by omega)).trans ((pk_un (by omega)).trans (rfl)))) ((Fh123 88 (by omega)).trans (xs_M88 hM)) (fun _ _ => rfl) ((Fh123 94 (by omega)).trans (xs_M94 hM)) ((Fh123 95 (by omega)).trans (xs_M95 hM)) ((Fh123 96 (by omega)).trans (xs_M96 hM)) ((Fh123 97 (by omega)).trans (xs_M97 hM)) ((Fh123 98 (by omega)).trans (xs_M98 hM)) ((Fh123 99 (by omega)).trans (xs_M99 hM)) (fun i i1 i2 i3 i4 => (Fh123 i (by omega))) xs_fdo rfl) (fun i hi => (Fh123 i (by omega)))
            · have h0_73 : 0 ≤ i := by rw [xn_le]; rw [xn_lt] at c_73; omega
              refine xi_iload (q := 78) dX9_copy_76 rfl rfl ?_
              refine xi_if_lt (q := 81) (q2 := 121) dX9_copy_78 (by decide) rfl (fun c_78 => ?_) (fun c_78 => ?_)
              · have g_78 : xs_has j c (σ 2 kb 0) = false := xn_hasN (fun z => by rw [xn_le] at z; rw [xn_lt] at c_78; omega)
                refine xi_aload_n (q := 122) dX9_copy_121 rfl rfl ?_
                refine xi_iconst (x := 2) (q := 123) dX9_copy_122 (by decide) rfl ?_
                refine xv_cV1 (q := 126) xm_X9_found ln_X9_92 dX9_copy_123 (xv_self (by omega)) rfl ⟨(Nat.le_of_ble_eq_true rfl), (Nat.le_of_ble_eq_true rfl)⟩ (Nat.le_of_ble_eq_true rfl) ⟨rfl, rfl⟩ rfl (Nat.zero_le _) (Nat.zero_le _) ?_
                refine ⟨(upd (upd (C 83) 0 0) 1 0), dk, 2, rfl, ((va_up_self _ _ _).trans rfl), by omega, fun h123 p123 f123 => ?_⟩
                have Fh123 : ∀ i, i ≠ 83 → h123 i = h i := fun i j83 => (f123 i (by omega)).trans ((va_up_ne _ _ (by omega)).trans ((va_up_ne _ _ (by omega)).trans (Eq.refl _)))
                refine xi_ret ⟨_, rfl, rfl, dX9_copy_126⟩ (Nat.zero_le _) (Nat.zero_le _) ?_
                exact xs_finM (σ' := (xs_fd σ 2)) hp (by simp only [xs_copy, xs_onE, xs_onP, xs_fn, xs_an, Bool.not_false, Bool.not_true, Bool.true_or, Bool.false_or, Bool.and_true, Bool.true_and, Bool.and_false, Bool.false_and, Bool.false_eq_true, if_true, if_false, ↓reduceIte, g_9, g_16, eq_false y33, eq_false y42, eq_true y63, g_78, xs_kk0 (k := ka) (by omega), xs_kk0 (k := kb) (by omega)] <;> rfl) _ (xs_Mx (σ' := (xs_fd σ 2)) hM hR (fa := (upd (upd (upd (C 83) 0 0) 1 0) 1 2)) p123 (fun j hj => (pk_un (by omega)).trans ((pk_un (by omega)).trans ((pk_un (by omega)).trans (rfl)))) ((Fh123 88 (by omega)).trans (xs_M88 hM)) (fun _ _ => rfl) ((Fh123 94 (by omega)).trans (xs_M94 hM)) ((Fh123 95 (by omega)).trans (xs_M95 hM)) ((Fh123 96 (by omega)).trans (xs_M96 hM)) ((Fh123 97 (by omega)).trans (xs_M97 hM)) ((Fh123 98 (by omega)).trans (xs_M98 hM)) ((Fh123 99 (by omega)).trans (xs_M99 hM)) (fun i i1 i2 i3 i4 => (Fh123 i (by omega))) xs_fdo rfl) (fun i hi => (Fh123 i (by omega)))
              · have h0_78 : 0 ≤ j := by rw [xn_le]; rw [xn_lt] at c_78; omega
                refine xi_iload (q := 83) dX9_copy_81 rfl rfl ?_
                refine xi_if_lt (q := 86) (q2 := 121) dX9_copy_83 (by decide) rfl (fun c_83 => ?_) (fun c_83 => ?_)
                · have g_83 : xs_has i c (σ 2 ka 0) = false := xn_hasK c_83
                  refine xi_aload_n (q := 122) dX9_copy_121 rfl rfl ?_
                  refine xi_iconst (x := 2) (q := 123) dX9_copy_122 (by decide) rfl ?_
                  refine xv_cV1 (q := 126) xm_X9_found ln_X9_92 dX9_copy_123 (xv_self (by omega)) rfl ⟨(Nat.le_of_ble_eq_true rfl), (Nat.le_of_ble_eq_true rfl)⟩ (Nat.le_of_ble_eq_true rfl) ⟨rfl, rfl⟩ rfl (Nat.zero_le _) (Nat.zero_le _) ?_
                  refine ⟨(upd (upd (C 83) 0 0) 1 0), dk, 2, rfl, ((va_up_self _ _ _).trans rfl), by omega, fun h123 p123 f123 => ?_⟩
                  have Fh123 : ∀ i, i ≠ 83 → h123 i = h i := fun i j83 => (f123 i (by omega)).trans ((va_up_ne _ _ (by omega)).trans ((va_up_ne _ _ (by omega)).trans (Eq.refl _)))
                  refine xi_ret ⟨_, rfl, rfl, dX9_copy_126⟩ (Nat.zero_le _) (Nat.zero_le _) ?_
                  exact xs_finM (σ' := (xs_fd σ 2)) hp (by simp only [xs_copy, xs_onE, xs_onP, xs_fn, xs_an, Bool.not_false, Bool.not_true, Bool.true_or, Bool.false_or, Bool.and_true, Bool.true_and, Bool.and_false, Bool.false_and, Bool.false_eq_true, if_true, if_false, ↓reduceIte, g_9, g_16, eq_false y33, eq_false y42, eq_true y63, g_83, xs_kk0 (k := ka) (by omega), xs_kk0 (k := kb) (by omega)] <;> rfl) _ (xs_Mx (σ' := (xs_fd σ 2)) hM hR (fa := (upd (upd (upd (C 83) 0 0) 1 0) 1 2)) p123 (fun j hj => (pk_un (by omega)).trans ((pk_un (by omega)).trans ((pk_un (by omega)).trans (rfl)))) ((Fh123 88 (by omega)).trans (xs_M88 hM)) (fun _ _ => rfl) ((Fh123 94 (by omega)).trans (xs_M94 hM)) ((Fh123 95 (by omega)).trans (xs_M95 hM)) ((Fh123 96 (by omega)).trans (xs_M96 hM)) ((Fh123 97 (by omega)).trans (xs_M97 hM)) ((Fh123 98 (by omega)).trans (xs_M98 hM)) ((Fh123 99 (by omega)).trans (xs_M99 hM)) (fun i i1 i2 i3 i4 => (Fh123 i (by omega))) xs_fdo rfl) (fun i hi => (Fh123 i (by omega)))
                · have h0_83 : 0 ≤ c.toInt := by rw [xn_lt, show (0 : Int32).toInt = 0 from rfl] at c_83; omega
                  refine xi_iload_n (q := 87) dX9_copy_86 rfl rfl ?_
                  refine xi_i2l (q := 88) dX9_copy_87 rfl ?_
                  refine xi_iload (q := 90) dX9_copy_88 rfl rfl ?_
                  refine xi_i2l (q := 91) dX9_copy_90 rfl ?_
                  refine xi_ladd (q := 92) dX9_copy_91 rfl ?_
                  refine xi_aload_n (q := 93) dX9_copy_92 rfl rfl ?_
                  refine xi_getf (q := 96) dX9_copy_93 fl_X9_13 (xv_self (by omega)) rfl rfl ?_
                  refine xi_iload_n (q := 97) dX9_copy_96 rfl rfl ?_
                  refine xi_iald (q := 98) dX9_copy_97 (xv_keep (by omega) (xv_keep (by omega) ⟨by omega, (xs_M85 hM)⟩)) (xv_ixN (by omega) (by omega)) rfl ?_
                  rw [(hR.1.1 ka (by omega)).2.1]
                  refine xi_i2l (q := 99) dX9_copy_98 rfl ?_
                  refine xi_lcmp (q := 100) dX9_copy_99 rfl ?_
                  refine xi_if_gt (q := 103) (q2 := 121) dX9_copy_100 (by decide) rfl (fun c_100 => ?_) (fun c_100 => ?_)
                  · have g_100 : xs_has i c (σ 2 ka 0) = false := Bool.eq_false_iff.mpr (fun z => by have y := (xn_hasL (k := c) h0_73 h0_83 (hV.2.1 ka (by omega) y33).1).mpr z; rw [xn_le] at y; rw [xn_lt] at c_100; omega)
                    refine xi_aload_n (q := 122) dX9_copy_121 rfl rfl ?_
                    refine xi_iconst (x := 2) (q := 123) dX9_copy_122 (by decide) rfl ?_
                    refine xv_cV1 (q := 126) xm_X9_found ln_X9_92 dX9_copy_123 (xv_self (by omega)) rfl ⟨(Nat.le_of_ble_eq_true rfl), (Nat.le_of_ble_eq_true rfl)⟩ (Nat.le_of_ble_eq_true rfl) ⟨rfl, rfl⟩ rfl (Nat.zero_le _) (Nat.zero_le _) ?_
                    refine ⟨(upd (upd (C 83) 0 0) 1 0), dk, 2, rfl, ((va_up_self _ _ _).trans rfl), by omega, fun h123 p123 f123 => ?_⟩
                    have Fh123 : ∀ i, i ≠ 83 → h123 i = h i := fun i j83 => (f123 i (by omega)).trans ((va_up_ne _ _ (by omega)).trans ((va_up_ne _ _ (by omega)).trans (Eq.refl _)))
                    refine xi_ret ⟨_, rfl, rfl, dX9_copy_126⟩ (Nat.zero_le _) (Nat.zero_le _) ?_
                    exact xs_finM (σ' := (xs_fd σ 2)) hp (by simp only [xs_copy, xs_onE, xs_onP, xs_fn, xs_an, Bool.not_false, Bool.not_true, Bool.true_or, Bool.false_or, Bool.and_true, Bool.true_and, Bool.and_false, Bool.false_and, Bool.false_eq_true, if_true, if_false, ↓reduceIte, g_9, g_16, eq_false y33, eq_false y42, eq_true y63, g_100, xs_kk0 (k := ka) (by omega), xs_kk0 (k := kb) (by omega)] <;> rfl) _ (xs_Mx (σ' := (xs_fd σ 2)) hM hR (fa := (upd (upd (upd (C 83) 0 0) 1 0) 1 2)) p123 (fun j hj => (pk_un (by omega)).trans ((pk_un (by omega)).trans ((pk_un (by omega)).trans (rfl)))) ((Fh123 88 (by omega)).trans (xs_M88 hM)) (fun _ _ => rfl) ((Fh123 94 (by omega)).trans (xs_M94 hM)) ((Fh123 95 (by omega)).trans (xs_M95 hM)) ((Fh123 96 (by omega)).trans (xs_M96 hM)) ((Fh123 97 (by omega)).trans (xs_M97 hM)) ((Fh123 98 (by omega)).trans (xs_M98 hM)) ((Fh123 99 (by omega)).trans (xs_M99 hM)) (fun i i1 i2 i3 i4 => (Fh123 i (by omega))) xs_fdo rfl) (fun i hi => (Fh123 i (by omega)))
                  · have g_100 : xs_has i c (σ 2 ka 0) = true := (xn_hasL (k := c) h0_73 h0_83 (hV.2.1 ka (by omega) y33).1).mp (by rw [xn_le]; rw [xn_lt] at c_100; omega)
                    refine xi_iload (q := 105) dX9_copy_103 rfl rfl ?_
                    refine xi_i2l (q := 106) dX9_copy_105 rfl ?_
                    refine xi_iload (q := 108) dX9_copy_106 rfl rfl ?_
                    refine xi_i2l (q := 109) dX9_copy_108 rfl ?_
                    refine xi_ladd (q := 110) dX9_copy_109 rfl ?_
                    refine xi_aload_n (q := 111) dX9_copy_110 rfl rfl ?_
                    refine xi_getf (q := 114) dX9_copy_111 fl_X9_13 (xv_self (by omega)) rfl rfl ?_
                    refine xi_iload_n (q := 115) dX9_copy_114 rfl rfl ?_
                    refine xi_iald (q := 116) dX9_copy_115 (xv_keep (by omega) (xv_keep (by omega) ⟨by omega, (xs_M85 hM)⟩)) (xv_ixN (by omega) (by omega)) rfl ?_
                    rw [(hR.1.1 kb (by omega)).2.1]
                    refine xi_i2l (q := 117) dX9_copy_116 rfl ?_
                    refine xi_lcmp (q := 118) dX9_copy_117 rfl ?_
                    refine xi_if_le (q := 121) (q2 := 127) dX9_copy_118 (by decide) rfl (fun c_118 => ?_) (fun c_118 => ?_)
                    · have g_118 : xs_has j c (σ 2 kb 0) = true := (xn_hasL (k := c) h0_78 h0_83 (hV.2.1 kb (by omega) y42).1).mp c_118
                      obtain ⟨kc, hkc, rfl⟩ : ∃ kc : Nat, kc ≤ 60 ∧ c = nI kc := ⟨c.toNatClampNeg, by have z := (xn_hasC g_100 (hV.2.1 ka (by omega) y33).1.2).2.2.1; omega, xn_ofI h0_83⟩
                      obtain ⟨ki, hki, rfl⟩ := xn_hasA (m := kc) (by omega) g_100 (hV.2.1 ka (by omega) y33).1.2
                      obtain ⟨kj, hkj, rfl⟩ := xn_hasA (m := kc) (by omega) g_118 (hV.2.1 kb (by omega) y42).1.2
                      refine xi_iload_n (q := 128) dX9_copy_127 rfl rfl ?_
                      refine xi_iload (q := 130) dX9_copy_128 rfl rfl ?_
                      refine xi_icmp_lt (q := 133) (q2 := 137) dX9_copy_130 (by decide) rfl (fun c_130 => ?_) (fun c_130 => ?_)
                      · have hup : ki < kj := (nI_ltI (by omega) (by omega)).mp c_130
                        refine xi_iconst (x := 0) (q := 138) dX9_copy_137 (by decide) rfl ?_
                        refine xi_istore (q := 140) dX9_copy_138 (Nat.le_of_ble_eq_true rfl) rfl ?_
                        refine xi_iconst (x := 0) (q := 141) dX9_copy_140 (by decide) rfl ?_
                        refine xi_istore (q := 143) dX9_copy_141 (Nat.le_of_ble_eq_true rfl) rfl ?_
                        refine xv_weakS (lv' := [(0, .ref 83), (1, .int (nI ka)), (2, .int (nI ki)), (3, .int (nI kb)), (4, .int (nI kj)), (5, .int (nI kc)), (6, .int 0), (7, .int (nI 0))]) ⟨rfl, rfl, rfl, rfl, rfl, rfl, rfl, rfl, trivial⟩ ?_
                        refine xv_lpH (lv := fun k => [(0, .ref 83), (1, .int (nI ka)), (2, .int (nI ki)), (3, .int (nI kb)), (4, .int (nI kj)), (5, .int (nI kc)), (6, .int 0), (7, .int (nI k))]) (I := fun k hI => ∃ (dI : Int64) (g86 : Nat → Int32), hI 83 = xs_mo (upd (upd (C 83) 0 0) 1 0) dI ∧ hI 86 = xs_ia 480 g86 ∧ (∀ x, x < 480 → g86 x = if 60 * kb + kj + (kc - k) ≤ x ∧ x < 60 * kb + kj + kc then C 86 (60 * ka + ki + (x - (60 * kb + kj))) else C 86 x) ∧ ∀ i, i ≠ 83 → i ≠ 86 → hI i = h i) (N := kc) (fun k h143 hk I143 ih143 => ?_) 0 _ (by omega) ⟨_, _, ((va_up_self _ _ _).trans rfl), ((va_up_ne _ _ (by omega)).trans ((va_up_ne _ _ (by omega)).trans (xs_M86 hM))), (fun x hx => (if_neg (by omega)).symm), fun i _ _ => ((va_up_ne _ _ (by omega)).trans ((va_up_ne _ _ (by omega)).trans (Eq.refl _)))⟩
                        show xv_V X mX9_copy Post 0 0 143 [(0, .ref 83), (1, .int (nI ka)), (2, .int (nI ki)), (3, .int (nI kb)), (4, .int (nI kj)), (5, .int (nI kc)), (6, .int 0), (7, .int (nI k))] [] h143 n
                        obtain ⟨d143, g86_143, p83_143, p86_143, x143, F143⟩ := I143
                        refine xi_iload (q := 145) dX9_copy_143 rfl rfl ?_
                        refine xi_iload (q := 147) dX9_copy_145 rfl rfl ?_
                        refine xi_icmp_ge (q := 150) (q2 := 204) dX9_copy_147 (by decide) rfl (fun c_147 => ?_) (fun c_147 => ?_)
                        · have hk2 : k = kc := by have z : kc ≤ k := xn_leN c_147 (by omega) (by omega); omega
                          rw [hk2] at x143
                          refine xi_iload (q := 206) dX9_copy_204 rfl rfl ?_
                          refine xi_ret ⟨_, rfl, rfl, dX9_copy_206⟩ (Nat.zero_le _) (Nat.zero_le _) ?_
                          exact xs_finM (σ' := (xs_fd (xs_sh σ kb (σ 0 kb 0) (σ 1 kb 0) (σ 2 kb 0) (va_cpy (σ 3 ka) (σ 3 kb) ki kj kc)) 0)) hp (by simp only [xs_copy, xs_onE, xs_onP, xs_fn, xs_an, Bool.not_false, Bool.not_true, Bool.true_or, Bool.false_or, Bool.and_true, Bool.true_and, Bool.and_false, Bool.false_and, Bool.false_eq_true, if_true, if_false, ↓reduceIte, g_9, g_16, eq_false y33, eq_false y42, eq_true y63, g_100, g_118, xs_kk0 (k := ka) (by omega), xs_kk0 (k := kb) (by omega), xs_kk0 (k := ki) (by omega), xs_kk0 (k := kj) (by omega), xs_kk0 (k := kc) (by omega)] <;> rfl) _ ⟨(xs_cu (xs_cu C 83 (upd (upd (C 83) 0 0) 1 0)) 86 g86_143), _, ⟨p83_143, ((F143 84 (by omega) (by omega)).trans (xs_M84 (C := C) hM)), ((F143 85 (by omega) (by omega)).trans (xs_M85 (C := C) hM)), p86_143, ((F143 87 (by omega) (by omega)).trans (xs_M87 (C := C) hM)), ((F143 88 (by omega) (by omega)).trans (xs_M88 (C := C) hM)), ((F143 89 (by omega) (by omega)).trans (xs_M89 (C := C) hM)), ((F143 90 (by omega) (by omega)).trans (xs_M90 (C := C) hM)), ((F143 91 (by omega) (by omega)).trans (xs_M91 (C := C) hM)), ((F143 92 (by omega) (by omega)).trans (xs_M92 (C := C) hM)), ((F143 93 (by omega) (by omega)).trans (xs_M93 (C := C) hM)), ((F143 94 (by omega) (by omega)).trans (xs_M94 (C := C) hM)), ((F143 95 (by omega) (by omega)).trans (xs_M95 (C := C) hM)), ((F143 96 (by omega) (by omega)).trans (xs_M96 (C := C) hM)), ((F143 97 (by omega) (by omega)).trans (xs_M97 (C := C) hM)), ((F143 98 (by omega) (by omega)).trans (xs_M98 (C := C) hM)), ((F143 99 (by omega) (by omega)).trans (xs_M99 (C := C) hM)), ((F143 100 (by omega) (by omega)).trans (xs_M100 (C := C) hM)), ((F143 101 (by omega) (by omega)).trans (xs_M101 (C := C) hM)), ((F143 102 (by omega) (by omega)).trans (xs_M102 (C := C) hM)), ((F143 103 (by omega) (by omega)).trans (xs_M103 (C := C) hM))⟩, ⟨xs_Rfd (xs_Rsh (j := kb) hR.1 (fun s hs => by
                                    by_cases e : s = kb
                                    · rw [if_pos e, e]; exact (hR.1.1 kb (by omega)).1
                                    · rw [if_neg e]; rfl) (fun s hs => by
                                    by_cases e : s = kb
                                    · rw [if_pos e, e]; exact (hR.1.1 kb (by omega)).2.1
                                    · rw [if_neg e]; rfl) (fun x hx => by
                                    show g86_143 (60 * kb + x) = if kj ≤ x ∧ x < kj + kc then σ 3 ka (ki + (x - kj)) else σ 3 kb x
                                    rw [x143 _ (by omega)]
                                    by_cases y : kj ≤ x ∧ x < kj + kc
                                    · rw [if_pos y, if_pos (by omega), show 60 * ka + ki + (60 * kb + x - (60 * kb + kj)) = 60 * ka + (ki + (x - kj)) by omega]
                                      exact (hR.1.1 ka (by omega)).2.2 _ (by omega)
                                    · rw [if_neg y, if_neg (by omega)]
                                      exact (hR.1.1 kb (by omega)).2.2 _ hx) (fun s k hs hsk hk => by
                                    show g86_143 (60 * s + k) = _
                                    rw [x143 _ (by omega), if_neg (by omega)]) (fun i hi => (pk_un (by omega)).trans ((pk_un (by omega)).trans (rfl))) (fun i hi => (by rw [xs_cuo (by omega), xs_cuo (by omega)]))), rfl⟩⟩ (fun i hi => (F143 i (by omega) (by omega)))
                        · have hk2 : k < kc := xn_nleN c_147 (by omega) (by omega)
                          refine xi_iload (q := 152) dX9_copy_150 rfl rfl ?_
                          refine xi_if_eq (q := 155) (q2 := 160) dX9_copy_152 (by decide) rfl (fun c_152 => ?_) (fun c_152 => ?_)
                          · skip
                            refine xi_iload (q := 162) dX9_copy_160 rfl rfl ?_
                            refine xi_iconst (x := 1) (q := 163) dX9_copy_162 (by decide) rfl ?_
                            refine xi_isub (q := 164) dX9_copy_163 rfl ?_
                            refine xi_iload (q := 166) dX9_copy_164 rfl rfl ?_
                            refine xi_isub (q := 167) dX9_copy_166 rfl ?_
                            rw [show (nI kc - 1 - nI k : Int32) = nI (kc - 1 - k) from by rw [show (nI kc - 1 : Int32) = nI (kc - 1) from xn_subN (b := 1) (by omega)]; exact xn_subN (by omega)]
                            refine xi_istore (q := 169) dX9_copy_167 (Nat.le_of_ble_eq_true rfl) rfl ?_
                            refine xi_aload_n (q := 170) dX9_copy_169 rfl rfl ?_
                            refine xi_getf (q := 173) dX9_copy_170 fl_X9_16 ⟨by omega, p83_143⟩ rfl rfl ?_
                            refine xi_bipush (x := 60) (q := 175) dX9_copy_173 (by decide) rfl ?_
                            refine xi_iload_n (q := 176) dX9_copy_175 rfl rfl ?_
                            refine xi_imul (q := 177) dX9_copy_176 rfl ?_
                            refine xi_iload (q := 179) dX9_copy_177 rfl rfl ?_
                            refine xi_iadd (q := 180) dX9_copy_179 rfl ?_
                            refine xi_iload (q := 182) dX9_copy_180 rfl rfl ?_
                            refine xi_iadd (q := 183) dX9_copy_182 rfl ?_
                            refine xi_aload_n (q := 184) dX9_copy_183 rfl rfl ?_
                            refine xi_getf (q := 187) dX9_copy_184 fl_X9_16 ⟨by omega, p83_143⟩ rfl rfl ?_
                            refine xi_bipush (x := 60) (q := 189) dX9_copy_187 (by decide) rfl ?_
                            refine xi_iload_n (q := 190) dX9_copy_189 rfl rfl ?_
                            refine xi_imul (q := 191) dX9_copy_190 rfl ?_
                            refine xi_iload_n (q := 192) dX9_copy_191 rfl rfl ?_
                            refine xi_iadd (q := 193) dX9_copy_192 rfl ?_
                            refine xi_iload (q := 195) dX9_copy_193 rfl rfl ?_
                            refine xi_iadd (q := 196) dX9_copy_195 rfl ?_
                            refine xi_iald (q := 197) dX9_copy_196 ⟨by omega, p86_143⟩ (by rw [show (60 * nI ka + nI ki + nI (kc - 1 - k) : Int32) = nI (60 * ka + ki + (kc - 1 - k)) by rw [show (60 * nI ka : Int32) = nI (60 * ka) from pk_mul 60 ka, nI_add, nI_add]]; exact xv_ixN (by omega) (by omega)) rfl ?_
                            rw [show g86_143 (60 * ka + ki + (kc - 1 - k)) = C 86 (60 * ka + ki + (kc - 1 - k)) from by rw [x143 _ (by omega), if_neg (by omega)]]
                            refine xi_iast (q := 198) dX9_copy_197 ⟨by omega, p86_143⟩ (by rw [show (60 * nI kb + nI kj + nI (kc - 1 - k) : Int32) = nI (60 * kb + kj + (kc - 1 - k)) by rw [show (60 * nI kb : Int32) = nI (60 * kb) from pk_mul 60 kb, nI_add, nI_add]]; exact xv_ixN (by omega) (by omega)) rfl ?_
                            refine xi_iinc (y := nI (k + 1)) (q := 201) dX9_copy_198 rfl (xn_inc k) (Nat.le_of_ble_eq_true rfl) rfl ?_
                            refine xi_goto (q := 143) dX9_copy_201 (by decide) ?_
                            refine xv_weakS (lv' := [(0, .ref 83), (1, .int (nI ka)), (2, .int (nI ki)), (3, .int (nI kb)), (4, .int (nI kj)), (5, .int (nI kc)), (6, .int 0), (7, .int (nI (k + 1)))]) ⟨rfl, rfl, rfl, rfl, rfl, rfl, rfl, rfl, trivial⟩ ?_
                            exact ih143 _ (by omega) ⟨_, _, ((va_up_ne _ _ (by omega)).trans p83_143), ((va_up_self _ _ _).trans rfl), (fun x hx => by
                                  by_cases e : x = 60 * kb + kj + (kc - 1 - k)
                                  · rw [e, pk_us, if_pos (by omega), show 60 * kb + kj + (kc - 1 - k) - (60 * kb + kj) = (kc - 1 - k) by omega]
                                  · rw [pk_un e, x143 x hx]
                                    by_cases y : 60 * kb + kj + (kc - k) ≤ x ∧ x < 60 * kb + kj + kc
                                    · rw [if_pos y, if_pos (by omega)]
                                    · rw [if_neg y, if_neg (by omega)]), fun i _ _ => ((va_up_ne _ _ (by omega)).trans (F143 i (by omega) (by omega)))⟩
                          · exact absurd rfl c_152
                      · have hup : ¬ ki < kj := fun z => c_130 ((nI_ltI (by omega) (by omega)).mpr z)
                        refine xi_iconst (x := 1) (q := 134) dX9_copy_133 (by decide) rfl ?_
                        refine xi_goto (q := 138) dX9_copy_134 (by decide) ?_
                        refine xi_istore (q := 140) dX9_copy_138 (Nat.le_of_ble_eq_true rfl) rfl ?_
                        refine xi_iconst (x := 0) (q := 141) dX9_copy_140 (by decide) rfl ?_
                        refine xi_istore (q := 143) dX9_copy_141 (Nat.le_of_ble_eq_true rfl) rfl ?_
                        refine xv_weakS (lv' := [(0, .ref 83), (1, .int (nI ka)), (2, .int (nI ki)), (3, .int (nI kb)), (4, .int (nI kj)), (5, .int (nI kc)), (6, .int 1), (7, .int (nI 0))]) ⟨rfl, rfl, rfl, rfl, rfl, rfl, rfl, rfl, trivial⟩ ?_
                        refine xv_lpH (lv := fun k => [(0, .ref 83), (1, .int (nI ka)), (2, .int (nI ki)), (3, .int (nI kb)), (4, .int (nI kj)), (5, .int (nI kc)), (6, .int 1), (7, .int (nI k))]) (I := fun k hI => ∃ (dI : Int64) (g86 : Nat → Int32), hI 83 = xs_mo (upd (upd (C 83) 0 0) 1 0) dI ∧ hI 86 = xs_ia 480 g86 ∧ (∀ x, x < 480 → g86 x = if 60 * kb + kj ≤ x ∧ x < 60 * kb + kj + k then C 86 (60 * ka + ki + (x - (60 * kb + kj))) else C 86 x) ∧ ∀ i, i ≠ 83 → i ≠ 86 → hI i = h i) (N := kc) (fun k h143 hk I143 ih143 => ?_) 0 _ (by omega) ⟨_, _, ((va_up_self _ _ _).trans rfl), ((va_up_ne _ _ (by omega)).trans ((va_up_ne _ _ (by omega)).trans (xs_M86 hM))), (fun x hx => (if_neg (by omega)).symm), fun i _ _ => ((va_up_ne _ _ (by omega)).trans ((va_up_ne _ _ (by omega)).trans (Eq.refl _)))⟩
                        show xv_V X mX9_copy Post 0 0 143 [(0, .ref 83), (1, .int (nI ka)), (2, .int (nI ki)), (3, .int (nI kb)), (4, .int (nI kj)), (5, .int (nI kc)), (6, .int 1), (7, .int (nI k))] [] h143 n
                        obtain ⟨d143, g86_143, p83_143, p86_143, x143, F143⟩ := I143
                        refine xi_iload (q := 145) dX9_copy_143 rfl rfl ?_
                        refine xi_iload (q := 147) dX9_copy_145 rfl rfl ?_
                        refine xi_icmp_ge (q := 150) (q2 := 204) dX9_copy_147 (by decide) rfl (fun c_147 => ?_) (fun c_147 => ?_)
                        · have hk2 : k = kc := by have z : kc ≤ k := xn_leN c_147 (by omega) (by omega); omega
                          rw [hk2] at x143
                          refine xi_iload (q := 206) dX9_copy_204 rfl rfl ?_
                          refine xi_ret ⟨_, rfl, rfl, dX9_copy_206⟩ (Nat.zero_le _) (Nat.zero_le _) ?_
                          exact xs_finM (σ' := (xs_fd (xs_sh σ kb (σ 0 kb 0) (σ 1 kb 0) (σ 2 kb 0) (va_cpy (σ 3 ka) (σ 3 kb) ki kj kc)) 0)) hp (by simp only [xs_copy, xs_onE, xs_onP, xs_fn, xs_an, Bool.not_false, Bool.not_true, Bool.true_or, Bool.false_or, Bool.and_true, Bool.true_and, Bool.and_false, Bool.false_and, Bool.false_eq_true, if_true, if_false, ↓reduceIte, g_9, g_16, eq_false y33, eq_false y42, eq_true y63, g_100, g_118, xs_kk0 (k := ka) (by omega), xs_kk0 (k := kb) (by omega), xs_kk0 (k := ki) (by omega), xs_kk0 (k := kj) (by omega), xs_kk0 (k := kc) (by omega)] <;> rfl) _ ⟨(xs_cu (xs_cu C 83 (upd (upd (C 83) 0 0) 1 0)) 86 g86_143), _, ⟨p83_143, ((F143 84 (by omega) (by omega)).trans (xs_M84 (C := C) hM)), ((F143 85 (by omega) (by omega)).trans (xs_M85 (C := C) hM)), p86_143, ((F143 87 (by omega) (by omega)).trans (xs_M87 (C := C) hM)), ((F143 88 (by omega) (by omega)).trans (xs_M88 (C := C) hM)), ((F143 89 (by omega) (by omega)).trans (xs_M89 (C := C) hM)), ((F143 90 (by omega) (by omega)).trans (xs_M90 (C := C) hM)), ((F143 91 (by omega) (by omega)).trans (xs_M91 (C := C) hM)), ((F143 92 (by omega) (by omega)).trans (xs_M92 (C := C) hM)), ((F143 93 (by omega) (by omega)).trans (xs_M93 (C := C) hM)), ((F143 94 (by omega) (by omega)).trans (xs_M94 (C := C) hM)), ((F143 95 (by omega) (by omega)).trans (xs_M95 (C := C) hM)), ((F143 96 (by omega) (by omega)).trans (xs_M96 (C := C) hM)), ((F143 97 (by omega) (by omega)).trans (xs_M97 (C := C) hM)), ((F143 98 (by omega) (by omega)).trans (xs_M98 (C := C) hM)), ((F143 99 (by omega) (by omega)).trans (xs_M99 (C := C) hM)), ((F143 100 (by omega) (by omega)).trans (xs_M100 (C := C) hM)), ((F143 101 (by omega) (by omega)).trans (xs_M101 (C := C) hM)), ((F143 102 (by omega) (by omega)).trans (xs_M102 (C := C) hM)), ((F143 103 (by omega) (by omega)).trans (xs_M103 (C := C) hM))⟩, ⟨xs_Rfd (xs_Rsh (j := kb) hR.1 (fun s hs => by
                                    by_cases e : s = kb
                                    · rw [if_pos e, e]; exact (hR.1.1 kb (by omega)).1
                                    · rw [if_neg e]; rfl) (fun s hs => by
                                    by_cases e : s = kb
                                    · rw [if_pos e, e]; exact (hR.1.1 kb (by omega)).2.1
                                    · rw [if_neg e]; rfl) (fun x hx => by
                                    show g86_143 (60 * kb + x) = if kj ≤ x ∧ x < kj + kc then σ 3 ka (ki + (x - kj)) else σ 3 kb x
                                    rw [x143 _ (by omega)]
                                    by_cases y : kj ≤ x ∧ x < kj + kc
                                    · rw [if_pos y, if_pos (by omega), show 60 * ka + ki + (60 * kb + x - (60 * kb + kj)) = 60 * ka + (ki + (x - kj)) by omega]
                                      exact (hR.1.1 ka (by omega)).2.2 _ (by omega)
                                    · rw [if_neg y, if_neg (by omega)]
                                      exact (hR.1.1 kb (by omega)).2.2 _ hx) (fun s k hs hsk hk => by
                                    show g86_143 (60 * s + k) = _
                                    rw [x143 _ (by omega), if_neg (by omega)]) (fun i hi => (pk_un (by omega)).trans ((pk_un (by omega)).trans (rfl))) (fun i hi => (by rw [xs_cuo (by omega), xs_cuo (by omega)]))), rfl⟩⟩ (fun i hi => (F143 i (by omega) (by omega)))
                        · have hk2 : k < kc := xn_nleN c_147 (by omega) (by omega)
                          refine xi_iload (q := 152) dX9_copy_150 rfl rfl ?_
                          refine xi_if_eq (q := 155) (q2 := 160) dX9_copy_152 (by decide) rfl (fun c_152 => ?_) (fun c_152 => ?_)
                          · exact absurd c_152 (by decide)
                          · skip
                            refine xi_iload (q := 157) dX9_copy_155 rfl rfl ?_
                            refine xi_goto (q := 167) dX9_copy_157 (by decide) ?_
                            refine xi_istore (q := 169) dX9_copy_167 (Nat.le_of_ble_eq_true rfl) rfl ?_
                            refine xi_aload_n (q := 170) dX9_copy_169 rfl rfl ?_
                            refine xi_getf (q := 173) dX9_copy_170 fl_X9_16 ⟨by omega, p83_143⟩ rfl rfl ?_
                            refine xi_bipush (x := 60) (q := 175) dX9_copy_173 (by decide) rfl ?_
                            refine xi_iload_n (q := 176) dX9_copy_175 rfl rfl ?_
                            refine xi_imul (q := 177) dX9_copy_176 rfl ?_
                            refine xi_iload (q := 179) dX9_copy_177 rfl rfl ?_
                            refine xi_iadd (q := 180) dX9_copy_179 rfl ?_
                            refine xi_iload (q := 182) dX9_copy_180 rfl rfl ?_
                            refine xi_iadd (q := 183) dX9_copy_182 rfl ?_
                            refine xi_aload_n (q := 184) dX9_copy_183 rfl rfl ?_
                            refine xi_getf (q := 187) dX9_copy_184 fl_X9_16 ⟨by omega, p83_143⟩ rfl rfl ?_
                            refine xi_bipush (x := 60) (q := 189) dX9_copy_187 (by decide) rfl ?_
                            refine xi_iload_n (q := 190) dX9_copy_189 rfl rfl ?_
                            refine xi_imul (q := 191) dX9_copy_190 rfl ?_
                            refine xi_iload_n (q := 192) dX9_copy_191 rfl rfl ?_
                            refine xi_iadd (q := 193) dX9_copy_192 rfl ?_
                            refine xi_iload (q := 195) dX9_copy_193 rfl rfl ?_
                            refine xi_iadd (q := 196) dX9_copy_195 rfl ?_
                            refine xi_iald (q := 197) dX9_copy_196 ⟨by omega, p86_143⟩ (by rw [show (60 * nI ka + nI ki + nI k : Int32) = nI (60 * ka + ki + k) by rw [show (60 * nI ka : Int32) = nI (60 * ka) from pk_mul 60 ka, nI_add, nI_add]]; exact xv_ixN (by omega) (by omega)) rfl ?_
                            rw [show g86_143 (60 * ka + ki + k) = C 86 (60 * ka + ki + k) from by rw [x143 _ (by omega), if_neg (by omega)]]
                            refine xi_iast (q := 198) dX9_copy_197 ⟨by omega, p86_143⟩ (by rw [show (60 * nI kb + nI kj + nI k : Int32) = nI (60 * kb + kj + k) by rw [show (60 * nI kb : Int32) = nI (60 * kb) from pk_mul 60 kb, nI_add, nI_add]]; exact xv_ixN (by omega) (by omega)) rfl ?_
                            refine xi_iinc (y := nI (k + 1)) (q := 201) dX9_copy_198 rfl (xn_inc k) (Nat.le_of_ble_eq_true rfl) rfl ?_
                            refine xi_goto (q := 143) dX9_copy_201 (by decide) ?_
                            refine xv_weakS (lv' := [(0, .ref 83), (1, .int (nI ka)), (2, .int (nI ki)), (3, .int (nI kb)), (4, .int (nI kj)), (5, .int (nI kc)), (6, .int 1), (7, .int (nI (k + 1)))]) ⟨rfl, rfl, rfl, rfl, rfl, rfl, rfl, rfl, trivial⟩ ?_
                            exact ih143 _ (by omega) ⟨_, _, ((va_up_ne _ _ (by omega)).trans p83_143), ((va_up_self _ _ _).trans rfl), (fun x hx => by
                                  by_cases e : x = 60 * kb + kj + k
                                  · rw [e, pk_us, if_pos (by omega), show 60 * kb + kj + k - (60 * kb + kj) = k by omega]
                                  · rw [pk_un e, x143 x hx]
                                    by_cases y : 60 * kb + kj ≤ x ∧ x < 60 * kb + kj + k
                                    · rw [if_pos y, if_pos (by omega)]
                                    · rw [if_neg y, if_neg (by omega)]), fun i _ _ => ((va_up_ne _ _ (by omega)).trans (F143 i (by omega) (by omega)))⟩
                    · have g_118 : xs_has j c (σ 2 kb 0) = false := Bool.eq_false_iff.mpr (fun z => c_118 ((xn_hasL (k := c) h0_78 h0_83 (hV.2.1 kb (by omega) y42).1).mpr z))
                      refine xi_aload_n (q := 122) dX9_copy_121 rfl rfl ?_
                      refine xi_iconst (x := 2) (q := 123) dX9_copy_122 (by decide) rfl ?_
                      refine xv_cV1 (q := 126) xm_X9_found ln_X9_92 dX9_copy_123 (xv_self (by omega)) rfl ⟨(Nat.le_of_ble_eq_true rfl), (Nat.le_of_ble_eq_true rfl)⟩ (Nat.le_of_ble_eq_true rfl) ⟨rfl, rfl⟩ rfl (Nat.zero_le _) (Nat.zero_le _) ?_
                      refine ⟨(upd (upd (C 83) 0 0) 1 0), dk, 2, rfl, ((va_up_self _ _ _).trans rfl), by omega, fun h123 p123 f123 => ?_⟩
                      have Fh123 : ∀ i, i ≠ 83 → h123 i = h i := fun i j83 => (f123 i (by omega)).trans ((va_up_ne _ _ (by omega)).trans ((va_up_ne _ _ (by omega)).trans (Eq.refl _)))
                      refine xi_ret ⟨_, rfl, rfl, dX9_copy_126⟩ (Nat.zero_le _) (Nat.zero_le _) ?_
                      exact xs_finM (σ' := (xs_fd σ 2)) hp (by simp only [xs_copy, xs_onE, xs_onP, xs_fn, xs_an, Bool.not_false, Bool.not_true, Bool.true_or, Bool.false_or, Bool.and_true, Bool.true_and, Bool.and_false, Bool.false_and, Bool.false_eq_true, if_true, if_false, ↓reduceIte, g_9, g_16, eq_false y33, eq_false y42, eq_true y63, g_100, g_118, xs_kk0 (k := ka) (by omega), xs_kk0 (k := kb) (by omega)] <;> rfl) _ (xs_Mx (σ' := (xs_fd σ 2)) hM hR (fa := (upd (upd (upd (C 83) 0 0) 1 0) 1 2)) p123 (fun j hj => (pk_un (by omega)).trans ((pk_un (by omega)).trans ((pk_un (by omega)).trans (rfl)))) ((Fh123 88 (by omega)).trans (xs_M88 hM)) (fun _ _ => rfl) ((Fh123 94 (by omega)).trans (xs_M94 hM)) ((Fh123 95 (by omega)).trans (xs_M95 hM)) ((Fh123 96 (by omega)).trans (xs_M96 hM)) ((Fh123 97 (by omega)).trans (xs_M97 hM)) ((Fh123 98 (by omega)).trans (xs_M98 hM)) ((Fh123 99 (by omega)).trans (xs_M99 hM)) (fun i i1 i2 i3 i4 => (Fh123 i (by omega))) xs_fdo rfl) (fun i hi => (Fh123 i (by omega)))
          · have y63 : ¬ σ 1 ka 0 = σ 1 kb 0 := fun e => c_63 ((xs_ln1 hR (by omega) y33).trans (e.trans (xs_ln1 hR (by omega) y42).symm))
            refine xi_aload_n (q := 67) dX9_copy_66 rfl rfl ?_
            refine xi_iconst (x := 5) (q := 68) dX9_copy_67 (by decide) rfl ?_
            refine xv_cV1 (q := 71) xm_X9_found ln_X9_92 dX9_copy_68 (xv_self (by omega)) rfl ⟨(Nat.le_of_ble_eq_true rfl), (Nat.le_of_ble_eq_true rfl)⟩ (Nat.le_of_ble_eq_true rfl) ⟨rfl, rfl⟩ rfl (Nat.zero_le _) (Nat.zero_le _) ?_
            refine ⟨(upd (upd (C 83) 0 0) 1 0), dk, 5, rfl, ((va_up_self _ _ _).trans rfl), by omega, fun h68 p68 f68 => ?_⟩
            have Fh68 : ∀ i, i ≠ 83 → h68 i = h i := fun i j83 => (f68 i (by omega)).trans ((va_up_ne _ _ (by omega)).trans ((va_up_ne _ _ (by omega)).trans (Eq.refl _)))
            refine xi_ret ⟨_, rfl, rfl, dX9_copy_71⟩ (Nat.zero_le _) (Nat.zero_le _) ?_
            exact xs_finM (σ' := (xs_fd σ 5)) hp (by simp only [xs_copy, xs_onE, xs_onP, xs_fn, xs_an, Bool.not_false, Bool.not_true, Bool.true_or, Bool.false_or, Bool.and_true, Bool.true_and, Bool.and_false, Bool.false_and, Bool.false_eq_true, if_true, if_false, ↓reduceIte, g_9, g_16, eq_false y33, eq_false y42, eq_false y63, xs_kk0 (k := ka) (by omega), xs_kk0 (k := kb) (by omega)] <;> rfl) _ (xs_Mx (σ' := (xs_fd σ 5)) hM hR (fa := (upd (upd (upd (C 83) 0 0) 1 0) 1 5)) p68 (fun j hj => (pk_un (by omega)).trans ((pk_un (by omega)).trans ((pk_un (by omega)).trans (rfl)))) ((Fh68 88 (by omega)).trans (xs_M88 hM)) (fun _ _ => rfl) ((Fh68 94 (by omega)).trans (xs_M94 hM)) ((Fh68 95 (by omega)).trans (xs_M95 hM)) ((Fh68 96 (by omega)).trans (xs_M96 hM)) ((Fh68 97 (by omega)).trans (xs_M97 hM)) ((Fh68 98 (by omega)).trans (xs_M98 hM)) ((Fh68 99 (by omega)).trans (xs_M99 hM)) (fun i i1 i2 i3 i4 => (Fh68 i (by omega))) xs_fdo rfl) (fun i hi => (Fh68 i (by omega)))
        · have y42 : σ 0 kb 0 = 0 := (xs_ln hV hR (by omega)).2 c_42
          refine xi_aload_n (q := 46) dX9_copy_45 rfl rfl ?_
          refine xi_iconst (x := 1) (q := 47) dX9_copy_46 (by decide) rfl ?_
          refine xv_cV1 (q := 50) xm_X9_found ln_X9_92 dX9_copy_47 (xv_self (by omega)) rfl ⟨(Nat.le_of_ble_eq_true rfl), (Nat.le_of_ble_eq_true rfl)⟩ (Nat.le_of_ble_eq_true rfl) ⟨rfl, rfl⟩ rfl (Nat.zero_le _) (Nat.zero_le _) ?_
          refine ⟨(upd (upd (C 83) 0 0) 1 0), dk, 1, rfl, ((va_up_self _ _ _).trans rfl), by omega, fun h47 p47 f47 => ?_⟩
          have Fh47 : ∀ i, i ≠ 83 → h47 i = h i := fun i j83 => (f47 i (by omega)).trans ((va_up_ne _ _ (by omega)).trans ((va_up_ne _ _ (by omega)).trans (Eq.refl _)))
          refine xi_ret ⟨_, rfl, rfl, dX9_copy_50⟩ (Nat.zero_le _) (Nat.zero_le _) ?_
          exact xs_finM (σ' := (xs_fd σ 1)) hp (by simp only [xs_copy, xs_onE, xs_onP, xs_fn, xs_an, Bool.not_false, Bool.not_true, Bool.true_or, Bool.false_or, Bool.and_true, Bool.true_and, Bool.and_false, Bool.false_and, Bool.false_eq_true, if_true, if_false, ↓reduceIte, g_9, g_16, eq_false y33, eq_true y42, xs_kk0 (k := ka) (by omega), xs_kk0 (k := kb) (by omega)] <;> rfl) _ (xs_Mx (σ' := (xs_fd σ 1)) hM hR (fa := (upd (upd (upd (C 83) 0 0) 1 0) 1 1)) p47 (fun j hj => (pk_un (by omega)).trans ((pk_un (by omega)).trans ((pk_un (by omega)).trans (rfl)))) ((Fh47 88 (by omega)).trans (xs_M88 hM)) (fun _ _ => rfl) ((Fh47 94 (by omega)).trans (xs_M94 hM)) ((Fh47 95 (by omega)).trans (xs_M95 hM)) ((Fh47 96 (by omega)).trans (xs_M96 hM)) ((Fh47 97 (by omega)).trans (xs_M97 hM)) ((Fh47 98 (by omega)).trans (xs_M98 hM)) ((Fh47 99 (by omega)).trans (xs_M99 hM)) (fun i i1 i2 i3 i4 => (Fh47 i (by omega))) xs_fdo rfl) (fun i hi => (Fh47 i (by omega)))
    · have g_16 : xs_i b 0 7 = false := decide_eq_false (xn_b0 c_16)
      refine xi_ldc (q := 21) dX9_copy_19 kc_X9_91 rfl ?_
      refine xi_ret ⟨_, rfl, rfl, dX9_copy_21⟩ (Nat.zero_le _) (Nat.zero_le _) ?_
      exact xs_finM (σ' := σ) hp (by simp only [xs_copy, xs_onE, xs_onP, xs_fn, xs_an, Bool.not_false, Bool.not_true, Bool.true_or, Bool.false_or, Bool.and_true, Bool.true_and, Bool.and_false, Bool.false_and, Bool.false_eq_true, if_true, if_false, ↓reduceIte, g_9, g_16, xs_kk0 (k := ka) (by omega)] <;> rfl) _ (xs_Mx (σ' := σ) hM hR (fa := (upd (C 83) 0 0)) ((va_up_self _ _ _).trans rfl) (fun j hj => (pk_un (by omega)).trans (rfl)) ((va_up_ne _ _ (by omega)).trans (xs_M88 hM)) (fun _ _ => rfl) ((va_up_ne _ _ (by omega)).trans (xs_M94 hM)) ((va_up_ne _ _ (by omega)).trans (xs_M95 hM)) ((va_up_ne _ _ (by omega)).trans (xs_M96 hM)) ((va_up_ne _ _ (by omega)).trans (xs_M97 hM)) ((va_up_ne _ _ (by omega)).trans (xs_M98 hM)) ((va_up_ne _ _ (by omega)).trans (xs_M99 hM)) (fun i i1 i2 i3 i4 => ((va_up_ne _ _ (by omega)).trans (Eq.refl _))) (fun _ _ _ => rfl) hR.2) (fun i hi => ((va_up_ne _ _ (by omega)).trans (Eq.refl _)))

