set_option maxRecDepth 20000 in
set_option maxHeartbeats 2000000 in
/-- set -/
theorem xm_X9_set : xv_K yX9_set mX9_set (fun as h n Post => ∃ (σ : xs_Sg) (s : Int32) (i : Int32) (v : Int32), as = [.ref 83, .int s, .int i, .int v] ∧ (xs_Mo h σ) ∧ (103 < n) ∧ (xs_V σ) ∧ xs_DM h n Post (xs_set1 σ s i v)) := by
  refine xv_entry (by decide +kernel) rfl (fun h => absurd h (by decide)) ?_
  rintro X _ h n Post ⟨σ, s, i, v, rfl, ⟨C, dk, hM, hR⟩, h103, hV, hp⟩
  refine ⟨Nat.le_of_ble_eq_true rfl, ?_⟩
  show xv_V X mX9_set Post 0 0 0 [(0, .ref 83), (1, .int s), (2, .int i), (3, .int v)] [] h n
  refine xi_aload_n (q := 1) dX9_set_0 rfl rfl ?_
  refine xi_iconst (x := 0) (q := 2) dX9_set_1 (by decide) rfl ?_
  refine xi_putf (q := 5) dX9_set_2 fl_X9_71 ⟨by omega, (xs_M83 hM)⟩ (Or.inl rfl) (fun _ => rfl) (fun _ => rfl) (Nat.le_of_ble_eq_true rfl) rfl ?_
  refine xi_iload_n (q := 6) dX9_set_5 rfl rfl ?_
  refine xv_cS1 (q := 9) xm_X9_isSheet ln_X9_85 dX9_set_6 ⟨(Nat.le_of_ble_eq_true rfl), (Nat.le_of_ble_eq_true rfl)⟩ (Nat.le_of_ble_eq_true rfl) ⟨rfl, rfl⟩ rfl (Nat.zero_le _) (Nat.zero_le _) ?_
  refine ⟨_, rfl, ?_⟩
  refine xi_if_ne (q := 12) (q2 := 15) dX9_set_9 (by decide) rfl (fun c_9 => ?_) (fun c_9 => ?_)
  · have g_9 : xs_i s 0 7 = true := decide_eq_true (xn_b1 c_9)
    obtain ⟨ks, hks, rfl⟩ := xn_pk (m := 7) (by omega) (xn_b1 c_9)
    refine xi_aload_n (q := 16) dX9_set_15 rfl rfl ?_
    refine xi_iconst (x := 0) (q := 17) dX9_set_16 (by decide) rfl ?_
    refine xi_putf (q := 20) dX9_set_17 fl_X9_75 (xv_self (by omega)) (Or.inl rfl) (fun _ => rfl) (fun _ => rfl) (Nat.le_of_ble_eq_true rfl) rfl ?_
    refine xi_aload_n (q := 21) dX9_set_20 rfl rfl ?_
    refine xi_getf (q := 24) dX9_set_21 fl_X9_7 (xv_self (by omega)) rfl rfl ?_
    refine xi_iload_n (q := 25) dX9_set_24 rfl rfl ?_
    refine xi_iald (q := 26) dX9_set_25 (xv_keep (by omega) (xv_keep (by omega) ⟨by omega, (xs_M84 hM)⟩)) (xv_ixN (by omega) (by omega)) rfl ?_
    refine xi_if_ge (q := 29) (q2 := 35) dX9_set_26 (by decide) rfl (fun c_26 => ?_) (fun c_26 => ?_)
    · have y26 : ¬ σ 0 ks 0 = 0 := (xs_ln hV hR (by omega)).1 c_26
      refine xi_iload_n (q := 36) dX9_set_35 rfl rfl ?_
      refine xi_i2l (q := 37) dX9_set_36 rfl ?_
      refine xi_lconst (x := 0) (q := 38) dX9_set_37 (by decide) rfl ?_
      refine xi_aload_n (q := 39) dX9_set_38 rfl rfl ?_
      refine xi_getf (q := 42) dX9_set_39 fl_X9_13 (xv_self (by omega)) rfl rfl ?_
      refine xi_iload_n (q := 43) dX9_set_42 rfl rfl ?_
      refine xi_iald (q := 44) dX9_set_43 (xv_keep (by omega) (xv_keep (by omega) ⟨by omega, (xs_M85 hM)⟩)) (xv_ixN (by omega) (by omega)) rfl ?_
      rw [(hR.1.1 ks (by omega)).2.1]
      refine xi_iconst (x := 1) (q := 45) dX9_set_44 (by decide) rfl ?_
      refine xi_isub (q := 46) dX9_set_45 rfl ?_
      refine xi_i2l (q := 47) dX9_set_46 rfl ?_
      refine xv_cS3 (q := 50) xm_X9_in ln_X9_81 dX9_set_47 ⟨(Nat.le_of_ble_eq_true rfl), (Nat.le_of_ble_eq_true rfl)⟩ (Nat.le_of_ble_eq_true rfl) ⟨rfl, rfl⟩ rfl (Nat.zero_le _) (Nat.zero_le _) ?_
      refine ⟨i, 0, σ 2 ks 0 - 1, rfl, ?_⟩
      refine xi_if_ne (q := 53) (q2 := 59) dX9_set_50 (by decide) rfl (fun c_50 => ?_) (fun c_50 => ?_)
      · have g_50 : xs_has i 1 (σ 2 ks 0) = true := (xn_has1 (hV.2.1 ks (by omega) y26).1).mp (xn_b1 c_50)
        obtain ⟨ki, hki, rfl⟩ := xn_hasA (m := 1) (by omega) g_50 (hV.2.1 ks (by omega) y26).1.2
        have eL : C 84 ks = σ 1 ks 0 := xs_ln1 hR (by omega) y26
        refine xi_aload_n (q := 60) dX9_set_59 rfl rfl ?_
        refine xi_getf (q := 63) dX9_set_60 fl_X9_16 (xv_self (by omega)) rfl rfl ?_
        refine xi_bipush (x := 60) (q := 65) dX9_set_63 (by decide) rfl ?_
        refine xi_iload_n (q := 66) dX9_set_65 rfl rfl ?_
        refine xi_imul (q := 67) dX9_set_66 rfl ?_
        refine xi_iload_n (q := 68) dX9_set_67 rfl rfl ?_
        refine xi_iadd (q := 69) dX9_set_68 rfl ?_
        refine xi_aload_n (q := 70) dX9_set_69 rfl rfl ?_
        refine xi_getf (q := 73) dX9_set_70 fl_X9_7 (xv_self (by omega)) rfl rfl ?_
        refine xi_iload_n (q := 74) dX9_set_73 rfl rfl ?_
        refine xi_iald (q := 75) dX9_set_74 (xv_keep (by omega) (xv_keep (by omega) ⟨by omega, (xs_M84 hM)⟩)) (xv_ixN (by omega) (by omega)) rfl ?_
        refine xi_if_ne (q := 78) (q2 := 83) dX9_set_75 (by decide) rfl (fun c_75 => ?_) (fun c_75 => ?_)
        · skip
          refine xi_aload_n (q := 84) dX9_set_83 rfl rfl ?_
          refine xi_getf (q := 87) dX9_set_84 fl_X9_7 (xv_self (by omega)) rfl rfl ?_
          refine xi_iload_n (q := 88) dX9_set_87 rfl rfl ?_
          refine xi_iald (q := 89) dX9_set_88 (xv_keep (by omega) (xv_keep (by omega) ⟨by omega, (xs_M84 hM)⟩)) (xv_ixN (by omega) (by omega)) rfl ?_
          refine xi_iconst (x := 1) (q := 90) dX9_set_89 (by decide) rfl ?_
          refine xi_icmp_ne (q := 93) (q2 := 98) dX9_set_90 (by decide) rfl (fun c_90 => ?_) (fun c_90 => ?_)
          · have eN : xs_nar (σ 1 ks 0) v = v := by unfold xs_nar; rw [if_neg (fun e => c_75 (eL.trans e)), if_neg (fun e => c_90 (eL.trans e))]
            refine xi_iload_n (q := 99) dX9_set_98 rfl rfl ?_
            refine xi_iast (q := 100) dX9_set_99 (xv_keep (by omega) (xv_keep (by omega) ⟨by omega, (xs_M86 hM)⟩)) (xn_ixM (a := 60) (p := ks) (k := ki) (by omega) (by omega)) rfl ?_
            refine xi_aload_n (q := 101) dX9_set_100 rfl rfl ?_
            refine xi_getf (q := 104) dX9_set_101 fl_X9_16 (xv_keep (by omega) (xv_self (by omega))) rfl rfl ?_
            refine xi_bipush (x := 60) (q := 106) dX9_set_104 (by decide) rfl ?_
            refine xi_iload_n (q := 107) dX9_set_106 rfl rfl ?_
            refine xi_imul (q := 108) dX9_set_107 rfl ?_
            refine xi_iload_n (q := 109) dX9_set_108 rfl rfl ?_
            refine xi_iadd (q := 110) dX9_set_109 rfl ?_
            refine xi_iald (q := 111) dX9_set_110 (xv_self (by omega)) (xn_ixM (a := 60) (p := ks) (k := ki) (by omega) (by omega)) rfl ?_
            rw [pk_us]
            refine xi_ret ⟨_, rfl, rfl, dX9_set_111⟩ (Nat.zero_le _) (Nat.zero_le _) ?_
            exact xs_finM (σ' := (xs_fd (xs_sh σ ks (σ 0 ks 0) (σ 1 ks 0) (σ 2 ks 0) (upd (σ 3 ks) ki v)) 0)) hp (by simp only [xs_set1, xs_onE, xs_onP, xs_fn, xs_an, Bool.not_false, Bool.not_true, Bool.true_or, Bool.false_or, Bool.and_true, Bool.true_and, Bool.and_false, Bool.false_and, Bool.false_eq_true, if_true, if_false, ↓reduceIte, g_9, eq_false y26, g_50, eN, xs_kk0 (k := ks) (by omega), xs_kk0 (k := ki) (by omega)] <;> rfl) _ ⟨(xs_cu (xs_cu C 83 (upd (upd (C 83) 0 0) 1 0)) 86 (upd (C 86) (60 * ks + ki) v)), _, ⟨((va_up_ne _ _ (by omega)).trans ((va_up_self _ _ _).trans rfl)), ((va_up_ne _ _ (by omega)).trans ((va_up_ne _ _ (by omega)).trans ((va_up_ne _ _ (by omega)).trans (xs_M84 (C := C) hM)))), ((va_up_ne _ _ (by omega)).trans ((va_up_ne _ _ (by omega)).trans ((va_up_ne _ _ (by omega)).trans (xs_M85 (C := C) hM)))), ((va_up_self _ _ _).trans rfl), ((va_up_ne _ _ (by omega)).trans ((va_up_ne _ _ (by omega)).trans ((va_up_ne _ _ (by omega)).trans (xs_M87 (C := C) hM)))), ((va_up_ne _ _ (by omega)).trans ((va_up_ne _ _ (by omega)).trans ((va_up_ne _ _ (by omega)).trans (xs_M88 (C := C) hM)))), ((va_up_ne _ _ (by omega)).trans ((va_up_ne _ _ (by omega)).trans ((va_up_ne _ _ (by omega)).trans (xs_M89 (C := C) hM)))), ((va_up_ne _ _ (by omega)).trans ((va_up_ne _ _ (by omega)).trans ((va_up_ne _ _ (by omega)).trans (xs_M90 (C := C) hM)))), ((va_up_ne _ _ (by omega)).trans ((va_up_ne _ _ (by omega)).trans ((va_up_ne _ _ (by omega)).trans (xs_M91 (C := C) hM)))), ((va_up_ne _ _ (by omega)).trans ((va_up_ne _ _ (by omega)).trans ((va_up_ne _ _ (by omega)).trans (xs_M92 (C := C) hM)))), ((va_up_ne _ _ (by omega)).trans ((va_up_ne _ _ (by omega)).trans ((va_up_ne _ _ (by omega)).trans (xs_M93 (C := C) hM)))), ((va_up_ne _ _ (by omega)).trans ((va_up_ne _ _ (by omega)).trans ((va_up_ne _ _ (by omega)).trans (xs_M94 (C := C) hM)))), ((va_up_ne _ _ (by omega)).trans ((va_up_ne _ _ (by omega)).trans ((va_up_ne _ _ (by omega)).trans (xs_M95 (C := C) hM)))), ((va_up_ne _ _ (by omega)).trans ((va_up_ne _ _ (by omega)).trans ((va_up_ne _ _ (by omega)).trans (xs_M96 (C := C) hM)))), ((va_up_ne _ _ (by omega)).trans ((va_up_ne _ _ (by omega)).trans ((va_up_ne _ _ (by omega)).trans (xs_M97 (C := C) hM)))), ((va_up_ne _ _ (by omega)).trans ((va_up_ne _ _ (by omega)).trans ((va_up_ne _ _ (by omega)).trans (xs_M98 (C := C) hM)))), ((va_up_ne _ _ (by omega)).trans ((va_up_ne _ _ (by omega)).trans ((va_up_ne _ _ (by omega)).trans (xs_M99 (C := C) hM)))), ((va_up_ne _ _ (by omega)).trans ((va_up_ne _ _ (by omega)).trans ((va_up_ne _ _ (by omega)).trans (xs_M100 (C := C) hM)))), ((va_up_ne _ _ (by omega)).trans ((va_up_ne _ _ (by omega)).trans ((va_up_ne _ _ (by omega)).trans (xs_M101 (C := C) hM)))), ((va_up_ne _ _ (by omega)).trans ((va_up_ne _ _ (by omega)).trans ((va_up_ne _ _ (by omega)).trans (xs_M102 (C := C) hM)))), ((va_up_ne _ _ (by omega)).trans ((va_up_ne _ _ (by omega)).trans ((va_up_ne _ _ (by omega)).trans (xs_M103 (C := C) hM))))⟩, ⟨xs_Rfd (xs_Rsh (j := ks) hR.1 (fun s hs => by
                      by_cases e : s = ks
                      · rw [if_pos e, e]; exact (hR.1.1 ks (by omega)).1
                      · rw [if_neg e]; rfl) (fun s hs => by
                      by_cases e : s = ks
                      · rw [if_pos e, e]; exact (hR.1.1 ks (by omega)).2.1
                      · rw [if_neg e]; rfl) (fun k hk => by
                      show upd (C 86) (60 * ks + ki) v (60 * ks + k) = upd (σ 3 ks) ki v k
                      by_cases e : k = ki
                      · rw [e, pk_us, pk_us]
                      · rw [pk_un (by omega), pk_un e]; exact (hR.1.1 ks (by omega)).2.2 k hk) (fun s k hs hsk hk => by show upd (C 86) (60 * ks + ki) v (60 * s + k) = _; exact pk_un (by omega)) (fun i hi => (pk_un (by omega)).trans ((pk_un (by omega)).trans (rfl))) (fun i hi => (by rw [xs_cuo (by omega), xs_cuo (by omega)]))), rfl⟩⟩ (fun i hi => ((va_up_ne _ _ (by omega)).trans ((va_up_ne _ _ (by omega)).trans ((va_up_ne _ _ (by omega)).trans (Eq.refl _)))))
          · have eN : xs_nar (σ 1 ks 0) v = v.toInt16.toInt32 := by unfold xs_nar; rw [if_neg (fun e => c_75 (eL.trans e)), if_pos (show σ 1 ks 0 = 1 from eL.symm.trans (by first | exact c_90 | exact Decidable.of_not_not c_90))]
            refine xi_iload_n (q := 94) dX9_set_93 rfl rfl ?_
            refine xi_i2s (q := 95) dX9_set_94 rfl ?_
            refine xi_goto (q := 99) dX9_set_95 (by decide) ?_
            refine xi_iast (q := 100) dX9_set_99 (xv_keep (by omega) (xv_keep (by omega) ⟨by omega, (xs_M86 hM)⟩)) (xn_ixM (a := 60) (p := ks) (k := ki) (by omega) (by omega)) rfl ?_
            refine xi_aload_n (q := 101) dX9_set_100 rfl rfl ?_
            refine xi_getf (q := 104) dX9_set_101 fl_X9_16 (xv_keep (by omega) (xv_self (by omega))) rfl rfl ?_
            refine xi_bipush (x := 60) (q := 106) dX9_set_104 (by decide) rfl ?_
            refine xi_iload_n (q := 107) dX9_set_106 rfl rfl ?_
            refine xi_imul (q := 108) dX9_set_107 rfl ?_
            refine xi_iload_n (q := 109) dX9_set_108 rfl rfl ?_
            refine xi_iadd (q := 110) dX9_set_109 rfl ?_
            refine xi_iald (q := 111) dX9_set_110 (xv_self (by omega)) (xn_ixM (a := 60) (p := ks) (k := ki) (by omega) (by omega)) rfl ?_
            rw [pk_us]
            refine xi_ret ⟨_, rfl, rfl, dX9_set_111⟩ (Nat.zero_le _) (Nat.zero_le _) ?_
            exact xs_finM (σ' := (xs_fd (xs_sh σ ks (σ 0 ks 0) (σ 1 ks 0) (σ 2 ks 0) (upd (σ 3 ks) ki v.toInt16.toInt32)) 0)) hp (by simp only [xs_set1, xs_onE, xs_onP, xs_fn, xs_an, Bool.not_false, Bool.not_true, Bool.true_or, Bool.false_or, Bool.and_true, Bool.true_and, Bool.and_false, Bool.false_and, Bool.false_eq_true, if_true, if_false, ↓reduceIte, g_9, eq_false y26, g_50, eN, xs_kk0 (k := ks) (by omega), xs_kk0 (k := ki) (by omega)] <;> rfl) _ ⟨(xs_cu (xs_cu C 83 (upd (upd (C 83) 0 0) 1 0)) 86 (upd (C 86) (60 * ks + ki) v.toInt16.toInt32)), _, ⟨((va_up_ne _ _ (by omega)).trans ((va_up_self _ _ _).trans rfl)), ((va_up_ne _ _ (by omega)).trans ((va_up_ne _ _ (by omega)).trans ((va_up_ne _ _ (by omega)).trans (xs_M84 (C := C) hM)))), ((va_up_ne _ _ (by omega)).trans ((va_up_ne _ _ (by omega)).trans ((va_up_ne _ _ (by omega)).trans (xs_M85 (C := C) hM)))), ((va_up_self _ _ _).trans rfl), ((va_up_ne _ _ (by omega)).trans ((va_up_ne _ _ (by omega)).trans ((va_up_ne _ _ (by omega)).trans (xs_M87 (C := C) hM)))), ((va_up_ne _ _ (by omega)).trans ((va_up_ne _ _ (by omega)).trans ((va_up_ne _ _ (by omega)).trans (xs_M88 (C := C) hM)))), ((va_up_ne _ _ (by omega)).trans ((va_up_ne _ _ (by omega)).trans ((va_up_ne _ _ (by omega)).trans (xs_M89 (C := C) hM)))), ((va_up_ne _ _ (by omega)).trans ((va_up_ne _ _ (by omega)).trans ((va_up_ne _ _ (by omega)).trans (xs_M90 (C := C) hM)))), ((va_up_ne _ _ (by omega)).trans ((va_up_ne _ _ (by omega)).trans ((va_up_ne _ _ (by omega)).trans (xs_M91 (C := C) hM)))), ((va_up_ne _ _ (by omega)).trans ((va_up_ne _ _ (by omega)).trans ((va_up_ne _ _ (by omega)).trans (xs_M92 (C := C) hM)))), ((va_up_ne _ _ (by omega)).trans ((va_up_ne _ _ (by omega)).trans ((va_up_ne _ _ (by omega)).trans (xs_M93 (C := C) hM)))), ((va_up_ne _ _ (by omega)).trans ((va_up_ne _ _ (by omega)).trans ((va_up_ne _ _ (by omega)).trans (xs_M94 (C := C) hM)))), ((va_up_ne _ _ (by omega)).trans ((va_up_ne _ _ (by omega)).trans ((va_up_ne _ _ (by omega)).trans (xs_M95 (C := C) hM)))), ((va_up_ne _ _ (by omega)).trans ((va_up_ne _ _ (by omega)).trans ((va_up_ne _ _ (by omega)).trans (xs_M96 (C := C) hM)))), ((va_up_ne _ _ (by omega)).trans ((va_up_ne _ _ (by omega)).trans ((va_up_ne _ _ (by omega)).trans (xs_M97 (C := C) hM)))), ((va_up_ne _ _ (by omega)).trans ((va_up_ne _ _ (by omega)).trans ((va_up_ne _ _ (by omega)).trans (xs_M98 (C := C) hM)))), ((va_up_ne _ _ (by omega)).trans ((va_up_ne _ _ (by omega)).trans ((va_up_ne _ _ (by omega)).trans (xs_M99 (C := C) hM)))), ((va_up_ne _ _ (by omega)).trans ((va_up_ne _ _ (by omega)).trans ((va_up_ne _ _ (by omega)).trans (xs_M100 (C := C) hM)))), ((va_up_ne _ _ (by omega)).trans ((va_up_ne _ _ (by omega)).trans ((va_up_ne _ _ (by omega)).trans (xs_M101 (C := C) hM)))), ((va_up_ne _ _ (by omega)).trans ((va_up_ne _ _ (by omega)).trans ((va_up_ne _ _ (by omega)).trans (xs_M102 (C := C) hM)))), ((va_up_ne _ _ (by omega)).trans ((va_up_ne _ _ (by omega)).trans ((va_up_ne _ _ (by omega)).trans (xs_M103 (C := C) hM))))⟩, ⟨xs_Rfd (xs_Rsh (j := ks) hR.1 (fun s hs => by
                      by_cases e : s = ks
                      · rw [if_pos e, e]; exact (hR.1.1 ks (by omega)).1
                      · rw [if_neg e]; rfl) (fun s hs => by
                      by_cases e : s = ks
                      · rw [if_pos e, e]; exact (hR.1.1 ks (by omega)).2.1
                      · rw [if_neg e]; rfl) (fun k hk => by
                      show upd (C 86) (60 * ks + ki) v.toInt16.toInt32 (60 * ks + k) = upd (σ 3 ks) ki v.toInt16.toInt32 k
                      by_cases e : k = ki
                      · rw [e, pk_us, pk_us]
                      · rw [pk_un (by omega), pk_un e]; exact (hR.1.1 ks (by omega)).2.2 k hk) (fun s k hs hsk hk => by show upd (C 86) (60 * ks + ki) v.toInt16.toInt32 (60 * s + k) = _; exact pk_un (by omega)) (fun i hi => (pk_un (by omega)).trans ((pk_un (by omega)).trans (rfl))) (fun i hi => (by rw [xs_cuo (by omega), xs_cuo (by omega)]))), rfl⟩⟩ (fun i hi => ((va_up_ne _ _ (by omega)).trans ((va_up_ne _ _ (by omega)).trans ((va_up_ne _ _ (by omega)).trans (Eq.refl _)))))
        · have eN : xs_nar (σ 1 ks 0) v = v.toInt8.toInt32 := by unfold xs_nar; rw [if_pos (show σ 1 ks 0 = 0 from eL.symm.trans (by first | exact c_75 | exact Decidable.of_not_not c_75))]
          refine xi_iload_n (q := 79) dX9_set_78 rfl rfl ?_
          refine xi_i2b (q := 80) dX9_set_79 rfl ?_
          refine xi_goto (q := 99) dX9_set_80 (by decide) ?_
          refine xi_iast (q := 100) dX9_set_99 (xv_keep (by omega) (xv_keep (by omega) ⟨by omega, (xs_M86 hM)⟩)) (xn_ixM (a := 60) (p := ks) (k := ki) (by omega) (by omega)) rfl ?_
          refine xi_aload_n (q := 101) dX9_set_100 rfl rfl ?_
          refine xi_getf (q := 104) dX9_set_101 fl_X9_16 (xv_keep (by omega) (xv_self (by omega))) rfl rfl ?_
          refine xi_bipush (x := 60) (q := 106) dX9_set_104 (by decide) rfl ?_
          refine xi_iload_n (q := 107) dX9_set_106 rfl rfl ?_
          refine xi_imul (q := 108) dX9_set_107 rfl ?_
          refine xi_iload_n (q := 109) dX9_set_108 rfl rfl ?_
          refine xi_iadd (q := 110) dX9_set_109 rfl ?_
          refine xi_iald (q := 111) dX9_set_110 (xv_self (by omega)) (xn_ixM (a := 60) (p := ks) (k := ki) (by omega) (by omega)) rfl ?_
          rw [pk_us]
          refine xi_ret ⟨_, rfl, rfl, dX9_set_111⟩ (Nat.zero_le _) (Nat.zero_le _) ?_
          exact xs_finM (σ' := (xs_fd (xs_sh σ ks (σ 0 ks 0) (σ 1 ks 0) (σ 2 ks 0) (upd (σ 3 ks) ki v.toInt8.toInt32)) 0)) hp (by simp only [xs_set1, xs_onE, xs_onP, xs_fn, xs_an, Bool.not_false, Bool.not_true, Bool.true_or, Bool.false_or, Bool.and_true, Bool.true_and, Bool.and_false, Bool.false_and, Bool.false_eq_true, if_true, if_false, ↓reduceIte, g_9, eq_false y26, g_50, eN, xs_kk0 (k := ks) (by omega), xs_kk0 (k := ki) (by omega)] <;> rfl) _ ⟨(xs_cu (xs_cu C 83 (upd (upd (C 83) 0 0) 1 0)) 86 (upd (C 86) (60 * ks + ki) v.toInt8.toInt32)), _, ⟨((va_up_ne _ _ (by omega)).trans ((va_up_self _ _ _).trans rfl)), ((va_up_ne _ _ (by omega)).trans ((va_up_ne _ _ (by omega)).trans ((va_up_ne _ _ (by omega)).trans (xs_M84 (C := C) hM)))), ((va_up_ne _ _ (by omega)).trans ((va_up_ne _ _ (by omega)).trans ((va_up_ne _ _ (by omega)).trans (xs_M85 (C := C) hM)))), ((va_up_self _ _ _).trans rfl), ((va_up_ne _ _ (by omega)).trans ((va_up_ne _ _ (by omega)).trans ((va_up_ne _ _ (by omega)).trans (xs_M87 (C := C) hM)))), ((va_up_ne _ _ (by omega)).trans ((va_up_ne _ _ (by omega)).trans ((va_up_ne _ _ (by omega)).trans (xs_M88 (C := C) hM)))), ((va_up_ne _ _ (by omega)).trans ((va_up_ne _ _ (by omega)).trans ((va_up_ne _ _ (by omega)).trans (xs_M89 (C := C) hM)))), ((va_up_ne _ _ (by omega)).trans ((va_up_ne _ _ (by omega)).trans ((va_up_ne _ _ (by omega)).trans (xs_M90 (C := C) hM)))), ((va_up_ne _ _ (by omega)).trans ((va_up_ne _ _ (by omega)).trans ((va_up_ne _ _ (by omega)).trans (xs_M91 (C := C) hM)))), ((va_up_ne _ _ (by omega)).trans ((va_up_ne _ _ (by omega)).trans ((va_up_ne _ _ (by omega)).trans (xs_M92 (C := C) hM)))), ((va_up_ne _ _ (by omega)).trans ((va_up_ne _ _ (by omega)).trans ((va_up_ne _ _ (by omega)).trans (xs_M93 (C := C) hM)))), ((va_up_ne _ _ (by omega)).trans ((va_up_ne _ _ (by omega)).trans ((va_up_ne _ _ (by omega)).trans (xs_M94 (C := C) hM)))), ((va_up_ne _ _ (by omega)).trans ((va_up_ne _ _ (by omega)).trans ((va_up_ne _ _ (by omega)).trans (xs_M95 (C := C) hM)))), ((va_up_ne _ _ (by omega)).trans ((va_up_ne _ _ (by omega)).trans ((va_up_ne _ _ (by omega)).trans (xs_M96 (C := C) hM)))), ((va_up_ne _ _ (by omega)).trans ((va_up_ne _ _ (by omega)).trans ((va_up_ne _ _ (by omega)).trans (xs_M97 (C := C) hM)))), ((va_up_ne _ _ (by omega)).trans ((va_up_ne _ _ (by omega)).trans ((va_up_ne _ _ (by omega)).trans (xs_M98 (C := C) hM)))), ((va_up_ne _ _ (by omega)).trans ((va_up_ne _ _ (by omega)).trans ((va_up_ne _ _ (by omega)).trans (xs_M99 (C := C) hM)))), ((va_up_ne _ _ (by omega)).trans ((va_up_ne _ _ (by omega)).trans ((va_up_ne _ _ (by omega)).trans (xs_M100 (C := C) hM)))), ((va_up_ne _ _ (by omega)).trans ((va_up_ne _ _ (by omega)).trans ((va_up_ne _ _ (by omega)).trans (xs_M101 (C := C) hM)))), ((va_up_ne _ _ (by omega)).trans ((va_up_ne _ _ (by omega)).trans ((va_up_ne _ _ (by omega)).trans (xs_M102 (C := C) hM)))), ((va_up_ne _ _ (by omega)).trans ((va_up_ne _ _ (by omega)).trans ((va_up_ne _ _ (by omega)).trans (xs_M103 (C := C) hM))))⟩, ⟨xs_Rfd (xs_Rsh (j := ks) hR.1 (fun s hs => by
                    by_cases e : s = ks
                    · rw [if_pos e, e]; exact (hR.1.1 ks (by omega)).1
                    · rw [if_neg e]; rfl) (fun s hs => by
                    by_cases e : s = ks
                    · rw [if_pos e, e]; exact (hR.1.1 ks (by omega)).2.1
                    · rw [if_neg e]; rfl) (fun k hk => by
                    show upd (C 86) (60 * ks + ki) v.toInt8.toInt32 (60 * ks + k) = upd (σ 3 ks) ki v.toInt8.toInt32 k
                    by_cases e : k = ki
                    · rw [e, pk_us, pk_us]
                    · rw [pk_un (by omega), pk_un e]; exact (hR.1.1 ks (by omega)).2.2 k hk) (fun s k hs hsk hk => by show upd (C 86) (60 * ks + ki) v.toInt8.toInt32 (60 * s + k) = _; exact pk_un (by omega)) (fun i hi => (pk_un (by omega)).trans ((pk_un (by omega)).trans (rfl))) (fun i hi => (by rw [xs_cuo (by omega), xs_cuo (by omega)]))), rfl⟩⟩ (fun i hi => ((va_up_ne _ _ (by omega)).trans ((va_up_ne _ _ (by omega)).trans ((va_up_ne _ _ (by omega)).trans (Eq.refl _)))))
      · have g_50 : xs_has i 1 (σ 2 ks 0) = false := Bool.eq_false_iff.mpr (fun z => xn_b0 c_50 ((xn_has1 (hV.2.1 ks (by omega) y26).1).mpr z))
        refine xi_aload_n (q := 54) dX9_set_53 rfl rfl ?_
        refine xi_iconst (x := 2) (q := 55) dX9_set_54 (by decide) rfl ?_
        refine xv_cV1 (q := 58) xm_X9_found ln_X9_92 dX9_set_55 (xv_self (by omega)) rfl ⟨(Nat.le_of_ble_eq_true rfl), (Nat.le_of_ble_eq_true rfl)⟩ (Nat.le_of_ble_eq_true rfl) ⟨rfl, rfl⟩ rfl (Nat.zero_le _) (Nat.zero_le _) ?_
        refine ⟨(upd (upd (C 83) 0 0) 1 0), dk, 2, rfl, ((va_up_self _ _ _).trans rfl), by omega, fun h55 p55 f55 => ?_⟩
        have Fh55 : ∀ i, i ≠ 83 → h55 i = h i := fun i j83 => (f55 i (by omega)).trans ((va_up_ne _ _ (by omega)).trans ((va_up_ne _ _ (by omega)).trans (Eq.refl _)))
        refine xi_ret ⟨_, rfl, rfl, dX9_set_58⟩ (Nat.zero_le _) (Nat.zero_le _) ?_
        exact xs_finM (σ' := (xs_fd σ 2)) hp (by simp only [xs_set1, xs_onE, xs_onP, xs_fn, xs_an, Bool.not_false, Bool.not_true, Bool.true_or, Bool.false_or, Bool.and_true, Bool.true_and, Bool.and_false, Bool.false_and, Bool.false_eq_true, if_true, if_false, ↓reduceIte, g_9, eq_false y26, g_50, xs_kk0 (k := ks) (by omega)] <;> rfl) _ (xs_Mx (σ' := (xs_fd σ 2)) hM hR (fa := (upd (upd (upd (C 83) 0 0) 1 0) 1 2)) p55 (fun j hj => (pk_un (by omega)).trans ((pk_un (by omega)).trans ((pk_un (by omega)).trans (rfl)))) ((Fh55 88 (by omega)).trans (xs_M88 hM)) (fun _ _ => rfl) ((Fh55 94 (by omega)).trans (xs_M94 hM)) ((Fh55 95 (by omega)).trans (xs_M95 hM)) ((Fh55 96 (by omega)).trans (xs_M96 hM)) ((Fh55 97 (by omega)).trans (xs_M97 hM)) ((Fh55 98 (by omega)).trans (xs_M98 hM)) ((Fh55 99 (by omega)).trans (xs_M99 hM)) (fun i i1 i2 i3 i4 => (Fh55 i (by omega))) xs_fdo rfl) (fun i hi => (Fh55 i (by omega)))
    · have y26 : σ 0 ks 0 = 0 := (xs_ln hV hR (by omega)).2 c_26
      refine xi_aload_n (q := 30) dX9_set_29 rfl rfl ?_
      refine xi_iconst (x := 1) (q := 31) dX9_set_30 (by decide) rfl ?_
      refine xv_cV1 (q := 34) xm_X9_found ln_X9_92 dX9_set_31 (xv_self (by omega)) rfl ⟨(Nat.le_of_ble_eq_true rfl), (Nat.le_of_ble_eq_true rfl)⟩ (Nat.le_of_ble_eq_true rfl) ⟨rfl, rfl⟩ rfl (Nat.zero_le _) (Nat.zero_le _) ?_
      refine ⟨(upd (upd (C 83) 0 0) 1 0), dk, 1, rfl, ((va_up_self _ _ _).trans rfl), by omega, fun h31 p31 f31 => ?_⟩
      have Fh31 : ∀ i, i ≠ 83 → h31 i = h i := fun i j83 => (f31 i (by omega)).trans ((va_up_ne _ _ (by omega)).trans ((va_up_ne _ _ (by omega)).trans (Eq.refl _)))
      refine xi_ret ⟨_, rfl, rfl, dX9_set_34⟩ (Nat.zero_le _) (Nat.zero_le _) ?_
      exact xs_finM (σ' := (xs_fd σ 1)) hp (by simp only [xs_set1, xs_onE, xs_onP, xs_fn, xs_an, Bool.not_false, Bool.not_true, Bool.true_or, Bool.false_or, Bool.and_true, Bool.true_and, Bool.and_false, Bool.false_and, Bool.false_eq_true, if_true, if_false, ↓reduceIte, g_9, eq_true y26, xs_kk0 (k := ks) (by omega)] <;> rfl) _ (xs_Mx (σ' := (xs_fd σ 1)) hM hR (fa := (upd (upd (upd (C 83) 0 0) 1 0) 1 1)) p31 (fun j hj => (pk_un (by omega)).trans ((pk_un (by omega)).trans ((pk_un (by omega)).trans (rfl)))) ((Fh31 88 (by omega)).trans (xs_M88 hM)) (fun _ _ => rfl) ((Fh31 94 (by omega)).trans (xs_M94 hM)) ((Fh31 95 (by omega)).trans (xs_M95 hM)) ((Fh31 96 (by omega)).trans (xs_M96 hM)) ((Fh31 97 (by omega)).trans (xs_M97 hM)) ((Fh31 98 (by omega)).trans (xs_M98 hM)) ((Fh31 99 (by omega)).trans (xs_M99 hM)) (fun i i1 i2 i3 i4 => (Fh31 i (by omega))) xs_fdo rfl) (fun i hi => (Fh31 i (by omega)))
  · have g_9 : xs_i s 0 7 = false := decide_eq_false (xn_b0 c_9)
    refine xi_ldc (q := 14) dX9_set_12 kc_X9_91 rfl ?_
    refine xi_ret ⟨_, rfl, rfl, dX9_set_14⟩ (Nat.zero_le _) (Nat.zero_le _) ?_
    exact xs_finM (σ' := σ) hp (by simp only [xs_set1, xs_onE, xs_onP, xs_fn, xs_an, Bool.not_false, Bool.not_true, Bool.true_or, Bool.false_or, Bool.and_true, Bool.true_and, Bool.and_false, Bool.false_and, Bool.false_eq_true, if_true, if_false, ↓reduceIte, g_9] <;> rfl) _ (xs_Mx (σ' := σ) hM hR (fa := (upd (C 83) 0 0)) ((va_up_self _ _ _).trans rfl) (fun j hj => (pk_un (by omega)).trans (rfl)) ((va_up_ne _ _ (by omega)).trans (xs_M88 hM)) (fun _ _ => rfl) ((va_up_ne _ _ (by omega)).trans (xs_M94 hM)) ((va_up_ne _ _ (by omega)).trans (xs_M95 hM)) ((va_up_ne _ _ (by omega)).trans (xs_M96 hM)) ((va_up_ne _ _ (by omega)).trans (xs_M97 hM)) ((va_up_ne _ _ (by omega)).trans (xs_M98 hM)) ((va_up_ne _ _ (by omega)).trans (xs_M99 hM)) (fun i i1 i2 i3 i4 => ((va_up_ne _ _ (by omega)).trans (Eq.refl _))) (fun _ _ _ => rfl) hR.2) (fun i hi => ((va_up_ne _ _ (by omega)).trans (Eq.refl _)))

set_option maxRecDepth 20000 in
set_option maxHeartbeats 2000000 in
/-- drop -/
theorem xm_X9_drop : xv_K yX9_drop mX9_drop (fun as h n Post => ∃ (σ : xs_Sg) (s : Int32), as = [.ref 83, .int s] ∧ (xs_Mo h σ) ∧ (103 < n) ∧ (xs_V σ) ∧ xs_DM h n Post (xs_drop σ s)) := by
  refine xv_entry (by decide +kernel) rfl (fun h => absurd h (by decide)) ?_
  rintro X _ h n Post ⟨σ, s, rfl, ⟨C, dk, hM, hR⟩, h103, hV, hp⟩
  refine ⟨Nat.le_of_ble_eq_true rfl, ?_⟩
  show xv_V X mX9_drop Post 0 0 0 [(0, .ref 83), (1, .int s)] [] h n
  refine xi_aload_n (q := 1) dX9_drop_0 rfl rfl ?_
  refine xi_iconst (x := 0) (q := 2) dX9_drop_1 (by decide) rfl ?_
  refine xi_putf (q := 5) dX9_drop_2 fl_X9_71 ⟨by omega, (xs_M83 hM)⟩ (Or.inl rfl) (fun _ => rfl) (fun _ => rfl) (Nat.le_of_ble_eq_true rfl) rfl ?_
  refine xi_iload_n (q := 6) dX9_drop_5 rfl rfl ?_
  refine xv_cS1 (q := 9) xm_X9_isSheet ln_X9_85 dX9_drop_6 ⟨(Nat.le_of_ble_eq_true rfl), (Nat.le_of_ble_eq_true rfl)⟩ (Nat.le_of_ble_eq_true rfl) ⟨rfl, rfl⟩ rfl (Nat.zero_le _) (Nat.zero_le _) ?_
  refine ⟨_, rfl, ?_⟩
  refine xi_if_ne (q := 12) (q2 := 15) dX9_drop_9 (by decide) rfl (fun c_9 => ?_) (fun c_9 => ?_)
  · have g_9 : xs_i s 0 7 = true := decide_eq_true (xn_b1 c_9)
    obtain ⟨ks, hks, rfl⟩ := xn_pk (m := 7) (by omega) (xn_b1 c_9)
    refine xi_aload_n (q := 16) dX9_drop_15 rfl rfl ?_
    refine xi_iconst (x := 0) (q := 17) dX9_drop_16 (by decide) rfl ?_
    refine xi_putf (q := 20) dX9_drop_17 fl_X9_75 (xv_self (by omega)) (Or.inl rfl) (fun _ => rfl) (fun _ => rfl) (Nat.le_of_ble_eq_true rfl) rfl ?_
    refine xi_aload_n (q := 21) dX9_drop_20 rfl rfl ?_
    refine xi_getf (q := 24) dX9_drop_21 fl_X9_7 (xv_self (by omega)) rfl rfl ?_
    refine xi_iload_n (q := 25) dX9_drop_24 rfl rfl ?_
    refine xi_iald (q := 26) dX9_drop_25 (xv_keep (by omega) (xv_keep (by omega) ⟨by omega, (xs_M84 hM)⟩)) (xv_ixN (by omega) (by omega)) rfl ?_
    refine xi_if_ge (q := 29) (q2 := 35) dX9_drop_26 (by decide) rfl (fun c_26 => ?_) (fun c_26 => ?_)
    · have y26 : ¬ σ 0 ks 0 = 0 := (xs_ln hV hR (by omega)).1 c_26
      refine xi_aload_n (q := 36) dX9_drop_35 rfl rfl ?_
      refine xi_getf (q := 39) dX9_drop_36 fl_X9_7 (xv_self (by omega)) rfl rfl ?_
      refine xi_iload_n (q := 40) dX9_drop_39 rfl rfl ?_
      refine xi_iconst (x := (-1)) (q := 41) dX9_drop_40 (by decide) rfl ?_
      refine xi_iast (q := 42) dX9_drop_41 (xv_keep (by omega) (xv_keep (by omega) ⟨by omega, (xs_M84 hM)⟩)) (xv_ixN (by omega) (by omega)) rfl ?_
      refine xi_aload_n (q := 43) dX9_drop_42 rfl rfl ?_
      refine xi_getf (q := 46) dX9_drop_43 fl_X9_13 (xv_keep (by omega) (xv_self (by omega))) rfl rfl ?_
      refine xi_iload_n (q := 47) dX9_drop_46 rfl rfl ?_
      refine xi_iald (q := 48) dX9_drop_47 (xv_keep (by omega) (xv_keep (by omega) (xv_keep (by omega) ⟨by omega, (xs_M85 hM)⟩))) (xv_ixN (by omega) (by omega)) rfl ?_
      refine xi_ret ⟨_, rfl, rfl, dX9_drop_48⟩ (Nat.zero_le _) (Nat.zero_le _) ?_
      exact xs_finM (σ' := (xs_fd (xs_sh σ ks 0 (σ 1 ks 0) (σ 2 ks 0) (σ 3 ks)) 0)) hp (by rw [(hR.1.1 ks (by omega)).2.1]; simp only [xs_drop, xs_onE, xs_onP, xs_fn, xs_an, Bool.not_false, Bool.not_true, Bool.true_or, Bool.false_or, Bool.and_true, Bool.true_and, Bool.and_false, Bool.false_and, Bool.false_eq_true, if_true, if_false, ↓reduceIte, g_9, eq_false y26, xs_kk0 (k := ks) (by omega)] <;> rfl) _ ⟨(xs_cu (xs_cu C 83 (upd (upd (C 83) 0 0) 1 0)) 84 (upd (C 84) ks (-1))), _, ⟨((va_up_ne _ _ (by omega)).trans ((va_up_self _ _ _).trans rfl)), ((va_up_self _ _ _).trans rfl), ((va_up_ne _ _ (by omega)).trans ((va_up_ne _ _ (by omega)).trans ((va_up_ne _ _ (by omega)).trans (xs_M85 (C := C) hM)))), ((va_up_ne _ _ (by omega)).trans ((va_up_ne _ _ (by omega)).trans ((va_up_ne _ _ (by omega)).trans (xs_M86 (C := C) hM)))), ((va_up_ne _ _ (by omega)).trans ((va_up_ne _ _ (by omega)).trans ((va_up_ne _ _ (by omega)).trans (xs_M87 (C := C) hM)))), ((va_up_ne _ _ (by omega)).trans ((va_up_ne _ _ (by omega)).trans ((va_up_ne _ _ (by omega)).trans (xs_M88 (C := C) hM)))), ((va_up_ne _ _ (by omega)).trans ((va_up_ne _ _ (by omega)).trans ((va_up_ne _ _ (by omega)).trans (xs_M89 (C := C) hM)))), ((va_up_ne _ _ (by omega)).trans ((va_up_ne _ _ (by omega)).trans ((va_up_ne _ _ (by omega)).trans (xs_M90 (C := C) hM)))), ((va_up_ne _ _ (by omega)).trans ((va_up_ne _ _ (by omega)).trans ((va_up_ne _ _ (by omega)).trans (xs_M91 (C := C) hM)))), ((va_up_ne _ _ (by omega)).trans ((va_up_ne _ _ (by omega)).trans ((va_up_ne _ _ (by omega)).trans (xs_M92 (C := C) hM)))), ((va_up_ne _ _ (by omega)).trans ((va_up_ne _ _ (by omega)).trans ((va_up_ne _ _ (by omega)).trans (xs_M93 (C := C) hM)))), ((va_up_ne _ _ (by omega)).trans ((va_up_ne _ _ (by omega)).trans ((va_up_ne _ _ (by omega)).trans (xs_M94 (C := C) hM)))), ((va_up_ne _ _ (by omega)).trans ((va_up_ne _ _ (by omega)).trans ((va_up_ne _ _ (by omega)).trans (xs_M95 (C := C) hM)))), ((va_up_ne _ _ (by omega)).trans ((va_up_ne _ _ (by omega)).trans ((va_up_ne _ _ (by omega)).trans (xs_M96 (C := C) hM)))), ((va_up_ne _ _ (by omega)).trans ((va_up_ne _ _ (by omega)).trans ((va_up_ne _ _ (by omega)).trans (xs_M97 (C := C) hM)))), ((va_up_ne _ _ (by omega)).trans ((va_up_ne _ _ (by omega)).trans ((va_up_ne _ _ (by omega)).trans (xs_M98 (C := C) hM)))), ((va_up_ne _ _ (by omega)).trans ((va_up_ne _ _ (by omega)).trans ((va_up_ne _ _ (by omega)).trans (xs_M99 (C := C) hM)))), ((va_up_ne _ _ (by omega)).trans ((va_up_ne _ _ (by omega)).trans ((va_up_ne _ _ (by omega)).trans (xs_M100 (C := C) hM)))), ((va_up_ne _ _ (by omega)).trans ((va_up_ne _ _ (by omega)).trans ((va_up_ne _ _ (by omega)).trans (xs_M101 (C := C) hM)))), ((va_up_ne _ _ (by omega)).trans ((va_up_ne _ _ (by omega)).trans ((va_up_ne _ _ (by omega)).trans (xs_M102 (C := C) hM)))), ((va_up_ne _ _ (by omega)).trans ((va_up_ne _ _ (by omega)).trans ((va_up_ne _ _ (by omega)).trans (xs_M103 (C := C) hM))))⟩, ⟨xs_Rfd (xs_Rsh (j := ks) hR.1 (fun s hs => by show upd (C 84) ks (-1) s = _; unfold upd; rw [if_pos (show (0 : Int32) = 0 from rfl)]) (fun s hs => by
                by_cases e : s = ks
                · rw [if_pos e, e]; exact (hR.1.1 ks (by omega)).2.1
                · rw [if_neg e]; rfl) (fun k hk => (hR.1.1 ks (by omega)).2.2 k hk) (fun s k hs hsk hk => rfl) (fun i hi => (pk_un (by omega)).trans ((pk_un (by omega)).trans (rfl))) (fun i hi => (by rw [xs_cuo (by omega), xs_cuo (by omega)]))), rfl⟩⟩ (fun i hi => ((va_up_ne _ _ (by omega)).trans ((va_up_ne _ _ (by omega)).trans ((va_up_ne _ _ (by omega)).trans (Eq.refl _)))))
    · have y26 : σ 0 ks 0 = 0 := (xs_ln hV hR (by omega)).2 c_26
      refine xi_aload_n (q := 30) dX9_drop_29 rfl rfl ?_
      refine xi_iconst (x := 1) (q := 31) dX9_drop_30 (by decide) rfl ?_
      refine xv_cV1 (q := 34) xm_X9_found ln_X9_92 dX9_drop_31 (xv_self (by omega)) rfl ⟨(Nat.le_of_ble_eq_true rfl), (Nat.le_of_ble_eq_true rfl)⟩ (Nat.le_of_ble_eq_true rfl) ⟨rfl, rfl⟩ rfl (Nat.zero_le _) (Nat.zero_le _) ?_
      refine ⟨(upd (upd (C 83) 0 0) 1 0), dk, 1, rfl, ((va_up_self _ _ _).trans rfl), by omega, fun h31 p31 f31 => ?_⟩
      have Fh31 : ∀ i, i ≠ 83 → h31 i = h i := fun i j83 => (f31 i (by omega)).trans ((va_up_ne _ _ (by omega)).trans ((va_up_ne _ _ (by omega)).trans (Eq.refl _)))
      refine xi_ret ⟨_, rfl, rfl, dX9_drop_34⟩ (Nat.zero_le _) (Nat.zero_le _) ?_
      exact xs_finM (σ' := (xs_fd σ 1)) hp (by simp only [xs_drop, xs_onE, xs_onP, xs_fn, xs_an, Bool.not_false, Bool.not_true, Bool.true_or, Bool.false_or, Bool.and_true, Bool.true_and, Bool.and_false, Bool.false_and, Bool.false_eq_true, if_true, if_false, ↓reduceIte, g_9, eq_true y26, xs_kk0 (k := ks) (by omega)] <;> rfl) _ (xs_Mx (σ' := (xs_fd σ 1)) hM hR (fa := (upd (upd (upd (C 83) 0 0) 1 0) 1 1)) p31 (fun j hj => (pk_un (by omega)).trans ((pk_un (by omega)).trans ((pk_un (by omega)).trans (rfl)))) ((Fh31 88 (by omega)).trans (xs_M88 hM)) (fun _ _ => rfl) ((Fh31 94 (by omega)).trans (xs_M94 hM)) ((Fh31 95 (by omega)).trans (xs_M95 hM)) ((Fh31 96 (by omega)).trans (xs_M96 hM)) ((Fh31 97 (by omega)).trans (xs_M97 hM)) ((Fh31 98 (by omega)).trans (xs_M98 hM)) ((Fh31 99 (by omega)).trans (xs_M99 hM)) (fun i i1 i2 i3 i4 => (Fh31 i (by omega))) xs_fdo rfl) (fun i hi => (Fh31 i (by omega)))
  · have g_9 : xs_i s 0 7 = false := decide_eq_false (xn_b0 c_9)
    refine xi_ldc (q := 14) dX9_drop_12 kc_X9_91 rfl ?_
    refine xi_ret ⟨_, rfl, rfl, dX9_drop_14⟩ (Nat.zero_le _) (Nat.zero_le _) ?_
    exact xs_finM (σ' := σ) hp (by simp only [xs_drop, xs_onE, xs_onP, xs_fn, xs_an, Bool.not_false, Bool.not_true, Bool.true_or, Bool.false_or, Bool.and_true, Bool.true_and, Bool.and_false, Bool.false_and, Bool.false_eq_true, if_true, if_false, ↓reduceIte, g_9] <;> rfl) _ (xs_Mx (σ' := σ) hM hR (fa := (upd (C 83) 0 0)) ((va_up_self _ _ _).trans rfl) (fun j hj => (pk_un (by omega)).trans (rfl)) ((va_up_ne _ _ (by omega)).trans (xs_M88 hM)) (fun _ _ => rfl) ((va_up_ne _ _ (by omega)).trans (xs_M94 hM)) ((va_up_ne _ _ (by omega)).trans (xs_M95 hM)) ((va_up_ne _ _ (by omega)).trans (xs_M96 hM)) ((va_up_ne _ _ (by omega)).trans (xs_M97 hM)) ((va_up_ne _ _ (by omega)).trans (xs_M98 hM)) ((va_up_ne _ _ (by omega)).trans (xs_M99 hM)) (fun i i1 i2 i3 i4 => ((va_up_ne _ _ (by omega)).trans (Eq.refl _))) (fun _ _ _ => rfl) hR.2) (fun i hi => ((va_up_ne _ _ (by omega)).trans (Eq.refl _)))

set_option maxRecDepth 20000 in
set_option maxHeartbeats 2000000 in
/-- adjust -/
theorem xm_X9_adjust : xv_K yX9_adjust mX9_adjust (fun as h n Post => ∃ (σ : xs_Sg) (p : Int32) (w : Int32) (v : Int32), as = [.ref 83, .int p, .int w, .int v] ∧ (xs_Mo h σ) ∧ (103 < n) ∧ (xs_V σ) ∧ xs_DM h n Post (xs_adjust σ p w v)) := by
  refine xv_entry (by decide +kernel) rfl (fun h => absurd h (by decide)) ?_
  rintro X _ h n Post ⟨σ, p, w, v, rfl, ⟨C, dk, hM, hR⟩, h103, hV, hp⟩
  refine ⟨Nat.le_of_ble_eq_true rfl, ?_⟩
  show xv_V X mX9_adjust Post 0 0 0 [(0, .ref 83), (1, .int p), (2, .int w), (3, .int v)] [] h n
  refine xi_aload_n (q := 1) dX9_adjust_0 rfl rfl ?_
  refine xi_iconst (x := 0) (q := 2) dX9_adjust_1 (by decide) rfl ?_
  refine xi_putf (q := 5) dX9_adjust_2 fl_X9_71 ⟨by omega, (xs_M83 hM)⟩ (Or.inl rfl) (fun _ => rfl) (fun _ => rfl) (Nat.le_of_ble_eq_true rfl) rfl ?_
  refine xi_iload_n (q := 6) dX9_adjust_5 rfl rfl ?_
  refine xv_cS1 (q := 9) xm_X9_isPlace ln_X9_116 dX9_adjust_6 ⟨(Nat.le_of_ble_eq_true rfl), (Nat.le_of_ble_eq_true rfl)⟩ (Nat.le_of_ble_eq_true rfl) ⟨rfl, rfl⟩ rfl (Nat.zero_le _) (Nat.zero_le _) ?_
  refine ⟨_, rfl, ?_⟩
  refine xi_if_eq (q := 12) (q2 := 20) dX9_adjust_9 (by decide) rfl (fun c_9 => ?_) (fun c_9 => ?_)
  · have g_9 : xs_i p 0 5 = false := decide_eq_false (xn_b0 c_9)
    refine xi_ldc (q := 22) dX9_adjust_20 kc_X9_91 rfl ?_
    refine xi_ret ⟨_, rfl, rfl, dX9_adjust_22⟩ (Nat.zero_le _) (Nat.zero_le _) ?_
    exact xs_finM (σ' := σ) hp (by simp only [xs_adjust, xs_onE, xs_onP, xs_fn, xs_an, Bool.not_false, Bool.not_true, Bool.true_or, Bool.false_or, Bool.and_true, Bool.true_and, Bool.and_false, Bool.false_and, Bool.false_eq_true, if_true, if_false, ↓reduceIte, g_9] <;> rfl) _ (xs_Mx (σ' := σ) hM hR (fa := (upd (C 83) 0 0)) ((va_up_self _ _ _).trans rfl) (fun j hj => (pk_un (by omega)).trans (rfl)) ((va_up_ne _ _ (by omega)).trans (xs_M88 hM)) (fun _ _ => rfl) ((va_up_ne _ _ (by omega)).trans (xs_M94 hM)) ((va_up_ne _ _ (by omega)).trans (xs_M95 hM)) ((va_up_ne _ _ (by omega)).trans (xs_M96 hM)) ((va_up_ne _ _ (by omega)).trans (xs_M97 hM)) ((va_up_ne _ _ (by omega)).trans (xs_M98 hM)) ((va_up_ne _ _ (by omega)).trans (xs_M99 hM)) (fun i i1 i2 i3 i4 => ((va_up_ne _ _ (by omega)).trans (Eq.refl _))) (fun _ _ _ => rfl) hR.2) (fun i hi => ((va_up_ne _ _ (by omega)).trans (Eq.refl _)))
  · have g_9 : xs_i p 0 5 = true := decide_eq_true (xn_b1 c_9)
    obtain ⟨kp, hkp, rfl⟩ := xn_pk (m := 5) (by omega) (xn_b1 c_9)
    refine xi_iload_n (q := 13) dX9_adjust_12 rfl rfl ?_
    refine xi_iload_n (q := 14) dX9_adjust_13 rfl rfl ?_
    refine xv_cS2 (q := 17) xm_X9_isNumber ln_X9_119 dX9_adjust_14 ⟨(Nat.le_of_ble_eq_true rfl), (Nat.le_of_ble_eq_true rfl)⟩ (Nat.le_of_ble_eq_true rfl) ⟨rfl, rfl⟩ rfl (Nat.zero_le _) (Nat.zero_le _) ?_
    refine ⟨_, _, rfl, ?_⟩
    refine xi_if_ne (q := 20) (q2 := 23) dX9_adjust_17 (by decide) rfl (fun c_17 => ?_) (fun c_17 => ?_)
    · have g_17 : xs_isNb w v = true := xn_b1 c_17
      refine xi_aload_n (q := 24) dX9_adjust_23 rfl rfl ?_
      refine xi_iload_n (q := 25) dX9_adjust_24 rfl rfl ?_
      refine xv_cV1 (q := 28) xm_X9_stands ln_X9_123 dX9_adjust_25 (xv_self (by omega)) rfl ⟨(Nat.le_of_ble_eq_true rfl), (Nat.le_of_ble_eq_true rfl)⟩ (Nat.le_of_ble_eq_true rfl) ⟨rfl, rfl⟩ rfl (Nat.zero_le _) (Nat.zero_le _) ?_
      refine ⟨(upd (C 83) 0 0), dk, C 87, kp, rfl, ((va_up_self _ _ _).trans rfl), by omega, ((va_up_ne _ _ (by omega)).trans (xs_M87 hM)), by omega, ?_, ?_⟩
      · intro z25 h25 p25 f25
        have Fh25 : ∀ i, i ≠ 83 → h25 i = h i := fun i j83 => (f25 i (by omega)).trans ((va_up_ne _ _ (by omega)).trans (Eq.refl _))
        have y25 : σ 6 kp 0 = 0 := (xs_ht hR (by omega)).symm.trans z25
        refine xi_istore (q := 30) dX9_adjust_28 (Nat.le_of_ble_eq_true rfl) rfl ?_
        refine xi_iload (q := 32) dX9_adjust_30 rfl rfl ?_
        refine xi_if_ge (q := 35) (q2 := 38) dX9_adjust_32 (by decide) rfl (fun c_32 => ?_) (fun c_32 => ?_)
        · exact absurd c_32 (by decide)
        · skip
          refine xi_iload (q := 37) dX9_adjust_35 rfl rfl ?_
          refine xi_ret ⟨_, rfl, rfl, dX9_adjust_37⟩ (Nat.zero_le _) (Nat.zero_le _) ?_
          exact xs_finM (σ' := (xs_fd σ 1)) hp (by simp only [xs_adjust, xs_onE, xs_onP, xs_fn1, xs_an, Bool.not_false, Bool.not_true, Bool.true_or, Bool.false_or, Bool.and_true, Bool.true_and, Bool.and_false, Bool.false_and, Bool.false_eq_true, if_true, if_false, ↓reduceIte, g_9, g_17, eq_true y25, xs_kk0 (k := kp) (by omega)] <;> rfl) _ (xs_Mx (σ' := (xs_fd σ 1)) hM hR (fa := (upd (upd (C 83) 0 0) 1 1)) p25 (fun j hj => (pk_un (by omega)).trans ((pk_un (by omega)).trans (rfl))) ((Fh25 88 (by omega)).trans (xs_M88 hM)) (fun _ _ => rfl) ((Fh25 94 (by omega)).trans (xs_M94 hM)) ((Fh25 95 (by omega)).trans (xs_M95 hM)) ((Fh25 96 (by omega)).trans (xs_M96 hM)) ((Fh25 97 (by omega)).trans (xs_M97 hM)) ((Fh25 98 (by omega)).trans (xs_M98 hM)) ((Fh25 99 (by omega)).trans (xs_M99 hM)) (fun i i1 i2 i3 i4 => (Fh25 i (by omega))) xs_fdo rfl) (fun i hi => (Fh25 i (by omega)))
      · intro z25 h25 p25 f25
        have Fh25 : ∀ i, i ≠ 83 → h25 i = h i := fun i j83 => (f25 i (by omega)).trans ((va_up_ne _ _ (by omega)).trans (Eq.refl _))
        have y25 : ¬ σ 6 kp 0 = 0 := fun e => z25 ((xs_ht hR (by omega)).trans e)
        refine xi_istore (q := 30) dX9_adjust_28 (Nat.le_of_ble_eq_true rfl) rfl ?_
        refine xi_iload (q := 32) dX9_adjust_30 rfl rfl ?_
        refine xi_if_ge (q := 35) (q2 := 38) dX9_adjust_32 (by decide) rfl (fun c_32 => ?_) (fun c_32 => ?_)
        · skip
          obtain ⟨kw, hkw, rfl⟩ := xn_pk (m := 10) (p := w) (by omega) (by have z := xn_nbI g_17; rw [xn_le, xn_le]; exact z)
          refine xi_aload_n (q := 39) dX9_adjust_38 rfl rfl ?_
          refine xi_getf (q := 42) dX9_adjust_39 fl_X9_23 ⟨by omega, p25⟩ rfl rfl ?_
          refine xi_bipush (x := 12) (q := 44) dX9_adjust_42 (by decide) rfl ?_
          refine xi_iload_n (q := 45) dX9_adjust_44 rfl rfl ?_
          refine xi_imul (q := 46) dX9_adjust_45 rfl ?_
          refine xi_iload_n (q := 47) dX9_adjust_46 rfl rfl ?_
          refine xi_iadd (q := 48) dX9_adjust_47 rfl ?_
          refine xi_iald (q := 49) dX9_adjust_48 ⟨by omega, ((Fh25 88 (by omega)).trans (xs_M88 hM))⟩ (xn_ixM (a := 12) (p := kp) (k := kw) (by omega) (by omega)) rfl ?_
          refine xi_istore (q := 51) dX9_adjust_49 (Nat.le_of_ble_eq_true rfl) rfl ?_
          refine xi_aload_n (q := 52) dX9_adjust_51 rfl rfl ?_
          refine xi_getf (q := 55) dX9_adjust_52 fl_X9_23 ⟨by omega, p25⟩ rfl rfl ?_
          refine xi_bipush (x := 12) (q := 57) dX9_adjust_55 (by decide) rfl ?_
          refine xi_iload_n (q := 58) dX9_adjust_57 rfl rfl ?_
          refine xi_imul (q := 59) dX9_adjust_58 rfl ?_
          refine xi_iload_n (q := 60) dX9_adjust_59 rfl rfl ?_
          refine xi_iadd (q := 61) dX9_adjust_60 rfl ?_
          refine xi_iload_n (q := 62) dX9_adjust_61 rfl rfl ?_
          refine xi_iast (q := 63) dX9_adjust_62 ⟨by omega, ((Fh25 88 (by omega)).trans (xs_M88 hM))⟩ (xn_ixM (a := 12) (p := kp) (k := kw) (by omega) (by omega)) rfl ?_
          refine xi_iload (q := 65) dX9_adjust_63 rfl rfl ?_
          refine xi_ret ⟨_, rfl, rfl, dX9_adjust_65⟩ (Nat.zero_le _) (Nat.zero_le _) ?_
          exact xs_finM (σ' := (xs_fd (xs_en σ kp (upd (σ 4 kp) kw v) (σ 5 kp 0) (σ 6 kp 0)) 0)) hp (by rw [show C 88 (12 * kp + kw) = σ 4 kp kw from (xs_hq hR (p := kp) (by omega)) kw (by omega)]; simp only [xs_adjust, xs_onE, xs_onP, xs_fn, xs_an, Bool.not_false, Bool.not_true, Bool.true_or, Bool.false_or, Bool.and_true, Bool.true_and, Bool.and_false, Bool.false_and, Bool.false_eq_true, if_true, if_false, ↓reduceIte, g_9, g_17, eq_false y25, xs_kk0 (k := kp) (by omega), xs_kk0 (k := kw) (by omega)] <;> rfl) _ ⟨(xs_cu (xs_cu C 83 (upd (upd (C 83) 0 0) 1 0)) 88 (upd (C 88) (12 * kp + kw) v)), _, ⟨((va_up_ne _ _ (by omega)).trans p25), ((va_up_ne _ _ (by omega)).trans ((Fh25 84 (by omega)).trans (xs_M84 (C := C) hM))), ((va_up_ne _ _ (by omega)).trans ((Fh25 85 (by omega)).trans (xs_M85 (C := C) hM))), ((va_up_ne _ _ (by omega)).trans ((Fh25 86 (by omega)).trans (xs_M86 (C := C) hM))), ((va_up_ne _ _ (by omega)).trans ((Fh25 87 (by omega)).trans (xs_M87 (C := C) hM))), ((va_up_self _ _ _).trans rfl), ((va_up_ne _ _ (by omega)).trans ((Fh25 89 (by omega)).trans (xs_M89 (C := C) hM))), ((va_up_ne _ _ (by omega)).trans ((Fh25 90 (by omega)).trans (xs_M90 (C := C) hM))), ((va_up_ne _ _ (by omega)).trans ((Fh25 91 (by omega)).trans (xs_M91 (C := C) hM))), ((va_up_ne _ _ (by omega)).trans ((Fh25 92 (by omega)).trans (xs_M92 (C := C) hM))), ((va_up_ne _ _ (by omega)).trans ((Fh25 93 (by omega)).trans (xs_M93 (C := C) hM))), ((va_up_ne _ _ (by omega)).trans ((Fh25 94 (by omega)).trans (xs_M94 (C := C) hM))), ((va_up_ne _ _ (by omega)).trans ((Fh25 95 (by omega)).trans (xs_M95 (C := C) hM))), ((va_up_ne _ _ (by omega)).trans ((Fh25 96 (by omega)).trans (xs_M96 (C := C) hM))), ((va_up_ne _ _ (by omega)).trans ((Fh25 97 (by omega)).trans (xs_M97 (C := C) hM))), ((va_up_ne _ _ (by omega)).trans ((Fh25 98 (by omega)).trans (xs_M98 (C := C) hM))), ((va_up_ne _ _ (by omega)).trans ((Fh25 99 (by omega)).trans (xs_M99 (C := C) hM))), ((va_up_ne _ _ (by omega)).trans ((Fh25 100 (by omega)).trans (xs_M100 (C := C) hM))), ((va_up_ne _ _ (by omega)).trans ((Fh25 101 (by omega)).trans (xs_M101 (C := C) hM))), ((va_up_ne _ _ (by omega)).trans ((Fh25 102 (by omega)).trans (xs_M102 (C := C) hM))), ((va_up_ne _ _ (by omega)).trans ((Fh25 103 (by omega)).trans (xs_M103 (C := C) hM)))⟩, ⟨xs_Rfd (xs_Ren (j := kp) hR.1 (fun p hp => by
                    by_cases e : p = kp
                    · rw [if_pos e, e]; exact xs_ht hR (by omega)
                    · rw [if_neg e]; rfl) (fun x hx => by
                    show upd (C 88) (12 * kp + kw) v (12 * kp + x) = upd (σ 4 kp) kw v x
                    by_cases e : x = kw
                    · rw [e, pk_us, pk_us]
                    · rw [pk_un (by omega), pk_un e]; exact xs_hq hR (by omega) x hx) ((pk_un (by omega)).trans (xs_hs hR (by omega))) (fun x hx hx2 => pk_un (by omega)) (fun i hi => (pk_un (by omega)).trans ((pk_un (by omega)).trans (rfl))) (fun i hi i1 i2 i3 => (by rw [xs_cuo (by omega), xs_cuo (by omega)]))), rfl⟩⟩ (fun i hi => ((va_up_ne _ _ (by omega)).trans (Fh25 i (by omega))))
        · exact absurd (by decide) c_32
    · have g_17 : xs_isNb w v = false := Bool.eq_false_iff.mpr (xn_b0 c_17)
      refine xi_ldc (q := 22) dX9_adjust_20 kc_X9_91 rfl ?_
      refine xi_ret ⟨_, rfl, rfl, dX9_adjust_22⟩ (Nat.zero_le _) (Nat.zero_le _) ?_
      exact xs_finM (σ' := σ) hp (by simp only [xs_adjust, xs_onE, xs_onP, xs_fn, xs_an, Bool.not_false, Bool.not_true, Bool.true_or, Bool.false_or, Bool.and_true, Bool.true_and, Bool.and_false, Bool.false_and, Bool.false_eq_true, if_true, if_false, ↓reduceIte, g_9, g_17, xs_kk0 (k := kp) (by omega)] <;> rfl) _ (xs_Mx (σ' := σ) hM hR (fa := (upd (C 83) 0 0)) ((va_up_self _ _ _).trans rfl) (fun j hj => (pk_un (by omega)).trans (rfl)) ((va_up_ne _ _ (by omega)).trans (xs_M88 hM)) (fun _ _ => rfl) ((va_up_ne _ _ (by omega)).trans (xs_M94 hM)) ((va_up_ne _ _ (by omega)).trans (xs_M95 hM)) ((va_up_ne _ _ (by omega)).trans (xs_M96 hM)) ((va_up_ne _ _ (by omega)).trans (xs_M97 hM)) ((va_up_ne _ _ (by omega)).trans (xs_M98 hM)) ((va_up_ne _ _ (by omega)).trans (xs_M99 hM)) (fun i i1 i2 i3 i4 => ((va_up_ne _ _ (by omega)).trans (Eq.refl _))) (fun _ _ _ => rfl) hR.2) (fun i hi => ((va_up_ne _ _ (by omega)).trans (Eq.refl _)))

set_option maxRecDepth 20000 in
set_option maxHeartbeats 2000000 in
/-- sicken -/
theorem xm_X9_sicken : xv_K yX9_sicken mX9_sicken (fun as h n Post => ∃ (σ : xs_Sg) (p : Int32) (s : Int32), as = [.ref 83, .int p, .int s] ∧ (xs_Mo h σ) ∧ (103 < n) ∧ (xs_V σ) ∧ xs_DM h n Post (xs_sicken σ p s)) := by
  refine xv_entry (by decide +kernel) rfl (fun h => absurd h (by decide)) ?_
  rintro X _ h n Post ⟨σ, p, s, rfl, ⟨C, dk, hM, hR⟩, h103, hV, hp⟩
  refine ⟨Nat.le_of_ble_eq_true rfl, ?_⟩
  show xv_V X mX9_sicken Post 0 0 0 [(0, .ref 83), (1, .int p), (2, .int s)] [] h n
  refine xi_aload_n (q := 1) dX9_sicken_0 rfl rfl ?_
  refine xi_iconst (x := 0) (q := 2) dX9_sicken_1 (by decide) rfl ?_
  refine xi_putf (q := 5) dX9_sicken_2 fl_X9_71 ⟨by omega, (xs_M83 hM)⟩ (Or.inl rfl) (fun _ => rfl) (fun _ => rfl) (Nat.le_of_ble_eq_true rfl) rfl ?_
  refine xi_iload_n (q := 6) dX9_sicken_5 rfl rfl ?_
  refine xv_cS1 (q := 9) xm_X9_isPlace ln_X9_116 dX9_sicken_6 ⟨(Nat.le_of_ble_eq_true rfl), (Nat.le_of_ble_eq_true rfl)⟩ (Nat.le_of_ble_eq_true rfl) ⟨rfl, rfl⟩ rfl (Nat.zero_le _) (Nat.zero_le _) ?_
  refine ⟨_, rfl, ?_⟩
  refine xi_if_eq (q := 12) (q2 := 24) dX9_sicken_9 (by decide) rfl (fun c_9 => ?_) (fun c_9 => ?_)
  · have g_9 : xs_i p 0 5 = false := decide_eq_false (xn_b0 c_9)
    refine xi_ldc (q := 26) dX9_sicken_24 kc_X9_91 rfl ?_
    refine xi_ret ⟨_, rfl, rfl, dX9_sicken_26⟩ (Nat.zero_le _) (Nat.zero_le _) ?_
    exact xs_finM (σ' := σ) hp (by simp only [xs_sicken, xs_onE, xs_onP, xs_fn, xs_an, Bool.not_false, Bool.not_true, Bool.true_or, Bool.false_or, Bool.and_true, Bool.true_and, Bool.and_false, Bool.false_and, Bool.false_eq_true, if_true, if_false, ↓reduceIte, g_9] <;> rfl) _ (xs_Mx (σ' := σ) hM hR (fa := (upd (C 83) 0 0)) ((va_up_self _ _ _).trans rfl) (fun j hj => (pk_un (by omega)).trans (rfl)) ((va_up_ne _ _ (by omega)).trans (xs_M88 hM)) (fun _ _ => rfl) ((va_up_ne _ _ (by omega)).trans (xs_M94 hM)) ((va_up_ne _ _ (by omega)).trans (xs_M95 hM)) ((va_up_ne _ _ (by omega)).trans (xs_M96 hM)) ((va_up_ne _ _ (by omega)).trans (xs_M97 hM)) ((va_up_ne _ _ (by omega)).trans (xs_M98 hM)) ((va_up_ne _ _ (by omega)).trans (xs_M99 hM)) (fun i i1 i2 i3 i4 => ((va_up_ne _ _ (by omega)).trans (Eq.refl _))) (fun _ _ _ => rfl) hR.2) (fun i hi => ((va_up_ne _ _ (by omega)).trans (Eq.refl _)))
  · have g_9 : xs_i p 0 5 = true := decide_eq_true (xn_b1 c_9)
    obtain ⟨kp, hkp, rfl⟩ := xn_pk (m := 5) (by omega) (xn_b1 c_9)
    refine xi_iload_n (q := 13) dX9_sicken_12 rfl rfl ?_
    refine xi_i2l (q := 14) dX9_sicken_13 rfl ?_
    refine xi_lconst (x := 0) (q := 15) dX9_sicken_14 (by decide) rfl ?_
    refine xi_ldc2 (q := 18) dX9_sicken_15 kc_X9_126 rfl ?_
    refine xv_cS3 (q := 21) xm_X9_in ln_X9_81 dX9_sicken_18 ⟨(Nat.le_of_ble_eq_true rfl), (Nat.le_of_ble_eq_true rfl)⟩ (Nat.le_of_ble_eq_true rfl) ⟨rfl, rfl⟩ rfl (Nat.zero_le _) (Nat.zero_le _) ?_
    refine ⟨s, 0, 12, rfl, ?_⟩
    refine xi_if_ne (q := 24) (q2 := 27) dX9_sicken_21 (by decide) rfl (fun c_21 => ?_) (fun c_21 => ?_)
    · have g_21 : xs_i s 0 12 = true := decide_eq_true (xn_b1 c_21)
      refine xi_aload_n (q := 28) dX9_sicken_27 rfl rfl ?_
      refine xi_iload_n (q := 29) dX9_sicken_28 rfl rfl ?_
      refine xv_cV1 (q := 32) xm_X9_stands ln_X9_123 dX9_sicken_29 (xv_self (by omega)) rfl ⟨(Nat.le_of_ble_eq_true rfl), (Nat.le_of_ble_eq_true rfl)⟩ (Nat.le_of_ble_eq_true rfl) ⟨rfl, rfl⟩ rfl (Nat.zero_le _) (Nat.zero_le _) ?_
      refine ⟨(upd (C 83) 0 0), dk, C 87, kp, rfl, ((va_up_self _ _ _).trans rfl), by omega, ((va_up_ne _ _ (by omega)).trans (xs_M87 hM)), by omega, ?_, ?_⟩
      · intro z29 h29 p29 f29
        have Fh29 : ∀ i, i ≠ 83 → h29 i = h i := fun i j83 => (f29 i (by omega)).trans ((va_up_ne _ _ (by omega)).trans (Eq.refl _))
        have y29 : σ 6 kp 0 = 0 := (xs_ht hR (by omega)).symm.trans z29
        refine xi_istore_n (q := 33) dX9_sicken_32 (Nat.le_of_ble_eq_true rfl) rfl ?_
        refine xi_iload_n (q := 34) dX9_sicken_33 rfl rfl ?_
        refine xi_if_ge (q := 37) (q2 := 39) dX9_sicken_34 (by decide) rfl (fun c_34 => ?_) (fun c_34 => ?_)
        · exact absurd c_34 (by decide)
        · skip
          refine xi_iload_n (q := 38) dX9_sicken_37 rfl rfl ?_
          refine xi_ret ⟨_, rfl, rfl, dX9_sicken_38⟩ (Nat.zero_le _) (Nat.zero_le _) ?_
          exact xs_finM (σ' := (xs_fd σ 1)) hp (by simp only [xs_sicken, xs_onE, xs_onP, xs_fn1, xs_an, Bool.not_false, Bool.not_true, Bool.true_or, Bool.false_or, Bool.and_true, Bool.true_and, Bool.and_false, Bool.false_and, Bool.false_eq_true, if_true, if_false, ↓reduceIte, g_9, g_21, eq_true y29, xs_kk0 (k := kp) (by omega)] <;> rfl) _ (xs_Mx (σ' := (xs_fd σ 1)) hM hR (fa := (upd (upd (C 83) 0 0) 1 1)) p29 (fun j hj => (pk_un (by omega)).trans ((pk_un (by omega)).trans (rfl))) ((Fh29 88 (by omega)).trans (xs_M88 hM)) (fun _ _ => rfl) ((Fh29 94 (by omega)).trans (xs_M94 hM)) ((Fh29 95 (by omega)).trans (xs_M95 hM)) ((Fh29 96 (by omega)).trans (xs_M96 hM)) ((Fh29 97 (by omega)).trans (xs_M97 hM)) ((Fh29 98 (by omega)).trans (xs_M98 hM)) ((Fh29 99 (by omega)).trans (xs_M99 hM)) (fun i i1 i2 i3 i4 => (Fh29 i (by omega))) xs_fdo rfl) (fun i hi => (Fh29 i (by omega)))
      · intro z29 h29 p29 f29
        have Fh29 : ∀ i, i ≠ 83 → h29 i = h i := fun i j83 => (f29 i (by omega)).trans ((va_up_ne _ _ (by omega)).trans (Eq.refl _))
        have y29 : ¬ σ 6 kp 0 = 0 := fun e => z29 ((xs_ht hR (by omega)).trans e)
        refine xi_istore_n (q := 33) dX9_sicken_32 (Nat.le_of_ble_eq_true rfl) rfl ?_
        refine xi_iload_n (q := 34) dX9_sicken_33 rfl rfl ?_
        refine xi_if_ge (q := 37) (q2 := 39) dX9_sicken_34 (by decide) rfl (fun c_34 => ?_) (fun c_34 => ?_)
        · skip
          refine xi_aload_n (q := 40) dX9_sicken_39 rfl rfl ?_
          refine xi_getf (q := 43) dX9_sicken_40 fl_X9_23 ⟨by omega, p29⟩ rfl rfl ?_
          refine xi_bipush (x := 12) (q := 45) dX9_sicken_43 (by decide) rfl ?_
          refine xi_iload_n (q := 46) dX9_sicken_45 rfl rfl ?_
          refine xi_imul (q := 47) dX9_sicken_46 rfl ?_
          refine xi_bipush (x := 11) (q := 49) dX9_sicken_47 (by decide) rfl ?_
          refine xi_iadd (q := 50) dX9_sicken_49 rfl ?_
          refine xi_iald (q := 51) dX9_sicken_50 ⟨by omega, ((Fh29 88 (by omega)).trans (xs_M88 hM))⟩ (xn_ix12 (j := 11) (p := kp) (by omega) (by omega)) rfl ?_
          refine xi_istore (q := 53) dX9_sicken_51 (Nat.le_of_ble_eq_true rfl) rfl ?_
          refine xi_aload_n (q := 54) dX9_sicken_53 rfl rfl ?_
          refine xi_getf (q := 57) dX9_sicken_54 fl_X9_23 ⟨by omega, p29⟩ rfl rfl ?_
          refine xi_bipush (x := 12) (q := 59) dX9_sicken_57 (by decide) rfl ?_
          refine xi_iload_n (q := 60) dX9_sicken_59 rfl rfl ?_
          refine xi_imul (q := 61) dX9_sicken_60 rfl ?_
          refine xi_bipush (x := 11) (q := 63) dX9_sicken_61 (by decide) rfl ?_
          refine xi_iadd (q := 64) dX9_sicken_63 rfl ?_
          refine xi_iload_n (q := 65) dX9_sicken_64 rfl rfl ?_
          refine xi_iast (q := 66) dX9_sicken_65 ⟨by omega, ((Fh29 88 (by omega)).trans (xs_M88 hM))⟩ (xn_ix12 (j := 11) (p := kp) (by omega) (by omega)) rfl ?_
          refine xi_iload (q := 68) dX9_sicken_66 rfl rfl ?_
          refine xi_ret ⟨_, rfl, rfl, dX9_sicken_68⟩ (Nat.zero_le _) (Nat.zero_le _) ?_
          exact xs_finM (σ' := (xs_fd (xs_en σ kp (σ 4 kp) s (σ 6 kp 0)) 0)) hp (by rw [xs_hs hR (p := kp) (by omega)]; simp only [xs_sicken, xs_onE, xs_onP, xs_fn, xs_an, Bool.not_false, Bool.not_true, Bool.true_or, Bool.false_or, Bool.and_true, Bool.true_and, Bool.and_false, Bool.false_and, Bool.false_eq_true, if_true, if_false, ↓reduceIte, g_9, g_21, eq_false y29, xs_kk0 (k := kp) (by omega)] <;> rfl) _ ⟨(xs_cu (xs_cu C 83 (upd (upd (C 83) 0 0) 1 0)) 88 (upd (C 88) (12 * kp + 11) s)), _, ⟨((va_up_ne _ _ (by omega)).trans p29), ((va_up_ne _ _ (by omega)).trans ((Fh29 84 (by omega)).trans (xs_M84 (C := C) hM))), ((va_up_ne _ _ (by omega)).trans ((Fh29 85 (by omega)).trans (xs_M85 (C := C) hM))), ((va_up_ne _ _ (by omega)).trans ((Fh29 86 (by omega)).trans (xs_M86 (C := C) hM))), ((va_up_ne _ _ (by omega)).trans ((Fh29 87 (by omega)).trans (xs_M87 (C := C) hM))), ((va_up_self _ _ _).trans rfl), ((va_up_ne _ _ (by omega)).trans ((Fh29 89 (by omega)).trans (xs_M89 (C := C) hM))), ((va_up_ne _ _ (by omega)).trans ((Fh29 90 (by omega)).trans (xs_M90 (C := C) hM))), ((va_up_ne _ _ (by omega)).trans ((Fh29 91 (by omega)).trans (xs_M91 (C := C) hM))), ((va_up_ne _ _ (by omega)).trans ((Fh29 92 (by omega)).trans (xs_M92 (C := C) hM))), ((va_up_ne _ _ (by omega)).trans ((Fh29 93 (by omega)).trans (xs_M93 (C := C) hM))), ((va_up_ne _ _ (by omega)).trans ((Fh29 94 (by omega)).trans (xs_M94 (C := C) hM))), ((va_up_ne _ _ (by omega)).trans ((Fh29 95 (by omega)).trans (xs_M95 (C := C) hM))), ((va_up_ne _ _ (by omega)).trans ((Fh29 96 (by omega)).trans (xs_M96 (C := C) hM))), ((va_up_ne _ _ (by omega)).trans ((Fh29 97 (by omega)).trans (xs_M97 (C := C) hM))), ((va_up_ne _ _ (by omega)).trans ((Fh29 98 (by omega)).trans (xs_M98 (C := C) hM))), ((va_up_ne _ _ (by omega)).trans ((Fh29 99 (by omega)).trans (xs_M99 (C := C) hM))), ((va_up_ne _ _ (by omega)).trans ((Fh29 100 (by omega)).trans (xs_M100 (C := C) hM))), ((va_up_ne _ _ (by omega)).trans ((Fh29 101 (by omega)).trans (xs_M101 (C := C) hM))), ((va_up_ne _ _ (by omega)).trans ((Fh29 102 (by omega)).trans (xs_M102 (C := C) hM))), ((va_up_ne _ _ (by omega)).trans ((Fh29 103 (by omega)).trans (xs_M103 (C := C) hM)))⟩, ⟨xs_Rfd (xs_Ren (j := kp) hR.1 (fun p hp => by
                    by_cases e : p = kp
                    · rw [if_pos e, e]; exact xs_ht hR (by omega)
                    · rw [if_neg e]; rfl) (fun x hx => (pk_un (by omega)).trans (xs_hq hR (by omega) x hx)) (pk_us) (fun x hx hx2 => pk_un (by omega)) (fun i hi => (pk_un (by omega)).trans ((pk_un (by omega)).trans (rfl))) (fun i hi i1 i2 i3 => (by rw [xs_cuo (by omega), xs_cuo (by omega)]))), rfl⟩⟩ (fun i hi => ((va_up_ne _ _ (by omega)).trans (Fh29 i (by omega))))
        · exact absurd (by decide) c_34
    · have g_21 : xs_i s 0 12 = false := decide_eq_false (xn_b0 c_21)
      refine xi_ldc (q := 26) dX9_sicken_24 kc_X9_91 rfl ?_
      refine xi_ret ⟨_, rfl, rfl, dX9_sicken_26⟩ (Nat.zero_le _) (Nat.zero_le _) ?_
      exact xs_finM (σ' := σ) hp (by simp only [xs_sicken, xs_onE, xs_onP, xs_fn, xs_an, Bool.not_false, Bool.not_true, Bool.true_or, Bool.false_or, Bool.and_true, Bool.true_and, Bool.and_false, Bool.false_and, Bool.false_eq_true, if_true, if_false, ↓reduceIte, g_9, g_21, xs_kk0 (k := kp) (by omega)] <;> rfl) _ (xs_Mx (σ' := σ) hM hR (fa := (upd (C 83) 0 0)) ((va_up_self _ _ _).trans rfl) (fun j hj => (pk_un (by omega)).trans (rfl)) ((va_up_ne _ _ (by omega)).trans (xs_M88 hM)) (fun _ _ => rfl) ((va_up_ne _ _ (by omega)).trans (xs_M94 hM)) ((va_up_ne _ _ (by omega)).trans (xs_M95 hM)) ((va_up_ne _ _ (by omega)).trans (xs_M96 hM)) ((va_up_ne _ _ (by omega)).trans (xs_M97 hM)) ((va_up_ne _ _ (by omega)).trans (xs_M98 hM)) ((va_up_ne _ _ (by omega)).trans (xs_M99 hM)) (fun i i1 i2 i3 i4 => ((va_up_ne _ _ (by omega)).trans (Eq.refl _))) (fun _ _ _ => rfl) hR.2) (fun i hi => ((va_up_ne _ _ (by omega)).trans (Eq.refl _)))

