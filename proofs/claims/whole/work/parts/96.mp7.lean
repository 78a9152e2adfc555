theorem xn_c00 {σ : xs_Sg} {k : Nat} (h : σ 0 k 0 = 0) : xs_c0 σ k = 0 := if_pos h
theorem xn_c01 {σ : xs_Sg} {k : Nat} (h : ¬ σ 0 k 0 = 0) : xs_c0 σ k = 1 := if_neg h
theorem xn_c60 {σ : xs_Sg} {k : Nat} (h : σ 7 k 0 = 0) : xs_c6 σ k = 0 := if_pos h
theorem xn_c61 {σ : xs_Sg} {k : Nat} (h : ¬ σ 7 k 0 = 0) : xs_c6 σ k = 1 := if_neg h
theorem xn_ckA {σ : xs_Sg} {w : Int32} {k : Nat} (h : σ 6 k 0 = 0) : xs_ck σ w k = 0 := if_pos h
theorem xn_ckB {σ : xs_Sg} {w : Int32} {k : Nat} (h : ¬ σ 6 k 0 = 0) (h2 : ¬ xs_bel (xs_tk (σ 4 k) (σ 5 k 0)) w = true) : xs_ck σ w k = 0 := by unfold xs_ck; rw [if_neg h, if_neg h2]
theorem xn_ckC {σ : xs_Sg} {w : Int32} {k : Nat} (h : ¬ σ 6 k 0 = 0) (h2 : xs_bel (xs_tk (σ 4 k) (σ 5 k 0)) w = true) : xs_ck σ w k = 1 := by unfold xs_ck; rw [if_neg h, if_pos h2]
set_option maxRecDepth 20000 in
set_option maxHeartbeats 2000000 in
/-- count -/
theorem xm_X9_count : xv_K yX9_count mX9_count (fun as h n Post => ∃ (σ : xs_Sg) (w : Int32), as = [.ref 83, .int w] ∧ (xs_Mo h σ) ∧ (103 < n) ∧ (xs_V σ) ∧ xs_DM h n Post (xs_count σ w)) := by
  refine xv_entry (by decide +kernel) rfl (fun h => absurd h (by decide)) ?_
  rintro X _ h n Post ⟨σ, w, rfl, ⟨C, dk, hM, hR⟩, h103, hV, hp⟩
  refine ⟨Nat.le_of_ble_eq_true rfl, ?_⟩
  show xv_V X mX9_count Post 0 0 0 [(0, .ref 83), (1, .int w)] [] h n
  by_cases hr : xs_i w 0 7 = true
  · rcases xn_g07 hr with rfl | rfl | rfl | rfl | rfl | rfl | rfl | rfl
    · refine xi_aload_n (q := 1) dX9_count_0 rfl rfl ?_
      refine xi_iconst (x := 0) (q := 2) dX9_count_1 (by decide) rfl ?_
      refine xi_putf (q := 5) dX9_count_2 fl_X9_71 ⟨by omega, (xs_M83 hM)⟩ (Or.inl rfl) (fun _ => rfl) (fun _ => rfl) (Nat.le_of_ble_eq_true rfl) rfl ?_
      refine xi_iconst (x := 0) (q := 6) dX9_count_5 (by decide) rfl ?_
      refine xi_istore_n (q := 7) dX9_count_6 (Nat.le_of_ble_eq_true rfl) rfl ?_
      refine xi_iload_n (q := 8) dX9_count_7 rfl rfl ?_
      refine xi_tableIn (q := 56) dX9_count_8 (by decide) (by decide) rfl (by decide) ?_
      refine xi_iconst (x := 0) (q := 57) dX9_count_56 (by decide) rfl ?_
      refine xi_istore_n (q := 58) dX9_count_57 (Nat.le_of_ble_eq_true rfl) rfl ?_
      refine xv_weakS (lv' := [(0, .ref 83), (1, .int 0), (2, .int (xs_ps (xs_c0 σ) 0)), (3, .int (nI 0))]) ⟨rfl, rfl, rfl, rfl, trivial⟩ ?_
      refine xv_lp (lv := fun k => [(0, .ref 83), (1, .int 0), (2, .int (xs_ps (xs_c0 σ) k)), (3, .int (nI k))]) (N := 8) (k0 := 0) (by omega) (fun k hk ih58 => ?_)
      show xv_V X mX9_count Post 0 0 58 [(0, .ref 83), (1, .int 0), (2, .int (xs_ps (xs_c0 σ) k)), (3, .int (nI k))] [] _ n
      refine xi_iload_n (q := 59) dX9_count_58 rfl rfl ?_
      refine xi_bipush (x := 8) (q := 61) dX9_count_59 (by decide) rfl ?_
      refine xi_icmp_ge (q := 64) (q2 := 87) dX9_count_61 (by decide) rfl (fun c_61 => ?_) (fun c_61 => ?_)
      · have hk2 : k = 8 := by have z : 8 ≤ k := xn_leN c_61 (by omega) (by omega); omega
        subst hk2
        refine xi_iload_n (q := 88) dX9_count_87 rfl rfl ?_
        refine xi_ret ⟨_, rfl, rfl, dX9_count_88⟩ (Nat.zero_le _) (Nat.zero_le _) ?_
        exact xs_finM (σ' := σ) hp (by simp only [xs_count, xs_onE, xs_onP, xs_fn, xs_an, Bool.not_false, Bool.not_true, Bool.true_or, Bool.false_or, Bool.and_true, Bool.true_and, Bool.and_false, Bool.false_and, Bool.false_eq_true, if_true, if_false, ↓reduceIte, (show xs_i 0 0 7 = true from by decide), eq_true (show (0 : Int32) = 0 from rfl), eq_false (show ¬ (0 : Int32) = 6 from by decide), eq_false (show ¬ (0 : Int32) = 7 from by decide)] <;> rfl) _ (xs_Mx (σ' := σ) hM hR (fa := (upd (C 83) 0 0)) ((va_up_self _ _ _).trans rfl) (fun j hj => (pk_un (by omega)).trans (rfl)) ((va_up_ne _ _ (by omega)).trans (xs_M88 hM)) (fun _ _ => rfl) ((va_up_ne _ _ (by omega)).trans (xs_M94 hM)) ((va_up_ne _ _ (by omega)).trans (xs_M95 hM)) ((va_up_ne _ _ (by omega)).trans (xs_M96 hM)) ((va_up_ne _ _ (by omega)).trans (xs_M97 hM)) ((va_up_ne _ _ (by omega)).trans (xs_M98 hM)) ((va_up_ne _ _ (by omega)).trans (xs_M99 hM)) (fun i i1 i2 i3 i4 => ((va_up_ne _ _ (by omega)).trans (Eq.refl _))) (fun _ _ _ => rfl) hR.2) (fun i hi => ((va_up_ne _ _ (by omega)).trans (Eq.refl _)))
      · have hk2 : k < 8 := xn_nleN c_61 (by omega) (by omega)
        refine xi_iload_n (q := 65) dX9_count_64 rfl rfl ?_
        refine xi_aload_n (q := 66) dX9_count_65 rfl rfl ?_
        refine xi_getf (q := 69) dX9_count_66 fl_X9_7 (xv_self (by omega)) rfl rfl ?_
        refine xi_iload_n (q := 70) dX9_count_69 rfl rfl ?_
        refine xi_iald (q := 71) dX9_count_70 (xv_keep (by omega) ⟨by omega, (xs_M84 hM)⟩) (xv_ixN (by omega) (by omega)) rfl ?_
        refine xi_if_lt (q := 74) (q2 := 78) dX9_count_71 (by decide) rfl (fun c_71 => ?_) (fun c_71 => ?_)
        · skip
          refine xi_iconst (x := 0) (q := 79) dX9_count_78 (by decide) rfl ?_
          refine xi_iadd (q := 80) dX9_count_79 rfl ?_
          refine xi_istore_n (q := 81) dX9_count_80 (Nat.le_of_ble_eq_true rfl) rfl ?_
          refine xi_iinc (y := nI (k + 1)) (q := 84) dX9_count_81 rfl (xn_inc k) (Nat.le_of_ble_eq_true rfl) rfl ?_
          refine xi_goto (q := 58) dX9_count_84 (by decide) ?_
          rw [xs_psS (xs_c0 σ) k (xn_c00 ((xs_ln hV hR hk2).2 (fun z => by rw [xn_le] at z; rw [xn_lt] at c_71; omega)))]
          refine xv_weakS (lv' := [(0, .ref 83), (1, .int 0), (2, .int (xs_ps (xs_c0 σ) (k + 1))), (3, .int (nI (k + 1)))]) ⟨rfl, rfl, rfl, rfl, trivial⟩ ?_
          exact ih58 (by omega)
        · skip
          refine xi_iconst (x := 1) (q := 75) dX9_count_74 (by decide) rfl ?_
          refine xi_goto (q := 79) dX9_count_75 (by decide) ?_
          refine xi_iadd (q := 80) dX9_count_79 rfl ?_
          refine xi_istore_n (q := 81) dX9_count_80 (Nat.le_of_ble_eq_true rfl) rfl ?_
          refine xi_iinc (y := nI (k + 1)) (q := 84) dX9_count_81 rfl (xn_inc k) (Nat.le_of_ble_eq_true rfl) rfl ?_
          refine xi_goto (q := 58) dX9_count_84 (by decide) ?_
          rw [xs_psS (xs_c0 σ) k (xn_c01 ((xs_ln hV hR hk2).1 (by rw [xn_le]; rw [xn_lt] at c_71; omega)))]
          refine xv_weakS (lv' := [(0, .ref 83), (1, .int 0), (2, .int (xs_ps (xs_c0 σ) (k + 1))), (3, .int (nI (k + 1)))]) ⟨rfl, rfl, rfl, rfl, trivial⟩ ?_
          exact ih58 (by omega)
    · refine xi_aload_n (q := 1) dX9_count_0 rfl rfl ?_
      refine xi_iconst (x := 0) (q := 2) dX9_count_1 (by decide) rfl ?_
      refine xi_putf (q := 5) dX9_count_2 fl_X9_71 ⟨by omega, (xs_M83 hM)⟩ (Or.inl rfl) (fun _ => rfl) (fun _ => rfl) (Nat.le_of_ble_eq_true rfl) rfl ?_
      refine xi_iconst (x := 0) (q := 6) dX9_count_5 (by decide) rfl ?_
      refine xi_istore_n (q := 7) dX9_count_6 (Nat.le_of_ble_eq_true rfl) rfl ?_
      refine xi_iload_n (q := 8) dX9_count_7 rfl rfl ?_
      refine xi_tableIn (q := 89) dX9_count_8 (by decide) (by decide) rfl (by decide) ?_
      refine xi_iconst (x := 0) (q := 90) dX9_count_89 (by decide) rfl ?_
      refine xi_istore_n (q := 91) dX9_count_90 (Nat.le_of_ble_eq_true rfl) rfl ?_
      refine xv_weakS (lv' := [(0, .ref 83), (1, .int 1), (2, .int (xs_ps (xs_ck σ (1 - 1)) 0)), (3, .int (nI 0))]) ⟨rfl, rfl, rfl, rfl, trivial⟩ ?_
      refine xv_lpH (lv := fun k => [(0, .ref 83), (1, .int 1), (2, .int (xs_ps (xs_ck σ (1 - 1)) k)), (3, .int (nI k))]) (I := fun k hI => ∃ (dI : Int64) (g94 : Nat → Int32), hI 83 = xs_mo (upd (C 83) 0 0) dI ∧ hI 94 = xs_ia 48 g94 ∧ (True) ∧ ∀ i, i ≠ 83 → i ≠ 94 → hI i = h i) (N := 6) (fun k h91 hk I91 ih91 => ?_) 0 _ (by omega) ⟨_, _, ((va_up_self _ _ _).trans rfl), ((va_up_ne _ _ (by omega)).trans (xs_M94 hM)), trivial, fun i _ _ => ((va_up_ne _ _ (by omega)).trans (Eq.refl _))⟩
      show xv_V X mX9_count Post 0 0 91 [(0, .ref 83), (1, .int 1), (2, .int (xs_ps (xs_ck σ (1 - 1)) k)), (3, .int (nI k))] [] h91 n
      obtain ⟨d91, g94_91, p83_91, p94_91, x91, F91⟩ := I91
      refine xi_iload_n (q := 92) dX9_count_91 rfl rfl ?_
      refine xi_bipush (x := 6) (q := 94) dX9_count_92 (by decide) rfl ?_
      refine xi_icmp_ge (q := 97) (q2 := 134) dX9_count_94 (by decide) rfl (fun c_94 => ?_) (fun c_94 => ?_)
      · have hk2 : k = 6 := by have z : 6 ≤ k := xn_leN c_94 (by omega) (by omega); omega
        subst hk2
        refine xi_iload_n (q := 135) dX9_count_134 rfl rfl ?_
        refine xi_ret ⟨_, rfl, rfl, dX9_count_135⟩ (Nat.zero_le _) (Nat.zero_le _) ?_
        exact xs_finM (σ' := σ) hp (by simp only [xs_count, xs_onE, xs_onP, xs_fn, xs_an, Bool.not_false, Bool.not_true, Bool.true_or, Bool.false_or, Bool.and_true, Bool.true_and, Bool.and_false, Bool.false_and, Bool.false_eq_true, if_true, if_false, ↓reduceIte, (show xs_i 1 0 7 = true from by decide), eq_false (show ¬ (1 : Int32) = 0 from by decide), eq_false (show ¬ (1 : Int32) = 6 from by decide), eq_false (show ¬ (1 : Int32) = 7 from by decide)] <;> rfl) _ (xs_Mx (σ' := σ) hM hR (fa := (upd (C 83) 0 0)) p83_91 (fun j hj => (pk_un (by omega)).trans (rfl)) ((F91 88 (by omega) (by omega)).trans (xs_M88 hM)) (fun _ _ => rfl) p94_91 ((F91 95 (by omega) (by omega)).trans (xs_M95 hM)) ((F91 96 (by omega) (by omega)).trans (xs_M96 hM)) ((F91 97 (by omega) (by omega)).trans (xs_M97 hM)) ((F91 98 (by omega) (by omega)).trans (xs_M98 hM)) ((F91 99 (by omega) (by omega)).trans (xs_M99 hM)) (fun i i1 i2 i3 i4 => (F91 i (by omega) (by omega))) (fun _ _ _ => rfl) hR.2) (fun i hi => (F91 i (by omega) (by omega)))
      · have hk2 : k < 6 := xn_nleN c_94 (by omega) (by omega)
        refine xi_iload_n (q := 98) dX9_count_97 rfl rfl ?_
        refine xi_aload_n (q := 99) dX9_count_98 rfl rfl ?_
        refine xi_getf (q := 102) dX9_count_99 fl_X9_19 ⟨by omega, p83_91⟩ rfl rfl ?_
        refine xi_iload_n (q := 103) dX9_count_102 rfl rfl ?_
        refine xi_zald (q := 104) dX9_count_103 ⟨by omega, ((F91 87 (by omega) (by omega)).trans (xs_M87 hM))⟩ (xv_ixN (by omega) (by omega)) rfl ?_
        refine xi_if_eq (q := 107) (q2 := 125) dX9_count_104 (by decide) rfl (fun c_104 => ?_) (fun c_104 => ?_)
        · skip
          refine xi_iconst (x := 0) (q := 126) dX9_count_125 (by decide) rfl ?_
          refine xi_iadd (q := 127) dX9_count_126 rfl ?_
          refine xi_istore_n (q := 128) dX9_count_127 (Nat.le_of_ble_eq_true rfl) rfl ?_
          refine xi_iinc (y := nI (k + 1)) (q := 131) dX9_count_128 rfl (xn_inc k) (Nat.le_of_ble_eq_true rfl) rfl ?_
          refine xi_goto (q := 91) dX9_count_131 (by decide) ?_
          rw [xs_psS (xs_ck σ (1 - 1)) k (xn_ckA ((xs_ht hR (by omega)).symm.trans (by first | exact c_104 | exact Decidable.of_not_not c_104)))]
          refine xv_weakS (lv' := [(0, .ref 83), (1, .int 1), (2, .int (xs_ps (xs_ck σ (1 - 1)) (k + 1))), (3, .int (nI (k + 1)))]) ⟨rfl, rfl, rfl, rfl, trivial⟩ ?_
          exact ih91 _ (by omega) ⟨_, _, p83_91, p94_91, trivial, fun i _ _ => (F91 i (by omega) (by omega))⟩
        · have y104 : ¬ σ 6 k 0 = 0 := fun e => c_104 ((xs_ht hR (by omega)).trans e)
          refine xi_aload_n (q := 108) dX9_count_107 rfl rfl ?_
          refine xi_iload_n (q := 109) dX9_count_108 rfl rfl ?_
          refine xv_cV1 (q := 112) xm_X9_kindOf ln_X9_265 dX9_count_109 ⟨by omega, p83_91⟩ rfl ⟨(Nat.le_of_ble_eq_true rfl), (Nat.le_of_ble_eq_true rfl)⟩ (Nat.le_of_ble_eq_true rfl) ⟨rfl, rfl⟩ rfl (Nat.zero_le _) (Nat.zero_le _) ?_
          refine ⟨(upd (C 83) 0 0), d91, (C 88), k, _, rfl, ⟨p83_91, ((F91 88 (by omega) (by omega)).trans (xs_M88 hM)), ((F91 93 (by omega) (by omega)).trans (xs_M93 hM))⟩, by omega, by omega, (xe_ok (xs_hq hR (by omega)) (hV.2.2.2.1 k (by omega) y104).1), p94_91, fun h109 d109 r109 p109 q109 f109 => ?_⟩
          have Fh109 : ∀ i, i ≠ 83 → i ≠ 94 → h109 i = h i := fun i j83 j94 => (f109 i (by omega) (by omega)).trans (F91 i (by omega) (by omega))
          rw [xs_hs hR (p := k) (by omega), xe_tk (xs_hq hR (p := k) (by omega))]
          refine xi_iload_n (q := 113) dX9_count_112 rfl rfl ?_
          refine xi_iconst (x := 1) (q := 114) dX9_count_113 (by decide) rfl ?_
          refine xi_isub (q := 115) dX9_count_114 rfl ?_
          refine xv_cS2 (q := 118) xm_X9_isOf ln_X9_268 dX9_count_115 ⟨(Nat.le_of_ble_eq_true rfl), (Nat.le_of_ble_eq_true rfl)⟩ (Nat.le_of_ble_eq_true rfl) ⟨rfl, rfl⟩ rfl (Nat.zero_le _) (Nat.zero_le _) ?_
          refine ⟨_, _, rfl, ?_⟩
          refine xi_if_eq (q := 121) (q2 := 125) dX9_count_118 (by decide) rfl (fun c_118 => ?_) (fun c_118 => ?_)
          · skip
            refine xi_iconst (x := 0) (q := 126) dX9_count_125 (by decide) rfl ?_
            refine xi_iadd (q := 127) dX9_count_126 rfl ?_
            refine xi_istore_n (q := 128) dX9_count_127 (Nat.le_of_ble_eq_true rfl) rfl ?_
            refine xi_iinc (y := nI (k + 1)) (q := 131) dX9_count_128 rfl (xn_inc k) (Nat.le_of_ble_eq_true rfl) rfl ?_
            refine xi_goto (q := 91) dX9_count_131 (by decide) ?_
            rw [xs_psS (xs_ck σ (1 - 1)) k (xn_ckB y104 (xn_b0 c_118))]
            refine xv_weakS (lv' := [(0, .ref 83), (1, .int 1), (2, .int (xs_ps (xs_ck σ (1 - 1)) (k + 1))), (3, .int (nI (k + 1)))]) ⟨rfl, rfl, rfl, rfl, trivial⟩ ?_
            exact ih91 _ (by omega) ⟨_, _, p109, q109, trivial, fun i _ _ => (Fh109 i (by omega) (by omega))⟩
          · skip
            refine xi_iconst (x := 1) (q := 122) dX9_count_121 (by decide) rfl ?_
            refine xi_goto (q := 126) dX9_count_122 (by decide) ?_
            refine xi_iadd (q := 127) dX9_count_126 rfl ?_
            refine xi_istore_n (q := 128) dX9_count_127 (Nat.le_of_ble_eq_true rfl) rfl ?_
            refine xi_iinc (y := nI (k + 1)) (q := 131) dX9_count_128 rfl (xn_inc k) (Nat.le_of_ble_eq_true rfl) rfl ?_
            refine xi_goto (q := 91) dX9_count_131 (by decide) ?_
            rw [xs_psS (xs_ck σ (1 - 1)) k (xn_ckC y104 (xn_b1 c_118))]
            refine xv_weakS (lv' := [(0, .ref 83), (1, .int 1), (2, .int (xs_ps (xs_ck σ (1 - 1)) (k + 1))), (3, .int (nI (k + 1)))]) ⟨rfl, rfl, rfl, rfl, trivial⟩ ?_
            exact ih91 _ (by omega) ⟨_, _, p109, q109, trivial, fun i _ _ => (Fh109 i (by omega) (by omega))⟩
    · refine xi_aload_n (q := 1) dX9_count_0 rfl rfl ?_
      refine xi_iconst (x := 0) (q := 2) dX9_count_1 (by decide) rfl ?_
      refine xi_putf (q := 5) dX9_count_2 fl_X9_71 ⟨by omega, (xs_M83 hM)⟩ (Or.inl rfl) (fun _ => rfl) (fun _ => rfl) (Nat.le_of_ble_eq_true rfl) rfl ?_
      refine xi_iconst (x := 0) (q := 6) dX9_count_5 (by decide) rfl ?_
      refine xi_istore_n (q := 7) dX9_count_6 (Nat.le_of_ble_eq_true rfl) rfl ?_
      refine xi_iload_n (q := 8) dX9_count_7 rfl rfl ?_
      refine xi_tableIn (q := 89) dX9_count_8 (by decide) (by decide) rfl (by decide) ?_
      refine xi_iconst (x := 0) (q := 90) dX9_count_89 (by decide) rfl ?_
      refine xi_istore_n (q := 91) dX9_count_90 (Nat.le_of_ble_eq_true rfl) rfl ?_
      refine xv_weakS (lv' := [(0, .ref 83), (1, .int 2), (2, .int (xs_ps (xs_ck σ (2 - 1)) 0)), (3, .int (nI 0))]) ⟨rfl, rfl, rfl, rfl, trivial⟩ ?_
      refine xv_lpH (lv := fun k => [(0, .ref 83), (1, .int 2), (2, .int (xs_ps (xs_ck σ (2 - 1)) k)), (3, .int (nI k))]) (I := fun k hI => ∃ (dI : Int64) (g94 : Nat → Int32), hI 83 = xs_mo (upd (C 83) 0 0) dI ∧ hI 94 = xs_ia 48 g94 ∧ (True) ∧ ∀ i, i ≠ 83 → i ≠ 94 → hI i = h i) (N := 6) (fun k h91 hk I91 ih91 => ?_) 0 _ (by omega) ⟨_, _, ((va_up_self _ _ _).trans rfl), ((va_up_ne _ _ (by omega)).trans (xs_M94 hM)), trivial, fun i _ _ => ((va_up_ne _ _ (by omega)).trans (Eq.refl _))⟩
      show xv_V X mX9_count Post 0 0 91 [(0, .ref 83), (1, .int 2), (2, .int (xs_ps (xs_ck σ (2 - 1)) k)), (3, .int (nI k))] [] h91 n
      obtain ⟨d91, g94_91, p83_91, p94_91, x91, F91⟩ := I91
      refine xi_iload_n (q := 92) dX9_count_91 rfl rfl ?_
      refine xi_bipush (x := 6) (q := 94) dX9_count_92 (by decide) rfl ?_
      refine xi_icmp_ge (q := 97) (q2 := 134) dX9_count_94 (by decide) rfl (fun c_94 => ?_) (fun c_94 => ?_)
      · have hk2 : k = 6 := by have z : 6 ≤ k := xn_leN c_94 (by omega) (by omega); omega
        subst hk2
        refine xi_iload_n (q := 135) dX9_count_134 rfl rfl ?_
        refine xi_ret ⟨_, rfl, rfl, dX9_count_135⟩ (Nat.zero_le _) (Nat.zero_le _) ?_
        exact xs_finM (σ' := σ) hp (by simp only [xs_count, xs_onE, xs_onP, xs_fn, xs_an, Bool.not_false, Bool.not_true, Bool.true_or, Bool.false_or, Bool.and_true, Bool.true_and, Bool.and_false, Bool.false_and, Bool.false_eq_true, if_true, if_false, ↓reduceIte, (show xs_i 2 0 7 = true from by decide), eq_false (show ¬ (2 : Int32) = 0 from by decide), eq_false (show ¬ (2 : Int32) = 6 from by decide), eq_false (show ¬ (2 : Int32) = 7 from by decide)] <;> rfl) _ (xs_Mx (σ' := σ) hM hR (fa := (upd (C 83) 0 0)) p83_91 (fun j hj => (pk_un (by omega)).trans (rfl)) ((F91 88 (by omega) (by omega)).trans (xs_M88 hM)) (fun _ _ => rfl) p94_91 ((F91 95 (by omega) (by omega)).trans (xs_M95 hM)) ((F91 96 (by omega) (by omega)).trans (xs_M96 hM)) ((F91 97 (by omega) (by omega)).trans (xs_M97 hM)) ((F91 98 (by omega) (by omega)).trans (xs_M98 hM)) ((F91 99 (by omega) (by omega)).trans (xs_M99 hM)) (fun i i1 i2 i3 i4 => (F91 i (by omega) (by omega))) (fun _ _ _ => rfl) hR.2) (fun i hi => (F91 i (by omega) (by omega)))
      · have hk2 : k < 6 := xn_nleN c_94 (by omega) (by omega)
        refine xi_iload_n (q := 98) dX9_count_97 rfl rfl ?_
        refine xi_aload_n (q := 99) dX9_count_98 rfl rfl ?_
        refine xi_getf (q := 102) dX9_count_99 fl_X9_19 ⟨by omega, p83_91⟩ rfl rfl ?_
        refine xi_iload_n (q := 103) dX9_count_102 rfl rfl ?_
        refine xi_zald (q := 104) dX9_count_103 ⟨by omega, ((F91 87 (by omega) (by omega)).trans (xs_M87 hM))⟩ (xv_ixN (by omega) (by omega)) rfl ?_
        refine xi_if_eq (q := 107) (q2 := 125) dX9_count_104 (by decide) rfl (fun c_104 => ?_) (fun c_104 => ?_)
        · skip
          refine xi_iconst (x := 0) (q := 126) dX9_count_125 (by decide) rfl ?_
          refine xi_iadd (q := 127) dX9_count_126 rfl ?_
          refine xi_istore_n (q := 128) dX9_count_127 (Nat.le_of_ble_eq_true rfl) rfl ?_
          refine xi_iinc (y := nI (k + 1)) (q := 131) dX9_count_128 rfl (xn_inc k) (Nat.le_of_ble_eq_true rfl) rfl ?_
          refine xi_goto (q := 91) dX9_count_131 (by decide) ?_
          rw [xs_psS (xs_ck σ (2 - 1)) k (xn_ckA ((xs_ht hR (by omega)).symm.trans (by first | exact c_104 | exact Decidable.of_not_not c_104)))]
          refine xv_weakS (lv' := [(0, .ref 83), (1, .int 2), (2, .int (xs_ps (xs_ck σ (2 - 1)) (k + 1))), (3, .int (nI (k + 1)))]) ⟨rfl, rfl, rfl, rfl, trivial⟩ ?_
          exact ih91 _ (by omega) ⟨_, _, p83_91, p94_91, trivial, fun i _ _ => (F91 i (by omega) (by omega))⟩
        · have y104 : ¬ σ 6 k 0 = 0 := fun e => c_104 ((xs_ht hR (by omega)).trans e)
          refine xi_aload_n (q := 108) dX9_count_107 rfl rfl ?_
          refine xi_iload_n (q := 109) dX9_count_108 rfl rfl ?_
          refine xv_cV1 (q := 112) xm_X9_kindOf ln_X9_265 dX9_count_109 ⟨by omega, p83_91⟩ rfl ⟨(Nat.le_of_ble_eq_true rfl), (Nat.le_of_ble_eq_true rfl)⟩ (Nat.le_of_ble_eq_true rfl) ⟨rfl, rfl⟩ rfl (Nat.zero_le _) (Nat.zero_le _) ?_
          refine ⟨(upd (C 83) 0 0), d91, (C 88), k, _, rfl, ⟨p83_91, ((F91 88 (by omega) (by omega)).trans (xs_M88 hM)), ((F91 93 (by omega) (by omega)).trans (xs_M93 hM))⟩, by omega, by omega, (xe_ok (xs_hq hR (by omega)) (hV.2.2.2.1 k (by omega) y104).1), p94_91, fun h109 d109 r109 p109 q109 f109 => ?_⟩
          have Fh109 : ∀ i, i ≠ 83 → i ≠ 94 → h109 i = h i := fun i j83 j94 => (f109 i (by omega) (by omega)).trans (F91 i (by omega) (by omega))
          rw [xs_hs hR (p := k) (by omega), xe_tk (xs_hq hR (p := k) (by omega))]
          refine xi_iload_n (q := 113) dX9_count_112 rfl rfl ?_
          refine xi_iconst (x := 1) (q := 114) dX9_count_113 (by decide) rfl ?_
          refine xi_isub (q := 115) dX9_count_114 rfl ?_
          refine xv_cS2 (q := 118) xm_X9_isOf ln_X9_268 dX9_count_115 ⟨(Nat.le_of_ble_eq_true rfl), (Nat.le_of_ble_eq_true rfl)⟩ (Nat.le_of_ble_eq_true rfl) ⟨rfl, rfl⟩ rfl (Nat.zero_le _) (Nat.zero_le _) ?_
          refine ⟨_, _, rfl, ?_⟩
          refine xi_if_eq (q := 121) (q2 := 125) dX9_count_118 (by decide) rfl (fun c_118 => ?_) (fun c_118 => ?_)
          · skip
            refine xi_iconst (x := 0) (q := 126) dX9_count_125 (by decide) rfl ?_
            refine xi_iadd (q := 127) dX9_count_126 rfl ?_
            refine xi_istore_n (q := 128) dX9_count_127 (Nat.le_of_ble_eq_true rfl) rfl ?_
            refine xi_iinc (y := nI (k + 1)) (q := 131) dX9_count_128 rfl (xn_inc k) (Nat.le_of_ble_eq_true rfl) rfl ?_
            refine xi_goto (q := 91) dX9_count_131 (by decide) ?_
            rw [xs_psS (xs_ck σ (2 - 1)) k (xn_ckB y104 (xn_b0 c_118))]
            refine xv_weakS (lv' := [(0, .ref 83), (1, .int 2), (2, .int (xs_ps (xs_ck σ (2 - 1)) (k + 1))), (3, .int (nI (k + 1)))]) ⟨rfl, rfl, rfl, rfl, trivial⟩ ?_
            exact ih91 _ (by omega) ⟨_, _, p109, q109, trivial, fun i _ _ => (Fh109 i (by omega) (by omega))⟩
          · skip
            refine xi_iconst (x := 1) (q := 122) dX9_count_121 (by decide) rfl ?_
            refine xi_goto (q := 126) dX9_count_122 (by decide) ?_
            refine xi_iadd (q := 127) dX9_count_126 rfl ?_
            refine xi_istore_n (q := 128) dX9_count_127 (Nat.le_of_ble_eq_true rfl) rfl ?_
            refine xi_iinc (y := nI (k + 1)) (q := 131) dX9_count_128 rfl (xn_inc k) (Nat.le_of_ble_eq_true rfl) rfl ?_
            refine xi_goto (q := 91) dX9_count_131 (by decide) ?_
            rw [xs_psS (xs_ck σ (2 - 1)) k (xn_ckC y104 (xn_b1 c_118))]
            refine xv_weakS (lv' := [(0, .ref 83), (1, .int 2), (2, .int (xs_ps (xs_ck σ (2 - 1)) (k + 1))), (3, .int (nI (k + 1)))]) ⟨rfl, rfl, rfl, rfl, trivial⟩ ?_
            exact ih91 _ (by omega) ⟨_, _, p109, q109, trivial, fun i _ _ => (Fh109 i (by omega) (by omega))⟩
    · refine xi_aload_n (q := 1) dX9_count_0 rfl rfl ?_
      refine xi_iconst (x := 0) (q := 2) dX9_count_1 (by decide) rfl ?_
      refine xi_putf (q := 5) dX9_count_2 fl_X9_71 ⟨by omega, (xs_M83 hM)⟩ (Or.inl rfl) (fun _ => rfl) (fun _ => rfl) (Nat.le_of_ble_eq_true rfl) rfl ?_
      refine xi_iconst (x := 0) (q := 6) dX9_count_5 (by decide) rfl ?_
      refine xi_istore_n (q := 7) dX9_count_6 (Nat.le_of_ble_eq_true rfl) rfl ?_
      refine xi_iload_n (q := 8) dX9_count_7 rfl rfl ?_
      refine xi_tableIn (q := 89) dX9_count_8 (by decide) (by decide) rfl (by decide) ?_
      refine xi_iconst (x := 0) (q := 90) dX9_count_89 (by decide) rfl ?_
      refine xi_istore_n (q := 91) dX9_count_90 (Nat.le_of_ble_eq_true rfl) rfl ?_
      refine xv_weakS (lv' := [(0, .ref 83), (1, .int 3), (2, .int (xs_ps (xs_ck σ (3 - 1)) 0)), (3, .int (nI 0))]) ⟨rfl, rfl, rfl, rfl, trivial⟩ ?_
      refine xv_lpH (lv := fun k => [(0, .ref 83), (1, .int 3), (2, .int (xs_ps (xs_ck σ (3 - 1)) k)), (3, .int (nI k))]) (I := fun k hI => ∃ (dI : Int64) (g94 : Nat → Int32), hI 83 = xs_mo (upd (C 83) 0 0) dI ∧ hI 94 = xs_ia 48 g94 ∧ (True) ∧ ∀ i, i ≠ 83 → i ≠ 94 → hI i = h i) (N := 6) (fun k h91 hk I91 ih91 => ?_) 0 _ (by omega) ⟨_, _, ((va_up_self _ _ _).trans rfl), ((va_up_ne _ _ (by omega)).trans (xs_M94 hM)), trivial, fun i _ _ => ((va_up_ne _ _ (by omega)).trans (Eq.refl _))⟩
      show xv_V X mX9_count Post 0 0 91 [(0, .ref 83), (1, .int 3), (2, .int (xs_ps (xs_ck σ (3 - 1)) k)), (3, .int (nI k))] [] h91 n
      obtain ⟨d91, g94_91, p83_91, p94_91, x91, F91⟩ := I91
      refine xi_iload_n (q := 92) dX9_count_91 rfl rfl ?_
      refine xi_bipush (x := 6) (q := 94) dX9_count_92 (by decide) rfl ?_
      refine xi_icmp_ge (q := 97) (q2 := 134) dX9_count_94 (by decide) rfl (fun c_94 => ?_) (fun c_94 => ?_)
      · have hk2 : k = 6 := by have z : 6 ≤ k := xn_leN c_94 (by omega) (by omega); omega
        subst hk2
        refine xi_iload_n (q := 135) dX9_count_134 rfl rfl ?_
        refine xi_ret ⟨_, rfl, rfl, dX9_count_135⟩ (Nat.zero_le _) (Nat.zero_le _) ?_
        exact xs_finM (σ' := σ) hp (by simp only [xs_count, xs_onE, xs_onP, xs_fn, xs_an, Bool.not_false, Bool.not_true, Bool.true_or, Bool.false_or, Bool.and_true, Bool.true_and, Bool.and_false, Bool.false_and, Bool.false_eq_true, if_true, if_false, ↓reduceIte, (show xs_i 3 0 7 = true from by decide), eq_false (show ¬ (3 : Int32) = 0 from by decide), eq_false (show ¬ (3 : Int32) = 6 from by decide), eq_false (show ¬ (3 : Int32) = 7 from by decide)] <;> rfl) _ (xs_Mx (σ' := σ) hM hR (fa := (upd (C 83) 0 0)) p83_91 (fun j hj => (pk_un (by omega)).trans (rfl)) ((F91 88 (by omega) (by omega)).trans (xs_M88 hM)) (fun _ _ => rfl) p94_91 ((F91 95 (by omega) (by omega)).trans (xs_M95 hM)) ((F91 96 (by omega) (by omega)).trans (xs_M96 hM)) ((F91 97 (by omega) (by omega)).trans (xs_M97 hM)) ((F91 98 (by omega) (by omega)).trans (xs_M98 hM)) ((F91 99 (by omega) (by omega)).trans (xs_M99 hM)) (fun i i1 i2 i3 i4 => (F91 i (by omega) (by omega))) (fun _ _ _ => rfl) hR.2) (fun i hi => (F91 i (by omega) (by omega)))
      · have hk2 : k < 6 := xn_nleN c_94 (by omega) (by omega)
        refine xi_iload_n (q := 98) dX9_count_97 rfl rfl ?_
        refine xi_aload_n (q := 99) dX9_count_98 rfl rfl ?_
        refine xi_getf (q := 102) dX9_count_99 fl_X9_19 ⟨by omega, p83_91⟩ rfl rfl ?_
        refine xi_iload_n (q := 103) dX9_count_102 rfl rfl ?_
        refine xi_zald (q := 104) dX9_count_103 ⟨by omega, ((F91 87 (by omega) (by omega)).trans (xs_M87 hM))⟩ (xv_ixN (by omega) (by omega)) rfl ?_
        refine xi_if_eq (q := 107) (q2 := 125) dX9_count_104 (by decide) rfl (fun c_104 => ?_) (fun c_104 => ?_)
        · skip
          refine xi_iconst (x := 0) (q := 126) dX9_count_125 (by decide) rfl ?_
          refine xi_iadd (q := 127) dX9_count_126 rfl ?_
          refine xi_istore_n (q := 128) dX9_count_127 (Nat.le_of_ble_eq_true rfl) rfl ?_
          refine xi_iinc (y := nI (k + 1)) (q := 131) dX9_count_128 rfl (xn_inc k) (Nat.le_of_ble_eq_true rfl) rfl ?_
          refine xi_goto (q := 91) dX9_count_131 (by decide) ?_
          rw [xs_psS (xs_ck σ (3 - 1)) k (xn_ckA ((xs_ht hR (by omega)).symm.trans (by first | exact c_104 | exact Decidable.of_not_not c_104)))]
          refine xv_weakS (lv' := [(0, .ref 83), (1, .int 3), (2, .int (xs_ps (xs_ck σ (3 - 1)) (k + 1))), (3, .int (nI (k + 1)))]) ⟨rfl, rfl, rfl, rfl, trivial⟩ ?_
          exact ih91 _ (by omega) ⟨_, _, p83_91, p94_91, trivial, fun i _ _ => (F91 i (by omega) (by omega))⟩
        · have y104 : ¬ σ 6 k 0 = 0 := fun e => c_104 ((xs_ht hR (by omega)).trans e)
          refine xi_aload_n (q := 108) dX9_count_107 rfl rfl ?_
          refine xi_iload_n (q := 109) dX9_count_108 rfl rfl ?_
          refine xv_cV1 (q := 112) xm_X9_kindOf ln_X9_265 dX9_count_109 ⟨by omega, p83_91⟩ rfl ⟨(Nat.le_of_ble_eq_true rfl), (Nat.le_of_ble_eq_true rfl)⟩ (Nat.le_of_ble_eq_true rfl) ⟨rfl, rfl⟩ rfl (Nat.zero_le _) (Nat.zero_le _) ?_
          refine ⟨(upd (C 83) 0 0), d91, (C 88), k, _, rfl, ⟨p83_91, ((F91 88 (by omega) (by omega)).trans (xs_M88 hM)), ((F91 93 (by omega) (by omega)).trans (xs_M93 hM))⟩, by omega, by omega, (xe_ok (xs_hq hR (by omega)) (hV.2.2.2.1 k (by omega) y104).1), p94_91, fun h109 d109 r109 p109 q109 f109 => ?_⟩
          have Fh109 : ∀ i, i ≠ 83 → i ≠ 94 → h109 i = h i := fun i j83 j94 => (f109 i (by omega) (by omega)).trans (F91 i (by omega) (by omega))
          rw [xs_hs hR (p := k) (by omega), xe_tk (xs_hq hR (p := k) (by omega))]
          refine xi_iload_n (q := 113) dX9_count_112 rfl rfl ?_
          refine xi_iconst (x := 1) (q := 114) dX9_count_113 (by decide) rfl ?_
          refine xi_isub (q := 115) dX9_count_114 rfl ?_
          refine xv_cS2 (q := 118) xm_X9_isOf ln_X9_268 dX9_count_115 ⟨(Nat.le_of_ble_eq_true rfl), (Nat.le_of_ble_eq_true rfl)⟩ (Nat.le_of_ble_eq_true rfl) ⟨rfl, rfl⟩ rfl (Nat.zero_le _) (Nat.zero_le _) ?_
          refine ⟨_, _, rfl, ?_⟩
          refine xi_if_eq (q := 121) (q2 := 125) dX9_count_118 (by decide) rfl (fun c_118 => ?_) (fun c_118 => ?_)
          · skip
            refine xi_iconst (x := 0) (q := 126) dX9_count_125 (by decide) rfl ?_
            refine xi_iadd (q := 127) dX9_count_126 rfl ?_
            refine xi_istore_n (q := 128) dX9_count_127 (Nat.le_of_ble_eq_true rfl) rfl ?_
            refine xi_iinc (y := nI (k + 1)) (q := 131) dX9_count_128 rfl (xn_inc k) (Nat.le_of_ble_eq_true rfl) rfl ?_
            refine xi_goto (q := 91) dX9_count_131 (by decide) ?_
            rw [xs_psS (xs_ck σ (3 - 1)) k (xn_ckB y104 (xn_b0 c_118))]
            refine xv_weakS (lv' := [(0, .ref 83), (1, .int 3), (2, .int (xs_ps (xs_ck σ (3 - 1)) (k + 1))), (3, .int (nI (k + 1)))]) ⟨rfl, rfl, rfl, rfl, trivial⟩ ?_
            exact ih91 _ (by omega) ⟨_, _, p109, q109, trivial, fun i _ _ => (Fh109 i (by omega) (by omega))⟩
          · skip
            refine xi_iconst (x := 1) (q := 122) dX9_count_121 (by decide) rfl ?_
            refine xi_goto (q := 126) dX9_count_122 (by decide) ?_
            refine xi_iadd (q := 127) dX9_count_126 rfl ?_
            refine xi_istore_n (q := 128) dX9_count_127 (Nat.le_of_ble_eq_true rfl) rfl ?_
            refine xi_iinc (y := nI (k + 1)) (q := 131) dX9_count_128 rfl (xn_inc k) (Nat.le_of_ble_eq_true rfl) rfl ?_
            refine xi_goto (q := 91) dX9_count_131 (by decide) ?_
            rw [xs_psS (xs_ck σ (3 - 1)) k (xn_ckC y104 (xn_b1 c_118))]
            refine xv_weakS (lv' := [(0, .ref 83), (1, .int 3), (2, .int (xs_ps (xs_ck σ (3 - 1)) (k + 1))), (3, .int (nI (k + 1)))]) ⟨rfl, rfl, rfl, rfl, trivial⟩ ?_
            exact ih91 _ (by omega) ⟨_, _, p109, q109, trivial, fun i _ _ => (Fh109 i (by omega) (by omega))⟩
    · refine xi_aload_n (q := 1) dX9_count_0 rfl rfl ?_
      refine xi_iconst (x := 0) (q := 2) dX9_count_1 (by decide) rfl ?_
      refine xi_putf (q := 5) dX9_count_2 fl_X9_71 ⟨by omega, (xs_M83 hM)⟩ (Or.inl rfl) (fun _ => rfl) (fun _ => rfl) (Nat.le_of_ble_eq_true rfl) rfl ?_
      refine xi_iconst (x := 0) (q := 6) dX9_count_5 (by decide) rfl ?_
      refine xi_istore_n (q := 7) dX9_count_6 (Nat.le_of_ble_eq_true rfl) rfl ?_
      refine xi_iload_n (q := 8) dX9_count_7 rfl rfl ?_
      refine xi_tableIn (q := 89) dX9_count_8 (by decide) (by decide) rfl (by decide) ?_
      refine xi_iconst (x := 0) (q := 90) dX9_count_89 (by decide) rfl ?_
      refine xi_istore_n (q := 91) dX9_count_90 (Nat.le_of_ble_eq_true rfl) rfl ?_
      refine xv_weakS (lv' := [(0, .ref 83), (1, .int 4), (2, .int (xs_ps (xs_ck σ (4 - 1)) 0)), (3, .int (nI 0))]) ⟨rfl, rfl, rfl, rfl, trivial⟩ ?_
      refine xv_lpH (lv := fun k => [(0, .ref 83), (1, .int 4), (2, .int (xs_ps (xs_ck σ (4 - 1)) k)), (3, .int (nI k))]) (I := fun k hI => ∃ (dI : Int64) (g94 : Nat → Int32), hI 83 = xs_mo (upd (C 83) 0 0) dI ∧ hI 94 = xs_ia 48 g94 ∧ (True) ∧ ∀ i, i ≠ 83 → i ≠ 94 → hI i = h i) (N := 6) (fun k h91 hk I91 ih91 => ?_) 0 _ (by omega) ⟨_, _, ((va_up_self _ _ _).trans rfl), ((va_up_ne _ _ (by omega)).trans (xs_M94 hM)), trivial, fun i _ _ => ((va_up_ne _ _ (by omega)).trans (Eq.refl _))⟩
      show xv_V X mX9_count Post 0 0 91 [(0, .ref 83), (1, .int 4), (2, .int (xs_ps (xs_ck σ (4 - 1)) k)), (3, .int (nI k))] [] h91 n
      obtain ⟨d91, g94_91, p83_91, p94_91, x91, F91⟩ := I91
      refine xi_iload_n (q := 92) dX9_count_91 rfl rfl ?_
      refine xi_bipush (x := 6) (q := 94) dX9_count_92 (by decide) rfl ?_
      refine xi_icmp_ge (q := 97) (q2 := 134) dX9_count_94 (by decide) rfl (fun c_94 => ?_) (fun c_94 => ?_)
      · have hk2 : k = 6 := by have z : 6 ≤ k := xn_leN c_94 (by omega) (by omega); omega
        subst hk2
        refine xi_iload_n (q := 135) dX9_count_134 rfl rfl ?_
        refine xi_ret ⟨_, rfl, rfl, dX9_count_135⟩ (Nat.zero_le _) (Nat.zero_le _) ?_
        exact xs_finM (σ' := σ) hp (by simp only [xs_count, xs_onE, xs_onP, xs_fn, xs_an, Bool.not_false, Bool.not_true, Bool.true_or, Bool.false_or, Bool.and_true, Bool.true_and, Bool.and_false, Bool.false_and, Bool.false_eq_true, if_true, if_false, ↓reduceIte, (show xs_i 4 0 7 = true from by decide), eq_false (show ¬ (4 : Int32) = 0 from by decide), eq_false (show ¬ (4 : Int32) = 6 from by decide), eq_false (show ¬ (4 : Int32) = 7 from by decide)] <;> rfl) _ (xs_Mx (σ' := σ) hM hR (fa := (upd (C 83) 0 0)) p83_91 (fun j hj => (pk_un (by omega)).trans (rfl)) ((F91 88 (by omega) (by omega)).trans (xs_M88 hM)) (fun _ _ => rfl) p94_91 ((F91 95 (by omega) (by omega)).trans (xs_M95 hM)) ((F91 96 (by omega) (by omega)).trans (xs_M96 hM)) ((F91 97 (by omega) (by omega)).trans (xs_M97 hM)) ((F91 98 (by omega) (by omega)).trans (xs_M98 hM)) ((F91 99 (by omega) (by omega)).trans (xs_M99 hM)) (fun i i1 i2 i3 i4 => (F91 i (by omega) (by omega))) (fun _ _ _ => rfl) hR.2) (fun i hi => (F91 i (by omega) (by omega)))
      · have hk2 : k < 6 := xn_nleN c_94 (by omega) (by omega)
        refine xi_iload_n (q := 98) dX9_count_97 rfl rfl ?_
        refine xi_aload_n (q := 99) dX9_count_98 rfl rfl ?_
        refine xi_getf (q := 102) dX9_count_99 fl_X9_19 ⟨by omega, p83_91⟩ rfl rfl ?_
        refine xi_iload_n (q := 103) dX9_count_102 rfl rfl ?_
        refine xi_zald (q := 104) dX9_count_103 ⟨by omega, ((F91 87 (by omega) (by omega)).trans (xs_M87 hM))⟩ (xv_ixN (by omega) (by omega)) rfl ?_
        refine xi_if_eq (q := 107) (q2 := 125) dX9_count_104 (by decide) rfl (fun c_104 => ?_) (fun c_104 => ?_)
        · skip
          refine xi_iconst (x := 0) (q := 126) dX9_count_125 (by decide) rfl ?_
          refine xi_iadd (q := 127) dX9_count_126 rfl ?_
          refine xi_istore_n (q := 128) dX9_count_127 (Nat.le_of_ble_eq_true rfl) rfl ?_
          refine xi_iinc (y := nI (k + 1)) (q := 131) dX9_count_128 rfl (xn_inc k) (Nat.le_of_ble_eq_true rfl) rfl ?_
          refine xi_goto (q := 91) dX9_count_131 (by decide) ?_
          rw [xs_psS (xs_ck σ (4 - 1)) k (xn_ckA ((xs_ht hR (by omega)).symm.trans (by first | exact c_104 | exact Decidable.of_not_not c_104)))]
          refine xv_weakS (lv' := [(0, .ref 83), (1, .int 4), (2, .int (xs_ps (xs_ck σ (4 - 1)) (k + 1))), (3, .int (nI (k + 1)))]) ⟨rfl, rfl, rfl, rfl, trivial⟩ ?_
          exact ih91 _ (by omega) ⟨_, _, p83_91, p94_91, trivial, fun i _ _ => (F91 i (by omega) (by omega))⟩
        · have y104 : ¬ σ 6 k 0 = 0 := fun e => c_104 ((xs_ht hR (by omega)).trans e)
          refine xi_aload_n (q := 108) dX9_count_107 rfl rfl ?_
          refine xi_iload_n (q := 109) dX9_count_108 rfl rfl ?_
          refine xv_cV1 (q := 112) xm_X9_kindOf ln_X9_265 dX9_count_109 ⟨by omega, p83_91⟩ rfl ⟨(Nat.le_of_ble_eq_true rfl), (Nat.le_of_ble_eq_true rfl)⟩ (Nat.le_of_ble_eq_true rfl) ⟨rfl, rfl⟩ rfl (Nat.zero_le _) (Nat.zero_le _) ?_
          refine ⟨(upd (C 83) 0 0), d91, (C 88), k, _, rfl, ⟨p83_91, ((F91 88 (by omega) (by omega)).trans (xs_M88 hM)), ((F91 93 (by omega) (by omega)).trans (xs_M93 hM))⟩, by omega, by omega, (xe_ok (xs_hq hR (by omega)) (hV.2.2.2.1 k (by omega) y104).1), p94_91, fun h109 d109 r109 p109 q109 f109 => ?_⟩
          have Fh109 : ∀ i, i ≠ 83 → i ≠ 94 → h109 i = h i := fun i j83 j94 => (f109 i (by omega) (by omega)).trans (F91 i (by omega) (by omega))
          rw [xs_hs hR (p := k) (by omega), xe_tk (xs_hq hR (p := k) (by omega))]
          refine xi_iload_n (q := 113) dX9_count_112 rfl rfl ?_
          refine xi_iconst (x := 1) (q := 114) dX9_count_113 (by decide) rfl ?_
          refine xi_isub (q := 115) dX9_count_114 rfl ?_
          refine xv_cS2 (q := 118) xm_X9_isOf ln_X9_268 dX9_count_115 ⟨(Nat.le_of_ble_eq_true rfl), (Nat.le_of_ble_eq_true rfl)⟩ (Nat.le_of_ble_eq_true rfl) ⟨rfl, rfl⟩ rfl (Nat.zero_le _) (Nat.zero_le _) ?_
          refine ⟨_, _, rfl, ?_⟩
          refine xi_if_eq (q := 121) (q2 := 125) dX9_count_118 (by decide) rfl (fun c_118 => ?_) (fun c_118 => ?_)
          · skip
            refine xi_iconst (x := 0) (q := 126) dX9_count_125 (by decide) rfl ?_
            refine xi_iadd (q := 127) dX9_count_126 rfl ?_
            refine xi_istore_n (q := 128) dX9_count_127 (Nat.le_of_ble_eq_true rfl) rfl ?_
            refine xi_iinc (y := nI (k + 1)) (q := 131) dX9_count_128 rfl (xn_inc k) (Nat.le_of_ble_eq_true rfl) rfl ?_
            refine xi_goto (q := 91) dX9_count_131 (by decide) ?_
            rw [xs_psS (xs_ck σ (4 - 1)) k (xn_ckB y104 (xn_b0 c_118))]
            refine xv_weakS (lv' := [(0, .ref 83), (1, .int 4), (2, .int (xs_ps (xs_ck σ (4 - 1)) (k + 1))), (3, .int (nI (k + 1)))]) ⟨rfl, rfl, rfl, rfl, trivial⟩ ?_
            exact ih91 _ (by omega) ⟨_, _, p109, q109, trivial, fun i _ _ => (Fh109 i (by omega) (by omega))⟩
          · skip
            refine xi_iconst (x := 1) (q := 122) dX9_count_121 (by decide) rfl ?_
            refine xi_goto (q := 126) dX9_count_122 (by decide) ?_
            refine xi_iadd (q := 127) dX9_count_126 rfl ?_
            refine xi_istore_n (q := 128) dX9_count_127 (Nat.le_of_ble_eq_true rfl) rfl ?_
            refine xi_iinc (y := nI (k + 1)) (q := 131) dX9_count_128 rfl (xn_inc k) (Nat.le_of_ble_eq_true rfl) rfl ?_
            refine xi_goto (q := 91) dX9_count_131 (by decide) ?_
            rw [xs_psS (xs_ck σ (4 - 1)) k (xn_ckC y104 (xn_b1 c_118))]
            refine xv_weakS (lv' := [(0, .ref 83), (1, .int 4), (2, .int (xs_ps (xs_ck σ (4 - 1)) (k + 1))), (3, .int (nI (k + 1)))]) ⟨rfl, rfl, rfl, rfl, trivial⟩ ?_
            exact ih91 _ (by omega) ⟨_, _, p109, q109, trivial, fun i _ _ => (Fh109 i (by omega) (by omega))⟩
    · refine xi_aload_n (q := 1) dX9_count_0 rfl rfl ?_
      refine xi_iconst (x := 0) (q := 2) dX9_count_1 (by decide) rfl ?_
      refine xi_putf (q := 5) dX9_count_2 fl_X9_71 ⟨by omega, (xs_M83 hM)⟩ (Or.inl rfl) (fun _ => rfl) (fun _ => rfl) (Nat.le_of_ble_eq_true rfl) rfl ?_
      refine xi_iconst (x := 0) (q := 6) dX9_count_5 (by decide) rfl ?_
      refine xi_istore_n (q := 7) dX9_count_6 (Nat.le_of_ble_eq_true rfl) rfl ?_
      refine xi_iload_n (q := 8) dX9_count_7 rfl rfl ?_
      refine xi_tableIn (q := 89) dX9_count_8 (by decide) (by decide) rfl (by decide) ?_
      refine xi_iconst (x := 0) (q := 90) dX9_count_89 (by decide) rfl ?_
      refine xi_istore_n (q := 91) dX9_count_90 (Nat.le_of_ble_eq_true rfl) rfl ?_
      refine xv_weakS (lv' := [(0, .ref 83), (1, .int 5), (2, .int (xs_ps (xs_ck σ (5 - 1)) 0)), (3, .int (nI 0))]) ⟨rfl, rfl, rfl, rfl, trivial⟩ ?_
      refine xv_lpH (lv := fun k => [(0, .ref 83), (1, .int 5), (2, .int (xs_ps (xs_ck σ (5 - 1)) k)), (3, .int (nI k))]) (I := fun k hI => ∃ (dI : Int64) (g94 : Nat → Int32), hI 83 = xs_mo (upd (C 83) 0 0) dI ∧ hI 94 = xs_ia 48 g94 ∧ (True) ∧ ∀ i, i ≠ 83 → i ≠ 94 → hI i = h i) (N := 6) (fun k h91 hk I91 ih91 => ?_) 0 _ (by omega) ⟨_, _, ((va_up_self _ _ _).trans rfl), ((va_up_ne _ _ (by omega)).trans (xs_M94 hM)), trivial, fun i _ _ => ((va_up_ne _ _ (by omega)).trans (Eq.refl _))⟩
      show xv_V X mX9_count Post 0 0 91 [(0, .ref 83), (1, .int 5), (2, .int (xs_ps (xs_ck σ (5 - 1)) k)), (3, .int (nI k))] [] h91 n
      obtain ⟨d91, g94_91, p83_91, p94_91, x91, F91⟩ := I91
      refine xi_iload_n (q := 92) dX9_count_91 rfl rfl ?_
      refine xi_bipush (x := 6) (q := 94) dX9_count_92 (by decide) rfl ?_
      refine xi_icmp_ge (q := 97) (q2 := 134) dX9_count_94 (by decide) rfl (fun c_94 => ?_) (fun c_94 => ?_)
      · have hk2 : k = 6 := by have z : 6 ≤ k := xn_leN c_94 (by omega) (by omega); omega
        subst hk2
        refine xi_iload_n (q := 135) dX9_count_134 rfl rfl ?_
        refine xi_ret ⟨_, rfl, rfl, dX9_count_135⟩ (Nat.zero_le _) (Nat.zero_le _) ?_
        exact xs_finM (σ' := σ) hp (by simp only [xs_count, xs_onE, xs_onP, xs_fn, xs_an, Bool.not_false, Bool.not_true, Bool.true_or, Bool.false_or, Bool.and_true, Bool.true_and, Bool.and_false, Bool.false_and, Bool.false_eq_true, if_true, if_false, ↓reduceIte, (show xs_i 5 0 7 = true from by decide), eq_false (show ¬ (5 : Int32) = 0 from by decide), eq_false (show ¬ (5 : Int32) = 6 from by decide), eq_false (show ¬ (5 : Int32) = 7 from by decide)] <;> rfl) _ (xs_Mx (σ' := σ) hM hR (fa := (upd (C 83) 0 0)) p83_91 (fun j hj => (pk_un (by omega)).trans (rfl)) ((F91 88 (by omega) (by omega)).trans (xs_M88 hM)) (fun _ _ => rfl) p94_91 ((F91 95 (by omega) (by omega)).trans (xs_M95 hM)) ((F91 96 (by omega) (by omega)).trans (xs_M96 hM)) ((F91 97 (by omega) (by omega)).trans (xs_M97 hM)) ((F91 98 (by omega) (by omega)).trans (xs_M98 hM)) ((F91 99 (by omega) (by omega)).trans (xs_M99 hM)) (fun i i1 i2 i3 i4 => (F91 i (by omega) (by omega))) (fun _ _ _ => rfl) hR.2) (fun i hi => (F91 i (by omega) (by omega)))
      · have hk2 : k < 6 := xn_nleN c_94 (by omega) (by omega)
        refine xi_iload_n (q := 98) dX9_count_97 rfl rfl ?_
        refine xi_aload_n (q := 99) dX9_count_98 rfl rfl ?_
        refine xi_getf (q := 102) dX9_count_99 fl_X9_19 ⟨by omega, p83_91⟩ rfl rfl ?_
        refine xi_iload_n (q := 103) dX9_count_102 rfl rfl ?_
        refine xi_zald (q := 104) dX9_count_103 ⟨by omega, ((F91 87 (by omega) (by omega)).trans (xs_M87 hM))⟩ (xv_ixN (by omega) (by omega)) rfl ?_
        refine xi_if_eq (q := 107) (q2 := 125) dX9_count_104 (by decide) rfl (fun c_104 => ?_) (fun c_104 => ?_)
        · skip
          refine xi_iconst (x := 0) (q := 126) dX9_count_125 (by decide) rfl ?_
          refine xi_iadd (q := 127) dX9_count_126 rfl ?_
          refine xi_istore_n (q := 128) dX9_count_127 (Nat.le_of_ble_eq_true rfl) rfl ?_
          refine xi_iinc (y := nI (k + 1)) (q := 131) dX9_count_128 rfl (xn_inc k) (Nat.le_of_ble_eq_true rfl) rfl ?_
          refine xi_goto (q := 91) dX9_count_131 (by decide) ?_
          rw [xs_psS (xs_ck σ (5 - 1)) k (xn_ckA ((xs_ht hR (by omega)).symm.trans (by first | exact c_104 | exact Decidable.of_not_not c_104)))]
          refine xv_weakS (lv' := [(0, .ref 83), (1, .int 5), (2, .int (xs_ps (xs_ck σ (5 - 1)) (k + 1))), (3, .int (nI (k + 1)))]) ⟨rfl, rfl, rfl, rfl, trivial⟩ ?_
          exact ih91 _ (by omega) ⟨_, _, p83_91, p94_91, trivial, fun i _ _ => (F91 i (by omega) (by omega))⟩
        · have y104 : ¬ σ 6 k 0 = 0 := fun e => c_104 ((xs_ht hR (by omega)).trans e)
          refine xi_aload_n (q := 108) dX9_count_107 rfl rfl ?_
          refine xi_iload_n (q := 109) dX9_count_108 rfl rfl ?_
          refine xv_cV1 (q := 112) xm_X9_kindOf ln_X9_265 dX9_count_109 ⟨by omega, p83_91⟩ rfl ⟨(Nat.le_of_ble_eq_true rfl), (Nat.le_of_ble_eq_true rfl)⟩ (Nat.le_of_ble_eq_true rfl) ⟨rfl, rfl⟩ rfl (Nat.zero_le _) (Nat.zero_le _) ?_
          refine ⟨(upd (C 83) 0 0), d91, (C 88), k, _, rfl, ⟨p83_91, ((F91 88 (by omega) (by omega)).trans (xs_M88 hM)), ((F91 93 (by omega) (by omega)).trans (xs_M93 hM))⟩, by omega, by omega, (xe_ok (xs_hq hR (by omega)) (hV.2.2.2.1 k (by omega) y104).1), p94_91, fun h109 d109 r109 p109 q109 f109 => ?_⟩
          have Fh109 : ∀ i, i ≠ 83 → i ≠ 94 → h109 i = h i := fun i j83 j94 => (f109 i (by omega) (by omega)).trans (F91 i (by omega) (by omega))
          rw [xs_hs hR (p := k) (by omega), xe_tk (xs_hq hR (p := k) (by omega))]
          refine xi_iload_n (q := 113) dX9_count_112 rfl rfl ?_
          refine xi_iconst (x := 1) (q := 114) dX9_count_113 (by decide) rfl ?_
          refine xi_isub (q := 115) dX9_count_114 rfl ?_
          refine xv_cS2 (q := 118) xm_X9_isOf ln_X9_268 dX9_count_115 ⟨(Nat.le_of_ble_eq_true rfl), (Nat.le_of_ble_eq_true rfl)⟩ (Nat.le_of_ble_eq_true rfl) ⟨rfl, rfl⟩ rfl (Nat.zero_le _) (Nat.zero_le _) ?_
          refine ⟨_, _, rfl, ?_⟩
          refine xi_if_eq (q := 121) (q2 := 125) dX9_count_118 (by decide) rfl (fun c_118 => ?_) (fun c_118 => ?_)
          · skip
            refine xi_iconst (x := 0) (q := 126) dX9_count_125 (by decide) rfl ?_
            refine xi_iadd (q := 127) dX9_count_126 rfl ?_
            refine xi_istore_n (q := 128) dX9_count_127 (Nat.le_of_ble_eq_true rfl) rfl ?_
            refine xi_iinc (y := nI (k + 1)) (q := 131) dX9_count_128 rfl (xn_inc k) (Nat.le_of_ble_eq_true rfl) rfl ?_
            refine xi_goto (q := 91) dX9_count_131 (by decide) ?_
            rw [xs_psS (xs_ck σ (5 - 1)) k (xn_ckB y104 (xn_b0 c_118))]
            refine xv_weakS (lv' := [(0, .ref 83), (1, .int 5), (2, .int (xs_ps (xs_ck σ (5 - 1)) (k + 1))), (3, .int (nI (k + 1)))]) ⟨rfl, rfl, rfl, rfl, trivial⟩ ?_
            exact ih91 _ (by omega) ⟨_, _, p109, q109, trivial, fun i _ _ => (Fh109 i (by omega) (by omega))⟩
          · skip
            refine xi_iconst (x := 1) (q := 122) dX9_count_121 (by decide) rfl ?_
            refine xi_goto (q := 126) dX9_count_122 (by decide) ?_
            refine xi_iadd (q := 127) dX9_count_126 rfl ?_
            refine xi_istore_n (q := 128) dX9_count_127 (Nat.le_of_ble_eq_true rfl) rfl ?_
            refine xi_iinc (y := nI (k + 1)) (q := 131) dX9_count_128 rfl (xn_inc k) (Nat.le_of_ble_eq_true rfl) rfl ?_
            refine xi_goto (q := 91) dX9_count_131 (by decide) ?_
            rw [xs_psS (xs_ck σ (5 - 1)) k (xn_ckC y104 (xn_b1 c_118))]
            refine xv_weakS (lv' := [(0, .ref 83), (1, .int 5), (2, .int (xs_ps (xs_ck σ (5 - 1)) (k + 1))), (3, .int (nI (k + 1)))]) ⟨rfl, rfl, rfl, rfl, trivial⟩ ?_
            exact ih91 _ (by omega) ⟨_, _, p109, q109, trivial, fun i _ _ => (Fh109 i (by omega) (by omega))⟩
    · refine xi_aload_n (q := 1) dX9_count_0 rfl rfl ?_
      refine xi_iconst (x := 0) (q := 2) dX9_count_1 (by decide) rfl ?_
      refine xi_putf (q := 5) dX9_count_2 fl_X9_71 ⟨by omega, (xs_M83 hM)⟩ (Or.inl rfl) (fun _ => rfl) (fun _ => rfl) (Nat.le_of_ble_eq_true rfl) rfl ?_
      refine xi_iconst (x := 0) (q := 6) dX9_count_5 (by decide) rfl ?_
      refine xi_istore_n (q := 7) dX9_count_6 (Nat.le_of_ble_eq_true rfl) rfl ?_
      refine xi_iload_n (q := 8) dX9_count_7 rfl rfl ?_
      refine xi_tableIn (q := 136) dX9_count_8 (by decide) (by decide) rfl (by decide) ?_
      refine xi_iconst (x := 0) (q := 137) dX9_count_136 (by decide) rfl ?_
      refine xi_istore_n (q := 138) dX9_count_137 (Nat.le_of_ble_eq_true rfl) rfl ?_
      refine xv_weakS (lv' := [(0, .ref 83), (1, .int 6), (2, .int (xs_ps (xs_c6 σ) 0)), (3, .int (nI 0))]) ⟨rfl, rfl, rfl, rfl, trivial⟩ ?_
      refine xv_lp (lv := fun k => [(0, .ref 83), (1, .int 6), (2, .int (xs_ps (xs_c6 σ) k)), (3, .int (nI k))]) (N := 6) (k0 := 0) (by omega) (fun k hk ih138 => ?_)
      show xv_V X mX9_count Post 0 0 138 [(0, .ref 83), (1, .int 6), (2, .int (xs_ps (xs_c6 σ) k)), (3, .int (nI k))] [] _ n
      refine xi_iload_n (q := 139) dX9_count_138 rfl rfl ?_
      refine xi_bipush (x := 6) (q := 141) dX9_count_139 (by decide) rfl ?_
      refine xi_icmp_ge (q := 144) (q2 := 167) dX9_count_141 (by decide) rfl (fun c_141 => ?_) (fun c_141 => ?_)
      · have hk2 : k = 6 := by have z : 6 ≤ k := xn_leN c_141 (by omega) (by omega); omega
        subst hk2
        refine xi_iload_n (q := 168) dX9_count_167 rfl rfl ?_
        refine xi_ret ⟨_, rfl, rfl, dX9_count_168⟩ (Nat.zero_le _) (Nat.zero_le _) ?_
        exact xs_finM (σ' := σ) hp (by simp only [xs_count, xs_onE, xs_onP, xs_fn, xs_an, Bool.not_false, Bool.not_true, Bool.true_or, Bool.false_or, Bool.and_true, Bool.true_and, Bool.and_false, Bool.false_and, Bool.false_eq_true, if_true, if_false, ↓reduceIte, (show xs_i 6 0 7 = true from by decide), eq_false (show ¬ (6 : Int32) = 0 from by decide), eq_true (show (6 : Int32) = 6 from rfl), eq_false (show ¬ (6 : Int32) = 7 from by decide)] <;> rfl) _ (xs_Mx (σ' := σ) hM hR (fa := (upd (C 83) 0 0)) ((va_up_self _ _ _).trans rfl) (fun j hj => (pk_un (by omega)).trans (rfl)) ((va_up_ne _ _ (by omega)).trans (xs_M88 hM)) (fun _ _ => rfl) ((va_up_ne _ _ (by omega)).trans (xs_M94 hM)) ((va_up_ne _ _ (by omega)).trans (xs_M95 hM)) ((va_up_ne _ _ (by omega)).trans (xs_M96 hM)) ((va_up_ne _ _ (by omega)).trans (xs_M97 hM)) ((va_up_ne _ _ (by omega)).trans (xs_M98 hM)) ((va_up_ne _ _ (by omega)).trans (xs_M99 hM)) (fun i i1 i2 i3 i4 => ((va_up_ne _ _ (by omega)).trans (Eq.refl _))) (fun _ _ _ => rfl) hR.2) (fun i hi => ((va_up_ne _ _ (by omega)).trans (Eq.refl _)))
      · have hk2 : k < 6 := xn_nleN c_141 (by omega) (by omega)
        refine xi_iload_n (q := 145) dX9_count_144 rfl rfl ?_
        refine xi_aload_n (q := 146) dX9_count_145 rfl rfl ?_
        refine xi_getf (q := 149) dX9_count_146 fl_X9_26 (xv_self (by omega)) rfl rfl ?_
        refine xi_iload_n (q := 150) dX9_count_149 rfl rfl ?_
        refine xi_zald (q := 151) dX9_count_150 (xv_keep (by omega) ⟨by omega, (xs_M89 hM)⟩) (xv_ixN (by omega) (by omega)) rfl ?_
        refine xi_if_eq (q := 154) (q2 := 158) dX9_count_151 (by decide) rfl (fun c_151 => ?_) (fun c_151 => ?_)
        · skip
          refine xi_iconst (x := 0) (q := 159) dX9_count_158 (by decide) rfl ?_
          refine xi_iadd (q := 160) dX9_count_159 rfl ?_
          refine xi_istore_n (q := 161) dX9_count_160 (Nat.le_of_ble_eq_true rfl) rfl ?_
          refine xi_iinc (y := nI (k + 1)) (q := 164) dX9_count_161 rfl (xn_inc k) (Nat.le_of_ble_eq_true rfl) rfl ?_
          refine xi_goto (q := 138) dX9_count_164 (by decide) ?_
          rw [xs_psS (xs_c6 σ) k (xn_c60 ((hR.1.2.2.1 k (by omega)).1.symm.trans (by first | exact c_151 | exact Decidable.of_not_not c_151)))]
          refine xv_weakS (lv' := [(0, .ref 83), (1, .int 6), (2, .int (xs_ps (xs_c6 σ) (k + 1))), (3, .int (nI (k + 1)))]) ⟨rfl, rfl, rfl, rfl, trivial⟩ ?_
          exact ih138 (by omega)
        · skip
          refine xi_iconst (x := 1) (q := 155) dX9_count_154 (by decide) rfl ?_
          refine xi_goto (q := 159) dX9_count_155 (by decide) ?_
          refine xi_iadd (q := 160) dX9_count_159 rfl ?_
          refine xi_istore_n (q := 161) dX9_count_160 (Nat.le_of_ble_eq_true rfl) rfl ?_
          refine xi_iinc (y := nI (k + 1)) (q := 164) dX9_count_161 rfl (xn_inc k) (Nat.le_of_ble_eq_true rfl) rfl ?_
          refine xi_goto (q := 138) dX9_count_164 (by decide) ?_
          rw [xs_psS (xs_c6 σ) k (xn_c61 (fun e => c_151 ((hR.1.2.2.1 k (by omega)).1.trans e)))]
          refine xv_weakS (lv' := [(0, .ref 83), (1, .int 6), (2, .int (xs_ps (xs_c6 σ) (k + 1))), (3, .int (nI (k + 1)))]) ⟨rfl, rfl, rfl, rfl, trivial⟩ ?_
          exact ih138 (by omega)
    · refine xi_aload_n (q := 1) dX9_count_0 rfl rfl ?_
      refine xi_iconst (x := 0) (q := 2) dX9_count_1 (by decide) rfl ?_
      refine xi_putf (q := 5) dX9_count_2 fl_X9_71 ⟨by omega, (xs_M83 hM)⟩ (Or.inl rfl) (fun _ => rfl) (fun _ => rfl) (Nat.le_of_ble_eq_true rfl) rfl ?_
      refine xi_iconst (x := 0) (q := 6) dX9_count_5 (by decide) rfl ?_
      refine xi_istore_n (q := 7) dX9_count_6 (Nat.le_of_ble_eq_true rfl) rfl ?_
      refine xi_iload_n (q := 8) dX9_count_7 rfl rfl ?_
      refine xi_tableIn (q := 169) dX9_count_8 (by decide) (by decide) rfl (by decide) ?_
      refine xi_aload_n (q := 170) dX9_count_169 rfl rfl ?_
      refine xi_getf (q := 173) dX9_count_170 fl_X9_243 (xv_self (by omega)) rfl rfl ?_
      refine xi_ret ⟨_, rfl, rfl, dX9_count_173⟩ (Nat.zero_le _) (Nat.zero_le _) ?_
      exact xs_finM (σ' := σ) hp (by rw [hR.1.2.2.2.2.1]; simp only [xs_count, xs_onE, xs_onP, xs_fn, xs_an, Bool.not_false, Bool.not_true, Bool.true_or, Bool.false_or, Bool.and_true, Bool.true_and, Bool.and_false, Bool.false_and, Bool.false_eq_true, if_true, if_false, ↓reduceIte, (show xs_i 7 0 7 = true from by decide), eq_false (show ¬ (7 : Int32) = 0 from by decide), eq_false (show ¬ (7 : Int32) = 6 from by decide), eq_true (show (7 : Int32) = 7 from rfl)] <;> rfl) _ (xs_Mx (σ' := σ) hM hR (fa := (upd (C 83) 0 0)) ((va_up_self _ _ _).trans rfl) (fun j hj => (pk_un (by omega)).trans (rfl)) ((va_up_ne _ _ (by omega)).trans (xs_M88 hM)) (fun _ _ => rfl) ((va_up_ne _ _ (by omega)).trans (xs_M94 hM)) ((va_up_ne _ _ (by omega)).trans (xs_M95 hM)) ((va_up_ne _ _ (by omega)).trans (xs_M96 hM)) ((va_up_ne _ _ (by omega)).trans (xs_M97 hM)) ((va_up_ne _ _ (by omega)).trans (xs_M98 hM)) ((va_up_ne _ _ (by omega)).trans (xs_M99 hM)) (fun i i1 i2 i3 i4 => ((va_up_ne _ _ (by omega)).trans (Eq.refl _))) (fun _ _ _ => rfl) hR.2) (fun i hi => ((va_up_ne _ _ (by omega)).trans (Eq.refl _)))
  · refine xi_aload_n (q := 1) dX9_count_0 rfl rfl ?_
    refine xi_iconst (x := 0) (q := 2) dX9_count_1 (by decide) rfl ?_
    refine xi_putf (q := 5) dX9_count_2 fl_X9_71 ⟨by omega, (xs_M83 hM)⟩ (Or.inl rfl) (fun _ => rfl) (fun _ => rfl) (Nat.le_of_ble_eq_true rfl) rfl ?_
    refine xi_iconst (x := 0) (q := 6) dX9_count_5 (by decide) rfl ?_
    refine xi_istore_n (q := 7) dX9_count_6 (Nat.le_of_ble_eq_true rfl) rfl ?_
    refine xi_iload_n (q := 8) dX9_count_7 rfl rfl ?_
    refine xi_tableOut (q := 174) dX9_count_8 (by
      have z : ¬ (0 ≤ w ∧ w ≤ 7) := fun y => hr (decide_eq_true y)
      rw [xn_le, xn_le, show (0 : Int32).toInt = 0 from rfl, show (7 : Int32).toInt = 7 from rfl] at z
      omega) (by decide) ?_
    refine xi_ldc (q := 176) dX9_count_174 kc_X9_91 rfl ?_
    refine xi_ret ⟨_, rfl, rfl, dX9_count_176⟩ (Nat.zero_le _) (Nat.zero_le _) ?_
    exact xs_finM (σ' := σ) hp (by simp only [xs_count, xs_onE, xs_onP, xs_fn, xs_an, Bool.not_false, Bool.not_true, Bool.true_or, Bool.false_or, Bool.and_true, Bool.true_and, Bool.and_false, Bool.false_and, Bool.false_eq_true, if_true, if_false, ↓reduceIte, eq_false hr] <;> rfl) _ (xs_Mx (σ' := σ) hM hR (fa := (upd (C 83) 0 0)) ((va_up_self _ _ _).trans rfl) (fun j hj => (pk_un (by omega)).trans (rfl)) ((va_up_ne _ _ (by omega)).trans (xs_M88 hM)) (fun _ _ => rfl) ((va_up_ne _ _ (by omega)).trans (xs_M94 hM)) ((va_up_ne _ _ (by omega)).trans (xs_M95 hM)) ((va_up_ne _ _ (by omega)).trans (xs_M96 hM)) ((va_up_ne _ _ (by omega)).trans (xs_M97 hM)) ((va_up_ne _ _ (by omega)).trans (xs_M98 hM)) ((va_up_ne _ _ (by omega)).trans (xs_M99 hM)) (fun i i1 i2 i3 i4 => ((va_up_ne _ _ (by omega)).trans (Eq.refl _))) (fun _ _ _ => rfl) hR.2) (fun i hi => ((va_up_ne _ _ (by omega)).trans (Eq.refl _)))

