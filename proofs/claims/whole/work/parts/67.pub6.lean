theorem xn_boolb {b : Bool} (h : ¬ (if b = true then (1 : Int32) else 0) = 0) : b = true := xn_b1 h
def xs_find1 (σ : xs_Sg) (p m b s i : Int32) : Int32 × xs_Sg := if (xs_i p 0 5 && (xs_i m (-6) 6 && (xs_i b 0 2000 && xs_i s 0 7))) = true then (if σ 0 s.toNatClampNeg 0 = 0 then xs_fn σ 1 else if σ 6 p.toNatClampNeg 0 = 0 then xs_fn σ 1 else if xs_has i 48 (σ 2 s.toNatClampNeg 0) = true then (if xs_all (fun t => decide (-1 ≤ σ 3 s.toNatClampNeg (i.toNatClampNeg + t)) && decide (σ 3 s.toNatClampNeg (i.toNatClampNeg + t) ≤ 5000)) 48 = true then (xs_ps (xs_rd1 (fun t => σ 3 s.toNatClampNeg (i.toNatClampNeg + t))) 48, xs_fd (xs_ca σ p.toNatClampNeg 1 m b (fun t => σ 3 s.toNatClampNeg (i.toNatClampNeg + t))) 0) else (-1000001, σ)) else xs_fn σ 2) else (-1000001, σ)
set_option maxRecDepth 20000 in
set_option maxHeartbeats 2000000 in
/-- find -/
theorem xm_X8_find : xv_K yX8_find mX8_find (fun as h n Post => ∃ (σ : xs_Sg) (p : Int32) (m : Int32) (b : Int32) (s : Int32) (i : Int32), as = [.ref 0, .int p, .int m, .int b, .int s, .int i] ∧ (xs_S h σ) ∧ (83 ≤ n) ∧ (xs_V σ) ∧ xs_D h n Post (xs_find1 σ p m b s i)) := by
  refine xv_entry (by decide +kernel) rfl (fun h => absurd h (by decide)) ?_
  rintro X _ h n Post ⟨σ, p, m, b, s, i, rfl, hS, h83, hV, hp⟩
  refine ⟨Nat.le_of_ble_eq_true rfl, ?_⟩
  show xv_V X mX8_find Post 0 0 0 [(0, .ref 0), (1, .int p), (2, .int m), (3, .int b), (4, .int s), (5, .int i)] [] h n
  refine xi_iload_n (q := 1) dX8_find_0 rfl rfl ?_
  refine xv_cS1 (q := 4) xm_X8_isPlace ln_X8_125 dX8_find_1 ⟨(Nat.le_of_ble_eq_true rfl), (Nat.le_of_ble_eq_true rfl)⟩ (Nat.le_of_ble_eq_true rfl) ⟨rfl, rfl⟩ rfl (Nat.zero_le _) (Nat.zero_le _) ?_
  refine ⟨_, rfl, ?_⟩
  refine xi_if_eq (q := 7) (q2 := 32) dX8_find_4 (by decide) rfl (fun c_4 => ?_) (fun c_4 => ?_)
  · have g_4 : xs_i p 0 5 = false := decide_eq_false (xn_b0 c_4)
    refine xi_ldc (q := 34) dX8_find_32 kc_X8_81 rfl ?_
    refine xi_ret ⟨_, rfl, rfl, dX8_find_34⟩ (Nat.zero_le _) (Nat.zero_le _) ?_
    exact xs_fin hp (by simp only [xs_find1, xs_onE, xs_onP, xs_fn, xs_an, Bool.not_false, Bool.not_true, Bool.true_or, Bool.false_or, Bool.and_true, Bool.true_and, Bool.and_false, Bool.false_and, Bool.false_eq_true, if_true, if_false, ↓reduceIte, g_4]) _ hS (fun i hi => rfl)
  · have g_4 : xs_i p 0 5 = true := decide_eq_true (xn_b1 c_4)
    obtain ⟨kp, hkp, rfl⟩ := xn_pk (m := 5) (by omega) (xn_b1 c_4)
    refine xi_iload_n (q := 8) dX8_find_7 rfl rfl ?_
    refine xv_cS1 (q := 11) xm_X8_isNotch ln_X8_166 dX8_find_8 ⟨(Nat.le_of_ble_eq_true rfl), (Nat.le_of_ble_eq_true rfl)⟩ (Nat.le_of_ble_eq_true rfl) ⟨rfl, rfl⟩ rfl (Nat.zero_le _) (Nat.zero_le _) ?_
    refine ⟨_, rfl, ?_⟩
    refine xi_if_eq (q := 14) (q2 := 32) dX8_find_11 (by decide) rfl (fun c_11 => ?_) (fun c_11 => ?_)
    · have g_11 : xs_i m (-6) 6 = false := decide_eq_false (xn_b0 c_11)
      refine xi_ldc (q := 34) dX8_find_32 kc_X8_81 rfl ?_
      refine xi_ret ⟨_, rfl, rfl, dX8_find_34⟩ (Nat.zero_le _) (Nat.zero_le _) ?_
      exact xs_fin hp (by simp only [xs_find1, xs_onE, xs_onP, xs_fn, xs_an, Bool.not_false, Bool.not_true, Bool.true_or, Bool.false_or, Bool.and_true, Bool.true_and, Bool.and_false, Bool.false_and, Bool.false_eq_true, if_true, if_false, ↓reduceIte, g_4, g_11, xs_kk0 (k := kp) (by omega)]) _ hS (fun i hi => rfl)
    · have g_11 : xs_i m (-6) 6 = true := decide_eq_true (xn_b1 c_11)
      refine xi_iload_n (q := 15) dX8_find_14 rfl rfl ?_
      refine xv_cS1 (q := 18) xm_X8_isBoiler ln_X8_204 dX8_find_15 ⟨(Nat.le_of_ble_eq_true rfl), (Nat.le_of_ble_eq_true rfl)⟩ (Nat.le_of_ble_eq_true rfl) ⟨rfl, rfl⟩ rfl (Nat.zero_le _) (Nat.zero_le _) ?_
      refine ⟨_, rfl, ?_⟩
      refine xi_if_eq (q := 21) (q2 := 32) dX8_find_18 (by decide) rfl (fun c_18 => ?_) (fun c_18 => ?_)
      · have g_18 : xs_i b 0 2000 = false := decide_eq_false (xn_b0 c_18)
        refine xi_ldc (q := 34) dX8_find_32 kc_X8_81 rfl ?_
        refine xi_ret ⟨_, rfl, rfl, dX8_find_34⟩ (Nat.zero_le _) (Nat.zero_le _) ?_
        exact xs_fin hp (by simp only [xs_find1, xs_onE, xs_onP, xs_fn, xs_an, Bool.not_false, Bool.not_true, Bool.true_or, Bool.false_or, Bool.and_true, Bool.true_and, Bool.and_false, Bool.false_and, Bool.false_eq_true, if_true, if_false, ↓reduceIte, g_4, g_11, g_18, xs_kk0 (k := kp) (by omega)]) _ hS (fun i hi => rfl)
      · have g_18 : xs_i b 0 2000 = true := decide_eq_true (xn_b1 c_18)
        refine xi_iload (q := 23) dX8_find_21 rfl rfl ?_
        refine xi_iconst (x := 0) (q := 24) dX8_find_23 (by decide) rfl ?_
        refine xi_bipush (x := 7) (q := 26) dX8_find_24 (by decide) rfl ?_
        refine xv_cS3 (q := 29) xm_X8_within ln_X8_77 dX8_find_26 ⟨(Nat.le_of_ble_eq_true rfl), (Nat.le_of_ble_eq_true rfl)⟩ (Nat.le_of_ble_eq_true rfl) ⟨rfl, rfl⟩ rfl (Nat.zero_le _) (Nat.zero_le _) ?_
        refine ⟨_, _, _, rfl, ?_⟩
        refine xi_if_ne (q := 32) (q2 := 35) dX8_find_29 (by decide) rfl (fun c_29 => ?_) (fun c_29 => ?_)
        · have g_29 : xs_i s 0 7 = true := decide_eq_true (xn_b1 c_29)
          obtain ⟨ks, hks, rfl⟩ := xn_pk (m := 7) (by omega) (xn_b1 c_29)
          refine xi_aload_n (q := 36) dX8_find_35 rfl rfl ?_
          refine xi_iload (q := 38) dX8_find_36 rfl rfl ?_
          refine xv_cV1 (q := 41) xm_X8_sheetAt ln_X8_93 dX8_find_38 ⟨by omega, hS.1.1⟩ rfl ⟨(Nat.le_of_ble_eq_true rfl), (Nat.le_of_ble_eq_true rfl)⟩ (Nat.le_of_ble_eq_true rfl) ⟨rfl, rfl⟩ rfl (Nat.zero_le _) (Nat.zero_le _) ?_
          refine ⟨_, ks, rfl, hS, by omega, by omega, fun hE38 => ?_, fun hE38 => ?_⟩
          · skip
            refine xi_astore (q := 43) dX8_find_41 (Nat.le_of_ble_eq_true rfl) rfl ?_
            refine xi_aload_n (q := 44) dX8_find_43 rfl rfl ?_
            refine xi_iload_n (q := 45) dX8_find_44 rfl rfl ?_
            refine xv_cV1 (q := 48) xm_X8_engineAt ln_X8_142 dX8_find_45 ⟨by omega, hS.1.1⟩ rfl ⟨(Nat.le_of_ble_eq_true rfl), (Nat.le_of_ble_eq_true rfl)⟩ (Nat.le_of_ble_eq_true rfl) ⟨rfl, rfl⟩ rfl (Nat.zero_le _) (Nat.zero_le _) ?_
            refine ⟨_, kp, rfl, hS, by omega, by omega, fun hE45 => ?_, fun hE45 => ?_⟩
            · skip
              refine xi_ifnull_r (q := 51) dX8_find_48 rfl ?_
              refine xi_aload (q := 53) dX8_find_51 rfl rfl ?_
              refine xi_ifnonnull_r (q := 62) dX8_find_53 (by decide) ?_
              refine xi_aload (q := 64) dX8_find_62 rfl rfl ?_
              refine xi_iload (q := 66) dX8_find_64 rfl rfl ?_
              refine xi_bipush (x := 48) (q := 68) dX8_find_66 (by decide) rfl ?_
              refine xv_cV2 (q := 71) xm_X7_has ln_X8_97 dX8_find_68 ⟨by omega, (hS.2.1 ks (by omega)).1⟩ rfl ⟨(Nat.le_of_ble_eq_true rfl), (Nat.le_of_ble_eq_true rfl)⟩ (Nat.le_of_ble_eq_true rfl) ⟨rfl, rfl⟩ rfl (Nat.zero_le _) (Nat.zero_le _) ?_
              refine ⟨43 + 2 * ks, _, _, _, _, i, 48, rfl, by omega, (hS.2.1 ks (by omega)).1, (hS.2.1 ks (by omega)).2, ?_⟩
              refine xi_if_ne (q := 74) (q2 := 80) dX8_find_71 (by decide) rfl (fun c_71 => ?_) (fun c_71 => ?_)
              · obtain ⟨a, ha, rfl⟩ := xn_hasA (m := 48) (by omega) (xn_b1 c_71) (hV.2.1 ks (by omega) hE38).1.2
                refine xi_aload (q := 82) dX8_find_80 rfl rfl ?_
                refine xi_iload (q := 84) dX8_find_82 rfl rfl ?_
                refine xi_bipush (x := 48) (q := 86) dX8_find_84 (by decide) rfl ?_
                refine xi_iconst (x := (-1)) (q := 87) dX8_find_86 (by decide) rfl ?_
                refine xi_sipush (x := 5000) (q := 90) dX8_find_87 (by decide) rfl ?_
                refine xv_cV4 (q := 93) xm_X7_holdsWithin ln_X8_236 dX8_find_90 ⟨by omega, (hS.2.1 ks (by omega)).1⟩ rfl ⟨(Nat.le_of_ble_eq_true rfl), (Nat.le_of_ble_eq_true rfl)⟩ (Nat.le_of_ble_eq_true rfl) ⟨rfl, rfl⟩ rfl (Nat.zero_le _) (Nat.zero_le _) ?_
                refine ⟨43 + 2 * ks, _, _, _, _, a, 48, -1, 5000, rfl, by omega, (hS.2.1 ks (by omega)).1, (hS.2.1 ks (by omega)).2, by omega, ?_⟩
                refine xi_if_ne (q := 96) (q2 := 99) dX8_find_93 (by decide) rfl (fun c_93 => ?_) (fun c_93 => ?_)
                · skip
                  refine xi_aload_n (q := 100) dX8_find_99 rfl rfl ?_
                  refine xi_getf (q := 103) dX8_find_100 fl_X8_23 ⟨by omega, hS.1.1⟩ rfl rfl ?_
                  refine xi_iload_n (q := 104) dX8_find_103 rfl rfl ?_
                  refine xi_aald (q := 105) dX8_find_104 ⟨by omega, hS.1.2.2.2⟩ rfl (xv_ixN (by omega) (by omega)) (xs_ai (by omega)) rfl ?_
                  refine xi_astore (q := 107) dX8_find_105 (Nat.le_of_ble_eq_true rfl) rfl ?_
                  refine xi_aload (q := 109) dX8_find_107 rfl rfl ?_
                  refine xi_aload (q := 111) dX8_find_109 rfl rfl ?_
                  refine xi_iload (q := 113) dX8_find_111 rfl rfl ?_
                  refine xv_cV2 (q := 116) xm_X2_take ln_X8_240 dX8_find_113 ⟨by omega, (hS.2.2.2.1 kp (by omega)).1⟩ rfl ⟨(Nat.le_of_ble_eq_true rfl), (Nat.le_of_ble_eq_true rfl)⟩ (Nat.le_of_ble_eq_true rfl) ⟨rfl, rfl⟩ rfl (Nat.zero_le _) (Nat.zero_le _) ?_
                  refine ⟨71 + 2 * kp, _, _, _, _, 43 + 2 * ks, _, _, _, _, a, rfl, by omega, (hS.2.2.2.1 kp (by omega)).1, (hS.2.2.2.1 kp (by omega)).2, by omega, (hS.2.1 ks (by omega)).1, (hS.2.1 ks (by omega)).2, by omega, by omega, fun h9 q1 q2 => ?_⟩
                  refine xi_aload (q := 118) dX8_find_116 rfl rfl ?_
                  refine xi_iload_n (q := 119) dX8_find_118 rfl rfl ?_
                  refine xi_putf (q := 122) dX8_find_119 fl_X8_243 ⟨by omega, (q2 _ (by omega)).trans (hS.2.2.2.1 kp (by omega)).1⟩ (Or.inl rfl) (fun _ => rfl) (fun _ => rfl) (Nat.le_of_ble_eq_true rfl) rfl ?_
                  refine xi_aload (q := 124) dX8_find_122 rfl rfl ?_
                  refine xi_iload_n (q := 125) dX8_find_124 rfl rfl ?_
                  refine xi_putf (q := 128) dX8_find_125 fl_X8_246 (xv_self (by omega)) (Or.inl rfl) (fun _ => rfl) (fun _ => rfl) (Nat.le_of_ble_eq_true rfl) rfl ?_
                  refine xi_aload (q := 130) dX8_find_128 rfl rfl ?_
                  refine xi_iconst (x := 1) (q := 131) dX8_find_130 (by decide) rfl ?_
                  refine xi_putf (q := 134) dX8_find_131 fl_X8_139 (xv_self (by omega)) (Or.inl rfl) (fun _ => rfl) (fun _ => rfl) (Nat.le_of_ble_eq_true rfl) rfl ?_
                  refine xi_aload_n (q := 135) dX8_find_134 rfl rfl ?_
                  refine xi_aload (q := 137) dX8_find_135 rfl rfl ?_
                  refine xv_cV0 (q := 140) xm_X2_readable ln_X8_249 dX8_find_137 (xv_self (by omega)) rfl ⟨(Nat.le_of_ble_eq_true rfl), (Nat.le_of_ble_eq_true rfl)⟩ (Nat.le_of_ble_eq_true rfl) ⟨rfl, rfl⟩ rfl (Nat.zero_le _) (Nat.zero_le _) ?_
                  refine ⟨71 + 2 * kp, 1, m, b, _, rfl, by omega, (by rw [bx_uu, bx_uu]; exact va_up_self _ _ _), (by rw [bx_uu, bx_uu]; exact (va_up_ne _ _ (by omega)).trans q1), ?_⟩
                  refine xv_cV1 (q := 143) xm_X8_answered ln_X8_90 dX8_find_140 (xv_keep (by omega) (xv_keep (by omega) (xv_keep (by omega) ⟨by omega, (q2 _ (by omega)).trans hS.1.1⟩))) rfl ⟨(Nat.le_of_ble_eq_true rfl), (Nat.le_of_ble_eq_true rfl)⟩ (Nat.le_of_ble_eq_true rfl) ⟨rfl, rfl⟩ rfl (Nat.zero_le _) (Nat.zero_le _) ?_
                  refine ⟨_, _, rfl, xs_Sca (j := kp) (by omega) (kp := 1) (nt := m) (bo := b) (ci := fun t => σ 3 ks (a + t)) hS (by rw [bx_uu, bx_uu]; exact va_up_self _ _ _) (by rw [bx_uu, bx_uu]; exact (va_up_ne _ _ (by omega)).trans q1) (fun i i1 i2 => by rw [bx_uu, bx_uu]; exact (va_up_ne _ _ i1).trans (q2 i i2)), by omega, fun H1 S1 F1 => ?_⟩
                  refine xi_ret ⟨_, rfl, rfl, dX8_find_143⟩ (Nat.zero_le _) (Nat.zero_le _) ?_
                  exact xs_fin hp (by simp only [xs_find1, xs_onE, xs_onP, xs_fn, xs_an, Bool.not_false, Bool.not_true, Bool.true_or, Bool.false_or, Bool.and_true, Bool.true_and, Bool.and_false, Bool.false_and, Bool.false_eq_true, if_true, if_false, ↓reduceIte, g_4, g_11, g_18, g_29, hE38, hE45, (xn_boolb c_71), xs_kk0 (k := a) (by omega), (xn_b1 c_93), xs_kk0 (k := kp) (by omega), xs_kk0 (k := ks) (by omega)]) _ S1 (fun i hi => (F1 i (by omega)).trans (by rw [bx_uu, bx_uu]; exact (va_up_ne _ _ (by omega)).trans (q2 i (by omega))))
                · skip
                  refine xi_ldc (q := 98) dX8_find_96 kc_X8_81 rfl ?_
                  refine xi_ret ⟨_, rfl, rfl, dX8_find_98⟩ (Nat.zero_le _) (Nat.zero_le _) ?_
                  exact xs_fin hp (by simp only [xs_find1, xs_onE, xs_onP, xs_fn, xs_an, Bool.not_false, Bool.not_true, Bool.true_or, Bool.false_or, Bool.and_true, Bool.true_and, Bool.and_false, Bool.false_and, Bool.false_eq_true, if_true, if_false, ↓reduceIte, g_4, g_11, g_18, g_29, hE38, hE45, (xn_boolb c_71), xs_kk0 (k := a) (by omega), (Bool.eq_false_iff.mpr (xn_b0 c_93)), xs_kk0 (k := kp) (by omega), xs_kk0 (k := ks) (by omega)]) _ hS (fun i hi => rfl)
              · skip
                refine xi_aload_n (q := 75) dX8_find_74 rfl rfl ?_
                refine xi_iconst (x := 2) (q := 76) dX8_find_75 (by decide) rfl ?_
                refine xv_cV1 (q := 79) xm_X8_found ln_X8_82 dX8_find_76 ⟨by omega, hS.1.1⟩ rfl ⟨(Nat.le_of_ble_eq_true rfl), (Nat.le_of_ble_eq_true rfl)⟩ (Nat.le_of_ble_eq_true rfl) ⟨rfl, rfl⟩ rfl (Nat.zero_le _) (Nat.zero_le _) ?_
                refine ⟨_, _, rfl, hS, by omega, fun H1 S1 F1 => ?_⟩
                refine xi_ret ⟨_, rfl, rfl, dX8_find_79⟩ (Nat.zero_le _) (Nat.zero_le _) ?_
                exact xs_fin hp (by simp only [xs_find1, xs_onE, xs_onP, xs_fn, xs_an, Bool.not_false, Bool.not_true, Bool.true_or, Bool.false_or, Bool.and_true, Bool.true_and, Bool.and_false, Bool.false_and, Bool.false_eq_true, if_true, if_false, ↓reduceIte, g_4, g_11, g_18, g_29, hE38, hE45, (Bool.eq_false_iff.mpr (xn_b0 c_71)), xs_kk0 (k := kp) (by omega), xs_kk0 (k := ks) (by omega)]) _ S1 (fun i hi => (F1 i (by omega)).trans (rfl))
            · skip
              refine xi_ifnull_n (q := 56) dX8_find_48 (by decide) ?_
              refine xi_aload_n (q := 57) dX8_find_56 rfl rfl ?_
              refine xi_iconst (x := 1) (q := 58) dX8_find_57 (by decide) rfl ?_
              refine xv_cV1 (q := 61) xm_X8_found ln_X8_82 dX8_find_58 ⟨by omega, hS.1.1⟩ rfl ⟨(Nat.le_of_ble_eq_true rfl), (Nat.le_of_ble_eq_true rfl)⟩ (Nat.le_of_ble_eq_true rfl) ⟨rfl, rfl⟩ rfl (Nat.zero_le _) (Nat.zero_le _) ?_
              refine ⟨_, _, rfl, hS, by omega, fun H2 S2 F2 => ?_⟩
              refine xi_ret ⟨_, rfl, rfl, dX8_find_61⟩ (Nat.zero_le _) (Nat.zero_le _) ?_
              exact xs_fin hp (by simp only [xs_find1, xs_onE, xs_onP, xs_fn, xs_an, Bool.not_false, Bool.not_true, Bool.true_or, Bool.false_or, Bool.and_true, Bool.true_and, Bool.and_false, Bool.false_and, Bool.false_eq_true, if_true, if_false, ↓reduceIte, g_4, g_11, g_18, g_29, hE38, eq_true hE45, xs_kk0 (k := kp) (by omega), xs_kk0 (k := ks) (by omega)]) _ S2 (fun i hi => (F2 i (by omega)).trans (rfl))
          · skip
            refine xi_astoreN (q := 43) dX8_find_41 (Nat.le_of_ble_eq_true rfl) rfl ?_
            refine xi_aload_n (q := 44) dX8_find_43 rfl rfl ?_
            refine xi_iload_n (q := 45) dX8_find_44 rfl rfl ?_
            refine xv_cV1 (q := 48) xm_X8_engineAt ln_X8_142 dX8_find_45 ⟨by omega, hS.1.1⟩ rfl ⟨(Nat.le_of_ble_eq_true rfl), (Nat.le_of_ble_eq_true rfl)⟩ (Nat.le_of_ble_eq_true rfl) ⟨rfl, rfl⟩ rfl (Nat.zero_le _) (Nat.zero_le _) ?_
            refine ⟨_, kp, rfl, hS, by omega, by omega, fun hE45 => ?_, fun hE45 => ?_⟩
            · skip
              refine xi_ifnull_r (q := 51) dX8_find_48 rfl ?_
              refine xi_aloadN (q := 53) dX8_find_51 rfl rfl ?_
              refine xi_ifnonnull_n (q := 56) dX8_find_53 rfl ?_
              refine xi_aload_n (q := 57) dX8_find_56 rfl rfl ?_
              refine xi_iconst (x := 1) (q := 58) dX8_find_57 (by decide) rfl ?_
              refine xv_cV1 (q := 61) xm_X8_found ln_X8_82 dX8_find_58 ⟨by omega, hS.1.1⟩ rfl ⟨(Nat.le_of_ble_eq_true rfl), (Nat.le_of_ble_eq_true rfl)⟩ (Nat.le_of_ble_eq_true rfl) ⟨rfl, rfl⟩ rfl (Nat.zero_le _) (Nat.zero_le _) ?_
              refine ⟨_, _, rfl, hS, by omega, fun H3 S3 F3 => ?_⟩
              refine xi_ret ⟨_, rfl, rfl, dX8_find_61⟩ (Nat.zero_le _) (Nat.zero_le _) ?_
              exact xs_fin hp (by simp only [xs_find1, xs_onE, xs_onP, xs_fn, xs_an, Bool.not_false, Bool.not_true, Bool.true_or, Bool.false_or, Bool.and_true, Bool.true_and, Bool.and_false, Bool.false_and, Bool.false_eq_true, if_true, if_false, ↓reduceIte, g_4, g_11, g_18, g_29, eq_true hE38, hE45, xs_kk0 (k := kp) (by omega), xs_kk0 (k := ks) (by omega)]) _ S3 (fun i hi => (F3 i (by omega)).trans (rfl))
            · skip
              refine xi_ifnull_n (q := 56) dX8_find_48 (by decide) ?_
              refine xi_aload_n (q := 57) dX8_find_56 rfl rfl ?_
              refine xi_iconst (x := 1) (q := 58) dX8_find_57 (by decide) rfl ?_
              refine xv_cV1 (q := 61) xm_X8_found ln_X8_82 dX8_find_58 ⟨by omega, hS.1.1⟩ rfl ⟨(Nat.le_of_ble_eq_true rfl), (Nat.le_of_ble_eq_true rfl)⟩ (Nat.le_of_ble_eq_true rfl) ⟨rfl, rfl⟩ rfl (Nat.zero_le _) (Nat.zero_le _) ?_
              refine ⟨_, _, rfl, hS, by omega, fun H4 S4 F4 => ?_⟩
              refine xi_ret ⟨_, rfl, rfl, dX8_find_61⟩ (Nat.zero_le _) (Nat.zero_le _) ?_
              exact xs_fin hp (by simp only [xs_find1, xs_onE, xs_onP, xs_fn, xs_an, Bool.not_false, Bool.not_true, Bool.true_or, Bool.false_or, Bool.and_true, Bool.true_and, Bool.and_false, Bool.false_and, Bool.false_eq_true, if_true, if_false, ↓reduceIte, g_4, g_11, g_18, g_29, eq_true hE38, eq_true hE45, xs_kk0 (k := kp) (by omega), xs_kk0 (k := ks) (by omega)]) _ S4 (fun i hi => (F4 i (by omega)).trans (rfl))
        · have g_29 : xs_i s 0 7 = false := decide_eq_false (xn_b0 c_29)
          refine xi_ldc (q := 34) dX8_find_32 kc_X8_81 rfl ?_
          refine xi_ret ⟨_, rfl, rfl, dX8_find_34⟩ (Nat.zero_le _) (Nat.zero_le _) ?_
          exact xs_fin hp (by simp only [xs_find1, xs_onE, xs_onP, xs_fn, xs_an, Bool.not_false, Bool.not_true, Bool.true_or, Bool.false_or, Bool.and_true, Bool.true_and, Bool.and_false, Bool.false_and, Bool.false_eq_true, if_true, if_false, ↓reduceIte, g_4, g_11, g_18, g_29, xs_kk0 (k := kp) (by omega)]) _ hS (fun i hi => rfl)

def xs_engine (σ : xs_Sg) (p s i : Int32) : Int32 × xs_Sg := if (xs_i p 0 5 && xs_i s 0 7) = true then (if σ 0 s.toNatClampNeg 0 = 0 then xs_fn σ 1 else if xs_has i 11 (σ 2 s.toNatClampNeg 0) = true then (if xs_all (fun t => xs_isNb (nI t) (σ 3 s.toNatClampNeg (i.toNatClampNeg + t))) 11 = true then (1, xs_fd (xs_ca (xs_en σ p.toNatClampNeg (fun t => σ 3 s.toNatClampNeg (i.toNatClampNeg + t)) 0 1) p.toNatClampNeg 0 (σ 8 p.toNatClampNeg 0) (σ 9 p.toNatClampNeg 0) (σ 10 p.toNatClampNeg)) 0) else (-1000001, σ)) else xs_fn σ 2) else (-1000001, σ)
set_option maxRecDepth 20000 in
set_option maxHeartbeats 2000000 in
/-- engine -/
theorem xm_X8_engine : xv_K yX8_engine mX8_engine (fun as h n Post => ∃ (σ : xs_Sg) (p : Int32) (s : Int32) (i : Int32), as = [.ref 0, .int p, .int s, .int i] ∧ (xs_S h σ) ∧ (83 ≤ n) ∧ (xs_V σ) ∧ xs_D h n Post (xs_engine σ p s i)) := by
  refine xv_entry (by decide +kernel) rfl (fun h => absurd h (by decide)) ?_
  rintro X _ h n Post ⟨σ, p, s, i, rfl, hS, h83, hV, hp⟩
  refine ⟨Nat.le_of_ble_eq_true rfl, ?_⟩
  show xv_V X mX8_engine Post 0 0 0 [(0, .ref 0), (1, .int p), (2, .int s), (3, .int i)] [] h n
  refine xi_iload_n (q := 1) dX8_engine_0 rfl rfl ?_
  refine xv_cS1 (q := 4) xm_X8_isPlace ln_X8_125 dX8_engine_1 ⟨(Nat.le_of_ble_eq_true rfl), (Nat.le_of_ble_eq_true rfl)⟩ (Nat.le_of_ble_eq_true rfl) ⟨rfl, rfl⟩ rfl (Nat.zero_le _) (Nat.zero_le _) ?_
  refine ⟨_, rfl, ?_⟩
  refine xi_if_eq (q := 7) (q2 := 17) dX8_engine_4 (by decide) rfl (fun c_4 => ?_) (fun c_4 => ?_)
  · have g_4 : xs_i p 0 5 = false := decide_eq_false (xn_b0 c_4)
    refine xi_ldc (q := 19) dX8_engine_17 kc_X8_81 rfl ?_
    refine xi_ret ⟨_, rfl, rfl, dX8_engine_19⟩ (Nat.zero_le _) (Nat.zero_le _) ?_
    exact xs_fin hp (by simp only [xs_engine, xs_onE, xs_onP, xs_fn, xs_an, Bool.not_false, Bool.not_true, Bool.true_or, Bool.false_or, Bool.and_true, Bool.true_and, Bool.and_false, Bool.false_and, Bool.false_eq_true, if_true, if_false, ↓reduceIte, g_4]) _ hS (fun i hi => rfl)
  · have g_4 : xs_i p 0 5 = true := decide_eq_true (xn_b1 c_4)
    obtain ⟨kp, hkp, rfl⟩ := xn_pk (m := 5) (by omega) (xn_b1 c_4)
    refine xi_iload_n (q := 8) dX8_engine_7 rfl rfl ?_
    refine xi_iconst (x := 0) (q := 9) dX8_engine_8 (by decide) rfl ?_
    refine xi_bipush (x := 7) (q := 11) dX8_engine_9 (by decide) rfl ?_
    refine xv_cS3 (q := 14) xm_X8_within ln_X8_77 dX8_engine_11 ⟨(Nat.le_of_ble_eq_true rfl), (Nat.le_of_ble_eq_true rfl)⟩ (Nat.le_of_ble_eq_true rfl) ⟨rfl, rfl⟩ rfl (Nat.zero_le _) (Nat.zero_le _) ?_
    refine ⟨_, _, _, rfl, ?_⟩
    refine xi_if_ne (q := 17) (q2 := 20) dX8_engine_14 (by decide) rfl (fun c_14 => ?_) (fun c_14 => ?_)
    · have g_14 : xs_i s 0 7 = true := decide_eq_true (xn_b1 c_14)
      obtain ⟨ks, hks, rfl⟩ := xn_pk (m := 7) (by omega) (xn_b1 c_14)
      refine xi_aload_n (q := 21) dX8_engine_20 rfl rfl ?_
      refine xi_iload_n (q := 22) dX8_engine_21 rfl rfl ?_
      refine xv_cV1 (q := 25) xm_X8_sheetAt ln_X8_93 dX8_engine_22 ⟨by omega, hS.1.1⟩ rfl ⟨(Nat.le_of_ble_eq_true rfl), (Nat.le_of_ble_eq_true rfl)⟩ (Nat.le_of_ble_eq_true rfl) ⟨rfl, rfl⟩ rfl (Nat.zero_le _) (Nat.zero_le _) ?_
      refine ⟨_, ks, rfl, hS, by omega, by omega, fun hE22 => ?_, fun hE22 => ?_⟩
      · skip
        refine xi_astore (q := 27) dX8_engine_25 (Nat.le_of_ble_eq_true rfl) rfl ?_
        refine xi_aload (q := 29) dX8_engine_27 rfl rfl ?_
        refine xi_ifnonnull_r (q := 38) dX8_engine_29 (by decide) ?_
        refine xi_aload (q := 40) dX8_engine_38 rfl rfl ?_
        refine xi_iload_n (q := 41) dX8_engine_40 rfl rfl ?_
        refine xi_bipush (x := 11) (q := 43) dX8_engine_41 (by decide) rfl ?_
        refine xv_cV2 (q := 46) xm_X7_has ln_X8_97 dX8_engine_43 ⟨by omega, (hS.2.1 ks (by omega)).1⟩ rfl ⟨(Nat.le_of_ble_eq_true rfl), (Nat.le_of_ble_eq_true rfl)⟩ (Nat.le_of_ble_eq_true rfl) ⟨rfl, rfl⟩ rfl (Nat.zero_le _) (Nat.zero_le _) ?_
        refine ⟨43 + 2 * ks, _, _, _, _, i, 11, rfl, by omega, (hS.2.1 ks (by omega)).1, (hS.2.1 ks (by omega)).2, ?_⟩
        refine xi_if_ne (q := 49) (q2 := 55) dX8_engine_46 (by decide) rfl (fun c_46 => ?_) (fun c_46 => ?_)
        · obtain ⟨a, ha, rfl⟩ := xn_hasA (m := 11) (by omega) (xn_b1 c_46) (hV.2.1 ks (by omega) hE22).1.2
          refine xi_iconst (x := 0) (q := 56) dX8_engine_55 (by decide) rfl ?_
          refine xi_istore (q := 58) dX8_engine_56 (Nat.le_of_ble_eq_true rfl) rfl ?_
          have L58 : ∀ (d k : Nat), k + d = 11 → (∀ t, t < k → xs_isNb (nI t) (σ 3 ks (a + t)) = true) → xv_V X mX8_engine Post 0 0 58 [(0, .ref 0), (1, .int (nI kp)), (2, .int (nI ks)), (3, .int (nI a)), (4, .ref (43 + 2 * ks)), (5, .int (nI k))] [] h n := by
            intro d
            induction d using Nat.strongRecOn with
            | _ d ih =>
              intro k hk hall
              refine xi_iload (q := 60) dX8_engine_58 rfl rfl ?_
              refine xi_bipush (x := 11) (q := 62) dX8_engine_60 (by decide) rfl ?_
              refine xi_icmp_ge (q := 65) (q2 := 91) dX8_engine_62 (by decide) rfl (fun c_62 => ?_) (fun c_62 => ?_)
              · have hk2 : k = 11 := by have z : 11 ≤ k := xn_leN c_62 (by omega) (by omega); omega
                subst hk2
                have hAll : xs_all (fun t => xs_isNb (nI t) (σ 3 ks (a + t))) 11 = true := xn_allT hall
                refine xi_aload_n (q := 92) dX8_engine_91 rfl rfl ?_
                refine xi_getf (q := 95) dX8_engine_92 fl_X8_17 ⟨by omega, hS.1.1⟩ rfl rfl ?_
                refine xi_iload_n (q := 96) dX8_engine_95 rfl rfl ?_
                refine xi_aald (q := 97) dX8_engine_96 ⟨by omega, hS.1.2.2.1⟩ rfl (xv_ixN (by omega) (by omega)) (xs_ai (by omega)) rfl ?_
                refine xi_aload (q := 99) dX8_engine_97 rfl rfl ?_
                refine xi_iload_n (q := 100) dX8_engine_99 rfl rfl ?_
                refine xv_cV2 (q := 103) xm_X0_build ln_X8_135 dX8_engine_100 ⟨by omega, (hS.2.2.1 kp (by omega)).1⟩ rfl ⟨(Nat.le_of_ble_eq_true rfl), (Nat.le_of_ble_eq_true rfl)⟩ (Nat.le_of_ble_eq_true rfl) ⟨rfl, rfl⟩ rfl (Nat.zero_le _) (Nat.zero_le _) ?_
                refine ⟨59 + 2 * kp, _, _, _, 43 + 2 * ks, _, _, _, _, a, rfl, by omega, (hS.2.2.1 kp (by omega)).1, (hS.2.2.1 kp (by omega)).2, by omega, (hS.2.1 ks (by omega)).1, (hS.2.1 ks (by omega)).2, by omega, by omega, fun h9 q1 q2 q3 => ?_⟩
                have S90 := xs_Sen (j := kp) (by omega) hS q1 q2 q3
                refine xi_aload_n (q := 104) dX8_engine_103 rfl rfl ?_
                refine xi_getf (q := 107) dX8_engine_104 fl_X8_23 ⟨by omega, S90.1.1⟩ rfl rfl ?_
                refine xi_iload_n (q := 108) dX8_engine_107 rfl rfl ?_
                refine xi_aald (q := 109) dX8_engine_108 ⟨by omega, S90.1.2.2.2⟩ rfl (xv_ixN (by omega) (by omega)) (xs_ai (by omega)) rfl ?_
                refine xi_iconst (x := 0) (q := 110) dX8_engine_109 (by decide) rfl ?_
                refine xi_putf (q := 113) dX8_engine_110 fl_X8_139 ⟨by omega, (S90.2.2.2.1 kp (by omega)).1⟩ (Or.inl rfl) (fun _ => rfl) (fun _ => rfl) (Nat.le_of_ble_eq_true rfl) rfl ?_
                refine xi_aload_n (q := 114) dX8_engine_113 rfl rfl ?_
                refine xi_iconst (x := 1) (q := 115) dX8_engine_114 (by decide) rfl ?_
                refine xv_cV1 (q := 118) xm_X8_answered ln_X8_90 dX8_engine_115 (xv_keep (by omega) ⟨by omega, S90.1.1⟩) rfl ⟨(Nat.le_of_ble_eq_true rfl), (Nat.le_of_ble_eq_true rfl)⟩ (Nat.le_of_ble_eq_true rfl) ⟨rfl, rfl⟩ rfl (Nat.zero_le _) (Nat.zero_le _) ?_
                refine ⟨_, _, rfl, xs_Sca (j := kp) (by omega) (kp := 0) (nt := σ 8 kp 0) (bo := σ 9 kp 0) (ci := σ 10 kp) S90 (va_up_self _ _ _) ((va_up_ne _ _ (by omega)).trans (S90.2.2.2.1 kp (by omega)).2) (fun i i1 i2 => va_up_ne _ _ i1), by omega, fun H1 S1 F1 => ?_⟩
                refine xi_ret ⟨_, rfl, rfl, dX8_engine_118⟩ (Nat.zero_le _) (Nat.zero_le _) ?_
                exact xs_fin hp (by simp only [xs_engine, xs_fn, Bool.true_and, Bool.and_true, Bool.false_eq_true, if_true, if_false, ↓reduceIte, g_4, g_14, hE22, (xn_boolb c_46), xs_kk0 (k := kp) (by omega), xs_kk0 (k := ks) (by omega), xs_kk0 (k := a) (by omega), hAll]) _ S1 (fun i hi => (F1 i (by omega)).trans ((va_up_ne _ _ (by omega)).trans (q3 i (by omega) (by omega))))
              · have hk2 : k < 11 := xn_nleN c_62 (by omega) (by omega)
                refine xi_iload (q := 67) dX8_engine_65 rfl rfl ?_
                refine xi_aload (q := 69) dX8_engine_67 rfl rfl ?_
                refine xi_iload_n (q := 70) dX8_engine_69 rfl rfl ?_
                refine xi_iload (q := 72) dX8_engine_70 rfl rfl ?_
                refine xi_iadd (q := 73) dX8_engine_72 rfl ?_
                refine xv_cV1 (q := 76) xm_X7_read ln_X8_129 dX8_engine_73 ⟨by omega, (hS.2.1 ks (by omega)).1⟩ rfl ⟨(Nat.le_of_ble_eq_true rfl), (Nat.le_of_ble_eq_true rfl)⟩ (Nat.le_of_ble_eq_true rfl) ⟨rfl, rfl⟩ rfl (Nat.zero_le _) (Nat.zero_le _) ?_
                refine ⟨43 + 2 * ks, _, _, _, _, _, a + k, rfl, by omega, (hS.2.1 ks (by omega)).1, (hS.2.1 ks (by omega)).2, xn_ixA (by omega) (by omega), ?_⟩
                refine xv_cS2 (q := 79) xm_X8_isNumber ln_X8_132 dX8_engine_76 ⟨(Nat.le_of_ble_eq_true rfl), (Nat.le_of_ble_eq_true rfl)⟩ (Nat.le_of_ble_eq_true rfl) ⟨rfl, rfl⟩ rfl (Nat.zero_le _) (Nat.zero_le _) ?_
                refine ⟨_, _, rfl, ?_⟩
                refine xi_if_ne (q := 82) (q2 := 85) dX8_engine_79 (by decide) rfl (fun c_79 => ?_) (fun c_79 => ?_)
                · have g79 : xs_isNb (nI k) (σ 3 ks (a + k)) = true := xn_boolb c_79
                  refine xi_iinc (y := nI (k + 1)) (q := 88) dX8_engine_85 rfl (xn_inc k) (Nat.le_of_ble_eq_true rfl) rfl ?_
                  refine xi_goto (q := 58) dX8_engine_88 (by decide) ?_
                  refine xv_weakS (lv' := [(0, .ref 0), (1, .int (nI kp)), (2, .int (nI ks)), (3, .int (nI a)), (4, .ref (43 + 2 * ks)), (5, .int (nI (k + 1)))]) ⟨rfl, rfl, rfl, rfl, rfl, rfl, trivial⟩ ?_
                  exact ih (d - 1) (by omega) (k + 1) (by omega) (fun t ht => by
                    by_cases e : t = k
                    · rw [e]; exact g79
                    · exact hall t (by omega))
                · have hAll : xs_all (fun t => xs_isNb (nI t) (σ 3 ks (a + t))) 11 = false := xn_allF (i := k) (Bool.eq_false_iff.mpr (xn_b0 c_79)) hk2
                  refine xi_ldc (q := 84) dX8_engine_82 kc_X8_81 rfl ?_
                  refine xi_ret ⟨_, rfl, rfl, dX8_engine_84⟩ (Nat.zero_le _) (Nat.zero_le _) ?_
                  exact xs_fin hp (by simp only [xs_engine, xs_fn, Bool.true_and, Bool.and_true, Bool.false_eq_true, if_true, if_false, ↓reduceIte, g_4, g_14, hE22, (xn_boolb c_46), xs_kk0 (k := kp) (by omega), xs_kk0 (k := ks) (by omega), xs_kk0 (k := a) (by omega), hAll]) _ hS (fun i hi => rfl)
          refine xv_weakS (lv' := [(0, .ref 0), (1, .int (nI kp)), (2, .int (nI ks)), (3, .int (nI a)), (4, .ref (43 + 2 * ks)), (5, .int (nI 0))]) ⟨rfl, rfl, rfl, rfl, rfl, rfl, trivial⟩ ?_
          exact L58 11 0 (by omega) (fun t ht => absurd ht (Nat.not_lt_zero t))
        · skip
          refine xi_aload_n (q := 50) dX8_engine_49 rfl rfl ?_
          refine xi_iconst (x := 2) (q := 51) dX8_engine_50 (by decide) rfl ?_
          refine xv_cV1 (q := 54) xm_X8_found ln_X8_82 dX8_engine_51 ⟨by omega, hS.1.1⟩ rfl ⟨(Nat.le_of_ble_eq_true rfl), (Nat.le_of_ble_eq_true rfl)⟩ (Nat.le_of_ble_eq_true rfl) ⟨rfl, rfl⟩ rfl (Nat.zero_le _) (Nat.zero_le _) ?_
          refine ⟨_, _, rfl, hS, by omega, fun H1 S1 F1 => ?_⟩
          refine xi_ret ⟨_, rfl, rfl, dX8_engine_54⟩ (Nat.zero_le _) (Nat.zero_le _) ?_
          exact xs_fin hp (by simp only [xs_engine, xs_onE, xs_onP, xs_fn, xs_an, Bool.not_false, Bool.not_true, Bool.true_or, Bool.false_or, Bool.and_true, Bool.true_and, Bool.and_false, Bool.false_and, Bool.false_eq_true, if_true, if_false, ↓reduceIte, g_4, g_14, hE22, (Bool.eq_false_iff.mpr (xn_b0 c_46)), xs_kk0 (k := kp) (by omega), xs_kk0 (k := ks) (by omega)]) _ S1 (fun i hi => (F1 i (by omega)).trans (rfl))
      · skip
        refine xi_astoreN (q := 27) dX8_engine_25 (Nat.le_of_ble_eq_true rfl) rfl ?_
        refine xi_aloadN (q := 29) dX8_engine_27 rfl rfl ?_
        refine xi_ifnonnull_n (q := 32) dX8_engine_29 rfl ?_
        refine xi_aload_n (q := 33) dX8_engine_32 rfl rfl ?_
        refine xi_iconst (x := 1) (q := 34) dX8_engine_33 (by decide) rfl ?_
        refine xv_cV1 (q := 37) xm_X8_found ln_X8_82 dX8_engine_34 ⟨by omega, hS.1.1⟩ rfl ⟨(Nat.le_of_ble_eq_true rfl), (Nat.le_of_ble_eq_true rfl)⟩ (Nat.le_of_ble_eq_true rfl) ⟨rfl, rfl⟩ rfl (Nat.zero_le _) (Nat.zero_le _) ?_
        refine ⟨_, _, rfl, hS, by omega, fun H2 S2 F2 => ?_⟩
        refine xi_ret ⟨_, rfl, rfl, dX8_engine_37⟩ (Nat.zero_le _) (Nat.zero_le _) ?_
        exact xs_fin hp (by simp only [xs_engine, xs_onE, xs_onP, xs_fn, xs_an, Bool.not_false, Bool.not_true, Bool.true_or, Bool.false_or, Bool.and_true, Bool.true_and, Bool.and_false, Bool.false_and, Bool.false_eq_true, if_true, if_false, ↓reduceIte, g_4, g_14, eq_true hE22, xs_kk0 (k := kp) (by omega), xs_kk0 (k := ks) (by omega)]) _ S2 (fun i hi => (F2 i (by omega)).trans (rfl))
    · have g_14 : xs_i s 0 7 = false := decide_eq_false (xn_b0 c_14)
      refine xi_ldc (q := 19) dX8_engine_17 kc_X8_81 rfl ?_
      refine xi_ret ⟨_, rfl, rfl, dX8_engine_19⟩ (Nat.zero_le _) (Nat.zero_le _) ?_
      exact xs_fin hp (by simp only [xs_engine, xs_onE, xs_onP, xs_fn, xs_an, Bool.not_false, Bool.not_true, Bool.true_or, Bool.false_or, Bool.and_true, Bool.true_and, Bool.and_false, Bool.false_and, Bool.false_eq_true, if_true, if_false, ↓reduceIte, g_4, g_14, xs_kk0 (k := kp) (by omega)]) _ hS (fun i hi => rfl)

