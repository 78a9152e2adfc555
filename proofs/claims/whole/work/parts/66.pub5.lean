def xs_mf (σ : xs_Sg) (j : Nat) : Nat → Int32 := fun k => xs_mis (σ 4 j) (σ 10 j) (σ 8 j 0) (σ 9 j 0) (nI k)
def xs_named (σ : xs_Sg) (p w q : Int32) : Int32 × xs_Sg := if (xs_i p 0 5 && (xs_i w 0 2 && (!decide (w = 2) || xs_i q 0 100000))) = true then (if σ 7 p.toNatClampNeg 0 = 0 then (-1000002, σ) else xs_an σ (if w = 0 then nI (xs_bst (xs_mf σ p.toNatClampNeg) 13) else if w = 1 then (xs_mf σ p.toNatClampNeg) (xs_bst (xs_mf σ p.toNatClampNeg) 13) else xs_ps (xs_db1 (xs_mf σ p.toNatClampNeg) (nI (xs_bst (xs_mf σ p.toNatClampNeg) 13)) ((xs_mf σ p.toNatClampNeg) (xs_bst (xs_mf σ p.toNatClampNeg) 13)) q) 13)) else (-1000001, σ)
set_option maxRecDepth 20000 in
set_option maxHeartbeats 2000000 in
/-- named -/
theorem xm_X8_named : xv_K yX8_named mX8_named (fun as h n Post => ∃ (σ : xs_Sg) (p : Int32) (w : Int32) (q : Int32), as = [.ref 0, .int p, .int w, .int q] ∧ (xs_S h σ) ∧ (83 ≤ n) ∧ (xs_V σ) ∧ xs_D h n Post (xs_named σ p w q)) := by
  refine xv_entry (by decide +kernel) rfl (fun h => absurd h (by decide)) ?_
  rintro X _ h n Post ⟨σ, p, w, q, rfl, hS, h83, hV, hp⟩
  refine ⟨Nat.le_of_ble_eq_true rfl, ?_⟩
  show xv_V X mX8_named Post 0 0 0 [(0, .ref 0), (1, .int p), (2, .int w), (3, .int q)] [] h n
  refine xi_iload_n (q := 1) dX8_named_0 rfl rfl ?_
  refine xv_cS1 (q := 4) xm_X8_isPlace ln_X8_125 dX8_named_1 ⟨(Nat.le_of_ble_eq_true rfl), (Nat.le_of_ble_eq_true rfl)⟩ (Nat.le_of_ble_eq_true rfl) ⟨rfl, rfl⟩ rfl (Nat.zero_le _) (Nat.zero_le _) ?_
  refine ⟨_, rfl, ?_⟩
  refine xi_if_eq (q := 7) (q2 := 32) dX8_named_4 (by decide) rfl (fun c_4 => ?_) (fun c_4 => ?_)
  · have g_4 : xs_i p 0 5 = false := decide_eq_false (xn_b0 c_4)
    refine xi_ldc (q := 34) dX8_named_32 kc_X8_81 rfl ?_
    refine xi_ret ⟨_, rfl, rfl, dX8_named_34⟩ (Nat.zero_le _) (Nat.zero_le _) ?_
    exact xs_fin hp (by simp only [xs_named, xs_onE, xs_onP, xs_fn, xs_an, Bool.not_false, Bool.not_true, Bool.true_or, Bool.false_or, Bool.and_true, Bool.true_and, Bool.and_false, Bool.false_and, Bool.false_eq_true, if_true, if_false, ↓reduceIte, g_4]) _ hS (fun i hi => rfl)
  · have g_4 : xs_i p 0 5 = true := decide_eq_true (xn_b1 c_4)
    obtain ⟨kp, hkp, rfl⟩ := xn_pk (m := 5) (by omega) (xn_b1 c_4)
    refine xi_iload_n (q := 8) dX8_named_7 rfl rfl ?_
    refine xi_iconst (x := 0) (q := 9) dX8_named_8 (by decide) rfl ?_
    refine xi_iconst (x := 2) (q := 10) dX8_named_9 (by decide) rfl ?_
    refine xv_cS3 (q := 13) xm_X8_within ln_X8_77 dX8_named_10 ⟨(Nat.le_of_ble_eq_true rfl), (Nat.le_of_ble_eq_true rfl)⟩ (Nat.le_of_ble_eq_true rfl) ⟨rfl, rfl⟩ rfl (Nat.zero_le _) (Nat.zero_le _) ?_
    refine ⟨_, _, _, rfl, ?_⟩
    refine xi_if_eq (q := 16) (q2 := 32) dX8_named_13 (by decide) rfl (fun c_13 => ?_) (fun c_13 => ?_)
    · have g_13 : xs_i w 0 2 = false := decide_eq_false (xn_b0 c_13)
      refine xi_ldc (q := 34) dX8_named_32 kc_X8_81 rfl ?_
      refine xi_ret ⟨_, rfl, rfl, dX8_named_34⟩ (Nat.zero_le _) (Nat.zero_le _) ?_
      exact xs_fin hp (by simp only [xs_named, xs_onE, xs_onP, xs_fn, xs_an, Bool.not_false, Bool.not_true, Bool.true_or, Bool.false_or, Bool.and_true, Bool.true_and, Bool.and_false, Bool.false_and, Bool.false_eq_true, if_true, if_false, ↓reduceIte, g_4, g_13, xs_kk0 (k := kp) (by omega)]) _ hS (fun i hi => rfl)
    · have g_13 : xs_i w 0 2 = true := decide_eq_true (xn_b1 c_13)
      refine xi_iload_n (q := 17) dX8_named_16 rfl rfl ?_
      refine xi_iconst (x := 2) (q := 18) dX8_named_17 (by decide) rfl ?_
      refine xi_icmp_ne (q := 21) (q2 := 35) dX8_named_18 (by decide) rfl (fun c_18 => ?_) (fun c_18 => ?_)
      · skip
        refine xi_aload_n (q := 36) dX8_named_35 rfl rfl ?_
        refine xi_iload_n (q := 37) dX8_named_36 rfl rfl ?_
        refine xv_cV1 (q := 40) xm_X8_engineAt ln_X8_142 dX8_named_37 ⟨by omega, hS.1.1⟩ rfl ⟨(Nat.le_of_ble_eq_true rfl), (Nat.le_of_ble_eq_true rfl)⟩ (Nat.le_of_ble_eq_true rfl) ⟨rfl, rfl⟩ rfl (Nat.zero_le _) (Nat.zero_le _) ?_
        refine ⟨_, kp, rfl, hS, by omega, by omega, fun hE37 => ?_, fun hE37 => ?_⟩
        · skip
          refine xi_astore (q := 42) dX8_named_40 (Nat.le_of_ble_eq_true rfl) rfl ?_
          refine xi_aload_n (q := 43) dX8_named_42 rfl rfl ?_
          refine xi_getf (q := 46) dX8_named_43 fl_X8_23 ⟨by omega, hS.1.1⟩ rfl rfl ?_
          refine xi_iload_n (q := 47) dX8_named_46 rfl rfl ?_
          refine xi_aald (q := 48) dX8_named_47 ⟨by omega, hS.1.2.2.2⟩ rfl (xv_ixN (by omega) (by omega)) (xs_ai (by omega)) rfl ?_
          refine xi_astore (q := 50) dX8_named_48 (Nat.le_of_ble_eq_true rfl) rfl ?_
          refine xi_aload (q := 52) dX8_named_50 rfl rfl ?_
          refine xi_ifnull_r (q := 55) dX8_named_52 rfl ?_
          refine xi_aload (q := 57) dX8_named_55 rfl rfl ?_
          refine xi_getf (q := 60) dX8_named_57 fl_X8_139 ⟨by omega, (hS.2.2.2.1 kp (by omega)).1⟩ rfl rfl ?_
          refine xi_if_ne (q := 63) (q2 := 66) dX8_named_60 (by decide) rfl (fun c_60 => ?_) (fun c_60 => ?_)
          · skip
            refine xi_aload_n (q := 67) dX8_named_66 rfl rfl ?_
            obtain ⟨f4_67, s4_67, t4_67, h4_67, h5_67⟩ := hS.2.2.2.2.2.1
            refine xi_getf (q := 70) dX8_named_67 fl_X8_28 ⟨by omega, hS.1.1⟩ rfl rfl ?_
            refine xi_aload (q := 72) dX8_named_70 rfl rfl ?_
            refine xv_cV1 (q := 75) xm_X0_resemble ln_X8_155 dX8_named_72 ⟨by omega, h4_67⟩ rfl ⟨(Nat.le_of_ble_eq_true rfl), (Nat.le_of_ble_eq_true rfl)⟩ (Nat.le_of_ble_eq_true rfl) ⟨rfl, rfl⟩ rfl (Nat.zero_le _) (Nat.zero_le _) ?_
            refine ⟨4, _, _, _, 59 + 2 * kp, _, _, _, rfl, by omega, h4_67, h5_67, by omega, (hS.2.2.1 kp (by omega)).1, (hS.2.2.1 kp (by omega)).2, by omega, fun h8 p1 p3 p2 => ?_⟩
            have S80 := xs_St1 hS ⟨_, _, _, p1, p3⟩ (fun i hi => p2 i (by omega) (by omega))
            refine xi_aload_n (q := 76) dX8_named_75 rfl rfl ?_
            obtain ⟨nb_76, nl_76, ng_76, hN_76, hM_76⟩ := S80.2.2.2.2.2.2.2.2.2.1
            refine xi_getf (q := 79) dX8_named_76 fl_X8_54 ⟨by omega, S80.1.1⟩ rfl rfl ?_
            refine xi_aload (q := 81) dX8_named_79 rfl rfl ?_
            refine xi_aload_n (q := 82) dX8_named_81 rfl rfl ?_
            refine xi_getf (q := 85) dX8_named_82 fl_X8_28 ⟨by omega, S80.1.1⟩ rfl rfl ?_
            refine xi_aload_n (q := 86) dX8_named_85 rfl rfl ?_
            obtain ⟨dn_86, wk_86, dk_86, r1_86, r2_86, r3_86, r4_86, hP_86⟩ := S80.2.2.2.2.2.2.2.2.1
            refine xi_getf (q := 89) dX8_named_86 fl_X8_47 ⟨by omega, S80.1.1⟩ rfl rfl ?_
            refine xv_cV3 (q := 92) xm_X4_seek ln_X8_258 dX8_named_89 ⟨by omega, hN_76⟩ rfl ⟨(Nat.le_of_ble_eq_true rfl), (Nat.le_of_ble_eq_true rfl)⟩ (Nat.le_of_ble_eq_true rfl) ⟨rfl, rfl⟩ rfl (Nat.zero_le _) (Nat.zero_le _) ?_
            refine ⟨71 + 2 * kp, _, _, _, _, 4, _, _, _, _, _, _, _, _, _, _, _, _, _, rfl, by omega, p1, p3, by omega, (S80.2.2.2.1 kp (by omega)).1, (S80.2.2.2.1 kp (by omega)).2, hP_86, by omega, by omega, by omega, (hV.2.2.2.1 kp (by omega) hE37).1, (hV.2.2.2.2.2.1 kp (by omega) c_60).2.2.1, hN_76, hM_76, by omega, by omega, fun h9 dn9 r91 r92 r93 r94 s9 u1 u2 u3 u4 u5 => ?_⟩
            have S92 := xs_St145 S80 ⟨_, _, _, u2, (u5 5 (by omega) (by omega) (by omega)).trans p3⟩ ⟨_, _, _, _, _, _, _, u1⟩ ⟨_, _, _, u3, u4⟩ (fun i i1 i2 i3 i4 => u5 i i1 i2 i3)
            obtain ⟨G, hG⟩ : ∃ G : Nat → Int32, G = xs_mf σ kp := ⟨_, rfl⟩
            replace u3 : h9 22 = .inr (4, [.ref 23, .int (nI (xs_bst G 13)), .int (G (xs_bst G 13))]) := u3.trans (by rw [hG]; rfl)
            replace u4 : h9 23 = .inl (.int, 13, .inl G) := u4.trans (by rw [hG]; rfl)
            refine xi_iload_n (q := 93) dX8_named_92 rfl rfl ?_
            refine xi_if_ne (q := 96) (q2 := 108) dX8_named_93 (by decide) rfl (fun c_93 => ?_) (fun c_93 => ?_)
            · skip
              refine xi_aload_n (q := 109) dX8_named_108 rfl rfl ?_
              refine xi_iload_n (q := 110) dX8_named_109 rfl rfl ?_
              refine xi_iconst (x := 1) (q := 111) dX8_named_110 (by decide) rfl ?_
              refine xi_icmp_ne (q := 114) (q2 := 124) dX8_named_111 (by decide) rfl (fun c_111 => ?_) (fun c_111 => ?_)
              · skip
                refine xi_aload_n (q := 125) dX8_named_124 rfl rfl ?_
                refine xi_getf (q := 128) dX8_named_125 fl_X8_54 ⟨by omega, S92.1.1⟩ rfl rfl ?_
                refine xi_iload_n (q := 129) dX8_named_128 rfl rfl ?_
                refine xv_cV1 (q := 132) xm_X4_doubt ln_X8_268 dX8_named_129 ⟨by omega, u3⟩ rfl ⟨(Nat.le_of_ble_eq_true rfl), (Nat.le_of_ble_eq_true rfl)⟩ (Nat.le_of_ble_eq_true rfl) ⟨rfl, rfl⟩ rfl (Nat.zero_le _) (Nat.zero_le _) ?_
                refine ⟨_, _, _, _, rfl, u3, u4, by omega, ?_⟩
                refine xv_cV1 (q := 135) xm_X8_answered ln_X8_90 dX8_named_132 ⟨by omega, S92.1.1⟩ rfl ⟨(Nat.le_of_ble_eq_true rfl), (Nat.le_of_ble_eq_true rfl)⟩ (Nat.le_of_ble_eq_true rfl) ⟨rfl, rfl⟩ rfl (Nat.zero_le _) (Nat.zero_le _) ?_
                refine ⟨_, _, rfl, S92, by omega, fun H1 S1 F1 => ?_⟩
                refine xi_ret ⟨_, rfl, rfl, dX8_named_135⟩ (Nat.zero_le _) (Nat.zero_le _) ?_
                exact xs_fin hp (by simp only [xs_named, xs_onE, xs_onP, xs_fn, xs_an, Bool.not_false, Bool.not_true, Bool.true_or, Bool.false_or, Bool.and_true, Bool.true_and, Bool.and_false, Bool.false_and, Bool.false_eq_true, if_true, if_false, ↓reduceIte, g_4, g_13, decide_eq_false c_18, hE37, c_60, ← hG, c_93, c_111, xs_kk0 (k := kp) (by omega)]) _ S1 (fun i hi => (F1 i (by omega)).trans ((u5 i (by omega) (by omega) (by omega)).trans ((p2 i (by omega) (by omega)).trans (rfl))))
              · skip
                refine xi_aload_n (q := 115) dX8_named_114 rfl rfl ?_
                refine xi_getf (q := 118) dX8_named_115 fl_X8_54 ⟨by omega, S92.1.1⟩ rfl rfl ?_
                refine xi_getf (q := 121) dX8_named_118 fl_X8_265 ⟨by omega, u3⟩ rfl rfl ?_
                refine xi_goto (q := 132) dX8_named_121 (by decide) ?_
                refine xv_cV1 (q := 135) xm_X8_answered ln_X8_90 dX8_named_132 ⟨by omega, S92.1.1⟩ rfl ⟨(Nat.le_of_ble_eq_true rfl), (Nat.le_of_ble_eq_true rfl)⟩ (Nat.le_of_ble_eq_true rfl) ⟨rfl, rfl⟩ rfl (Nat.zero_le _) (Nat.zero_le _) ?_
                refine ⟨_, _, rfl, S92, by omega, fun H2 S2 F2 => ?_⟩
                refine xi_ret ⟨_, rfl, rfl, dX8_named_135⟩ (Nat.zero_le _) (Nat.zero_le _) ?_
                exact xs_fin hp (by simp only [xs_named, xs_onE, xs_onP, xs_fn, xs_an, Bool.not_false, Bool.not_true, Bool.true_or, Bool.false_or, Bool.and_true, Bool.true_and, Bool.and_false, Bool.false_and, Bool.false_eq_true, if_true, if_false, ↓reduceIte, g_4, g_13, decide_eq_false c_18, hE37, c_60, ← hG, c_93, eq_true c_111, xs_kk0 (k := kp) (by omega)]) _ S2 (fun i hi => (F2 i (by omega)).trans ((u5 i (by omega) (by omega) (by omega)).trans ((p2 i (by omega) (by omega)).trans (rfl))))
            · skip
              refine xi_aload_n (q := 97) dX8_named_96 rfl rfl ?_
              refine xi_aload_n (q := 98) dX8_named_97 rfl rfl ?_
              refine xi_getf (q := 101) dX8_named_98 fl_X8_54 ⟨by omega, S92.1.1⟩ rfl rfl ?_
              refine xi_getf (q := 104) dX8_named_101 fl_X8_262 ⟨by omega, u3⟩ rfl rfl ?_
              refine xv_cV1 (q := 107) xm_X8_answered ln_X8_90 dX8_named_104 ⟨by omega, S92.1.1⟩ rfl ⟨(Nat.le_of_ble_eq_true rfl), (Nat.le_of_ble_eq_true rfl)⟩ (Nat.le_of_ble_eq_true rfl) ⟨rfl, rfl⟩ rfl (Nat.zero_le _) (Nat.zero_le _) ?_
              refine ⟨_, _, rfl, S92, by omega, fun H3 S3 F3 => ?_⟩
              refine xi_ret ⟨_, rfl, rfl, dX8_named_107⟩ (Nat.zero_le _) (Nat.zero_le _) ?_
              exact xs_fin hp (by simp only [xs_named, xs_onE, xs_onP, xs_fn, xs_an, Bool.not_false, Bool.not_true, Bool.true_or, Bool.false_or, Bool.and_true, Bool.true_and, Bool.and_false, Bool.false_and, Bool.false_eq_true, if_true, if_false, ↓reduceIte, g_4, g_13, decide_eq_false c_18, hE37, c_60, ← hG, eq_true c_93, xs_kk0 (k := kp) (by omega)]) _ S3 (fun i hi => (F3 i (by omega)).trans ((u5 i (by omega) (by omega) (by omega)).trans ((p2 i (by omega) (by omega)).trans (rfl))))
          · skip
            refine xi_ldc (q := 65) dX8_named_63 kc_X8_252 rfl ?_
            refine xi_ret ⟨_, rfl, rfl, dX8_named_65⟩ (Nat.zero_le _) (Nat.zero_le _) ?_
            exact xs_fin hp (by simp only [xs_named, xs_onE, xs_onP, xs_fn, xs_an, Bool.not_false, Bool.not_true, Bool.true_or, Bool.false_or, Bool.and_true, Bool.true_and, Bool.and_false, Bool.false_and, Bool.false_eq_true, if_true, if_false, ↓reduceIte, g_4, g_13, decide_eq_false c_18, hE37, eq_true c_60, xs_kk0 (k := kp) (by omega)]) _ hS (fun i hi => rfl)
        · skip
          refine xi_astoreN (q := 42) dX8_named_40 (Nat.le_of_ble_eq_true rfl) rfl ?_
          refine xi_aload_n (q := 43) dX8_named_42 rfl rfl ?_
          refine xi_getf (q := 46) dX8_named_43 fl_X8_23 ⟨by omega, hS.1.1⟩ rfl rfl ?_
          refine xi_iload_n (q := 47) dX8_named_46 rfl rfl ?_
          refine xi_aald (q := 48) dX8_named_47 ⟨by omega, hS.1.2.2.2⟩ rfl (xv_ixN (by omega) (by omega)) (xs_ai (by omega)) rfl ?_
          refine xi_astore (q := 50) dX8_named_48 (Nat.le_of_ble_eq_true rfl) rfl ?_
          refine xi_aloadN (q := 52) dX8_named_50 rfl rfl ?_
          refine xi_ifnull_n (q := 63) dX8_named_52 (by decide) ?_
          refine xi_ldc (q := 65) dX8_named_63 kc_X8_252 rfl ?_
          refine xi_ret ⟨_, rfl, rfl, dX8_named_65⟩ (Nat.zero_le _) (Nat.zero_le _) ?_
          exact xs_fin hp (by simp only [xs_named, xs_onE, xs_onP, xs_fn, xs_an, Bool.not_false, Bool.not_true, Bool.true_or, Bool.false_or, Bool.and_true, Bool.true_and, Bool.and_false, Bool.false_and, Bool.false_eq_true, if_true, if_false, ↓reduceIte, g_4, g_13, decide_eq_false c_18, eq_true hE37, eq_true (xs_nk hV (k := kp) (by omega) hE37), xs_kk0 (k := kp) (by omega)]) _ hS (fun i hi => rfl)
      · skip
        refine xi_iload_n (q := 22) dX8_named_21 rfl rfl ?_
        refine xi_iconst (x := 0) (q := 23) dX8_named_22 (by decide) rfl ?_
        refine xi_ldcw (q := 26) dX8_named_23 kc_X8_257 rfl ?_
        refine xv_cS3 (q := 29) xm_X8_within ln_X8_77 dX8_named_26 ⟨(Nat.le_of_ble_eq_true rfl), (Nat.le_of_ble_eq_true rfl)⟩ (Nat.le_of_ble_eq_true rfl) ⟨rfl, rfl⟩ rfl (Nat.zero_le _) (Nat.zero_le _) ?_
        refine ⟨_, _, _, rfl, ?_⟩
        refine xi_if_ne (q := 32) (q2 := 35) dX8_named_29 (by decide) rfl (fun c_29 => ?_) (fun c_29 => ?_)
        · have g_29 : xs_i q 0 100000 = true := decide_eq_true (xn_b1 c_29)
          refine xi_aload_n (q := 36) dX8_named_35 rfl rfl ?_
          refine xi_iload_n (q := 37) dX8_named_36 rfl rfl ?_
          refine xv_cV1 (q := 40) xm_X8_engineAt ln_X8_142 dX8_named_37 ⟨by omega, hS.1.1⟩ rfl ⟨(Nat.le_of_ble_eq_true rfl), (Nat.le_of_ble_eq_true rfl)⟩ (Nat.le_of_ble_eq_true rfl) ⟨rfl, rfl⟩ rfl (Nat.zero_le _) (Nat.zero_le _) ?_
          refine ⟨_, kp, rfl, hS, by omega, by omega, fun hE37 => ?_, fun hE37 => ?_⟩
          · skip
            refine xi_astore (q := 42) dX8_named_40 (Nat.le_of_ble_eq_true rfl) rfl ?_
            refine xi_aload_n (q := 43) dX8_named_42 rfl rfl ?_
            refine xi_getf (q := 46) dX8_named_43 fl_X8_23 ⟨by omega, hS.1.1⟩ rfl rfl ?_
            refine xi_iload_n (q := 47) dX8_named_46 rfl rfl ?_
            refine xi_aald (q := 48) dX8_named_47 ⟨by omega, hS.1.2.2.2⟩ rfl (xv_ixN (by omega) (by omega)) (xs_ai (by omega)) rfl ?_
            refine xi_astore (q := 50) dX8_named_48 (Nat.le_of_ble_eq_true rfl) rfl ?_
            refine xi_aload (q := 52) dX8_named_50 rfl rfl ?_
            refine xi_ifnull_r (q := 55) dX8_named_52 rfl ?_
            refine xi_aload (q := 57) dX8_named_55 rfl rfl ?_
            refine xi_getf (q := 60) dX8_named_57 fl_X8_139 ⟨by omega, (hS.2.2.2.1 kp (by omega)).1⟩ rfl rfl ?_
            refine xi_if_ne (q := 63) (q2 := 66) dX8_named_60 (by decide) rfl (fun c_60 => ?_) (fun c_60 => ?_)
            · skip
              refine xi_aload_n (q := 67) dX8_named_66 rfl rfl ?_
              obtain ⟨f4_67, s4_67, t4_67, h4_67, h5_67⟩ := hS.2.2.2.2.2.1
              refine xi_getf (q := 70) dX8_named_67 fl_X8_28 ⟨by omega, hS.1.1⟩ rfl rfl ?_
              refine xi_aload (q := 72) dX8_named_70 rfl rfl ?_
              refine xv_cV1 (q := 75) xm_X0_resemble ln_X8_155 dX8_named_72 ⟨by omega, h4_67⟩ rfl ⟨(Nat.le_of_ble_eq_true rfl), (Nat.le_of_ble_eq_true rfl)⟩ (Nat.le_of_ble_eq_true rfl) ⟨rfl, rfl⟩ rfl (Nat.zero_le _) (Nat.zero_le _) ?_
              refine ⟨4, _, _, _, 59 + 2 * kp, _, _, _, rfl, by omega, h4_67, h5_67, by omega, (hS.2.2.1 kp (by omega)).1, (hS.2.2.1 kp (by omega)).2, by omega, fun h8 p1 p3 p2 => ?_⟩
              have S80 := xs_St1 hS ⟨_, _, _, p1, p3⟩ (fun i hi => p2 i (by omega) (by omega))
              refine xi_aload_n (q := 76) dX8_named_75 rfl rfl ?_
              obtain ⟨nb_76, nl_76, ng_76, hN_76, hM_76⟩ := S80.2.2.2.2.2.2.2.2.2.1
              refine xi_getf (q := 79) dX8_named_76 fl_X8_54 ⟨by omega, S80.1.1⟩ rfl rfl ?_
              refine xi_aload (q := 81) dX8_named_79 rfl rfl ?_
              refine xi_aload_n (q := 82) dX8_named_81 rfl rfl ?_
              refine xi_getf (q := 85) dX8_named_82 fl_X8_28 ⟨by omega, S80.1.1⟩ rfl rfl ?_
              refine xi_aload_n (q := 86) dX8_named_85 rfl rfl ?_
              obtain ⟨dn_86, wk_86, dk_86, r1_86, r2_86, r3_86, r4_86, hP_86⟩ := S80.2.2.2.2.2.2.2.2.1
              refine xi_getf (q := 89) dX8_named_86 fl_X8_47 ⟨by omega, S80.1.1⟩ rfl rfl ?_
              refine xv_cV3 (q := 92) xm_X4_seek ln_X8_258 dX8_named_89 ⟨by omega, hN_76⟩ rfl ⟨(Nat.le_of_ble_eq_true rfl), (Nat.le_of_ble_eq_true rfl)⟩ (Nat.le_of_ble_eq_true rfl) ⟨rfl, rfl⟩ rfl (Nat.zero_le _) (Nat.zero_le _) ?_
              refine ⟨71 + 2 * kp, _, _, _, _, 4, _, _, _, _, _, _, _, _, _, _, _, _, _, rfl, by omega, p1, p3, by omega, (S80.2.2.2.1 kp (by omega)).1, (S80.2.2.2.1 kp (by omega)).2, hP_86, by omega, by omega, by omega, (hV.2.2.2.1 kp (by omega) hE37).1, (hV.2.2.2.2.2.1 kp (by omega) c_60).2.2.1, hN_76, hM_76, by omega, by omega, fun h9 dn9 r91 r92 r93 r94 s9 u1 u2 u3 u4 u5 => ?_⟩
              have S92 := xs_St145 S80 ⟨_, _, _, u2, (u5 5 (by omega) (by omega) (by omega)).trans p3⟩ ⟨_, _, _, _, _, _, _, u1⟩ ⟨_, _, _, u3, u4⟩ (fun i i1 i2 i3 i4 => u5 i i1 i2 i3)
              obtain ⟨G, hG⟩ : ∃ G : Nat → Int32, G = xs_mf σ kp := ⟨_, rfl⟩
              replace u3 : h9 22 = .inr (4, [.ref 23, .int (nI (xs_bst G 13)), .int (G (xs_bst G 13))]) := u3.trans (by rw [hG]; rfl)
              replace u4 : h9 23 = .inl (.int, 13, .inl G) := u4.trans (by rw [hG]; rfl)
              refine xi_iload_n (q := 93) dX8_named_92 rfl rfl ?_
              refine xi_if_ne (q := 96) (q2 := 108) dX8_named_93 (by decide) rfl (fun c_93 => ?_) (fun c_93 => ?_)
              · skip
                refine xi_aload_n (q := 109) dX8_named_108 rfl rfl ?_
                refine xi_iload_n (q := 110) dX8_named_109 rfl rfl ?_
                refine xi_iconst (x := 1) (q := 111) dX8_named_110 (by decide) rfl ?_
                refine xi_icmp_ne (q := 114) (q2 := 124) dX8_named_111 (by decide) rfl (fun c_111 => ?_) (fun c_111 => ?_)
                · skip
                  refine xi_aload_n (q := 125) dX8_named_124 rfl rfl ?_
                  refine xi_getf (q := 128) dX8_named_125 fl_X8_54 ⟨by omega, S92.1.1⟩ rfl rfl ?_
                  refine xi_iload_n (q := 129) dX8_named_128 rfl rfl ?_
                  refine xv_cV1 (q := 132) xm_X4_doubt ln_X8_268 dX8_named_129 ⟨by omega, u3⟩ rfl ⟨(Nat.le_of_ble_eq_true rfl), (Nat.le_of_ble_eq_true rfl)⟩ (Nat.le_of_ble_eq_true rfl) ⟨rfl, rfl⟩ rfl (Nat.zero_le _) (Nat.zero_le _) ?_
                  refine ⟨_, _, _, _, rfl, u3, u4, by omega, ?_⟩
                  refine xv_cV1 (q := 135) xm_X8_answered ln_X8_90 dX8_named_132 ⟨by omega, S92.1.1⟩ rfl ⟨(Nat.le_of_ble_eq_true rfl), (Nat.le_of_ble_eq_true rfl)⟩ (Nat.le_of_ble_eq_true rfl) ⟨rfl, rfl⟩ rfl (Nat.zero_le _) (Nat.zero_le _) ?_
                  refine ⟨_, _, rfl, S92, by omega, fun H4 S4 F4 => ?_⟩
                  refine xi_ret ⟨_, rfl, rfl, dX8_named_135⟩ (Nat.zero_le _) (Nat.zero_le _) ?_
                  exact xs_fin hp (by simp only [xs_named, xs_onE, xs_onP, xs_fn, xs_an, Bool.not_false, Bool.not_true, Bool.true_or, Bool.false_or, Bool.and_true, Bool.true_and, Bool.and_false, Bool.false_and, Bool.false_eq_true, if_true, if_false, ↓reduceIte, g_4, g_13, decide_eq_true c_18, g_29, hE37, c_60, ← hG, c_93, c_111, xs_kk0 (k := kp) (by omega)]) _ S4 (fun i hi => (F4 i (by omega)).trans ((u5 i (by omega) (by omega) (by omega)).trans ((p2 i (by omega) (by omega)).trans (rfl))))
                · skip
                  refine xi_aload_n (q := 115) dX8_named_114 rfl rfl ?_
                  refine xi_getf (q := 118) dX8_named_115 fl_X8_54 ⟨by omega, S92.1.1⟩ rfl rfl ?_
                  refine xi_getf (q := 121) dX8_named_118 fl_X8_265 ⟨by omega, u3⟩ rfl rfl ?_
                  refine xi_goto (q := 132) dX8_named_121 (by decide) ?_
                  refine xv_cV1 (q := 135) xm_X8_answered ln_X8_90 dX8_named_132 ⟨by omega, S92.1.1⟩ rfl ⟨(Nat.le_of_ble_eq_true rfl), (Nat.le_of_ble_eq_true rfl)⟩ (Nat.le_of_ble_eq_true rfl) ⟨rfl, rfl⟩ rfl (Nat.zero_le _) (Nat.zero_le _) ?_
                  refine ⟨_, _, rfl, S92, by omega, fun H5 S5 F5 => ?_⟩
                  refine xi_ret ⟨_, rfl, rfl, dX8_named_135⟩ (Nat.zero_le _) (Nat.zero_le _) ?_
                  exact xs_fin hp (by simp only [xs_named, xs_onE, xs_onP, xs_fn, xs_an, Bool.not_false, Bool.not_true, Bool.true_or, Bool.false_or, Bool.and_true, Bool.true_and, Bool.and_false, Bool.false_and, Bool.false_eq_true, if_true, if_false, ↓reduceIte, g_4, g_13, decide_eq_true c_18, g_29, hE37, c_60, ← hG, c_93, eq_true c_111, xs_kk0 (k := kp) (by omega)]) _ S5 (fun i hi => (F5 i (by omega)).trans ((u5 i (by omega) (by omega) (by omega)).trans ((p2 i (by omega) (by omega)).trans (rfl))))
              · skip
                refine xi_aload_n (q := 97) dX8_named_96 rfl rfl ?_
                refine xi_aload_n (q := 98) dX8_named_97 rfl rfl ?_
                refine xi_getf (q := 101) dX8_named_98 fl_X8_54 ⟨by omega, S92.1.1⟩ rfl rfl ?_
                refine xi_getf (q := 104) dX8_named_101 fl_X8_262 ⟨by omega, u3⟩ rfl rfl ?_
                refine xv_cV1 (q := 107) xm_X8_answered ln_X8_90 dX8_named_104 ⟨by omega, S92.1.1⟩ rfl ⟨(Nat.le_of_ble_eq_true rfl), (Nat.le_of_ble_eq_true rfl)⟩ (Nat.le_of_ble_eq_true rfl) ⟨rfl, rfl⟩ rfl (Nat.zero_le _) (Nat.zero_le _) ?_
                refine ⟨_, _, rfl, S92, by omega, fun H6 S6 F6 => ?_⟩
                refine xi_ret ⟨_, rfl, rfl, dX8_named_107⟩ (Nat.zero_le _) (Nat.zero_le _) ?_
                exact xs_fin hp (by simp only [xs_named, xs_onE, xs_onP, xs_fn, xs_an, Bool.not_false, Bool.not_true, Bool.true_or, Bool.false_or, Bool.and_true, Bool.true_and, Bool.and_false, Bool.false_and, Bool.false_eq_true, if_true, if_false, ↓reduceIte, g_4, g_13, decide_eq_true c_18, g_29, hE37, c_60, ← hG, eq_true c_93, xs_kk0 (k := kp) (by omega)]) _ S6 (fun i hi => (F6 i (by omega)).trans ((u5 i (by omega) (by omega) (by omega)).trans ((p2 i (by omega) (by omega)).trans (rfl))))
            · skip
              refine xi_ldc (q := 65) dX8_named_63 kc_X8_252 rfl ?_
              refine xi_ret ⟨_, rfl, rfl, dX8_named_65⟩ (Nat.zero_le _) (Nat.zero_le _) ?_
              exact xs_fin hp (by simp only [xs_named, xs_onE, xs_onP, xs_fn, xs_an, Bool.not_false, Bool.not_true, Bool.true_or, Bool.false_or, Bool.and_true, Bool.true_and, Bool.and_false, Bool.false_and, Bool.false_eq_true, if_true, if_false, ↓reduceIte, g_4, g_13, decide_eq_true c_18, g_29, hE37, eq_true c_60, xs_kk0 (k := kp) (by omega)]) _ hS (fun i hi => rfl)
          · skip
            refine xi_astoreN (q := 42) dX8_named_40 (Nat.le_of_ble_eq_true rfl) rfl ?_
            refine xi_aload_n (q := 43) dX8_named_42 rfl rfl ?_
            refine xi_getf (q := 46) dX8_named_43 fl_X8_23 ⟨by omega, hS.1.1⟩ rfl rfl ?_
            refine xi_iload_n (q := 47) dX8_named_46 rfl rfl ?_
            refine xi_aald (q := 48) dX8_named_47 ⟨by omega, hS.1.2.2.2⟩ rfl (xv_ixN (by omega) (by omega)) (xs_ai (by omega)) rfl ?_
            refine xi_astore (q := 50) dX8_named_48 (Nat.le_of_ble_eq_true rfl) rfl ?_
            refine xi_aloadN (q := 52) dX8_named_50 rfl rfl ?_
            refine xi_ifnull_n (q := 63) dX8_named_52 (by decide) ?_
            refine xi_ldc (q := 65) dX8_named_63 kc_X8_252 rfl ?_
            refine xi_ret ⟨_, rfl, rfl, dX8_named_65⟩ (Nat.zero_le _) (Nat.zero_le _) ?_
            exact xs_fin hp (by simp only [xs_named, xs_onE, xs_onP, xs_fn, xs_an, Bool.not_false, Bool.not_true, Bool.true_or, Bool.false_or, Bool.and_true, Bool.true_and, Bool.and_false, Bool.false_and, Bool.false_eq_true, if_true, if_false, ↓reduceIte, g_4, g_13, decide_eq_true c_18, g_29, eq_true hE37, eq_true (xs_nk hV (k := kp) (by omega) hE37), xs_kk0 (k := kp) (by omega)]) _ hS (fun i hi => rfl)
        · have g_29 : xs_i q 0 100000 = false := decide_eq_false (xn_b0 c_29)
          refine xi_ldc (q := 34) dX8_named_32 kc_X8_81 rfl ?_
          refine xi_ret ⟨_, rfl, rfl, dX8_named_34⟩ (Nat.zero_le _) (Nat.zero_le _) ?_
          exact xs_fin hp (by simp only [xs_named, xs_onE, xs_onP, xs_fn, xs_an, Bool.not_false, Bool.not_true, Bool.true_or, Bool.false_or, Bool.and_true, Bool.true_and, Bool.and_false, Bool.false_and, Bool.false_eq_true, if_true, if_false, ↓reduceIte, g_4, g_13, decide_eq_true c_18, g_29, xs_kk0 (k := kp) (by omega)]) _ hS (fun i hi => rfl)

def xs_bel (t k : Int32) : Bool := decide (k = 0) || (decide (k = t) || ((decide (k = 1) && decide (t = 2)) || (decide (k = 3) && decide (t = 4))))
set_option maxRecDepth 20000 in
set_option maxHeartbeats 2000000 in
/-- belongs -/
theorem xm_X8_belongs : xv_K yX8_belongs mX8_belongs (fun as h n Post => ∃ (t : Int32) (k : Int32), as = [.int t, .int k] ∧ Post (some (.int (if xs_bel t k = true then 1 else 0))) h n) := by
  refine xv_entry (by decide +kernel) rfl (fun h => absurd h (by decide)) ?_
  rintro X _ h n Post ⟨t, k, rfl, hp⟩
  refine ⟨Nat.le_of_ble_eq_true rfl, ?_⟩
  show xv_V X mX8_belongs Post 0 0 0 [(0, .int t), (1, .int k)] [] h n
  refine xi_iload_n (q := 1) dX8_belongs_0 rfl rfl ?_
  refine xi_if_eq (q := 4) (q2 := 29) dX8_belongs_1 (by decide) rfl (fun c_1 => ?_) (fun c_1 => ?_)
  · skip
    refine xi_iconst (x := 1) (q := 30) dX8_belongs_29 (by decide) rfl ?_
    refine xi_goto (q := 34) dX8_belongs_30 (by decide) ?_
    refine xi_ret ⟨_, rfl, rfl, dX8_belongs_34⟩ (Nat.zero_le _) (Nat.zero_le _) ?_
    exact xv_eqb1 hp (by unfold xs_bel; simp only [decide_eq_true c_1, Bool.true_or, Bool.or_true, Bool.false_or, Bool.or_false, Bool.and_true, Bool.and_false, Bool.true_and, Bool.false_and, Bool.false_eq_true, not_false_eq_true])
  · skip
    refine xi_iload_n (q := 5) dX8_belongs_4 rfl rfl ?_
    refine xi_iload_n (q := 6) dX8_belongs_5 rfl rfl ?_
    refine xi_icmp_eq (q := 9) (q2 := 29) dX8_belongs_6 (by decide) rfl (fun c_6 => ?_) (fun c_6 => ?_)
    · skip
      refine xi_iconst (x := 1) (q := 30) dX8_belongs_29 (by decide) rfl ?_
      refine xi_goto (q := 34) dX8_belongs_30 (by decide) ?_
      refine xi_ret ⟨_, rfl, rfl, dX8_belongs_34⟩ (Nat.zero_le _) (Nat.zero_le _) ?_
      exact xv_eqb1 hp (by unfold xs_bel; simp only [decide_eq_false c_1, decide_eq_true c_6, Bool.true_or, Bool.or_true, Bool.false_or, Bool.or_false, Bool.and_true, Bool.and_false, Bool.true_and, Bool.false_and, Bool.false_eq_true, not_false_eq_true])
    · skip
      refine xi_iload_n (q := 10) dX8_belongs_9 rfl rfl ?_
      refine xi_iconst (x := 1) (q := 11) dX8_belongs_10 (by decide) rfl ?_
      refine xi_icmp_ne (q := 14) (q2 := 19) dX8_belongs_11 (by decide) rfl (fun c_11 => ?_) (fun c_11 => ?_)
      · skip
        refine xi_iload_n (q := 20) dX8_belongs_19 rfl rfl ?_
        refine xi_iconst (x := 3) (q := 21) dX8_belongs_20 (by decide) rfl ?_
        refine xi_icmp_ne (q := 24) (q2 := 33) dX8_belongs_21 (by decide) rfl (fun c_21 => ?_) (fun c_21 => ?_)
        · skip
          refine xi_iconst (x := 0) (q := 34) dX8_belongs_33 (by decide) rfl ?_
          refine xi_ret ⟨_, rfl, rfl, dX8_belongs_34⟩ (Nat.zero_le _) (Nat.zero_le _) ?_
          exact xv_eqb0 hp (by unfold xs_bel; simp only [decide_eq_false c_1, decide_eq_false c_6, decide_eq_false c_11, decide_eq_false c_21, Bool.true_or, Bool.or_true, Bool.false_or, Bool.or_false, Bool.and_true, Bool.and_false, Bool.true_and, Bool.false_and, Bool.false_eq_true, not_false_eq_true])
        · skip
          refine xi_iload_n (q := 25) dX8_belongs_24 rfl rfl ?_
          refine xi_iconst (x := 4) (q := 26) dX8_belongs_25 (by decide) rfl ?_
          refine xi_icmp_ne (q := 29) (q2 := 33) dX8_belongs_26 (by decide) rfl (fun c_26 => ?_) (fun c_26 => ?_)
          · skip
            refine xi_iconst (x := 0) (q := 34) dX8_belongs_33 (by decide) rfl ?_
            refine xi_ret ⟨_, rfl, rfl, dX8_belongs_34⟩ (Nat.zero_le _) (Nat.zero_le _) ?_
            exact xv_eqb0 hp (by unfold xs_bel; simp only [decide_eq_false c_1, decide_eq_false c_6, decide_eq_false c_11, decide_eq_true c_21, decide_eq_false c_26, Bool.true_or, Bool.or_true, Bool.false_or, Bool.or_false, Bool.and_true, Bool.and_false, Bool.true_and, Bool.false_and, Bool.false_eq_true, not_false_eq_true])
          · skip
            refine xi_iconst (x := 1) (q := 30) dX8_belongs_29 (by decide) rfl ?_
            refine xi_goto (q := 34) dX8_belongs_30 (by decide) ?_
            refine xi_ret ⟨_, rfl, rfl, dX8_belongs_34⟩ (Nat.zero_le _) (Nat.zero_le _) ?_
            exact xv_eqb1 hp (by unfold xs_bel; simp only [decide_eq_false c_1, decide_eq_false c_6, decide_eq_false c_11, decide_eq_true c_21, decide_eq_true c_26, Bool.true_or, Bool.or_true, Bool.false_or, Bool.or_false, Bool.and_true, Bool.and_false, Bool.true_and, Bool.false_and, Bool.false_eq_true, not_false_eq_true])
      · skip
        refine xi_iload_n (q := 15) dX8_belongs_14 rfl rfl ?_
        refine xi_iconst (x := 2) (q := 16) dX8_belongs_15 (by decide) rfl ?_
        refine xi_icmp_eq (q := 19) (q2 := 29) dX8_belongs_16 (by decide) rfl (fun c_16 => ?_) (fun c_16 => ?_)
        · skip
          refine xi_iconst (x := 1) (q := 30) dX8_belongs_29 (by decide) rfl ?_
          refine xi_goto (q := 34) dX8_belongs_30 (by decide) ?_
          refine xi_ret ⟨_, rfl, rfl, dX8_belongs_34⟩ (Nat.zero_le _) (Nat.zero_le _) ?_
          exact xv_eqb1 hp (by unfold xs_bel; simp only [decide_eq_false c_1, decide_eq_false c_6, decide_eq_true c_11, decide_eq_true c_16, Bool.true_or, Bool.or_true, Bool.false_or, Bool.or_false, Bool.and_true, Bool.and_false, Bool.true_and, Bool.false_and, Bool.false_eq_true, not_false_eq_true])
        · skip
          refine xi_iload_n (q := 20) dX8_belongs_19 rfl rfl ?_
          refine xi_iconst (x := 3) (q := 21) dX8_belongs_20 (by decide) rfl ?_
          refine xi_icmp_ne (q := 24) (q2 := 33) dX8_belongs_21 (by decide) rfl (fun c_21 => ?_) (fun c_21 => ?_)
          · skip
            refine xi_iconst (x := 0) (q := 34) dX8_belongs_33 (by decide) rfl ?_
            refine xi_ret ⟨_, rfl, rfl, dX8_belongs_34⟩ (Nat.zero_le _) (Nat.zero_le _) ?_
            exact xv_eqb0 hp (by unfold xs_bel; simp only [decide_eq_false c_1, decide_eq_false c_6, decide_eq_true c_11, decide_eq_false c_16, decide_eq_false c_21, Bool.true_or, Bool.or_true, Bool.false_or, Bool.or_false, Bool.and_true, Bool.and_false, Bool.true_and, Bool.false_and, Bool.false_eq_true, not_false_eq_true])
          · skip
            refine xi_iload_n (q := 25) dX8_belongs_24 rfl rfl ?_
            refine xi_iconst (x := 4) (q := 26) dX8_belongs_25 (by decide) rfl ?_
            refine xi_icmp_ne (q := 29) (q2 := 33) dX8_belongs_26 (by decide) rfl (fun c_26 => ?_) (fun c_26 => ?_)
            · skip
              refine xi_iconst (x := 0) (q := 34) dX8_belongs_33 (by decide) rfl ?_
              refine xi_ret ⟨_, rfl, rfl, dX8_belongs_34⟩ (Nat.zero_le _) (Nat.zero_le _) ?_
              exact xv_eqb0 hp (by unfold xs_bel; simp only [decide_eq_false c_1, decide_eq_false c_6, decide_eq_true c_11, decide_eq_false c_16, decide_eq_true c_21, decide_eq_false c_26, Bool.true_or, Bool.or_true, Bool.false_or, Bool.or_false, Bool.and_true, Bool.and_false, Bool.true_and, Bool.false_and, Bool.false_eq_true, not_false_eq_true])
            · skip
              refine xi_iconst (x := 1) (q := 30) dX8_belongs_29 (by decide) rfl ?_
              refine xi_goto (q := 34) dX8_belongs_30 (by decide) ?_
              refine xi_ret ⟨_, rfl, rfl, dX8_belongs_34⟩ (Nat.zero_le _) (Nat.zero_le _) ?_
              exact xv_eqb1 hp (by unfold xs_bel; simp only [decide_eq_false c_1, decide_eq_false c_6, decide_eq_true c_11, decide_eq_false c_16, decide_eq_true c_21, decide_eq_true c_26, Bool.true_or, Bool.or_true, Bool.false_or, Bool.or_false, Bool.and_true, Bool.and_false, Bool.true_and, Bool.false_and, Bool.false_eq_true, not_false_eq_true])

def xs_tk (f : Nat → Int32) (s : Int32) : Int32 := if s = 0 then (if xs_unl f s ≤ 6 then 2 else 1) else (if xs_wrk f s 6 (1000 * 4 / 4) ≤ 0 then 4 else 3)
theorem xs_tkr {h : xv_H} {n : Nat} {Post : xv_P} {σ : xs_Sg} {x y : Int32} (hp : ∀ h' : xv_H, xs_S h' σ → (∀ i, 83 ≤ i → h' i = h i) → Post (some (.int x)) h' n) (e : x = y) {h' : xv_H} (hS : xs_S h' σ) (hf : ∀ i, 83 ≤ i → h' i = h i) : Post (some (.int y)) h' n := e ▸ hp h' hS hf
set_option maxRecDepth 20000 in
set_option maxHeartbeats 2000000 in
/-- toldKind -/
theorem xm_X8_toldKind : xv_K yX8_toldKind mX8_toldKind (fun as h n Post => ∃ (σ : xs_Sg) (kp : Nat), as = [.ref 0, .ref (59 + 2 * kp)] ∧ (xs_S h σ) ∧ (83 ≤ n) ∧ (xs_V σ) ∧ (kp < 6) ∧ (¬ σ 6 kp 0 = 0) ∧ (∀ h' : xv_H, xs_S h' σ → (∀ i, 83 ≤ i → h' i = h i) → Post (some (.int (xs_tk (σ 4 kp) (σ 5 kp 0)))) h' n)) := by
  refine xv_entry (by decide +kernel) rfl (fun h => absurd h (by decide)) ?_
  rintro X _ h n Post ⟨σ, kp, rfl, hS, h83, hV, hk, hE, hp⟩
  refine ⟨Nat.le_of_ble_eq_true rfl, ?_⟩
  show xv_V X mX8_toldKind Post 0 0 0 [(0, .ref 0), (1, .ref (59 + 2 * kp))] [] h n
  obtain ⟨dn_, wk_, dk_, r1_, r2_, r3_, r4_, hP_⟩ := hS.2.2.2.2.2.2.2.2.1
  obtain ⟨ga_, gg_, gl_, gw_, hG_⟩ := hS.2.2.2.2.2.2.2.1
  refine xi_aload_n (q := 1) dX8_toldKind_0 rfl rfl ?_
  refine xi_getf (q := 4) dX8_toldKind_1 fl_X8_152 ⟨by omega, (hS.2.2.1 kp (by omega)).1⟩ rfl rfl ?_
  refine xi_if_eq (q := 7) (q2 := 37) dX8_toldKind_4 (by decide) rfl (fun c_4 => ?_) (fun c_4 => ?_)
  · refine xi_aload_n (q := 38) dX8_toldKind_37 rfl rfl ?_
    refine xi_getf (q := 41) dX8_toldKind_38 fl_X8_40 ⟨by omega, hS.1.1⟩ rfl rfl ?_
    refine xi_aload_n (q := 42) dX8_toldKind_41 rfl rfl ?_
    refine xv_cV1 (q := 45) xm_X3_unlike ln_X8_183 dX8_toldKind_42 ⟨by omega, hG_.1⟩ rfl ⟨(Nat.le_of_ble_eq_true rfl), (Nat.le_of_ble_eq_true rfl)⟩ (Nat.le_of_ble_eq_true rfl) ⟨rfl, rfl⟩ rfl (Nat.zero_le _) (Nat.zero_le _) ?_
    refine ⟨_, _, _, _, 59 + 2 * kp, _, _, _, rfl, by omega, (hS.2.2.1 kp (by omega)).1, (hS.2.2.1 kp (by omega)).2, hG_, by omega, by omega, (hV.2.2.2.1 kp hk hE).1.2.2.1, fun h9 w9 q1 q2 => ?_⟩
    obtain ⟨U, hU⟩ : ∃ U, U = xs_unl (σ 4 kp) (σ 5 kp 0) := ⟨_, rfl⟩
    rw [← hU]
    refine xi_bipush (x := 6) (q := 47) dX8_toldKind_45 (by decide) rfl ?_
    refine xi_icmp_gt (q := 50) (q2 := 54) dX8_toldKind_47 (by decide) rfl (fun c_47 => ?_) (fun c_47 => ?_)
    · refine xi_iconst (x := 1) (q := 55) dX8_toldKind_54 (by decide) rfl ?_
      refine xi_ret ⟨_, rfl, rfl, dX8_toldKind_55⟩ (Nat.zero_le _) (Nat.zero_le _) ?_
      refine xs_tkr hp (by unfold xs_tk; rw [if_pos c_4, ← hU]; exact if_neg (fun z => by rw [xn_lt] at c_47; rw [xn_le] at z; omega)) (xs_St3 hS ⟨_, _, _, _, q1⟩ q2) (fun i hi => q2 i (by omega))
    · refine xi_iconst (x := 2) (q := 51) dX8_toldKind_50 (by decide) rfl ?_
      refine xi_goto (q := 55) dX8_toldKind_51 (by decide) ?_
      refine xi_ret ⟨_, rfl, rfl, dX8_toldKind_55⟩ (Nat.zero_le _) (Nat.zero_le _) ?_
      refine xs_tkr hp (by unfold xs_tk; rw [if_pos c_4, ← hU]; exact if_pos (by rw [xn_lt] at c_47; rw [xn_le]; omega)) (xs_St3 hS ⟨_, _, _, _, q1⟩ q2) (fun i hi => q2 i (by omega))
  · refine xi_aload_n (q := 8) dX8_toldKind_7 rfl rfl ?_
    refine xi_getf (q := 11) dX8_toldKind_8 fl_X8_47 ⟨by omega, hS.1.1⟩ rfl rfl ?_
    refine xi_aload_n (q := 12) dX8_toldKind_11 rfl rfl ?_
    refine xi_bipush (x := 6) (q := 14) dX8_toldKind_12 (by decide) rfl ?_
    refine xi_sipush (x := 1000) (q := 17) dX8_toldKind_14 (by decide) rfl ?_
    refine xi_iconst (x := 4) (q := 18) dX8_toldKind_17 (by decide) rfl ?_
    refine xv_cV4 (q := 21) xm_X5_measure ln_X8_226 dX8_toldKind_18 ⟨by omega, hP_.1⟩ rfl ⟨(Nat.le_of_ble_eq_true rfl), (Nat.le_of_ble_eq_true rfl)⟩ (Nat.le_of_ble_eq_true rfl) ⟨rfl, rfl⟩ rfl (Nat.zero_le _) (Nat.zero_le _) ?_
    refine ⟨_, _, _, _, _, _, _, 59 + 2 * kp, _, _, _, 6, 1000, 4, rfl, by omega, (hS.2.2.1 kp (by omega)).1, (hS.2.2.1 kp (by omega)).2, hP_, by omega, by omega, (hV.2.2.2.1 kp hk hE).1, by decide, by decide, fun h9 dn9 r91 r92 r93 r94 q1 q2 => ?_⟩
    obtain ⟨W, hW⟩ : ∃ W, W = xs_wrk (σ 4 kp) (σ 5 kp 0) 6 (1000 * 4 / 4) := ⟨_, rfl⟩
    obtain ⟨K, hK⟩ : ∃ K, K = xs_drk (σ 4 kp) (σ 5 kp 0) 6 (1000 * 4 / 4) := ⟨_, rfl⟩
    rw [show xs_wrk _ _ _ _ = W from hW.symm, show xs_drk _ _ _ _ = K from hK.symm] at q1
    refine xi_aload_n (q := 22) dX8_toldKind_21 rfl rfl ?_
    refine xi_getf (q := 25) dX8_toldKind_22 fl_X8_47 ⟨by omega, (q2 _ (by omega)).trans hS.1.1⟩ rfl rfl ?_
    refine xi_getf (q := 28) dX8_toldKind_25 fl_X8_230 ⟨by omega, q1.1⟩ rfl rfl ?_
    refine xi_if_gt (q := 31) (q2 := 35) dX8_toldKind_28 (by decide) rfl (fun c_28 => ?_) (fun c_28 => ?_)
    · refine xi_iconst (x := 3) (q := 36) dX8_toldKind_35 (by decide) rfl ?_
      refine xi_ret ⟨_, rfl, rfl, dX8_toldKind_36⟩ (Nat.zero_le _) (Nat.zero_le _) ?_
      refine xs_tkr hp (by unfold xs_tk; rw [if_neg c_4, ← hW]; exact if_neg (fun z => by rw [xn_lt] at c_28; rw [xn_le] at z; omega)) (xs_St4 hS ⟨_, _, _, _, _, _, _, q1⟩ q2) (fun i hi => q2 i (by omega))
    · refine xi_iconst (x := 4) (q := 32) dX8_toldKind_31 (by decide) rfl ?_
      refine xi_goto (q := 36) dX8_toldKind_32 (by decide) ?_
      refine xi_ret ⟨_, rfl, rfl, dX8_toldKind_36⟩ (Nat.zero_le _) (Nat.zero_le _) ?_
      refine xs_tkr hp (by unfold xs_tk; rw [if_neg c_4, ← hW]; exact if_pos (by rw [xn_lt] at c_28; rw [xn_le]; omega)) (xs_St4 hS ⟨_, _, _, _, _, _, _, q1⟩ q2) (fun i hi => q2 i (by omega))

def xs_kind (σ : xs_Sg) (p : Int32) : Int32 × xs_Sg := xs_onE σ p true fun j => xs_an σ (xs_tk (σ 4 j) (σ 5 j 0))
set_option maxRecDepth 20000 in
set_option maxHeartbeats 2000000 in
/-- kind -/
theorem xm_X8_kind : xv_K yX8_kind mX8_kind (fun as h n Post => ∃ (σ : xs_Sg) (p : Int32), as = [.ref 0, .int p] ∧ (xs_S h σ) ∧ (83 ≤ n) ∧ (xs_V σ) ∧ xs_D h n Post (xs_kind σ p)) := by
  refine xv_entry (by decide +kernel) rfl (fun h => absurd h (by decide)) ?_
  rintro X _ h n Post ⟨σ, p, rfl, hS, h83, hV, hp⟩
  refine ⟨Nat.le_of_ble_eq_true rfl, ?_⟩
  show xv_V X mX8_kind Post 0 0 0 [(0, .ref 0), (1, .int p)] [] h n
  refine xi_iload_n (q := 1) dX8_kind_0 rfl rfl ?_
  refine xv_cS1 (q := 4) xm_X8_isPlace ln_X8_125 dX8_kind_1 ⟨(Nat.le_of_ble_eq_true rfl), (Nat.le_of_ble_eq_true rfl)⟩ (Nat.le_of_ble_eq_true rfl) ⟨rfl, rfl⟩ rfl (Nat.zero_le _) (Nat.zero_le _) ?_
  refine ⟨_, rfl, ?_⟩
  refine xi_if_ne (q := 7) (q2 := 10) dX8_kind_4 (by decide) rfl (fun c_4 => ?_) (fun c_4 => ?_)
  · have g_4 : xs_i p 0 5 = true := decide_eq_true (xn_b1 c_4)
    obtain ⟨kp, hkp, rfl⟩ := xn_pk (m := 5) (by omega) (xn_b1 c_4)
    refine xi_aload_n (q := 11) dX8_kind_10 rfl rfl ?_
    refine xi_iload_n (q := 12) dX8_kind_11 rfl rfl ?_
    refine xv_cV1 (q := 15) xm_X8_engineAt ln_X8_142 dX8_kind_12 ⟨by omega, hS.1.1⟩ rfl ⟨(Nat.le_of_ble_eq_true rfl), (Nat.le_of_ble_eq_true rfl)⟩ (Nat.le_of_ble_eq_true rfl) ⟨rfl, rfl⟩ rfl (Nat.zero_le _) (Nat.zero_le _) ?_
    refine ⟨_, kp, rfl, hS, by omega, by omega, fun hE12 => ?_, fun hE12 => ?_⟩
    · skip
      refine xi_astore_n (q := 16) dX8_kind_15 (Nat.le_of_ble_eq_true rfl) rfl ?_
      refine xi_aload_n (q := 17) dX8_kind_16 rfl rfl ?_
      refine xi_ifnonnull_r (q := 26) dX8_kind_17 (by decide) ?_
      refine xi_aload_n (q := 27) dX8_kind_26 rfl rfl ?_
      refine xi_aload_n (q := 28) dX8_kind_27 rfl rfl ?_
      refine xi_aload_n (q := 29) dX8_kind_28 rfl rfl ?_
      refine xv_cV1 (q := 32) xm_X8_toldKind ln_X8_319 dX8_kind_29 ⟨by omega, hS.1.1⟩ rfl ⟨(Nat.le_of_ble_eq_true rfl), (Nat.le_of_ble_eq_true rfl)⟩ (Nat.le_of_ble_eq_true rfl) ⟨rfl, rfl⟩ rfl (Nat.zero_le _) (Nat.zero_le _) ?_
      refine ⟨σ, kp, rfl, hS, by omega, hV, by omega, hE12, fun h9 S92 q2 => ?_⟩
      refine xv_cV1 (q := 35) xm_X8_answered ln_X8_90 dX8_kind_32 ⟨by omega, S92.1.1⟩ rfl ⟨(Nat.le_of_ble_eq_true rfl), (Nat.le_of_ble_eq_true rfl)⟩ (Nat.le_of_ble_eq_true rfl) ⟨rfl, rfl⟩ rfl (Nat.zero_le _) (Nat.zero_le _) ?_
      refine ⟨_, _, rfl, S92, by omega, fun H1 S1 F1 => ?_⟩
      refine xi_ret ⟨_, rfl, rfl, dX8_kind_35⟩ (Nat.zero_le _) (Nat.zero_le _) ?_
      exact xs_fin hp (by simp only [xs_kind, xs_onE, xs_onP, xs_fn, xs_an, Bool.not_false, Bool.not_true, Bool.true_or, Bool.false_or, Bool.and_true, Bool.true_and, Bool.and_false, Bool.false_and, Bool.false_eq_true, if_true, if_false, ↓reduceIte, g_4, hE12, xs_kk0 (k := kp) (by omega)]) _ S1 (fun i hi => (F1 i (by omega)).trans ((q2 i hi).trans (rfl)))
    · skip
      refine xi_astore_nN (q := 16) dX8_kind_15 (Nat.le_of_ble_eq_true rfl) rfl ?_
      refine xi_aload_nN (q := 17) dX8_kind_16 rfl rfl ?_
      refine xi_ifnonnull_n (q := 20) dX8_kind_17 rfl ?_
      refine xi_aload_n (q := 21) dX8_kind_20 rfl rfl ?_
      refine xi_iconst (x := 1) (q := 22) dX8_kind_21 (by decide) rfl ?_
      refine xv_cV1 (q := 25) xm_X8_found ln_X8_82 dX8_kind_22 ⟨by omega, hS.1.1⟩ rfl ⟨(Nat.le_of_ble_eq_true rfl), (Nat.le_of_ble_eq_true rfl)⟩ (Nat.le_of_ble_eq_true rfl) ⟨rfl, rfl⟩ rfl (Nat.zero_le _) (Nat.zero_le _) ?_
      refine ⟨_, _, rfl, hS, by omega, fun H2 S2 F2 => ?_⟩
      refine xi_ret ⟨_, rfl, rfl, dX8_kind_25⟩ (Nat.zero_le _) (Nat.zero_le _) ?_
      exact xs_fin hp (by simp only [xs_kind, xs_onE, xs_onP, xs_fn, xs_an, Bool.not_false, Bool.not_true, Bool.true_or, Bool.false_or, Bool.and_true, Bool.true_and, Bool.and_false, Bool.false_and, Bool.false_eq_true, if_true, if_false, ↓reduceIte, g_4, eq_true hE12, xs_kk0 (k := kp) (by omega)]) _ S2 (fun i hi => (F2 i (by omega)).trans (rfl))
  · have g_4 : xs_i p 0 5 = false := decide_eq_false (xn_b0 c_4)
    refine xi_ldc (q := 9) dX8_kind_7 kc_X8_81 rfl ?_
    refine xi_ret ⟨_, rfl, rfl, dX8_kind_9⟩ (Nat.zero_le _) (Nat.zero_le _) ?_
    exact xs_fin hp (by simp only [xs_kind, xs_onE, xs_onP, xs_fn, xs_an, Bool.not_false, Bool.not_true, Bool.true_or, Bool.false_or, Bool.and_true, Bool.true_and, Bool.and_false, Bool.false_and, Bool.false_eq_true, if_true, if_false, ↓reduceIte, g_4]) _ hS (fun i hi => rfl)

def xs_is (σ : xs_Sg) (p w : Int32) : Int32 × xs_Sg := if (xs_i p 0 5 && xs_i w 0 4) = true then (if σ 6 p.toNatClampNeg 0 = 0 then (0, σ) else if xs_bel (xs_tk (σ 4 p.toNatClampNeg) (σ 5 p.toNatClampNeg 0)) w = true then (1, σ) else (0, σ)) else (-1000001, σ)
set_option maxRecDepth 20000 in
set_option maxHeartbeats 2000000 in
/-- is -/
theorem xm_X8_is : xv_K yX8_is mX8_is (fun as h n Post => ∃ (σ : xs_Sg) (p : Int32) (w : Int32), as = [.ref 0, .int p, .int w] ∧ (xs_S h σ) ∧ (83 ≤ n) ∧ (xs_V σ) ∧ xs_D h n Post (xs_is σ p w)) := by
  refine xv_entry (by decide +kernel) rfl (fun h => absurd h (by decide)) ?_
  rintro X _ h n Post ⟨σ, p, w, rfl, hS, h83, hV, hp⟩
  refine ⟨Nat.le_of_ble_eq_true rfl, ?_⟩
  show xv_V X mX8_is Post 0 0 0 [(0, .ref 0), (1, .int p), (2, .int w)] [] h n
  refine xi_iload_n (q := 1) dX8_is_0 rfl rfl ?_
  refine xv_cS1 (q := 4) xm_X8_isPlace ln_X8_125 dX8_is_1 ⟨(Nat.le_of_ble_eq_true rfl), (Nat.le_of_ble_eq_true rfl)⟩ (Nat.le_of_ble_eq_true rfl) ⟨rfl, rfl⟩ rfl (Nat.zero_le _) (Nat.zero_le _) ?_
  refine ⟨_, rfl, ?_⟩
  refine xi_if_eq (q := 7) (q2 := 16) dX8_is_4 (by decide) rfl (fun c_4 => ?_) (fun c_4 => ?_)
  · have g_4 : xs_i p 0 5 = false := decide_eq_false (xn_b0 c_4)
    refine xi_ldc (q := 18) dX8_is_16 kc_X8_81 rfl ?_
    refine xi_ret ⟨_, rfl, rfl, dX8_is_18⟩ (Nat.zero_le _) (Nat.zero_le _) ?_
    exact xs_fin hp (by simp only [xs_is, xs_onE, xs_onP, xs_fn, xs_an, Bool.not_false, Bool.not_true, Bool.true_or, Bool.false_or, Bool.and_true, Bool.true_and, Bool.and_false, Bool.false_and, Bool.false_eq_true, if_true, if_false, ↓reduceIte, g_4]) _ hS (fun i hi => rfl)
  · have g_4 : xs_i p 0 5 = true := decide_eq_true (xn_b1 c_4)
    obtain ⟨kp, hkp, rfl⟩ := xn_pk (m := 5) (by omega) (xn_b1 c_4)
    refine xi_iload_n (q := 8) dX8_is_7 rfl rfl ?_
    refine xi_iconst (x := 0) (q := 9) dX8_is_8 (by decide) rfl ?_
    refine xi_iconst (x := 4) (q := 10) dX8_is_9 (by decide) rfl ?_
    refine xv_cS3 (q := 13) xm_X8_within ln_X8_77 dX8_is_10 ⟨(Nat.le_of_ble_eq_true rfl), (Nat.le_of_ble_eq_true rfl)⟩ (Nat.le_of_ble_eq_true rfl) ⟨rfl, rfl⟩ rfl (Nat.zero_le _) (Nat.zero_le _) ?_
    refine ⟨_, _, _, rfl, ?_⟩
    refine xi_if_ne (q := 16) (q2 := 19) dX8_is_13 (by decide) rfl (fun c_13 => ?_) (fun c_13 => ?_)
    · have g_13 : xs_i w 0 4 = true := decide_eq_true (xn_b1 c_13)
      refine xi_aload_n (q := 20) dX8_is_19 rfl rfl ?_
      refine xi_iload_n (q := 21) dX8_is_20 rfl rfl ?_
      refine xv_cV1 (q := 24) xm_X8_engineAt ln_X8_142 dX8_is_21 ⟨by omega, hS.1.1⟩ rfl ⟨(Nat.le_of_ble_eq_true rfl), (Nat.le_of_ble_eq_true rfl)⟩ (Nat.le_of_ble_eq_true rfl) ⟨rfl, rfl⟩ rfl (Nat.zero_le _) (Nat.zero_le _) ?_
      refine ⟨_, kp, rfl, hS, by omega, by omega, fun hE21 => ?_, fun hE21 => ?_⟩
      · skip
        refine xi_astore_n (q := 25) dX8_is_24 (Nat.le_of_ble_eq_true rfl) rfl ?_
        refine xi_aload_n (q := 26) dX8_is_25 rfl rfl ?_
        refine xi_ifnull_r (q := 29) dX8_is_26 rfl ?_
        refine xi_aload_n (q := 30) dX8_is_29 rfl rfl ?_
        refine xi_aload_n (q := 31) dX8_is_30 rfl rfl ?_
        refine xv_cV1 (q := 34) xm_X8_toldKind ln_X8_319 dX8_is_31 ⟨by omega, hS.1.1⟩ rfl ⟨(Nat.le_of_ble_eq_true rfl), (Nat.le_of_ble_eq_true rfl)⟩ (Nat.le_of_ble_eq_true rfl) ⟨rfl, rfl⟩ rfl (Nat.zero_le _) (Nat.zero_le _) ?_
        refine ⟨σ, kp, rfl, hS, by omega, hV, by omega, hE21, fun h9 S92 q2 => ?_⟩
        refine xi_iload_n (q := 35) dX8_is_34 rfl rfl ?_
        refine xv_cS2 (q := 38) xm_X8_belongs ln_X8_322 dX8_is_35 ⟨(Nat.le_of_ble_eq_true rfl), (Nat.le_of_ble_eq_true rfl)⟩ (Nat.le_of_ble_eq_true rfl) ⟨rfl, rfl⟩ rfl (Nat.zero_le _) (Nat.zero_le _) ?_
        refine ⟨_, _, rfl, ?_⟩
        refine xi_if_eq (q := 41) (q2 := 45) dX8_is_38 (by decide) rfl (fun c_38 => ?_) (fun c_38 => ?_)
        · skip
          refine xi_iconst (x := 0) (q := 46) dX8_is_45 (by decide) rfl ?_
          refine xi_ret ⟨_, rfl, rfl, dX8_is_46⟩ (Nat.zero_le _) (Nat.zero_le _) ?_
          exact xs_fin hp (by simp only [xs_is, xs_onE, xs_onP, xs_fn, xs_an, Bool.not_false, Bool.not_true, Bool.true_or, Bool.false_or, Bool.and_true, Bool.true_and, Bool.and_false, Bool.false_and, Bool.false_eq_true, if_true, if_false, ↓reduceIte, g_4, g_13, hE21, (Bool.eq_false_iff.mpr (xn_b0 c_38)), xs_kk0 (k := kp) (by omega)]) _ S92 (fun i hi => (q2 i hi).trans (rfl))
        · skip
          refine xi_iconst (x := 1) (q := 42) dX8_is_41 (by decide) rfl ?_
          refine xi_goto (q := 46) dX8_is_42 (by decide) ?_
          refine xi_ret ⟨_, rfl, rfl, dX8_is_46⟩ (Nat.zero_le _) (Nat.zero_le _) ?_
          exact xs_fin hp (by simp only [xs_is, xs_onE, xs_onP, xs_fn, xs_an, Bool.not_false, Bool.not_true, Bool.true_or, Bool.false_or, Bool.and_true, Bool.true_and, Bool.and_false, Bool.false_and, Bool.false_eq_true, if_true, if_false, ↓reduceIte, g_4, g_13, hE21, (xn_b1 c_38), xs_kk0 (k := kp) (by omega)]) _ S92 (fun i hi => (q2 i hi).trans (rfl))
      · skip
        refine xi_astore_nN (q := 25) dX8_is_24 (Nat.le_of_ble_eq_true rfl) rfl ?_
        refine xi_aload_nN (q := 26) dX8_is_25 rfl rfl ?_
        refine xi_ifnull_n (q := 45) dX8_is_26 (by decide) ?_
        refine xi_iconst (x := 0) (q := 46) dX8_is_45 (by decide) rfl ?_
        refine xi_ret ⟨_, rfl, rfl, dX8_is_46⟩ (Nat.zero_le _) (Nat.zero_le _) ?_
        exact xs_fin hp (by simp only [xs_is, xs_onE, xs_onP, xs_fn, xs_an, Bool.not_false, Bool.not_true, Bool.true_or, Bool.false_or, Bool.and_true, Bool.true_and, Bool.and_false, Bool.false_and, Bool.false_eq_true, if_true, if_false, ↓reduceIte, g_4, g_13, eq_true hE21, xs_kk0 (k := kp) (by omega)]) _ hS (fun i hi => rfl)
    · have g_13 : xs_i w 0 4 = false := decide_eq_false (xn_b0 c_13)
      refine xi_ldc (q := 18) dX8_is_16 kc_X8_81 rfl ?_
      refine xi_ret ⟨_, rfl, rfl, dX8_is_18⟩ (Nat.zero_le _) (Nat.zero_le _) ?_
      exact xs_fin hp (by simp only [xs_is, xs_onE, xs_onP, xs_fn, xs_an, Bool.not_false, Bool.not_true, Bool.true_or, Bool.false_or, Bool.and_true, Bool.true_and, Bool.and_false, Bool.false_and, Bool.false_eq_true, if_true, if_false, ↓reduceIte, g_4, g_13, xs_kk0 (k := kp) (by omega)]) _ hS (fun i hi => rfl)

def xs_asK (σ : xs_Sg) (p w : Int32) : Int32 × xs_Sg := xs_onE σ p (xs_i w 0 4) fun j => if xs_bel (xs_tk (σ 4 j) (σ 5 j 0)) w = true then xs_an σ (σ 4 j 1) else xs_fn σ 3
set_option maxRecDepth 20000 in
set_option maxHeartbeats 2000000 in
/-- as -/
theorem xm_X8_as : xv_K yX8_as mX8_as (fun as h n Post => ∃ (σ : xs_Sg) (p : Int32) (w : Int32), as = [.ref 0, .int p, .int w] ∧ (xs_S h σ) ∧ (83 ≤ n) ∧ (xs_V σ) ∧ xs_D h n Post (xs_asK σ p w)) := by
  refine xv_entry (by decide +kernel) rfl (fun h => absurd h (by decide)) ?_
  rintro X _ h n Post ⟨σ, p, w, rfl, hS, h83, hV, hp⟩
  refine ⟨Nat.le_of_ble_eq_true rfl, ?_⟩
  show xv_V X mX8_as Post 0 0 0 [(0, .ref 0), (1, .int p), (2, .int w)] [] h n
  refine xi_iload_n (q := 1) dX8_as_0 rfl rfl ?_
  refine xv_cS1 (q := 4) xm_X8_isPlace ln_X8_125 dX8_as_1 ⟨(Nat.le_of_ble_eq_true rfl), (Nat.le_of_ble_eq_true rfl)⟩ (Nat.le_of_ble_eq_true rfl) ⟨rfl, rfl⟩ rfl (Nat.zero_le _) (Nat.zero_le _) ?_
  refine ⟨_, rfl, ?_⟩
  refine xi_if_eq (q := 7) (q2 := 16) dX8_as_4 (by decide) rfl (fun c_4 => ?_) (fun c_4 => ?_)
  · have g_4 : xs_i p 0 5 = false := decide_eq_false (xn_b0 c_4)
    refine xi_ldc (q := 18) dX8_as_16 kc_X8_81 rfl ?_
    refine xi_ret ⟨_, rfl, rfl, dX8_as_18⟩ (Nat.zero_le _) (Nat.zero_le _) ?_
    exact xs_fin hp (by simp only [xs_asK, xs_onE, xs_onP, xs_fn, xs_an, Bool.not_false, Bool.not_true, Bool.true_or, Bool.false_or, Bool.and_true, Bool.true_and, Bool.and_false, Bool.false_and, Bool.false_eq_true, if_true, if_false, ↓reduceIte, g_4]) _ hS (fun i hi => rfl)
  · have g_4 : xs_i p 0 5 = true := decide_eq_true (xn_b1 c_4)
    obtain ⟨kp, hkp, rfl⟩ := xn_pk (m := 5) (by omega) (xn_b1 c_4)
    refine xi_iload_n (q := 8) dX8_as_7 rfl rfl ?_
    refine xi_iconst (x := 0) (q := 9) dX8_as_8 (by decide) rfl ?_
    refine xi_iconst (x := 4) (q := 10) dX8_as_9 (by decide) rfl ?_
    refine xv_cS3 (q := 13) xm_X8_within ln_X8_77 dX8_as_10 ⟨(Nat.le_of_ble_eq_true rfl), (Nat.le_of_ble_eq_true rfl)⟩ (Nat.le_of_ble_eq_true rfl) ⟨rfl, rfl⟩ rfl (Nat.zero_le _) (Nat.zero_le _) ?_
    refine ⟨_, _, _, rfl, ?_⟩
    refine xi_if_ne (q := 16) (q2 := 19) dX8_as_13 (by decide) rfl (fun c_13 => ?_) (fun c_13 => ?_)
    · have g_13 : xs_i w 0 4 = true := decide_eq_true (xn_b1 c_13)
      refine xi_aload_n (q := 20) dX8_as_19 rfl rfl ?_
      refine xi_iload_n (q := 21) dX8_as_20 rfl rfl ?_
      refine xv_cV1 (q := 24) xm_X8_engineAt ln_X8_142 dX8_as_21 ⟨by omega, hS.1.1⟩ rfl ⟨(Nat.le_of_ble_eq_true rfl), (Nat.le_of_ble_eq_true rfl)⟩ (Nat.le_of_ble_eq_true rfl) ⟨rfl, rfl⟩ rfl (Nat.zero_le _) (Nat.zero_le _) ?_
      refine ⟨_, kp, rfl, hS, by omega, by omega, fun hE21 => ?_, fun hE21 => ?_⟩
      · skip
        refine xi_astore_n (q := 25) dX8_as_24 (Nat.le_of_ble_eq_true rfl) rfl ?_
        refine xi_aload_n (q := 26) dX8_as_25 rfl rfl ?_
        refine xi_ifnonnull_r (q := 35) dX8_as_26 (by decide) ?_
        refine xi_aload_n (q := 36) dX8_as_35 rfl rfl ?_
        refine xi_aload_n (q := 37) dX8_as_36 rfl rfl ?_
        refine xv_cV1 (q := 40) xm_X8_toldKind ln_X8_319 dX8_as_37 ⟨by omega, hS.1.1⟩ rfl ⟨(Nat.le_of_ble_eq_true rfl), (Nat.le_of_ble_eq_true rfl)⟩ (Nat.le_of_ble_eq_true rfl) ⟨rfl, rfl⟩ rfl (Nat.zero_le _) (Nat.zero_le _) ?_
        refine ⟨σ, kp, rfl, hS, by omega, hV, by omega, hE21, fun h9 S92 q2 => ?_⟩
        refine xi_iload_n (q := 41) dX8_as_40 rfl rfl ?_
        refine xv_cS2 (q := 44) xm_X8_belongs ln_X8_322 dX8_as_41 ⟨(Nat.le_of_ble_eq_true rfl), (Nat.le_of_ble_eq_true rfl)⟩ (Nat.le_of_ble_eq_true rfl) ⟨rfl, rfl⟩ rfl (Nat.zero_le _) (Nat.zero_le _) ?_
        refine ⟨_, _, rfl, ?_⟩
        refine xi_if_ne (q := 47) (q2 := 53) dX8_as_44 (by decide) rfl (fun c_44 => ?_) (fun c_44 => ?_)
        · skip
          refine xi_aload_n (q := 54) dX8_as_53 rfl rfl ?_
          refine xi_aload_n (q := 55) dX8_as_54 rfl rfl ?_
          refine xi_getf (q := 58) dX8_as_55 fl_X8_146 ⟨by omega, (S92.2.2.1 kp (by omega)).1⟩ rfl rfl ?_
          refine xi_iconst (x := 1) (q := 59) dX8_as_58 (by decide) rfl ?_
          refine xi_iald (q := 60) dX8_as_59 ⟨by omega, (S92.2.2.1 kp (by omega)).2⟩ ⟨xv_ink (by decide), (by decide : (1 : Int32).toNatClampNeg = 1)⟩ rfl ?_
          refine xv_cV1 (q := 63) xm_X8_answered ln_X8_90 dX8_as_60 ⟨by omega, S92.1.1⟩ rfl ⟨(Nat.le_of_ble_eq_true rfl), (Nat.le_of_ble_eq_true rfl)⟩ (Nat.le_of_ble_eq_true rfl) ⟨rfl, rfl⟩ rfl (Nat.zero_le _) (Nat.zero_le _) ?_
          refine ⟨_, _, rfl, S92, by omega, fun H1 S1 F1 => ?_⟩
          refine xi_ret ⟨_, rfl, rfl, dX8_as_63⟩ (Nat.zero_le _) (Nat.zero_le _) ?_
          exact xs_fin hp (by simp only [xs_asK, xs_onE, xs_onP, xs_fn, xs_an, Bool.not_false, Bool.not_true, Bool.true_or, Bool.false_or, Bool.and_true, Bool.true_and, Bool.and_false, Bool.false_and, Bool.false_eq_true, if_true, if_false, ↓reduceIte, g_4, g_13, hE21, (xn_b1 c_44), xs_kk0 (k := kp) (by omega)]) _ S1 (fun i hi => (F1 i (by omega)).trans ((q2 i hi).trans (rfl)))
        · skip
          refine xi_aload_n (q := 48) dX8_as_47 rfl rfl ?_
          refine xi_iconst (x := 3) (q := 49) dX8_as_48 (by decide) rfl ?_
          refine xv_cV1 (q := 52) xm_X8_found ln_X8_82 dX8_as_49 ⟨by omega, S92.1.1⟩ rfl ⟨(Nat.le_of_ble_eq_true rfl), (Nat.le_of_ble_eq_true rfl)⟩ (Nat.le_of_ble_eq_true rfl) ⟨rfl, rfl⟩ rfl (Nat.zero_le _) (Nat.zero_le _) ?_
          refine ⟨_, _, rfl, S92, by omega, fun H2 S2 F2 => ?_⟩
          refine xi_ret ⟨_, rfl, rfl, dX8_as_52⟩ (Nat.zero_le _) (Nat.zero_le _) ?_
          exact xs_fin hp (by simp only [xs_asK, xs_onE, xs_onP, xs_fn, xs_an, Bool.not_false, Bool.not_true, Bool.true_or, Bool.false_or, Bool.and_true, Bool.true_and, Bool.and_false, Bool.false_and, Bool.false_eq_true, if_true, if_false, ↓reduceIte, g_4, g_13, hE21, (Bool.eq_false_iff.mpr (xn_b0 c_44)), xs_kk0 (k := kp) (by omega)]) _ S2 (fun i hi => (F2 i (by omega)).trans ((q2 i hi).trans (rfl)))
      · skip
        refine xi_astore_nN (q := 25) dX8_as_24 (Nat.le_of_ble_eq_true rfl) rfl ?_
        refine xi_aload_nN (q := 26) dX8_as_25 rfl rfl ?_
        refine xi_ifnonnull_n (q := 29) dX8_as_26 rfl ?_
        refine xi_aload_n (q := 30) dX8_as_29 rfl rfl ?_
        refine xi_iconst (x := 1) (q := 31) dX8_as_30 (by decide) rfl ?_
        refine xv_cV1 (q := 34) xm_X8_found ln_X8_82 dX8_as_31 ⟨by omega, hS.1.1⟩ rfl ⟨(Nat.le_of_ble_eq_true rfl), (Nat.le_of_ble_eq_true rfl)⟩ (Nat.le_of_ble_eq_true rfl) ⟨rfl, rfl⟩ rfl (Nat.zero_le _) (Nat.zero_le _) ?_
        refine ⟨_, _, rfl, hS, by omega, fun H3 S3 F3 => ?_⟩
        refine xi_ret ⟨_, rfl, rfl, dX8_as_34⟩ (Nat.zero_le _) (Nat.zero_le _) ?_
        exact xs_fin hp (by simp only [xs_asK, xs_onE, xs_onP, xs_fn, xs_an, Bool.not_false, Bool.not_true, Bool.true_or, Bool.false_or, Bool.and_true, Bool.true_and, Bool.and_false, Bool.false_and, Bool.false_eq_true, if_true, if_false, ↓reduceIte, g_4, g_13, eq_true hE21, xs_kk0 (k := kp) (by omega)]) _ S3 (fun i hi => (F3 i (by omega)).trans (rfl))
    · have g_13 : xs_i w 0 4 = false := decide_eq_false (xn_b0 c_13)
      refine xi_ldc (q := 18) dX8_as_16 kc_X8_81 rfl ?_
      refine xi_ret ⟨_, rfl, rfl, dX8_as_18⟩ (Nat.zero_le _) (Nat.zero_le _) ?_
      exact xs_fin hp (by simp only [xs_asK, xs_onE, xs_onP, xs_fn, xs_an, Bool.not_false, Bool.not_true, Bool.true_or, Bool.false_or, Bool.and_true, Bool.true_and, Bool.and_false, Bool.false_and, Bool.false_eq_true, if_true, if_false, ↓reduceIte, g_4, g_13, xs_kk0 (k := kp) (by omega)]) _ hS (fun i hi => rfl)

