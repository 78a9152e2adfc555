def xs_minute (σ : xs_Sg) (p m g : Int32) : Int32 × xs_Sg := xs_onE σ p (xs_i m (-6) 6 && xs_i g 0 4) fun j => (xs_blo (xs_giv (xs_bur (σ 13 0)) (xs_drk (σ 4 j) (σ 5 j 0) m (xs_min (xs_bur (σ 13 0) 0) 2000 * g / 4) / 100)) 0, xs_fd (xs_fi σ (xs_blo (xs_giv (xs_bur (σ 13 0)) (xs_drk (σ 4 j) (σ 5 j 0) m (xs_min (xs_bur (σ 13 0) 0) 2000 * g / 4) / 100)))) 0)
def xs_vF (σ : xs_Sg) : Prop := (0 ≤ (σ 13 0 0).toInt ∧ (σ 13 0 0).toInt ≤ 1500) ∧ 0 ≤ (σ 13 0 1).toInt
theorem xn_min {x y : Int32} : (xs_min x y).toInt = if y.toInt < x.toInt then y.toInt else x.toInt := by
  unfold xs_min
  by_cases z : y < x
  · rw [if_pos z, if_pos ((xn_lt y x).mp z)]
  · rw [if_neg z, if_neg (fun w => z ((xn_lt y x).mpr w))]
theorem xn_burb {σ : xs_Sg} (h : xs_vF σ) : 0 ≤ (xs_min (xs_bur (σ 13 0) 0) 2000).toInt ∧ (xs_min (xs_bur (σ 13 0) 0) 2000).toInt ≤ 2000 := by
  have e1 : (xs_min (σ 13 0 1) 20).toInt = if 20 < (σ 13 0 1).toInt then 20 else (σ 13 0 1).toInt := xn_min
  have b1 : 0 ≤ (xs_min (σ 13 0 1) 20).toInt ∧ (xs_min (σ 13 0 1) 20).toInt ≤ 20 := by
    rw [e1]
    have := h.2
    split <;> omega
  have e2 : (5 * xs_min (σ 13 0 1) 20).toInt = 5 * (xs_min (σ 13 0 1) 20).toInt := by
    rw [xn_mul] <;> rw [show (5 : Int32).toInt = 5 from rfl] <;> omega
  have e3 : (xs_bur (σ 13 0) 0).toInt = (σ 13 0 0).toInt + 5 * (xs_min (σ 13 0 1) 20).toInt := by
    show (σ 13 0 0 + 5 * xs_min (σ 13 0 1) 20).toInt = _
    have := h.1
    rw [xn_add (by rw [e2]; omega) (by rw [e2]; omega), e2]
  have := h.1
  rw [xn_min, e3, show (2000 : Int32).toInt = 2000 from rfl]
  split <;> omega
set_option maxRecDepth 20000 in
set_option maxHeartbeats 2000000 in
/-- minute -/
theorem xm_X8_minute : xv_K yX8_minute mX8_minute (fun as h n Post => ∃ (σ : xs_Sg) (p : Int32) (m : Int32) (g : Int32), as = [.ref 0, .int p, .int m, .int g] ∧ (xs_S h σ) ∧ (83 ≤ n) ∧ (xs_V σ) ∧ (xs_vF σ) ∧ xs_D h n Post (xs_minute σ p m g)) := by
  refine xv_entry (by decide +kernel) rfl (fun h => absurd h (by decide)) ?_
  rintro X _ h n Post ⟨σ, p, m, g, rfl, hS, h83, hV, hF, hp⟩
  refine ⟨Nat.le_of_ble_eq_true rfl, ?_⟩
  show xv_V X mX8_minute Post 0 0 0 [(0, .ref 0), (1, .int p), (2, .int m), (3, .int g)] [] h n
  refine xi_iload_n (q := 1) dX8_minute_0 rfl rfl ?_
  refine xv_cS1 (q := 4) xm_X8_isPlace ln_X8_125 dX8_minute_1 ⟨(Nat.le_of_ble_eq_true rfl), (Nat.le_of_ble_eq_true rfl)⟩ (Nat.le_of_ble_eq_true rfl) ⟨rfl, rfl⟩ rfl (Nat.zero_le _) (Nat.zero_le _) ?_
  refine ⟨_, rfl, ?_⟩
  refine xi_if_eq (q := 7) (q2 := 21) dX8_minute_4 (by decide) rfl (fun c_4 => ?_) (fun c_4 => ?_)
  · have g_4 : xs_i p 0 5 = false := decide_eq_false (xn_b0 c_4)
    refine xi_ldc (q := 23) dX8_minute_21 kc_X8_81 rfl ?_
    refine xi_ret ⟨_, rfl, rfl, dX8_minute_23⟩ (Nat.zero_le _) (Nat.zero_le _) ?_
    exact xs_fin hp (by simp only [xs_minute, xs_onE, xs_onP, xs_fn, xs_an, Bool.not_false, Bool.not_true, Bool.true_or, Bool.false_or, Bool.and_true, Bool.true_and, Bool.and_false, Bool.false_and, Bool.false_eq_true, if_true, if_false, ↓reduceIte, g_4]) _ hS (fun i hi => rfl)
  · have g_4 : xs_i p 0 5 = true := decide_eq_true (xn_b1 c_4)
    obtain ⟨kp, hkp, rfl⟩ := xn_pk (m := 5) (by omega) (xn_b1 c_4)
    refine xi_iload_n (q := 8) dX8_minute_7 rfl rfl ?_
    refine xv_cS1 (q := 11) xm_X8_isNotch ln_X8_166 dX8_minute_8 ⟨(Nat.le_of_ble_eq_true rfl), (Nat.le_of_ble_eq_true rfl)⟩ (Nat.le_of_ble_eq_true rfl) ⟨rfl, rfl⟩ rfl (Nat.zero_le _) (Nat.zero_le _) ?_
    refine ⟨_, rfl, ?_⟩
    refine xi_if_eq (q := 14) (q2 := 21) dX8_minute_11 (by decide) rfl (fun c_11 => ?_) (fun c_11 => ?_)
    · have g_11 : xs_i m (-6) 6 = false := decide_eq_false (xn_b0 c_11)
      refine xi_ldc (q := 23) dX8_minute_21 kc_X8_81 rfl ?_
      refine xi_ret ⟨_, rfl, rfl, dX8_minute_23⟩ (Nat.zero_le _) (Nat.zero_le _) ?_
      exact xs_fin hp (by simp only [xs_minute, xs_onE, xs_onP, xs_fn, xs_an, Bool.not_false, Bool.not_true, Bool.true_or, Bool.false_or, Bool.and_true, Bool.true_and, Bool.and_false, Bool.false_and, Bool.false_eq_true, if_true, if_false, ↓reduceIte, g_4, g_11, xs_kk0 (k := kp) (by omega)]) _ hS (fun i hi => rfl)
    · have g_11 : xs_i m (-6) 6 = true := decide_eq_true (xn_b1 c_11)
      refine xi_iload_n (q := 15) dX8_minute_14 rfl rfl ?_
      refine xv_cS1 (q := 18) xm_X8_isRegulator ln_X8_207 dX8_minute_15 ⟨(Nat.le_of_ble_eq_true rfl), (Nat.le_of_ble_eq_true rfl)⟩ (Nat.le_of_ble_eq_true rfl) ⟨rfl, rfl⟩ rfl (Nat.zero_le _) (Nat.zero_le _) ?_
      refine ⟨_, rfl, ?_⟩
      refine xi_if_ne (q := 21) (q2 := 24) dX8_minute_18 (by decide) rfl (fun c_18 => ?_) (fun c_18 => ?_)
      · have g_18 : xs_i g 0 4 = true := decide_eq_true (xn_b1 c_18)
        refine xi_aload_n (q := 25) dX8_minute_24 rfl rfl ?_
        refine xi_iload_n (q := 26) dX8_minute_25 rfl rfl ?_
        refine xv_cV1 (q := 29) xm_X8_engineAt ln_X8_142 dX8_minute_26 ⟨by omega, hS.1.1⟩ rfl ⟨(Nat.le_of_ble_eq_true rfl), (Nat.le_of_ble_eq_true rfl)⟩ (Nat.le_of_ble_eq_true rfl) ⟨rfl, rfl⟩ rfl (Nat.zero_le _) (Nat.zero_le _) ?_
        refine ⟨_, kp, rfl, hS, by omega, by omega, fun hE26 => ?_, fun hE26 => ?_⟩
        · skip
          refine xi_astore (q := 31) dX8_minute_29 (Nat.le_of_ble_eq_true rfl) rfl ?_
          refine xi_aload (q := 33) dX8_minute_31 rfl rfl ?_
          refine xi_ifnonnull_r (q := 42) dX8_minute_33 (by decide) ?_
          refine xi_aload_n (q := 43) dX8_minute_42 rfl rfl ?_
          refine xi_getf (q := 46) dX8_minute_43 fl_X8_68 ⟨by omega, hS.1.1⟩ rfl rfl ?_
          refine xv_cV0 (q := 49) xm_X1_burn ln_X8_298 dX8_minute_46 ⟨by omega, hS.2.2.2.2.1.1⟩ rfl ⟨(Nat.le_of_ble_eq_true rfl), (Nat.le_of_ble_eq_true rfl)⟩ (Nat.le_of_ble_eq_true rfl) ⟨rfl, rfl⟩ rfl (Nat.zero_le _) (Nat.zero_le _) ?_
          refine ⟨_, _, _, _, _, _, rfl, hS.2.2.2.2.1.1, by omega, fun h7 p1 p2 => ?_⟩
          have S70 := xs_Sfi (g := xs_bur (σ 13 0)) hS p1 p2
          have hb0 := xn_burb hF
          obtain ⟨F1_, hF1⟩ : ∃ F, F = xs_bur (σ 13 0) := ⟨_, rfl⟩
          rw [← hF1] at S70 hb0
          have hS7 : ∀ k, k < 6 → h7 (59 + 2 * k) = xs_ce k (σ 5 k 0) (σ 6 k 0) ∧ h7 (59 + 2 * k + 1) = xs_ia 11 (σ 4 k) := S70.2.2.1
          replace p1 : h7 41 = xs_cf F1_ := p1.trans (by rw [hF1]; rfl)
          refine xi_aload_n (q := 50) dX8_minute_49 rfl rfl ?_
          obtain ⟨dn_50, wk_50, dk_50, r1_50, r2_50, r3_50, r4_50, hP_50⟩ := S70.2.2.2.2.2.2.2.2.1
          refine xi_getf (q := 53) dX8_minute_50 fl_X8_47 ⟨by omega, S70.1.1⟩ rfl rfl ?_
          refine xi_aload (q := 55) dX8_minute_53 rfl rfl ?_
          refine xi_iload_n (q := 56) dX8_minute_55 rfl rfl ?_
          refine xi_aload_n (q := 57) dX8_minute_56 rfl rfl ?_
          refine xi_getf (q := 60) dX8_minute_57 fl_X8_68 ⟨by omega, S70.1.1⟩ rfl rfl ?_
          refine xi_getf (q := 63) dX8_minute_60 fl_X8_301 ⟨by omega, p1⟩ rfl rfl ?_
          refine xi_sipush (x := 2000) (q := 66) dX8_minute_63 (by decide) rfl ?_
          refine xi_mmin (q := 69) dX8_minute_66 ln_X8_304 (Nat.le_of_ble_eq_true rfl) (Nat.le_of_ble_eq_true rfl) (Nat.zero_le _) (Nat.zero_le _) rfl ?_
          rw [show (if 2000 < F1_ 0 then 2000 else F1_ 0 : Int32) = xs_min (F1_ 0) 2000 from rfl]
          refine xi_iload_n (q := 70) dX8_minute_69 rfl rfl ?_
          refine xv_cV4 (q := 73) xm_X5_measure ln_X8_226 dX8_minute_70 ⟨by omega, hP_50.1⟩ rfl ⟨(Nat.le_of_ble_eq_true rfl), (Nat.le_of_ble_eq_true rfl)⟩ (Nat.le_of_ble_eq_true rfl) ⟨rfl, rfl⟩ rfl (Nat.zero_le _) (Nat.zero_le _) ?_
          refine ⟨_, _, _, _, _, _, _, 59 + 2 * kp, _, _, _, m, (xs_min (F1_ 0) 2000), g, rfl, by omega, (hS7 kp (by omega)).1, (hS7 kp (by omega)).2, hP_50, by omega, by omega, (hV.2.2.2.1 kp (by omega) hE26).1, hb0, ⟨by have := (xn_gI g_18).1; exact this, by have := (xn_gI g_18).2; exact this⟩, fun h9 dn9 r91 r92 r93 r94 q1 q2 => ?_⟩
          have S92 := xs_St4 S70 ⟨_, _, _, _, _, _, _, q1⟩ q2
          obtain ⟨W, hW⟩ : ∃ W, W = xs_wrk (σ 4 kp) (σ 5 kp 0) m ((xs_min (F1_ 0) 2000) * g / 4) := ⟨_, rfl⟩
          obtain ⟨K, hK⟩ : ∃ K, K = xs_drk (σ 4 kp) (σ 5 kp 0) m ((xs_min (F1_ 0) 2000) * g / 4) := ⟨_, rfl⟩
          rw [show xs_wrk _ _ _ _ = W from hW.symm, show xs_drk _ _ _ _ = K from hK.symm] at q1
          refine xi_aload_n (q := 74) dX8_minute_73 rfl rfl ?_
          refine xi_getf (q := 77) dX8_minute_74 fl_X8_68 ⟨by omega, S92.1.1⟩ rfl rfl ?_
          refine xi_aload_n (q := 78) dX8_minute_77 rfl rfl ?_
          refine xi_getf (q := 81) dX8_minute_78 fl_X8_47 ⟨by omega, S92.1.1⟩ rfl rfl ?_
          refine xi_getf (q := 84) dX8_minute_81 fl_X8_233 ⟨by omega, q1.1⟩ rfl rfl ?_
          refine xi_bipush (x := 100) (q := 86) dX8_minute_84 (by decide) rfl ?_
          refine xi_idiv (q := 87) dX8_minute_86 (by decide) rfl ?_
          refine xv_cV1 (q := 90) xm_X1_give ln_X8_309 dX8_minute_87 ⟨by omega, (q2 41 (by omega)).trans p1⟩ rfl ⟨(Nat.le_of_ble_eq_true rfl), (Nat.le_of_ble_eq_true rfl)⟩ (Nat.le_of_ble_eq_true rfl) ⟨rfl, rfl⟩ rfl (Nat.zero_le _) (Nat.zero_le _) ?_
          refine ⟨F1_ 0, F1_ 1, F1_ 2, F1_ 3, F1_ 4, F1_ 5, _, rfl, (q2 41 (by omega)).trans p1, by omega, fun h5 u1 u2 => ?_⟩
          obtain ⟨F2_, hF2⟩ : ∃ F, F = xs_giv F1_ (K / 100) := ⟨_, rfl⟩
          replace u1 : h5 41 = xs_cf F2_ := u1.trans (by rw [hF2]; rfl)
          have S50 := xs_Sfi (g := F2_) S92 u1 u2
          rw [xs_fi2] at S50
          refine xi_aload_n (q := 91) dX8_minute_90 rfl rfl ?_
          refine xi_getf (q := 94) dX8_minute_91 fl_X8_68 ⟨by omega, S50.1.1⟩ rfl rfl ?_
          refine xv_cV0 (q := 97) xm_X1_blow ln_X8_313 dX8_minute_94 ⟨by omega, u1⟩ rfl ⟨(Nat.le_of_ble_eq_true rfl), (Nat.le_of_ble_eq_true rfl)⟩ (Nat.le_of_ble_eq_true rfl) ⟨rfl, rfl⟩ rfl (Nat.zero_le _) (Nat.zero_le _) ?_
          refine ⟨F2_ 0, F2_ 1, F2_ 2, F2_ 3, F2_ 4, F2_ 5, rfl, u1, by omega, fun h6 v1 v2 => ?_⟩
          obtain ⟨F3_, hF3⟩ : ∃ F, F = xs_blo F2_ := ⟨_, rfl⟩
          replace v1 : h6 41 = xs_cf F3_ := v1.trans (by rw [hF3]; rfl)
          have S60 := xs_Sfi (g := F3_) S50 v1 v2
          rw [xs_fi2] at S60
          refine xi_aload_n (q := 98) dX8_minute_97 rfl rfl ?_
          refine xi_aload_n (q := 99) dX8_minute_98 rfl rfl ?_
          refine xi_getf (q := 102) dX8_minute_99 fl_X8_68 ⟨by omega, S60.1.1⟩ rfl rfl ?_
          refine xi_getf (q := 105) dX8_minute_102 fl_X8_301 ⟨by omega, v1⟩ rfl rfl ?_
          refine xv_cV1 (q := 108) xm_X8_answered ln_X8_90 dX8_minute_105 ⟨by omega, S60.1.1⟩ rfl ⟨(Nat.le_of_ble_eq_true rfl), (Nat.le_of_ble_eq_true rfl)⟩ (Nat.le_of_ble_eq_true rfl) ⟨rfl, rfl⟩ rfl (Nat.zero_le _) (Nat.zero_le _) ?_
          refine ⟨_, _, rfl, S60, by omega, fun H1 S1 F1 => ?_⟩
          refine xi_ret ⟨_, rfl, rfl, dX8_minute_108⟩ (Nat.zero_le _) (Nat.zero_le _) ?_
          exact xs_fin hp (by simp only [xs_minute, xs_onE, xs_onP, xs_fn, xs_an, Bool.not_false, Bool.not_true, Bool.true_or, Bool.false_or, Bool.and_true, Bool.true_and, Bool.and_false, Bool.false_and, Bool.false_eq_true, if_true, if_false, ↓reduceIte, g_4, g_11, g_18, hE26, ← hF1, ← hW, ← hK, ← hF2, ← hF3, xs_kk0 (k := kp) (by omega)]) _ S1 (fun i hi => (F1 i (by omega)).trans ((v2 i (by omega)).trans ((u2 i (by omega)).trans ((q2 i (by omega)).trans ((p2 i (by omega)).trans rfl)))))
        · skip
          refine xi_astoreN (q := 31) dX8_minute_29 (Nat.le_of_ble_eq_true rfl) rfl ?_
          refine xi_aloadN (q := 33) dX8_minute_31 rfl rfl ?_
          refine xi_ifnonnull_n (q := 36) dX8_minute_33 rfl ?_
          refine xi_aload_n (q := 37) dX8_minute_36 rfl rfl ?_
          refine xi_iconst (x := 1) (q := 38) dX8_minute_37 (by decide) rfl ?_
          refine xv_cV1 (q := 41) xm_X8_found ln_X8_82 dX8_minute_38 ⟨by omega, hS.1.1⟩ rfl ⟨(Nat.le_of_ble_eq_true rfl), (Nat.le_of_ble_eq_true rfl)⟩ (Nat.le_of_ble_eq_true rfl) ⟨rfl, rfl⟩ rfl (Nat.zero_le _) (Nat.zero_le _) ?_
          refine ⟨_, _, rfl, hS, by omega, fun H2 S2 F2 => ?_⟩
          refine xi_ret ⟨_, rfl, rfl, dX8_minute_41⟩ (Nat.zero_le _) (Nat.zero_le _) ?_
          exact xs_fin hp (by simp only [xs_minute, xs_onE, xs_onP, xs_fn, xs_an, Bool.not_false, Bool.not_true, Bool.true_or, Bool.false_or, Bool.and_true, Bool.true_and, Bool.and_false, Bool.false_and, Bool.false_eq_true, if_true, if_false, ↓reduceIte, g_4, g_11, g_18, eq_true hE26, xs_kk0 (k := kp) (by omega)]) _ S2 (fun i hi => (F2 i (by omega)).trans (rfl))
      · have g_18 : xs_i g 0 4 = false := decide_eq_false (xn_b0 c_18)
        refine xi_ldc (q := 23) dX8_minute_21 kc_X8_81 rfl ?_
        refine xi_ret ⟨_, rfl, rfl, dX8_minute_23⟩ (Nat.zero_le _) (Nat.zero_le _) ?_
        exact xs_fin hp (by simp only [xs_minute, xs_onE, xs_onP, xs_fn, xs_an, Bool.not_false, Bool.not_true, Bool.true_or, Bool.false_or, Bool.and_true, Bool.true_and, Bool.and_false, Bool.false_and, Bool.false_eq_true, if_true, if_false, ↓reduceIte, g_4, g_11, g_18, xs_kk0 (k := kp) (by omega)]) _ hS (fun i hi => rfl)

def xs_trace (σ : xs_Sg) (i : Int32) : Int32 × xs_Sg := (if xs_i i 0 (σ 14 0 0 - 1) = true then σ 15 0 i.toNatClampNeg else -1000000, σ)
theorem xn_ixv {i x : Int32} {N m : Nat} (g : xs_i i 0 (x - 1) = true) (e : x = nI N) (hN : N ≤ m) (hm : m < 1000) : xv_ix i m i.toNatClampNeg := by
  have h := xn_gI g
  rw [e, show (0 : Int32).toInt = 0 from rfl, xn_sub (by rw [xn_NI (by omega), show (1 : Int32).toInt = 1 from rfl]; omega) (by rw [xn_NI (by omega), show (1 : Int32).toInt = 1 from rfl]; omega), xn_NI (by omega), show (1 : Int32).toInt = 1 from rfl] at h
  exact ⟨vp_in_iff.mpr ⟨by omega, by omega⟩, rfl⟩
set_option maxRecDepth 20000 in
set_option maxHeartbeats 2000000 in
/-- trace -/
theorem xm_X8_trace : xv_K yX8_trace mX8_trace (fun as h n Post => ∃ (σ : xs_Sg) (i : Int32), as = [.ref 0, .int i] ∧ (xs_S h σ) ∧ (83 ≤ n) ∧ (xs_V σ) ∧ xs_D h n Post (xs_trace σ i)) := by
  refine xv_entry (by decide +kernel) rfl (fun h => absurd h (by decide)) ?_
  rintro X _ h n Post ⟨σ, i, rfl, hS, h83, hV, hp⟩
  refine ⟨Nat.le_of_ble_eq_true rfl, ?_⟩
  show xv_V X mX8_trace Post 0 0 0 [(0, .ref 0), (1, .int i)] [] h n
  refine xi_iload_n (q := 1) dX8_trace_0 rfl rfl ?_
  refine xi_iconst (x := 0) (q := 2) dX8_trace_1 (by decide) rfl ?_
  refine xi_aload_n (q := 3) dX8_trace_2 rfl rfl ?_
  refine xi_getf (q := 6) dX8_trace_3 fl_X8_325 ⟨by omega, hS.1.1⟩ rfl rfl ?_
  refine xi_iconst (x := 1) (q := 7) dX8_trace_6 (by decide) rfl ?_
  refine xi_isub (q := 8) dX8_trace_7 rfl ?_
  refine xv_cS3 (q := 11) xm_X8_within ln_X8_77 dX8_trace_8 ⟨(Nat.le_of_ble_eq_true rfl), (Nat.le_of_ble_eq_true rfl)⟩ (Nat.le_of_ble_eq_true rfl) ⟨rfl, rfl⟩ rfl (Nat.zero_le _) (Nat.zero_le _) ?_
  refine ⟨_, _, _, rfl, ?_⟩
  refine xi_if_eq (q := 14) (q2 := 23) dX8_trace_11 (by decide) rfl (fun c_11 => ?_) (fun c_11 => ?_)
  · have g_11 : xs_i i 0 (σ 14 0 0 - 1) = false := decide_eq_false (xn_b0 c_11)
    refine xi_ldcw (q := 26) dX8_trace_23 kc_X8_293 rfl ?_
    refine xi_ret ⟨_, rfl, rfl, dX8_trace_26⟩ (Nat.zero_le _) (Nat.zero_le _) ?_
    exact xs_fin hp (by simp only [xs_trace, xs_onE, xs_onP, xs_fn, xs_an, Bool.not_false, Bool.not_true, Bool.true_or, Bool.false_or, Bool.and_true, Bool.true_and, Bool.and_false, Bool.false_and, Bool.false_eq_true, if_true, if_false, ↓reduceIte, g_11]) _ hS (fun i hi => rfl)
  · have g_11 : xs_i i 0 (σ 14 0 0 - 1) = true := decide_eq_true (xn_b1 c_11)
    refine xi_aload_n (q := 15) dX8_trace_14 rfl rfl ?_
    refine xi_getf (q := 18) dX8_trace_15 fl_X8_72 ⟨by omega, hS.1.1⟩ rfl rfl ?_
    refine xi_iload_n (q := 19) dX8_trace_18 rfl rfl ?_
    obtain ⟨N, hN, eN⟩ := hV.2.2.2.2.2.2.2.1
    refine xi_iald (q := 20) dX8_trace_19 ⟨by omega, hS.2.2.2.2.1.2⟩ (xn_ixv g_11 eN hN (by omega)) rfl ?_
    refine xi_goto (q := 26) dX8_trace_20 (by decide) ?_
    refine xi_ret ⟨_, rfl, rfl, dX8_trace_26⟩ (Nat.zero_le _) (Nat.zero_le _) ?_
    exact xs_fin hp (by simp only [xs_trace, xs_onE, xs_onP, xs_fn, xs_an, Bool.not_false, Bool.not_true, Bool.true_or, Bool.false_or, Bool.and_true, Bool.true_and, Bool.and_false, Bool.false_and, Bool.false_eq_true, if_true, if_false, ↓reduceIte, g_11]) _ hS (fun i hi => rfl)

def xs_plan (σ : xs_Sg) (i w : Int32) : Int32 × xs_Sg := (if xs_i w 0 3 = true then (if σ 11 0 0 = 0 then -1000002 else if xs_i i 0 (σ 11 0 0 - 1) = true then σ 12 0 (4 * i + w).toNatClampNeg else -1000000) else -1000001, σ)
theorem xn_ixp {i w x : Int32} {N : Nat} (g : xs_i i 0 (x - 1) = true) (e : x = nI N) (hN : N ≤ 10) (gw : xs_i w 0 3 = true) : xv_ix (4 * i + w) 40 (4 * i + w).toNatClampNeg := by
  have h := xn_gI g
  have h2 := xn_gI gw
  rw [e, show (0 : Int32).toInt = 0 from rfl, xn_sub (by rw [xn_NI (by omega), show (1 : Int32).toInt = 1 from rfl]; omega) (by rw [xn_NI (by omega), show (1 : Int32).toInt = 1 from rfl]; omega), xn_NI (by omega), show (1 : Int32).toInt = 1 from rfl] at h
  rw [show (0 : Int32).toInt = 0 from rfl, show (3 : Int32).toInt = 3 from rfl] at h2
  have e4 : (4 * i).toInt = 4 * i.toInt := by rw [xn_mul] <;> rw [show (4 : Int32).toInt = 4 from rfl] <;> omega
  have e5 : (4 * i + w).toInt = 4 * i.toInt + w.toInt := by rw [xn_add (by omega) (by omega), e4]
  exact ⟨vp_in_iff.mpr ⟨by omega, by omega⟩, rfl⟩
set_option maxRecDepth 20000 in
set_option maxHeartbeats 2000000 in
/-- plan -/
theorem xm_X8_plan : xv_K yX8_plan mX8_plan (fun as h n Post => ∃ (σ : xs_Sg) (i : Int32) (w : Int32), as = [.ref 0, .int i, .int w] ∧ (xs_S h σ) ∧ (83 ≤ n) ∧ (xs_V σ) ∧ xs_D h n Post (xs_plan σ i w)) := by
  refine xv_entry (by decide +kernel) rfl (fun h => absurd h (by decide)) ?_
  rintro X _ h n Post ⟨σ, i, w, rfl, hS, h83, hV, hp⟩
  refine ⟨Nat.le_of_ble_eq_true rfl, ?_⟩
  show xv_V X mX8_plan Post 0 0 0 [(0, .ref 0), (1, .int i), (2, .int w)] [] h n
  refine xi_iload_n (q := 1) dX8_plan_0 rfl rfl ?_
  refine xi_iconst (x := 0) (q := 2) dX8_plan_1 (by decide) rfl ?_
  refine xi_iconst (x := 3) (q := 3) dX8_plan_2 (by decide) rfl ?_
  refine xv_cS3 (q := 6) xm_X8_within ln_X8_77 dX8_plan_3 ⟨(Nat.le_of_ble_eq_true rfl), (Nat.le_of_ble_eq_true rfl)⟩ (Nat.le_of_ble_eq_true rfl) ⟨rfl, rfl⟩ rfl (Nat.zero_le _) (Nat.zero_le _) ?_
  refine ⟨_, _, _, rfl, ?_⟩
  refine xi_if_ne (q := 9) (q2 := 12) dX8_plan_6 (by decide) rfl (fun c_6 => ?_) (fun c_6 => ?_)
  · have g_6 : xs_i w 0 3 = true := decide_eq_true (xn_b1 c_6)
    refine xi_aload_n (q := 13) dX8_plan_12 rfl rfl ?_
    obtain ⟨st_13, wo_13, dr_13, ro_13, lc_13, hL_13⟩ := hS.2.2.2.2.2.2.2.2.2.2
    refine xi_getf (q := 16) dX8_plan_13 fl_X8_61 ⟨by omega, hS.1.1⟩ rfl rfl ?_
    refine xi_getf (q := 19) dX8_plan_16 fl_X8_288 ⟨by omega, hL_13.1⟩ rfl rfl ?_
    refine xi_if_ne (q := 22) (q2 := 25) dX8_plan_19 (by decide) rfl (fun c_19 => ?_) (fun c_19 => ?_)
    · skip
      refine xi_iload_n (q := 26) dX8_plan_25 rfl rfl ?_
      refine xi_iconst (x := 0) (q := 27) dX8_plan_26 (by decide) rfl ?_
      refine xi_aload_n (q := 28) dX8_plan_27 rfl rfl ?_
      refine xi_getf (q := 31) dX8_plan_28 fl_X8_61 ⟨by omega, hS.1.1⟩ rfl rfl ?_
      refine xi_getf (q := 34) dX8_plan_31 fl_X8_288 ⟨by omega, hL_13.1⟩ rfl rfl ?_
      refine xi_iconst (x := 1) (q := 35) dX8_plan_34 (by decide) rfl ?_
      refine xi_isub (q := 36) dX8_plan_35 rfl ?_
      refine xv_cS3 (q := 39) xm_X8_within ln_X8_77 dX8_plan_36 ⟨(Nat.le_of_ble_eq_true rfl), (Nat.le_of_ble_eq_true rfl)⟩ (Nat.le_of_ble_eq_true rfl) ⟨rfl, rfl⟩ rfl (Nat.zero_le _) (Nat.zero_le _) ?_
      refine ⟨_, _, _, rfl, ?_⟩
      refine xi_if_eq (q := 42) (q2 := 58) dX8_plan_39 (by decide) rfl (fun c_39 => ?_) (fun c_39 => ?_)
      · have g_39 : xs_i i 0 (σ 11 0 0 - 1) = false := decide_eq_false (xn_b0 c_39)
        refine xi_ldcw (q := 61) dX8_plan_58 kc_X8_293 rfl ?_
        refine xi_ret ⟨_, rfl, rfl, dX8_plan_61⟩ (Nat.zero_le _) (Nat.zero_le _) ?_
        exact xs_fin hp (by simp only [xs_plan, xs_onE, xs_onP, xs_fn, xs_an, Bool.not_false, Bool.not_true, Bool.true_or, Bool.false_or, Bool.and_true, Bool.true_and, Bool.and_false, Bool.false_and, Bool.false_eq_true, if_true, if_false, ↓reduceIte, g_6, c_19, g_39]) _ hS (fun i hi => rfl)
      · have g_39 : xs_i i 0 (σ 11 0 0 - 1) = true := decide_eq_true (xn_b1 c_39)
        refine xi_aload_n (q := 43) dX8_plan_42 rfl rfl ?_
        refine xi_getf (q := 46) dX8_plan_43 fl_X8_61 ⟨by omega, hS.1.1⟩ rfl rfl ?_
        refine xi_getf (q := 49) dX8_plan_46 fl_X8_291 ⟨by omega, hL_13.1⟩ rfl rfl ?_
        refine xi_iconst (x := 4) (q := 50) dX8_plan_49 (by decide) rfl ?_
        refine xi_iload_n (q := 51) dX8_plan_50 rfl rfl ?_
        refine xi_imul (q := 52) dX8_plan_51 rfl ?_
        refine xi_iload_n (q := 53) dX8_plan_52 rfl rfl ?_
        refine xi_iadd (q := 54) dX8_plan_53 rfl ?_
        obtain ⟨N, hN, eN⟩ := hV.2.2.2.2.2.2.1
        refine xi_iald (q := 55) dX8_plan_54 ⟨by omega, hL_13.2.2.2.2.2.2⟩ (xn_ixp g_39 eN hN g_6) rfl ?_
        refine xi_goto (q := 61) dX8_plan_55 (by decide) ?_
        refine xi_ret ⟨_, rfl, rfl, dX8_plan_61⟩ (Nat.zero_le _) (Nat.zero_le _) ?_
        exact xs_fin hp (by simp only [xs_plan, xs_onE, xs_onP, xs_fn, xs_an, Bool.not_false, Bool.not_true, Bool.true_or, Bool.false_or, Bool.and_true, Bool.true_and, Bool.and_false, Bool.false_and, Bool.false_eq_true, if_true, if_false, ↓reduceIte, g_6, c_19, g_39]) _ hS (fun i hi => rfl)
    · skip
      refine xi_ldc (q := 24) dX8_plan_22 kc_X8_252 rfl ?_
      refine xi_ret ⟨_, rfl, rfl, dX8_plan_24⟩ (Nat.zero_le _) (Nat.zero_le _) ?_
      exact xs_fin hp (by simp only [xs_plan, xs_onE, xs_onP, xs_fn, xs_an, Bool.not_false, Bool.not_true, Bool.true_or, Bool.false_or, Bool.and_true, Bool.true_and, Bool.and_false, Bool.false_and, Bool.false_eq_true, if_true, if_false, ↓reduceIte, g_6, eq_true c_19]) _ hS (fun i hi => rfl)
  · have g_6 : xs_i w 0 3 = false := decide_eq_false (xn_b0 c_6)
    refine xi_ldc (q := 11) dX8_plan_9 kc_X8_81 rfl ?_
    refine xi_ret ⟨_, rfl, rfl, dX8_plan_11⟩ (Nat.zero_le _) (Nat.zero_le _) ?_
    exact xs_fin hp (by simp only [xs_plan, xs_onE, xs_onP, xs_fn, xs_an, Bool.not_false, Bool.not_true, Bool.true_or, Bool.false_or, Bool.and_true, Bool.true_and, Bool.and_false, Bool.false_and, Bool.false_eq_true, if_true, if_false, ↓reduceIte, g_6]) _ hS (fun i hi => rfl)

def xs_misfit (σ : xs_Sg) (p s : Int32) : Int32 × xs_Sg := if (xs_i p 0 5 && xs_i s 0 12) = true then (if σ 7 p.toNatClampNeg 0 = 0 then (-1000002, σ) else xs_an σ ((xs_mis (σ 4 p.toNatClampNeg) (σ 10 p.toNatClampNeg) (σ 8 p.toNatClampNeg 0) (σ 9 p.toNatClampNeg 0)) s)) else (-1000001, σ)
theorem xs_nk {σ : xs_Sg} (hV : xs_V σ) {k : Nat} (hk : k < 6) (h : σ 6 k 0 = 0) : σ 7 k 0 = 0 := Decidable.byContradiction fun z => (hV.2.2.2.2.2.1 k hk z).1 h
set_option maxRecDepth 20000 in
set_option maxHeartbeats 2000000 in
/-- misfit -/
theorem xm_X8_misfit : xv_K yX8_misfit mX8_misfit (fun as h n Post => ∃ (σ : xs_Sg) (p : Int32) (s : Int32), as = [.ref 0, .int p, .int s] ∧ (xs_S h σ) ∧ (83 ≤ n) ∧ (xs_V σ) ∧ xs_D h n Post (xs_misfit σ p s)) := by
  refine xv_entry (by decide +kernel) rfl (fun h => absurd h (by decide)) ?_
  rintro X _ h n Post ⟨σ, p, s, rfl, hS, h83, hV, hp⟩
  refine ⟨Nat.le_of_ble_eq_true rfl, ?_⟩
  show xv_V X mX8_misfit Post 0 0 0 [(0, .ref 0), (1, .int p), (2, .int s)] [] h n
  refine xi_iload_n (q := 1) dX8_misfit_0 rfl rfl ?_
  refine xv_cS1 (q := 4) xm_X8_isPlace ln_X8_125 dX8_misfit_1 ⟨(Nat.le_of_ble_eq_true rfl), (Nat.le_of_ble_eq_true rfl)⟩ (Nat.le_of_ble_eq_true rfl) ⟨rfl, rfl⟩ rfl (Nat.zero_le _) (Nat.zero_le _) ?_
  refine ⟨_, rfl, ?_⟩
  refine xi_if_eq (q := 7) (q2 := 14) dX8_misfit_4 (by decide) rfl (fun c_4 => ?_) (fun c_4 => ?_)
  · have g_4 : xs_i p 0 5 = false := decide_eq_false (xn_b0 c_4)
    refine xi_ldc (q := 16) dX8_misfit_14 kc_X8_81 rfl ?_
    refine xi_ret ⟨_, rfl, rfl, dX8_misfit_16⟩ (Nat.zero_le _) (Nat.zero_le _) ?_
    exact xs_fin hp (by simp only [xs_misfit, xs_onE, xs_onP, xs_fn, xs_an, Bool.not_false, Bool.not_true, Bool.true_or, Bool.false_or, Bool.and_true, Bool.true_and, Bool.and_false, Bool.false_and, Bool.false_eq_true, if_true, if_false, ↓reduceIte, g_4]) _ hS (fun i hi => rfl)
  · have g_4 : xs_i p 0 5 = true := decide_eq_true (xn_b1 c_4)
    obtain ⟨kp, hkp, rfl⟩ := xn_pk (m := 5) (by omega) (xn_b1 c_4)
    refine xi_iload_n (q := 8) dX8_misfit_7 rfl rfl ?_
    refine xv_cS1 (q := 11) xm_X8_isSickness ln_X8_149 dX8_misfit_8 ⟨(Nat.le_of_ble_eq_true rfl), (Nat.le_of_ble_eq_true rfl)⟩ (Nat.le_of_ble_eq_true rfl) ⟨rfl, rfl⟩ rfl (Nat.zero_le _) (Nat.zero_le _) ?_
    refine ⟨_, rfl, ?_⟩
    refine xi_if_ne (q := 14) (q2 := 17) dX8_misfit_11 (by decide) rfl (fun c_11 => ?_) (fun c_11 => ?_)
    · have g_11 : xs_i s 0 12 = true := decide_eq_true (xn_b1 c_11)
      refine xi_aload_n (q := 18) dX8_misfit_17 rfl rfl ?_
      refine xi_iload_n (q := 19) dX8_misfit_18 rfl rfl ?_
      refine xv_cV1 (q := 22) xm_X8_engineAt ln_X8_142 dX8_misfit_19 ⟨by omega, hS.1.1⟩ rfl ⟨(Nat.le_of_ble_eq_true rfl), (Nat.le_of_ble_eq_true rfl)⟩ (Nat.le_of_ble_eq_true rfl) ⟨rfl, rfl⟩ rfl (Nat.zero_le _) (Nat.zero_le _) ?_
      refine ⟨_, kp, rfl, hS, by omega, by omega, fun hE19 => ?_, fun hE19 => ?_⟩
      · skip
        refine xi_astore_n (q := 23) dX8_misfit_22 (Nat.le_of_ble_eq_true rfl) rfl ?_
        refine xi_aload_n (q := 24) dX8_misfit_23 rfl rfl ?_
        refine xi_getf (q := 27) dX8_misfit_24 fl_X8_23 ⟨by omega, hS.1.1⟩ rfl rfl ?_
        refine xi_iload_n (q := 28) dX8_misfit_27 rfl rfl ?_
        refine xi_aald (q := 29) dX8_misfit_28 ⟨by omega, hS.1.2.2.2⟩ rfl (xv_ixN (by omega) (by omega)) (xs_ai (by omega)) rfl ?_
        refine xi_astore (q := 31) dX8_misfit_29 (Nat.le_of_ble_eq_true rfl) rfl ?_
        refine xi_aload_n (q := 32) dX8_misfit_31 rfl rfl ?_
        refine xi_ifnull_r (q := 35) dX8_misfit_32 rfl ?_
        refine xi_aload (q := 37) dX8_misfit_35 rfl rfl ?_
        refine xi_getf (q := 40) dX8_misfit_37 fl_X8_139 ⟨by omega, (hS.2.2.2.1 kp (by omega)).1⟩ rfl rfl ?_
        refine xi_if_ne (q := 43) (q2 := 46) dX8_misfit_40 (by decide) rfl (fun c_40 => ?_) (fun c_40 => ?_)
        · skip
          refine xi_aload_n (q := 47) dX8_misfit_46 rfl rfl ?_
          obtain ⟨f4_47, s4_47, t4_47, h4_47, h5_47⟩ := hS.2.2.2.2.2.1
          refine xi_getf (q := 50) dX8_misfit_47 fl_X8_28 ⟨by omega, hS.1.1⟩ rfl rfl ?_
          refine xi_aload_n (q := 51) dX8_misfit_50 rfl rfl ?_
          refine xv_cV1 (q := 54) xm_X0_resemble ln_X8_155 dX8_misfit_51 ⟨by omega, h4_47⟩ rfl ⟨(Nat.le_of_ble_eq_true rfl), (Nat.le_of_ble_eq_true rfl)⟩ (Nat.le_of_ble_eq_true rfl) ⟨rfl, rfl⟩ rfl (Nat.zero_le _) (Nat.zero_le _) ?_
          refine ⟨4, _, _, _, 59 + 2 * kp, _, _, _, rfl, by omega, h4_47, h5_47, by omega, (hS.2.2.1 kp (by omega)).1, (hS.2.2.1 kp (by omega)).2, by omega, fun h8 p1 p3 p2 => ?_⟩
          have S80 := xs_St1 hS ⟨_, _, _, p1, p3⟩ (fun i hi => p2 i (by omega) (by omega))
          refine xi_aload_n (q := 55) dX8_misfit_54 rfl rfl ?_
          refine xi_aload_n (q := 56) dX8_misfit_55 rfl rfl ?_
          obtain ⟨nb_56, nl_56, ng_56, hN_56, hM_56⟩ := S80.2.2.2.2.2.2.2.2.2.1
          refine xi_getf (q := 59) dX8_misfit_56 fl_X8_54 ⟨by omega, S80.1.1⟩ rfl rfl ?_
          refine xi_aload (q := 61) dX8_misfit_59 rfl rfl ?_
          refine xi_aload_n (q := 62) dX8_misfit_61 rfl rfl ?_
          refine xi_getf (q := 65) dX8_misfit_62 fl_X8_28 ⟨by omega, S80.1.1⟩ rfl rfl ?_
          refine xi_iload_n (q := 66) dX8_misfit_65 rfl rfl ?_
          refine xi_aload_n (q := 67) dX8_misfit_66 rfl rfl ?_
          obtain ⟨dn_67, wk_67, dk_67, r1_67, r2_67, r3_67, r4_67, hP_67⟩ := S80.2.2.2.2.2.2.2.2.1
          refine xi_getf (q := 70) dX8_misfit_67 fl_X8_47 ⟨by omega, S80.1.1⟩ rfl rfl ?_
          refine xv_cV4 (q := 73) xm_X4_misfitBy ln_X8_253 dX8_misfit_70 ⟨by omega, hN_56⟩ rfl ⟨(Nat.le_of_ble_eq_true rfl), (Nat.le_of_ble_eq_true rfl)⟩ (Nat.le_of_ble_eq_true rfl) ⟨rfl, rfl⟩ rfl (Nat.zero_le _) (Nat.zero_le _) ?_
          refine ⟨71 + 2 * kp, _, _, _, _, 4, _, _, _, s, _, _, _, _, _, _, _, rfl, by omega, p1, p3, by omega, (S80.2.2.2.1 kp (by omega)).1, (S80.2.2.2.1 kp (by omega)).2, hP_67, by omega, by omega, by omega, (hV.2.2.2.1 kp (by omega) hE19).1, (hV.2.2.2.2.2.1 kp (by omega) c_40).2.2.1, fun h9 dn9 r91 r92 r93 r94 q1 q3 q2 => ?_⟩
          have S92 := xs_St14 S80 ⟨_, _, _, q3, (q2 5 (by omega) (by omega)).trans p3⟩ ⟨_, _, _, _, _, _, _, q1⟩ (fun i i1 i2 i3 => q2 i i1 i2)
          obtain ⟨Z, hZ⟩ : ∃ Z, Z = xs_mis (σ 4 kp) (σ 10 kp) (σ 8 kp 0) (σ 9 kp 0) s := ⟨_, rfl⟩
          rw [← hZ]
          refine xv_cV1 (q := 76) xm_X8_answered ln_X8_90 dX8_misfit_73 ⟨by omega, S92.1.1⟩ rfl ⟨(Nat.le_of_ble_eq_true rfl), (Nat.le_of_ble_eq_true rfl)⟩ (Nat.le_of_ble_eq_true rfl) ⟨rfl, rfl⟩ rfl (Nat.zero_le _) (Nat.zero_le _) ?_
          refine ⟨_, _, rfl, S92, by omega, fun H1 S1 F1 => ?_⟩
          refine xi_ret ⟨_, rfl, rfl, dX8_misfit_76⟩ (Nat.zero_le _) (Nat.zero_le _) ?_
          exact xs_fin hp (by simp only [xs_misfit, xs_onE, xs_onP, xs_fn, xs_an, Bool.not_false, Bool.not_true, Bool.true_or, Bool.false_or, Bool.and_true, Bool.true_and, Bool.and_false, Bool.false_and, Bool.false_eq_true, if_true, if_false, ↓reduceIte, g_4, g_11, hE19, c_40, ← hZ, xs_kk0 (k := kp) (by omega)]) _ S1 (fun i hi => (F1 i (by omega)).trans ((q2 i (by omega) (by omega)).trans ((p2 i (by omega) (by omega)).trans (rfl))))
        · skip
          refine xi_ldc (q := 45) dX8_misfit_43 kc_X8_252 rfl ?_
          refine xi_ret ⟨_, rfl, rfl, dX8_misfit_45⟩ (Nat.zero_le _) (Nat.zero_le _) ?_
          exact xs_fin hp (by simp only [xs_misfit, xs_onE, xs_onP, xs_fn, xs_an, Bool.not_false, Bool.not_true, Bool.true_or, Bool.false_or, Bool.and_true, Bool.true_and, Bool.and_false, Bool.false_and, Bool.false_eq_true, if_true, if_false, ↓reduceIte, g_4, g_11, hE19, eq_true c_40, xs_kk0 (k := kp) (by omega)]) _ hS (fun i hi => rfl)
      · skip
        refine xi_astore_nN (q := 23) dX8_misfit_22 (Nat.le_of_ble_eq_true rfl) rfl ?_
        refine xi_aload_n (q := 24) dX8_misfit_23 rfl rfl ?_
        refine xi_getf (q := 27) dX8_misfit_24 fl_X8_23 ⟨by omega, hS.1.1⟩ rfl rfl ?_
        refine xi_iload_n (q := 28) dX8_misfit_27 rfl rfl ?_
        refine xi_aald (q := 29) dX8_misfit_28 ⟨by omega, hS.1.2.2.2⟩ rfl (xv_ixN (by omega) (by omega)) (xs_ai (by omega)) rfl ?_
        refine xi_astore (q := 31) dX8_misfit_29 (Nat.le_of_ble_eq_true rfl) rfl ?_
        refine xi_aload_nN (q := 32) dX8_misfit_31 rfl rfl ?_
        refine xi_ifnull_n (q := 43) dX8_misfit_32 (by decide) ?_
        refine xi_ldc (q := 45) dX8_misfit_43 kc_X8_252 rfl ?_
        refine xi_ret ⟨_, rfl, rfl, dX8_misfit_45⟩ (Nat.zero_le _) (Nat.zero_le _) ?_
        exact xs_fin hp (by simp only [xs_misfit, xs_onE, xs_onP, xs_fn, xs_an, Bool.not_false, Bool.not_true, Bool.true_or, Bool.false_or, Bool.and_true, Bool.true_and, Bool.and_false, Bool.false_and, Bool.false_eq_true, if_true, if_false, ↓reduceIte, g_4, g_11, eq_true hE19, eq_true (xs_nk hV (k := kp) (by omega) hE19), xs_kk0 (k := kp) (by omega)]) _ hS (fun i hi => rfl)
    · have g_11 : xs_i s 0 12 = false := decide_eq_false (xn_b0 c_11)
      refine xi_ldc (q := 16) dX8_misfit_14 kc_X8_81 rfl ?_
      refine xi_ret ⟨_, rfl, rfl, dX8_misfit_16⟩ (Nat.zero_le _) (Nat.zero_le _) ?_
      exact xs_fin hp (by simp only [xs_misfit, xs_onE, xs_onP, xs_fn, xs_an, Bool.not_false, Bool.not_true, Bool.true_or, Bool.false_or, Bool.and_true, Bool.true_and, Bool.and_false, Bool.false_and, Bool.false_eq_true, if_true, if_false, ↓reduceIte, g_4, g_11, xs_kk0 (k := kp) (by omega)]) _ hS (fun i hi => rfl)

