theorem xs_St13 {h h' : xv_H} {σ : xs_Sg} (hS : xs_S h σ) (T1 : xs_t1 h') (T3 : xs_t3 h') (hf : ∀ i, i < 8 ∨ 16 < i → i ≠ 4 → i ≠ 4 + 1 → h' i = h i) : xs_S h' σ :=
  xs_Sc hS (fun i _ _ => hf i (by omega) (by omega) (by omega)) ⟨T1, xs_t2k (xs_T6 hS).2.1 (fun i _ _ => hf i (by omega) (by omega) (by omega)), T3, xs_t4k (xs_T6 hS).2.2.2.1 (fun i _ _ => hf i (by omega) (by omega) (by omega)), xs_t5k (xs_T6 hS).2.2.2.2.1 (fun i _ _ => hf i (by omega) (by omega) (by omega)), xs_t6k (xs_T6 hS).2.2.2.2.2 (fun i _ _ => hf i (by omega) (by omega) (by omega))⟩
theorem xs_St14 {h h' : xv_H} {σ : xs_Sg} (hS : xs_S h σ) (T1 : xs_t1 h') (T4 : xs_t4 h') (hf : ∀ i, i < 17 ∨ 21 < i → i ≠ 4 → i ≠ 4 + 1 → h' i = h i) : xs_S h' σ :=
  xs_Sc hS (fun i _ _ => hf i (by omega) (by omega) (by omega)) ⟨T1, xs_t2k (xs_T6 hS).2.1 (fun i _ _ => hf i (by omega) (by omega) (by omega)), xs_t3k (xs_T6 hS).2.2.1 (fun i _ _ => hf i (by omega) (by omega) (by omega)), T4, xs_t5k (xs_T6 hS).2.2.2.2.1 (fun i _ _ => hf i (by omega) (by omega) (by omega)), xs_t6k (xs_T6 hS).2.2.2.2.2 (fun i _ _ => hf i (by omega) (by omega) (by omega))⟩
theorem xs_St145 {h h' : xv_H} {σ : xs_Sg} (hS : xs_S h σ) (T1 : xs_t1 h') (T4 : xs_t4 h') (T5 : xs_t5 h') (hf : ∀ i, i < 17 ∨ 21 < i → i < 22 ∨ 23 < i → i ≠ 4 → i ≠ 4 + 1 → h' i = h i) : xs_S h' σ :=
  xs_Sc hS (fun i _ _ => hf i (by omega) (by omega) (by omega) (by omega)) ⟨T1, xs_t2k (xs_T6 hS).2.1 (fun i _ _ => hf i (by omega) (by omega) (by omega) (by omega)), xs_t3k (xs_T6 hS).2.2.1 (fun i _ _ => hf i (by omega) (by omega) (by omega) (by omega)), T4, T5, xs_t6k (xs_T6 hS).2.2.2.2.2 (fun i _ _ => hf i (by omega) (by omega) (by omega) (by omega))⟩
theorem xs_St24 {h h' : xv_H} {σ : xs_Sg} (hS : xs_S h σ) (T2 : xs_t2 h') (T4 : xs_t4 h') (hf : ∀ i, i < 17 ∨ 21 < i → i ≠ 6 → i ≠ 6 + 1 → h' i = h i) : xs_S h' σ :=
  xs_Sc hS (fun i _ _ => hf i (by omega) (by omega) (by omega)) ⟨xs_t1k (xs_T6 hS).1 (fun i _ _ => hf i (by omega) (by omega) (by omega)), T2, xs_t3k (xs_T6 hS).2.2.1 (fun i _ _ => hf i (by omega) (by omega) (by omega)), T4, xs_t5k (xs_T6 hS).2.2.2.2.1 (fun i _ _ => hf i (by omega) (by omega) (by omega)), xs_t6k (xs_T6 hS).2.2.2.2.2 (fun i _ _ => hf i (by omega) (by omega) (by omega))⟩
theorem xs_St124 {h h' : xv_H} {σ : xs_Sg} (hS : xs_S h σ) (T1 : xs_t1 h') (T2 : xs_t2 h') (T4 : xs_t4 h') (hf : ∀ i, i < 17 ∨ 21 < i → i ≠ 4 → i ≠ 4 + 1 → i ≠ 6 → i ≠ 6 + 1 → h' i = h i) : xs_S h' σ :=
  xs_Sc hS (fun i _ _ => hf i (by omega) (by omega) (by omega) (by omega) (by omega)) ⟨T1, T2, xs_t3k (xs_T6 hS).2.2.1 (fun i _ _ => hf i (by omega) (by omega) (by omega) (by omega) (by omega)), T4, xs_t5k (xs_T6 hS).2.2.2.2.1 (fun i _ _ => hf i (by omega) (by omega) (by omega) (by omega) (by omega)), xs_t6k (xs_T6 hS).2.2.2.2.2 (fun i _ _ => hf i (by omega) (by omega) (by omega) (by omega) (by omega))⟩
theorem xs_St46 {h h' : xv_H} {σ : xs_Sg} (hS : xs_S h σ) (T4 : xs_t4 h') (T6 : xs_t6 h' (σ 11 0 0) (σ 12 0)) (hf : ∀ i, i < 17 ∨ 21 < i → i < 24 ∨ 40 < i → h' i = h i) : xs_S h' σ :=
  xs_Sc hS (fun i _ _ => hf i (by omega) (by omega)) ⟨xs_t1k (xs_T6 hS).1 (fun i _ _ => hf i (by omega) (by omega)), xs_t2k (xs_T6 hS).2.1 (fun i _ _ => hf i (by omega) (by omega)), xs_t3k (xs_T6 hS).2.2.1 (fun i _ _ => hf i (by omega) (by omega)), T4, xs_t5k (xs_T6 hS).2.2.2.2.1 (fun i _ _ => hf i (by omega) (by omega)), T6⟩
def xs_setting (σ : xs_Sg) (p w : Int32) : Int32 × xs_Sg := xs_onE σ p (xs_i w 0 2) fun j => xs_an σ (if w = 0 then (xs_set (σ 4 j) (σ 5 j 0)).2.1 else if w = 1 then (xs_set (σ 4 j) (σ 5 j 0)).2.2 else (xs_set (σ 4 j) (σ 5 j 0)).1)
def xs_tune (σ : xs_Sg) (p : Int32) : Int32 × xs_Sg := xs_onE σ p true fun j => (xs_unl (σ 4 j) (σ 5 j 0), xs_fd (xs_en σ j (xs_ag (σ 4 j) (xs_set (σ 4 j) (σ 5 j 0)).2.1 (xs_set (σ 4 j) (σ 5 j 0)).2.2) (σ 5 j 0) (σ 6 j 0)) 0)
set_option maxRecDepth 20000 in
set_option maxHeartbeats 2000000 in
/-- setting -/
theorem xm_X8_setting : xv_K yX8_setting mX8_setting (fun as h n Post => ∃ (σ : xs_Sg) (p : Int32) (w : Int32), as = [.ref 0, .int p, .int w] ∧ (xs_S h σ) ∧ (83 ≤ n) ∧ (xs_V σ) ∧ xs_D h n Post (xs_setting σ p w)) := by
  refine xv_entry (by decide +kernel) rfl (fun h => absurd h (by decide)) ?_
  rintro X _ h n Post ⟨σ, p, w, rfl, hS, h83, hV, hp⟩
  refine ⟨Nat.le_of_ble_eq_true rfl, ?_⟩
  show xv_V X mX8_setting Post 0 0 0 [(0, .ref 0), (1, .int p), (2, .int w)] [] h n
  refine xi_iload_n (q := 1) dX8_setting_0 rfl rfl ?_
  refine xv_cS1 (q := 4) xm_X8_isPlace ln_X8_125 dX8_setting_1 ⟨(Nat.le_of_ble_eq_true rfl), (Nat.le_of_ble_eq_true rfl)⟩ (Nat.le_of_ble_eq_true rfl) ⟨rfl, rfl⟩ rfl (Nat.zero_le _) (Nat.zero_le _) ?_
  refine ⟨_, rfl, ?_⟩
  refine xi_if_eq (q := 7) (q2 := 16) dX8_setting_4 (by decide) rfl (fun c_4 => ?_) (fun c_4 => ?_)
  · have g_4 : xs_i p 0 5 = false := decide_eq_false (xn_b0 c_4)
    refine xi_ldc (q := 18) dX8_setting_16 kc_X8_81 rfl ?_
    refine xi_ret ⟨_, rfl, rfl, dX8_setting_18⟩ (Nat.zero_le _) (Nat.zero_le _) ?_
    exact xs_fin hp (by simp only [xs_setting, xs_onE, xs_onP, xs_fn, xs_an, Bool.not_false, Bool.not_true, Bool.true_or, Bool.false_or, Bool.and_true, Bool.true_and, Bool.and_false, Bool.false_and, Bool.false_eq_true, if_true, if_false, ↓reduceIte, g_4]) _ hS (fun i hi => rfl)
  · have g_4 : xs_i p 0 5 = true := decide_eq_true (xn_b1 c_4)
    obtain ⟨kp, hkp, rfl⟩ := xn_pk (m := 5) (by omega) (xn_b1 c_4)
    refine xi_iload_n (q := 8) dX8_setting_7 rfl rfl ?_
    refine xi_iconst (x := 0) (q := 9) dX8_setting_8 (by decide) rfl ?_
    refine xi_iconst (x := 2) (q := 10) dX8_setting_9 (by decide) rfl ?_
    refine xv_cS3 (q := 13) xm_X8_within ln_X8_77 dX8_setting_10 ⟨(Nat.le_of_ble_eq_true rfl), (Nat.le_of_ble_eq_true rfl)⟩ (Nat.le_of_ble_eq_true rfl) ⟨rfl, rfl⟩ rfl (Nat.zero_le _) (Nat.zero_le _) ?_
    refine ⟨_, _, _, rfl, ?_⟩
    refine xi_if_ne (q := 16) (q2 := 19) dX8_setting_13 (by decide) rfl (fun c_13 => ?_) (fun c_13 => ?_)
    · have g_13 : xs_i w 0 2 = true := decide_eq_true (xn_b1 c_13)
      refine xi_aload_n (q := 20) dX8_setting_19 rfl rfl ?_
      refine xi_iload_n (q := 21) dX8_setting_20 rfl rfl ?_
      refine xv_cV1 (q := 24) xm_X8_engineAt ln_X8_142 dX8_setting_21 ⟨by omega, hS.1.1⟩ rfl ⟨(Nat.le_of_ble_eq_true rfl), (Nat.le_of_ble_eq_true rfl)⟩ (Nat.le_of_ble_eq_true rfl) ⟨rfl, rfl⟩ rfl (Nat.zero_le _) (Nat.zero_le _) ?_
      refine ⟨_, kp, rfl, hS, by omega, by omega, fun hE21 => ?_, fun hE21 => ?_⟩
      · skip
        refine xi_astore_n (q := 25) dX8_setting_24 (Nat.le_of_ble_eq_true rfl) rfl ?_
        refine xi_aload_n (q := 26) dX8_setting_25 rfl rfl ?_
        refine xi_ifnonnull_r (q := 35) dX8_setting_26 (by decide) ?_
        refine xi_aload_n (q := 36) dX8_setting_35 rfl rfl ?_
        obtain ⟨ga_36, gg_36, gl_36, gw_36, hG_36⟩ := hS.2.2.2.2.2.2.2.1
        refine xi_getf (q := 39) dX8_setting_36 fl_X8_40 ⟨by omega, hS.1.1⟩ rfl rfl ?_
        refine xi_aload_n (q := 40) dX8_setting_39 rfl rfl ?_
        refine xi_aload_n (q := 41) dX8_setting_40 rfl rfl ?_
        obtain ⟨f4_41, s4_41, t4_41, h4_41, h5_41⟩ := hS.2.2.2.2.2.1
        refine xi_getf (q := 44) dX8_setting_41 fl_X8_28 ⟨by omega, hS.1.1⟩ rfl rfl ?_
        refine xv_cV2 (q := 47) xm_X3_seekSetting ln_X8_191 dX8_setting_44 ⟨by omega, hG_36.1⟩ rfl ⟨(Nat.le_of_ble_eq_true rfl), (Nat.le_of_ble_eq_true rfl)⟩ (Nat.le_of_ble_eq_true rfl) ⟨rfl, rfl⟩ rfl (Nat.zero_le _) (Nat.zero_le _) ?_
        refine ⟨_, _, _, _, 59 + 2 * kp, _, _, _, 4, _, _, _, rfl, by omega, (hS.2.2.1 kp (by omega)).1, (hS.2.2.1 kp (by omega)).2, hG_36, by omega, by omega, by omega, h4_41, h5_41, fun h9 w9 f9 q1 q3 q4 q2 => ?_⟩
        have S92 := xs_St13 hS ⟨_, _, _, q3, q4⟩ ⟨_, _, _, _, q1⟩ q2
        obtain ⟨Z, hZ⟩ : ∃ Z, Z = xs_set (σ 4 kp) (σ 5 kp 0) := ⟨_, rfl⟩
        rw [← hZ] at q1
        refine xi_iload_n (q := 48) dX8_setting_47 rfl rfl ?_
        refine xi_if_ne (q := 51) (q2 := 63) dX8_setting_48 (by decide) rfl (fun c_48 => ?_) (fun c_48 => ?_)
        · skip
          refine xi_aload_n (q := 64) dX8_setting_63 rfl rfl ?_
          refine xi_iload_n (q := 65) dX8_setting_64 rfl rfl ?_
          refine xi_iconst (x := 1) (q := 66) dX8_setting_65 (by decide) rfl ?_
          refine xi_icmp_ne (q := 69) (q2 := 79) dX8_setting_66 (by decide) rfl (fun c_66 => ?_) (fun c_66 => ?_)
          · skip
            refine xi_aload_n (q := 80) dX8_setting_79 rfl rfl ?_
            refine xi_getf (q := 83) dX8_setting_80 fl_X8_40 ⟨by omega, S92.1.1⟩ rfl rfl ?_
            refine xi_getf (q := 86) dX8_setting_83 fl_X8_201 ⟨by omega, q1.1⟩ rfl rfl ?_
            refine xv_cV1 (q := 89) xm_X8_answered ln_X8_90 dX8_setting_86 ⟨by omega, S92.1.1⟩ rfl ⟨(Nat.le_of_ble_eq_true rfl), (Nat.le_of_ble_eq_true rfl)⟩ (Nat.le_of_ble_eq_true rfl) ⟨rfl, rfl⟩ rfl (Nat.zero_le _) (Nat.zero_le _) ?_
            refine ⟨_, _, rfl, S92, by omega, fun H1 S1 F1 => ?_⟩
            refine xi_ret ⟨_, rfl, rfl, dX8_setting_89⟩ (Nat.zero_le _) (Nat.zero_le _) ?_
            exact xs_fin hp (by simp only [xs_setting, xs_onE, xs_onP, xs_fn, xs_an, Bool.not_false, Bool.not_true, Bool.true_or, Bool.false_or, Bool.and_true, Bool.true_and, Bool.and_false, Bool.false_and, Bool.false_eq_true, if_true, if_false, ↓reduceIte, g_4, g_13, hE21, ← hZ, c_48, c_66, xs_kk0 (k := kp) (by omega)]) _ S1 (fun i hi => (F1 i (by omega)).trans ((q2 i (by omega) (by omega) (by omega)).trans (rfl)))
          · skip
            refine xi_aload_n (q := 70) dX8_setting_69 rfl rfl ?_
            refine xi_getf (q := 73) dX8_setting_70 fl_X8_40 ⟨by omega, S92.1.1⟩ rfl rfl ?_
            refine xi_getf (q := 76) dX8_setting_73 fl_X8_198 ⟨by omega, q1.1⟩ rfl rfl ?_
            refine xi_goto (q := 86) dX8_setting_76 (by decide) ?_
            refine xv_cV1 (q := 89) xm_X8_answered ln_X8_90 dX8_setting_86 ⟨by omega, S92.1.1⟩ rfl ⟨(Nat.le_of_ble_eq_true rfl), (Nat.le_of_ble_eq_true rfl)⟩ (Nat.le_of_ble_eq_true rfl) ⟨rfl, rfl⟩ rfl (Nat.zero_le _) (Nat.zero_le _) ?_
            refine ⟨_, _, rfl, S92, by omega, fun H2 S2 F2 => ?_⟩
            refine xi_ret ⟨_, rfl, rfl, dX8_setting_89⟩ (Nat.zero_le _) (Nat.zero_le _) ?_
            exact xs_fin hp (by simp only [xs_setting, xs_onE, xs_onP, xs_fn, xs_an, Bool.not_false, Bool.not_true, Bool.true_or, Bool.false_or, Bool.and_true, Bool.true_and, Bool.and_false, Bool.false_and, Bool.false_eq_true, if_true, if_false, ↓reduceIte, g_4, g_13, hE21, ← hZ, c_48, eq_true c_66, xs_kk0 (k := kp) (by omega)]) _ S2 (fun i hi => (F2 i (by omega)).trans ((q2 i (by omega) (by omega) (by omega)).trans (rfl)))
        · skip
          refine xi_aload_n (q := 52) dX8_setting_51 rfl rfl ?_
          refine xi_aload_n (q := 53) dX8_setting_52 rfl rfl ?_
          refine xi_getf (q := 56) dX8_setting_53 fl_X8_40 ⟨by omega, S92.1.1⟩ rfl rfl ?_
          refine xi_getf (q := 59) dX8_setting_56 fl_X8_195 ⟨by omega, q1.1⟩ rfl rfl ?_
          refine xv_cV1 (q := 62) xm_X8_answered ln_X8_90 dX8_setting_59 ⟨by omega, S92.1.1⟩ rfl ⟨(Nat.le_of_ble_eq_true rfl), (Nat.le_of_ble_eq_true rfl)⟩ (Nat.le_of_ble_eq_true rfl) ⟨rfl, rfl⟩ rfl (Nat.zero_le _) (Nat.zero_le _) ?_
          refine ⟨_, _, rfl, S92, by omega, fun H3 S3 F3 => ?_⟩
          refine xi_ret ⟨_, rfl, rfl, dX8_setting_62⟩ (Nat.zero_le _) (Nat.zero_le _) ?_
          exact xs_fin hp (by simp only [xs_setting, xs_onE, xs_onP, xs_fn, xs_an, Bool.not_false, Bool.not_true, Bool.true_or, Bool.false_or, Bool.and_true, Bool.true_and, Bool.and_false, Bool.false_and, Bool.false_eq_true, if_true, if_false, ↓reduceIte, g_4, g_13, hE21, ← hZ, eq_true c_48, xs_kk0 (k := kp) (by omega)]) _ S3 (fun i hi => (F3 i (by omega)).trans ((q2 i (by omega) (by omega) (by omega)).trans (rfl)))
      · skip
        refine xi_astore_nN (q := 25) dX8_setting_24 (Nat.le_of_ble_eq_true rfl) rfl ?_
        refine xi_aload_nN (q := 26) dX8_setting_25 rfl rfl ?_
        refine xi_ifnonnull_n (q := 29) dX8_setting_26 rfl ?_
        refine xi_aload_n (q := 30) dX8_setting_29 rfl rfl ?_
        refine xi_iconst (x := 1) (q := 31) dX8_setting_30 (by decide) rfl ?_
        refine xv_cV1 (q := 34) xm_X8_found ln_X8_82 dX8_setting_31 ⟨by omega, hS.1.1⟩ rfl ⟨(Nat.le_of_ble_eq_true rfl), (Nat.le_of_ble_eq_true rfl)⟩ (Nat.le_of_ble_eq_true rfl) ⟨rfl, rfl⟩ rfl (Nat.zero_le _) (Nat.zero_le _) ?_
        refine ⟨_, _, rfl, hS, by omega, fun H4 S4 F4 => ?_⟩
        refine xi_ret ⟨_, rfl, rfl, dX8_setting_34⟩ (Nat.zero_le _) (Nat.zero_le _) ?_
        exact xs_fin hp (by simp only [xs_setting, xs_onE, xs_onP, xs_fn, xs_an, Bool.not_false, Bool.not_true, Bool.true_or, Bool.false_or, Bool.and_true, Bool.true_and, Bool.and_false, Bool.false_and, Bool.false_eq_true, if_true, if_false, ↓reduceIte, g_4, g_13, eq_true hE21, xs_kk0 (k := kp) (by omega)]) _ S4 (fun i hi => (F4 i (by omega)).trans (rfl))
    · have g_13 : xs_i w 0 2 = false := decide_eq_false (xn_b0 c_13)
      refine xi_ldc (q := 18) dX8_setting_16 kc_X8_81 rfl ?_
      refine xi_ret ⟨_, rfl, rfl, dX8_setting_18⟩ (Nat.zero_le _) (Nat.zero_le _) ?_
      exact xs_fin hp (by simp only [xs_setting, xs_onE, xs_onP, xs_fn, xs_an, Bool.not_false, Bool.not_true, Bool.true_or, Bool.false_or, Bool.and_true, Bool.true_and, Bool.and_false, Bool.false_and, Bool.false_eq_true, if_true, if_false, ↓reduceIte, g_4, g_13, xs_kk0 (k := kp) (by omega)]) _ hS (fun i hi => rfl)

set_option maxRecDepth 20000 in
set_option maxHeartbeats 2000000 in
/-- tune -/
theorem xm_X8_tune : xv_K yX8_tune mX8_tune (fun as h n Post => ∃ (σ : xs_Sg) (p : Int32), as = [.ref 0, .int p] ∧ (xs_S h σ) ∧ (83 ≤ n) ∧ (xs_V σ) ∧ xs_D h n Post (xs_tune σ p)) := by
  refine xv_entry (by decide +kernel) rfl (fun h => absurd h (by decide)) ?_
  rintro X _ h n Post ⟨σ, p, rfl, hS, h83, hV, hp⟩
  refine ⟨Nat.le_of_ble_eq_true rfl, ?_⟩
  show xv_V X mX8_tune Post 0 0 0 [(0, .ref 0), (1, .int p)] [] h n
  refine xi_iload_n (q := 1) dX8_tune_0 rfl rfl ?_
  refine xv_cS1 (q := 4) xm_X8_isPlace ln_X8_125 dX8_tune_1 ⟨(Nat.le_of_ble_eq_true rfl), (Nat.le_of_ble_eq_true rfl)⟩ (Nat.le_of_ble_eq_true rfl) ⟨rfl, rfl⟩ rfl (Nat.zero_le _) (Nat.zero_le _) ?_
  refine ⟨_, rfl, ?_⟩
  refine xi_if_ne (q := 7) (q2 := 10) dX8_tune_4 (by decide) rfl (fun c_4 => ?_) (fun c_4 => ?_)
  · have g_4 : xs_i p 0 5 = true := decide_eq_true (xn_b1 c_4)
    obtain ⟨kp, hkp, rfl⟩ := xn_pk (m := 5) (by omega) (xn_b1 c_4)
    refine xi_aload_n (q := 11) dX8_tune_10 rfl rfl ?_
    refine xi_iload_n (q := 12) dX8_tune_11 rfl rfl ?_
    refine xv_cV1 (q := 15) xm_X8_engineAt ln_X8_142 dX8_tune_12 ⟨by omega, hS.1.1⟩ rfl ⟨(Nat.le_of_ble_eq_true rfl), (Nat.le_of_ble_eq_true rfl)⟩ (Nat.le_of_ble_eq_true rfl) ⟨rfl, rfl⟩ rfl (Nat.zero_le _) (Nat.zero_le _) ?_
    refine ⟨_, kp, rfl, hS, by omega, by omega, fun hE12 => ?_, fun hE12 => ?_⟩
    · skip
      refine xi_astore_n (q := 16) dX8_tune_15 (Nat.le_of_ble_eq_true rfl) rfl ?_
      refine xi_aload_n (q := 17) dX8_tune_16 rfl rfl ?_
      refine xi_ifnonnull_r (q := 26) dX8_tune_17 (by decide) ?_
      refine xi_aload_n (q := 27) dX8_tune_26 rfl rfl ?_
      obtain ⟨ga_27, gg_27, gl_27, gw_27, hG_27⟩ := hS.2.2.2.2.2.2.2.1
      refine xi_getf (q := 30) dX8_tune_27 fl_X8_40 ⟨by omega, hS.1.1⟩ rfl rfl ?_
      refine xi_aload_n (q := 31) dX8_tune_30 rfl rfl ?_
      refine xv_cV1 (q := 34) xm_X3_unlike ln_X8_183 dX8_tune_31 ⟨by omega, hG_27.1⟩ rfl ⟨(Nat.le_of_ble_eq_true rfl), (Nat.le_of_ble_eq_true rfl)⟩ (Nat.le_of_ble_eq_true rfl) ⟨rfl, rfl⟩ rfl (Nat.zero_le _) (Nat.zero_le _) ?_
      refine ⟨_, _, _, _, 59 + 2 * kp, _, _, _, rfl, by omega, (hS.2.2.1 kp (by omega)).1, (hS.2.2.1 kp (by omega)).2, hG_27, by omega, by omega, (hV.2.2.2.1 kp (by omega) hE12).1.2.2.1, fun h8 w8 p1 p2 => ?_⟩
      have S90 := xs_St3 hS ⟨_, _, _, _, p1⟩ p2
      refine xi_istore_n (q := 35) dX8_tune_34 (Nat.le_of_ble_eq_true rfl) rfl ?_
      refine xi_aload_n (q := 36) dX8_tune_35 rfl rfl ?_
      obtain ⟨ga_36, gg_36, gl_36, gw_36, hG_36⟩ := S90.2.2.2.2.2.2.2.1
      refine xi_getf (q := 39) dX8_tune_36 fl_X8_40 ⟨by omega, S90.1.1⟩ rfl rfl ?_
      refine xi_aload_n (q := 40) dX8_tune_39 rfl rfl ?_
      refine xi_aload_n (q := 41) dX8_tune_40 rfl rfl ?_
      obtain ⟨f4_41, s4_41, t4_41, h4_41, h5_41⟩ := S90.2.2.2.2.2.1
      refine xi_getf (q := 44) dX8_tune_41 fl_X8_28 ⟨by omega, S90.1.1⟩ rfl rfl ?_
      refine xv_cV2 (q := 47) xm_X3_seekSetting ln_X8_191 dX8_tune_44 ⟨by omega, hG_36.1⟩ rfl ⟨(Nat.le_of_ble_eq_true rfl), (Nat.le_of_ble_eq_true rfl)⟩ (Nat.le_of_ble_eq_true rfl) ⟨rfl, rfl⟩ rfl (Nat.zero_le _) (Nat.zero_le _) ?_
      refine ⟨_, _, _, _, 59 + 2 * kp, _, _, _, 4, _, _, _, rfl, by omega, (S90.2.2.1 kp (by omega)).1, (S90.2.2.1 kp (by omega)).2, hG_36, by omega, by omega, by omega, h4_41, h5_41, fun h9 w9 f9 q1 q3 q4 q2 => ?_⟩
      have S92 := xs_St13 S90 ⟨_, _, _, q3, q4⟩ ⟨_, _, _, _, q1⟩ q2
      obtain ⟨Z, hZ⟩ : ∃ Z, Z = xs_set (σ 4 kp) (σ 5 kp 0) := ⟨_, rfl⟩
      rw [← hZ] at q1
      refine xi_aload_n (q := 48) dX8_tune_47 rfl rfl ?_
      refine xi_getf (q := 51) dX8_tune_48 fl_X8_146 ⟨by omega, (S92.2.2.1 kp (by omega)).1⟩ rfl rfl ?_
      refine xi_iconst (x := 2) (q := 52) dX8_tune_51 (by decide) rfl ?_
      refine xi_aload_n (q := 53) dX8_tune_52 rfl rfl ?_
      refine xi_getf (q := 56) dX8_tune_53 fl_X8_40 ⟨by omega, S92.1.1⟩ rfl rfl ?_
      refine xi_getf (q := 59) dX8_tune_56 fl_X8_195 ⟨by omega, q1.1⟩ rfl rfl ?_
      refine xi_iast (q := 60) dX8_tune_59 ⟨by omega, (S92.2.2.1 kp (by omega)).2⟩ ⟨xv_ink (by decide), (by decide : (2 : Int32).toNatClampNeg = 2)⟩ rfl ?_
      refine xi_aload_n (q := 61) dX8_tune_60 rfl rfl ?_
      refine xi_getf (q := 64) dX8_tune_61 fl_X8_146 (xv_keep (by omega) ⟨by omega, (S92.2.2.1 kp (by omega)).1⟩) rfl rfl ?_
      refine xi_iconst (x := 3) (q := 65) dX8_tune_64 (by decide) rfl ?_
      refine xi_aload_n (q := 66) dX8_tune_65 rfl rfl ?_
      refine xi_getf (q := 69) dX8_tune_66 fl_X8_40 (xv_keep (by omega) ⟨by omega, S92.1.1⟩) rfl rfl ?_
      refine xi_getf (q := 72) dX8_tune_69 fl_X8_198 (xv_keep (by omega) ⟨by omega, q1.1⟩) rfl rfl ?_
      refine xi_iast (q := 73) dX8_tune_72 (xv_self (by omega)) ⟨xv_ink (by decide), (by decide : (3 : Int32).toNatClampNeg = 3)⟩ rfl ?_
      refine xi_aload_n (q := 74) dX8_tune_73 rfl rfl ?_
      refine xi_iload_n (q := 75) dX8_tune_74 rfl rfl ?_
      refine xv_cV1 (q := 78) xm_X8_answered ln_X8_90 dX8_tune_75 (xv_keep (by omega) (xv_keep (by omega) ⟨by omega, S92.1.1⟩)) rfl ⟨(Nat.le_of_ble_eq_true rfl), (Nat.le_of_ble_eq_true rfl)⟩ (Nat.le_of_ble_eq_true rfl) ⟨rfl, rfl⟩ rfl (Nat.zero_le _) (Nat.zero_le _) ?_
      refine ⟨_, _, rfl, xs_Sen (j := kp) (by omega) (s := σ 5 kp 0) (t := σ 6 kp 0) (nf := xs_ag (σ 4 kp) Z.2.1 Z.2.2) S92 (by rw [bx_uu]; exact (va_up_ne _ _ (by omega)).trans (S92.2.2.1 kp (by omega)).1) (by rw [bx_uu]; exact va_up_self _ _ _) (fun i i1 i2 => by rw [bx_uu]; exact va_up_ne _ _ i2), by omega, fun H1 S1 F1 => ?_⟩
      refine xi_ret ⟨_, rfl, rfl, dX8_tune_78⟩ (Nat.zero_le _) (Nat.zero_le _) ?_
      exact xs_fin hp (by simp only [xs_tune, xs_onE, xs_onP, xs_fn, xs_an, Bool.not_false, Bool.not_true, Bool.true_or, Bool.false_or, Bool.and_true, Bool.true_and, Bool.and_false, Bool.false_and, Bool.false_eq_true, if_true, if_false, ↓reduceIte, g_4, hE12, ← hZ, xs_kk0 (k := kp) (by omega)]) _ S1 (fun i hi => (F1 i (by omega)).trans ((by rw [bx_uu]; exact va_up_ne _ _ (by omega) : _ = h9 i).trans ((q2 i (by omega) (by omega) (by omega)).trans ((p2 i (by omega)).trans (rfl)))))
    · skip
      refine xi_astore_nN (q := 16) dX8_tune_15 (Nat.le_of_ble_eq_true rfl) rfl ?_
      refine xi_aload_nN (q := 17) dX8_tune_16 rfl rfl ?_
      refine xi_ifnonnull_n (q := 20) dX8_tune_17 rfl ?_
      refine xi_aload_n (q := 21) dX8_tune_20 rfl rfl ?_
      refine xi_iconst (x := 1) (q := 22) dX8_tune_21 (by decide) rfl ?_
      refine xv_cV1 (q := 25) xm_X8_found ln_X8_82 dX8_tune_22 ⟨by omega, hS.1.1⟩ rfl ⟨(Nat.le_of_ble_eq_true rfl), (Nat.le_of_ble_eq_true rfl)⟩ (Nat.le_of_ble_eq_true rfl) ⟨rfl, rfl⟩ rfl (Nat.zero_le _) (Nat.zero_le _) ?_
      refine ⟨_, _, rfl, hS, by omega, fun H1 S1 F1 => ?_⟩
      refine xi_ret ⟨_, rfl, rfl, dX8_tune_25⟩ (Nat.zero_le _) (Nat.zero_le _) ?_
      exact xs_fin hp (by simp only [xs_tune, xs_onE, xs_onP, xs_fn, xs_an, Bool.not_false, Bool.not_true, Bool.true_or, Bool.false_or, Bool.and_true, Bool.true_and, Bool.and_false, Bool.false_and, Bool.false_eq_true, if_true, if_false, ↓reduceIte, g_4, eq_true hE12, xs_kk0 (k := kp) (by omega)]) _ S1 (fun i hi => (F1 i (by omega)).trans (rfl))
  · have g_4 : xs_i p 0 5 = false := decide_eq_false (xn_b0 c_4)
    refine xi_ldc (q := 9) dX8_tune_7 kc_X8_81 rfl ?_
    refine xi_ret ⟨_, rfl, rfl, dX8_tune_9⟩ (Nat.zero_le _) (Nat.zero_le _) ?_
    exact xs_fin hp (by simp only [xs_tune, xs_onE, xs_onP, xs_fn, xs_an, Bool.not_false, Bool.not_true, Bool.true_or, Bool.false_or, Bool.and_true, Bool.true_and, Bool.and_false, Bool.false_and, Bool.false_eq_true, if_true, if_false, ↓reduceIte, g_4]) _ hS (fun i hi => rfl)

def xs_sel (f : Nat → Int32) (k : Nat) : Int32 := f k
def xs_card (σ : xs_Sg) (p m b g d k : Int32) : Int32 × xs_Sg := xs_onE σ p (xs_i m (-6) 6 && xs_i b 0 2000 && xs_i g 0 4 && xs_i d 0 1 && xs_i k 0 47) fun j => xs_an σ (xs_sel (fun k => xs_cd (σ 4 j) (σ 5 j 0) m (b * g / 4) d k) k.toNatClampNeg)
set_option maxRecDepth 20000 in
set_option maxHeartbeats 2000000 in
/-- card -/
theorem xm_X8_card : xv_K yX8_card mX8_card (fun as h n Post => ∃ (σ : xs_Sg) (p : Int32) (m : Int32) (b : Int32) (g : Int32) (d : Int32) (k : Int32), as = [.ref 0, .int p, .int m, .int b, .int g, .int d, .int k] ∧ (xs_S h σ) ∧ (83 ≤ n) ∧ (xs_V σ) ∧ xs_D h n Post (xs_card σ p m b g d k)) := by
  refine xv_entry (by decide +kernel) rfl (fun h => absurd h (by decide)) ?_
  rintro X _ h n Post ⟨σ, p, m, b, g, d, k, rfl, hS, h83, hV, hp⟩
  refine ⟨Nat.le_of_ble_eq_true rfl, ?_⟩
  show xv_V X mX8_card Post 0 0 0 [(0, .ref 0), (1, .int p), (2, .int m), (3, .int b), (4, .int g), (5, .int d), (6, .int k)] [] h n
  refine xi_iload_n (q := 1) dX8_card_0 rfl rfl ?_
  refine xv_cS1 (q := 4) xm_X8_isPlace ln_X8_125 dX8_card_1 ⟨(Nat.le_of_ble_eq_true rfl), (Nat.le_of_ble_eq_true rfl)⟩ (Nat.le_of_ble_eq_true rfl) ⟨rfl, rfl⟩ rfl (Nat.zero_le _) (Nat.zero_le _) ?_
  refine ⟨_, rfl, ?_⟩
  refine xi_if_eq (q := 7) (q2 := 48) dX8_card_4 (by decide) rfl (fun c_4 => ?_) (fun c_4 => ?_)
  · have g_4 : xs_i p 0 5 = false := decide_eq_false (xn_b0 c_4)
    refine xi_ldc (q := 50) dX8_card_48 kc_X8_81 rfl ?_
    refine xi_ret ⟨_, rfl, rfl, dX8_card_50⟩ (Nat.zero_le _) (Nat.zero_le _) ?_
    exact xs_fin hp (by simp only [xs_card, xs_sel, xs_onE, xs_onP, xs_fn, xs_an, Bool.not_false, Bool.not_true, Bool.true_or, Bool.false_or, Bool.and_true, Bool.true_and, Bool.and_false, Bool.false_and, Bool.false_eq_true, if_true, if_false, ↓reduceIte, g_4]) _ hS (fun i hi => rfl)
  · have g_4 : xs_i p 0 5 = true := decide_eq_true (xn_b1 c_4)
    obtain ⟨kp, hkp, rfl⟩ := xn_pk (m := 5) (by omega) (xn_b1 c_4)
    refine xi_iload_n (q := 8) dX8_card_7 rfl rfl ?_
    refine xv_cS1 (q := 11) xm_X8_isNotch ln_X8_166 dX8_card_8 ⟨(Nat.le_of_ble_eq_true rfl), (Nat.le_of_ble_eq_true rfl)⟩ (Nat.le_of_ble_eq_true rfl) ⟨rfl, rfl⟩ rfl (Nat.zero_le _) (Nat.zero_le _) ?_
    refine ⟨_, rfl, ?_⟩
    refine xi_if_eq (q := 14) (q2 := 48) dX8_card_11 (by decide) rfl (fun c_11 => ?_) (fun c_11 => ?_)
    · have g_11 : xs_i m (-6) 6 = false := decide_eq_false (xn_b0 c_11)
      refine xi_ldc (q := 50) dX8_card_48 kc_X8_81 rfl ?_
      refine xi_ret ⟨_, rfl, rfl, dX8_card_50⟩ (Nat.zero_le _) (Nat.zero_le _) ?_
      exact xs_fin hp (by simp only [xs_card, xs_sel, xs_onE, xs_onP, xs_fn, xs_an, Bool.not_false, Bool.not_true, Bool.true_or, Bool.false_or, Bool.and_true, Bool.true_and, Bool.and_false, Bool.false_and, Bool.false_eq_true, if_true, if_false, ↓reduceIte, g_4, g_11, xs_kk0 (k := kp) (by omega)]) _ hS (fun i hi => rfl)
    · have g_11 : xs_i m (-6) 6 = true := decide_eq_true (xn_b1 c_11)
      refine xi_iload_n (q := 15) dX8_card_14 rfl rfl ?_
      refine xv_cS1 (q := 18) xm_X8_isBoiler ln_X8_204 dX8_card_15 ⟨(Nat.le_of_ble_eq_true rfl), (Nat.le_of_ble_eq_true rfl)⟩ (Nat.le_of_ble_eq_true rfl) ⟨rfl, rfl⟩ rfl (Nat.zero_le _) (Nat.zero_le _) ?_
      refine ⟨_, rfl, ?_⟩
      refine xi_if_eq (q := 21) (q2 := 48) dX8_card_18 (by decide) rfl (fun c_18 => ?_) (fun c_18 => ?_)
      · have g_18 : xs_i b 0 2000 = false := decide_eq_false (xn_b0 c_18)
        refine xi_ldc (q := 50) dX8_card_48 kc_X8_81 rfl ?_
        refine xi_ret ⟨_, rfl, rfl, dX8_card_50⟩ (Nat.zero_le _) (Nat.zero_le _) ?_
        exact xs_fin hp (by simp only [xs_card, xs_sel, xs_onE, xs_onP, xs_fn, xs_an, Bool.not_false, Bool.not_true, Bool.true_or, Bool.false_or, Bool.and_true, Bool.true_and, Bool.and_false, Bool.false_and, Bool.false_eq_true, if_true, if_false, ↓reduceIte, g_4, g_11, g_18, xs_kk0 (k := kp) (by omega)]) _ hS (fun i hi => rfl)
      · have g_18 : xs_i b 0 2000 = true := decide_eq_true (xn_b1 c_18)
        refine xi_iload (q := 23) dX8_card_21 rfl rfl ?_
        refine xv_cS1 (q := 26) xm_X8_isRegulator ln_X8_207 dX8_card_23 ⟨(Nat.le_of_ble_eq_true rfl), (Nat.le_of_ble_eq_true rfl)⟩ (Nat.le_of_ble_eq_true rfl) ⟨rfl, rfl⟩ rfl (Nat.zero_le _) (Nat.zero_le _) ?_
        refine ⟨_, rfl, ?_⟩
        refine xi_if_eq (q := 29) (q2 := 48) dX8_card_26 (by decide) rfl (fun c_26 => ?_) (fun c_26 => ?_)
        · have g_26 : xs_i g 0 4 = false := decide_eq_false (xn_b0 c_26)
          refine xi_ldc (q := 50) dX8_card_48 kc_X8_81 rfl ?_
          refine xi_ret ⟨_, rfl, rfl, dX8_card_50⟩ (Nat.zero_le _) (Nat.zero_le _) ?_
          exact xs_fin hp (by simp only [xs_card, xs_sel, xs_onE, xs_onP, xs_fn, xs_an, Bool.not_false, Bool.not_true, Bool.true_or, Bool.false_or, Bool.and_true, Bool.true_and, Bool.and_false, Bool.false_and, Bool.false_eq_true, if_true, if_false, ↓reduceIte, g_4, g_11, g_18, g_26, xs_kk0 (k := kp) (by omega)]) _ hS (fun i hi => rfl)
        · have g_26 : xs_i g 0 4 = true := decide_eq_true (xn_b1 c_26)
          refine xi_iload (q := 31) dX8_card_29 rfl rfl ?_
          refine xv_cS1 (q := 34) xm_X8_isEnd ln_X8_172 dX8_card_31 ⟨(Nat.le_of_ble_eq_true rfl), (Nat.le_of_ble_eq_true rfl)⟩ (Nat.le_of_ble_eq_true rfl) ⟨rfl, rfl⟩ rfl (Nat.zero_le _) (Nat.zero_le _) ?_
          refine ⟨_, rfl, ?_⟩
          refine xi_if_eq (q := 37) (q2 := 48) dX8_card_34 (by decide) rfl (fun c_34 => ?_) (fun c_34 => ?_)
          · have g_34 : xs_i d 0 1 = false := decide_eq_false (xn_b0 c_34)
            refine xi_ldc (q := 50) dX8_card_48 kc_X8_81 rfl ?_
            refine xi_ret ⟨_, rfl, rfl, dX8_card_50⟩ (Nat.zero_le _) (Nat.zero_le _) ?_
            exact xs_fin hp (by simp only [xs_card, xs_sel, xs_onE, xs_onP, xs_fn, xs_an, Bool.not_false, Bool.not_true, Bool.true_or, Bool.false_or, Bool.and_true, Bool.true_and, Bool.and_false, Bool.false_and, Bool.false_eq_true, if_true, if_false, ↓reduceIte, g_4, g_11, g_18, g_26, g_34, xs_kk0 (k := kp) (by omega)]) _ hS (fun i hi => rfl)
          · have g_34 : xs_i d 0 1 = true := decide_eq_true (xn_b1 c_34)
            refine xi_iload (q := 39) dX8_card_37 rfl rfl ?_
            refine xi_iconst (x := 0) (q := 40) dX8_card_39 (by decide) rfl ?_
            refine xi_bipush (x := 47) (q := 42) dX8_card_40 (by decide) rfl ?_
            refine xv_cS3 (q := 45) xm_X8_within ln_X8_77 dX8_card_42 ⟨(Nat.le_of_ble_eq_true rfl), (Nat.le_of_ble_eq_true rfl)⟩ (Nat.le_of_ble_eq_true rfl) ⟨rfl, rfl⟩ rfl (Nat.zero_le _) (Nat.zero_le _) ?_
            refine ⟨_, _, _, rfl, ?_⟩
            refine xi_if_ne (q := 48) (q2 := 51) dX8_card_45 (by decide) rfl (fun c_45 => ?_) (fun c_45 => ?_)
            · have g_45 : xs_i k 0 47 = true := decide_eq_true (xn_b1 c_45)
              refine xi_aload_n (q := 52) dX8_card_51 rfl rfl ?_
              refine xi_iload_n (q := 53) dX8_card_52 rfl rfl ?_
              refine xv_cV1 (q := 56) xm_X8_engineAt ln_X8_142 dX8_card_53 ⟨by omega, hS.1.1⟩ rfl ⟨(Nat.le_of_ble_eq_true rfl), (Nat.le_of_ble_eq_true rfl)⟩ (Nat.le_of_ble_eq_true rfl) ⟨rfl, rfl⟩ rfl (Nat.zero_le _) (Nat.zero_le _) ?_
              refine ⟨_, kp, rfl, hS, by omega, by omega, fun hE53 => ?_, fun hE53 => ?_⟩
              · skip
                refine xi_astore (q := 58) dX8_card_56 (Nat.le_of_ble_eq_true rfl) rfl ?_
                refine xi_aload (q := 60) dX8_card_58 rfl rfl ?_
                refine xi_ifnonnull_r (q := 69) dX8_card_60 (by decide) ?_
                refine xi_aload_n (q := 70) dX8_card_69 rfl rfl ?_
                obtain ⟨dn_70, wk_70, dk_70, r1_70, r2_70, r3_70, r4_70, hP_70⟩ := hS.2.2.2.2.2.2.2.2.1
                refine xi_getf (q := 73) dX8_card_70 fl_X8_47 ⟨by omega, hS.1.1⟩ rfl rfl ?_
                refine xi_aload (q := 75) dX8_card_73 rfl rfl ?_
                refine xi_iload_n (q := 76) dX8_card_75 rfl rfl ?_
                refine xi_iload_n (q := 77) dX8_card_76 rfl rfl ?_
                refine xi_iload (q := 79) dX8_card_77 rfl rfl ?_
                refine xi_iload (q := 81) dX8_card_79 rfl rfl ?_
                refine xv_cV5 (q := 84) xm_X5_draw ln_X8_210 dX8_card_81 ⟨by omega, hP_70.1⟩ rfl ⟨(Nat.le_of_ble_eq_true rfl), (Nat.le_of_ble_eq_true rfl)⟩ (Nat.le_of_ble_eq_true rfl) ⟨rfl, rfl⟩ rfl (Nat.zero_le _) (Nat.zero_le _) ?_
                refine ⟨_, _, _, _, _, _, _, 59 + 2 * kp, _, _, _, m, b, g, d, rfl, by omega, (hS.2.2.1 kp (by omega)).1, (hS.2.2.1 kp (by omega)).2, hP_70, by omega, by omega, (hV.2.2.2.1 kp (by omega) hE53).1, xn_g01 g_34, ⟨by have := (xn_gI g_18).1; exact this, by have := (xn_gI g_18).2; exact this⟩, ⟨by have := (xn_gI g_26).1; exact this, by have := (xn_gI g_26).2; exact this⟩, fun h9 q1 q2 => ?_⟩
                have S92 := xs_St4 hS ⟨_, _, _, _, _, _, _, q1⟩ q2
                obtain ⟨R, hR⟩ : ∃ R : Nat → Int32, R = fun k => xs_cd (σ 4 kp) (σ 5 kp 0) m (b * g / 4) d k := ⟨_, rfl⟩
                rw [← hR] at q1
                refine xi_aload_n (q := 85) dX8_card_84 rfl rfl ?_
                refine xi_aload_n (q := 86) dX8_card_85 rfl rfl ?_
                refine xi_getf (q := 89) dX8_card_86 fl_X8_47 ⟨by omega, S92.1.1⟩ rfl rfl ?_
                refine xi_getf (q := 92) dX8_card_89 fl_X8_214 ⟨by omega, q1.1⟩ rfl rfl ?_
                refine xi_iload (q := 94) dX8_card_92 rfl rfl ?_
                refine xi_iald (q := 95) dX8_card_94 ⟨by omega, q1.2.2.2.2⟩ (xn_ixw (a := 0) (q := 47) (xn_gI g_45).1 (xn_gI g_45).2 (by decide)) rfl ?_
                refine xv_cV1 (q := 98) xm_X8_answered ln_X8_90 dX8_card_95 ⟨by omega, S92.1.1⟩ rfl ⟨(Nat.le_of_ble_eq_true rfl), (Nat.le_of_ble_eq_true rfl)⟩ (Nat.le_of_ble_eq_true rfl) ⟨rfl, rfl⟩ rfl (Nat.zero_le _) (Nat.zero_le _) ?_
                refine ⟨_, _, rfl, S92, by omega, fun H1 S1 F1 => ?_⟩
                refine xi_ret ⟨_, rfl, rfl, dX8_card_98⟩ (Nat.zero_le _) (Nat.zero_le _) ?_
                exact xs_fin hp (by simp only [xs_card, xs_sel, xs_onE, xs_onP, xs_fn, xs_an, Bool.not_false, Bool.not_true, Bool.true_or, Bool.false_or, Bool.and_true, Bool.true_and, Bool.and_false, Bool.false_and, Bool.false_eq_true, if_true, if_false, ↓reduceIte, g_4, g_11, g_18, g_26, g_34, g_45, hE53, ← hR, xs_kk0 (k := kp) (by omega)]) _ S1 (fun i hi => (F1 i (by omega)).trans ((q2 i (by omega)).trans (rfl)))
              · skip
                refine xi_astoreN (q := 58) dX8_card_56 (Nat.le_of_ble_eq_true rfl) rfl ?_
                refine xi_aloadN (q := 60) dX8_card_58 rfl rfl ?_
                refine xi_ifnonnull_n (q := 63) dX8_card_60 rfl ?_
                refine xi_aload_n (q := 64) dX8_card_63 rfl rfl ?_
                refine xi_iconst (x := 1) (q := 65) dX8_card_64 (by decide) rfl ?_
                refine xv_cV1 (q := 68) xm_X8_found ln_X8_82 dX8_card_65 ⟨by omega, hS.1.1⟩ rfl ⟨(Nat.le_of_ble_eq_true rfl), (Nat.le_of_ble_eq_true rfl)⟩ (Nat.le_of_ble_eq_true rfl) ⟨rfl, rfl⟩ rfl (Nat.zero_le _) (Nat.zero_le _) ?_
                refine ⟨_, _, rfl, hS, by omega, fun H2 S2 F2 => ?_⟩
                refine xi_ret ⟨_, rfl, rfl, dX8_card_68⟩ (Nat.zero_le _) (Nat.zero_le _) ?_
                exact xs_fin hp (by simp only [xs_card, xs_sel, xs_onE, xs_onP, xs_fn, xs_an, Bool.not_false, Bool.not_true, Bool.true_or, Bool.false_or, Bool.and_true, Bool.true_and, Bool.and_false, Bool.false_and, Bool.false_eq_true, if_true, if_false, ↓reduceIte, g_4, g_11, g_18, g_26, g_34, g_45, eq_true hE53, xs_kk0 (k := kp) (by omega)]) _ S2 (fun i hi => (F2 i (by omega)).trans (rfl))
            · have g_45 : xs_i k 0 47 = false := decide_eq_false (xn_b0 c_45)
              refine xi_ldc (q := 50) dX8_card_48 kc_X8_81 rfl ?_
              refine xi_ret ⟨_, rfl, rfl, dX8_card_50⟩ (Nat.zero_le _) (Nat.zero_le _) ?_
              exact xs_fin hp (by simp only [xs_card, xs_sel, xs_onE, xs_onP, xs_fn, xs_an, Bool.not_false, Bool.not_true, Bool.true_or, Bool.false_or, Bool.and_true, Bool.true_and, Bool.and_false, Bool.false_and, Bool.false_eq_true, if_true, if_false, ↓reduceIte, g_4, g_11, g_18, g_26, g_34, g_45, xs_kk0 (k := kp) (by omega)]) _ hS (fun i hi => rfl)

def xs_look (σ : xs_Sg) (p m b g d w : Int32) : Int32 × xs_Sg := xs_onE σ p (xs_i m (-6) 6 && xs_i b 0 2000 && xs_i g 0 4 && xs_i d 0 1 && xs_i w 0 2) fun j => xs_an σ (if w = 0 then xs_ps (fun k => xs_cd (σ 4 j) (σ 5 j 0) m (b * g / 4) d k) 48 / 48 else if w = 1 then xs_mx (fun k => xs_cd (σ 4 j) (σ 5 j 0) m (b * g / 4) d k) 47 else xs_ps (xs_lp1 (fun k => xs_cd (σ 4 j) (σ 5 j 0) m (b * g / 4) d k)) 23)
set_option maxRecDepth 20000 in
set_option maxHeartbeats 2000000 in
/-- look -/
theorem xm_X8_look : xv_K yX8_look mX8_look (fun as h n Post => ∃ (σ : xs_Sg) (p : Int32) (m : Int32) (b : Int32) (g : Int32) (d : Int32) (w : Int32), as = [.ref 0, .int p, .int m, .int b, .int g, .int d, .int w] ∧ (xs_S h σ) ∧ (83 ≤ n) ∧ (xs_V σ) ∧ xs_D h n Post (xs_look σ p m b g d w)) := by
  refine xv_entry (by decide +kernel) rfl (fun h => absurd h (by decide)) ?_
  rintro X _ h n Post ⟨σ, p, m, b, g, d, w, rfl, hS, h83, hV, hp⟩
  refine ⟨Nat.le_of_ble_eq_true rfl, ?_⟩
  show xv_V X mX8_look Post 0 0 0 [(0, .ref 0), (1, .int p), (2, .int m), (3, .int b), (4, .int g), (5, .int d), (6, .int w)] [] h n
  refine xi_iload_n (q := 1) dX8_look_0 rfl rfl ?_
  refine xv_cS1 (q := 4) xm_X8_isPlace ln_X8_125 dX8_look_1 ⟨(Nat.le_of_ble_eq_true rfl), (Nat.le_of_ble_eq_true rfl)⟩ (Nat.le_of_ble_eq_true rfl) ⟨rfl, rfl⟩ rfl (Nat.zero_le _) (Nat.zero_le _) ?_
  refine ⟨_, rfl, ?_⟩
  refine xi_if_eq (q := 7) (q2 := 47) dX8_look_4 (by decide) rfl (fun c_4 => ?_) (fun c_4 => ?_)
  · have g_4 : xs_i p 0 5 = false := decide_eq_false (xn_b0 c_4)
    refine xi_ldc (q := 49) dX8_look_47 kc_X8_81 rfl ?_
    refine xi_ret ⟨_, rfl, rfl, dX8_look_49⟩ (Nat.zero_le _) (Nat.zero_le _) ?_
    exact xs_fin hp (by simp only [xs_look, xs_onE, xs_onP, xs_fn, xs_an, Bool.not_false, Bool.not_true, Bool.true_or, Bool.false_or, Bool.and_true, Bool.true_and, Bool.and_false, Bool.false_and, Bool.false_eq_true, if_true, if_false, ↓reduceIte, g_4]) _ hS (fun i hi => rfl)
  · have g_4 : xs_i p 0 5 = true := decide_eq_true (xn_b1 c_4)
    obtain ⟨kp, hkp, rfl⟩ := xn_pk (m := 5) (by omega) (xn_b1 c_4)
    refine xi_iload_n (q := 8) dX8_look_7 rfl rfl ?_
    refine xv_cS1 (q := 11) xm_X8_isNotch ln_X8_166 dX8_look_8 ⟨(Nat.le_of_ble_eq_true rfl), (Nat.le_of_ble_eq_true rfl)⟩ (Nat.le_of_ble_eq_true rfl) ⟨rfl, rfl⟩ rfl (Nat.zero_le _) (Nat.zero_le _) ?_
    refine ⟨_, rfl, ?_⟩
    refine xi_if_eq (q := 14) (q2 := 47) dX8_look_11 (by decide) rfl (fun c_11 => ?_) (fun c_11 => ?_)
    · have g_11 : xs_i m (-6) 6 = false := decide_eq_false (xn_b0 c_11)
      refine xi_ldc (q := 49) dX8_look_47 kc_X8_81 rfl ?_
      refine xi_ret ⟨_, rfl, rfl, dX8_look_49⟩ (Nat.zero_le _) (Nat.zero_le _) ?_
      exact xs_fin hp (by simp only [xs_look, xs_onE, xs_onP, xs_fn, xs_an, Bool.not_false, Bool.not_true, Bool.true_or, Bool.false_or, Bool.and_true, Bool.true_and, Bool.and_false, Bool.false_and, Bool.false_eq_true, if_true, if_false, ↓reduceIte, g_4, g_11, xs_kk0 (k := kp) (by omega)]) _ hS (fun i hi => rfl)
    · have g_11 : xs_i m (-6) 6 = true := decide_eq_true (xn_b1 c_11)
      refine xi_iload_n (q := 15) dX8_look_14 rfl rfl ?_
      refine xv_cS1 (q := 18) xm_X8_isBoiler ln_X8_204 dX8_look_15 ⟨(Nat.le_of_ble_eq_true rfl), (Nat.le_of_ble_eq_true rfl)⟩ (Nat.le_of_ble_eq_true rfl) ⟨rfl, rfl⟩ rfl (Nat.zero_le _) (Nat.zero_le _) ?_
      refine ⟨_, rfl, ?_⟩
      refine xi_if_eq (q := 21) (q2 := 47) dX8_look_18 (by decide) rfl (fun c_18 => ?_) (fun c_18 => ?_)
      · have g_18 : xs_i b 0 2000 = false := decide_eq_false (xn_b0 c_18)
        refine xi_ldc (q := 49) dX8_look_47 kc_X8_81 rfl ?_
        refine xi_ret ⟨_, rfl, rfl, dX8_look_49⟩ (Nat.zero_le _) (Nat.zero_le _) ?_
        exact xs_fin hp (by simp only [xs_look, xs_onE, xs_onP, xs_fn, xs_an, Bool.not_false, Bool.not_true, Bool.true_or, Bool.false_or, Bool.and_true, Bool.true_and, Bool.and_false, Bool.false_and, Bool.false_eq_true, if_true, if_false, ↓reduceIte, g_4, g_11, g_18, xs_kk0 (k := kp) (by omega)]) _ hS (fun i hi => rfl)
      · have g_18 : xs_i b 0 2000 = true := decide_eq_true (xn_b1 c_18)
        refine xi_iload (q := 23) dX8_look_21 rfl rfl ?_
        refine xv_cS1 (q := 26) xm_X8_isRegulator ln_X8_207 dX8_look_23 ⟨(Nat.le_of_ble_eq_true rfl), (Nat.le_of_ble_eq_true rfl)⟩ (Nat.le_of_ble_eq_true rfl) ⟨rfl, rfl⟩ rfl (Nat.zero_le _) (Nat.zero_le _) ?_
        refine ⟨_, rfl, ?_⟩
        refine xi_if_eq (q := 29) (q2 := 47) dX8_look_26 (by decide) rfl (fun c_26 => ?_) (fun c_26 => ?_)
        · have g_26 : xs_i g 0 4 = false := decide_eq_false (xn_b0 c_26)
          refine xi_ldc (q := 49) dX8_look_47 kc_X8_81 rfl ?_
          refine xi_ret ⟨_, rfl, rfl, dX8_look_49⟩ (Nat.zero_le _) (Nat.zero_le _) ?_
          exact xs_fin hp (by simp only [xs_look, xs_onE, xs_onP, xs_fn, xs_an, Bool.not_false, Bool.not_true, Bool.true_or, Bool.false_or, Bool.and_true, Bool.true_and, Bool.and_false, Bool.false_and, Bool.false_eq_true, if_true, if_false, ↓reduceIte, g_4, g_11, g_18, g_26, xs_kk0 (k := kp) (by omega)]) _ hS (fun i hi => rfl)
        · have g_26 : xs_i g 0 4 = true := decide_eq_true (xn_b1 c_26)
          refine xi_iload (q := 31) dX8_look_29 rfl rfl ?_
          refine xv_cS1 (q := 34) xm_X8_isEnd ln_X8_172 dX8_look_31 ⟨(Nat.le_of_ble_eq_true rfl), (Nat.le_of_ble_eq_true rfl)⟩ (Nat.le_of_ble_eq_true rfl) ⟨rfl, rfl⟩ rfl (Nat.zero_le _) (Nat.zero_le _) ?_
          refine ⟨_, rfl, ?_⟩
          refine xi_if_eq (q := 37) (q2 := 47) dX8_look_34 (by decide) rfl (fun c_34 => ?_) (fun c_34 => ?_)
          · have g_34 : xs_i d 0 1 = false := decide_eq_false (xn_b0 c_34)
            refine xi_ldc (q := 49) dX8_look_47 kc_X8_81 rfl ?_
            refine xi_ret ⟨_, rfl, rfl, dX8_look_49⟩ (Nat.zero_le _) (Nat.zero_le _) ?_
            exact xs_fin hp (by simp only [xs_look, xs_onE, xs_onP, xs_fn, xs_an, Bool.not_false, Bool.not_true, Bool.true_or, Bool.false_or, Bool.and_true, Bool.true_and, Bool.and_false, Bool.false_and, Bool.false_eq_true, if_true, if_false, ↓reduceIte, g_4, g_11, g_18, g_26, g_34, xs_kk0 (k := kp) (by omega)]) _ hS (fun i hi => rfl)
          · have g_34 : xs_i d 0 1 = true := decide_eq_true (xn_b1 c_34)
            refine xi_iload (q := 39) dX8_look_37 rfl rfl ?_
            refine xi_iconst (x := 0) (q := 40) dX8_look_39 (by decide) rfl ?_
            refine xi_iconst (x := 2) (q := 41) dX8_look_40 (by decide) rfl ?_
            refine xv_cS3 (q := 44) xm_X8_within ln_X8_77 dX8_look_41 ⟨(Nat.le_of_ble_eq_true rfl), (Nat.le_of_ble_eq_true rfl)⟩ (Nat.le_of_ble_eq_true rfl) ⟨rfl, rfl⟩ rfl (Nat.zero_le _) (Nat.zero_le _) ?_
            refine ⟨_, _, _, rfl, ?_⟩
            refine xi_if_ne (q := 47) (q2 := 50) dX8_look_44 (by decide) rfl (fun c_44 => ?_) (fun c_44 => ?_)
            · have g_44 : xs_i w 0 2 = true := decide_eq_true (xn_b1 c_44)
              refine xi_aload_n (q := 51) dX8_look_50 rfl rfl ?_
              refine xi_iload_n (q := 52) dX8_look_51 rfl rfl ?_
              refine xv_cV1 (q := 55) xm_X8_engineAt ln_X8_142 dX8_look_52 ⟨by omega, hS.1.1⟩ rfl ⟨(Nat.le_of_ble_eq_true rfl), (Nat.le_of_ble_eq_true rfl)⟩ (Nat.le_of_ble_eq_true rfl) ⟨rfl, rfl⟩ rfl (Nat.zero_le _) (Nat.zero_le _) ?_
              refine ⟨_, kp, rfl, hS, by omega, by omega, fun hE52 => ?_, fun hE52 => ?_⟩
              · skip
                refine xi_astore (q := 57) dX8_look_55 (Nat.le_of_ble_eq_true rfl) rfl ?_
                refine xi_aload (q := 59) dX8_look_57 rfl rfl ?_
                refine xi_ifnonnull_r (q := 68) dX8_look_59 (by decide) ?_
                refine xi_aload_n (q := 69) dX8_look_68 rfl rfl ?_
                obtain ⟨dn_69, wk_69, dk_69, r1_69, r2_69, r3_69, r4_69, hP_69⟩ := hS.2.2.2.2.2.2.2.2.1
                refine xi_getf (q := 72) dX8_look_69 fl_X8_47 ⟨by omega, hS.1.1⟩ rfl rfl ?_
                refine xi_aload (q := 74) dX8_look_72 rfl rfl ?_
                refine xi_iload_n (q := 75) dX8_look_74 rfl rfl ?_
                refine xi_iload_n (q := 76) dX8_look_75 rfl rfl ?_
                refine xi_iload (q := 78) dX8_look_76 rfl rfl ?_
                refine xi_iload (q := 80) dX8_look_78 rfl rfl ?_
                refine xv_cV5 (q := 83) xm_X5_draw ln_X8_210 dX8_look_80 ⟨by omega, hP_69.1⟩ rfl ⟨(Nat.le_of_ble_eq_true rfl), (Nat.le_of_ble_eq_true rfl)⟩ (Nat.le_of_ble_eq_true rfl) ⟨rfl, rfl⟩ rfl (Nat.zero_le _) (Nat.zero_le _) ?_
                refine ⟨_, _, _, _, _, _, _, 59 + 2 * kp, _, _, _, m, b, g, d, rfl, by omega, (hS.2.2.1 kp (by omega)).1, (hS.2.2.1 kp (by omega)).2, hP_69, by omega, by omega, (hV.2.2.2.1 kp (by omega) hE52).1, xn_g01 g_34, ⟨by have := (xn_gI g_18).1; exact this, by have := (xn_gI g_18).2; exact this⟩, ⟨by have := (xn_gI g_26).1; exact this, by have := (xn_gI g_26).2; exact this⟩, fun h9 q1 q2 => ?_⟩
                have S92 := xs_St4 hS ⟨_, _, _, _, _, _, _, q1⟩ q2
                obtain ⟨R, hR⟩ : ∃ R : Nat → Int32, R = fun k => xs_cd (σ 4 kp) (σ 5 kp 0) m (b * g / 4) d k := ⟨_, rfl⟩
                rw [← hR] at q1
                refine xi_iload (q := 85) dX8_look_83 rfl rfl ?_
                refine xi_if_ne (q := 88) (q2 := 100) dX8_look_85 (by decide) rfl (fun c_85 => ?_) (fun c_85 => ?_)
                · skip
                  refine xi_aload_n (q := 101) dX8_look_100 rfl rfl ?_
                  refine xi_iload (q := 103) dX8_look_101 rfl rfl ?_
                  refine xi_iconst (x := 1) (q := 104) dX8_look_103 (by decide) rfl ?_
                  refine xi_icmp_ne (q := 107) (q2 := 117) dX8_look_104 (by decide) rfl (fun c_104 => ?_) (fun c_104 => ?_)
                  · skip
                    refine xi_aload_n (q := 118) dX8_look_117 rfl rfl ?_
                    refine xi_getf (q := 121) dX8_look_118 fl_X8_47 ⟨by omega, S92.1.1⟩ rfl rfl ?_
                    refine xv_cV0 (q := 124) xm_X5_loop ln_X8_223 dX8_look_121 ⟨by omega, q1.1⟩ rfl ⟨(Nat.le_of_ble_eq_true rfl), (Nat.le_of_ble_eq_true rfl)⟩ (Nat.le_of_ble_eq_true rfl) ⟨rfl, rfl⟩ rfl (Nat.zero_le _) (Nat.zero_le _) ?_
                    refine ⟨_, _, _, _, _, _, _, rfl, q1, by omega, ?_⟩
                    refine xv_cV1 (q := 127) xm_X8_answered ln_X8_90 dX8_look_124 ⟨by omega, S92.1.1⟩ rfl ⟨(Nat.le_of_ble_eq_true rfl), (Nat.le_of_ble_eq_true rfl)⟩ (Nat.le_of_ble_eq_true rfl) ⟨rfl, rfl⟩ rfl (Nat.zero_le _) (Nat.zero_le _) ?_
                    refine ⟨_, _, rfl, S92, by omega, fun H1 S1 F1 => ?_⟩
                    refine xi_ret ⟨_, rfl, rfl, dX8_look_127⟩ (Nat.zero_le _) (Nat.zero_le _) ?_
                    exact xs_fin hp (by simp only [xs_look, xs_onE, xs_onP, xs_fn, xs_an, Bool.not_false, Bool.not_true, Bool.true_or, Bool.false_or, Bool.and_true, Bool.true_and, Bool.and_false, Bool.false_and, Bool.false_eq_true, if_true, if_false, ↓reduceIte, g_4, g_11, g_18, g_26, g_34, g_44, hE52, ← hR, c_85, c_104, xs_kk0 (k := kp) (by omega)]) _ S1 (fun i hi => (F1 i (by omega)).trans ((q2 i (by omega)).trans (rfl)))
                  · skip
                    refine xi_aload_n (q := 108) dX8_look_107 rfl rfl ?_
                    refine xi_getf (q := 111) dX8_look_108 fl_X8_47 ⟨by omega, S92.1.1⟩ rfl rfl ?_
                    refine xv_cV0 (q := 114) xm_X5_peak ln_X8_220 dX8_look_111 ⟨by omega, q1.1⟩ rfl ⟨(Nat.le_of_ble_eq_true rfl), (Nat.le_of_ble_eq_true rfl)⟩ (Nat.le_of_ble_eq_true rfl) ⟨rfl, rfl⟩ rfl (Nat.zero_le _) (Nat.zero_le _) ?_
                    refine ⟨_, _, _, _, _, _, _, rfl, q1, by omega, ?_⟩
                    refine xi_goto (q := 124) dX8_look_114 (by decide) ?_
                    refine xv_cV1 (q := 127) xm_X8_answered ln_X8_90 dX8_look_124 ⟨by omega, S92.1.1⟩ rfl ⟨(Nat.le_of_ble_eq_true rfl), (Nat.le_of_ble_eq_true rfl)⟩ (Nat.le_of_ble_eq_true rfl) ⟨rfl, rfl⟩ rfl (Nat.zero_le _) (Nat.zero_le _) ?_
                    refine ⟨_, _, rfl, S92, by omega, fun H2 S2 F2 => ?_⟩
                    refine xi_ret ⟨_, rfl, rfl, dX8_look_127⟩ (Nat.zero_le _) (Nat.zero_le _) ?_
                    exact xs_fin hp (by simp only [xs_look, xs_onE, xs_onP, xs_fn, xs_an, Bool.not_false, Bool.not_true, Bool.true_or, Bool.false_or, Bool.and_true, Bool.true_and, Bool.and_false, Bool.false_and, Bool.false_eq_true, if_true, if_false, ↓reduceIte, g_4, g_11, g_18, g_26, g_34, g_44, hE52, ← hR, c_85, eq_true c_104, xs_kk0 (k := kp) (by omega)]) _ S2 (fun i hi => (F2 i (by omega)).trans ((q2 i (by omega)).trans (rfl)))
                · skip
                  refine xi_aload_n (q := 89) dX8_look_88 rfl rfl ?_
                  refine xi_aload_n (q := 90) dX8_look_89 rfl rfl ?_
                  refine xi_getf (q := 93) dX8_look_90 fl_X8_47 ⟨by omega, S92.1.1⟩ rfl rfl ?_
                  refine xv_cV0 (q := 96) xm_X5_mean ln_X8_217 dX8_look_93 ⟨by omega, q1.1⟩ rfl ⟨(Nat.le_of_ble_eq_true rfl), (Nat.le_of_ble_eq_true rfl)⟩ (Nat.le_of_ble_eq_true rfl) ⟨rfl, rfl⟩ rfl (Nat.zero_le _) (Nat.zero_le _) ?_
                  refine ⟨_, _, _, _, _, _, _, rfl, q1, by omega, ?_⟩
                  refine xv_cV1 (q := 99) xm_X8_answered ln_X8_90 dX8_look_96 ⟨by omega, S92.1.1⟩ rfl ⟨(Nat.le_of_ble_eq_true rfl), (Nat.le_of_ble_eq_true rfl)⟩ (Nat.le_of_ble_eq_true rfl) ⟨rfl, rfl⟩ rfl (Nat.zero_le _) (Nat.zero_le _) ?_
                  refine ⟨_, _, rfl, S92, by omega, fun H3 S3 F3 => ?_⟩
                  refine xi_ret ⟨_, rfl, rfl, dX8_look_99⟩ (Nat.zero_le _) (Nat.zero_le _) ?_
                  exact xs_fin hp (by simp only [xs_look, xs_onE, xs_onP, xs_fn, xs_an, Bool.not_false, Bool.not_true, Bool.true_or, Bool.false_or, Bool.and_true, Bool.true_and, Bool.and_false, Bool.false_and, Bool.false_eq_true, if_true, if_false, ↓reduceIte, g_4, g_11, g_18, g_26, g_34, g_44, hE52, ← hR, eq_true c_85, xs_kk0 (k := kp) (by omega)]) _ S3 (fun i hi => (F3 i (by omega)).trans ((q2 i (by omega)).trans (rfl)))
              · skip
                refine xi_astoreN (q := 57) dX8_look_55 (Nat.le_of_ble_eq_true rfl) rfl ?_
                refine xi_aloadN (q := 59) dX8_look_57 rfl rfl ?_
                refine xi_ifnonnull_n (q := 62) dX8_look_59 rfl ?_
                refine xi_aload_n (q := 63) dX8_look_62 rfl rfl ?_
                refine xi_iconst (x := 1) (q := 64) dX8_look_63 (by decide) rfl ?_
                refine xv_cV1 (q := 67) xm_X8_found ln_X8_82 dX8_look_64 ⟨by omega, hS.1.1⟩ rfl ⟨(Nat.le_of_ble_eq_true rfl), (Nat.le_of_ble_eq_true rfl)⟩ (Nat.le_of_ble_eq_true rfl) ⟨rfl, rfl⟩ rfl (Nat.zero_le _) (Nat.zero_le _) ?_
                refine ⟨_, _, rfl, hS, by omega, fun H4 S4 F4 => ?_⟩
                refine xi_ret ⟨_, rfl, rfl, dX8_look_67⟩ (Nat.zero_le _) (Nat.zero_le _) ?_
                exact xs_fin hp (by simp only [xs_look, xs_onE, xs_onP, xs_fn, xs_an, Bool.not_false, Bool.not_true, Bool.true_or, Bool.false_or, Bool.and_true, Bool.true_and, Bool.and_false, Bool.false_and, Bool.false_eq_true, if_true, if_false, ↓reduceIte, g_4, g_11, g_18, g_26, g_34, g_44, eq_true hE52, xs_kk0 (k := kp) (by omega)]) _ S4 (fun i hi => (F4 i (by omega)).trans (rfl))
            · have g_44 : xs_i w 0 2 = false := decide_eq_false (xn_b0 c_44)
              refine xi_ldc (q := 49) dX8_look_47 kc_X8_81 rfl ?_
              refine xi_ret ⟨_, rfl, rfl, dX8_look_49⟩ (Nat.zero_le _) (Nat.zero_le _) ?_
              exact xs_fin hp (by simp only [xs_look, xs_onE, xs_onP, xs_fn, xs_an, Bool.not_false, Bool.not_true, Bool.true_or, Bool.false_or, Bool.and_true, Bool.true_and, Bool.and_false, Bool.false_and, Bool.false_eq_true, if_true, if_false, ↓reduceIte, g_4, g_11, g_18, g_26, g_34, g_44, xs_kk0 (k := kp) (by omega)]) _ hS (fun i hi => rfl)

def xs_work (σ : xs_Sg) (p m b g w : Int32) : Int32 × xs_Sg := xs_onE σ p (xs_i m (-6) 6 && xs_i b 0 2000 && xs_i g 0 4 && xs_i w 0 1) fun j => xs_an σ (if w = 0 then xs_wrk (σ 4 j) (σ 5 j 0) m (b * g / 4) else xs_drk (σ 4 j) (σ 5 j 0) m (b * g / 4))
set_option maxRecDepth 20000 in
set_option maxHeartbeats 2000000 in
/-- work -/
theorem xm_X8_work : xv_K yX8_work mX8_work (fun as h n Post => ∃ (σ : xs_Sg) (p : Int32) (m : Int32) (b : Int32) (g : Int32) (w : Int32), as = [.ref 0, .int p, .int m, .int b, .int g, .int w] ∧ (xs_S h σ) ∧ (83 ≤ n) ∧ (xs_V σ) ∧ xs_D h n Post (xs_work σ p m b g w)) := by
  refine xv_entry (by decide +kernel) rfl (fun h => absurd h (by decide)) ?_
  rintro X _ h n Post ⟨σ, p, m, b, g, w, rfl, hS, h83, hV, hp⟩
  refine ⟨Nat.le_of_ble_eq_true rfl, ?_⟩
  show xv_V X mX8_work Post 0 0 0 [(0, .ref 0), (1, .int p), (2, .int m), (3, .int b), (4, .int g), (5, .int w)] [] h n
  refine xi_iload_n (q := 1) dX8_work_0 rfl rfl ?_
  refine xv_cS1 (q := 4) xm_X8_isPlace ln_X8_125 dX8_work_1 ⟨(Nat.le_of_ble_eq_true rfl), (Nat.le_of_ble_eq_true rfl)⟩ (Nat.le_of_ble_eq_true rfl) ⟨rfl, rfl⟩ rfl (Nat.zero_le _) (Nat.zero_le _) ?_
  refine ⟨_, rfl, ?_⟩
  refine xi_if_eq (q := 7) (q2 := 39) dX8_work_4 (by decide) rfl (fun c_4 => ?_) (fun c_4 => ?_)
  · have g_4 : xs_i p 0 5 = false := decide_eq_false (xn_b0 c_4)
    refine xi_ldc (q := 41) dX8_work_39 kc_X8_81 rfl ?_
    refine xi_ret ⟨_, rfl, rfl, dX8_work_41⟩ (Nat.zero_le _) (Nat.zero_le _) ?_
    exact xs_fin hp (by simp only [xs_work, xs_onE, xs_onP, xs_fn, xs_an, Bool.not_false, Bool.not_true, Bool.true_or, Bool.false_or, Bool.and_true, Bool.true_and, Bool.and_false, Bool.false_and, Bool.false_eq_true, if_true, if_false, ↓reduceIte, g_4]) _ hS (fun i hi => rfl)
  · have g_4 : xs_i p 0 5 = true := decide_eq_true (xn_b1 c_4)
    obtain ⟨kp, hkp, rfl⟩ := xn_pk (m := 5) (by omega) (xn_b1 c_4)
    refine xi_iload_n (q := 8) dX8_work_7 rfl rfl ?_
    refine xv_cS1 (q := 11) xm_X8_isNotch ln_X8_166 dX8_work_8 ⟨(Nat.le_of_ble_eq_true rfl), (Nat.le_of_ble_eq_true rfl)⟩ (Nat.le_of_ble_eq_true rfl) ⟨rfl, rfl⟩ rfl (Nat.zero_le _) (Nat.zero_le _) ?_
    refine ⟨_, rfl, ?_⟩
    refine xi_if_eq (q := 14) (q2 := 39) dX8_work_11 (by decide) rfl (fun c_11 => ?_) (fun c_11 => ?_)
    · have g_11 : xs_i m (-6) 6 = false := decide_eq_false (xn_b0 c_11)
      refine xi_ldc (q := 41) dX8_work_39 kc_X8_81 rfl ?_
      refine xi_ret ⟨_, rfl, rfl, dX8_work_41⟩ (Nat.zero_le _) (Nat.zero_le _) ?_
      exact xs_fin hp (by simp only [xs_work, xs_onE, xs_onP, xs_fn, xs_an, Bool.not_false, Bool.not_true, Bool.true_or, Bool.false_or, Bool.and_true, Bool.true_and, Bool.and_false, Bool.false_and, Bool.false_eq_true, if_true, if_false, ↓reduceIte, g_4, g_11, xs_kk0 (k := kp) (by omega)]) _ hS (fun i hi => rfl)
    · have g_11 : xs_i m (-6) 6 = true := decide_eq_true (xn_b1 c_11)
      refine xi_iload_n (q := 15) dX8_work_14 rfl rfl ?_
      refine xv_cS1 (q := 18) xm_X8_isBoiler ln_X8_204 dX8_work_15 ⟨(Nat.le_of_ble_eq_true rfl), (Nat.le_of_ble_eq_true rfl)⟩ (Nat.le_of_ble_eq_true rfl) ⟨rfl, rfl⟩ rfl (Nat.zero_le _) (Nat.zero_le _) ?_
      refine ⟨_, rfl, ?_⟩
      refine xi_if_eq (q := 21) (q2 := 39) dX8_work_18 (by decide) rfl (fun c_18 => ?_) (fun c_18 => ?_)
      · have g_18 : xs_i b 0 2000 = false := decide_eq_false (xn_b0 c_18)
        refine xi_ldc (q := 41) dX8_work_39 kc_X8_81 rfl ?_
        refine xi_ret ⟨_, rfl, rfl, dX8_work_41⟩ (Nat.zero_le _) (Nat.zero_le _) ?_
        exact xs_fin hp (by simp only [xs_work, xs_onE, xs_onP, xs_fn, xs_an, Bool.not_false, Bool.not_true, Bool.true_or, Bool.false_or, Bool.and_true, Bool.true_and, Bool.and_false, Bool.false_and, Bool.false_eq_true, if_true, if_false, ↓reduceIte, g_4, g_11, g_18, xs_kk0 (k := kp) (by omega)]) _ hS (fun i hi => rfl)
      · have g_18 : xs_i b 0 2000 = true := decide_eq_true (xn_b1 c_18)
        refine xi_iload (q := 23) dX8_work_21 rfl rfl ?_
        refine xv_cS1 (q := 26) xm_X8_isRegulator ln_X8_207 dX8_work_23 ⟨(Nat.le_of_ble_eq_true rfl), (Nat.le_of_ble_eq_true rfl)⟩ (Nat.le_of_ble_eq_true rfl) ⟨rfl, rfl⟩ rfl (Nat.zero_le _) (Nat.zero_le _) ?_
        refine ⟨_, rfl, ?_⟩
        refine xi_if_eq (q := 29) (q2 := 39) dX8_work_26 (by decide) rfl (fun c_26 => ?_) (fun c_26 => ?_)
        · have g_26 : xs_i g 0 4 = false := decide_eq_false (xn_b0 c_26)
          refine xi_ldc (q := 41) dX8_work_39 kc_X8_81 rfl ?_
          refine xi_ret ⟨_, rfl, rfl, dX8_work_41⟩ (Nat.zero_le _) (Nat.zero_le _) ?_
          exact xs_fin hp (by simp only [xs_work, xs_onE, xs_onP, xs_fn, xs_an, Bool.not_false, Bool.not_true, Bool.true_or, Bool.false_or, Bool.and_true, Bool.true_and, Bool.and_false, Bool.false_and, Bool.false_eq_true, if_true, if_false, ↓reduceIte, g_4, g_11, g_18, g_26, xs_kk0 (k := kp) (by omega)]) _ hS (fun i hi => rfl)
        · have g_26 : xs_i g 0 4 = true := decide_eq_true (xn_b1 c_26)
          refine xi_iload (q := 31) dX8_work_29 rfl rfl ?_
          refine xi_iconst (x := 0) (q := 32) dX8_work_31 (by decide) rfl ?_
          refine xi_iconst (x := 1) (q := 33) dX8_work_32 (by decide) rfl ?_
          refine xv_cS3 (q := 36) xm_X8_within ln_X8_77 dX8_work_33 ⟨(Nat.le_of_ble_eq_true rfl), (Nat.le_of_ble_eq_true rfl)⟩ (Nat.le_of_ble_eq_true rfl) ⟨rfl, rfl⟩ rfl (Nat.zero_le _) (Nat.zero_le _) ?_
          refine ⟨_, _, _, rfl, ?_⟩
          refine xi_if_ne (q := 39) (q2 := 42) dX8_work_36 (by decide) rfl (fun c_36 => ?_) (fun c_36 => ?_)
          · have g_36 : xs_i w 0 1 = true := decide_eq_true (xn_b1 c_36)
            refine xi_aload_n (q := 43) dX8_work_42 rfl rfl ?_
            refine xi_iload_n (q := 44) dX8_work_43 rfl rfl ?_
            refine xv_cV1 (q := 47) xm_X8_engineAt ln_X8_142 dX8_work_44 ⟨by omega, hS.1.1⟩ rfl ⟨(Nat.le_of_ble_eq_true rfl), (Nat.le_of_ble_eq_true rfl)⟩ (Nat.le_of_ble_eq_true rfl) ⟨rfl, rfl⟩ rfl (Nat.zero_le _) (Nat.zero_le _) ?_
            refine ⟨_, kp, rfl, hS, by omega, by omega, fun hE44 => ?_, fun hE44 => ?_⟩
            · skip
              refine xi_astore (q := 49) dX8_work_47 (Nat.le_of_ble_eq_true rfl) rfl ?_
              refine xi_aload (q := 51) dX8_work_49 rfl rfl ?_
              refine xi_ifnonnull_r (q := 60) dX8_work_51 (by decide) ?_
              refine xi_aload_n (q := 61) dX8_work_60 rfl rfl ?_
              obtain ⟨dn_61, wk_61, dk_61, r1_61, r2_61, r3_61, r4_61, hP_61⟩ := hS.2.2.2.2.2.2.2.2.1
              refine xi_getf (q := 64) dX8_work_61 fl_X8_47 ⟨by omega, hS.1.1⟩ rfl rfl ?_
              refine xi_aload (q := 66) dX8_work_64 rfl rfl ?_
              refine xi_iload_n (q := 67) dX8_work_66 rfl rfl ?_
              refine xi_iload_n (q := 68) dX8_work_67 rfl rfl ?_
              refine xi_iload (q := 70) dX8_work_68 rfl rfl ?_
              refine xv_cV4 (q := 73) xm_X5_measure ln_X8_226 dX8_work_70 ⟨by omega, hP_61.1⟩ rfl ⟨(Nat.le_of_ble_eq_true rfl), (Nat.le_of_ble_eq_true rfl)⟩ (Nat.le_of_ble_eq_true rfl) ⟨rfl, rfl⟩ rfl (Nat.zero_le _) (Nat.zero_le _) ?_
              refine ⟨_, _, _, _, _, _, _, 59 + 2 * kp, _, _, _, m, b, g, rfl, by omega, (hS.2.2.1 kp (by omega)).1, (hS.2.2.1 kp (by omega)).2, hP_61, by omega, by omega, (hV.2.2.2.1 kp (by omega) hE44).1, ⟨by have := (xn_gI g_18).1; exact this, by have := (xn_gI g_18).2; exact this⟩, ⟨by have := (xn_gI g_26).1; exact this, by have := (xn_gI g_26).2; exact this⟩, fun h9 dn9 r91 r92 r93 r94 q1 q2 => ?_⟩
              have S92 := xs_St4 hS ⟨_, _, _, _, _, _, _, q1⟩ q2
              obtain ⟨W, hW⟩ : ∃ W, W = xs_wrk (σ 4 kp) (σ 5 kp 0) m (b * g / 4) := ⟨_, rfl⟩
              obtain ⟨K, hK⟩ : ∃ K, K = xs_drk (σ 4 kp) (σ 5 kp 0) m (b * g / 4) := ⟨_, rfl⟩
              rw [show xs_wrk _ _ _ _ = W from hW.symm, show xs_drk _ _ _ _ = K from hK.symm] at q1
              refine xi_aload_n (q := 74) dX8_work_73 rfl rfl ?_
              refine xi_iload (q := 76) dX8_work_74 rfl rfl ?_
              refine xi_if_ne (q := 79) (q2 := 89) dX8_work_76 (by decide) rfl (fun c_76 => ?_) (fun c_76 => ?_)
              · skip
                refine xi_aload_n (q := 90) dX8_work_89 rfl rfl ?_
                refine xi_getf (q := 93) dX8_work_90 fl_X8_47 ⟨by omega, S92.1.1⟩ rfl rfl ?_
                refine xi_getf (q := 96) dX8_work_93 fl_X8_233 ⟨by omega, q1.1⟩ rfl rfl ?_
                refine xv_cV1 (q := 99) xm_X8_answered ln_X8_90 dX8_work_96 ⟨by omega, S92.1.1⟩ rfl ⟨(Nat.le_of_ble_eq_true rfl), (Nat.le_of_ble_eq_true rfl)⟩ (Nat.le_of_ble_eq_true rfl) ⟨rfl, rfl⟩ rfl (Nat.zero_le _) (Nat.zero_le _) ?_
                refine ⟨_, _, rfl, S92, by omega, fun H1 S1 F1 => ?_⟩
                refine xi_ret ⟨_, rfl, rfl, dX8_work_99⟩ (Nat.zero_le _) (Nat.zero_le _) ?_
                exact xs_fin hp (by simp only [xs_work, xs_onE, xs_onP, xs_fn, xs_an, Bool.not_false, Bool.not_true, Bool.true_or, Bool.false_or, Bool.and_true, Bool.true_and, Bool.and_false, Bool.false_and, Bool.false_eq_true, if_true, if_false, ↓reduceIte, g_4, g_11, g_18, g_26, g_36, hE44, ← hW, ← hK, c_76, xs_kk0 (k := kp) (by omega)]) _ S1 (fun i hi => (F1 i (by omega)).trans ((q2 i (by omega)).trans (rfl)))
              · skip
                refine xi_aload_n (q := 80) dX8_work_79 rfl rfl ?_
                refine xi_getf (q := 83) dX8_work_80 fl_X8_47 ⟨by omega, S92.1.1⟩ rfl rfl ?_
                refine xi_getf (q := 86) dX8_work_83 fl_X8_230 ⟨by omega, q1.1⟩ rfl rfl ?_
                refine xi_goto (q := 96) dX8_work_86 (by decide) ?_
                refine xv_cV1 (q := 99) xm_X8_answered ln_X8_90 dX8_work_96 ⟨by omega, S92.1.1⟩ rfl ⟨(Nat.le_of_ble_eq_true rfl), (Nat.le_of_ble_eq_true rfl)⟩ (Nat.le_of_ble_eq_true rfl) ⟨rfl, rfl⟩ rfl (Nat.zero_le _) (Nat.zero_le _) ?_
                refine ⟨_, _, rfl, S92, by omega, fun H2 S2 F2 => ?_⟩
                refine xi_ret ⟨_, rfl, rfl, dX8_work_99⟩ (Nat.zero_le _) (Nat.zero_le _) ?_
                exact xs_fin hp (by simp only [xs_work, xs_onE, xs_onP, xs_fn, xs_an, Bool.not_false, Bool.not_true, Bool.true_or, Bool.false_or, Bool.and_true, Bool.true_and, Bool.and_false, Bool.false_and, Bool.false_eq_true, if_true, if_false, ↓reduceIte, g_4, g_11, g_18, g_26, g_36, hE44, ← hW, ← hK, eq_true c_76, xs_kk0 (k := kp) (by omega)]) _ S2 (fun i hi => (F2 i (by omega)).trans ((q2 i (by omega)).trans (rfl)))
            · skip
              refine xi_astoreN (q := 49) dX8_work_47 (Nat.le_of_ble_eq_true rfl) rfl ?_
              refine xi_aloadN (q := 51) dX8_work_49 rfl rfl ?_
              refine xi_ifnonnull_n (q := 54) dX8_work_51 rfl ?_
              refine xi_aload_n (q := 55) dX8_work_54 rfl rfl ?_
              refine xi_iconst (x := 1) (q := 56) dX8_work_55 (by decide) rfl ?_
              refine xv_cV1 (q := 59) xm_X8_found ln_X8_82 dX8_work_56 ⟨by omega, hS.1.1⟩ rfl ⟨(Nat.le_of_ble_eq_true rfl), (Nat.le_of_ble_eq_true rfl)⟩ (Nat.le_of_ble_eq_true rfl) ⟨rfl, rfl⟩ rfl (Nat.zero_le _) (Nat.zero_le _) ?_
              refine ⟨_, _, rfl, hS, by omega, fun H3 S3 F3 => ?_⟩
              refine xi_ret ⟨_, rfl, rfl, dX8_work_59⟩ (Nat.zero_le _) (Nat.zero_le _) ?_
              exact xs_fin hp (by simp only [xs_work, xs_onE, xs_onP, xs_fn, xs_an, Bool.not_false, Bool.not_true, Bool.true_or, Bool.false_or, Bool.and_true, Bool.true_and, Bool.and_false, Bool.false_and, Bool.false_eq_true, if_true, if_false, ↓reduceIte, g_4, g_11, g_18, g_26, g_36, eq_true hE44, xs_kk0 (k := kp) (by omega)]) _ S3 (fun i hi => (F3 i (by omega)).trans (rfl))
          · have g_36 : xs_i w 0 1 = false := decide_eq_false (xn_b0 c_36)
            refine xi_ldc (q := 41) dX8_work_39 kc_X8_81 rfl ?_
            refine xi_ret ⟨_, rfl, rfl, dX8_work_41⟩ (Nat.zero_le _) (Nat.zero_le _) ?_
            exact xs_fin hp (by simp only [xs_work, xs_onE, xs_onP, xs_fn, xs_an, Bool.not_false, Bool.not_true, Bool.true_or, Bool.false_or, Bool.and_true, Bool.true_and, Bool.and_false, Bool.false_and, Bool.false_eq_true, if_true, if_false, ↓reduceIte, g_4, g_11, g_18, g_26, g_36, xs_kk0 (k := kp) (by omega)]) _ hS (fun i hi => rfl)

def xs_f6 (a b c d e f : Int32) : Nat → Int32 := fun i => ([a, b, c, d, e, f] : List Int32).getD i 0
def xs_bur (F : Nat → Int32) : Nat → Int32 := xs_f6 (F 0 + 5 * xs_min (F 1) 20) (F 1 - xs_min (F 1) 20) (F 2 + xs_min (F 1) 20) (F 3) (F 4) (F 5 + 1)
def xs_giv (F : Nat → Int32) (w : Int32) : Nat → Int32 := xs_f6 (F 0 - xs_min (F 0) w) (F 1) (F 2) (F 3 + xs_min (F 0) w) (F 4) (F 5)
def xs_blo (F : Nat → Int32) : Nat → Int32 := xs_f6 (F 0 - xs_max 0 (F 0 - 1500)) (F 1) (F 2) (F 3) (F 4 + xs_max 0 (F 0 - 1500)) (F 5)
theorem xs_fi2 (σ : xs_Sg) (a b : Nat → Int32) : xs_fi (xs_fi σ a) b = xs_fi σ b := by
  funext f o
  unfold xs_fi xs_pt
  by_cases z : f = 13 ∧ o = 0
  · rw [if_pos z, if_pos z]
  · rw [if_neg z, if_neg z, if_neg z]
def xs_stoke (σ : xs_Sg) (c : Int32) : Int32 × xs_Sg := if xs_i c 1 1000 = true then (if σ 13 0 1 + c ≤ 10000 then (σ 13 0 1 + c, xs_fi σ (xs_f6 (σ 13 0 0) (σ 13 0 1 + c) (σ 13 0 2) (σ 13 0 3) (σ 13 0 4) (σ 13 0 5))) else (-1000003, σ)) else (-1000001, σ)
set_option maxRecDepth 20000 in
set_option maxHeartbeats 2000000 in
/-- stoke -/
theorem xm_X8_stoke : xv_K yX8_stoke mX8_stoke (fun as h n Post => ∃ (σ : xs_Sg) (c : Int32), as = [.ref 0, .int c] ∧ (xs_S h σ) ∧ (83 ≤ n) ∧ (xs_V σ) ∧ xs_D h n Post (xs_stoke σ c)) := by
  refine xv_entry (by decide +kernel) rfl (fun h => absurd h (by decide)) ?_
  rintro X _ h n Post ⟨σ, c, rfl, hS, h83, hV, hp⟩
  refine ⟨Nat.le_of_ble_eq_true rfl, ?_⟩
  show xv_V X mX8_stoke Post 0 0 0 [(0, .ref 0), (1, .int c)] [] h n
  refine xi_iload_n (q := 1) dX8_stoke_0 rfl rfl ?_
  refine xi_iconst (x := 1) (q := 2) dX8_stoke_1 (by decide) rfl ?_
  refine xi_sipush (x := 1000) (q := 5) dX8_stoke_2 (by decide) rfl ?_
  refine xv_cS3 (q := 8) xm_X8_within ln_X8_77 dX8_stoke_5 ⟨(Nat.le_of_ble_eq_true rfl), (Nat.le_of_ble_eq_true rfl)⟩ (Nat.le_of_ble_eq_true rfl) ⟨rfl, rfl⟩ rfl (Nat.zero_le _) (Nat.zero_le _) ?_
  refine ⟨_, _, _, rfl, ?_⟩
  refine xi_if_ne (q := 11) (q2 := 14) dX8_stoke_8 (by decide) rfl (fun c_8 => ?_) (fun c_8 => ?_)
  · have g_8 : xs_i c 1 1000 = true := decide_eq_true (xn_b1 c_8)
    refine xi_aload_n (q := 15) dX8_stoke_14 rfl rfl ?_
    refine xi_getf (q := 18) dX8_stoke_15 fl_X8_68 ⟨by omega, hS.1.1⟩ rfl rfl ?_
    refine xi_getf (q := 21) dX8_stoke_18 fl_X8_294 ⟨by omega, hS.2.2.2.2.1.1⟩ rfl rfl ?_
    refine xi_iload_n (q := 22) dX8_stoke_21 rfl rfl ?_
    refine xi_iadd (q := 23) dX8_stoke_22 rfl ?_
    refine xi_sipush (x := 10000) (q := 26) dX8_stoke_23 (by decide) rfl ?_
    refine xi_icmp_le (q := 29) (q2 := 33) dX8_stoke_26 (by decide) rfl (fun c_26 => ?_) (fun c_26 => ?_)
    · skip
      refine xi_aload_n (q := 34) dX8_stoke_33 rfl rfl ?_
      refine xi_getf (q := 37) dX8_stoke_34 fl_X8_68 ⟨by omega, hS.1.1⟩ rfl rfl ?_
      refine xi_dup (q := 38) dX8_stoke_37 rfl rfl ?_
      refine xi_getf (q := 41) dX8_stoke_38 fl_X8_294 ⟨by omega, hS.2.2.2.2.1.1⟩ rfl rfl ?_
      refine xi_iload_n (q := 42) dX8_stoke_41 rfl rfl ?_
      refine xi_iadd (q := 43) dX8_stoke_42 rfl ?_
      refine xi_putf (q := 46) dX8_stoke_43 fl_X8_294 ⟨by omega, hS.2.2.2.2.1.1⟩ (Or.inl rfl) (fun _ => rfl) (fun _ => rfl) (Nat.le_of_ble_eq_true rfl) rfl ?_
      refine xi_aload_n (q := 47) dX8_stoke_46 rfl rfl ?_
      refine xi_getf (q := 50) dX8_stoke_47 fl_X8_68 (xv_keep (by omega) ⟨by omega, hS.1.1⟩) rfl rfl ?_
      refine xi_getf (q := 53) dX8_stoke_50 fl_X8_294 (xv_self (by omega)) rfl rfl ?_
      skip
      refine xi_ret ⟨_, rfl, rfl, dX8_stoke_53⟩ (Nat.zero_le _) (Nat.zero_le _) ?_
      exact xs_fin hp (by simp only [xs_stoke, xs_onE, xs_onP, xs_fn, xs_an, Bool.not_false, Bool.not_true, Bool.true_or, Bool.false_or, Bool.and_true, Bool.true_and, Bool.and_false, Bool.false_and, Bool.false_eq_true, if_true, if_false, ↓reduceIte, g_8, eq_true c_26]) _ (xs_Sfi (g := xs_f6 (σ 13 0 0) (σ 13 0 1 + c) (σ 13 0 2) (σ 13 0 3) (σ 13 0 4) (σ 13 0 5)) hS (va_up_self _ _ _) (fun i hi => va_up_ne _ _ hi)) (fun i hi => (va_up_ne _ _ (by omega)).trans rfl)
    · skip
      refine xi_ldcw (q := 32) dX8_stoke_29 kc_X8_297 rfl ?_
      refine xi_ret ⟨_, rfl, rfl, dX8_stoke_32⟩ (Nat.zero_le _) (Nat.zero_le _) ?_
      exact xs_fin hp (by simp only [xs_stoke, xs_onE, xs_onP, xs_fn, xs_an, Bool.not_false, Bool.not_true, Bool.true_or, Bool.false_or, Bool.and_true, Bool.true_and, Bool.and_false, Bool.false_and, Bool.false_eq_true, if_true, if_false, ↓reduceIte, g_8, eq_false c_26]) _ hS (fun i hi => rfl)
  · have g_8 : xs_i c 1 1000 = false := decide_eq_false (xn_b0 c_8)
    refine xi_ldc (q := 13) dX8_stoke_11 kc_X8_81 rfl ?_
    refine xi_ret ⟨_, rfl, rfl, dX8_stoke_13⟩ (Nat.zero_le _) (Nat.zero_le _) ?_
    exact xs_fin hp (by simp only [xs_stoke, xs_onE, xs_onP, xs_fn, xs_an, Bool.not_false, Bool.not_true, Bool.true_or, Bool.false_or, Bool.and_true, Bool.true_and, Bool.and_false, Bool.false_and, Bool.false_eq_true, if_true, if_false, ↓reduceIte, g_8]) _ hS (fun i hi => rfl)

def xs_fire (σ : xs_Sg) (w : Int32) : Int32 × xs_Sg := (if xs_i w 0 5 = true then (if w = 0 then σ 13 0 0 else if w = 1 then σ 13 0 1 else if w = 2 then σ 13 0 2 else if w = 3 then σ 13 0 3 else if w = 4 then σ 13 0 4 else σ 13 0 5) else -1000001, σ)
set_option maxRecDepth 20000 in
set_option maxHeartbeats 2000000 in
/-- fire -/
theorem xm_X8_fire : xv_K yX8_fire mX8_fire (fun as h n Post => ∃ (σ : xs_Sg) (w : Int32), as = [.ref 0, .int w] ∧ (xs_S h σ) ∧ (83 ≤ n) ∧ (xs_V σ) ∧ xs_D h n Post (xs_fire σ w)) := by
  refine xv_entry (by decide +kernel) rfl (fun h => absurd h (by decide)) ?_
  rintro X _ h n Post ⟨σ, w, rfl, hS, h83, hV, hp⟩
  refine ⟨Nat.le_of_ble_eq_true rfl, ?_⟩
  show xv_V X mX8_fire Post 0 0 0 [(0, .ref 0), (1, .int w)] [] h n
  refine xi_iload_n (q := 1) dX8_fire_0 rfl rfl ?_
  refine xi_iconst (x := 0) (q := 2) dX8_fire_1 (by decide) rfl ?_
  refine xi_iconst (x := 5) (q := 3) dX8_fire_2 (by decide) rfl ?_
  refine xv_cS3 (q := 6) xm_X8_within ln_X8_77 dX8_fire_3 ⟨(Nat.le_of_ble_eq_true rfl), (Nat.le_of_ble_eq_true rfl)⟩ (Nat.le_of_ble_eq_true rfl) ⟨rfl, rfl⟩ rfl (Nat.zero_le _) (Nat.zero_le _) ?_
  refine ⟨_, _, _, rfl, ?_⟩
  refine xi_if_eq (q := 9) (q2 := 20) dX8_fire_6 (by decide) rfl (fun c_6 => ?_) (fun c_6 => ?_)
  · have g_6 : xs_i w 0 5 = false := decide_eq_false (xn_b0 c_6)
    refine xi_ldc (q := 22) dX8_fire_20 kc_X8_81 rfl ?_
    refine xi_ret ⟨_, rfl, rfl, dX8_fire_22⟩ (Nat.zero_le _) (Nat.zero_le _) ?_
    exact xs_fin hp (by simp only [xs_fire, xs_onE, xs_onP, xs_fn, xs_an, Bool.not_false, Bool.not_true, Bool.true_or, Bool.false_or, Bool.and_true, Bool.true_and, Bool.and_false, Bool.false_and, Bool.false_eq_true, if_true, if_false, ↓reduceIte, g_6]) _ hS (fun i hi => rfl)
  · have g_6 : xs_i w 0 5 = true := decide_eq_true (xn_b1 c_6)
    refine xi_aload_n (q := 10) dX8_fire_9 rfl rfl ?_
    refine xi_getf (q := 13) dX8_fire_10 fl_X8_68 ⟨by omega, hS.1.1⟩ rfl rfl ?_
    refine xi_iload_n (q := 14) dX8_fire_13 rfl rfl ?_
    refine xv_cV1 (q := 17) xm_X1_told ln_X8_316 dX8_fire_14 ⟨by omega, hS.2.2.2.2.1.1⟩ rfl ⟨(Nat.le_of_ble_eq_true rfl), (Nat.le_of_ble_eq_true rfl)⟩ (Nat.le_of_ble_eq_true rfl) ⟨rfl, rfl⟩ rfl (Nat.zero_le _) (Nat.zero_le _) ?_
    refine ⟨_, _, _, _, _, _, _, rfl, hS.2.2.2.2.1.1, by omega, xn_g05 g_6, ?_⟩
    refine xi_goto (q := 22) dX8_fire_17 (by decide) ?_
    refine xi_ret ⟨_, rfl, rfl, dX8_fire_22⟩ (Nat.zero_le _) (Nat.zero_le _) ?_
    exact xs_fin hp (by simp only [xs_fire, xs_onE, xs_onP, xs_fn, xs_an, Bool.not_false, Bool.not_true, Bool.true_or, Bool.false_or, Bool.and_true, Bool.true_and, Bool.and_false, Bool.false_and, Bool.false_eq_true, if_true, if_false, ↓reduceIte, g_6]) _ hS (fun i hi => rfl)

def xs_status (σ : xs_Sg) : Int32 × xs_Sg := (σ 16 0 0, σ)
set_option maxRecDepth 20000 in
set_option maxHeartbeats 2000000 in
/-- status -/
theorem xm_X8_status : xv_K yX8_status mX8_status (fun as h n Post => ∃ (σ : xs_Sg), as = [.ref 0] ∧ (xs_S h σ) ∧ (83 ≤ n) ∧ (xs_V σ) ∧ xs_D h n Post (xs_status σ)) := by
  refine xv_entry (by decide +kernel) rfl (fun h => absurd h (by decide)) ?_
  rintro X _ h n Post ⟨σ, rfl, hS, h83, hV, hp⟩
  refine ⟨Nat.le_of_ble_eq_true rfl, ?_⟩
  show xv_V X mX8_status Post 0 0 0 [(0, .ref 0)] [] h n
  refine xi_aload_n (q := 1) dX8_status_0 rfl rfl ?_
  refine xi_getf (q := 4) dX8_status_1 fl_X8_344 ⟨by omega, hS.1.1⟩ rfl rfl ?_
  refine xi_ret ⟨_, rfl, rfl, dX8_status_4⟩ (Nat.zero_le _) (Nat.zero_le _) ?_
  exact xs_fin hp (by simp only [xs_status, xs_onE, xs_onP, xs_fn, xs_an, Bool.not_false, Bool.not_true, Bool.true_or, Bool.false_or, Bool.and_true, Bool.true_and, Bool.and_false, Bool.false_and, Bool.false_eq_true, if_true, if_false, ↓reduceIte]) _ hS (fun i hi => rfl)

