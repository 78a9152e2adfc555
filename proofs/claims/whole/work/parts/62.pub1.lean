theorem xn_gi {v a b : Int32} (g : xs_i v a b = true) : a ≤ v ∧ v ≤ b := of_decide_eq_true g
theorem xn_gI {v a b : Int32} (g : xs_i v a b = true) : a.toInt ≤ v.toInt ∧ v.toInt ≤ b.toInt := by
  have h := xn_gi g
  rw [xn_le, xn_le] at h
  exact h
theorem xn_g01 {v : Int32} (g : xs_i v 0 1 = true) : v = 0 ∨ v = 1 := by
  have h := xn_gI g
  rw [show (0 : Int32).toInt = 0 from rfl, show (1 : Int32).toInt = 1 from rfl] at h
  rw [xn_eq, xn_eq, show (0 : Int32).toInt = 0 from rfl, show (1 : Int32).toInt = 1 from rfl]
  omega
theorem xn_g02 {v : Int32} (g : xs_i v 0 2 = true) : v = 0 ∨ v = 1 ∨ v = 2 := by
  have h := xn_gI g
  rw [show (0 : Int32).toInt = 0 from rfl, show (2 : Int32).toInt = 2 from rfl] at h
  rw [xn_eq, xn_eq, xn_eq, show (0 : Int32).toInt = 0 from rfl, show (1 : Int32).toInt = 1 from rfl, show (2 : Int32).toInt = 2 from rfl]
  omega
theorem xn_g03 {v : Int32} (g : xs_i v 0 3 = true) : v = 0 ∨ v = 1 ∨ v = 2 ∨ v = 3 := by
  have h := xn_gI g
  rw [show (0 : Int32).toInt = 0 from rfl, show (3 : Int32).toInt = 3 from rfl] at h
  rw [xn_eq, xn_eq, xn_eq, xn_eq, show (0 : Int32).toInt = 0 from rfl, show (1 : Int32).toInt = 1 from rfl, show (2 : Int32).toInt = 2 from rfl, show (3 : Int32).toInt = 3 from rfl]
  omega
theorem xn_g05 {v : Int32} (g : xs_i v 0 5 = true) : v = 0 ∨ v = 1 ∨ v = 2 ∨ v = 3 ∨ v = 4 ∨ v = 5 := by
  have h := xn_gI g
  rw [show (0 : Int32).toInt = 0 from rfl, show (5 : Int32).toInt = 5 from rfl] at h
  rw [xn_eq, xn_eq, xn_eq, xn_eq, xn_eq, xn_eq, show (0 : Int32).toInt = 0 from rfl, show (1 : Int32).toInt = 1 from rfl, show (2 : Int32).toInt = 2 from rfl, show (3 : Int32).toInt = 3 from rfl, show (4 : Int32).toInt = 4 from rfl, show (5 : Int32).toInt = 5 from rfl]
  omega

def xs_piston (σ : xs_Sg) (p k : Int32) : Int32 × xs_Sg := xs_onE σ p (xs_i k (-1000) 1000) fun j => xs_an σ (xs_pis (σ 4 j 0) k)
def xs_valve (σ : xs_Sg) (p m k : Int32) : Int32 × xs_Sg := xs_onE σ p (xs_i m (-6) 6 && xs_i k (-1000) 1000) fun j => xs_an σ (xs_val (σ 4 j) (σ 5 j 0) m k)
def xs_open (σ : xs_Sg) (p m d k w : Int32) : Int32 × xs_Sg := xs_onE σ p (xs_i m (-6) 6 && xs_i d 0 1 && xs_i k (-1000) 1000 && xs_i w 0 1) fun j => xs_an σ (xs_by (σ 4 j) (xs_val (σ 4 j) (σ 5 j 0) m k) d w)
def xs_event (σ : xs_Sg) (p m d w : Int32) : Int32 × xs_Sg := xs_onE σ p (xs_i m (-6) 6 && xs_i d 0 1 && xs_i w 0 3) fun j => xs_an σ (xs_evt (σ 4 j) (σ 5 j 0) m d w)
def xs_valves (σ : xs_Sg) (p w : Int32) : Int32 × xs_Sg := xs_onE σ p (xs_i w 0 1) fun j => xs_an σ (if w = 0 then xs_unl (σ 4 j) (σ 5 j 0) else xs_led (σ 4 j) (σ 5 j 0))
def xs_number (σ : xs_Sg) (p w : Int32) : Int32 × xs_Sg := xs_onE σ p (xs_i w 0 11) fun j => xs_an σ (if 11 ≤ w then σ 5 j 0 else σ 4 j w.toNatClampNeg)
def xs_sicken (σ : xs_Sg) (p s : Int32) : Int32 × xs_Sg := xs_onE σ p (xs_i s 0 12) fun j => (σ 5 j 0, xs_fd (xs_en σ j (σ 4 j) s (σ 6 j 0)) 0)
def xs_adjust (σ : xs_Sg) (p w v : Int32) : Int32 × xs_Sg := xs_onE σ p (xs_isNb w v) fun j => (σ 4 j w.toNatClampNeg, xs_fd (xs_en σ j (upd (σ 4 j) w.toNatClampNeg v) (σ 5 j 0) (σ 6 j 0)) 0)
set_option maxRecDepth 20000 in
set_option maxHeartbeats 2000000 in
/-- piston -/
theorem xm_X8_piston : xv_K yX8_piston mX8_piston (fun as h n Post => ∃ (σ : xs_Sg) (p : Int32) (k : Int32), as = [.ref 0, .int p, .int k] ∧ (xs_S h σ) ∧ (83 ≤ n) ∧ (xs_V σ) ∧ xs_D h n Post (xs_piston σ p k)) := by
  refine xv_entry (by decide +kernel) rfl (fun h => absurd h (by decide)) ?_
  rintro X _ h n Post ⟨σ, p, k, rfl, hS, h83, hV, hp⟩
  refine ⟨Nat.le_of_ble_eq_true rfl, ?_⟩
  show xv_V X mX8_piston Post 0 0 0 [(0, .ref 0), (1, .int p), (2, .int k)] [] h n
  refine xi_iload_n (q := 1) dX8_piston_0 rfl rfl ?_
  refine xv_cS1 (q := 4) xm_X8_isPlace ln_X8_125 dX8_piston_1 ⟨(Nat.le_of_ble_eq_true rfl), (Nat.le_of_ble_eq_true rfl)⟩ (Nat.le_of_ble_eq_true rfl) ⟨rfl, rfl⟩ rfl (Nat.zero_le _) (Nat.zero_le _) ?_
  refine ⟨_, rfl, ?_⟩
  refine xi_if_eq (q := 7) (q2 := 14) dX8_piston_4 (by decide) rfl (fun c_4 => ?_) (fun c_4 => ?_)
  · have g_4 : xs_i p 0 5 = false := decide_eq_false (xn_b0 c_4)
    refine xi_ldc (q := 16) dX8_piston_14 kc_X8_81 rfl ?_
    refine xi_ret ⟨_, rfl, rfl, dX8_piston_16⟩ (Nat.zero_le _) (Nat.zero_le _) ?_
    exact xs_fin hp (by simp only [xs_piston, xs_onE, xs_onP, xs_fn, xs_an, Bool.not_false, Bool.not_true, Bool.true_or, Bool.false_or, Bool.and_true, Bool.true_and, Bool.and_false, Bool.false_and, Bool.false_eq_true, if_true, if_false, ↓reduceIte, g_4]) _ hS (fun i hi => rfl)
  · have g_4 : xs_i p 0 5 = true := decide_eq_true (xn_b1 c_4)
    obtain ⟨kp, hkp, rfl⟩ := xn_pk (m := 5) (by omega) (xn_b1 c_4)
    refine xi_iload_n (q := 8) dX8_piston_7 rfl rfl ?_
    refine xv_cS1 (q := 11) xm_X8_isTurned ln_X8_160 dX8_piston_8 ⟨(Nat.le_of_ble_eq_true rfl), (Nat.le_of_ble_eq_true rfl)⟩ (Nat.le_of_ble_eq_true rfl) ⟨rfl, rfl⟩ rfl (Nat.zero_le _) (Nat.zero_le _) ?_
    refine ⟨_, rfl, ?_⟩
    refine xi_if_ne (q := 14) (q2 := 17) dX8_piston_11 (by decide) rfl (fun c_11 => ?_) (fun c_11 => ?_)
    · have g_11 : xs_i k (-1000) 1000 = true := decide_eq_true (xn_b1 c_11)
      refine xi_aload_n (q := 18) dX8_piston_17 rfl rfl ?_
      refine xi_iload_n (q := 19) dX8_piston_18 rfl rfl ?_
      refine xv_cV1 (q := 22) xm_X8_engineAt ln_X8_142 dX8_piston_19 ⟨by omega, hS.1.1⟩ rfl ⟨(Nat.le_of_ble_eq_true rfl), (Nat.le_of_ble_eq_true rfl)⟩ (Nat.le_of_ble_eq_true rfl) ⟨rfl, rfl⟩ rfl (Nat.zero_le _) (Nat.zero_le _) ?_
      refine ⟨_, kp, rfl, hS, by omega, by omega, fun hE19 => ?_, fun hE19 => ?_⟩
      · skip
        refine xi_astore_n (q := 23) dX8_piston_22 (Nat.le_of_ble_eq_true rfl) rfl ?_
        refine xi_aload_n (q := 24) dX8_piston_23 rfl rfl ?_
        refine xi_ifnonnull_r (q := 33) dX8_piston_24 (by decide) ?_
        refine xi_aload_n (q := 34) dX8_piston_33 rfl rfl ?_
        refine xi_aload_n (q := 35) dX8_piston_34 rfl rfl ?_
        refine xi_iload_n (q := 36) dX8_piston_35 rfl rfl ?_
        refine xv_cV1 (q := 39) xm_X0_stroke ln_X8_163 dX8_piston_36 ⟨by omega, (hS.2.2.1 kp (by omega)).1⟩ rfl ⟨(Nat.le_of_ble_eq_true rfl), (Nat.le_of_ble_eq_true rfl)⟩ (Nat.le_of_ble_eq_true rfl) ⟨rfl, rfl⟩ rfl (Nat.zero_le _) (Nat.zero_le _) ?_
        refine ⟨59 + 2 * kp, _, _, _, _, rfl, by omega, (hS.2.2.1 kp (by omega)).1, (hS.2.2.1 kp (by omega)).2, by have := (hV.2.2.2.1 kp (by omega) hE19).1.1; rw [xn_le, show (0 : Int32).toInt = 0 from rfl]; omega, by have := (hV.2.2.2.1 kp (by omega) hE19).1.1; rw [xn_le, show (20 : Int32).toInt = 20 from rfl]; omega, ?_⟩
        refine xv_cV1 (q := 42) xm_X8_answered ln_X8_90 dX8_piston_39 ⟨by omega, hS.1.1⟩ rfl ⟨(Nat.le_of_ble_eq_true rfl), (Nat.le_of_ble_eq_true rfl)⟩ (Nat.le_of_ble_eq_true rfl) ⟨rfl, rfl⟩ rfl (Nat.zero_le _) (Nat.zero_le _) ?_
        refine ⟨_, _, rfl, hS, by omega, fun H1 S1 F1 => ?_⟩
        refine xi_ret ⟨_, rfl, rfl, dX8_piston_42⟩ (Nat.zero_le _) (Nat.zero_le _) ?_
        exact xs_fin hp (by simp only [xs_piston, xs_onE, xs_onP, xs_fn, xs_an, Bool.not_false, Bool.not_true, Bool.true_or, Bool.false_or, Bool.and_true, Bool.true_and, Bool.and_false, Bool.false_and, Bool.false_eq_true, if_true, if_false, ↓reduceIte, g_4, g_11, hE19, xs_kk0 (k := kp) (by omega)]) _ S1 (fun i hi => (F1 i (by omega)).trans (rfl))
      · skip
        refine xi_astore_nN (q := 23) dX8_piston_22 (Nat.le_of_ble_eq_true rfl) rfl ?_
        refine xi_aload_nN (q := 24) dX8_piston_23 rfl rfl ?_
        refine xi_ifnonnull_n (q := 27) dX8_piston_24 rfl ?_
        refine xi_aload_n (q := 28) dX8_piston_27 rfl rfl ?_
        refine xi_iconst (x := 1) (q := 29) dX8_piston_28 (by decide) rfl ?_
        refine xv_cV1 (q := 32) xm_X8_found ln_X8_82 dX8_piston_29 ⟨by omega, hS.1.1⟩ rfl ⟨(Nat.le_of_ble_eq_true rfl), (Nat.le_of_ble_eq_true rfl)⟩ (Nat.le_of_ble_eq_true rfl) ⟨rfl, rfl⟩ rfl (Nat.zero_le _) (Nat.zero_le _) ?_
        refine ⟨_, _, rfl, hS, by omega, fun H2 S2 F2 => ?_⟩
        refine xi_ret ⟨_, rfl, rfl, dX8_piston_32⟩ (Nat.zero_le _) (Nat.zero_le _) ?_
        exact xs_fin hp (by simp only [xs_piston, xs_onE, xs_onP, xs_fn, xs_an, Bool.not_false, Bool.not_true, Bool.true_or, Bool.false_or, Bool.and_true, Bool.true_and, Bool.and_false, Bool.false_and, Bool.false_eq_true, if_true, if_false, ↓reduceIte, g_4, g_11, eq_true hE19, xs_kk0 (k := kp) (by omega)]) _ S2 (fun i hi => (F2 i (by omega)).trans (rfl))
    · have g_11 : xs_i k (-1000) 1000 = false := decide_eq_false (xn_b0 c_11)
      refine xi_ldc (q := 16) dX8_piston_14 kc_X8_81 rfl ?_
      refine xi_ret ⟨_, rfl, rfl, dX8_piston_16⟩ (Nat.zero_le _) (Nat.zero_le _) ?_
      exact xs_fin hp (by simp only [xs_piston, xs_onE, xs_onP, xs_fn, xs_an, Bool.not_false, Bool.not_true, Bool.true_or, Bool.false_or, Bool.and_true, Bool.true_and, Bool.and_false, Bool.false_and, Bool.false_eq_true, if_true, if_false, ↓reduceIte, g_4, g_11, xs_kk0 (k := kp) (by omega)]) _ hS (fun i hi => rfl)

set_option maxRecDepth 20000 in
set_option maxHeartbeats 2000000 in
/-- valve -/
theorem xm_X8_valve : xv_K yX8_valve mX8_valve (fun as h n Post => ∃ (σ : xs_Sg) (p : Int32) (m : Int32) (k : Int32), as = [.ref 0, .int p, .int m, .int k] ∧ (xs_S h σ) ∧ (83 ≤ n) ∧ (xs_V σ) ∧ xs_D h n Post (xs_valve σ p m k)) := by
  refine xv_entry (by decide +kernel) rfl (fun h => absurd h (by decide)) ?_
  rintro X _ h n Post ⟨σ, p, m, k, rfl, hS, h83, hV, hp⟩
  refine ⟨Nat.le_of_ble_eq_true rfl, ?_⟩
  show xv_V X mX8_valve Post 0 0 0 [(0, .ref 0), (1, .int p), (2, .int m), (3, .int k)] [] h n
  refine xi_iload_n (q := 1) dX8_valve_0 rfl rfl ?_
  refine xv_cS1 (q := 4) xm_X8_isPlace ln_X8_125 dX8_valve_1 ⟨(Nat.le_of_ble_eq_true rfl), (Nat.le_of_ble_eq_true rfl)⟩ (Nat.le_of_ble_eq_true rfl) ⟨rfl, rfl⟩ rfl (Nat.zero_le _) (Nat.zero_le _) ?_
  refine ⟨_, rfl, ?_⟩
  refine xi_if_eq (q := 7) (q2 := 21) dX8_valve_4 (by decide) rfl (fun c_4 => ?_) (fun c_4 => ?_)
  · have g_4 : xs_i p 0 5 = false := decide_eq_false (xn_b0 c_4)
    refine xi_ldc (q := 23) dX8_valve_21 kc_X8_81 rfl ?_
    refine xi_ret ⟨_, rfl, rfl, dX8_valve_23⟩ (Nat.zero_le _) (Nat.zero_le _) ?_
    exact xs_fin hp (by simp only [xs_valve, xs_onE, xs_onP, xs_fn, xs_an, Bool.not_false, Bool.not_true, Bool.true_or, Bool.false_or, Bool.and_true, Bool.true_and, Bool.and_false, Bool.false_and, Bool.false_eq_true, if_true, if_false, ↓reduceIte, g_4]) _ hS (fun i hi => rfl)
  · have g_4 : xs_i p 0 5 = true := decide_eq_true (xn_b1 c_4)
    obtain ⟨kp, hkp, rfl⟩ := xn_pk (m := 5) (by omega) (xn_b1 c_4)
    refine xi_iload_n (q := 8) dX8_valve_7 rfl rfl ?_
    refine xv_cS1 (q := 11) xm_X8_isNotch ln_X8_166 dX8_valve_8 ⟨(Nat.le_of_ble_eq_true rfl), (Nat.le_of_ble_eq_true rfl)⟩ (Nat.le_of_ble_eq_true rfl) ⟨rfl, rfl⟩ rfl (Nat.zero_le _) (Nat.zero_le _) ?_
    refine ⟨_, rfl, ?_⟩
    refine xi_if_eq (q := 14) (q2 := 21) dX8_valve_11 (by decide) rfl (fun c_11 => ?_) (fun c_11 => ?_)
    · have g_11 : xs_i m (-6) 6 = false := decide_eq_false (xn_b0 c_11)
      refine xi_ldc (q := 23) dX8_valve_21 kc_X8_81 rfl ?_
      refine xi_ret ⟨_, rfl, rfl, dX8_valve_23⟩ (Nat.zero_le _) (Nat.zero_le _) ?_
      exact xs_fin hp (by simp only [xs_valve, xs_onE, xs_onP, xs_fn, xs_an, Bool.not_false, Bool.not_true, Bool.true_or, Bool.false_or, Bool.and_true, Bool.true_and, Bool.and_false, Bool.false_and, Bool.false_eq_true, if_true, if_false, ↓reduceIte, g_4, g_11, xs_kk0 (k := kp) (by omega)]) _ hS (fun i hi => rfl)
    · have g_11 : xs_i m (-6) 6 = true := decide_eq_true (xn_b1 c_11)
      refine xi_iload_n (q := 15) dX8_valve_14 rfl rfl ?_
      refine xv_cS1 (q := 18) xm_X8_isTurned ln_X8_160 dX8_valve_15 ⟨(Nat.le_of_ble_eq_true rfl), (Nat.le_of_ble_eq_true rfl)⟩ (Nat.le_of_ble_eq_true rfl) ⟨rfl, rfl⟩ rfl (Nat.zero_le _) (Nat.zero_le _) ?_
      refine ⟨_, rfl, ?_⟩
      refine xi_if_ne (q := 21) (q2 := 24) dX8_valve_18 (by decide) rfl (fun c_18 => ?_) (fun c_18 => ?_)
      · have g_18 : xs_i k (-1000) 1000 = true := decide_eq_true (xn_b1 c_18)
        refine xi_aload_n (q := 25) dX8_valve_24 rfl rfl ?_
        refine xi_iload_n (q := 26) dX8_valve_25 rfl rfl ?_
        refine xv_cV1 (q := 29) xm_X8_engineAt ln_X8_142 dX8_valve_26 ⟨by omega, hS.1.1⟩ rfl ⟨(Nat.le_of_ble_eq_true rfl), (Nat.le_of_ble_eq_true rfl)⟩ (Nat.le_of_ble_eq_true rfl) ⟨rfl, rfl⟩ rfl (Nat.zero_le _) (Nat.zero_le _) ?_
        refine ⟨_, kp, rfl, hS, by omega, by omega, fun hE26 => ?_, fun hE26 => ?_⟩
        · skip
          refine xi_astore (q := 31) dX8_valve_29 (Nat.le_of_ble_eq_true rfl) rfl ?_
          refine xi_aload (q := 33) dX8_valve_31 rfl rfl ?_
          refine xi_ifnonnull_r (q := 42) dX8_valve_33 (by decide) ?_
          refine xi_aload_n (q := 43) dX8_valve_42 rfl rfl ?_
          refine xi_aload (q := 45) dX8_valve_43 rfl rfl ?_
          refine xi_iload_n (q := 46) dX8_valve_45 rfl rfl ?_
          refine xi_iload_n (q := 47) dX8_valve_46 rfl rfl ?_
          refine xv_cV2 (q := 50) xm_X0_travel ln_X8_169 dX8_valve_47 ⟨by omega, (hS.2.2.1 kp (by omega)).1⟩ rfl ⟨(Nat.le_of_ble_eq_true rfl), (Nat.le_of_ble_eq_true rfl)⟩ (Nat.le_of_ble_eq_true rfl) ⟨rfl, rfl⟩ rfl (Nat.zero_le _) (Nat.zero_le _) ?_
          refine ⟨59 + 2 * kp, _, _, _, _, _, rfl, by omega, (hS.2.2.1 kp (by omega)).1, (hS.2.2.1 kp (by omega)).2, ?_⟩
          refine xv_cV1 (q := 53) xm_X8_answered ln_X8_90 dX8_valve_50 ⟨by omega, hS.1.1⟩ rfl ⟨(Nat.le_of_ble_eq_true rfl), (Nat.le_of_ble_eq_true rfl)⟩ (Nat.le_of_ble_eq_true rfl) ⟨rfl, rfl⟩ rfl (Nat.zero_le _) (Nat.zero_le _) ?_
          refine ⟨_, _, rfl, hS, by omega, fun H1 S1 F1 => ?_⟩
          refine xi_ret ⟨_, rfl, rfl, dX8_valve_53⟩ (Nat.zero_le _) (Nat.zero_le _) ?_
          exact xs_fin hp (by simp only [xs_valve, xs_onE, xs_onP, xs_fn, xs_an, Bool.not_false, Bool.not_true, Bool.true_or, Bool.false_or, Bool.and_true, Bool.true_and, Bool.and_false, Bool.false_and, Bool.false_eq_true, if_true, if_false, ↓reduceIte, g_4, g_11, g_18, hE26, xs_kk0 (k := kp) (by omega)]) _ S1 (fun i hi => (F1 i (by omega)).trans (rfl))
        · skip
          refine xi_astoreN (q := 31) dX8_valve_29 (Nat.le_of_ble_eq_true rfl) rfl ?_
          refine xi_aloadN (q := 33) dX8_valve_31 rfl rfl ?_
          refine xi_ifnonnull_n (q := 36) dX8_valve_33 rfl ?_
          refine xi_aload_n (q := 37) dX8_valve_36 rfl rfl ?_
          refine xi_iconst (x := 1) (q := 38) dX8_valve_37 (by decide) rfl ?_
          refine xv_cV1 (q := 41) xm_X8_found ln_X8_82 dX8_valve_38 ⟨by omega, hS.1.1⟩ rfl ⟨(Nat.le_of_ble_eq_true rfl), (Nat.le_of_ble_eq_true rfl)⟩ (Nat.le_of_ble_eq_true rfl) ⟨rfl, rfl⟩ rfl (Nat.zero_le _) (Nat.zero_le _) ?_
          refine ⟨_, _, rfl, hS, by omega, fun H2 S2 F2 => ?_⟩
          refine xi_ret ⟨_, rfl, rfl, dX8_valve_41⟩ (Nat.zero_le _) (Nat.zero_le _) ?_
          exact xs_fin hp (by simp only [xs_valve, xs_onE, xs_onP, xs_fn, xs_an, Bool.not_false, Bool.not_true, Bool.true_or, Bool.false_or, Bool.and_true, Bool.true_and, Bool.and_false, Bool.false_and, Bool.false_eq_true, if_true, if_false, ↓reduceIte, g_4, g_11, g_18, eq_true hE26, xs_kk0 (k := kp) (by omega)]) _ S2 (fun i hi => (F2 i (by omega)).trans (rfl))
      · have g_18 : xs_i k (-1000) 1000 = false := decide_eq_false (xn_b0 c_18)
        refine xi_ldc (q := 23) dX8_valve_21 kc_X8_81 rfl ?_
        refine xi_ret ⟨_, rfl, rfl, dX8_valve_23⟩ (Nat.zero_le _) (Nat.zero_le _) ?_
        exact xs_fin hp (by simp only [xs_valve, xs_onE, xs_onP, xs_fn, xs_an, Bool.not_false, Bool.not_true, Bool.true_or, Bool.false_or, Bool.and_true, Bool.true_and, Bool.and_false, Bool.false_and, Bool.false_eq_true, if_true, if_false, ↓reduceIte, g_4, g_11, g_18, xs_kk0 (k := kp) (by omega)]) _ hS (fun i hi => rfl)

set_option maxRecDepth 20000 in
set_option maxHeartbeats 2000000 in
/-- open -/
theorem xm_X8_open : xv_K yX8_open mX8_open (fun as h n Post => ∃ (σ : xs_Sg) (p : Int32) (m : Int32) (d : Int32) (k : Int32) (w : Int32), as = [.ref 0, .int p, .int m, .int d, .int k, .int w] ∧ (xs_S h σ) ∧ (83 ≤ n) ∧ (xs_V σ) ∧ xs_D h n Post (xs_open σ p m d k w)) := by
  refine xv_entry (by decide +kernel) rfl (fun h => absurd h (by decide)) ?_
  rintro X _ h n Post ⟨σ, p, m, d, k, w, rfl, hS, h83, hV, hp⟩
  refine ⟨Nat.le_of_ble_eq_true rfl, ?_⟩
  show xv_V X mX8_open Post 0 0 0 [(0, .ref 0), (1, .int p), (2, .int m), (3, .int d), (4, .int k), (5, .int w)] [] h n
  refine xi_iload_n (q := 1) dX8_open_0 rfl rfl ?_
  refine xv_cS1 (q := 4) xm_X8_isPlace ln_X8_125 dX8_open_1 ⟨(Nat.le_of_ble_eq_true rfl), (Nat.le_of_ble_eq_true rfl)⟩ (Nat.le_of_ble_eq_true rfl) ⟨rfl, rfl⟩ rfl (Nat.zero_le _) (Nat.zero_le _) ?_
  refine ⟨_, rfl, ?_⟩
  refine xi_if_eq (q := 7) (q2 := 39) dX8_open_4 (by decide) rfl (fun c_4 => ?_) (fun c_4 => ?_)
  · have g_4 : xs_i p 0 5 = false := decide_eq_false (xn_b0 c_4)
    refine xi_ldc (q := 41) dX8_open_39 kc_X8_81 rfl ?_
    refine xi_ret ⟨_, rfl, rfl, dX8_open_41⟩ (Nat.zero_le _) (Nat.zero_le _) ?_
    exact xs_fin hp (by simp only [xs_open, xs_onE, xs_onP, xs_fn, xs_an, Bool.not_false, Bool.not_true, Bool.true_or, Bool.false_or, Bool.and_true, Bool.true_and, Bool.and_false, Bool.false_and, Bool.false_eq_true, if_true, if_false, ↓reduceIte, g_4]) _ hS (fun i hi => rfl)
  · have g_4 : xs_i p 0 5 = true := decide_eq_true (xn_b1 c_4)
    obtain ⟨kp, hkp, rfl⟩ := xn_pk (m := 5) (by omega) (xn_b1 c_4)
    refine xi_iload_n (q := 8) dX8_open_7 rfl rfl ?_
    refine xv_cS1 (q := 11) xm_X8_isNotch ln_X8_166 dX8_open_8 ⟨(Nat.le_of_ble_eq_true rfl), (Nat.le_of_ble_eq_true rfl)⟩ (Nat.le_of_ble_eq_true rfl) ⟨rfl, rfl⟩ rfl (Nat.zero_le _) (Nat.zero_le _) ?_
    refine ⟨_, rfl, ?_⟩
    refine xi_if_eq (q := 14) (q2 := 39) dX8_open_11 (by decide) rfl (fun c_11 => ?_) (fun c_11 => ?_)
    · have g_11 : xs_i m (-6) 6 = false := decide_eq_false (xn_b0 c_11)
      refine xi_ldc (q := 41) dX8_open_39 kc_X8_81 rfl ?_
      refine xi_ret ⟨_, rfl, rfl, dX8_open_41⟩ (Nat.zero_le _) (Nat.zero_le _) ?_
      exact xs_fin hp (by simp only [xs_open, xs_onE, xs_onP, xs_fn, xs_an, Bool.not_false, Bool.not_true, Bool.true_or, Bool.false_or, Bool.and_true, Bool.true_and, Bool.and_false, Bool.false_and, Bool.false_eq_true, if_true, if_false, ↓reduceIte, g_4, g_11, xs_kk0 (k := kp) (by omega)]) _ hS (fun i hi => rfl)
    · have g_11 : xs_i m (-6) 6 = true := decide_eq_true (xn_b1 c_11)
      refine xi_iload_n (q := 15) dX8_open_14 rfl rfl ?_
      refine xv_cS1 (q := 18) xm_X8_isEnd ln_X8_172 dX8_open_15 ⟨(Nat.le_of_ble_eq_true rfl), (Nat.le_of_ble_eq_true rfl)⟩ (Nat.le_of_ble_eq_true rfl) ⟨rfl, rfl⟩ rfl (Nat.zero_le _) (Nat.zero_le _) ?_
      refine ⟨_, rfl, ?_⟩
      refine xi_if_eq (q := 21) (q2 := 39) dX8_open_18 (by decide) rfl (fun c_18 => ?_) (fun c_18 => ?_)
      · have g_18 : xs_i d 0 1 = false := decide_eq_false (xn_b0 c_18)
        refine xi_ldc (q := 41) dX8_open_39 kc_X8_81 rfl ?_
        refine xi_ret ⟨_, rfl, rfl, dX8_open_41⟩ (Nat.zero_le _) (Nat.zero_le _) ?_
        exact xs_fin hp (by simp only [xs_open, xs_onE, xs_onP, xs_fn, xs_an, Bool.not_false, Bool.not_true, Bool.true_or, Bool.false_or, Bool.and_true, Bool.true_and, Bool.and_false, Bool.false_and, Bool.false_eq_true, if_true, if_false, ↓reduceIte, g_4, g_11, g_18, xs_kk0 (k := kp) (by omega)]) _ hS (fun i hi => rfl)
      · have g_18 : xs_i d 0 1 = true := decide_eq_true (xn_b1 c_18)
        refine xi_iload (q := 23) dX8_open_21 rfl rfl ?_
        refine xv_cS1 (q := 26) xm_X8_isTurned ln_X8_160 dX8_open_23 ⟨(Nat.le_of_ble_eq_true rfl), (Nat.le_of_ble_eq_true rfl)⟩ (Nat.le_of_ble_eq_true rfl) ⟨rfl, rfl⟩ rfl (Nat.zero_le _) (Nat.zero_le _) ?_
        refine ⟨_, rfl, ?_⟩
        refine xi_if_eq (q := 29) (q2 := 39) dX8_open_26 (by decide) rfl (fun c_26 => ?_) (fun c_26 => ?_)
        · have g_26 : xs_i k (-1000) 1000 = false := decide_eq_false (xn_b0 c_26)
          refine xi_ldc (q := 41) dX8_open_39 kc_X8_81 rfl ?_
          refine xi_ret ⟨_, rfl, rfl, dX8_open_41⟩ (Nat.zero_le _) (Nat.zero_le _) ?_
          exact xs_fin hp (by simp only [xs_open, xs_onE, xs_onP, xs_fn, xs_an, Bool.not_false, Bool.not_true, Bool.true_or, Bool.false_or, Bool.and_true, Bool.true_and, Bool.and_false, Bool.false_and, Bool.false_eq_true, if_true, if_false, ↓reduceIte, g_4, g_11, g_18, g_26, xs_kk0 (k := kp) (by omega)]) _ hS (fun i hi => rfl)
        · have g_26 : xs_i k (-1000) 1000 = true := decide_eq_true (xn_b1 c_26)
          refine xi_iload (q := 31) dX8_open_29 rfl rfl ?_
          refine xi_iconst (x := 0) (q := 32) dX8_open_31 (by decide) rfl ?_
          refine xi_iconst (x := 1) (q := 33) dX8_open_32 (by decide) rfl ?_
          refine xv_cS3 (q := 36) xm_X8_within ln_X8_77 dX8_open_33 ⟨(Nat.le_of_ble_eq_true rfl), (Nat.le_of_ble_eq_true rfl)⟩ (Nat.le_of_ble_eq_true rfl) ⟨rfl, rfl⟩ rfl (Nat.zero_le _) (Nat.zero_le _) ?_
          refine ⟨_, _, _, rfl, ?_⟩
          refine xi_if_ne (q := 39) (q2 := 42) dX8_open_36 (by decide) rfl (fun c_36 => ?_) (fun c_36 => ?_)
          · have g_36 : xs_i w 0 1 = true := decide_eq_true (xn_b1 c_36)
            refine xi_aload_n (q := 43) dX8_open_42 rfl rfl ?_
            refine xi_iload_n (q := 44) dX8_open_43 rfl rfl ?_
            refine xv_cV1 (q := 47) xm_X8_engineAt ln_X8_142 dX8_open_44 ⟨by omega, hS.1.1⟩ rfl ⟨(Nat.le_of_ble_eq_true rfl), (Nat.le_of_ble_eq_true rfl)⟩ (Nat.le_of_ble_eq_true rfl) ⟨rfl, rfl⟩ rfl (Nat.zero_le _) (Nat.zero_le _) ?_
            refine ⟨_, kp, rfl, hS, by omega, by omega, fun hE44 => ?_, fun hE44 => ?_⟩
            · skip
              refine xi_astore (q := 49) dX8_open_47 (Nat.le_of_ble_eq_true rfl) rfl ?_
              refine xi_aload (q := 51) dX8_open_49 rfl rfl ?_
              refine xi_ifnonnull_r (q := 60) dX8_open_51 (by decide) ?_
              refine xi_aload_n (q := 61) dX8_open_60 rfl rfl ?_
              refine xi_aload (q := 63) dX8_open_61 rfl rfl ?_
              refine xi_aload (q := 65) dX8_open_63 rfl rfl ?_
              refine xi_iload_n (q := 66) dX8_open_65 rfl rfl ?_
              refine xi_iload (q := 68) dX8_open_66 rfl rfl ?_
              refine xv_cV2 (q := 71) xm_X0_travel ln_X8_169 dX8_open_68 ⟨by omega, (hS.2.2.1 kp (by omega)).1⟩ rfl ⟨(Nat.le_of_ble_eq_true rfl), (Nat.le_of_ble_eq_true rfl)⟩ (Nat.le_of_ble_eq_true rfl) ⟨rfl, rfl⟩ rfl (Nat.zero_le _) (Nat.zero_le _) ?_
              refine ⟨59 + 2 * kp, _, _, _, _, _, rfl, by omega, (hS.2.2.1 kp (by omega)).1, (hS.2.2.1 kp (by omega)).2, ?_⟩
              refine xi_iload_n (q := 72) dX8_open_71 rfl rfl ?_
              refine xi_iload (q := 74) dX8_open_72 rfl rfl ?_
              refine xv_cV3 (q := 77) xm_X0_opening ln_X8_175 dX8_open_74 ⟨by omega, (hS.2.2.1 kp (by omega)).1⟩ rfl ⟨(Nat.le_of_ble_eq_true rfl), (Nat.le_of_ble_eq_true rfl)⟩ (Nat.le_of_ble_eq_true rfl) ⟨rfl, rfl⟩ rfl (Nat.zero_le _) (Nat.zero_le _) ?_
              refine ⟨59 + 2 * kp, _, _, _, _, _, _, rfl, by omega, (hS.2.2.1 kp (by omega)).1, (hS.2.2.1 kp (by omega)).2, xn_g01 g_18, xn_g01 g_36, ?_⟩
              refine xv_cV1 (q := 80) xm_X8_answered ln_X8_90 dX8_open_77 ⟨by omega, hS.1.1⟩ rfl ⟨(Nat.le_of_ble_eq_true rfl), (Nat.le_of_ble_eq_true rfl)⟩ (Nat.le_of_ble_eq_true rfl) ⟨rfl, rfl⟩ rfl (Nat.zero_le _) (Nat.zero_le _) ?_
              refine ⟨_, _, rfl, hS, by omega, fun H1 S1 F1 => ?_⟩
              refine xi_ret ⟨_, rfl, rfl, dX8_open_80⟩ (Nat.zero_le _) (Nat.zero_le _) ?_
              exact xs_fin hp (by simp only [xs_open, xs_onE, xs_onP, xs_fn, xs_an, Bool.not_false, Bool.not_true, Bool.true_or, Bool.false_or, Bool.and_true, Bool.true_and, Bool.and_false, Bool.false_and, Bool.false_eq_true, if_true, if_false, ↓reduceIte, g_4, g_11, g_18, g_26, g_36, hE44, xs_kk0 (k := kp) (by omega)]) _ S1 (fun i hi => (F1 i (by omega)).trans (rfl))
            · skip
              refine xi_astoreN (q := 49) dX8_open_47 (Nat.le_of_ble_eq_true rfl) rfl ?_
              refine xi_aloadN (q := 51) dX8_open_49 rfl rfl ?_
              refine xi_ifnonnull_n (q := 54) dX8_open_51 rfl ?_
              refine xi_aload_n (q := 55) dX8_open_54 rfl rfl ?_
              refine xi_iconst (x := 1) (q := 56) dX8_open_55 (by decide) rfl ?_
              refine xv_cV1 (q := 59) xm_X8_found ln_X8_82 dX8_open_56 ⟨by omega, hS.1.1⟩ rfl ⟨(Nat.le_of_ble_eq_true rfl), (Nat.le_of_ble_eq_true rfl)⟩ (Nat.le_of_ble_eq_true rfl) ⟨rfl, rfl⟩ rfl (Nat.zero_le _) (Nat.zero_le _) ?_
              refine ⟨_, _, rfl, hS, by omega, fun H2 S2 F2 => ?_⟩
              refine xi_ret ⟨_, rfl, rfl, dX8_open_59⟩ (Nat.zero_le _) (Nat.zero_le _) ?_
              exact xs_fin hp (by simp only [xs_open, xs_onE, xs_onP, xs_fn, xs_an, Bool.not_false, Bool.not_true, Bool.true_or, Bool.false_or, Bool.and_true, Bool.true_and, Bool.and_false, Bool.false_and, Bool.false_eq_true, if_true, if_false, ↓reduceIte, g_4, g_11, g_18, g_26, g_36, eq_true hE44, xs_kk0 (k := kp) (by omega)]) _ S2 (fun i hi => (F2 i (by omega)).trans (rfl))
          · have g_36 : xs_i w 0 1 = false := decide_eq_false (xn_b0 c_36)
            refine xi_ldc (q := 41) dX8_open_39 kc_X8_81 rfl ?_
            refine xi_ret ⟨_, rfl, rfl, dX8_open_41⟩ (Nat.zero_le _) (Nat.zero_le _) ?_
            exact xs_fin hp (by simp only [xs_open, xs_onE, xs_onP, xs_fn, xs_an, Bool.not_false, Bool.not_true, Bool.true_or, Bool.false_or, Bool.and_true, Bool.true_and, Bool.and_false, Bool.false_and, Bool.false_eq_true, if_true, if_false, ↓reduceIte, g_4, g_11, g_18, g_26, g_36, xs_kk0 (k := kp) (by omega)]) _ hS (fun i hi => rfl)

set_option maxRecDepth 20000 in
set_option maxHeartbeats 2000000 in
/-- event -/
theorem xm_X8_event : xv_K yX8_event mX8_event (fun as h n Post => ∃ (σ : xs_Sg) (p : Int32) (m : Int32) (d : Int32) (w : Int32), as = [.ref 0, .int p, .int m, .int d, .int w] ∧ (xs_S h σ) ∧ (83 ≤ n) ∧ (xs_V σ) ∧ xs_D h n Post (xs_event σ p m d w)) := by
  refine xv_entry (by decide +kernel) rfl (fun h => absurd h (by decide)) ?_
  rintro X _ h n Post ⟨σ, p, m, d, w, rfl, hS, h83, hV, hp⟩
  refine ⟨Nat.le_of_ble_eq_true rfl, ?_⟩
  show xv_V X mX8_event Post 0 0 0 [(0, .ref 0), (1, .int p), (2, .int m), (3, .int d), (4, .int w)] [] h n
  refine xi_iload_n (q := 1) dX8_event_0 rfl rfl ?_
  refine xv_cS1 (q := 4) xm_X8_isPlace ln_X8_125 dX8_event_1 ⟨(Nat.le_of_ble_eq_true rfl), (Nat.le_of_ble_eq_true rfl)⟩ (Nat.le_of_ble_eq_true rfl) ⟨rfl, rfl⟩ rfl (Nat.zero_le _) (Nat.zero_le _) ?_
  refine ⟨_, rfl, ?_⟩
  refine xi_if_eq (q := 7) (q2 := 31) dX8_event_4 (by decide) rfl (fun c_4 => ?_) (fun c_4 => ?_)
  · have g_4 : xs_i p 0 5 = false := decide_eq_false (xn_b0 c_4)
    refine xi_ldc (q := 33) dX8_event_31 kc_X8_81 rfl ?_
    refine xi_ret ⟨_, rfl, rfl, dX8_event_33⟩ (Nat.zero_le _) (Nat.zero_le _) ?_
    exact xs_fin hp (by simp only [xs_event, xs_onE, xs_onP, xs_fn, xs_an, Bool.not_false, Bool.not_true, Bool.true_or, Bool.false_or, Bool.and_true, Bool.true_and, Bool.and_false, Bool.false_and, Bool.false_eq_true, if_true, if_false, ↓reduceIte, g_4]) _ hS (fun i hi => rfl)
  · have g_4 : xs_i p 0 5 = true := decide_eq_true (xn_b1 c_4)
    obtain ⟨kp, hkp, rfl⟩ := xn_pk (m := 5) (by omega) (xn_b1 c_4)
    refine xi_iload_n (q := 8) dX8_event_7 rfl rfl ?_
    refine xv_cS1 (q := 11) xm_X8_isNotch ln_X8_166 dX8_event_8 ⟨(Nat.le_of_ble_eq_true rfl), (Nat.le_of_ble_eq_true rfl)⟩ (Nat.le_of_ble_eq_true rfl) ⟨rfl, rfl⟩ rfl (Nat.zero_le _) (Nat.zero_le _) ?_
    refine ⟨_, rfl, ?_⟩
    refine xi_if_eq (q := 14) (q2 := 31) dX8_event_11 (by decide) rfl (fun c_11 => ?_) (fun c_11 => ?_)
    · have g_11 : xs_i m (-6) 6 = false := decide_eq_false (xn_b0 c_11)
      refine xi_ldc (q := 33) dX8_event_31 kc_X8_81 rfl ?_
      refine xi_ret ⟨_, rfl, rfl, dX8_event_33⟩ (Nat.zero_le _) (Nat.zero_le _) ?_
      exact xs_fin hp (by simp only [xs_event, xs_onE, xs_onP, xs_fn, xs_an, Bool.not_false, Bool.not_true, Bool.true_or, Bool.false_or, Bool.and_true, Bool.true_and, Bool.and_false, Bool.false_and, Bool.false_eq_true, if_true, if_false, ↓reduceIte, g_4, g_11, xs_kk0 (k := kp) (by omega)]) _ hS (fun i hi => rfl)
    · have g_11 : xs_i m (-6) 6 = true := decide_eq_true (xn_b1 c_11)
      refine xi_iload_n (q := 15) dX8_event_14 rfl rfl ?_
      refine xv_cS1 (q := 18) xm_X8_isEnd ln_X8_172 dX8_event_15 ⟨(Nat.le_of_ble_eq_true rfl), (Nat.le_of_ble_eq_true rfl)⟩ (Nat.le_of_ble_eq_true rfl) ⟨rfl, rfl⟩ rfl (Nat.zero_le _) (Nat.zero_le _) ?_
      refine ⟨_, rfl, ?_⟩
      refine xi_if_eq (q := 21) (q2 := 31) dX8_event_18 (by decide) rfl (fun c_18 => ?_) (fun c_18 => ?_)
      · have g_18 : xs_i d 0 1 = false := decide_eq_false (xn_b0 c_18)
        refine xi_ldc (q := 33) dX8_event_31 kc_X8_81 rfl ?_
        refine xi_ret ⟨_, rfl, rfl, dX8_event_33⟩ (Nat.zero_le _) (Nat.zero_le _) ?_
        exact xs_fin hp (by simp only [xs_event, xs_onE, xs_onP, xs_fn, xs_an, Bool.not_false, Bool.not_true, Bool.true_or, Bool.false_or, Bool.and_true, Bool.true_and, Bool.and_false, Bool.false_and, Bool.false_eq_true, if_true, if_false, ↓reduceIte, g_4, g_11, g_18, xs_kk0 (k := kp) (by omega)]) _ hS (fun i hi => rfl)
      · have g_18 : xs_i d 0 1 = true := decide_eq_true (xn_b1 c_18)
        refine xi_iload (q := 23) dX8_event_21 rfl rfl ?_
        refine xi_iconst (x := 0) (q := 24) dX8_event_23 (by decide) rfl ?_
        refine xi_iconst (x := 3) (q := 25) dX8_event_24 (by decide) rfl ?_
        refine xv_cS3 (q := 28) xm_X8_within ln_X8_77 dX8_event_25 ⟨(Nat.le_of_ble_eq_true rfl), (Nat.le_of_ble_eq_true rfl)⟩ (Nat.le_of_ble_eq_true rfl) ⟨rfl, rfl⟩ rfl (Nat.zero_le _) (Nat.zero_le _) ?_
        refine ⟨_, _, _, rfl, ?_⟩
        refine xi_if_ne (q := 31) (q2 := 34) dX8_event_28 (by decide) rfl (fun c_28 => ?_) (fun c_28 => ?_)
        · have g_28 : xs_i w 0 3 = true := decide_eq_true (xn_b1 c_28)
          refine xi_aload_n (q := 35) dX8_event_34 rfl rfl ?_
          refine xi_iload_n (q := 36) dX8_event_35 rfl rfl ?_
          refine xv_cV1 (q := 39) xm_X8_engineAt ln_X8_142 dX8_event_36 ⟨by omega, hS.1.1⟩ rfl ⟨(Nat.le_of_ble_eq_true rfl), (Nat.le_of_ble_eq_true rfl)⟩ (Nat.le_of_ble_eq_true rfl) ⟨rfl, rfl⟩ rfl (Nat.zero_le _) (Nat.zero_le _) ?_
          refine ⟨_, kp, rfl, hS, by omega, by omega, fun hE36 => ?_, fun hE36 => ?_⟩
          · skip
            refine xi_astore (q := 41) dX8_event_39 (Nat.le_of_ble_eq_true rfl) rfl ?_
            refine xi_aload (q := 43) dX8_event_41 rfl rfl ?_
            refine xi_ifnonnull_r (q := 52) dX8_event_43 (by decide) ?_
            refine xi_aload_n (q := 53) dX8_event_52 rfl rfl ?_
            refine xi_aload_n (q := 54) dX8_event_53 rfl rfl ?_
            obtain ⟨ga_54, gg_54, gl_54, gw_54, hG_54⟩ := hS.2.2.2.2.2.2.2.1
            refine xi_getf (q := 57) dX8_event_54 fl_X8_40 ⟨by omega, hS.1.1⟩ rfl rfl ?_
            refine xi_aload (q := 59) dX8_event_57 rfl rfl ?_
            refine xi_iload_n (q := 60) dX8_event_59 rfl rfl ?_
            refine xi_iload_n (q := 61) dX8_event_60 rfl rfl ?_
            refine xi_iload (q := 63) dX8_event_61 rfl rfl ?_
            refine xv_cV4 (q := 66) xm_X3_firstEvent ln_X8_179 dX8_event_63 ⟨by omega, hG_54.1⟩ rfl ⟨(Nat.le_of_ble_eq_true rfl), (Nat.le_of_ble_eq_true rfl)⟩ (Nat.le_of_ble_eq_true rfl) ⟨rfl, rfl⟩ rfl (Nat.zero_le _) (Nat.zero_le _) ?_
            refine ⟨_, _, _, _, 59 + 2 * kp, _, _, _, _, _, _, rfl, by omega, (hS.2.2.1 kp (by omega)).1, (hS.2.2.1 kp (by omega)).2, hG_54, by omega, by omega, (hV.2.2.2.1 kp (by omega) hE36).1.2.2.1, xn_g01 g_18, xn_g03 g_28, fun h9 w9 q1 q2 => ?_⟩
            have S90 := xs_St3 hS ⟨_, _, _, _, q1⟩ q2
            refine xv_cV1 (q := 69) xm_X8_answered ln_X8_90 dX8_event_66 ⟨by omega, S90.1.1⟩ rfl ⟨(Nat.le_of_ble_eq_true rfl), (Nat.le_of_ble_eq_true rfl)⟩ (Nat.le_of_ble_eq_true rfl) ⟨rfl, rfl⟩ rfl (Nat.zero_le _) (Nat.zero_le _) ?_
            refine ⟨_, _, rfl, S90, by omega, fun H1 S1 F1 => ?_⟩
            refine xi_ret ⟨_, rfl, rfl, dX8_event_69⟩ (Nat.zero_le _) (Nat.zero_le _) ?_
            exact xs_fin hp (by simp only [xs_event, xs_onE, xs_onP, xs_fn, xs_an, Bool.not_false, Bool.not_true, Bool.true_or, Bool.false_or, Bool.and_true, Bool.true_and, Bool.and_false, Bool.false_and, Bool.false_eq_true, if_true, if_false, ↓reduceIte, g_4, g_11, g_18, g_28, hE36, xs_kk0 (k := kp) (by omega)]) _ S1 (fun i hi => (F1 i (by omega)).trans ((q2 i (by omega)).trans (rfl)))
          · skip
            refine xi_astoreN (q := 41) dX8_event_39 (Nat.le_of_ble_eq_true rfl) rfl ?_
            refine xi_aloadN (q := 43) dX8_event_41 rfl rfl ?_
            refine xi_ifnonnull_n (q := 46) dX8_event_43 rfl ?_
            refine xi_aload_n (q := 47) dX8_event_46 rfl rfl ?_
            refine xi_iconst (x := 1) (q := 48) dX8_event_47 (by decide) rfl ?_
            refine xv_cV1 (q := 51) xm_X8_found ln_X8_82 dX8_event_48 ⟨by omega, hS.1.1⟩ rfl ⟨(Nat.le_of_ble_eq_true rfl), (Nat.le_of_ble_eq_true rfl)⟩ (Nat.le_of_ble_eq_true rfl) ⟨rfl, rfl⟩ rfl (Nat.zero_le _) (Nat.zero_le _) ?_
            refine ⟨_, _, rfl, hS, by omega, fun H2 S2 F2 => ?_⟩
            refine xi_ret ⟨_, rfl, rfl, dX8_event_51⟩ (Nat.zero_le _) (Nat.zero_le _) ?_
            exact xs_fin hp (by simp only [xs_event, xs_onE, xs_onP, xs_fn, xs_an, Bool.not_false, Bool.not_true, Bool.true_or, Bool.false_or, Bool.and_true, Bool.true_and, Bool.and_false, Bool.false_and, Bool.false_eq_true, if_true, if_false, ↓reduceIte, g_4, g_11, g_18, g_28, eq_true hE36, xs_kk0 (k := kp) (by omega)]) _ S2 (fun i hi => (F2 i (by omega)).trans (rfl))
        · have g_28 : xs_i w 0 3 = false := decide_eq_false (xn_b0 c_28)
          refine xi_ldc (q := 33) dX8_event_31 kc_X8_81 rfl ?_
          refine xi_ret ⟨_, rfl, rfl, dX8_event_33⟩ (Nat.zero_le _) (Nat.zero_le _) ?_
          exact xs_fin hp (by simp only [xs_event, xs_onE, xs_onP, xs_fn, xs_an, Bool.not_false, Bool.not_true, Bool.true_or, Bool.false_or, Bool.and_true, Bool.true_and, Bool.and_false, Bool.false_and, Bool.false_eq_true, if_true, if_false, ↓reduceIte, g_4, g_11, g_18, g_28, xs_kk0 (k := kp) (by omega)]) _ hS (fun i hi => rfl)

set_option maxRecDepth 20000 in
set_option maxHeartbeats 2000000 in
/-- valves -/
theorem xm_X8_valves : xv_K yX8_valves mX8_valves (fun as h n Post => ∃ (σ : xs_Sg) (p : Int32) (w : Int32), as = [.ref 0, .int p, .int w] ∧ (xs_S h σ) ∧ (83 ≤ n) ∧ (xs_V σ) ∧ xs_D h n Post (xs_valves σ p w)) := by
  refine xv_entry (by decide +kernel) rfl (fun h => absurd h (by decide)) ?_
  rintro X _ h n Post ⟨σ, p, w, rfl, hS, h83, hV, hp⟩
  refine ⟨Nat.le_of_ble_eq_true rfl, ?_⟩
  show xv_V X mX8_valves Post 0 0 0 [(0, .ref 0), (1, .int p), (2, .int w)] [] h n
  refine xi_iload_n (q := 1) dX8_valves_0 rfl rfl ?_
  refine xv_cS1 (q := 4) xm_X8_isPlace ln_X8_125 dX8_valves_1 ⟨(Nat.le_of_ble_eq_true rfl), (Nat.le_of_ble_eq_true rfl)⟩ (Nat.le_of_ble_eq_true rfl) ⟨rfl, rfl⟩ rfl (Nat.zero_le _) (Nat.zero_le _) ?_
  refine ⟨_, rfl, ?_⟩
  refine xi_if_eq (q := 7) (q2 := 16) dX8_valves_4 (by decide) rfl (fun c_4 => ?_) (fun c_4 => ?_)
  · have g_4 : xs_i p 0 5 = false := decide_eq_false (xn_b0 c_4)
    refine xi_ldc (q := 18) dX8_valves_16 kc_X8_81 rfl ?_
    refine xi_ret ⟨_, rfl, rfl, dX8_valves_18⟩ (Nat.zero_le _) (Nat.zero_le _) ?_
    exact xs_fin hp (by simp only [xs_valves, xs_onE, xs_onP, xs_fn, xs_an, Bool.not_false, Bool.not_true, Bool.true_or, Bool.false_or, Bool.and_true, Bool.true_and, Bool.and_false, Bool.false_and, Bool.false_eq_true, if_true, if_false, ↓reduceIte, g_4]) _ hS (fun i hi => rfl)
  · have g_4 : xs_i p 0 5 = true := decide_eq_true (xn_b1 c_4)
    obtain ⟨kp, hkp, rfl⟩ := xn_pk (m := 5) (by omega) (xn_b1 c_4)
    refine xi_iload_n (q := 8) dX8_valves_7 rfl rfl ?_
    refine xi_iconst (x := 0) (q := 9) dX8_valves_8 (by decide) rfl ?_
    refine xi_iconst (x := 1) (q := 10) dX8_valves_9 (by decide) rfl ?_
    refine xv_cS3 (q := 13) xm_X8_within ln_X8_77 dX8_valves_10 ⟨(Nat.le_of_ble_eq_true rfl), (Nat.le_of_ble_eq_true rfl)⟩ (Nat.le_of_ble_eq_true rfl) ⟨rfl, rfl⟩ rfl (Nat.zero_le _) (Nat.zero_le _) ?_
    refine ⟨_, _, _, rfl, ?_⟩
    refine xi_if_ne (q := 16) (q2 := 19) dX8_valves_13 (by decide) rfl (fun c_13 => ?_) (fun c_13 => ?_)
    · have g_13 : xs_i w 0 1 = true := decide_eq_true (xn_b1 c_13)
      refine xi_aload_n (q := 20) dX8_valves_19 rfl rfl ?_
      refine xi_iload_n (q := 21) dX8_valves_20 rfl rfl ?_
      refine xv_cV1 (q := 24) xm_X8_engineAt ln_X8_142 dX8_valves_21 ⟨by omega, hS.1.1⟩ rfl ⟨(Nat.le_of_ble_eq_true rfl), (Nat.le_of_ble_eq_true rfl)⟩ (Nat.le_of_ble_eq_true rfl) ⟨rfl, rfl⟩ rfl (Nat.zero_le _) (Nat.zero_le _) ?_
      refine ⟨_, kp, rfl, hS, by omega, by omega, fun hE21 => ?_, fun hE21 => ?_⟩
      · skip
        refine xi_astore_n (q := 25) dX8_valves_24 (Nat.le_of_ble_eq_true rfl) rfl ?_
        refine xi_aload_n (q := 26) dX8_valves_25 rfl rfl ?_
        refine xi_ifnonnull_r (q := 35) dX8_valves_26 (by decide) ?_
        refine xi_aload_n (q := 36) dX8_valves_35 rfl rfl ?_
        refine xi_iload_n (q := 37) dX8_valves_36 rfl rfl ?_
        refine xi_if_ne (q := 40) (q2 := 51) dX8_valves_37 (by decide) rfl (fun c_37 => ?_) (fun c_37 => ?_)
        · skip
          refine xi_aload_n (q := 52) dX8_valves_51 rfl rfl ?_
          refine xv_cV0 (q := 55) xm_X0_lead ln_X8_187 dX8_valves_52 ⟨by omega, (hS.2.2.1 kp (by omega)).1⟩ rfl ⟨(Nat.le_of_ble_eq_true rfl), (Nat.le_of_ble_eq_true rfl)⟩ (Nat.le_of_ble_eq_true rfl) ⟨rfl, rfl⟩ rfl (Nat.zero_le _) (Nat.zero_le _) ?_
          refine ⟨59 + 2 * kp, _, _, _, rfl, by omega, (hS.2.2.1 kp (by omega)).1, (hS.2.2.1 kp (by omega)).2, ?_⟩
          refine xv_cV1 (q := 58) xm_X8_answered ln_X8_90 dX8_valves_55 ⟨by omega, hS.1.1⟩ rfl ⟨(Nat.le_of_ble_eq_true rfl), (Nat.le_of_ble_eq_true rfl)⟩ (Nat.le_of_ble_eq_true rfl) ⟨rfl, rfl⟩ rfl (Nat.zero_le _) (Nat.zero_le _) ?_
          refine ⟨_, _, rfl, hS, by omega, fun H1 S1 F1 => ?_⟩
          refine xi_ret ⟨_, rfl, rfl, dX8_valves_58⟩ (Nat.zero_le _) (Nat.zero_le _) ?_
          exact xs_fin hp (by simp only [xs_valves, xs_onE, xs_onP, xs_fn, xs_an, Bool.not_false, Bool.not_true, Bool.true_or, Bool.false_or, Bool.and_true, Bool.true_and, Bool.and_false, Bool.false_and, Bool.false_eq_true, if_true, if_false, ↓reduceIte, g_4, g_13, hE21, c_37, xs_kk0 (k := kp) (by omega)]) _ S1 (fun i hi => (F1 i (by omega)).trans (rfl))
        · skip
          refine xi_aload_n (q := 41) dX8_valves_40 rfl rfl ?_
          obtain ⟨ga_41, gg_41, gl_41, gw_41, hG_41⟩ := hS.2.2.2.2.2.2.2.1
          refine xi_getf (q := 44) dX8_valves_41 fl_X8_40 ⟨by omega, hS.1.1⟩ rfl rfl ?_
          refine xi_aload_n (q := 45) dX8_valves_44 rfl rfl ?_
          refine xv_cV1 (q := 48) xm_X3_unlike ln_X8_183 dX8_valves_45 ⟨by omega, hG_41.1⟩ rfl ⟨(Nat.le_of_ble_eq_true rfl), (Nat.le_of_ble_eq_true rfl)⟩ (Nat.le_of_ble_eq_true rfl) ⟨rfl, rfl⟩ rfl (Nat.zero_le _) (Nat.zero_le _) ?_
          refine ⟨_, _, _, _, 59 + 2 * kp, _, _, _, rfl, by omega, (hS.2.2.1 kp (by omega)).1, (hS.2.2.1 kp (by omega)).2, hG_41, by omega, by omega, (hV.2.2.2.1 kp (by omega) hE21).1.2.2.1, fun h9 w9 q1 q2 => ?_⟩
          have S90 := xs_St3 hS ⟨_, _, _, _, q1⟩ q2
          refine xi_goto (q := 55) dX8_valves_48 (by decide) ?_
          refine xv_cV1 (q := 58) xm_X8_answered ln_X8_90 dX8_valves_55 ⟨by omega, S90.1.1⟩ rfl ⟨(Nat.le_of_ble_eq_true rfl), (Nat.le_of_ble_eq_true rfl)⟩ (Nat.le_of_ble_eq_true rfl) ⟨rfl, rfl⟩ rfl (Nat.zero_le _) (Nat.zero_le _) ?_
          refine ⟨_, _, rfl, S90, by omega, fun H2 S2 F2 => ?_⟩
          refine xi_ret ⟨_, rfl, rfl, dX8_valves_58⟩ (Nat.zero_le _) (Nat.zero_le _) ?_
          exact xs_fin hp (by simp only [xs_valves, xs_onE, xs_onP, xs_fn, xs_an, Bool.not_false, Bool.not_true, Bool.true_or, Bool.false_or, Bool.and_true, Bool.true_and, Bool.and_false, Bool.false_and, Bool.false_eq_true, if_true, if_false, ↓reduceIte, g_4, g_13, hE21, eq_true c_37, xs_kk0 (k := kp) (by omega)]) _ S2 (fun i hi => (F2 i (by omega)).trans ((q2 i (by omega)).trans (rfl)))
      · skip
        refine xi_astore_nN (q := 25) dX8_valves_24 (Nat.le_of_ble_eq_true rfl) rfl ?_
        refine xi_aload_nN (q := 26) dX8_valves_25 rfl rfl ?_
        refine xi_ifnonnull_n (q := 29) dX8_valves_26 rfl ?_
        refine xi_aload_n (q := 30) dX8_valves_29 rfl rfl ?_
        refine xi_iconst (x := 1) (q := 31) dX8_valves_30 (by decide) rfl ?_
        refine xv_cV1 (q := 34) xm_X8_found ln_X8_82 dX8_valves_31 ⟨by omega, hS.1.1⟩ rfl ⟨(Nat.le_of_ble_eq_true rfl), (Nat.le_of_ble_eq_true rfl)⟩ (Nat.le_of_ble_eq_true rfl) ⟨rfl, rfl⟩ rfl (Nat.zero_le _) (Nat.zero_le _) ?_
        refine ⟨_, _, rfl, hS, by omega, fun H3 S3 F3 => ?_⟩
        refine xi_ret ⟨_, rfl, rfl, dX8_valves_34⟩ (Nat.zero_le _) (Nat.zero_le _) ?_
        exact xs_fin hp (by simp only [xs_valves, xs_onE, xs_onP, xs_fn, xs_an, Bool.not_false, Bool.not_true, Bool.true_or, Bool.false_or, Bool.and_true, Bool.true_and, Bool.and_false, Bool.false_and, Bool.false_eq_true, if_true, if_false, ↓reduceIte, g_4, g_13, eq_true hE21, xs_kk0 (k := kp) (by omega)]) _ S3 (fun i hi => (F3 i (by omega)).trans (rfl))
    · have g_13 : xs_i w 0 1 = false := decide_eq_false (xn_b0 c_13)
      refine xi_ldc (q := 18) dX8_valves_16 kc_X8_81 rfl ?_
      refine xi_ret ⟨_, rfl, rfl, dX8_valves_18⟩ (Nat.zero_le _) (Nat.zero_le _) ?_
      exact xs_fin hp (by simp only [xs_valves, xs_onE, xs_onP, xs_fn, xs_an, Bool.not_false, Bool.not_true, Bool.true_or, Bool.false_or, Bool.and_true, Bool.true_and, Bool.and_false, Bool.false_and, Bool.false_eq_true, if_true, if_false, ↓reduceIte, g_4, g_13, xs_kk0 (k := kp) (by omega)]) _ hS (fun i hi => rfl)

theorem xn_ixw {w a : Int32} {m : Nat} {q : Int} (h0 : a.toInt ≤ w.toInt) (h1 : w.toInt ≤ q) (hm : 0 ≤ a.toInt ∧ q < m) : xv_ix w m w.toNatClampNeg := by
  refine ⟨vp_in_iff.mpr ⟨by omega, by omega⟩, rfl⟩

set_option maxRecDepth 20000 in
set_option maxHeartbeats 2000000 in
/-- number -/
theorem xm_X8_number : xv_K yX8_number mX8_number (fun as h n Post => ∃ (σ : xs_Sg) (p : Int32) (w : Int32), as = [.ref 0, .int p, .int w] ∧ (xs_S h σ) ∧ (83 ≤ n) ∧ (xs_V σ) ∧ xs_D h n Post (xs_number σ p w)) := by
  refine xv_entry (by decide +kernel) rfl (fun h => absurd h (by decide)) ?_
  rintro X _ h n Post ⟨σ, p, w, rfl, hS, h83, hV, hp⟩
  refine ⟨Nat.le_of_ble_eq_true rfl, ?_⟩
  show xv_V X mX8_number Post 0 0 0 [(0, .ref 0), (1, .int p), (2, .int w)] [] h n
  refine xi_iload_n (q := 1) dX8_number_0 rfl rfl ?_
  refine xv_cS1 (q := 4) xm_X8_isPlace ln_X8_125 dX8_number_1 ⟨(Nat.le_of_ble_eq_true rfl), (Nat.le_of_ble_eq_true rfl)⟩ (Nat.le_of_ble_eq_true rfl) ⟨rfl, rfl⟩ rfl (Nat.zero_le _) (Nat.zero_le _) ?_
  refine ⟨_, rfl, ?_⟩
  refine xi_if_eq (q := 7) (q2 := 17) dX8_number_4 (by decide) rfl (fun c_4 => ?_) (fun c_4 => ?_)
  · have g_4 : xs_i p 0 5 = false := decide_eq_false (xn_b0 c_4)
    refine xi_ldc (q := 19) dX8_number_17 kc_X8_81 rfl ?_
    refine xi_ret ⟨_, rfl, rfl, dX8_number_19⟩ (Nat.zero_le _) (Nat.zero_le _) ?_
    exact xs_fin hp (by simp only [xs_number, xs_onE, xs_onP, xs_fn, xs_an, Bool.not_false, Bool.not_true, Bool.true_or, Bool.false_or, Bool.and_true, Bool.true_and, Bool.and_false, Bool.false_and, Bool.false_eq_true, if_true, if_false, ↓reduceIte, g_4]) _ hS (fun i hi => rfl)
  · have g_4 : xs_i p 0 5 = true := decide_eq_true (xn_b1 c_4)
    obtain ⟨kp, hkp, rfl⟩ := xn_pk (m := 5) (by omega) (xn_b1 c_4)
    refine xi_iload_n (q := 8) dX8_number_7 rfl rfl ?_
    refine xi_iconst (x := 0) (q := 9) dX8_number_8 (by decide) rfl ?_
    refine xi_bipush (x := 11) (q := 11) dX8_number_9 (by decide) rfl ?_
    refine xv_cS3 (q := 14) xm_X8_within ln_X8_77 dX8_number_11 ⟨(Nat.le_of_ble_eq_true rfl), (Nat.le_of_ble_eq_true rfl)⟩ (Nat.le_of_ble_eq_true rfl) ⟨rfl, rfl⟩ rfl (Nat.zero_le _) (Nat.zero_le _) ?_
    refine ⟨_, _, _, rfl, ?_⟩
    refine xi_if_ne (q := 17) (q2 := 20) dX8_number_14 (by decide) rfl (fun c_14 => ?_) (fun c_14 => ?_)
    · have g_14 : xs_i w 0 11 = true := decide_eq_true (xn_b1 c_14)
      refine xi_aload_n (q := 21) dX8_number_20 rfl rfl ?_
      refine xi_iload_n (q := 22) dX8_number_21 rfl rfl ?_
      refine xv_cV1 (q := 25) xm_X8_engineAt ln_X8_142 dX8_number_22 ⟨by omega, hS.1.1⟩ rfl ⟨(Nat.le_of_ble_eq_true rfl), (Nat.le_of_ble_eq_true rfl)⟩ (Nat.le_of_ble_eq_true rfl) ⟨rfl, rfl⟩ rfl (Nat.zero_le _) (Nat.zero_le _) ?_
      refine ⟨_, kp, rfl, hS, by omega, by omega, fun hE22 => ?_, fun hE22 => ?_⟩
      · skip
        refine xi_astore_n (q := 26) dX8_number_25 (Nat.le_of_ble_eq_true rfl) rfl ?_
        refine xi_aload_n (q := 27) dX8_number_26 rfl rfl ?_
        refine xi_ifnonnull_r (q := 36) dX8_number_27 (by decide) ?_
        refine xi_aload_n (q := 37) dX8_number_36 rfl rfl ?_
        refine xi_iload_n (q := 38) dX8_number_37 rfl rfl ?_
        refine xi_bipush (x := 11) (q := 40) dX8_number_38 (by decide) rfl ?_
        refine xi_icmp_ge (q := 43) (q2 := 52) dX8_number_40 (by decide) rfl (fun c_40 => ?_) (fun c_40 => ?_)
        · skip
          refine xi_aload_n (q := 53) dX8_number_52 rfl rfl ?_
          refine xi_getf (q := 56) dX8_number_53 fl_X8_152 ⟨by omega, (hS.2.2.1 kp (by omega)).1⟩ rfl rfl ?_
          refine xv_cV1 (q := 59) xm_X8_answered ln_X8_90 dX8_number_56 ⟨by omega, hS.1.1⟩ rfl ⟨(Nat.le_of_ble_eq_true rfl), (Nat.le_of_ble_eq_true rfl)⟩ (Nat.le_of_ble_eq_true rfl) ⟨rfl, rfl⟩ rfl (Nat.zero_le _) (Nat.zero_le _) ?_
          refine ⟨_, _, rfl, hS, by omega, fun H1 S1 F1 => ?_⟩
          refine xi_ret ⟨_, rfl, rfl, dX8_number_59⟩ (Nat.zero_le _) (Nat.zero_le _) ?_
          exact xs_fin hp (by simp only [xs_number, xs_onE, xs_onP, xs_fn, xs_an, Bool.not_false, Bool.not_true, Bool.true_or, Bool.false_or, Bool.and_true, Bool.true_and, Bool.and_false, Bool.false_and, Bool.false_eq_true, if_true, if_false, ↓reduceIte, g_4, g_14, hE22, eq_true c_40, xs_kk0 (k := kp) (by omega)]) _ S1 (fun i hi => (F1 i (by omega)).trans (rfl))
        · skip
          refine xi_aload_n (q := 44) dX8_number_43 rfl rfl ?_
          refine xi_getf (q := 47) dX8_number_44 fl_X8_146 ⟨by omega, (hS.2.2.1 kp (by omega)).1⟩ rfl rfl ?_
          refine xi_iload_n (q := 48) dX8_number_47 rfl rfl ?_
          refine xi_iald (q := 49) dX8_number_48 ⟨by omega, (hS.2.2.1 kp (by omega)).2⟩ (xn_ixw (a := 0) (q := 10) (by exact (xn_gI g_14).1) (by rw [xn_le] at c_40; rw [show (11 : Int32).toInt = 11 from rfl] at c_40; omega) (by decide)) rfl ?_
          refine xi_goto (q := 56) dX8_number_49 (by decide) ?_
          refine xv_cV1 (q := 59) xm_X8_answered ln_X8_90 dX8_number_56 ⟨by omega, hS.1.1⟩ rfl ⟨(Nat.le_of_ble_eq_true rfl), (Nat.le_of_ble_eq_true rfl)⟩ (Nat.le_of_ble_eq_true rfl) ⟨rfl, rfl⟩ rfl (Nat.zero_le _) (Nat.zero_le _) ?_
          refine ⟨_, _, rfl, hS, by omega, fun H2 S2 F2 => ?_⟩
          refine xi_ret ⟨_, rfl, rfl, dX8_number_59⟩ (Nat.zero_le _) (Nat.zero_le _) ?_
          exact xs_fin hp (by simp only [xs_number, xs_onE, xs_onP, xs_fn, xs_an, Bool.not_false, Bool.not_true, Bool.true_or, Bool.false_or, Bool.and_true, Bool.true_and, Bool.and_false, Bool.false_and, Bool.false_eq_true, if_true, if_false, ↓reduceIte, g_4, g_14, hE22, c_40, xs_kk0 (k := kp) (by omega)]) _ S2 (fun i hi => (F2 i (by omega)).trans (rfl))
      · skip
        refine xi_astore_nN (q := 26) dX8_number_25 (Nat.le_of_ble_eq_true rfl) rfl ?_
        refine xi_aload_nN (q := 27) dX8_number_26 rfl rfl ?_
        refine xi_ifnonnull_n (q := 30) dX8_number_27 rfl ?_
        refine xi_aload_n (q := 31) dX8_number_30 rfl rfl ?_
        refine xi_iconst (x := 1) (q := 32) dX8_number_31 (by decide) rfl ?_
        refine xv_cV1 (q := 35) xm_X8_found ln_X8_82 dX8_number_32 ⟨by omega, hS.1.1⟩ rfl ⟨(Nat.le_of_ble_eq_true rfl), (Nat.le_of_ble_eq_true rfl)⟩ (Nat.le_of_ble_eq_true rfl) ⟨rfl, rfl⟩ rfl (Nat.zero_le _) (Nat.zero_le _) ?_
        refine ⟨_, _, rfl, hS, by omega, fun H3 S3 F3 => ?_⟩
        refine xi_ret ⟨_, rfl, rfl, dX8_number_35⟩ (Nat.zero_le _) (Nat.zero_le _) ?_
        exact xs_fin hp (by simp only [xs_number, xs_onE, xs_onP, xs_fn, xs_an, Bool.not_false, Bool.not_true, Bool.true_or, Bool.false_or, Bool.and_true, Bool.true_and, Bool.and_false, Bool.false_and, Bool.false_eq_true, if_true, if_false, ↓reduceIte, g_4, g_14, eq_true hE22, xs_kk0 (k := kp) (by omega)]) _ S3 (fun i hi => (F3 i (by omega)).trans (rfl))
    · have g_14 : xs_i w 0 11 = false := decide_eq_false (xn_b0 c_14)
      refine xi_ldc (q := 19) dX8_number_17 kc_X8_81 rfl ?_
      refine xi_ret ⟨_, rfl, rfl, dX8_number_19⟩ (Nat.zero_le _) (Nat.zero_le _) ?_
      exact xs_fin hp (by simp only [xs_number, xs_onE, xs_onP, xs_fn, xs_an, Bool.not_false, Bool.not_true, Bool.true_or, Bool.false_or, Bool.and_true, Bool.true_and, Bool.and_false, Bool.false_and, Bool.false_eq_true, if_true, if_false, ↓reduceIte, g_4, g_14, xs_kk0 (k := kp) (by omega)]) _ hS (fun i hi => rfl)

set_option maxRecDepth 20000 in
set_option maxHeartbeats 2000000 in
/-- sicken -/
theorem xm_X8_sicken : xv_K yX8_sicken mX8_sicken (fun as h n Post => ∃ (σ : xs_Sg) (p : Int32) (s : Int32), as = [.ref 0, .int p, .int s] ∧ (xs_S h σ) ∧ (83 ≤ n) ∧ (xs_V σ) ∧ xs_D h n Post (xs_sicken σ p s)) := by
  refine xv_entry (by decide +kernel) rfl (fun h => absurd h (by decide)) ?_
  rintro X _ h n Post ⟨σ, p, s, rfl, hS, h83, hV, hp⟩
  refine ⟨Nat.le_of_ble_eq_true rfl, ?_⟩
  show xv_V X mX8_sicken Post 0 0 0 [(0, .ref 0), (1, .int p), (2, .int s)] [] h n
  refine xi_iload_n (q := 1) dX8_sicken_0 rfl rfl ?_
  refine xv_cS1 (q := 4) xm_X8_isPlace ln_X8_125 dX8_sicken_1 ⟨(Nat.le_of_ble_eq_true rfl), (Nat.le_of_ble_eq_true rfl)⟩ (Nat.le_of_ble_eq_true rfl) ⟨rfl, rfl⟩ rfl (Nat.zero_le _) (Nat.zero_le _) ?_
  refine ⟨_, rfl, ?_⟩
  refine xi_if_eq (q := 7) (q2 := 14) dX8_sicken_4 (by decide) rfl (fun c_4 => ?_) (fun c_4 => ?_)
  · have g_4 : xs_i p 0 5 = false := decide_eq_false (xn_b0 c_4)
    refine xi_ldc (q := 16) dX8_sicken_14 kc_X8_81 rfl ?_
    refine xi_ret ⟨_, rfl, rfl, dX8_sicken_16⟩ (Nat.zero_le _) (Nat.zero_le _) ?_
    exact xs_fin hp (by simp only [xs_sicken, xs_onE, xs_onP, xs_fn, xs_an, Bool.not_false, Bool.not_true, Bool.true_or, Bool.false_or, Bool.and_true, Bool.true_and, Bool.and_false, Bool.false_and, Bool.false_eq_true, if_true, if_false, ↓reduceIte, g_4]) _ hS (fun i hi => rfl)
  · have g_4 : xs_i p 0 5 = true := decide_eq_true (xn_b1 c_4)
    obtain ⟨kp, hkp, rfl⟩ := xn_pk (m := 5) (by omega) (xn_b1 c_4)
    refine xi_iload_n (q := 8) dX8_sicken_7 rfl rfl ?_
    refine xv_cS1 (q := 11) xm_X8_isSickness ln_X8_149 dX8_sicken_8 ⟨(Nat.le_of_ble_eq_true rfl), (Nat.le_of_ble_eq_true rfl)⟩ (Nat.le_of_ble_eq_true rfl) ⟨rfl, rfl⟩ rfl (Nat.zero_le _) (Nat.zero_le _) ?_
    refine ⟨_, rfl, ?_⟩
    refine xi_if_ne (q := 14) (q2 := 17) dX8_sicken_11 (by decide) rfl (fun c_11 => ?_) (fun c_11 => ?_)
    · have g_11 : xs_i s 0 12 = true := decide_eq_true (xn_b1 c_11)
      refine xi_aload_n (q := 18) dX8_sicken_17 rfl rfl ?_
      refine xi_iload_n (q := 19) dX8_sicken_18 rfl rfl ?_
      refine xv_cV1 (q := 22) xm_X8_engineAt ln_X8_142 dX8_sicken_19 ⟨by omega, hS.1.1⟩ rfl ⟨(Nat.le_of_ble_eq_true rfl), (Nat.le_of_ble_eq_true rfl)⟩ (Nat.le_of_ble_eq_true rfl) ⟨rfl, rfl⟩ rfl (Nat.zero_le _) (Nat.zero_le _) ?_
      refine ⟨_, kp, rfl, hS, by omega, by omega, fun hE19 => ?_, fun hE19 => ?_⟩
      · skip
        refine xi_astore_n (q := 23) dX8_sicken_22 (Nat.le_of_ble_eq_true rfl) rfl ?_
        refine xi_aload_n (q := 24) dX8_sicken_23 rfl rfl ?_
        refine xi_ifnonnull_r (q := 33) dX8_sicken_24 (by decide) ?_
        refine xi_aload_n (q := 34) dX8_sicken_33 rfl rfl ?_
        refine xi_getf (q := 37) dX8_sicken_34 fl_X8_152 ⟨by omega, (hS.2.2.1 kp (by omega)).1⟩ rfl rfl ?_
        refine xi_istore (q := 39) dX8_sicken_37 (Nat.le_of_ble_eq_true rfl) rfl ?_
        refine xi_aload_n (q := 40) dX8_sicken_39 rfl rfl ?_
        refine xi_iload_n (q := 41) dX8_sicken_40 rfl rfl ?_
        refine xi_putf (q := 44) dX8_sicken_41 fl_X8_152 ⟨by omega, (hS.2.2.1 kp (by omega)).1⟩ (Or.inl rfl) (fun _ => rfl) (fun _ => rfl) (Nat.le_of_ble_eq_true rfl) rfl ?_
        refine xi_aload_n (q := 45) dX8_sicken_44 rfl rfl ?_
        refine xi_iload (q := 47) dX8_sicken_45 rfl rfl ?_
        refine xv_cV1 (q := 50) xm_X8_answered ln_X8_90 dX8_sicken_47 (xv_keep (by omega) ⟨by omega, hS.1.1⟩) rfl ⟨(Nat.le_of_ble_eq_true rfl), (Nat.le_of_ble_eq_true rfl)⟩ (Nat.le_of_ble_eq_true rfl) ⟨rfl, rfl⟩ rfl (Nat.zero_le _) (Nat.zero_le _) ?_
        have S91 := xs_Sen (j := kp) (by omega) (s := s) (t := σ 6 kp 0) (nf := σ 4 kp) hS (va_up_self _ _ _) ((va_up_ne _ _ (by omega)).trans (hS.2.2.1 kp (by omega)).2) (fun i i1 i2 => va_up_ne _ _ i1)
        refine ⟨_, _, rfl, S91, by omega, fun H1 S1 F1 => ?_⟩
        refine xi_ret ⟨_, rfl, rfl, dX8_sicken_50⟩ (Nat.zero_le _) (Nat.zero_le _) ?_
        exact xs_fin hp (by simp only [xs_sicken, xs_onE, xs_onP, xs_fn, xs_an, Bool.not_false, Bool.not_true, Bool.true_or, Bool.false_or, Bool.and_true, Bool.true_and, Bool.and_false, Bool.false_and, Bool.false_eq_true, if_true, if_false, ↓reduceIte, g_4, g_11, hE19, xs_kk0 (k := kp) (by omega)]) _ S1 (fun i hi => (F1 i (by omega)).trans ((va_up_ne _ _ (by omega)).trans rfl))
      · skip
        refine xi_astore_nN (q := 23) dX8_sicken_22 (Nat.le_of_ble_eq_true rfl) rfl ?_
        refine xi_aload_nN (q := 24) dX8_sicken_23 rfl rfl ?_
        refine xi_ifnonnull_n (q := 27) dX8_sicken_24 rfl ?_
        refine xi_aload_n (q := 28) dX8_sicken_27 rfl rfl ?_
        refine xi_iconst (x := 1) (q := 29) dX8_sicken_28 (by decide) rfl ?_
        refine xv_cV1 (q := 32) xm_X8_found ln_X8_82 dX8_sicken_29 ⟨by omega, hS.1.1⟩ rfl ⟨(Nat.le_of_ble_eq_true rfl), (Nat.le_of_ble_eq_true rfl)⟩ (Nat.le_of_ble_eq_true rfl) ⟨rfl, rfl⟩ rfl (Nat.zero_le _) (Nat.zero_le _) ?_
        refine ⟨_, _, rfl, hS, by omega, fun H1 S1 F1 => ?_⟩
        refine xi_ret ⟨_, rfl, rfl, dX8_sicken_32⟩ (Nat.zero_le _) (Nat.zero_le _) ?_
        exact xs_fin hp (by simp only [xs_sicken, xs_onE, xs_onP, xs_fn, xs_an, Bool.not_false, Bool.not_true, Bool.true_or, Bool.false_or, Bool.and_true, Bool.true_and, Bool.and_false, Bool.false_and, Bool.false_eq_true, if_true, if_false, ↓reduceIte, g_4, g_11, eq_true hE19, xs_kk0 (k := kp) (by omega)]) _ S1 (fun i hi => (F1 i (by omega)).trans (rfl))
    · have g_11 : xs_i s 0 12 = false := decide_eq_false (xn_b0 c_11)
      refine xi_ldc (q := 16) dX8_sicken_14 kc_X8_81 rfl ?_
      refine xi_ret ⟨_, rfl, rfl, dX8_sicken_16⟩ (Nat.zero_le _) (Nat.zero_le _) ?_
      exact xs_fin hp (by simp only [xs_sicken, xs_onE, xs_onP, xs_fn, xs_an, Bool.not_false, Bool.not_true, Bool.true_or, Bool.false_or, Bool.and_true, Bool.true_and, Bool.and_false, Bool.false_and, Bool.false_eq_true, if_true, if_false, ↓reduceIte, g_4, g_11, xs_kk0 (k := kp) (by omega)]) _ hS (fun i hi => rfl)

theorem xn_nbI {w v : Int32} (g : xs_isNb w v = true) : (0 : Int32).toInt ≤ w.toInt ∧ w.toInt ≤ 10 := by
  unfold xs_isNb at g
  simp only [Bool.and_eq_true, decide_eq_true_eq] at g
  have h := g.1
  rw [xn_le, xn_le] at h
  exact h

set_option maxRecDepth 20000 in
set_option maxHeartbeats 2000000 in
/-- adjust -/
theorem xm_X8_adjust : xv_K yX8_adjust mX8_adjust (fun as h n Post => ∃ (σ : xs_Sg) (p : Int32) (w : Int32) (v : Int32), as = [.ref 0, .int p, .int w, .int v] ∧ (xs_S h σ) ∧ (83 ≤ n) ∧ (xs_V σ) ∧ xs_D h n Post (xs_adjust σ p w v)) := by
  refine xv_entry (by decide +kernel) rfl (fun h => absurd h (by decide)) ?_
  rintro X _ h n Post ⟨σ, p, w, v, rfl, hS, h83, hV, hp⟩
  refine ⟨Nat.le_of_ble_eq_true rfl, ?_⟩
  show xv_V X mX8_adjust Post 0 0 0 [(0, .ref 0), (1, .int p), (2, .int w), (3, .int v)] [] h n
  refine xi_iload_n (q := 1) dX8_adjust_0 rfl rfl ?_
  refine xv_cS1 (q := 4) xm_X8_isPlace ln_X8_125 dX8_adjust_1 ⟨(Nat.le_of_ble_eq_true rfl), (Nat.le_of_ble_eq_true rfl)⟩ (Nat.le_of_ble_eq_true rfl) ⟨rfl, rfl⟩ rfl (Nat.zero_le _) (Nat.zero_le _) ?_
  refine ⟨_, rfl, ?_⟩
  refine xi_if_eq (q := 7) (q2 := 15) dX8_adjust_4 (by decide) rfl (fun c_4 => ?_) (fun c_4 => ?_)
  · have g_4 : xs_i p 0 5 = false := decide_eq_false (xn_b0 c_4)
    refine xi_ldc (q := 17) dX8_adjust_15 kc_X8_81 rfl ?_
    refine xi_ret ⟨_, rfl, rfl, dX8_adjust_17⟩ (Nat.zero_le _) (Nat.zero_le _) ?_
    exact xs_fin hp (by simp only [xs_adjust, xs_onE, xs_onP, xs_fn, xs_an, Bool.not_false, Bool.not_true, Bool.true_or, Bool.false_or, Bool.and_true, Bool.true_and, Bool.and_false, Bool.false_and, Bool.false_eq_true, if_true, if_false, ↓reduceIte, g_4]) _ hS (fun i hi => rfl)
  · have g_4 : xs_i p 0 5 = true := decide_eq_true (xn_b1 c_4)
    obtain ⟨kp, hkp, rfl⟩ := xn_pk (m := 5) (by omega) (xn_b1 c_4)
    refine xi_iload_n (q := 8) dX8_adjust_7 rfl rfl ?_
    refine xi_iload_n (q := 9) dX8_adjust_8 rfl rfl ?_
    refine xv_cS2 (q := 12) xm_X8_isNumber ln_X8_132 dX8_adjust_9 ⟨(Nat.le_of_ble_eq_true rfl), (Nat.le_of_ble_eq_true rfl)⟩ (Nat.le_of_ble_eq_true rfl) ⟨rfl, rfl⟩ rfl (Nat.zero_le _) (Nat.zero_le _) ?_
    refine ⟨_, _, rfl, ?_⟩
    refine xi_if_ne (q := 15) (q2 := 18) dX8_adjust_12 (by decide) rfl (fun c_12 => ?_) (fun c_12 => ?_)
    · have g_12 : xs_isNb w v = true := xn_b1 c_12
      refine xi_aload_n (q := 19) dX8_adjust_18 rfl rfl ?_
      refine xi_iload_n (q := 20) dX8_adjust_19 rfl rfl ?_
      refine xv_cV1 (q := 23) xm_X8_engineAt ln_X8_142 dX8_adjust_20 ⟨by omega, hS.1.1⟩ rfl ⟨(Nat.le_of_ble_eq_true rfl), (Nat.le_of_ble_eq_true rfl)⟩ (Nat.le_of_ble_eq_true rfl) ⟨rfl, rfl⟩ rfl (Nat.zero_le _) (Nat.zero_le _) ?_
      refine ⟨_, kp, rfl, hS, by omega, by omega, fun hE20 => ?_, fun hE20 => ?_⟩
      · skip
        refine xi_astore (q := 25) dX8_adjust_23 (Nat.le_of_ble_eq_true rfl) rfl ?_
        refine xi_aload (q := 27) dX8_adjust_25 rfl rfl ?_
        refine xi_ifnonnull_r (q := 36) dX8_adjust_27 (by decide) ?_
        refine xi_aload (q := 38) dX8_adjust_36 rfl rfl ?_
        refine xi_getf (q := 41) dX8_adjust_38 fl_X8_146 ⟨by omega, (hS.2.2.1 kp (by omega)).1⟩ rfl rfl ?_
        refine xi_iload_n (q := 42) dX8_adjust_41 rfl rfl ?_
        refine xi_iald (q := 43) dX8_adjust_42 ⟨by omega, (hS.2.2.1 kp (by omega)).2⟩ (xn_ixw (a := 0) (q := 10) (by exact (xn_nbI g_12).1) (xn_nbI g_12).2 (by decide)) rfl ?_
        refine xi_istore (q := 45) dX8_adjust_43 (Nat.le_of_ble_eq_true rfl) rfl ?_
        refine xi_aload (q := 47) dX8_adjust_45 rfl rfl ?_
        refine xi_getf (q := 50) dX8_adjust_47 fl_X8_146 ⟨by omega, (hS.2.2.1 kp (by omega)).1⟩ rfl rfl ?_
        refine xi_iload_n (q := 51) dX8_adjust_50 rfl rfl ?_
        refine xi_iload_n (q := 52) dX8_adjust_51 rfl rfl ?_
        refine xi_iast (q := 53) dX8_adjust_52 ⟨by omega, (hS.2.2.1 kp (by omega)).2⟩ (xn_ixw (a := 0) (q := 10) (by exact (xn_nbI g_12).1) (xn_nbI g_12).2 (by decide)) rfl ?_
        refine xi_aload_n (q := 54) dX8_adjust_53 rfl rfl ?_
        refine xi_iload (q := 56) dX8_adjust_54 rfl rfl ?_
        refine xv_cV1 (q := 59) xm_X8_answered ln_X8_90 dX8_adjust_56 (xv_keep (by omega) ⟨by omega, hS.1.1⟩) rfl ⟨(Nat.le_of_ble_eq_true rfl), (Nat.le_of_ble_eq_true rfl)⟩ (Nat.le_of_ble_eq_true rfl) ⟨rfl, rfl⟩ rfl (Nat.zero_le _) (Nat.zero_le _) ?_
        have S91 := xs_Sen (j := kp) (by omega) (s := σ 5 kp 0) (t := σ 6 kp 0) (nf := upd (σ 4 kp) w.toNatClampNeg v) hS ((va_up_ne _ _ (by omega)).trans (hS.2.2.1 kp (by omega)).1) (va_up_self _ _ _) (fun i i1 i2 => va_up_ne _ _ i2)
        refine ⟨_, _, rfl, S91, by omega, fun H1 S1 F1 => ?_⟩
        refine xi_ret ⟨_, rfl, rfl, dX8_adjust_59⟩ (Nat.zero_le _) (Nat.zero_le _) ?_
        exact xs_fin hp (by simp only [xs_adjust, xs_onE, xs_onP, xs_fn, xs_an, Bool.not_false, Bool.not_true, Bool.true_or, Bool.false_or, Bool.and_true, Bool.true_and, Bool.and_false, Bool.false_and, Bool.false_eq_true, if_true, if_false, ↓reduceIte, g_4, g_12, hE20, xs_kk0 (k := kp) (by omega)]) _ S1 (fun i hi => (F1 i (by omega)).trans ((va_up_ne _ _ (by omega)).trans rfl))
      · skip
        refine xi_astoreN (q := 25) dX8_adjust_23 (Nat.le_of_ble_eq_true rfl) rfl ?_
        refine xi_aloadN (q := 27) dX8_adjust_25 rfl rfl ?_
        refine xi_ifnonnull_n (q := 30) dX8_adjust_27 rfl ?_
        refine xi_aload_n (q := 31) dX8_adjust_30 rfl rfl ?_
        refine xi_iconst (x := 1) (q := 32) dX8_adjust_31 (by decide) rfl ?_
        refine xv_cV1 (q := 35) xm_X8_found ln_X8_82 dX8_adjust_32 ⟨by omega, hS.1.1⟩ rfl ⟨(Nat.le_of_ble_eq_true rfl), (Nat.le_of_ble_eq_true rfl)⟩ (Nat.le_of_ble_eq_true rfl) ⟨rfl, rfl⟩ rfl (Nat.zero_le _) (Nat.zero_le _) ?_
        refine ⟨_, _, rfl, hS, by omega, fun H1 S1 F1 => ?_⟩
        refine xi_ret ⟨_, rfl, rfl, dX8_adjust_35⟩ (Nat.zero_le _) (Nat.zero_le _) ?_
        exact xs_fin hp (by simp only [xs_adjust, xs_onE, xs_onP, xs_fn, xs_an, Bool.not_false, Bool.not_true, Bool.true_or, Bool.false_or, Bool.and_true, Bool.true_and, Bool.and_false, Bool.false_and, Bool.false_eq_true, if_true, if_false, ↓reduceIte, g_4, g_12, eq_true hE20, xs_kk0 (k := kp) (by omega)]) _ S1 (fun i hi => (F1 i (by omega)).trans (rfl))
    · have g_12 : xs_isNb w v = false := Bool.eq_false_iff.mpr (xn_b0 c_12)
      refine xi_ldc (q := 17) dX8_adjust_15 kc_X8_81 rfl ?_
      refine xi_ret ⟨_, rfl, rfl, dX8_adjust_17⟩ (Nat.zero_le _) (Nat.zero_le _) ?_
      exact xs_fin hp (by simp only [xs_adjust, xs_onE, xs_onP, xs_fn, xs_an, Bool.not_false, Bool.not_true, Bool.true_or, Bool.false_or, Bool.and_true, Bool.true_and, Bool.and_false, Bool.false_and, Bool.false_eq_true, if_true, if_false, ↓reduceIte, g_4, g_12, xs_kk0 (k := kp) (by omega)]) _ hS (fun i hi => rfl)

