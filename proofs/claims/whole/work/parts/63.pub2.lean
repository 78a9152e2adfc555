theorem xn_hasC {i k sz : Int32} (g : xs_has i k sz = true) (hz : sz.toInt ≤ 60) : ¬ i < 0 ∧ ¬ k < 0 ∧ i.toNatClampNeg + k.toNatClampNeg ≤ 60 ∧ i = nI i.toNatClampNeg := by
  unfold xs_has at g
  simp only [Bool.and_eq_true, decide_eq_true_eq] at g
  obtain ⟨g1, g2, g3, g4⟩ := g
  rw [xn_le, show (0 : Int32).toInt = 0 from rfl] at g1 g2
  rw [xn_le] at g3 g4
  rw [xn_sub (by omega) (by omega)] at g4
  refine ⟨fun z => by rw [xn_lt, show (0 : Int32).toInt = 0 from rfl] at z; omega, fun z => by rw [xn_lt, show (0 : Int32).toInt = 0 from rfl] at z; omega, ?_, xn_ofI g1⟩
  show i.toInt.toNat + k.toInt.toNat ≤ 60
  omega
theorem xn_hasA {i sz : Int32} {m : Nat} (hm : m < 2147483648) (g : xs_has i (nI m) sz = true) (hz : sz.toInt ≤ 60) : ∃ a, a + m ≤ 60 ∧ i = nI a := by
  have h := xn_hasC g hz
  rw [nI_clamp hm] at h
  exact ⟨_, h.2.2.1, h.2.2.2⟩

def xs_sheet (σ : xs_Sg) (s l z : Int32) : Int32 × xs_Sg := if (xs_i s 0 7 && (xs_i l 0 2 && decide (z ≤ 60))) = true then (if 0 ≤ z then (z, xs_fd (xs_sh σ s.toNatClampNeg 1 l z fun _ => 0) 0) else xs_fn σ 4) else (-1000001, σ)
set_option maxRecDepth 20000 in
set_option maxHeartbeats 2000000 in
/-- sheet -/
theorem xm_X8_sheet : xv_K yX8_sheet mX8_sheet (fun as h n Post => ∃ (σ : xs_Sg) (s : Int32) (l : Int32) (z : Int32), as = [.ref 0, .int s, .int l, .int z] ∧ (xs_S h σ) ∧ (83 ≤ n) ∧ (xs_V σ) ∧ xs_D h n Post (xs_sheet σ s l z)) := by
  refine xv_entry (by decide +kernel) rfl (fun h => absurd h (by decide)) ?_
  rintro X _ h n Post ⟨σ, s, l, z, rfl, hS, h83, hV, hp⟩
  refine ⟨Nat.le_of_ble_eq_true rfl, ?_⟩
  show xv_V X mX8_sheet Post 0 0 0 [(0, .ref 0), (1, .int s), (2, .int l), (3, .int z)] [] h n
  refine xi_iload_n (q := 1) dX8_sheet_0 rfl rfl ?_
  refine xi_iconst (x := 0) (q := 2) dX8_sheet_1 (by decide) rfl ?_
  refine xi_bipush (x := 7) (q := 4) dX8_sheet_2 (by decide) rfl ?_
  refine xv_cS3 (q := 7) xm_X8_within ln_X8_77 dX8_sheet_4 ⟨(Nat.le_of_ble_eq_true rfl), (Nat.le_of_ble_eq_true rfl)⟩ (Nat.le_of_ble_eq_true rfl) ⟨rfl, rfl⟩ rfl (Nat.zero_le _) (Nat.zero_le _) ?_
  refine ⟨_, _, _, rfl, ?_⟩
  refine xi_if_eq (q := 10) (q2 := 25) dX8_sheet_7 (by decide) rfl (fun c_7 => ?_) (fun c_7 => ?_)
  · have g_7 : xs_i s 0 7 = false := decide_eq_false (xn_b0 c_7)
    refine xi_ldc (q := 27) dX8_sheet_25 kc_X8_81 rfl ?_
    refine xi_ret ⟨_, rfl, rfl, dX8_sheet_27⟩ (Nat.zero_le _) (Nat.zero_le _) ?_
    exact xs_fin hp (by simp only [xs_sheet, xs_onE, xs_onP, xs_fn, xs_an, Bool.not_false, Bool.not_true, Bool.true_or, Bool.false_or, Bool.and_true, Bool.true_and, Bool.and_false, Bool.false_and, Bool.false_eq_true, if_true, if_false, ↓reduceIte, g_7]) _ hS (fun i hi => rfl)
  · have g_7 : xs_i s 0 7 = true := decide_eq_true (xn_b1 c_7)
    obtain ⟨ks, hks, rfl⟩ := xn_pk (m := 7) (by omega) (xn_b1 c_7)
    refine xi_iload_n (q := 11) dX8_sheet_10 rfl rfl ?_
    refine xi_iconst (x := 0) (q := 12) dX8_sheet_11 (by decide) rfl ?_
    refine xi_iconst (x := 2) (q := 13) dX8_sheet_12 (by decide) rfl ?_
    refine xv_cS3 (q := 16) xm_X8_within ln_X8_77 dX8_sheet_13 ⟨(Nat.le_of_ble_eq_true rfl), (Nat.le_of_ble_eq_true rfl)⟩ (Nat.le_of_ble_eq_true rfl) ⟨rfl, rfl⟩ rfl (Nat.zero_le _) (Nat.zero_le _) ?_
    refine ⟨_, _, _, rfl, ?_⟩
    refine xi_if_eq (q := 19) (q2 := 25) dX8_sheet_16 (by decide) rfl (fun c_16 => ?_) (fun c_16 => ?_)
    · have g_16 : xs_i l 0 2 = false := decide_eq_false (xn_b0 c_16)
      refine xi_ldc (q := 27) dX8_sheet_25 kc_X8_81 rfl ?_
      refine xi_ret ⟨_, rfl, rfl, dX8_sheet_27⟩ (Nat.zero_le _) (Nat.zero_le _) ?_
      exact xs_fin hp (by simp only [xs_sheet, xs_onE, xs_onP, xs_fn, xs_an, Bool.not_false, Bool.not_true, Bool.true_or, Bool.false_or, Bool.and_true, Bool.true_and, Bool.and_false, Bool.false_and, Bool.false_eq_true, if_true, if_false, ↓reduceIte, g_7, g_16, xs_kk0 (k := ks) (by omega)]) _ hS (fun i hi => rfl)
    · have g_16 : xs_i l 0 2 = true := decide_eq_true (xn_b1 c_16)
      refine xi_iload_n (q := 20) dX8_sheet_19 rfl rfl ?_
      refine xi_bipush (x := 60) (q := 22) dX8_sheet_20 (by decide) rfl ?_
      refine xi_icmp_le (q := 25) (q2 := 28) dX8_sheet_22 (by decide) rfl (fun c_22 => ?_) (fun c_22 => ?_)
      · skip
        refine xi_iload_n (q := 29) dX8_sheet_28 rfl rfl ?_
        refine xi_if_ge (q := 32) (q2 := 38) dX8_sheet_29 (by decide) rfl (fun c_29 => ?_) (fun c_29 => ?_)
        · skip
          refine xi_aload_n (q := 39) dX8_sheet_38 rfl rfl ?_
          refine xi_getf (q := 42) dX8_sheet_39 fl_X8_11 ⟨by omega, hS.1.1⟩ rfl rfl ?_
          refine xi_iload_n (q := 43) dX8_sheet_42 rfl rfl ?_
          refine xi_aald (q := 44) dX8_sheet_43 ⟨by omega, hS.1.2.1⟩ rfl (xv_ixN (by omega) (by omega)) (xs_ai (by omega)) rfl ?_
          refine xi_iload_n (q := 45) dX8_sheet_44 rfl rfl ?_
          refine xi_iload_n (q := 46) dX8_sheet_45 rfl rfl ?_
          refine xv_cV2 (q := 49) xm_X7_begin ln_X8_86 dX8_sheet_46 ⟨by omega, (hS.2.1 ks (by omega)).1⟩ rfl ⟨(Nat.le_of_ble_eq_true rfl), (Nat.le_of_ble_eq_true rfl)⟩ (Nat.le_of_ble_eq_true rfl) ⟨rfl, rfl⟩ rfl (Nat.zero_le _) (Nat.zero_le _) ?_
          refine ⟨43 + 2 * ks, _, _, _, _, l, z, rfl, by omega, (hS.2.1 ks (by omega)).1, (hS.2.1 ks (by omega)).2, fun h9 q1 q2 q3 => ?_⟩
          have S90 := xs_Ssh (j := ks) (by omega) hS q1 q2 q3
          refine xi_aload_n (q := 50) dX8_sheet_49 rfl rfl ?_
          refine xi_iload_n (q := 51) dX8_sheet_50 rfl rfl ?_
          refine xv_cV1 (q := 54) xm_X8_answered ln_X8_90 dX8_sheet_51 ⟨by omega, S90.1.1⟩ rfl ⟨(Nat.le_of_ble_eq_true rfl), (Nat.le_of_ble_eq_true rfl)⟩ (Nat.le_of_ble_eq_true rfl) ⟨rfl, rfl⟩ rfl (Nat.zero_le _) (Nat.zero_le _) ?_
          refine ⟨_, _, rfl, S90, by omega, fun H1 S1 F1 => ?_⟩
          refine xi_ret ⟨_, rfl, rfl, dX8_sheet_54⟩ (Nat.zero_le _) (Nat.zero_le _) ?_
          exact xs_fin hp (by simp only [xs_sheet, xs_onE, xs_onP, xs_fn, xs_an, Bool.not_false, Bool.not_true, Bool.true_or, Bool.false_or, Bool.and_true, Bool.true_and, Bool.and_false, Bool.false_and, Bool.false_eq_true, if_true, if_false, ↓reduceIte, g_7, g_16, decide_eq_true c_22, eq_true c_29, xs_kk0 (k := ks) (by omega)]) _ S1 (fun i hi => (F1 i (by omega)).trans ((q3 i (by omega) (by omega)).trans ((rfl))))
        · skip
          refine xi_aload_n (q := 33) dX8_sheet_32 rfl rfl ?_
          refine xi_iconst (x := 4) (q := 34) dX8_sheet_33 (by decide) rfl ?_
          refine xv_cV1 (q := 37) xm_X8_found ln_X8_82 dX8_sheet_34 ⟨by omega, hS.1.1⟩ rfl ⟨(Nat.le_of_ble_eq_true rfl), (Nat.le_of_ble_eq_true rfl)⟩ (Nat.le_of_ble_eq_true rfl) ⟨rfl, rfl⟩ rfl (Nat.zero_le _) (Nat.zero_le _) ?_
          refine ⟨_, _, rfl, hS, by omega, fun H2 S2 F2 => ?_⟩
          refine xi_ret ⟨_, rfl, rfl, dX8_sheet_37⟩ (Nat.zero_le _) (Nat.zero_le _) ?_
          exact xs_fin hp (by simp only [xs_sheet, xs_onE, xs_onP, xs_fn, xs_an, Bool.not_false, Bool.not_true, Bool.true_or, Bool.false_or, Bool.and_true, Bool.true_and, Bool.and_false, Bool.false_and, Bool.false_eq_true, if_true, if_false, ↓reduceIte, g_7, g_16, decide_eq_true c_22, eq_false c_29, xs_kk0 (k := ks) (by omega)]) _ S2 (fun i hi => (F2 i (by omega)).trans (rfl))
      · skip
        refine xi_ldc (q := 27) dX8_sheet_25 kc_X8_81 rfl ?_
        refine xi_ret ⟨_, rfl, rfl, dX8_sheet_27⟩ (Nat.zero_le _) (Nat.zero_le _) ?_
        exact xs_fin hp (by simp only [xs_sheet, xs_onE, xs_onP, xs_fn, xs_an, Bool.not_false, Bool.not_true, Bool.true_or, Bool.false_or, Bool.and_true, Bool.true_and, Bool.and_false, Bool.false_and, Bool.false_eq_true, if_true, if_false, ↓reduceIte, g_7, g_16, decide_eq_false c_22, xs_kk0 (k := ks) (by omega)]) _ hS (fun i hi => rfl)

def xs_set1 (σ : xs_Sg) (s i v : Int32) : Int32 × xs_Sg := xs_onP σ s true fun j => if xs_has i 1 (σ 2 j 0) = true then (xs_nar (σ 1 j 0) v, xs_fd (xs_sh σ j (σ 0 j 0) (σ 1 j 0) (σ 2 j 0) (upd (σ 3 j) i.toNatClampNeg (xs_nar (σ 1 j 0) v))) 0) else xs_fn σ 2
set_option maxRecDepth 20000 in
set_option maxHeartbeats 2000000 in
/-- set -/
theorem xm_X8_set : xv_K yX8_set mX8_set (fun as h n Post => ∃ (σ : xs_Sg) (s : Int32) (i : Int32) (v : Int32), as = [.ref 0, .int s, .int i, .int v] ∧ (xs_S h σ) ∧ (83 ≤ n) ∧ (xs_V σ) ∧ xs_D h n Post (xs_set1 σ s i v)) := by
  refine xv_entry (by decide +kernel) rfl (fun h => absurd h (by decide)) ?_
  rintro X _ h n Post ⟨σ, s, i, v, rfl, hS, h83, hV, hp⟩
  refine ⟨Nat.le_of_ble_eq_true rfl, ?_⟩
  show xv_V X mX8_set Post 0 0 0 [(0, .ref 0), (1, .int s), (2, .int i), (3, .int v)] [] h n
  refine xi_iload_n (q := 1) dX8_set_0 rfl rfl ?_
  refine xi_iconst (x := 0) (q := 2) dX8_set_1 (by decide) rfl ?_
  refine xi_bipush (x := 7) (q := 4) dX8_set_2 (by decide) rfl ?_
  refine xv_cS3 (q := 7) xm_X8_within ln_X8_77 dX8_set_4 ⟨(Nat.le_of_ble_eq_true rfl), (Nat.le_of_ble_eq_true rfl)⟩ (Nat.le_of_ble_eq_true rfl) ⟨rfl, rfl⟩ rfl (Nat.zero_le _) (Nat.zero_le _) ?_
  refine ⟨_, _, _, rfl, ?_⟩
  refine xi_if_ne (q := 10) (q2 := 13) dX8_set_7 (by decide) rfl (fun c_7 => ?_) (fun c_7 => ?_)
  · have g_7 : xs_i s 0 7 = true := decide_eq_true (xn_b1 c_7)
    obtain ⟨ks, hks, rfl⟩ := xn_pk (m := 7) (by omega) (xn_b1 c_7)
    refine xi_aload_n (q := 14) dX8_set_13 rfl rfl ?_
    refine xi_iload_n (q := 15) dX8_set_14 rfl rfl ?_
    refine xv_cV1 (q := 18) xm_X8_sheetAt ln_X8_93 dX8_set_15 ⟨by omega, hS.1.1⟩ rfl ⟨(Nat.le_of_ble_eq_true rfl), (Nat.le_of_ble_eq_true rfl)⟩ (Nat.le_of_ble_eq_true rfl) ⟨rfl, rfl⟩ rfl (Nat.zero_le _) (Nat.zero_le _) ?_
    refine ⟨_, ks, rfl, hS, by omega, by omega, fun hE15 => ?_, fun hE15 => ?_⟩
    · skip
      refine xi_astore (q := 20) dX8_set_18 (Nat.le_of_ble_eq_true rfl) rfl ?_
      refine xi_aload (q := 22) dX8_set_20 rfl rfl ?_
      refine xi_ifnonnull_r (q := 31) dX8_set_22 (by decide) ?_
      refine xi_aload (q := 33) dX8_set_31 rfl rfl ?_
      refine xi_iload_n (q := 34) dX8_set_33 rfl rfl ?_
      refine xi_iconst (x := 1) (q := 35) dX8_set_34 (by decide) rfl ?_
      refine xv_cV2 (q := 38) xm_X7_has ln_X8_97 dX8_set_35 ⟨by omega, (hS.2.1 ks (by omega)).1⟩ rfl ⟨(Nat.le_of_ble_eq_true rfl), (Nat.le_of_ble_eq_true rfl)⟩ (Nat.le_of_ble_eq_true rfl) ⟨rfl, rfl⟩ rfl (Nat.zero_le _) (Nat.zero_le _) ?_
      refine ⟨43 + 2 * ks, _, _, _, _, i, 1, rfl, by omega, (hS.2.1 ks (by omega)).1, (hS.2.1 ks (by omega)).2, ?_⟩
      refine xi_if_ne (q := 41) (q2 := 47) dX8_set_38 (by decide) rfl (fun c_38 => ?_) (fun c_38 => ?_)
      · skip
        refine xi_aload_n (q := 48) dX8_set_47 rfl rfl ?_
        refine xi_aload (q := 50) dX8_set_48 rfl rfl ?_
        refine xi_iload_n (q := 51) dX8_set_50 rfl rfl ?_
        refine xi_iload_n (q := 52) dX8_set_51 rfl rfl ?_
        refine xv_cV2 (q := 55) xm_X7_write ln_X8_101 dX8_set_52 ⟨by omega, (hS.2.1 ks (by omega)).1⟩ rfl ⟨(Nat.le_of_ble_eq_true rfl), (Nat.le_of_ble_eq_true rfl)⟩ (Nat.le_of_ble_eq_true rfl) ⟨rfl, rfl⟩ rfl (Nat.zero_le _) (Nat.zero_le _) ?_
        have hA := xn_hasC (xn_b1 c_38) (hV.2.1 ks (by omega) hE15).1.2
        refine ⟨43 + 2 * ks, _, _, _, _, i, v, i.toNatClampNeg, rfl, by omega, (hS.2.1 ks (by omega)).1, (hS.2.1 ks (by omega)).2, ⟨vp_in_iff.mpr ⟨by have := hA.1; rw [xn_lt, show (0 : Int32).toInt = 0 from rfl] at this; omega, by have z : i.toInt.toNat + 1 ≤ 60 := hA.2.2.1; omega⟩, rfl⟩, fun h9 q1 q2 => ?_⟩
        have S90 := xs_Ssh (j := ks) (by omega) hS ((q2 _ (by omega)).trans (hS.2.1 ks (by omega)).1) q1 (fun i i1 i2 => q2 i i2)
        refine xv_cV1 (q := 58) xm_X8_answered ln_X8_90 dX8_set_55 ⟨by omega, S90.1.1⟩ rfl ⟨(Nat.le_of_ble_eq_true rfl), (Nat.le_of_ble_eq_true rfl)⟩ (Nat.le_of_ble_eq_true rfl) ⟨rfl, rfl⟩ rfl (Nat.zero_le _) (Nat.zero_le _) ?_
        refine ⟨_, _, rfl, S90, by omega, fun H1 S1 F1 => ?_⟩
        refine xi_ret ⟨_, rfl, rfl, dX8_set_58⟩ (Nat.zero_le _) (Nat.zero_le _) ?_
        exact xs_fin hp (by simp only [xs_set1, xs_onE, xs_onP, xs_fn, xs_an, Bool.not_false, Bool.not_true, Bool.true_or, Bool.false_or, Bool.and_true, Bool.true_and, Bool.and_false, Bool.false_and, Bool.false_eq_true, if_true, if_false, ↓reduceIte, g_7, hE15, (xn_b1 c_38), xs_kk0 (k := ks) (by omega)]) _ S1 (fun i hi => (F1 i (by omega)).trans ((q2 i (by omega)).trans ((rfl))))
      · skip
        refine xi_aload_n (q := 42) dX8_set_41 rfl rfl ?_
        refine xi_iconst (x := 2) (q := 43) dX8_set_42 (by decide) rfl ?_
        refine xv_cV1 (q := 46) xm_X8_found ln_X8_82 dX8_set_43 ⟨by omega, hS.1.1⟩ rfl ⟨(Nat.le_of_ble_eq_true rfl), (Nat.le_of_ble_eq_true rfl)⟩ (Nat.le_of_ble_eq_true rfl) ⟨rfl, rfl⟩ rfl (Nat.zero_le _) (Nat.zero_le _) ?_
        refine ⟨_, _, rfl, hS, by omega, fun H2 S2 F2 => ?_⟩
        refine xi_ret ⟨_, rfl, rfl, dX8_set_46⟩ (Nat.zero_le _) (Nat.zero_le _) ?_
        exact xs_fin hp (by simp only [xs_set1, xs_onE, xs_onP, xs_fn, xs_an, Bool.not_false, Bool.not_true, Bool.true_or, Bool.false_or, Bool.and_true, Bool.true_and, Bool.and_false, Bool.false_and, Bool.false_eq_true, if_true, if_false, ↓reduceIte, g_7, hE15, (Bool.eq_false_iff.mpr (xn_b0 c_38)), xs_kk0 (k := ks) (by omega)]) _ S2 (fun i hi => (F2 i (by omega)).trans (rfl))
    · skip
      refine xi_astoreN (q := 20) dX8_set_18 (Nat.le_of_ble_eq_true rfl) rfl ?_
      refine xi_aloadN (q := 22) dX8_set_20 rfl rfl ?_
      refine xi_ifnonnull_n (q := 25) dX8_set_22 rfl ?_
      refine xi_aload_n (q := 26) dX8_set_25 rfl rfl ?_
      refine xi_iconst (x := 1) (q := 27) dX8_set_26 (by decide) rfl ?_
      refine xv_cV1 (q := 30) xm_X8_found ln_X8_82 dX8_set_27 ⟨by omega, hS.1.1⟩ rfl ⟨(Nat.le_of_ble_eq_true rfl), (Nat.le_of_ble_eq_true rfl)⟩ (Nat.le_of_ble_eq_true rfl) ⟨rfl, rfl⟩ rfl (Nat.zero_le _) (Nat.zero_le _) ?_
      refine ⟨_, _, rfl, hS, by omega, fun H3 S3 F3 => ?_⟩
      refine xi_ret ⟨_, rfl, rfl, dX8_set_30⟩ (Nat.zero_le _) (Nat.zero_le _) ?_
      exact xs_fin hp (by simp only [xs_set1, xs_onE, xs_onP, xs_fn, xs_an, Bool.not_false, Bool.not_true, Bool.true_or, Bool.false_or, Bool.and_true, Bool.true_and, Bool.and_false, Bool.false_and, Bool.false_eq_true, if_true, if_false, ↓reduceIte, g_7, eq_true hE15, xs_kk0 (k := ks) (by omega)]) _ S3 (fun i hi => (F3 i (by omega)).trans (rfl))
  · have g_7 : xs_i s 0 7 = false := decide_eq_false (xn_b0 c_7)
    refine xi_ldc (q := 12) dX8_set_10 kc_X8_81 rfl ?_
    refine xi_ret ⟨_, rfl, rfl, dX8_set_12⟩ (Nat.zero_le _) (Nat.zero_le _) ?_
    exact xs_fin hp (by simp only [xs_set1, xs_onE, xs_onP, xs_fn, xs_an, Bool.not_false, Bool.not_true, Bool.true_or, Bool.false_or, Bool.and_true, Bool.true_and, Bool.and_false, Bool.false_and, Bool.false_eq_true, if_true, if_false, ↓reduceIte, g_7]) _ hS (fun i hi => rfl)

def xs_drop (σ : xs_Sg) (s : Int32) : Int32 × xs_Sg := xs_onP σ s true fun j => (σ 2 j 0, xs_fd (xs_sh σ j 0 (σ 1 j 0) (σ 2 j 0) (σ 3 j)) 0)
set_option maxRecDepth 20000 in
set_option maxHeartbeats 2000000 in
/-- drop -/
theorem xm_X8_drop : xv_K yX8_drop mX8_drop (fun as h n Post => ∃ (σ : xs_Sg) (s : Int32), as = [.ref 0, .int s] ∧ (xs_S h σ) ∧ (83 ≤ n) ∧ (xs_V σ) ∧ xs_D h n Post (xs_drop σ s)) := by
  refine xv_entry (by decide +kernel) rfl (fun h => absurd h (by decide)) ?_
  rintro X _ h n Post ⟨σ, s, rfl, hS, h83, hV, hp⟩
  refine ⟨Nat.le_of_ble_eq_true rfl, ?_⟩
  show xv_V X mX8_drop Post 0 0 0 [(0, .ref 0), (1, .int s)] [] h n
  refine xi_iload_n (q := 1) dX8_drop_0 rfl rfl ?_
  refine xi_iconst (x := 0) (q := 2) dX8_drop_1 (by decide) rfl ?_
  refine xi_bipush (x := 7) (q := 4) dX8_drop_2 (by decide) rfl ?_
  refine xv_cS3 (q := 7) xm_X8_within ln_X8_77 dX8_drop_4 ⟨(Nat.le_of_ble_eq_true rfl), (Nat.le_of_ble_eq_true rfl)⟩ (Nat.le_of_ble_eq_true rfl) ⟨rfl, rfl⟩ rfl (Nat.zero_le _) (Nat.zero_le _) ?_
  refine ⟨_, _, _, rfl, ?_⟩
  refine xi_if_ne (q := 10) (q2 := 13) dX8_drop_7 (by decide) rfl (fun c_7 => ?_) (fun c_7 => ?_)
  · have g_7 : xs_i s 0 7 = true := decide_eq_true (xn_b1 c_7)
    obtain ⟨ks, hks, rfl⟩ := xn_pk (m := 7) (by omega) (xn_b1 c_7)
    refine xi_aload_n (q := 14) dX8_drop_13 rfl rfl ?_
    refine xi_iload_n (q := 15) dX8_drop_14 rfl rfl ?_
    refine xv_cV1 (q := 18) xm_X8_sheetAt ln_X8_93 dX8_drop_15 ⟨by omega, hS.1.1⟩ rfl ⟨(Nat.le_of_ble_eq_true rfl), (Nat.le_of_ble_eq_true rfl)⟩ (Nat.le_of_ble_eq_true rfl) ⟨rfl, rfl⟩ rfl (Nat.zero_le _) (Nat.zero_le _) ?_
    refine ⟨_, ks, rfl, hS, by omega, by omega, fun hE15 => ?_, fun hE15 => ?_⟩
    · skip
      refine xi_astore_n (q := 19) dX8_drop_18 (Nat.le_of_ble_eq_true rfl) rfl ?_
      refine xi_aload_n (q := 20) dX8_drop_19 rfl rfl ?_
      refine xi_ifnonnull_r (q := 29) dX8_drop_20 (by decide) ?_
      refine xi_aload_n (q := 30) dX8_drop_29 rfl rfl ?_
      refine xi_iconst (x := 0) (q := 31) dX8_drop_30 (by decide) rfl ?_
      refine xi_putf (q := 34) dX8_drop_31 fl_X8_118 ⟨by omega, (hS.2.1 ks (by omega)).1⟩ (Or.inl rfl) (fun _ => rfl) (fun _ => rfl) (Nat.le_of_ble_eq_true rfl) rfl ?_
      refine xi_aload_n (q := 35) dX8_drop_34 rfl rfl ?_
      refine xi_aload_n (q := 36) dX8_drop_35 rfl rfl ?_
      refine xi_getf (q := 39) dX8_drop_36 fl_X8_122 (xv_self (by omega)) rfl rfl ?_
      refine xv_cV1 (q := 42) xm_X8_answered ln_X8_90 dX8_drop_39 (xv_keep (by omega) ⟨by omega, hS.1.1⟩) rfl ⟨(Nat.le_of_ble_eq_true rfl), (Nat.le_of_ble_eq_true rfl)⟩ (Nat.le_of_ble_eq_true rfl) ⟨rfl, rfl⟩ rfl (Nat.zero_le _) (Nat.zero_le _) ?_
      refine ⟨_, _, rfl, xs_Ssh (j := ks) (by omega) (t := 0) (l := σ 1 ks 0) (z := σ 2 ks 0) (it := σ 3 ks) hS (va_up_self _ _ _) ((va_up_ne _ _ (by omega)).trans (hS.2.1 ks (by omega)).2) (fun i i1 i2 => va_up_ne _ _ i1), by omega, fun H1 S1 F1 => ?_⟩
      refine xi_ret ⟨_, rfl, rfl, dX8_drop_42⟩ (Nat.zero_le _) (Nat.zero_le _) ?_
      exact xs_fin hp (by simp only [xs_drop, xs_onE, xs_onP, xs_fn, xs_an, Bool.not_false, Bool.not_true, Bool.true_or, Bool.false_or, Bool.and_true, Bool.true_and, Bool.and_false, Bool.false_and, Bool.false_eq_true, if_true, if_false, ↓reduceIte, g_7, hE15, xs_kk0 (k := ks) (by omega)]) _ S1 (fun i hi => (F1 i (by omega)).trans ((va_up_ne _ _ (by omega)).trans (rfl)))
    · skip
      refine xi_astore_nN (q := 19) dX8_drop_18 (Nat.le_of_ble_eq_true rfl) rfl ?_
      refine xi_aload_nN (q := 20) dX8_drop_19 rfl rfl ?_
      refine xi_ifnonnull_n (q := 23) dX8_drop_20 rfl ?_
      refine xi_aload_n (q := 24) dX8_drop_23 rfl rfl ?_
      refine xi_iconst (x := 1) (q := 25) dX8_drop_24 (by decide) rfl ?_
      refine xv_cV1 (q := 28) xm_X8_found ln_X8_82 dX8_drop_25 ⟨by omega, hS.1.1⟩ rfl ⟨(Nat.le_of_ble_eq_true rfl), (Nat.le_of_ble_eq_true rfl)⟩ (Nat.le_of_ble_eq_true rfl) ⟨rfl, rfl⟩ rfl (Nat.zero_le _) (Nat.zero_le _) ?_
      refine ⟨_, _, rfl, hS, by omega, fun H1 S1 F1 => ?_⟩
      refine xi_ret ⟨_, rfl, rfl, dX8_drop_28⟩ (Nat.zero_le _) (Nat.zero_le _) ?_
      exact xs_fin hp (by simp only [xs_drop, xs_onE, xs_onP, xs_fn, xs_an, Bool.not_false, Bool.not_true, Bool.true_or, Bool.false_or, Bool.and_true, Bool.true_and, Bool.and_false, Bool.false_and, Bool.false_eq_true, if_true, if_false, ↓reduceIte, g_7, eq_true hE15, xs_kk0 (k := ks) (by omega)]) _ S1 (fun i hi => (F1 i (by omega)).trans (rfl))
  · have g_7 : xs_i s 0 7 = false := decide_eq_false (xn_b0 c_7)
    refine xi_ldc (q := 12) dX8_drop_10 kc_X8_81 rfl ?_
    refine xi_ret ⟨_, rfl, rfl, dX8_drop_12⟩ (Nat.zero_le _) (Nat.zero_le _) ?_
    exact xs_fin hp (by simp only [xs_drop, xs_onE, xs_onP, xs_fn, xs_an, Bool.not_false, Bool.not_true, Bool.true_or, Bool.false_or, Bool.and_true, Bool.true_and, Bool.and_false, Bool.false_and, Bool.false_eq_true, if_true, if_false, ↓reduceIte, g_7]) _ hS (fun i hi => rfl)

def xs_copy (σ : xs_Sg) (a i b j k : Int32) : Int32 × xs_Sg := if (xs_i a 0 7 && xs_i b 0 7) = true then (if σ 0 a.toNatClampNeg 0 = 0 then xs_fn σ 1 else if σ 0 b.toNatClampNeg 0 = 0 then xs_fn σ 1 else if σ 1 a.toNatClampNeg 0 = σ 1 b.toNatClampNeg 0 then (if (xs_has i k (σ 2 a.toNatClampNeg 0) && xs_has j k (σ 2 b.toNatClampNeg 0)) = true then (k, xs_fd (xs_sh σ b.toNatClampNeg (σ 0 b.toNatClampNeg 0) (σ 1 b.toNatClampNeg 0) (σ 2 b.toNatClampNeg 0) (va_cpy (σ 3 a.toNatClampNeg) (σ 3 b.toNatClampNeg) i.toNatClampNeg j.toNatClampNeg k.toNatClampNeg)) 0) else xs_fn σ 2) else xs_fn σ 5) else (-1000001, σ)
set_option maxRecDepth 20000 in
set_option maxHeartbeats 2000000 in
/-- copy -/
theorem xm_X8_copy : xv_K yX8_copy mX8_copy (fun as h n Post => ∃ (σ : xs_Sg) (a : Int32) (i : Int32) (b : Int32) (j : Int32) (k : Int32), as = [.ref 0, .int a, .int i, .int b, .int j, .int k] ∧ (xs_S h σ) ∧ (83 ≤ n) ∧ (xs_V σ) ∧ xs_D h n Post (xs_copy σ a i b j k)) := by
  refine xv_entry (by decide +kernel) rfl (fun h => absurd h (by decide)) ?_
  rintro X _ h n Post ⟨σ, a, i, b, j, k, rfl, hS, h83, hV, hp⟩
  refine ⟨Nat.le_of_ble_eq_true rfl, ?_⟩
  show xv_V X mX8_copy Post 0 0 0 [(0, .ref 0), (1, .int a), (2, .int i), (3, .int b), (4, .int j), (5, .int k)] [] h n
  refine xi_iload_n (q := 1) dX8_copy_0 rfl rfl ?_
  refine xi_iconst (x := 0) (q := 2) dX8_copy_1 (by decide) rfl ?_
  refine xi_bipush (x := 7) (q := 4) dX8_copy_2 (by decide) rfl ?_
  refine xv_cS3 (q := 7) xm_X8_within ln_X8_77 dX8_copy_4 ⟨(Nat.le_of_ble_eq_true rfl), (Nat.le_of_ble_eq_true rfl)⟩ (Nat.le_of_ble_eq_true rfl) ⟨rfl, rfl⟩ rfl (Nat.zero_le _) (Nat.zero_le _) ?_
  refine ⟨_, _, _, rfl, ?_⟩
  refine xi_if_eq (q := 10) (q2 := 20) dX8_copy_7 (by decide) rfl (fun c_7 => ?_) (fun c_7 => ?_)
  · have g_7 : xs_i a 0 7 = false := decide_eq_false (xn_b0 c_7)
    refine xi_ldc (q := 22) dX8_copy_20 kc_X8_81 rfl ?_
    refine xi_ret ⟨_, rfl, rfl, dX8_copy_22⟩ (Nat.zero_le _) (Nat.zero_le _) ?_
    exact xs_fin hp (by simp only [xs_copy, xs_onE, xs_onP, xs_fn, xs_an, Bool.not_false, Bool.not_true, Bool.true_or, Bool.false_or, Bool.and_true, Bool.true_and, Bool.and_false, Bool.false_and, Bool.false_eq_true, if_true, if_false, ↓reduceIte, g_7]) _ hS (fun i hi => rfl)
  · have g_7 : xs_i a 0 7 = true := decide_eq_true (xn_b1 c_7)
    obtain ⟨ka, hka, rfl⟩ := xn_pk (m := 7) (by omega) (xn_b1 c_7)
    refine xi_iload_n (q := 11) dX8_copy_10 rfl rfl ?_
    refine xi_iconst (x := 0) (q := 12) dX8_copy_11 (by decide) rfl ?_
    refine xi_bipush (x := 7) (q := 14) dX8_copy_12 (by decide) rfl ?_
    refine xv_cS3 (q := 17) xm_X8_within ln_X8_77 dX8_copy_14 ⟨(Nat.le_of_ble_eq_true rfl), (Nat.le_of_ble_eq_true rfl)⟩ (Nat.le_of_ble_eq_true rfl) ⟨rfl, rfl⟩ rfl (Nat.zero_le _) (Nat.zero_le _) ?_
    refine ⟨_, _, _, rfl, ?_⟩
    refine xi_if_ne (q := 20) (q2 := 23) dX8_copy_17 (by decide) rfl (fun c_17 => ?_) (fun c_17 => ?_)
    · have g_17 : xs_i b 0 7 = true := decide_eq_true (xn_b1 c_17)
      obtain ⟨kb, hkb, rfl⟩ := xn_pk (m := 7) (by omega) (xn_b1 c_17)
      refine xi_aload_n (q := 24) dX8_copy_23 rfl rfl ?_
      refine xi_iload_n (q := 25) dX8_copy_24 rfl rfl ?_
      refine xv_cV1 (q := 28) xm_X8_sheetAt ln_X8_93 dX8_copy_25 ⟨by omega, hS.1.1⟩ rfl ⟨(Nat.le_of_ble_eq_true rfl), (Nat.le_of_ble_eq_true rfl)⟩ (Nat.le_of_ble_eq_true rfl) ⟨rfl, rfl⟩ rfl (Nat.zero_le _) (Nat.zero_le _) ?_
      refine ⟨_, ka, rfl, hS, by omega, by omega, fun hE25 => ?_, fun hE25 => ?_⟩
      · skip
        refine xi_astore (q := 30) dX8_copy_28 (Nat.le_of_ble_eq_true rfl) rfl ?_
        refine xi_aload_n (q := 31) dX8_copy_30 rfl rfl ?_
        refine xi_iload_n (q := 32) dX8_copy_31 rfl rfl ?_
        refine xv_cV1 (q := 35) xm_X8_sheetAt ln_X8_93 dX8_copy_32 ⟨by omega, hS.1.1⟩ rfl ⟨(Nat.le_of_ble_eq_true rfl), (Nat.le_of_ble_eq_true rfl)⟩ (Nat.le_of_ble_eq_true rfl) ⟨rfl, rfl⟩ rfl (Nat.zero_le _) (Nat.zero_le _) ?_
        refine ⟨_, kb, rfl, hS, by omega, by omega, fun hE32 => ?_, fun hE32 => ?_⟩
        · skip
          refine xi_astore (q := 37) dX8_copy_35 (Nat.le_of_ble_eq_true rfl) rfl ?_
          refine xi_aload (q := 39) dX8_copy_37 rfl rfl ?_
          refine xi_ifnull_r (q := 42) dX8_copy_39 rfl ?_
          refine xi_aload (q := 44) dX8_copy_42 rfl rfl ?_
          refine xi_ifnonnull_r (q := 53) dX8_copy_44 (by decide) ?_
          refine xi_aload (q := 55) dX8_copy_53 rfl rfl ?_
          refine xi_getf (q := 58) dX8_copy_55 fl_X8_105 ⟨by omega, (hS.2.1 ka (by omega)).1⟩ rfl rfl ?_
          refine xi_aload (q := 60) dX8_copy_58 rfl rfl ?_
          refine xi_getf (q := 63) dX8_copy_60 fl_X8_105 ⟨by omega, (hS.2.1 kb (by omega)).1⟩ rfl rfl ?_
          refine xi_icmp_eq (q := 66) (q2 := 72) dX8_copy_63 (by decide) rfl (fun c_63 => ?_) (fun c_63 => ?_)
          · skip
            refine xi_aload (q := 74) dX8_copy_72 rfl rfl ?_
            refine xi_iload_n (q := 75) dX8_copy_74 rfl rfl ?_
            refine xi_iload (q := 77) dX8_copy_75 rfl rfl ?_
            refine xv_cV2 (q := 80) xm_X7_has ln_X8_97 dX8_copy_77 ⟨by omega, (hS.2.1 ka (by omega)).1⟩ rfl ⟨(Nat.le_of_ble_eq_true rfl), (Nat.le_of_ble_eq_true rfl)⟩ (Nat.le_of_ble_eq_true rfl) ⟨rfl, rfl⟩ rfl (Nat.zero_le _) (Nat.zero_le _) ?_
            refine ⟨43 + 2 * ka, _, _, _, _, i, k, rfl, by omega, (hS.2.1 ka (by omega)).1, (hS.2.1 ka (by omega)).2, ?_⟩
            refine xi_if_eq (q := 83) (q2 := 95) dX8_copy_80 (by decide) rfl (fun c_80 => ?_) (fun c_80 => ?_)
            · skip
              refine xi_aload_n (q := 96) dX8_copy_95 rfl rfl ?_
              refine xi_iconst (x := 2) (q := 97) dX8_copy_96 (by decide) rfl ?_
              refine xv_cV1 (q := 100) xm_X8_found ln_X8_82 dX8_copy_97 ⟨by omega, hS.1.1⟩ rfl ⟨(Nat.le_of_ble_eq_true rfl), (Nat.le_of_ble_eq_true rfl)⟩ (Nat.le_of_ble_eq_true rfl) ⟨rfl, rfl⟩ rfl (Nat.zero_le _) (Nat.zero_le _) ?_
              refine ⟨_, _, rfl, hS, by omega, fun H1 S1 F1 => ?_⟩
              refine xi_ret ⟨_, rfl, rfl, dX8_copy_100⟩ (Nat.zero_le _) (Nat.zero_le _) ?_
              exact xs_fin hp (by simp only [xs_copy, xs_onE, xs_onP, xs_fn, xs_an, Bool.not_false, Bool.not_true, Bool.true_or, Bool.false_or, Bool.and_true, Bool.true_and, Bool.and_false, Bool.false_and, Bool.false_eq_true, if_true, if_false, ↓reduceIte, g_7, g_17, hE25, hE32, eq_true c_63, (Bool.eq_false_iff.mpr (xn_b0 c_80)), xs_kk0 (k := ka) (by omega), xs_kk0 (k := kb) (by omega)]) _ S1 (fun i hi => (F1 i (by omega)).trans (rfl))
            · skip
              refine xi_aload (q := 85) dX8_copy_83 rfl rfl ?_
              refine xi_iload (q := 87) dX8_copy_85 rfl rfl ?_
              refine xi_iload (q := 89) dX8_copy_87 rfl rfl ?_
              refine xv_cV2 (q := 92) xm_X7_has ln_X8_97 dX8_copy_89 ⟨by omega, (hS.2.1 kb (by omega)).1⟩ rfl ⟨(Nat.le_of_ble_eq_true rfl), (Nat.le_of_ble_eq_true rfl)⟩ (Nat.le_of_ble_eq_true rfl) ⟨rfl, rfl⟩ rfl (Nat.zero_le _) (Nat.zero_le _) ?_
              refine ⟨43 + 2 * kb, _, _, _, _, j, k, rfl, by omega, (hS.2.1 kb (by omega)).1, (hS.2.1 kb (by omega)).2, ?_⟩
              refine xi_if_ne (q := 95) (q2 := 101) dX8_copy_92 (by decide) rfl (fun c_92 => ?_) (fun c_92 => ?_)
              · skip
                refine xi_aload (q := 103) dX8_copy_101 rfl rfl ?_
                refine xi_getf (q := 106) dX8_copy_103 fl_X8_109 ⟨by omega, (hS.2.1 ka (by omega)).1⟩ rfl rfl ?_
                refine xi_iload_n (q := 107) dX8_copy_106 rfl rfl ?_
                refine xi_aload (q := 109) dX8_copy_107 rfl rfl ?_
                refine xi_getf (q := 112) dX8_copy_109 fl_X8_109 ⟨by omega, (hS.2.1 kb (by omega)).1⟩ rfl rfl ?_
                refine xi_iload (q := 114) dX8_copy_112 rfl rfl ?_
                refine xi_iload (q := 116) dX8_copy_114 rfl rfl ?_
                have hA := xn_hasC (xn_b1 c_80) (hV.2.1 ka (by omega) hE25).1.2
                have hB := xn_hasC (xn_b1 c_92) (hV.2.1 kb (by omega) hE32).1.2
                refine xi_copy (q := 119) dX8_copy_116 ln_X8_112 (Nat.le_of_ble_eq_true rfl) (Nat.le_of_ble_eq_true rfl) ⟨by omega, (hS.2.1 ka (by omega)).2⟩ ⟨by omega, (hS.2.1 kb (by omega)).2⟩ hA.1 hB.1 hA.2.1 hA.2.2.1 hB.2.2.1 rfl ?_
                refine xi_aload_n (q := 120) dX8_copy_119 rfl rfl ?_
                refine xi_iload (q := 122) dX8_copy_120 rfl rfl ?_
                refine xv_cV1 (q := 125) xm_X8_answered ln_X8_90 dX8_copy_122 (xv_keep (by omega) ⟨by omega, hS.1.1⟩) rfl ⟨(Nat.le_of_ble_eq_true rfl), (Nat.le_of_ble_eq_true rfl)⟩ (Nat.le_of_ble_eq_true rfl) ⟨rfl, rfl⟩ rfl (Nat.zero_le _) (Nat.zero_le _) ?_
                refine ⟨_, _, rfl, xs_Ssh (j := kb) (by omega) hS ((va_up_ne _ _ (by omega)).trans (hS.2.1 kb (by omega)).1) (va_up_self _ _ _) (fun i i1 i2 => va_up_ne _ _ i2), by omega, fun H1 S1 F1 => ?_⟩
                refine xi_ret ⟨_, rfl, rfl, dX8_copy_125⟩ (Nat.zero_le _) (Nat.zero_le _) ?_
                exact xs_fin hp (by simp only [xs_copy, xs_onE, xs_onP, xs_fn, xs_an, Bool.not_false, Bool.not_true, Bool.true_or, Bool.false_or, Bool.and_true, Bool.true_and, Bool.and_false, Bool.false_and, Bool.false_eq_true, if_true, if_false, ↓reduceIte, g_7, g_17, hE25, hE32, eq_true c_63, (xn_b1 c_80), (xn_b1 c_92), xs_kk0 (k := ka) (by omega), xs_kk0 (k := kb) (by omega)]) _ S1 (fun i hi => (F1 i (by omega)).trans ((va_up_ne _ _ (by omega)).trans (rfl)))
              · skip
                refine xi_aload_n (q := 96) dX8_copy_95 rfl rfl ?_
                refine xi_iconst (x := 2) (q := 97) dX8_copy_96 (by decide) rfl ?_
                refine xv_cV1 (q := 100) xm_X8_found ln_X8_82 dX8_copy_97 ⟨by omega, hS.1.1⟩ rfl ⟨(Nat.le_of_ble_eq_true rfl), (Nat.le_of_ble_eq_true rfl)⟩ (Nat.le_of_ble_eq_true rfl) ⟨rfl, rfl⟩ rfl (Nat.zero_le _) (Nat.zero_le _) ?_
                refine ⟨_, _, rfl, hS, by omega, fun H2 S2 F2 => ?_⟩
                refine xi_ret ⟨_, rfl, rfl, dX8_copy_100⟩ (Nat.zero_le _) (Nat.zero_le _) ?_
                exact xs_fin hp (by simp only [xs_copy, xs_onE, xs_onP, xs_fn, xs_an, Bool.not_false, Bool.not_true, Bool.true_or, Bool.false_or, Bool.and_true, Bool.true_and, Bool.and_false, Bool.false_and, Bool.false_eq_true, if_true, if_false, ↓reduceIte, g_7, g_17, hE25, hE32, eq_true c_63, (xn_b1 c_80), (Bool.eq_false_iff.mpr (xn_b0 c_92)), xs_kk0 (k := ka) (by omega), xs_kk0 (k := kb) (by omega)]) _ S2 (fun i hi => (F2 i (by omega)).trans (rfl))
          · skip
            refine xi_aload_n (q := 67) dX8_copy_66 rfl rfl ?_
            refine xi_iconst (x := 5) (q := 68) dX8_copy_67 (by decide) rfl ?_
            refine xv_cV1 (q := 71) xm_X8_found ln_X8_82 dX8_copy_68 ⟨by omega, hS.1.1⟩ rfl ⟨(Nat.le_of_ble_eq_true rfl), (Nat.le_of_ble_eq_true rfl)⟩ (Nat.le_of_ble_eq_true rfl) ⟨rfl, rfl⟩ rfl (Nat.zero_le _) (Nat.zero_le _) ?_
            refine ⟨_, _, rfl, hS, by omega, fun H3 S3 F3 => ?_⟩
            refine xi_ret ⟨_, rfl, rfl, dX8_copy_71⟩ (Nat.zero_le _) (Nat.zero_le _) ?_
            exact xs_fin hp (by simp only [xs_copy, xs_onE, xs_onP, xs_fn, xs_an, Bool.not_false, Bool.not_true, Bool.true_or, Bool.false_or, Bool.and_true, Bool.true_and, Bool.and_false, Bool.false_and, Bool.false_eq_true, if_true, if_false, ↓reduceIte, g_7, g_17, hE25, hE32, eq_false c_63, xs_kk0 (k := ka) (by omega), xs_kk0 (k := kb) (by omega)]) _ S3 (fun i hi => (F3 i (by omega)).trans (rfl))
        · skip
          refine xi_astoreN (q := 37) dX8_copy_35 (Nat.le_of_ble_eq_true rfl) rfl ?_
          refine xi_aload (q := 39) dX8_copy_37 rfl rfl ?_
          refine xi_ifnull_r (q := 42) dX8_copy_39 rfl ?_
          refine xi_aloadN (q := 44) dX8_copy_42 rfl rfl ?_
          refine xi_ifnonnull_n (q := 47) dX8_copy_44 rfl ?_
          refine xi_aload_n (q := 48) dX8_copy_47 rfl rfl ?_
          refine xi_iconst (x := 1) (q := 49) dX8_copy_48 (by decide) rfl ?_
          refine xv_cV1 (q := 52) xm_X8_found ln_X8_82 dX8_copy_49 ⟨by omega, hS.1.1⟩ rfl ⟨(Nat.le_of_ble_eq_true rfl), (Nat.le_of_ble_eq_true rfl)⟩ (Nat.le_of_ble_eq_true rfl) ⟨rfl, rfl⟩ rfl (Nat.zero_le _) (Nat.zero_le _) ?_
          refine ⟨_, _, rfl, hS, by omega, fun H4 S4 F4 => ?_⟩
          refine xi_ret ⟨_, rfl, rfl, dX8_copy_52⟩ (Nat.zero_le _) (Nat.zero_le _) ?_
          exact xs_fin hp (by simp only [xs_copy, xs_onE, xs_onP, xs_fn, xs_an, Bool.not_false, Bool.not_true, Bool.true_or, Bool.false_or, Bool.and_true, Bool.true_and, Bool.and_false, Bool.false_and, Bool.false_eq_true, if_true, if_false, ↓reduceIte, g_7, g_17, hE25, eq_true hE32, xs_kk0 (k := ka) (by omega), xs_kk0 (k := kb) (by omega)]) _ S4 (fun i hi => (F4 i (by omega)).trans (rfl))
      · skip
        refine xi_astoreN (q := 30) dX8_copy_28 (Nat.le_of_ble_eq_true rfl) rfl ?_
        refine xi_aload_n (q := 31) dX8_copy_30 rfl rfl ?_
        refine xi_iload_n (q := 32) dX8_copy_31 rfl rfl ?_
        refine xv_cV1 (q := 35) xm_X8_sheetAt ln_X8_93 dX8_copy_32 ⟨by omega, hS.1.1⟩ rfl ⟨(Nat.le_of_ble_eq_true rfl), (Nat.le_of_ble_eq_true rfl)⟩ (Nat.le_of_ble_eq_true rfl) ⟨rfl, rfl⟩ rfl (Nat.zero_le _) (Nat.zero_le _) ?_
        refine ⟨_, kb, rfl, hS, by omega, by omega, fun hE32 => ?_, fun hE32 => ?_⟩
        · skip
          refine xi_astore (q := 37) dX8_copy_35 (Nat.le_of_ble_eq_true rfl) rfl ?_
          refine xi_aloadN (q := 39) dX8_copy_37 rfl rfl ?_
          refine xi_ifnull_n (q := 47) dX8_copy_39 (by decide) ?_
          refine xi_aload_n (q := 48) dX8_copy_47 rfl rfl ?_
          refine xi_iconst (x := 1) (q := 49) dX8_copy_48 (by decide) rfl ?_
          refine xv_cV1 (q := 52) xm_X8_found ln_X8_82 dX8_copy_49 ⟨by omega, hS.1.1⟩ rfl ⟨(Nat.le_of_ble_eq_true rfl), (Nat.le_of_ble_eq_true rfl)⟩ (Nat.le_of_ble_eq_true rfl) ⟨rfl, rfl⟩ rfl (Nat.zero_le _) (Nat.zero_le _) ?_
          refine ⟨_, _, rfl, hS, by omega, fun H5 S5 F5 => ?_⟩
          refine xi_ret ⟨_, rfl, rfl, dX8_copy_52⟩ (Nat.zero_le _) (Nat.zero_le _) ?_
          exact xs_fin hp (by simp only [xs_copy, xs_onE, xs_onP, xs_fn, xs_an, Bool.not_false, Bool.not_true, Bool.true_or, Bool.false_or, Bool.and_true, Bool.true_and, Bool.and_false, Bool.false_and, Bool.false_eq_true, if_true, if_false, ↓reduceIte, g_7, g_17, eq_true hE25, hE32, xs_kk0 (k := ka) (by omega), xs_kk0 (k := kb) (by omega)]) _ S5 (fun i hi => (F5 i (by omega)).trans (rfl))
        · skip
          refine xi_astoreN (q := 37) dX8_copy_35 (Nat.le_of_ble_eq_true rfl) rfl ?_
          refine xi_aloadN (q := 39) dX8_copy_37 rfl rfl ?_
          refine xi_ifnull_n (q := 47) dX8_copy_39 (by decide) ?_
          refine xi_aload_n (q := 48) dX8_copy_47 rfl rfl ?_
          refine xi_iconst (x := 1) (q := 49) dX8_copy_48 (by decide) rfl ?_
          refine xv_cV1 (q := 52) xm_X8_found ln_X8_82 dX8_copy_49 ⟨by omega, hS.1.1⟩ rfl ⟨(Nat.le_of_ble_eq_true rfl), (Nat.le_of_ble_eq_true rfl)⟩ (Nat.le_of_ble_eq_true rfl) ⟨rfl, rfl⟩ rfl (Nat.zero_le _) (Nat.zero_le _) ?_
          refine ⟨_, _, rfl, hS, by omega, fun H6 S6 F6 => ?_⟩
          refine xi_ret ⟨_, rfl, rfl, dX8_copy_52⟩ (Nat.zero_le _) (Nat.zero_le _) ?_
          exact xs_fin hp (by simp only [xs_copy, xs_onE, xs_onP, xs_fn, xs_an, Bool.not_false, Bool.not_true, Bool.true_or, Bool.false_or, Bool.and_true, Bool.true_and, Bool.and_false, Bool.false_and, Bool.false_eq_true, if_true, if_false, ↓reduceIte, g_7, g_17, eq_true hE25, eq_true hE32, xs_kk0 (k := ka) (by omega), xs_kk0 (k := kb) (by omega)]) _ S6 (fun i hi => (F6 i (by omega)).trans (rfl))
    · have g_17 : xs_i b 0 7 = false := decide_eq_false (xn_b0 c_17)
      refine xi_ldc (q := 22) dX8_copy_20 kc_X8_81 rfl ?_
      refine xi_ret ⟨_, rfl, rfl, dX8_copy_22⟩ (Nat.zero_le _) (Nat.zero_le _) ?_
      exact xs_fin hp (by simp only [xs_copy, xs_onE, xs_onP, xs_fn, xs_an, Bool.not_false, Bool.not_true, Bool.true_or, Bool.false_or, Bool.and_true, Bool.true_and, Bool.and_false, Bool.false_and, Bool.false_eq_true, if_true, if_false, ↓reduceIte, g_7, g_17, xs_kk0 (k := ka) (by omega)]) _ hS (fun i hi => rfl)

def xs_twin (σ : xs_Sg) (q p : Int32) : Int32 × xs_Sg := if (xs_i q 0 5 && xs_i p 0 5) = true then (if σ 6 p.toNatClampNeg 0 = 0 then xs_fn σ 1 else (1, xs_fd (xs_ca (xs_en σ q.toNatClampNeg (σ 4 p.toNatClampNeg) (σ 5 p.toNatClampNeg 0) 1) q.toNatClampNeg 0 (σ 8 q.toNatClampNeg 0) (σ 9 q.toNatClampNeg 0) (σ 10 q.toNatClampNeg)) 0)) else (-1000001, σ)
set_option maxRecDepth 20000 in
set_option maxHeartbeats 2000000 in
/-- twin -/
theorem xm_X8_twin : xv_K yX8_twin mX8_twin (fun as h n Post => ∃ (σ : xs_Sg) (q : Int32) (p : Int32), as = [.ref 0, .int q, .int p] ∧ (xs_S h σ) ∧ (83 ≤ n) ∧ (xs_V σ) ∧ xs_D h n Post (xs_twin σ q p)) := by
  refine xv_entry (by decide +kernel) rfl (fun h => absurd h (by decide)) ?_
  rintro X _ h n Post ⟨σ, q, p, rfl, hS, h83, hV, hp⟩
  refine ⟨Nat.le_of_ble_eq_true rfl, ?_⟩
  show xv_V X mX8_twin Post 0 0 0 [(0, .ref 0), (1, .int q), (2, .int p)] [] h n
  refine xi_iload_n (q := 1) dX8_twin_0 rfl rfl ?_
  refine xv_cS1 (q := 4) xm_X8_isPlace ln_X8_125 dX8_twin_1 ⟨(Nat.le_of_ble_eq_true rfl), (Nat.le_of_ble_eq_true rfl)⟩ (Nat.le_of_ble_eq_true rfl) ⟨rfl, rfl⟩ rfl (Nat.zero_le _) (Nat.zero_le _) ?_
  refine ⟨_, rfl, ?_⟩
  refine xi_if_eq (q := 7) (q2 := 14) dX8_twin_4 (by decide) rfl (fun c_4 => ?_) (fun c_4 => ?_)
  · have g_4 : xs_i q 0 5 = false := decide_eq_false (xn_b0 c_4)
    refine xi_ldc (q := 16) dX8_twin_14 kc_X8_81 rfl ?_
    refine xi_ret ⟨_, rfl, rfl, dX8_twin_16⟩ (Nat.zero_le _) (Nat.zero_le _) ?_
    exact xs_fin hp (by simp only [xs_twin, xs_onE, xs_onP, xs_fn, xs_an, Bool.not_false, Bool.not_true, Bool.true_or, Bool.false_or, Bool.and_true, Bool.true_and, Bool.and_false, Bool.false_and, Bool.false_eq_true, if_true, if_false, ↓reduceIte, g_4]) _ hS (fun i hi => rfl)
  · have g_4 : xs_i q 0 5 = true := decide_eq_true (xn_b1 c_4)
    obtain ⟨kq, hkq, rfl⟩ := xn_pk (m := 5) (by omega) (xn_b1 c_4)
    refine xi_iload_n (q := 8) dX8_twin_7 rfl rfl ?_
    refine xv_cS1 (q := 11) xm_X8_isPlace ln_X8_125 dX8_twin_8 ⟨(Nat.le_of_ble_eq_true rfl), (Nat.le_of_ble_eq_true rfl)⟩ (Nat.le_of_ble_eq_true rfl) ⟨rfl, rfl⟩ rfl (Nat.zero_le _) (Nat.zero_le _) ?_
    refine ⟨_, rfl, ?_⟩
    refine xi_if_ne (q := 14) (q2 := 17) dX8_twin_11 (by decide) rfl (fun c_11 => ?_) (fun c_11 => ?_)
    · have g_11 : xs_i p 0 5 = true := decide_eq_true (xn_b1 c_11)
      obtain ⟨kp, hkp, rfl⟩ := xn_pk (m := 5) (by omega) (xn_b1 c_11)
      refine xi_aload_n (q := 18) dX8_twin_17 rfl rfl ?_
      refine xi_iload_n (q := 19) dX8_twin_18 rfl rfl ?_
      refine xv_cV1 (q := 22) xm_X8_engineAt ln_X8_142 dX8_twin_19 ⟨by omega, hS.1.1⟩ rfl ⟨(Nat.le_of_ble_eq_true rfl), (Nat.le_of_ble_eq_true rfl)⟩ (Nat.le_of_ble_eq_true rfl) ⟨rfl, rfl⟩ rfl (Nat.zero_le _) (Nat.zero_le _) ?_
      refine ⟨_, kp, rfl, hS, by omega, by omega, fun hE19 => ?_, fun hE19 => ?_⟩
      · skip
        refine xi_astore_n (q := 23) dX8_twin_22 (Nat.le_of_ble_eq_true rfl) rfl ?_
        refine xi_aload_n (q := 24) dX8_twin_23 rfl rfl ?_
        refine xi_ifnonnull_r (q := 33) dX8_twin_24 (by decide) ?_
        refine xi_aload_n (q := 34) dX8_twin_33 rfl rfl ?_
        refine xi_getf (q := 37) dX8_twin_34 fl_X8_17 ⟨by omega, hS.1.1⟩ rfl rfl ?_
        refine xi_iload_n (q := 38) dX8_twin_37 rfl rfl ?_
        refine xi_aald (q := 39) dX8_twin_38 ⟨by omega, hS.1.2.2.1⟩ rfl (xv_ixN (by omega) (by omega)) (xs_ai (by omega)) rfl ?_
        refine xi_aload_n (q := 40) dX8_twin_39 rfl rfl ?_
        refine xv_cV1 (q := 43) xm_X0_resemble ln_X8_155 dX8_twin_40 ⟨by omega, (hS.2.2.1 kq (by omega)).1⟩ rfl ⟨(Nat.le_of_ble_eq_true rfl), (Nat.le_of_ble_eq_true rfl)⟩ (Nat.le_of_ble_eq_true rfl) ⟨rfl, rfl⟩ rfl (Nat.zero_le _) (Nat.zero_le _) ?_
        refine ⟨59 + 2 * kq, _, _, _, 59 + 2 * kp, _, _, _, rfl, by omega, (hS.2.2.1 kq (by omega)).1, (hS.2.2.1 kq (by omega)).2, by omega, (hS.2.2.1 kp (by omega)).1, (hS.2.2.1 kp (by omega)).2, by omega, fun h9 q1 q2 q3 => ?_⟩
        have S90 := xs_Sen (j := kq) (by omega) hS q1 q2 q3
        refine xi_aload_n (q := 44) dX8_twin_43 rfl rfl ?_
        refine xi_getf (q := 47) dX8_twin_44 fl_X8_23 ⟨by omega, S90.1.1⟩ rfl rfl ?_
        refine xi_iload_n (q := 48) dX8_twin_47 rfl rfl ?_
        refine xi_aald (q := 49) dX8_twin_48 ⟨by omega, S90.1.2.2.2⟩ rfl (xv_ixN (by omega) (by omega)) (xs_ai (by omega)) rfl ?_
        refine xi_iconst (x := 0) (q := 50) dX8_twin_49 (by decide) rfl ?_
        refine xi_putf (q := 53) dX8_twin_50 fl_X8_139 ⟨by omega, (S90.2.2.2.1 kq (by omega)).1⟩ (Or.inl rfl) (fun _ => rfl) (fun _ => rfl) (Nat.le_of_ble_eq_true rfl) rfl ?_
        refine xi_aload_n (q := 54) dX8_twin_53 rfl rfl ?_
        refine xi_iconst (x := 1) (q := 55) dX8_twin_54 (by decide) rfl ?_
        refine xv_cV1 (q := 58) xm_X8_answered ln_X8_90 dX8_twin_55 (xv_keep (by omega) ⟨by omega, S90.1.1⟩) rfl ⟨(Nat.le_of_ble_eq_true rfl), (Nat.le_of_ble_eq_true rfl)⟩ (Nat.le_of_ble_eq_true rfl) ⟨rfl, rfl⟩ rfl (Nat.zero_le _) (Nat.zero_le _) ?_
        refine ⟨_, _, rfl, xs_Sca (j := kq) (by omega) (kp := 0) (nt := σ 8 kq 0) (bo := σ 9 kq 0) (ci := σ 10 kq) S90 (va_up_self _ _ _) ((va_up_ne _ _ (by omega)).trans (S90.2.2.2.1 kq (by omega)).2) (fun i i1 i2 => va_up_ne _ _ i1), by omega, fun H1 S1 F1 => ?_⟩
        refine xi_ret ⟨_, rfl, rfl, dX8_twin_58⟩ (Nat.zero_le _) (Nat.zero_le _) ?_
        exact xs_fin hp (by simp only [xs_twin, xs_onE, xs_onP, xs_fn, xs_an, Bool.not_false, Bool.not_true, Bool.true_or, Bool.false_or, Bool.and_true, Bool.true_and, Bool.and_false, Bool.false_and, Bool.false_eq_true, if_true, if_false, ↓reduceIte, g_4, g_11, hE19, xs_kk0 (k := kq) (by omega), xs_kk0 (k := kp) (by omega)]) _ S1 (fun i hi => (F1 i (by omega)).trans ((va_up_ne _ _ (by omega)).trans ((q3 i (by omega) (by omega)).trans ((rfl)))))
      · skip
        refine xi_astore_nN (q := 23) dX8_twin_22 (Nat.le_of_ble_eq_true rfl) rfl ?_
        refine xi_aload_nN (q := 24) dX8_twin_23 rfl rfl ?_
        refine xi_ifnonnull_n (q := 27) dX8_twin_24 rfl ?_
        refine xi_aload_n (q := 28) dX8_twin_27 rfl rfl ?_
        refine xi_iconst (x := 1) (q := 29) dX8_twin_28 (by decide) rfl ?_
        refine xv_cV1 (q := 32) xm_X8_found ln_X8_82 dX8_twin_29 ⟨by omega, hS.1.1⟩ rfl ⟨(Nat.le_of_ble_eq_true rfl), (Nat.le_of_ble_eq_true rfl)⟩ (Nat.le_of_ble_eq_true rfl) ⟨rfl, rfl⟩ rfl (Nat.zero_le _) (Nat.zero_le _) ?_
        refine ⟨_, _, rfl, hS, by omega, fun H1 S1 F1 => ?_⟩
        refine xi_ret ⟨_, rfl, rfl, dX8_twin_32⟩ (Nat.zero_le _) (Nat.zero_le _) ?_
        exact xs_fin hp (by simp only [xs_twin, xs_onE, xs_onP, xs_fn, xs_an, Bool.not_false, Bool.not_true, Bool.true_or, Bool.false_or, Bool.and_true, Bool.true_and, Bool.and_false, Bool.false_and, Bool.false_eq_true, if_true, if_false, ↓reduceIte, g_4, g_11, eq_true hE19, xs_kk0 (k := kq) (by omega), xs_kk0 (k := kp) (by omega)]) _ S1 (fun i hi => (F1 i (by omega)).trans (rfl))
    · have g_11 : xs_i p 0 5 = false := decide_eq_false (xn_b0 c_11)
      refine xi_ldc (q := 16) dX8_twin_14 kc_X8_81 rfl ?_
      refine xi_ret ⟨_, rfl, rfl, dX8_twin_16⟩ (Nat.zero_le _) (Nat.zero_le _) ?_
      exact xs_fin hp (by simp only [xs_twin, xs_onE, xs_onP, xs_fn, xs_an, Bool.not_false, Bool.not_true, Bool.true_or, Bool.false_or, Bool.and_true, Bool.true_and, Bool.and_false, Bool.false_and, Bool.false_eq_true, if_true, if_false, ↓reduceIte, g_4, g_11, xs_kk0 (k := kq) (by omega)]) _ hS (fun i hi => rfl)

def xs_clear (σ : xs_Sg) (p : Int32) : Int32 × xs_Sg := if xs_i p 0 5 = true then (if σ 6 p.toNatClampNeg 0 = 0 then (0, σ) else (1, xs_ca (xs_en σ p.toNatClampNeg (σ 4 p.toNatClampNeg) (σ 5 p.toNatClampNeg 0) 0) p.toNatClampNeg 0 (σ 8 p.toNatClampNeg 0) (σ 9 p.toNatClampNeg 0) (σ 10 p.toNatClampNeg))) else (-1000001, σ)
set_option maxRecDepth 20000 in
set_option maxHeartbeats 2000000 in
/-- clear -/
theorem xm_X8_clear : xv_K yX8_clear mX8_clear (fun as h n Post => ∃ (σ : xs_Sg) (p : Int32), as = [.ref 0, .int p] ∧ (xs_S h σ) ∧ (83 ≤ n) ∧ (xs_V σ) ∧ xs_D h n Post (xs_clear σ p)) := by
  refine xv_entry (by decide +kernel) rfl (fun h => absurd h (by decide)) ?_
  rintro X _ h n Post ⟨σ, p, rfl, hS, h83, hV, hp⟩
  refine ⟨Nat.le_of_ble_eq_true rfl, ?_⟩
  show xv_V X mX8_clear Post 0 0 0 [(0, .ref 0), (1, .int p)] [] h n
  refine xi_iload_n (q := 1) dX8_clear_0 rfl rfl ?_
  refine xv_cS1 (q := 4) xm_X8_isPlace ln_X8_125 dX8_clear_1 ⟨(Nat.le_of_ble_eq_true rfl), (Nat.le_of_ble_eq_true rfl)⟩ (Nat.le_of_ble_eq_true rfl) ⟨rfl, rfl⟩ rfl (Nat.zero_le _) (Nat.zero_le _) ?_
  refine ⟨_, rfl, ?_⟩
  refine xi_if_ne (q := 7) (q2 := 10) dX8_clear_4 (by decide) rfl (fun c_4 => ?_) (fun c_4 => ?_)
  · have g_4 : xs_i p 0 5 = true := decide_eq_true (xn_b1 c_4)
    obtain ⟨kp, hkp, rfl⟩ := xn_pk (m := 5) (by omega) (xn_b1 c_4)
    refine xi_aload_n (q := 11) dX8_clear_10 rfl rfl ?_
    refine xi_iload_n (q := 12) dX8_clear_11 rfl rfl ?_
    refine xv_cV1 (q := 15) xm_X8_engineAt ln_X8_142 dX8_clear_12 ⟨by omega, hS.1.1⟩ rfl ⟨(Nat.le_of_ble_eq_true rfl), (Nat.le_of_ble_eq_true rfl)⟩ (Nat.le_of_ble_eq_true rfl) ⟨rfl, rfl⟩ rfl (Nat.zero_le _) (Nat.zero_le _) ?_
    refine ⟨_, kp, rfl, hS, by omega, by omega, fun hE12 => ?_, fun hE12 => ?_⟩
    · skip
      refine xi_astore_n (q := 16) dX8_clear_15 (Nat.le_of_ble_eq_true rfl) rfl ?_
      refine xi_aload_n (q := 17) dX8_clear_16 rfl rfl ?_
      refine xi_ifnonnull_r (q := 22) dX8_clear_17 (by decide) ?_
      refine xi_aload_n (q := 23) dX8_clear_22 rfl rfl ?_
      refine xi_iconst (x := 0) (q := 24) dX8_clear_23 (by decide) rfl ?_
      refine xi_putf (q := 27) dX8_clear_24 fl_X8_159 ⟨by omega, (hS.2.2.1 kp (by omega)).1⟩ (Or.inl rfl) (fun _ => rfl) (fun _ => rfl) (Nat.le_of_ble_eq_true rfl) rfl ?_
      refine xi_aload_n (q := 28) dX8_clear_27 rfl rfl ?_
      refine xi_getf (q := 31) dX8_clear_28 fl_X8_23 (xv_keep (by omega) ⟨by omega, hS.1.1⟩) rfl rfl ?_
      refine xi_iload_n (q := 32) dX8_clear_31 rfl rfl ?_
      refine xi_aald (q := 33) dX8_clear_32 (xv_keep (by omega) ⟨by omega, hS.1.2.2.2⟩) rfl (xv_ixN (by omega) (by omega)) (xs_ai (by omega)) rfl ?_
      refine xi_iconst (x := 0) (q := 34) dX8_clear_33 (by decide) rfl ?_
      refine xi_putf (q := 37) dX8_clear_34 fl_X8_139 (xv_keep (by omega) ⟨by omega, (hS.2.2.2.1 kp (by omega)).1⟩) (Or.inl rfl) (fun _ => rfl) (fun _ => rfl) (Nat.le_of_ble_eq_true rfl) rfl ?_
      have S90 := xs_Sen (j := kp) (by omega) (h' := va_up h (59 + 2 * kp) (xs_ce kp (σ 5 kp 0) 0)) (s := σ 5 kp 0) (t := 0) (nf := σ 4 kp) hS (va_up_self _ _ _) ((va_up_ne _ _ (by omega)).trans (hS.2.2.1 kp (by omega)).2) (fun i i1 i2 => va_up_ne _ _ i1)
      refine xi_iconst (x := 1) (q := 38) dX8_clear_37 (by decide) rfl ?_
      refine xi_ret ⟨_, rfl, rfl, dX8_clear_38⟩ (Nat.zero_le _) (Nat.zero_le _) ?_
      exact xs_fin hp (by simp only [xs_clear, xs_onE, xs_onP, xs_fn, xs_an, Bool.not_false, Bool.not_true, Bool.true_or, Bool.false_or, Bool.and_true, Bool.true_and, Bool.and_false, Bool.false_and, Bool.false_eq_true, if_true, if_false, ↓reduceIte, g_4, hE12, xs_kk0 (k := kp) (by omega)]) _ (xs_Sca (j := kp) (by omega) (kp := 0) (nt := σ 8 kp 0) (bo := σ 9 kp 0) (ci := σ 10 kp) S90 (va_up_self _ _ _) ((va_up_ne _ _ (by omega)).trans (S90.2.2.2.1 kp (by omega)).2) (fun i i1 i2 => va_up_ne _ _ i1)) (fun i hi => (va_up_ne _ _ (by omega)).trans ((va_up_ne _ _ (by omega)).trans rfl))
    · skip
      refine xi_astore_nN (q := 16) dX8_clear_15 (Nat.le_of_ble_eq_true rfl) rfl ?_
      refine xi_aload_nN (q := 17) dX8_clear_16 rfl rfl ?_
      refine xi_ifnonnull_n (q := 20) dX8_clear_17 rfl ?_
      refine xi_iconst (x := 0) (q := 21) dX8_clear_20 (by decide) rfl ?_
      refine xi_ret ⟨_, rfl, rfl, dX8_clear_21⟩ (Nat.zero_le _) (Nat.zero_le _) ?_
      exact xs_fin hp (by simp only [xs_clear, xs_onE, xs_onP, xs_fn, xs_an, Bool.not_false, Bool.not_true, Bool.true_or, Bool.false_or, Bool.and_true, Bool.true_and, Bool.and_false, Bool.false_and, Bool.false_eq_true, if_true, if_false, ↓reduceIte, g_4, eq_true hE12, xs_kk0 (k := kp) (by omega)]) _ hS (fun i hi => rfl)
  · have g_4 : xs_i p 0 5 = false := decide_eq_false (xn_b0 c_4)
    refine xi_ldc (q := 9) dX8_clear_7 kc_X8_81 rfl ?_
    refine xi_ret ⟨_, rfl, rfl, dX8_clear_9⟩ (Nat.zero_le _) (Nat.zero_le _) ?_
    exact xs_fin hp (by simp only [xs_clear, xs_onE, xs_onP, xs_fn, xs_an, Bool.not_false, Bool.not_true, Bool.true_or, Bool.false_or, Bool.and_true, Bool.true_and, Bool.and_false, Bool.false_and, Bool.false_eq_true, if_true, if_false, ↓reduceIte, g_4]) _ hS (fun i hi => rfl)

