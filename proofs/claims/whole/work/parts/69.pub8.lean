def xs_whose (σ : xs_Sg) (s i b w : Int32) : Int32 × xs_Sg := if (xs_i s 0 7 && (xs_i b 0 2000 && xs_i w 0 2)) = true then (if σ 0 s.toNatClampNeg 0 = 0 then xs_fn σ 1 else if xs_has i 48 (σ 2 s.toNatClampNeg 0) = true then (if xs_all (fun t => decide (-1 ≤ σ 3 s.toNatClampNeg (i.toNatClampNeg + t)) && decide (σ 3 s.toNatClampNeg (i.toNatClampNeg + t) ≤ 5000)) 48 = true then xs_an σ (xs_sel3 w (xs_nou σ (xs_apt σ b (fun t => σ 3 s.toNatClampNeg (i.toNatClampNeg + t))) 6)) else (-1000001, σ)) else xs_fn σ 2) else (-1000001, σ)
set_option maxRecDepth 20000 in
set_option maxHeartbeats 2000000 in
/-- whose -/
theorem xm_X8_whose : xv_K yX8_whose mX8_whose (fun as h n Post => ∃ (σ : xs_Sg) (s : Int32) (i : Int32) (b : Int32) (w : Int32), as = [.ref 0, .int s, .int i, .int b, .int w] ∧ (xs_S h σ) ∧ (83 ≤ n) ∧ (xs_V σ) ∧ xs_D h n Post (xs_whose σ s i b w)) := by
  refine xv_entry (by decide +kernel) rfl (fun h => absurd h (by decide)) ?_
  rintro X _ h n Post ⟨σ, s, i, b, w, rfl, hS, h83, hV, hp⟩
  refine ⟨Nat.le_of_ble_eq_true rfl, ?_⟩
  show xv_V X mX8_whose Post 0 0 0 [(0, .ref 0), (1, .int s), (2, .int i), (3, .int b), (4, .int w)] [] h n
  refine xi_iload_n (q := 1) dX8_whose_0 rfl rfl ?_
  refine xi_iconst (x := 0) (q := 2) dX8_whose_1 (by decide) rfl ?_
  refine xi_bipush (x := 7) (q := 4) dX8_whose_2 (by decide) rfl ?_
  refine xv_cS3 (q := 7) xm_X8_within ln_X8_77 dX8_whose_4 ⟨(Nat.le_of_ble_eq_true rfl), (Nat.le_of_ble_eq_true rfl)⟩ (Nat.le_of_ble_eq_true rfl) ⟨rfl, rfl⟩ rfl (Nat.zero_le _) (Nat.zero_le _) ?_
  refine ⟨_, _, _, rfl, ?_⟩
  refine xi_if_eq (q := 10) (q2 := 27) dX8_whose_7 (by decide) rfl (fun c_7 => ?_) (fun c_7 => ?_)
  · have g_7 : xs_i s 0 7 = false := decide_eq_false (xn_b0 c_7)
    refine xi_ldc (q := 29) dX8_whose_27 kc_X8_81 rfl ?_
    refine xi_ret ⟨_, rfl, rfl, dX8_whose_29⟩ (Nat.zero_le _) (Nat.zero_le _) ?_
    exact xs_fin hp (by simp only [xs_whose, xs_onE, xs_onP, xs_fn, xs_an, Bool.not_false, Bool.not_true, Bool.true_or, Bool.false_or, Bool.and_true, Bool.true_and, Bool.and_false, Bool.false_and, Bool.false_eq_true, if_true, if_false, ↓reduceIte, g_7]) _ hS (fun i hi => rfl)
  · have g_7 : xs_i s 0 7 = true := decide_eq_true (xn_b1 c_7)
    obtain ⟨ks, hks, rfl⟩ := xn_pk (m := 7) (by omega) (xn_b1 c_7)
    refine xi_iload_n (q := 11) dX8_whose_10 rfl rfl ?_
    refine xv_cS1 (q := 14) xm_X8_isBoiler ln_X8_204 dX8_whose_11 ⟨(Nat.le_of_ble_eq_true rfl), (Nat.le_of_ble_eq_true rfl)⟩ (Nat.le_of_ble_eq_true rfl) ⟨rfl, rfl⟩ rfl (Nat.zero_le _) (Nat.zero_le _) ?_
    refine ⟨_, rfl, ?_⟩
    refine xi_if_eq (q := 17) (q2 := 27) dX8_whose_14 (by decide) rfl (fun c_14 => ?_) (fun c_14 => ?_)
    · have g_14 : xs_i b 0 2000 = false := decide_eq_false (xn_b0 c_14)
      refine xi_ldc (q := 29) dX8_whose_27 kc_X8_81 rfl ?_
      refine xi_ret ⟨_, rfl, rfl, dX8_whose_29⟩ (Nat.zero_le _) (Nat.zero_le _) ?_
      exact xs_fin hp (by simp only [xs_whose, xs_onE, xs_onP, xs_fn, xs_an, Bool.not_false, Bool.not_true, Bool.true_or, Bool.false_or, Bool.and_true, Bool.true_and, Bool.and_false, Bool.false_and, Bool.false_eq_true, if_true, if_false, ↓reduceIte, g_7, g_14, xs_kk0 (k := ks) (by omega)]) _ hS (fun i hi => rfl)
    · have g_14 : xs_i b 0 2000 = true := decide_eq_true (xn_b1 c_14)
      refine xi_iload (q := 19) dX8_whose_17 rfl rfl ?_
      refine xi_iconst (x := 0) (q := 20) dX8_whose_19 (by decide) rfl ?_
      refine xi_iconst (x := 2) (q := 21) dX8_whose_20 (by decide) rfl ?_
      refine xv_cS3 (q := 24) xm_X8_within ln_X8_77 dX8_whose_21 ⟨(Nat.le_of_ble_eq_true rfl), (Nat.le_of_ble_eq_true rfl)⟩ (Nat.le_of_ble_eq_true rfl) ⟨rfl, rfl⟩ rfl (Nat.zero_le _) (Nat.zero_le _) ?_
      refine ⟨_, _, _, rfl, ?_⟩
      refine xi_if_ne (q := 27) (q2 := 30) dX8_whose_24 (by decide) rfl (fun c_24 => ?_) (fun c_24 => ?_)
      · have g_24 : xs_i w 0 2 = true := decide_eq_true (xn_b1 c_24)
        refine xi_aload_n (q := 31) dX8_whose_30 rfl rfl ?_
        refine xi_iload_n (q := 32) dX8_whose_31 rfl rfl ?_
        refine xv_cV1 (q := 35) xm_X8_sheetAt ln_X8_93 dX8_whose_32 ⟨by omega, hS.1.1⟩ rfl ⟨(Nat.le_of_ble_eq_true rfl), (Nat.le_of_ble_eq_true rfl)⟩ (Nat.le_of_ble_eq_true rfl) ⟨rfl, rfl⟩ rfl (Nat.zero_le _) (Nat.zero_le _) ?_
        refine ⟨_, ks, rfl, hS, by omega, by omega, fun hE32 => ?_, fun hE32 => ?_⟩
        · skip
          refine xi_astore (q := 37) dX8_whose_35 (Nat.le_of_ble_eq_true rfl) rfl ?_
          refine xi_aload (q := 39) dX8_whose_37 rfl rfl ?_
          refine xi_ifnonnull_r (q := 48) dX8_whose_39 (by decide) ?_
          refine xi_aload (q := 50) dX8_whose_48 rfl rfl ?_
          refine xi_iload_n (q := 51) dX8_whose_50 rfl rfl ?_
          refine xi_bipush (x := 48) (q := 53) dX8_whose_51 (by decide) rfl ?_
          refine xv_cV2 (q := 56) xm_X7_has ln_X8_97 dX8_whose_53 ⟨by omega, (hS.2.1 ks (by omega)).1⟩ rfl ⟨(Nat.le_of_ble_eq_true rfl), (Nat.le_of_ble_eq_true rfl)⟩ (Nat.le_of_ble_eq_true rfl) ⟨rfl, rfl⟩ rfl (Nat.zero_le _) (Nat.zero_le _) ?_
          refine ⟨43 + 2 * ks, _, _, _, _, i, 48, rfl, by omega, (hS.2.1 ks (by omega)).1, (hS.2.1 ks (by omega)).2, ?_⟩
          refine xi_if_ne (q := 59) (q2 := 65) dX8_whose_56 (by decide) rfl (fun c_56 => ?_) (fun c_56 => ?_)
          · obtain ⟨a, ha, rfl⟩ := xn_hasA (m := 48) (by omega) (xn_b1 c_56) (hV.2.1 ks (by omega) hE32).1.2
            refine xi_aload (q := 67) dX8_whose_65 rfl rfl ?_
            refine xi_iload_n (q := 68) dX8_whose_67 rfl rfl ?_
            refine xi_bipush (x := 48) (q := 70) dX8_whose_68 (by decide) rfl ?_
            refine xi_iconst (x := (-1)) (q := 71) dX8_whose_70 (by decide) rfl ?_
            refine xi_sipush (x := 5000) (q := 74) dX8_whose_71 (by decide) rfl ?_
            refine xv_cV4 (q := 77) xm_X7_holdsWithin ln_X8_236 dX8_whose_74 ⟨by omega, (hS.2.1 ks (by omega)).1⟩ rfl ⟨(Nat.le_of_ble_eq_true rfl), (Nat.le_of_ble_eq_true rfl)⟩ (Nat.le_of_ble_eq_true rfl) ⟨rfl, rfl⟩ rfl (Nat.zero_le _) (Nat.zero_le _) ?_
            refine ⟨43 + 2 * ks, _, _, _, _, a, 48, -1, 5000, rfl, by omega, (hS.2.1 ks (by omega)).1, (hS.2.1 ks (by omega)).2, by omega, ?_⟩
            refine xi_if_ne (q := 80) (q2 := 83) dX8_whose_77 (by decide) rfl (fun c_77 => ?_) (fun c_77 => ?_)
            · skip
              refine xi_aload_n (q := 84) dX8_whose_83 rfl rfl ?_
              obtain ⟨f6_84, s6_84, t6_84, u6_84, h6_84, h7_84⟩ := hS.2.2.2.2.2.2.1
              refine xi_getf (q := 87) dX8_whose_84 fl_X8_33 ⟨by omega, hS.1.1⟩ rfl rfl ?_
              refine xi_aload (q := 89) dX8_whose_87 rfl rfl ?_
              refine xi_iload_n (q := 90) dX8_whose_89 rfl rfl ?_
              refine xv_cV2 (q := 93) xm_X2_take ln_X8_240 dX8_whose_90 ⟨by omega, h6_84⟩ rfl ⟨(Nat.le_of_ble_eq_true rfl), (Nat.le_of_ble_eq_true rfl)⟩ (Nat.le_of_ble_eq_true rfl) ⟨rfl, rfl⟩ rfl (Nat.zero_le _) (Nat.zero_le _) ?_
              refine ⟨6, _, _, _, _, 43 + 2 * ks, _, _, _, _, a, rfl, by omega, h6_84, h7_84, by omega, (hS.2.1 ks (by omega)).1, (hS.2.1 ks (by omega)).2, by omega, by omega, fun h9 q1 q2 => ?_⟩
              have S90 := xs_St2 hS ⟨_, _, _, _, (q2 6 (by omega)).trans h6_84, q1⟩ (fun i hi => q2 i (by omega))
              refine xi_aload_n (q := 94) dX8_whose_93 rfl rfl ?_
              refine xi_aload_n (q := 95) dX8_whose_94 rfl rfl ?_
              refine xi_iload_n (q := 96) dX8_whose_95 rfl rfl ?_
              refine xi_iload (q := 98) dX8_whose_96 rfl rfl ?_
              refine xv_cV2 (q := 101) xm_X8_nearest ln_X8_271 dX8_whose_98 ⟨by omega, S90.1.1⟩ rfl ⟨(Nat.le_of_ble_eq_true rfl), (Nat.le_of_ble_eq_true rfl)⟩ (Nat.le_of_ble_eq_true rfl) ⟨rfl, rfl⟩ rfl (Nat.zero_le _) (Nat.zero_le _) ?_
              refine ⟨σ, b, w, _, _, _, _, rfl, S90, by omega, hV, ⟨by have := (xn_gI g_14).1; exact this, by have := (xn_gI g_14).2; exact this⟩, ⟨(q2 6 (by omega)).trans h6_84, q1⟩, fun h8 S92 p2 => ?_⟩
              obtain ⟨V, hV0⟩ : ∃ V, V = xs_nou σ (xs_apt σ b (fun t => σ 3 ks (a + t))) 6 := ⟨_, rfl⟩
              rw [show xs_nou σ (xs_apt σ b _) 6 = V from hV0.symm]
              refine xv_cV1 (q := 104) xm_X8_answered ln_X8_90 dX8_whose_101 ⟨by omega, S92.1.1⟩ rfl ⟨(Nat.le_of_ble_eq_true rfl), (Nat.le_of_ble_eq_true rfl)⟩ (Nat.le_of_ble_eq_true rfl) ⟨rfl, rfl⟩ rfl (Nat.zero_le _) (Nat.zero_le _) ?_
              refine ⟨_, _, rfl, S92, by omega, fun H1 S1 F1 => ?_⟩
              refine xi_ret ⟨_, rfl, rfl, dX8_whose_104⟩ (Nat.zero_le _) (Nat.zero_le _) ?_
              exact xs_fin hp (by simp only [xs_whose, xs_onE, xs_onP, xs_fn, xs_an, Bool.not_false, Bool.not_true, Bool.true_or, Bool.false_or, Bool.and_true, Bool.true_and, Bool.and_false, Bool.false_and, Bool.false_eq_true, if_true, if_false, ↓reduceIte, g_7, g_14, g_24, hE32, (xn_boolb c_56), xs_kk0 (k := a) (by omega), (xn_b1 c_77), ← hV0, xs_kk0 (k := ks) (by omega)]) _ S1 (fun i hi => (F1 i (by omega)).trans ((p2 i hi).trans ((q2 i (by omega)).trans rfl)))
            · skip
              refine xi_ldc (q := 82) dX8_whose_80 kc_X8_81 rfl ?_
              refine xi_ret ⟨_, rfl, rfl, dX8_whose_82⟩ (Nat.zero_le _) (Nat.zero_le _) ?_
              exact xs_fin hp (by simp only [xs_whose, xs_onE, xs_onP, xs_fn, xs_an, Bool.not_false, Bool.not_true, Bool.true_or, Bool.false_or, Bool.and_true, Bool.true_and, Bool.and_false, Bool.false_and, Bool.false_eq_true, if_true, if_false, ↓reduceIte, g_7, g_14, g_24, hE32, (xn_boolb c_56), xs_kk0 (k := a) (by omega), (Bool.eq_false_iff.mpr (xn_b0 c_77)), xs_kk0 (k := ks) (by omega)]) _ hS (fun i hi => rfl)
          · skip
            refine xi_aload_n (q := 60) dX8_whose_59 rfl rfl ?_
            refine xi_iconst (x := 2) (q := 61) dX8_whose_60 (by decide) rfl ?_
            refine xv_cV1 (q := 64) xm_X8_found ln_X8_82 dX8_whose_61 ⟨by omega, hS.1.1⟩ rfl ⟨(Nat.le_of_ble_eq_true rfl), (Nat.le_of_ble_eq_true rfl)⟩ (Nat.le_of_ble_eq_true rfl) ⟨rfl, rfl⟩ rfl (Nat.zero_le _) (Nat.zero_le _) ?_
            refine ⟨_, _, rfl, hS, by omega, fun H2 S2 F2 => ?_⟩
            refine xi_ret ⟨_, rfl, rfl, dX8_whose_64⟩ (Nat.zero_le _) (Nat.zero_le _) ?_
            exact xs_fin hp (by simp only [xs_whose, xs_onE, xs_onP, xs_fn, xs_an, Bool.not_false, Bool.not_true, Bool.true_or, Bool.false_or, Bool.and_true, Bool.true_and, Bool.and_false, Bool.false_and, Bool.false_eq_true, if_true, if_false, ↓reduceIte, g_7, g_14, g_24, hE32, (Bool.eq_false_iff.mpr (xn_b0 c_56)), xs_kk0 (k := ks) (by omega)]) _ S2 (fun i hi => (F2 i (by omega)).trans (rfl))
        · skip
          refine xi_astoreN (q := 37) dX8_whose_35 (Nat.le_of_ble_eq_true rfl) rfl ?_
          refine xi_aloadN (q := 39) dX8_whose_37 rfl rfl ?_
          refine xi_ifnonnull_n (q := 42) dX8_whose_39 rfl ?_
          refine xi_aload_n (q := 43) dX8_whose_42 rfl rfl ?_
          refine xi_iconst (x := 1) (q := 44) dX8_whose_43 (by decide) rfl ?_
          refine xv_cV1 (q := 47) xm_X8_found ln_X8_82 dX8_whose_44 ⟨by omega, hS.1.1⟩ rfl ⟨(Nat.le_of_ble_eq_true rfl), (Nat.le_of_ble_eq_true rfl)⟩ (Nat.le_of_ble_eq_true rfl) ⟨rfl, rfl⟩ rfl (Nat.zero_le _) (Nat.zero_le _) ?_
          refine ⟨_, _, rfl, hS, by omega, fun H3 S3 F3 => ?_⟩
          refine xi_ret ⟨_, rfl, rfl, dX8_whose_47⟩ (Nat.zero_le _) (Nat.zero_le _) ?_
          exact xs_fin hp (by simp only [xs_whose, xs_onE, xs_onP, xs_fn, xs_an, Bool.not_false, Bool.not_true, Bool.true_or, Bool.false_or, Bool.and_true, Bool.true_and, Bool.and_false, Bool.false_and, Bool.false_eq_true, if_true, if_false, ↓reduceIte, g_7, g_14, g_24, eq_true hE32, xs_kk0 (k := ks) (by omega)]) _ S3 (fun i hi => (F3 i (by omega)).trans (rfl))
      · have g_24 : xs_i w 0 2 = false := decide_eq_false (xn_b0 c_24)
        refine xi_ldc (q := 29) dX8_whose_27 kc_X8_81 rfl ?_
        refine xi_ret ⟨_, rfl, rfl, dX8_whose_29⟩ (Nat.zero_le _) (Nat.zero_le _) ?_
        exact xs_fin hp (by simp only [xs_whose, xs_onE, xs_onP, xs_fn, xs_an, Bool.not_false, Bool.not_true, Bool.true_or, Bool.false_or, Bool.and_true, Bool.true_and, Bool.and_false, Bool.false_and, Bool.false_eq_true, if_true, if_false, ↓reduceIte, g_7, g_14, g_24, xs_kk0 (k := ks) (by omega)]) _ hS (fun i hi => rfl)

def xs_fo (A : Int32 → Int32) : Nat → Int32 × Int32
  | 0 => (-6, -1)
  | k + 1 => if (xs_fo A k).2 < A (nI k - 6) then (nI k - 6, A (nI k - 6)) else xs_fo A k
def xs_fap (f : Nat → Int32) (one two B m : Int32) : Int32 := xs_ps (xs_ap1 (fun j => xs_cd f one m (B * 4 / 4) 0 j) (fun j => xs_cd f two m (B * 4 / 4) 0 j)) 48
set_option maxRecDepth 20000 in
set_option maxHeartbeats 2000000 in
/-- farthestApart -/
theorem xm_X8_farthestApart : xv_K yX8_farthestApart mX8_farthestApart (fun as h n Post => ∃ (σ : xs_Sg) (one : Int32) (two : Int32) (B : Int32) (f : Nat → Int32), as = [.ref 0, .int one, .int two, .int B] ∧ (xs_S h σ) ∧ (83 ≤ n) ∧ (xs_ok f) ∧ (0 ≤ B.toInt ∧ B.toInt ≤ 2000) ∧ (∃ s t, h 4 = .inr (0, [.ref 5, .int s, .int t])) ∧ (h 5 = .inl (.int, 11, .inl f)) ∧ (∀ h' : xv_H, xs_S h' σ → (∀ i, 83 ≤ i → h' i = h i) → Post (some (.int (xs_fo (xs_fap f one two B) 13).1)) h' n)) := by
  refine xv_entry (by decide +kernel) rfl (fun h => absurd h (by decide)) ?_
  rintro X _ h n Post ⟨σ, one, two, B, f, rfl, hS, h83, hok, hB, h4, h5, hp⟩
  refine ⟨Nat.le_of_ble_eq_true rfl, ?_⟩
  show xv_V X mX8_farthestApart Post 0 0 0 [(0, .ref 0), (1, .int one), (2, .int two), (3, .int B)] [] h n
  have L11 : ∀ (d k : Nat) (hh : xv_H) (t : Int32 × Int32), k + d = 13 → xs_S hh σ → (∃ s t, hh 4 = .inr (0, [.ref 5, .int s, .int t])) → hh 5 = .inl (.int, 11, .inl f) → (∀ i, 83 ≤ i → hh i = h i) → t = xs_fo (xs_fap f one two B) k → xv_V X mX8_farthestApart Post 0 0 11 [(0, .ref 0), (1, .int one), (2, .int two), (3, .int B), (4, .int t.1), (5, .int t.2), (6, .int (nI k - 6))] [] hh n := by
    intro d
    induction d using Nat.strongRecOn with
    | _ d ih =>
      intro k hh t hkd hW h4 h5 hf0 ht
      obtain ⟨s0, t0, h4⟩ := h4
      refine xi_iload (q := 13) dX8_farthestApart_11 rfl rfl ?_
      refine xi_bipush (x := 6) (q := 15) dX8_farthestApart_13 (by decide) rfl ?_
      refine xi_icmp_gt (q := 18) (q2 := 124) dX8_farthestApart_15 (by decide) rfl (fun c_15 => ?_) (fun c_15 => ?_)
      · have hk2 : k = 13 := by
          rw [xn_lt, xn_s6i (by omega), show (6 : Int32).toInt = 6 from rfl] at c_15
          omega
        subst hk2
        refine xi_iload (q := 126) dX8_farthestApart_124 rfl rfl ?_
        refine xi_ret ⟨_, rfl, rfl, dX8_farthestApart_126⟩ (Nat.zero_le _) (Nat.zero_le _) ?_
        exact xs_tkr hp (by rw [← ht]) hW hf0
      · have hk2 : k < 13 := by
          rw [xn_lt, xn_s6i (by omega), show (6 : Int32).toInt = 6 from rfl] at c_15
          omega
        obtain ⟨c6, c1, c2, c3, h6, h7⟩ := hW.2.2.2.2.2.2.1
        obtain ⟨dn_, wk_, dk_, r1_, r2_, r3_, r4_, hP⟩ := hW.2.2.2.2.2.2.2.2.1
        refine xi_aload_n (q := 19) dX8_farthestApart_18 rfl rfl ?_
        refine xi_getf (q := 22) dX8_farthestApart_19 fl_X8_28 ⟨by omega, hW.1.1⟩ rfl rfl ?_
        refine xi_iload_n (q := 23) dX8_farthestApart_22 rfl rfl ?_
        refine xi_putf (q := 26) dX8_farthestApart_23 fl_X8_152 ⟨by omega, h4⟩ (Or.inl rfl) (fun _ => rfl) (fun _ => rfl) (Nat.le_of_ble_eq_true rfl) rfl ?_
        refine xi_aload_n (q := 27) dX8_farthestApart_26 rfl rfl ?_
        refine xi_getf (q := 30) dX8_farthestApart_27 fl_X8_47 (xv_keep (by omega) ⟨by omega, hW.1.1⟩) rfl rfl ?_
        refine xi_aload_n (q := 31) dX8_farthestApart_30 rfl rfl ?_
        refine xi_getf (q := 34) dX8_farthestApart_31 fl_X8_28 (xv_keep (by omega) ⟨by omega, hW.1.1⟩) rfl rfl ?_
        refine xi_iload (q := 36) dX8_farthestApart_34 rfl rfl ?_
        refine xi_iload_n (q := 37) dX8_farthestApart_36 rfl rfl ?_
        refine xi_iconst (x := 4) (q := 38) dX8_farthestApart_37 (by decide) rfl ?_
        refine xi_iconst (x := 0) (q := 39) dX8_farthestApart_38 (by decide) rfl ?_
        refine xv_cV5 (q := 42) xm_X5_draw ln_X8_210 dX8_farthestApart_39 (xv_keep (by omega) ⟨by omega, hP.1⟩) rfl ⟨(Nat.le_of_ble_eq_true rfl), (Nat.le_of_ble_eq_true rfl)⟩ (Nat.le_of_ble_eq_true rfl) ⟨rfl, rfl⟩ rfl (Nat.zero_le _) (Nat.zero_le _) ?_
        refine ⟨_, _, _, _, _, _, _, 4, f, one, t0, nI k - 6, B, 4, 0, rfl, by omega, va_up_self _ _ _, (va_up_ne _ _ (by omega)).trans h5, ⟨(va_up_ne _ _ (by omega)).trans hP.1, (va_up_ne _ _ (by omega)).trans hP.2.1, (va_up_ne _ _ (by omega)).trans hP.2.2.1, (va_up_ne _ _ (by omega)).trans hP.2.2.2.1, (va_up_ne _ _ (by omega)).trans hP.2.2.2.2⟩, by omega, by omega, hok, Or.inl rfl, hB, by decide, fun h8 p1 p2 => ?_⟩
        obtain ⟨G1, hG1⟩ : ∃ G : Nat → Int32, G = fun j => xs_cd f one (nI k - 6) (B * 4 / 4) 0 j := ⟨_, rfl⟩
        rw [← hG1] at p1
        refine xi_aload_n (q := 43) dX8_farthestApart_42 rfl rfl ?_
        refine xi_getf (q := 46) dX8_farthestApart_43 fl_X8_47 ⟨by omega, (p2 _ (by omega)).trans ((va_up_ne _ _ (by omega)).trans hW.1.1)⟩ rfl rfl ?_
        refine xi_getf (q := 49) dX8_farthestApart_46 fl_X8_214 ⟨by omega, p1.1⟩ rfl rfl ?_
        refine xi_iconst (x := 0) (q := 50) dX8_farthestApart_49 (by decide) rfl ?_
        refine xi_aload_n (q := 51) dX8_farthestApart_50 rfl rfl ?_
        refine xi_getf (q := 54) dX8_farthestApart_51 fl_X8_33 ⟨by omega, (p2 _ (by omega)).trans ((va_up_ne _ _ (by omega)).trans hW.1.1)⟩ rfl rfl ?_
        refine xi_getf (q := 57) dX8_farthestApart_54 fl_X8_361 ⟨by omega, (p2 _ (by omega)).trans ((va_up_ne _ _ (by omega)).trans h6)⟩ rfl rfl ?_
        refine xi_iconst (x := 0) (q := 58) dX8_farthestApart_57 (by decide) rfl ?_
        refine xi_bipush (x := 48) (q := 60) dX8_farthestApart_58 (by decide) rfl ?_
        refine xi_copy (q := 63) dX8_farthestApart_60 ln_X8_112 (Nat.le_of_ble_eq_true rfl) (Nat.le_of_ble_eq_true rfl) ⟨by omega, p1.2.2.2.2⟩ ⟨by omega, (p2 _ (by omega)).trans ((va_up_ne _ _ (by omega)).trans h7)⟩ (by decide) (by decide) (by decide) (by decide) (by decide) rfl ?_
        refine xv_norm (h' := va_up h8 7 (.inl (.int, 48, .inl G1))) (xv_nr (va_up_self _ _ _) (bx_uu _ _ _ _).symm (fun j hj => ?_)) ?_
        · exact (pk_cpy_in (Nat.zero_le _) (by show j < 0 + 48; omega)).trans (by show G1 (0 + (j - 0)) = G1 j; rw [Nat.zero_add, Nat.sub_zero])
        refine xi_aload_n (q := 64) dX8_farthestApart_63 rfl rfl ?_
        refine xi_getf (q := 67) dX8_farthestApart_64 fl_X8_28 (xv_keep (by omega) ⟨by omega, (p2 _ (by omega)).trans ((va_up_ne _ _ (by omega)).trans hW.1.1)⟩) rfl rfl ?_
        refine xi_iload_n (q := 68) dX8_farthestApart_67 rfl rfl ?_
        refine xi_putf (q := 71) dX8_farthestApart_68 fl_X8_152 (xv_keep (by omega) ⟨by omega, (p2 _ (by omega)).trans (va_up_self _ _ _)⟩) (Or.inl rfl) (fun _ => rfl) (fun _ => rfl) (Nat.le_of_ble_eq_true rfl) rfl ?_
        refine xi_aload_n (q := 72) dX8_farthestApart_71 rfl rfl ?_
        refine xi_getf (q := 75) dX8_farthestApart_72 fl_X8_47 (xv_keep (by omega) (xv_keep (by omega) ⟨by omega, (p2 _ (by omega)).trans ((va_up_ne _ _ (by omega)).trans hW.1.1)⟩)) rfl rfl ?_
        refine xi_aload_n (q := 76) dX8_farthestApart_75 rfl rfl ?_
        refine xi_getf (q := 79) dX8_farthestApart_76 fl_X8_28 (xv_keep (by omega) (xv_keep (by omega) ⟨by omega, (p2 _ (by omega)).trans ((va_up_ne _ _ (by omega)).trans hW.1.1)⟩)) rfl rfl ?_
        refine xi_iload (q := 81) dX8_farthestApart_79 rfl rfl ?_
        refine xi_iload_n (q := 82) dX8_farthestApart_81 rfl rfl ?_
        refine xi_iconst (x := 4) (q := 83) dX8_farthestApart_82 (by decide) rfl ?_
        refine xi_iconst (x := 0) (q := 84) dX8_farthestApart_83 (by decide) rfl ?_
        refine xv_cV5 (q := 87) xm_X5_draw ln_X8_210 dX8_farthestApart_84 (xv_keep (by omega) (xv_keep (by omega) ⟨by omega, p1.1⟩)) rfl ⟨(Nat.le_of_ble_eq_true rfl), (Nat.le_of_ble_eq_true rfl)⟩ (Nat.le_of_ble_eq_true rfl) ⟨rfl, rfl⟩ rfl (Nat.zero_le _) (Nat.zero_le _) ?_
        refine ⟨_, _, _, _, _, _, _, 4, f, two, t0, nI k - 6, B, 4, 0, rfl, by omega, va_up_self _ _ _, (va_up_ne _ _ (by omega)).trans ((va_up_ne _ _ (by omega)).trans ((p2 _ (by omega)).trans ((va_up_ne _ _ (by omega)).trans h5))), ⟨(va_up_ne _ _ (by omega)).trans ((va_up_ne _ _ (by omega)).trans p1.1), (va_up_ne _ _ (by omega)).trans ((va_up_ne _ _ (by omega)).trans p1.2.1), (va_up_ne _ _ (by omega)).trans ((va_up_ne _ _ (by omega)).trans p1.2.2.1), (va_up_ne _ _ (by omega)).trans ((va_up_ne _ _ (by omega)).trans p1.2.2.2.1), (va_up_ne _ _ (by omega)).trans ((va_up_ne _ _ (by omega)).trans p1.2.2.2.2)⟩, by omega, by omega, hok, Or.inl rfl, hB, by decide, fun h9 q1 q2 => ?_⟩
        obtain ⟨G2, hG2⟩ : ∃ G : Nat → Int32, G = fun j => xs_cd f two (nI k - 6) (B * 4 / 4) 0 j := ⟨_, rfl⟩
        rw [← hG2] at q1
        have e6 : h9 6 = .inr (2, [.ref 7, .int c1, .int c2, .int c3]) := (q2 _ (by omega)).trans ((va_up_ne _ _ (by omega)).trans ((va_up_ne _ _ (by omega)).trans ((p2 _ (by omega)).trans ((va_up_ne _ _ (by omega)).trans h6))))
        have e7 : h9 7 = .inl (.int, 48, .inl G1) := (q2 _ (by omega)).trans ((va_up_ne _ _ (by omega)).trans (va_up_self _ _ _))
        have e5 : h9 5 = .inl (.int, 11, .inl f) := (q2 _ (by omega)).trans ((va_up_ne _ _ (by omega)).trans ((va_up_ne _ _ (by omega)).trans ((p2 _ (by omega)).trans ((va_up_ne _ _ (by omega)).trans h5))))
        have e4 : h9 4 = .inr (0, [.ref 5, .int two, .int t0]) := (q2 _ (by omega)).trans (va_up_self _ _ _)
        have eF : ∀ i, i < 17 ∨ 21 < i → i ≠ 4 → i ≠ 4 + 1 → i ≠ 6 → i ≠ 6 + 1 → h9 i = hh i := fun i i1 i2 i3 i4 i5 => (q2 i i1).trans ((va_up_ne _ _ i2).trans ((va_up_ne _ _ i5).trans ((p2 i i1).trans (va_up_ne _ _ i2))))
        have S9 := xs_St124 hW ⟨_, _, _, e4, e5⟩ ⟨_, _, _, _, e6, e7⟩ ⟨_, _, _, _, _, _, _, q1⟩ eF
        refine xi_aload_n (q := 88) dX8_farthestApart_87 rfl rfl ?_
        refine xi_getf (q := 91) dX8_farthestApart_88 fl_X8_33 ⟨by omega, S9.1.1⟩ rfl rfl ?_
        refine xi_aload_n (q := 92) dX8_farthestApart_91 rfl rfl ?_
        refine xi_getf (q := 95) dX8_farthestApart_92 fl_X8_47 ⟨by omega, S9.1.1⟩ rfl rfl ?_
        refine xi_getf (q := 98) dX8_farthestApart_95 fl_X8_214 ⟨by omega, q1.1⟩ rfl rfl ?_
        refine xv_cV1 (q := 101) xm_X2_apart ln_X8_357 dX8_farthestApart_98 ⟨by omega, e6⟩ rfl ⟨(Nat.le_of_ble_eq_true rfl), (Nat.le_of_ble_eq_true rfl)⟩ (Nat.le_of_ble_eq_true rfl) ⟨rfl, rfl⟩ rfl (Nat.zero_le _) (Nat.zero_le _) ?_
        refine ⟨6, _, _, _, G1, 21, G2, rfl, by omega, e6, e7, by omega, q1.2.2.2.2, ?_⟩
        obtain ⟨V, hV0⟩ : ∃ V, V = xs_fap f one two B (nI k - 6) := ⟨_, rfl⟩
        rw [show xs_ps (xs_ap1 G1 G2) 48 = V from by rw [hV0, hG1, hG2]; rfl]
        refine xi_istore (q := 103) dX8_farthestApart_101 (Nat.le_of_ble_eq_true rfl) rfl ?_
        refine xi_iload (q := 105) dX8_farthestApart_103 rfl rfl ?_
        refine xi_iload (q := 107) dX8_farthestApart_105 rfl rfl ?_
        refine xi_icmp_le (q := 110) (q2 := 118) dX8_farthestApart_107 (by decide) rfl (fun c_107 => ?_) (fun c_107 => ?_)
        · refine xi_iinc (q := 121) dX8_farthestApart_118 rfl rfl (Nat.le_of_ble_eq_true rfl) rfl ?_
          rw [xn_s6]
          refine xi_goto (q := 11) dX8_farthestApart_121 (by decide) ?_
          refine xv_weakS (lv' := [(0, .ref 0), (1, .int one), (2, .int two), (3, .int B), (4, .int t.1), (5, .int t.2), (6, .int (nI (k + 1) - 6))]) ⟨rfl, rfl, rfl, rfl, rfl, rfl, rfl, trivial⟩ ?_
          exact ih (d - 1) (by omega) (k + 1) h9 t (by omega) S9 ⟨_, _, e4⟩ e5 (fun i hi => (eF i (by omega) (by omega) (by omega) (by omega) (by omega)).trans (hf0 i hi)) (by
            show _ = if (xs_fo (xs_fap f one two B) k).2 < xs_fap f one two B (nI k - 6) then (nI k - 6, xs_fap f one two B (nI k - 6)) else xs_fo (xs_fap f one two B) k
            rw [← ht, ← hV0]
            rw [if_neg (fun y => by rw [xn_lt] at y; rw [xn_le] at c_107; omega)])
        · refine xi_iload (q := 112) dX8_farthestApart_110 rfl rfl ?_
          refine xi_istore (q := 114) dX8_farthestApart_112 (Nat.le_of_ble_eq_true rfl) rfl ?_
          refine xi_iload (q := 116) dX8_farthestApart_114 rfl rfl ?_
          refine xi_istore (q := 118) dX8_farthestApart_116 (Nat.le_of_ble_eq_true rfl) rfl ?_
          refine xi_iinc (q := 121) dX8_farthestApart_118 rfl rfl (Nat.le_of_ble_eq_true rfl) rfl ?_
          rw [xn_s6]
          refine xi_goto (q := 11) dX8_farthestApart_121 (by decide) ?_
          refine xv_weakS (lv' := [(0, .ref 0), (1, .int one), (2, .int two), (3, .int B), (4, .int (nI k - 6)), (5, .int V), (6, .int (nI (k + 1) - 6))]) ⟨rfl, rfl, rfl, rfl, rfl, rfl, rfl, trivial⟩ ?_
          exact ih (d - 1) (by omega) (k + 1) h9 (nI k - 6, V) (by omega) S9 ⟨_, _, e4⟩ e5 (fun i hi => (eF i (by omega) (by omega) (by omega) (by omega) (by omega)).trans (hf0 i hi)) (by
            show _ = if (xs_fo (xs_fap f one two B) k).2 < xs_fap f one two B (nI k - 6) then (nI k - 6, xs_fap f one two B (nI k - 6)) else xs_fo (xs_fap f one two B) k
            rw [← ht, ← hV0]
            rw [if_pos (by rw [xn_lt]; rw [xn_le] at c_107; omega)])
  refine xi_bipush (x := (-6)) (q := 2) dX8_farthestApart_0 (by decide) rfl ?_
  refine xi_istore (q := 4) dX8_farthestApart_2 (Nat.le_of_ble_eq_true rfl) rfl ?_
  refine xi_iconst (x := (-1)) (q := 5) dX8_farthestApart_4 (by decide) rfl ?_
  refine xi_istore (q := 7) dX8_farthestApart_5 (Nat.le_of_ble_eq_true rfl) rfl ?_
  refine xi_bipush (x := (-6)) (q := 9) dX8_farthestApart_7 (by decide) rfl ?_
  refine xi_istore (q := 11) dX8_farthestApart_9 (Nat.le_of_ble_eq_true rfl) rfl ?_
  refine xv_weakS (lv' := [(0, .ref 0), (1, .int one), (2, .int two), (3, .int B), (4, .int ((-6, -1) : Int32 × Int32).1), (5, .int ((-6, -1) : Int32 × Int32).2), (6, .int (nI 0 - 6))]) ⟨rfl, rfl, rfl, rfl, rfl, rfl, rfl, trivial⟩ ?_
  exact L11 13 0 h (-6, -1) (by omega) hS h4 h5 (fun _ _ => rfl) rfl

def xs_next (σ : xs_Sg) (p one two b : Int32) : Int32 × xs_Sg := if (xs_i p 0 5 && (xs_i one 0 12 && (xs_i two 0 12 && (!decide (one = two) && xs_i b 0 2000)))) = true then (if σ 6 p.toNatClampNeg 0 = 0 then xs_fn σ 1 else xs_an σ (xs_fo (xs_fap (σ 4 p.toNatClampNeg) one two b) 13).1) else (-1000001, σ)
set_option maxRecDepth 20000 in
set_option maxHeartbeats 2000000 in
/-- next -/
theorem xm_X8_next : xv_K yX8_next mX8_next (fun as h n Post => ∃ (σ : xs_Sg) (p : Int32) (one : Int32) (two : Int32) (b : Int32), as = [.ref 0, .int p, .int one, .int two, .int b] ∧ (xs_S h σ) ∧ (83 ≤ n) ∧ (xs_V σ) ∧ xs_D h n Post (xs_next σ p one two b)) := by
  refine xv_entry (by decide +kernel) rfl (fun h => absurd h (by decide)) ?_
  rintro X _ h n Post ⟨σ, p, one, two, b, rfl, hS, h83, hV, hp⟩
  refine ⟨Nat.le_of_ble_eq_true rfl, ?_⟩
  show xv_V X mX8_next Post 0 0 0 [(0, .ref 0), (1, .int p), (2, .int one), (3, .int two), (4, .int b)] [] h n
  refine xi_iload_n (q := 1) dX8_next_0 rfl rfl ?_
  refine xv_cS1 (q := 4) xm_X8_isPlace ln_X8_125 dX8_next_1 ⟨(Nat.le_of_ble_eq_true rfl), (Nat.le_of_ble_eq_true rfl)⟩ (Nat.le_of_ble_eq_true rfl) ⟨rfl, rfl⟩ rfl (Nat.zero_le _) (Nat.zero_le _) ?_
  refine ⟨_, rfl, ?_⟩
  refine xi_if_eq (q := 7) (q2 := 34) dX8_next_4 (by decide) rfl (fun c_4 => ?_) (fun c_4 => ?_)
  · have g_4 : xs_i p 0 5 = false := decide_eq_false (xn_b0 c_4)
    refine xi_ldc (q := 36) dX8_next_34 kc_X8_81 rfl ?_
    refine xi_ret ⟨_, rfl, rfl, dX8_next_36⟩ (Nat.zero_le _) (Nat.zero_le _) ?_
    exact xs_fin hp (by simp only [xs_next, xs_onE, xs_onP, xs_fn, xs_an, Bool.not_false, Bool.not_true, Bool.true_or, Bool.false_or, Bool.and_true, Bool.true_and, Bool.and_false, Bool.false_and, Bool.false_eq_true, if_true, if_false, ↓reduceIte, g_4]) _ hS (fun i hi => rfl)
  · have g_4 : xs_i p 0 5 = true := decide_eq_true (xn_b1 c_4)
    obtain ⟨kp, hkp, rfl⟩ := xn_pk (m := 5) (by omega) (xn_b1 c_4)
    refine xi_iload_n (q := 8) dX8_next_7 rfl rfl ?_
    refine xv_cS1 (q := 11) xm_X8_isSickness ln_X8_149 dX8_next_8 ⟨(Nat.le_of_ble_eq_true rfl), (Nat.le_of_ble_eq_true rfl)⟩ (Nat.le_of_ble_eq_true rfl) ⟨rfl, rfl⟩ rfl (Nat.zero_le _) (Nat.zero_le _) ?_
    refine ⟨_, rfl, ?_⟩
    refine xi_if_eq (q := 14) (q2 := 34) dX8_next_11 (by decide) rfl (fun c_11 => ?_) (fun c_11 => ?_)
    · have g_11 : xs_i one 0 12 = false := decide_eq_false (xn_b0 c_11)
      refine xi_ldc (q := 36) dX8_next_34 kc_X8_81 rfl ?_
      refine xi_ret ⟨_, rfl, rfl, dX8_next_36⟩ (Nat.zero_le _) (Nat.zero_le _) ?_
      exact xs_fin hp (by simp only [xs_next, xs_onE, xs_onP, xs_fn, xs_an, Bool.not_false, Bool.not_true, Bool.true_or, Bool.false_or, Bool.and_true, Bool.true_and, Bool.and_false, Bool.false_and, Bool.false_eq_true, if_true, if_false, ↓reduceIte, g_4, g_11, xs_kk0 (k := kp) (by omega)]) _ hS (fun i hi => rfl)
    · have g_11 : xs_i one 0 12 = true := decide_eq_true (xn_b1 c_11)
      refine xi_iload_n (q := 15) dX8_next_14 rfl rfl ?_
      refine xv_cS1 (q := 18) xm_X8_isSickness ln_X8_149 dX8_next_15 ⟨(Nat.le_of_ble_eq_true rfl), (Nat.le_of_ble_eq_true rfl)⟩ (Nat.le_of_ble_eq_true rfl) ⟨rfl, rfl⟩ rfl (Nat.zero_le _) (Nat.zero_le _) ?_
      refine ⟨_, rfl, ?_⟩
      refine xi_if_eq (q := 21) (q2 := 34) dX8_next_18 (by decide) rfl (fun c_18 => ?_) (fun c_18 => ?_)
      · have g_18 : xs_i two 0 12 = false := decide_eq_false (xn_b0 c_18)
        refine xi_ldc (q := 36) dX8_next_34 kc_X8_81 rfl ?_
        refine xi_ret ⟨_, rfl, rfl, dX8_next_36⟩ (Nat.zero_le _) (Nat.zero_le _) ?_
        exact xs_fin hp (by simp only [xs_next, xs_onE, xs_onP, xs_fn, xs_an, Bool.not_false, Bool.not_true, Bool.true_or, Bool.false_or, Bool.and_true, Bool.true_and, Bool.and_false, Bool.false_and, Bool.false_eq_true, if_true, if_false, ↓reduceIte, g_4, g_11, g_18, xs_kk0 (k := kp) (by omega)]) _ hS (fun i hi => rfl)
      · have g_18 : xs_i two 0 12 = true := decide_eq_true (xn_b1 c_18)
        refine xi_iload_n (q := 22) dX8_next_21 rfl rfl ?_
        refine xi_iload_n (q := 23) dX8_next_22 rfl rfl ?_
        refine xi_icmp_eq (q := 26) (q2 := 34) dX8_next_23 (by decide) rfl (fun c_23 => ?_) (fun c_23 => ?_)
        · skip
          refine xi_ldc (q := 36) dX8_next_34 kc_X8_81 rfl ?_
          refine xi_ret ⟨_, rfl, rfl, dX8_next_36⟩ (Nat.zero_le _) (Nat.zero_le _) ?_
          exact xs_fin hp (by simp only [xs_next, xs_onE, xs_onP, xs_fn, xs_an, Bool.not_false, Bool.not_true, Bool.true_or, Bool.false_or, Bool.and_true, Bool.true_and, Bool.and_false, Bool.false_and, Bool.false_eq_true, if_true, if_false, ↓reduceIte, g_4, g_11, g_18, decide_eq_true c_23, xs_kk0 (k := kp) (by omega)]) _ hS (fun i hi => rfl)
        · skip
          refine xi_iload (q := 28) dX8_next_26 rfl rfl ?_
          refine xv_cS1 (q := 31) xm_X8_isBoiler ln_X8_204 dX8_next_28 ⟨(Nat.le_of_ble_eq_true rfl), (Nat.le_of_ble_eq_true rfl)⟩ (Nat.le_of_ble_eq_true rfl) ⟨rfl, rfl⟩ rfl (Nat.zero_le _) (Nat.zero_le _) ?_
          refine ⟨_, rfl, ?_⟩
          refine xi_if_ne (q := 34) (q2 := 37) dX8_next_31 (by decide) rfl (fun c_31 => ?_) (fun c_31 => ?_)
          · have g_31 : xs_i b 0 2000 = true := decide_eq_true (xn_b1 c_31)
            refine xi_aload_n (q := 38) dX8_next_37 rfl rfl ?_
            refine xi_iload_n (q := 39) dX8_next_38 rfl rfl ?_
            refine xv_cV1 (q := 42) xm_X8_engineAt ln_X8_142 dX8_next_39 ⟨by omega, hS.1.1⟩ rfl ⟨(Nat.le_of_ble_eq_true rfl), (Nat.le_of_ble_eq_true rfl)⟩ (Nat.le_of_ble_eq_true rfl) ⟨rfl, rfl⟩ rfl (Nat.zero_le _) (Nat.zero_le _) ?_
            refine ⟨_, kp, rfl, hS, by omega, by omega, fun hE39 => ?_, fun hE39 => ?_⟩
            · skip
              refine xi_astore (q := 44) dX8_next_42 (Nat.le_of_ble_eq_true rfl) rfl ?_
              refine xi_aload (q := 46) dX8_next_44 rfl rfl ?_
              refine xi_ifnonnull_r (q := 55) dX8_next_46 (by decide) ?_
              refine xi_aload_n (q := 56) dX8_next_55 rfl rfl ?_
              obtain ⟨f4_56, s4_56, t4_56, h4_56, h5_56⟩ := hS.2.2.2.2.2.1
              refine xi_getf (q := 59) dX8_next_56 fl_X8_28 ⟨by omega, hS.1.1⟩ rfl rfl ?_
              refine xi_aload (q := 61) dX8_next_59 rfl rfl ?_
              refine xv_cV1 (q := 64) xm_X0_resemble ln_X8_155 dX8_next_61 ⟨by omega, h4_56⟩ rfl ⟨(Nat.le_of_ble_eq_true rfl), (Nat.le_of_ble_eq_true rfl)⟩ (Nat.le_of_ble_eq_true rfl) ⟨rfl, rfl⟩ rfl (Nat.zero_le _) (Nat.zero_le _) ?_
              refine ⟨4, _, _, _, 59 + 2 * kp, _, _, _, rfl, by omega, h4_56, h5_56, by omega, (hS.2.2.1 kp (by omega)).1, (hS.2.2.1 kp (by omega)).2, by omega, fun h8 p1 p3 p2 => ?_⟩
              have S80 := xs_St1 hS ⟨_, _, _, p1, p3⟩ (fun i hi => p2 i (by omega) (by omega))
              refine xi_aload_n (q := 65) dX8_next_64 rfl rfl ?_
              refine xi_aload_n (q := 66) dX8_next_65 rfl rfl ?_
              refine xi_iload_n (q := 67) dX8_next_66 rfl rfl ?_
              refine xi_iload_n (q := 68) dX8_next_67 rfl rfl ?_
              refine xi_iload (q := 70) dX8_next_68 rfl rfl ?_
              refine xv_cV3 (q := 73) xm_X8_farthestApart ln_X8_274 dX8_next_70 ⟨by omega, S80.1.1⟩ rfl ⟨(Nat.le_of_ble_eq_true rfl), (Nat.le_of_ble_eq_true rfl)⟩ (Nat.le_of_ble_eq_true rfl) ⟨rfl, rfl⟩ rfl (Nat.zero_le _) (Nat.zero_le _) ?_
              refine ⟨σ, one, two, b, σ 4 kp, rfl, S80, by omega, (hV.2.2.2.1 kp (by omega) hE39).1, ⟨by have := (xn_gI g_31).1; exact this, by have := (xn_gI g_31).2; exact this⟩, ⟨_, _, p1⟩, p3, fun h9 S92 q2 => ?_⟩
              obtain ⟨V, hV0⟩ : ∃ V, V = xs_fo (xs_fap (σ 4 kp) one two b) 13 := ⟨_, rfl⟩
              rw [← hV0]
              refine xv_cV1 (q := 76) xm_X8_answered ln_X8_90 dX8_next_73 ⟨by omega, S92.1.1⟩ rfl ⟨(Nat.le_of_ble_eq_true rfl), (Nat.le_of_ble_eq_true rfl)⟩ (Nat.le_of_ble_eq_true rfl) ⟨rfl, rfl⟩ rfl (Nat.zero_le _) (Nat.zero_le _) ?_
              refine ⟨_, _, rfl, S92, by omega, fun H1 S1 F1 => ?_⟩
              refine xi_ret ⟨_, rfl, rfl, dX8_next_76⟩ (Nat.zero_le _) (Nat.zero_le _) ?_
              exact xs_fin hp (by simp only [xs_next, xs_onE, xs_onP, xs_fn, xs_an, Bool.not_false, Bool.not_true, Bool.true_or, Bool.false_or, Bool.and_true, Bool.true_and, Bool.and_false, Bool.false_and, Bool.false_eq_true, if_true, if_false, ↓reduceIte, g_4, g_11, g_18, decide_eq_false c_23, g_31, hE39, ← hV0, xs_kk0 (k := kp) (by omega)]) _ S1 (fun i hi => (F1 i (by omega)).trans ((q2 i hi).trans ((p2 i (by omega) (by omega)).trans (rfl))))
            · skip
              refine xi_astoreN (q := 44) dX8_next_42 (Nat.le_of_ble_eq_true rfl) rfl ?_
              refine xi_aloadN (q := 46) dX8_next_44 rfl rfl ?_
              refine xi_ifnonnull_n (q := 49) dX8_next_46 rfl ?_
              refine xi_aload_n (q := 50) dX8_next_49 rfl rfl ?_
              refine xi_iconst (x := 1) (q := 51) dX8_next_50 (by decide) rfl ?_
              refine xv_cV1 (q := 54) xm_X8_found ln_X8_82 dX8_next_51 ⟨by omega, hS.1.1⟩ rfl ⟨(Nat.le_of_ble_eq_true rfl), (Nat.le_of_ble_eq_true rfl)⟩ (Nat.le_of_ble_eq_true rfl) ⟨rfl, rfl⟩ rfl (Nat.zero_le _) (Nat.zero_le _) ?_
              refine ⟨_, _, rfl, hS, by omega, fun H2 S2 F2 => ?_⟩
              refine xi_ret ⟨_, rfl, rfl, dX8_next_54⟩ (Nat.zero_le _) (Nat.zero_le _) ?_
              exact xs_fin hp (by simp only [xs_next, xs_onE, xs_onP, xs_fn, xs_an, Bool.not_false, Bool.not_true, Bool.true_or, Bool.false_or, Bool.and_true, Bool.true_and, Bool.and_false, Bool.false_and, Bool.false_eq_true, if_true, if_false, ↓reduceIte, g_4, g_11, g_18, decide_eq_false c_23, g_31, eq_true hE39, xs_kk0 (k := kp) (by omega)]) _ S2 (fun i hi => (F2 i (by omega)).trans (rfl))
          · have g_31 : xs_i b 0 2000 = false := decide_eq_false (xn_b0 c_31)
            refine xi_ldc (q := 36) dX8_next_34 kc_X8_81 rfl ?_
            refine xi_ret ⟨_, rfl, rfl, dX8_next_36⟩ (Nat.zero_le _) (Nat.zero_le _) ?_
            exact xs_fin hp (by simp only [xs_next, xs_onE, xs_onP, xs_fn, xs_an, Bool.not_false, Bool.not_true, Bool.true_or, Bool.false_or, Bool.and_true, Bool.true_and, Bool.and_false, Bool.false_and, Bool.false_eq_true, if_true, if_false, ↓reduceIte, g_4, g_11, g_18, decide_eq_false c_23, g_31, xs_kk0 (k := kp) (by omega)]) _ hS (fun i hi => rfl)

