theorem xn_dr1b {f : Nat → Int32} {s m B d : Int32} (hf : xs_ok f) (hB : 0 ≤ B.toInt ∧ B.toInt ≤ 2000) {k : Nat} (hk : k ≤ 100) : 0 ≤ (xs_dr1 f s m B d k).toInt ∧ (xs_dr1 f s m B d k).toInt ≤ 2400000 := by
  have h1 := (xn_step (s := s) (m := m) (d := d) (k := nI (96 + k)) hf (by rw [xn_NI (by omega)]; omega) hB (by rw [show nI (96 + k) - 1 = nI (95 + k) by rw [show 96 + k = (95 + k) + 1 by omega]; exact xn_m1 _]; exact xn_pr (s := s) (m := m) hf hB (95 + k) (by omega))).2
  have h2 := xn_romb (d := d) (k := nI (96 + k)) hf (by rw [xn_NI (by omega)]; omega)
  unfold xs_dr1
  split
  · rename_i h3
    rw [xn_lt, show (0 : Int32).toInt = 0 from rfl] at h3
    have h1' : (xs_cm f s m B d k).toInt ≤ 2000 := h1
    rw [Int64.toInt_mul, Int32.toInt_toInt64, Int32.toInt_toInt64]
    have h4 : 0 ≤ (xs_cm f s m B d k).toInt * (xs_rom f d (nI (96 + k))).toInt := Int.mul_nonneg (by omega) (by omega)
    have h5 : (xs_cm f s m B d k).toInt * (xs_rom f d (nI (96 + k))).toInt ≤ 2000 * 1200 := Int.mul_le_mul h1' h2.2 (by omega) (by omega)
    rw [Int.bmod_eq_of_le (by omega) (by omega)]
    omega
  · decide
theorem xn_psLb {g : Nat → Int64} (hg : ∀ j, j < 100 → 0 ≤ (g j).toInt ∧ (g j).toInt ≤ 2400000) : ∀ k : Nat, k ≤ 100 → 0 ≤ (xs_psL g k).toInt ∧ (xs_psL g k).toInt ≤ 2400000 * k
  | 0, _ => by
    show 0 ≤ (0 : Int64).toInt ∧ (0 : Int64).toInt ≤ 2400000 * ((0 : Nat) : Int)
    decide
  | k + 1, hk => by
    have h1 := xn_psLb hg k (by omega)
    have h2 := hg k (by omega)
    show 0 ≤ (xs_psL g k + g k).toInt ∧ (xs_psL g k + g k).toInt ≤ 2400000 * ((k + 1 : Nat) : Int)
    rw [Int64.toInt_add, Int.bmod_eq_of_le (by omega) (by omega)]
    omega
theorem xn_drkb {f : Nat → Int32} {s m B : Int32} (hf : xs_ok f) (hB : 0 ≤ B.toInt ∧ B.toInt ≤ 2000) : 0 ≤ (xs_drk f s m B).toInt ∧ (xs_drk f s m B).toInt ≤ 230400 := by
  have h0 := xn_psLb (g := xs_dr1 f s m B 0) (fun j hj => xn_dr1b hf hB (by omega)) 48 (by omega)
  have h1 := xn_psLb (g := xs_dr1 f s m B 1) (fun j hj => xn_dr1b hf hB (by omega)) 48 (by omega)
  have e : (xs_dr f s m B 0 + xs_dr f s m B 1).toInt = (xs_dr f s m B 0).toInt + (xs_dr f s m B 1).toInt := by
    unfold xs_dr
    rw [Int64.toInt_add, Int.bmod_eq_of_le (by omega) (by omega)]
  have h0' : 0 ≤ (xs_dr f s m B 0).toInt ∧ (xs_dr f s m B 0).toInt ≤ 2400000 * 48 := h0
  have h1' : 0 ≤ (xs_dr f s m B 1).toInt ∧ (xs_dr f s m B 1).toInt ≤ 2400000 * 48 := h1
  unfold xs_drk
  rw [Int64.toInt_toInt32, Int64.toInt_div_of_ne_right _ _ (by decide), e, show (1000 : Int64).toInt = 1000 from rfl, Int.tdiv_eq_ediv_of_nonneg (by omega), Int.bmod_eq_of_le (by omega) (by omega)]
  omega
theorem xn_bcc {M M' C C' : Nat → Nat → Nat} {n : Nat} (h : ∀ s c, s < n → M s c = M' s c ∧ C s c = C' s c) : ∀ r t, r ≤ n → xs_bc M C n r t = xs_bc M' C' n r t
  | 0, _, _ => rfl
  | r + 1, t, hr => by
    show xs_mn (xs_cand (M (n - (r + 1))) (C (n - (r + 1))) (xs_bc M C n r) t) 24 = xs_mn (xs_cand (M' (n - (r + 1))) (C' (n - (r + 1))) (xs_bc M' C' n r) t) 24
    rw [show M (n - (r + 1)) = M' (n - (r + 1)) from funext fun c => (h _ c (by omega)).1, show C (n - (r + 1)) = C' (n - (r + 1)) from funext fun c => (h _ c (by omega)).2, show xs_bc M C n r = xs_bc M' C' n r from funext fun t => xn_bcc h r t (by omega)]
theorem xn_kkc {M M' C C' : Nat → Nat → Nat} {n : Nat} (h : ∀ s c, s < n → M s c = M' s c ∧ C s c = C' s c) : ∀ r t ke, r ≤ n → xs_kk M C n r t ke = xs_kk M' C' n r t ke
  | 0, _, _, _ => rfl
  | r + 1, t, ke, hr => by
    show xs_kk M C n r (t - M (n - (r + 1)) (xs_fc (xs_cand (M (n - (r + 1))) (C (n - (r + 1))) (xs_bc M C n r) t) ((xs_bc M C n (r + 1) t).getD 0) 24 0)) (xs_kp ke (n - (r + 1)) (xs_fc (xs_cand (M (n - (r + 1))) (C (n - (r + 1))) (xs_bc M C n r) t) ((xs_bc M C n (r + 1) t).getD 0) 24 0) (M (n - (r + 1))) (C (n - (r + 1)))) = xs_kk M' C' n r (t - M' (n - (r + 1)) (xs_fc (xs_cand (M' (n - (r + 1))) (C' (n - (r + 1))) (xs_bc M' C' n r) t) ((xs_bc M' C' n (r + 1) t).getD 0) 24 0)) (xs_kp ke (n - (r + 1)) (xs_fc (xs_cand (M' (n - (r + 1))) (C' (n - (r + 1))) (xs_bc M' C' n r) t) ((xs_bc M' C' n (r + 1) t).getD 0) 24 0) (M' (n - (r + 1))) (C' (n - (r + 1))))
    rw [show M (n - (r + 1)) = M' (n - (r + 1)) from funext fun c => (h _ c (by omega)).1, show C (n - (r + 1)) = C' (n - (r + 1)) from funext fun c => (h _ c (by omega)).2, xn_bcc h (r + 1) t hr, show xs_bc M C n r = xs_bc M' C' n r from funext fun t => xn_bcc h r t (by omega)]
    exact xn_kkc h r _ _ (by omega)
def xs_wo (σ : xs_Sg) (j : Nat) (b : Int32) (c : Nat) : Int32 := xs_wrk (σ 4 j) (σ 5 j 0) (nI (1 + c / 4)) (b * nI (1 + c % 4) / 4)
def xs_do (σ : xs_Sg) (j : Nat) (b : Int32) (c : Nat) : Int32 := xs_drk (σ 4 j) (σ 5 j 0) (nI (1 + c / 4)) (b * nI (1 + c % 4) / 4)
def xs_ro (σ : xs_Sg) (s a : Nat) (t : Nat) : Int32 := σ 3 s (a + t)
def xs_rnr (σ : xs_Sg) (o : Option Nat) (ke : Nat → Int32) (N : Nat) : Int32 × xs_Sg := match o with
  | none => (-1000000, xs_fd σ 0)
  | some v => (nI v, xs_fd (xs_pl σ (nI N) ke) 0)
def xs_rMC (σ : xs_Sg) (P S I : Nat) (b : Int32) : (Nat → Nat → Nat) × (Nat → Nat → Nat) := (xs_M (xs_wo σ P b) (xs_ro σ S I), xs_C (xs_do σ P b) (xs_ro σ S I))
def xs_rno (σ : xs_Sg) (P S I N l : Nat) (b : Int32) : Int32 × xs_Sg := xs_rnr σ (xs_bc (xs_rMC σ P S I b).1 (xs_rMC σ P S I b).2 N N l) (xs_kk (xs_rMC σ P S I b).1 (xs_rMC σ P S I b).2 N N l (σ 12 0)) N
def xs_run (σ : xs_Sg) (p b w s i q : Int32) : Int32 × xs_Sg := if (xs_i p 0 5 && (xs_i b 0 2000 && (xs_i w 0 1000 && (xs_i s 0 7 && xs_i q 1 10)))) = true then (if σ 6 p.toNatClampNeg 0 = 0 then xs_fn σ 1 else if σ 0 s.toNatClampNeg 0 = 0 then xs_fn σ 1 else if xs_has i (3 * q) (σ 2 s.toNatClampNeg 0) = true then (if xs_all (fun t => xs_rvb (σ 3 s.toNatClampNeg) (i.toNatClampNeg + 3 * t)) q.toNatClampNeg = true then xs_rno σ p.toNatClampNeg s.toNatClampNeg i.toNatClampNeg q.toNatClampNeg w.toNatClampNeg b else (-1000001, σ)) else xs_fn σ 2) else (-1000001, σ)
set_option maxRecDepth 20000 in
set_option maxHeartbeats 2000000 in
/-- run -/
theorem xm_X8_run : xv_K yX8_run mX8_run (fun as h n Post => ∃ (σ : xs_Sg) (p : Int32) (b : Int32) (w : Int32) (s : Int32) (i : Int32) (q : Int32), as = [.ref 0, .int p, .int b, .int w, .int s, .int i, .int q] ∧ (xs_S h σ) ∧ (83 ≤ n) ∧ (xs_V σ) ∧ xs_D h n Post (xs_run σ p b w s i q)) := by
  refine xv_entry (by decide +kernel) rfl (fun h => absurd h (by decide)) ?_
  rintro X _ h n Post ⟨σ, p, b, w, s, i, q, rfl, hS, h83, hV, hp⟩
  refine ⟨Nat.le_of_ble_eq_true rfl, ?_⟩
  show xv_V X mX8_run Post 0 0 0 [(0, .ref 0), (1, .int p), (2, .int b), (3, .int w), (4, .int s), (5, .int i), (6, .int q)] [] h n
  refine xi_iload_n (q := 1) dX8_run_0 rfl rfl ?_
  refine xv_cS1 (q := 4) xm_X8_isPlace ln_X8_125 dX8_run_1 ⟨(Nat.le_of_ble_eq_true rfl), (Nat.le_of_ble_eq_true rfl)⟩ (Nat.le_of_ble_eq_true rfl) ⟨rfl, rfl⟩ rfl (Nat.zero_le _) (Nat.zero_le _) ?_
  refine ⟨_, rfl, ?_⟩
  refine xi_if_eq (q := 7) (q2 := 47) dX8_run_4 (by decide) rfl (fun c_4 => ?_) (fun c_4 => ?_)
  · have g_4 : xs_i p 0 5 = false := decide_eq_false (xn_b0 c_4)
    refine xi_ldc (q := 49) dX8_run_47 kc_X8_81 rfl ?_
    refine xi_ret ⟨_, rfl, rfl, dX8_run_49⟩ (Nat.zero_le _) (Nat.zero_le _) ?_
    exact xs_fin hp (by simp only [xs_run, xs_onE, xs_onP, xs_fn, xs_an, Bool.not_false, Bool.not_true, Bool.true_or, Bool.false_or, Bool.and_true, Bool.true_and, Bool.and_false, Bool.false_and, Bool.false_eq_true, if_true, if_false, ↓reduceIte, g_4]) _ hS (fun i hi => rfl)
  · have g_4 : xs_i p 0 5 = true := decide_eq_true (xn_b1 c_4)
    obtain ⟨kp, hkp, rfl⟩ := xn_pk (m := 5) (by omega) (xn_b1 c_4)
    refine xi_iload_n (q := 8) dX8_run_7 rfl rfl ?_
    refine xv_cS1 (q := 11) xm_X8_isBoiler ln_X8_204 dX8_run_8 ⟨(Nat.le_of_ble_eq_true rfl), (Nat.le_of_ble_eq_true rfl)⟩ (Nat.le_of_ble_eq_true rfl) ⟨rfl, rfl⟩ rfl (Nat.zero_le _) (Nat.zero_le _) ?_
    refine ⟨_, rfl, ?_⟩
    refine xi_if_eq (q := 14) (q2 := 47) dX8_run_11 (by decide) rfl (fun c_11 => ?_) (fun c_11 => ?_)
    · have g_11 : xs_i b 0 2000 = false := decide_eq_false (xn_b0 c_11)
      refine xi_ldc (q := 49) dX8_run_47 kc_X8_81 rfl ?_
      refine xi_ret ⟨_, rfl, rfl, dX8_run_49⟩ (Nat.zero_le _) (Nat.zero_le _) ?_
      exact xs_fin hp (by simp only [xs_run, xs_onE, xs_onP, xs_fn, xs_an, Bool.not_false, Bool.not_true, Bool.true_or, Bool.false_or, Bool.and_true, Bool.true_and, Bool.and_false, Bool.false_and, Bool.false_eq_true, if_true, if_false, ↓reduceIte, g_4, g_11, xs_kk0 (k := kp) (by omega)]) _ hS (fun i hi => rfl)
    · have g_11 : xs_i b 0 2000 = true := decide_eq_true (xn_b1 c_11)
      refine xi_iload_n (q := 15) dX8_run_14 rfl rfl ?_
      refine xi_iconst (x := 0) (q := 16) dX8_run_15 (by decide) rfl ?_
      refine xi_sipush (x := 1000) (q := 19) dX8_run_16 (by decide) rfl ?_
      refine xv_cS3 (q := 22) xm_X8_within ln_X8_77 dX8_run_19 ⟨(Nat.le_of_ble_eq_true rfl), (Nat.le_of_ble_eq_true rfl)⟩ (Nat.le_of_ble_eq_true rfl) ⟨rfl, rfl⟩ rfl (Nat.zero_le _) (Nat.zero_le _) ?_
      refine ⟨_, _, _, rfl, ?_⟩
      refine xi_if_eq (q := 25) (q2 := 47) dX8_run_22 (by decide) rfl (fun c_22 => ?_) (fun c_22 => ?_)
      · have g_22 : xs_i w 0 1000 = false := decide_eq_false (xn_b0 c_22)
        refine xi_ldc (q := 49) dX8_run_47 kc_X8_81 rfl ?_
        refine xi_ret ⟨_, rfl, rfl, dX8_run_49⟩ (Nat.zero_le _) (Nat.zero_le _) ?_
        exact xs_fin hp (by simp only [xs_run, xs_onE, xs_onP, xs_fn, xs_an, Bool.not_false, Bool.not_true, Bool.true_or, Bool.false_or, Bool.and_true, Bool.true_and, Bool.and_false, Bool.false_and, Bool.false_eq_true, if_true, if_false, ↓reduceIte, g_4, g_11, g_22, xs_kk0 (k := kp) (by omega)]) _ hS (fun i hi => rfl)
      · have g_22 : xs_i w 0 1000 = true := decide_eq_true (xn_b1 c_22)
        refine xi_iload (q := 27) dX8_run_25 rfl rfl ?_
        refine xi_iconst (x := 0) (q := 28) dX8_run_27 (by decide) rfl ?_
        refine xi_bipush (x := 7) (q := 30) dX8_run_28 (by decide) rfl ?_
        refine xv_cS3 (q := 33) xm_X8_within ln_X8_77 dX8_run_30 ⟨(Nat.le_of_ble_eq_true rfl), (Nat.le_of_ble_eq_true rfl)⟩ (Nat.le_of_ble_eq_true rfl) ⟨rfl, rfl⟩ rfl (Nat.zero_le _) (Nat.zero_le _) ?_
        refine ⟨_, _, _, rfl, ?_⟩
        refine xi_if_eq (q := 36) (q2 := 47) dX8_run_33 (by decide) rfl (fun c_33 => ?_) (fun c_33 => ?_)
        · have g_33 : xs_i s 0 7 = false := decide_eq_false (xn_b0 c_33)
          refine xi_ldc (q := 49) dX8_run_47 kc_X8_81 rfl ?_
          refine xi_ret ⟨_, rfl, rfl, dX8_run_49⟩ (Nat.zero_le _) (Nat.zero_le _) ?_
          exact xs_fin hp (by simp only [xs_run, xs_onE, xs_onP, xs_fn, xs_an, Bool.not_false, Bool.not_true, Bool.true_or, Bool.false_or, Bool.and_true, Bool.true_and, Bool.and_false, Bool.false_and, Bool.false_eq_true, if_true, if_false, ↓reduceIte, g_4, g_11, g_22, g_33, xs_kk0 (k := kp) (by omega)]) _ hS (fun i hi => rfl)
        · have g_33 : xs_i s 0 7 = true := decide_eq_true (xn_b1 c_33)
          obtain ⟨ks, hks, rfl⟩ := xn_pk (m := 7) (by omega) (xn_b1 c_33)
          refine xi_iload (q := 38) dX8_run_36 rfl rfl ?_
          refine xi_iconst (x := 1) (q := 39) dX8_run_38 (by decide) rfl ?_
          refine xi_bipush (x := 10) (q := 41) dX8_run_39 (by decide) rfl ?_
          refine xv_cS3 (q := 44) xm_X8_within ln_X8_77 dX8_run_41 ⟨(Nat.le_of_ble_eq_true rfl), (Nat.le_of_ble_eq_true rfl)⟩ (Nat.le_of_ble_eq_true rfl) ⟨rfl, rfl⟩ rfl (Nat.zero_le _) (Nat.zero_le _) ?_
          refine ⟨_, _, _, rfl, ?_⟩
          refine xi_if_ne (q := 47) (q2 := 50) dX8_run_44 (by decide) rfl (fun c_44 => ?_) (fun c_44 => ?_)
          · have g_44 : xs_i q 1 10 = true := decide_eq_true (xn_b1 c_44)
            obtain ⟨N, hN, rfl⟩ : ∃ N, (1 ≤ N ∧ N ≤ 10) ∧ q = nI N := by
              have z := xn_gI g_44
              rw [show (1 : Int32).toInt = 1 from rfl, show (10 : Int32).toInt = 10 from rfl] at z
              exact ⟨q.toNatClampNeg, by show 1 ≤ q.toInt.toNat ∧ q.toInt.toNat ≤ 10; omega, xn_ofI (by omega)⟩
            obtain ⟨l, hl, rfl⟩ := xn_pk (m := 1000) (by omega) (xn_gi g_22)
            refine xi_aload_n (q := 51) dX8_run_50 rfl rfl ?_
            refine xi_iload_n (q := 52) dX8_run_51 rfl rfl ?_
            refine xv_cV1 (q := 55) xm_X8_engineAt ln_X8_142 dX8_run_52 ⟨by omega, hS.1.1⟩ rfl ⟨(Nat.le_of_ble_eq_true rfl), (Nat.le_of_ble_eq_true rfl)⟩ (Nat.le_of_ble_eq_true rfl) ⟨rfl, rfl⟩ rfl (Nat.zero_le _) (Nat.zero_le _) ?_
            refine ⟨_, kp, rfl, hS, by omega, by omega, fun hE52 => ?_, fun hE52 => ?_⟩
            · skip
              refine xi_astore (q := 57) dX8_run_55 (Nat.le_of_ble_eq_true rfl) rfl ?_
              refine xi_aload_n (q := 58) dX8_run_57 rfl rfl ?_
              refine xi_iload (q := 60) dX8_run_58 rfl rfl ?_
              refine xv_cV1 (q := 63) xm_X8_sheetAt ln_X8_93 dX8_run_60 ⟨by omega, hS.1.1⟩ rfl ⟨(Nat.le_of_ble_eq_true rfl), (Nat.le_of_ble_eq_true rfl)⟩ (Nat.le_of_ble_eq_true rfl) ⟨rfl, rfl⟩ rfl (Nat.zero_le _) (Nat.zero_le _) ?_
              refine ⟨_, ks, rfl, hS, by omega, by omega, fun hE60 => ?_, fun hE60 => ?_⟩
              · skip
                refine xi_astore (q := 65) dX8_run_63 (Nat.le_of_ble_eq_true rfl) rfl ?_
                refine xi_aload (q := 67) dX8_run_65 rfl rfl ?_
                refine xi_ifnull_r (q := 70) dX8_run_67 rfl ?_
                refine xi_aload (q := 72) dX8_run_70 rfl rfl ?_
                refine xi_ifnonnull_r (q := 81) dX8_run_72 (by decide) ?_
                refine xi_aload (q := 83) dX8_run_81 rfl rfl ?_
                refine xi_iload (q := 85) dX8_run_83 rfl rfl ?_
                refine xi_iconst (x := 3) (q := 86) dX8_run_85 (by decide) rfl ?_
                refine xi_iload (q := 88) dX8_run_86 rfl rfl ?_
                refine xi_imul (q := 89) dX8_run_88 rfl ?_
                refine xv_cV2 (q := 92) xm_X7_has ln_X8_97 dX8_run_89 ⟨by omega, (hS.2.1 ks (by omega)).1⟩ rfl ⟨(Nat.le_of_ble_eq_true rfl), (Nat.le_of_ble_eq_true rfl)⟩ (Nat.le_of_ble_eq_true rfl) ⟨rfl, rfl⟩ rfl (Nat.zero_le _) (Nat.zero_le _) ?_
                refine ⟨43 + 2 * ks, _, _, _, _, i, 3 * nI N, rfl, by omega, (hS.2.1 ks (by omega)).1, (hS.2.1 ks (by omega)).2, ?_⟩
                refine xi_if_ne (q := 95) (q2 := 101) dX8_run_92 (by decide) rfl (fun c_92 => ?_) (fun c_92 => ?_)
                · obtain ⟨a, ha, rfl⟩ := xn_hasA (m := 3 * N) (by omega) (show xs_has i (nI (3 * N)) (σ 2 ks 0) = true by rw [← (pk_mul 3 N : (3 * nI N : Int32) = nI (3 * N))]; exact xn_b1 c_92) (hV.2.1 ks (by omega) hE60).1.2
                  refine xi_aload_n (q := 102) dX8_run_101 rfl rfl ?_
                  obtain ⟨st_102, wo_102, dr_102, ro_102, lc_102, hL_102⟩ := hS.2.2.2.2.2.2.2.2.2.2
                  refine xi_getf (q := 105) dX8_run_102 fl_X8_61 ⟨by omega, hS.1.1⟩ rfl rfl ?_
                  refine xi_aload (q := 107) dX8_run_105 rfl rfl ?_
                  refine xi_iload (q := 109) dX8_run_107 rfl rfl ?_
                  refine xi_iload (q := 111) dX8_run_109 rfl rfl ?_
                  refine xv_cV3 (q := 114) xm_X6_takesRoad ln_X8_277 dX8_run_111 ⟨by omega, hL_102.1⟩ rfl ⟨(Nat.le_of_ble_eq_true rfl), (Nat.le_of_ble_eq_true rfl)⟩ (Nat.le_of_ble_eq_true rfl) ⟨rfl, rfl⟩ rfl (Nat.zero_le _) (Nat.zero_le _) ?_
                  refine ⟨_, _, _, _, _, _, _, 43 + 2 * ks, _, _, _, _, a, N, rfl, hL_102, by omega, by omega, (hS.2.1 ks (by omega)).1, (hS.2.1 ks (by omega)).2, hN, by omega, by omega, fun h9 st9 ro9 r9 q1 q2 q3 q4 => ?_⟩
                  have S90 := xs_St6 hS ⟨_, _, _, _, _, q1⟩ q2
                  refine xi_if_ne (q := 117) (q2 := 120) dX8_run_114 (by decide) rfl (fun c_114 => ?_) (fun c_114 => ?_)
                  · have hAll : xs_all (fun s => xs_rvb (σ 3 ks) (a + 3 * s)) N = true := xn_b1 (by rw [← q3]; exact c_114)
                    obtain ⟨rfl, qb⟩ := q4 hAll
                    refine xi_aload_n (q := 121) dX8_run_120 rfl rfl ?_
                    refine xi_getf (q := 124) dX8_run_121 fl_X8_61 ⟨by omega, S90.1.1⟩ rfl rfl ?_
                    refine xi_aload (q := 126) dX8_run_124 rfl rfl ?_
                    refine xi_iload_n (q := 127) dX8_run_126 rfl rfl ?_
                    refine xi_aload_n (q := 128) dX8_run_127 rfl rfl ?_
                    obtain ⟨dn_128, wk_128, dk_128, r1_128, r2_128, r3_128, r4_128, hP_128⟩ := S90.2.2.2.2.2.2.2.2.1
                    refine xi_getf (q := 131) dX8_run_128 fl_X8_47 ⟨by omega, S90.1.1⟩ rfl rfl ?_
                    refine xv_cV3 (q := 134) xm_X6_tryOut ln_X8_281 dX8_run_131 ⟨by omega, q1.1⟩ rfl ⟨(Nat.le_of_ble_eq_true rfl), (Nat.le_of_ble_eq_true rfl)⟩ (Nat.le_of_ble_eq_true rfl) ⟨rfl, rfl⟩ rfl (Nat.zero_le _) (Nat.zero_le _) ?_
                    refine ⟨_, _, _, _, _, _, _, _, _, _, _, _, _, _, 59 + 2 * kp, _, _, _, b, rfl, by omega, (S90.2.2.1 kp (by omega)).1, (S90.2.2.1 kp (by omega)).2, hP_128, by omega, q1, by omega, by omega, (hV.2.2.2.1 kp (by omega) hE52).1, ⟨by have := (xn_gI g_11).1; exact this, by have := (xn_gI g_11).2; exact this⟩, fun h8 dn8 wk8 dk8 r1 r2 r3 r4 p1 p2 p3 => ?_⟩
                    have S80 := xs_St46 S90 ⟨_, _, _, _, _, _, _, p1⟩ ⟨_, _, _, _, _, p2⟩ p3
                    refine xi_aload_n (q := 135) dX8_run_134 rfl rfl ?_
                    refine xi_aload_n (q := 136) dX8_run_135 rfl rfl ?_
                    refine xi_getf (q := 139) dX8_run_136 fl_X8_61 ⟨by omega, S80.1.1⟩ rfl rfl ?_
                    refine xi_iload_n (q := 140) dX8_run_139 rfl rfl ?_
                    refine xv_cV1 (q := 143) xm_X6_choose ln_X8_285 dX8_run_140 ⟨by omega, p2.1⟩ rfl ⟨(Nat.le_of_ble_eq_true rfl), (Nat.le_of_ble_eq_true rfl)⟩ (Nat.le_of_ble_eq_true rfl) ⟨rfl, rfl⟩ rfl (Nat.zero_le _) (Nat.zero_le _) ?_
                    have hrv : ∀ s, s < N → xs_rv ro9 s := fun s hs => xn_rvb (it := σ 3 ks) (a := a) (xn_allI hAll s hs) (fun j hj => by
                      rw [show a + 3 * s + j = a + (3 * s + j) by omega]
                      exact qb _ (by omega))
                    have hMC : ∀ s c, s < N → xs_M (xs_wo σ kp b) ro9 s c = (xs_rMC σ kp ks a b).1 s c ∧ xs_C (xs_do σ kp b) ro9 s c = (xs_rMC σ kp ks a b).2 s c := fun s c hs => by
                      constructor
                      · show xs_Mn (xs_sp (xs_wo σ kp b c) (ro9 (3 * s + 1))) (ro9 (3 * s)) (ro9 (3 * s + 2)) = xs_Mn (xs_sp (xs_wo σ kp b c) (σ 3 ks (a + (3 * s + 1)))) (σ 3 ks (a + (3 * s))) (σ 3 ks (a + (3 * s + 2)))
                        rw [qb _ (by omega), qb _ (by omega), qb _ (by omega)]
                      · show xs_Cn (xs_do σ kp b c) (ro9 (3 * s)) = xs_Cn (xs_do σ kp b c) (σ 3 ks (a + (3 * s)))
                        rw [qb _ (by omega)]
                    refine ⟨_, xs_wo σ kp b, xs_do σ kp b, ro9, _, _, N, l, rfl, p2, by omega, hN, hl, hrv, fun c hc => ?_, fun ho h6 lc6 u1 u2 => ?_, fun v ho h6 lc6 u1 u2 => ?_⟩
                    · have z := xn_drkb (f := σ 4 kp) (s := σ 5 kp 0) (m := nI (1 + c / 4)) (B := b * nI (1 + c % 4) / 4) (hV.2.2.2.1 kp (by omega) hE52).1 (xn_B ⟨by have := (xn_gI g_11).1; exact this, by have := (xn_gI g_11).2; exact this⟩ ⟨by rw [xn_NI (by omega)]; omega, by rw [xn_NI (by omega)]; omega⟩)
                      exact ⟨z.1, Int.le_trans z.2 (by decide)⟩
                    · rw [xn_bcc hMC N l (Nat.le_refl _)] at ho
                      have S60 := xs_St6 S80 ⟨_, _, _, _, _, u1⟩ u2
                      refine xv_cV1 (q := 146) xm_X8_answered ln_X8_90 dX8_run_143 ⟨by omega, S60.1.1⟩ rfl ⟨(Nat.le_of_ble_eq_true rfl), (Nat.le_of_ble_eq_true rfl)⟩ (Nat.le_of_ble_eq_true rfl) ⟨rfl, rfl⟩ rfl (Nat.zero_le _) (Nat.zero_le _) ?_
                      refine ⟨_, _, rfl, S60, by omega, fun H1 S1 F1 => ?_⟩
                      refine xi_ret ⟨_, rfl, rfl, dX8_run_146⟩ (Nat.zero_le _) (Nat.zero_le _) ?_
                      exact xs_fin hp (by simp only [xs_run, xs_onE, xs_onP, xs_fn, xs_an, Bool.not_false, Bool.not_true, Bool.true_or, Bool.false_or, Bool.and_true, Bool.true_and, Bool.and_false, Bool.false_and, Bool.false_eq_true, if_true, if_false, ↓reduceIte, g_4, g_11, g_22, g_33, g_44, xs_kk0 (k := N) (by omega), xs_kk0 (k := l) (by omega), hE52, hE60, (xn_b1 c_92 : xs_has (nI a) (3 * nI N) (σ 2 ks 0) = true), xs_kk0 (k := a) (by omega), hAll, xs_rno, ho, xs_rnr, xs_kk0 (k := kp) (by omega), xs_kk0 (k := ks) (by omega)]) _ S1 (fun i hi => (F1 i (by omega)).trans ((u2 i (by omega)).trans ((p3 i (by omega) (by omega)).trans ((q2 i (by omega)).trans rfl))))
                    · rw [xn_bcc hMC N l (Nat.le_refl _)] at ho
                      rw [xn_kkc hMC N l _ (Nat.le_refl _)] at u1
                      have S60 := xs_Spl S80 ⟨_, _, _, _, _, u1⟩ u2
                      refine xv_cV1 (q := 146) xm_X8_answered ln_X8_90 dX8_run_143 ⟨by omega, S60.1.1⟩ rfl ⟨(Nat.le_of_ble_eq_true rfl), (Nat.le_of_ble_eq_true rfl)⟩ (Nat.le_of_ble_eq_true rfl) ⟨rfl, rfl⟩ rfl (Nat.zero_le _) (Nat.zero_le _) ?_
                      refine ⟨_, _, rfl, S60, by omega, fun H2 S2 F2 => ?_⟩
                      refine xi_ret ⟨_, rfl, rfl, dX8_run_146⟩ (Nat.zero_le _) (Nat.zero_le _) ?_
                      exact xs_fin hp (by simp only [xs_run, xs_onE, xs_onP, xs_fn, xs_an, Bool.not_false, Bool.not_true, Bool.true_or, Bool.false_or, Bool.and_true, Bool.true_and, Bool.and_false, Bool.false_and, Bool.false_eq_true, if_true, if_false, ↓reduceIte, g_4, g_11, g_22, g_33, g_44, xs_kk0 (k := N) (by omega), xs_kk0 (k := l) (by omega), hE52, hE60, (xn_b1 c_92 : xs_has (nI a) (3 * nI N) (σ 2 ks 0) = true), xs_kk0 (k := a) (by omega), hAll, xs_rno, ho, xs_rnr, xs_kk0 (k := kp) (by omega), xs_kk0 (k := ks) (by omega)]) _ S2 (fun i hi => (F2 i (by omega)).trans ((u2 i (by omega)).trans ((p3 i (by omega) (by omega)).trans ((q2 i (by omega)).trans rfl))))
                  · have hAll : xs_all (fun s => xs_rvb (σ 3 ks) (a + 3 * s)) N = false := Bool.eq_false_iff.mpr (xn_b0 (by rw [← q3]; first | exact c_114 | exact Decidable.of_not_not c_114))
                    refine xi_ldc (q := 119) dX8_run_117 kc_X8_81 rfl ?_
                    refine xi_ret ⟨_, rfl, rfl, dX8_run_119⟩ (Nat.zero_le _) (Nat.zero_le _) ?_
                    exact xs_fin hp (by simp only [xs_run, xs_onE, xs_onP, xs_fn, xs_an, Bool.not_false, Bool.not_true, Bool.true_or, Bool.false_or, Bool.and_true, Bool.true_and, Bool.and_false, Bool.false_and, Bool.false_eq_true, if_true, if_false, ↓reduceIte, g_4, g_11, g_22, g_33, g_44, xs_kk0 (k := N) (by omega), xs_kk0 (k := l) (by omega), hE52, hE60, (xn_b1 c_92 : xs_has (nI a) (3 * nI N) (σ 2 ks 0) = true), xs_kk0 (k := a) (by omega), hAll, xs_kk0 (k := kp) (by omega), xs_kk0 (k := ks) (by omega)]) _ S90 (fun i hi => (q2 i (by omega)).trans rfl)
                · skip
                  refine xi_aload_n (q := 96) dX8_run_95 rfl rfl ?_
                  refine xi_iconst (x := 2) (q := 97) dX8_run_96 (by decide) rfl ?_
                  refine xv_cV1 (q := 100) xm_X8_found ln_X8_82 dX8_run_97 ⟨by omega, hS.1.1⟩ rfl ⟨(Nat.le_of_ble_eq_true rfl), (Nat.le_of_ble_eq_true rfl)⟩ (Nat.le_of_ble_eq_true rfl) ⟨rfl, rfl⟩ rfl (Nat.zero_le _) (Nat.zero_le _) ?_
                  refine ⟨_, _, rfl, hS, by omega, fun H3 S3 F3 => ?_⟩
                  refine xi_ret ⟨_, rfl, rfl, dX8_run_100⟩ (Nat.zero_le _) (Nat.zero_le _) ?_
                  exact xs_fin hp (by simp only [xs_run, xs_onE, xs_onP, xs_fn, xs_an, Bool.not_false, Bool.not_true, Bool.true_or, Bool.false_or, Bool.and_true, Bool.true_and, Bool.and_false, Bool.false_and, Bool.false_eq_true, if_true, if_false, ↓reduceIte, g_4, g_11, g_22, g_33, g_44, xs_kk0 (k := N) (by omega), xs_kk0 (k := l) (by omega), hE52, hE60, (Bool.eq_false_iff.mpr (xn_b0 c_92)), xs_kk0 (k := kp) (by omega), xs_kk0 (k := ks) (by omega)]) _ S3 (fun i hi => (F3 i (by omega)).trans (rfl))
              · skip
                refine xi_astoreN (q := 65) dX8_run_63 (Nat.le_of_ble_eq_true rfl) rfl ?_
                refine xi_aload (q := 67) dX8_run_65 rfl rfl ?_
                refine xi_ifnull_r (q := 70) dX8_run_67 rfl ?_
                refine xi_aloadN (q := 72) dX8_run_70 rfl rfl ?_
                refine xi_ifnonnull_n (q := 75) dX8_run_72 rfl ?_
                refine xi_aload_n (q := 76) dX8_run_75 rfl rfl ?_
                refine xi_iconst (x := 1) (q := 77) dX8_run_76 (by decide) rfl ?_
                refine xv_cV1 (q := 80) xm_X8_found ln_X8_82 dX8_run_77 ⟨by omega, hS.1.1⟩ rfl ⟨(Nat.le_of_ble_eq_true rfl), (Nat.le_of_ble_eq_true rfl)⟩ (Nat.le_of_ble_eq_true rfl) ⟨rfl, rfl⟩ rfl (Nat.zero_le _) (Nat.zero_le _) ?_
                refine ⟨_, _, rfl, hS, by omega, fun H4 S4 F4 => ?_⟩
                refine xi_ret ⟨_, rfl, rfl, dX8_run_80⟩ (Nat.zero_le _) (Nat.zero_le _) ?_
                exact xs_fin hp (by simp only [xs_run, xs_onE, xs_onP, xs_fn, xs_an, Bool.not_false, Bool.not_true, Bool.true_or, Bool.false_or, Bool.and_true, Bool.true_and, Bool.and_false, Bool.false_and, Bool.false_eq_true, if_true, if_false, ↓reduceIte, g_4, g_11, g_22, g_33, g_44, xs_kk0 (k := N) (by omega), xs_kk0 (k := l) (by omega), hE52, eq_true hE60, xs_kk0 (k := kp) (by omega), xs_kk0 (k := ks) (by omega)]) _ S4 (fun i hi => (F4 i (by omega)).trans (rfl))
            · skip
              refine xi_astoreN (q := 57) dX8_run_55 (Nat.le_of_ble_eq_true rfl) rfl ?_
              refine xi_aload_n (q := 58) dX8_run_57 rfl rfl ?_
              refine xi_iload (q := 60) dX8_run_58 rfl rfl ?_
              refine xv_cV1 (q := 63) xm_X8_sheetAt ln_X8_93 dX8_run_60 ⟨by omega, hS.1.1⟩ rfl ⟨(Nat.le_of_ble_eq_true rfl), (Nat.le_of_ble_eq_true rfl)⟩ (Nat.le_of_ble_eq_true rfl) ⟨rfl, rfl⟩ rfl (Nat.zero_le _) (Nat.zero_le _) ?_
              refine ⟨_, ks, rfl, hS, by omega, by omega, fun hE60 => ?_, fun hE60 => ?_⟩
              · skip
                refine xi_astore (q := 65) dX8_run_63 (Nat.le_of_ble_eq_true rfl) rfl ?_
                refine xi_aloadN (q := 67) dX8_run_65 rfl rfl ?_
                refine xi_ifnull_n (q := 75) dX8_run_67 (by decide) ?_
                refine xi_aload_n (q := 76) dX8_run_75 rfl rfl ?_
                refine xi_iconst (x := 1) (q := 77) dX8_run_76 (by decide) rfl ?_
                refine xv_cV1 (q := 80) xm_X8_found ln_X8_82 dX8_run_77 ⟨by omega, hS.1.1⟩ rfl ⟨(Nat.le_of_ble_eq_true rfl), (Nat.le_of_ble_eq_true rfl)⟩ (Nat.le_of_ble_eq_true rfl) ⟨rfl, rfl⟩ rfl (Nat.zero_le _) (Nat.zero_le _) ?_
                refine ⟨_, _, rfl, hS, by omega, fun H5 S5 F5 => ?_⟩
                refine xi_ret ⟨_, rfl, rfl, dX8_run_80⟩ (Nat.zero_le _) (Nat.zero_le _) ?_
                exact xs_fin hp (by simp only [xs_run, xs_onE, xs_onP, xs_fn, xs_an, Bool.not_false, Bool.not_true, Bool.true_or, Bool.false_or, Bool.and_true, Bool.true_and, Bool.and_false, Bool.false_and, Bool.false_eq_true, if_true, if_false, ↓reduceIte, g_4, g_11, g_22, g_33, g_44, xs_kk0 (k := N) (by omega), xs_kk0 (k := l) (by omega), eq_true hE52, hE60, xs_kk0 (k := kp) (by omega), xs_kk0 (k := ks) (by omega)]) _ S5 (fun i hi => (F5 i (by omega)).trans (rfl))
              · skip
                refine xi_astoreN (q := 65) dX8_run_63 (Nat.le_of_ble_eq_true rfl) rfl ?_
                refine xi_aloadN (q := 67) dX8_run_65 rfl rfl ?_
                refine xi_ifnull_n (q := 75) dX8_run_67 (by decide) ?_
                refine xi_aload_n (q := 76) dX8_run_75 rfl rfl ?_
                refine xi_iconst (x := 1) (q := 77) dX8_run_76 (by decide) rfl ?_
                refine xv_cV1 (q := 80) xm_X8_found ln_X8_82 dX8_run_77 ⟨by omega, hS.1.1⟩ rfl ⟨(Nat.le_of_ble_eq_true rfl), (Nat.le_of_ble_eq_true rfl)⟩ (Nat.le_of_ble_eq_true rfl) ⟨rfl, rfl⟩ rfl (Nat.zero_le _) (Nat.zero_le _) ?_
                refine ⟨_, _, rfl, hS, by omega, fun H6 S6 F6 => ?_⟩
                refine xi_ret ⟨_, rfl, rfl, dX8_run_80⟩ (Nat.zero_le _) (Nat.zero_le _) ?_
                exact xs_fin hp (by simp only [xs_run, xs_onE, xs_onP, xs_fn, xs_an, Bool.not_false, Bool.not_true, Bool.true_or, Bool.false_or, Bool.and_true, Bool.true_and, Bool.and_false, Bool.false_and, Bool.false_eq_true, if_true, if_false, ↓reduceIte, g_4, g_11, g_22, g_33, g_44, xs_kk0 (k := N) (by omega), xs_kk0 (k := l) (by omega), eq_true hE52, eq_true hE60, xs_kk0 (k := kp) (by omega), xs_kk0 (k := ks) (by omega)]) _ S6 (fun i hi => (F6 i (by omega)).trans (rfl))
          · have g_44 : xs_i q 1 10 = false := decide_eq_false (xn_b0 c_44)
            refine xi_ldc (q := 49) dX8_run_47 kc_X8_81 rfl ?_
            refine xi_ret ⟨_, rfl, rfl, dX8_run_49⟩ (Nat.zero_le _) (Nat.zero_le _) ?_
            exact xs_fin hp (by simp only [xs_run, xs_onE, xs_onP, xs_fn, xs_an, Bool.not_false, Bool.not_true, Bool.true_or, Bool.false_or, Bool.and_true, Bool.true_and, Bool.and_false, Bool.false_and, Bool.false_eq_true, if_true, if_false, ↓reduceIte, g_4, g_11, g_22, g_33, g_44, xs_kk0 (k := kp) (by omega), xs_kk0 (k := ks) (by omega)]) _ hS (fun i hi => rfl)

