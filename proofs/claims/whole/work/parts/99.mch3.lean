theorem xn_upid {f : Nat → Int32} {k : Nat} {x : Int32} (h : f k = x) : upd f k x = f := by
  funext j
  by_cases e : j = k
  · rw [e, pk_us, h]
  · rw [pk_un e]
theorem xn_drk0 {f : Nat → Int32} {s m : Int32} (hf : xs_ok f) : xs_drk f s m 0 = 0 := by
  have h : ∀ d k, k ≤ 100 → xs_dr1 f s m 0 d k = 0 := fun d k hk => by
    unfold xs_dr1
    rw [if_neg]
    intro z
    have hp := xn_pr (s := s) (m := m) (d := d) hf (B := 0) (by decide) (95 + k) (by omega)
    have hr1 := xn_romb (d := d) (k := nI (95 + k)) hf (by rw [xn_NI (by omega)]; omega)
    have hr := xn_romb (d := d) (k := nI (96 + k)) hf (by rw [xn_NI (by omega)]; omega)
    have hpb := xn_in hr1.1 hp
    have ho := xn_opb (s := s) (m := m) (d := d) (k := nI (96 + k)) (w := 0) hf
    have hc := xn_chkb s
    have h8 := hf.2.2.2.2.2.2.2.2.1
    have em : nI (96 + k) - 1 = nI (95 + k) := by rw [show 96 + k = (95 + k) + 1 by omega]; exact xn_m1 _
    have e1 : (xs_pr f s m 0 d (95 + k) * xs_rom f d (nI (95 + k))).toInt = (xs_pr f s m 0 d (95 + k)).toInt * (xs_rom f d (nI (95 + k))).toInt := xn_mul (by have := Int.mul_nonneg hpb.1 (show 0 ≤ (xs_rom f d (nI (95 + k))).toInt by omega); omega) (by have := hp.2; omega)
    have v0 : 0 ≤ (xs_v1 f d (nI (96 + k)) (xs_pr f s m 0 d (95 + k))).toInt ∧ (xs_v1 f d (nI (96 + k)) (xs_pr f s m 0 d (95 + k))).toInt ≤ 2400000 := by
      unfold xs_v1
      rw [em, xn_div (fun y => by rw [y, show (-1 : Int32).toInt = -1 from rfl] at hr; omega), e1]
      have q0 := Int.mul_nonneg hpb.1 (show 0 ≤ (xs_rom f d (nI (95 + k))).toInt by omega)
      rw [Int.tdiv_eq_ediv_of_nonneg q0]
      exact ⟨Int.ediv_nonneg q0 (by omega), Int.le_trans (Int.ediv_le_self _ q0) hp.2⟩
    obtain ⟨V, hV⟩ : ∃ V, V = xs_v1 f d (nI (96 + k)) (xs_pr f s m 0 d (95 + k)) := ⟨_, rfl⟩
    obtain ⟨O, hO⟩ : ∃ O, O = xs_opn f s m d (nI (96 + k)) 0 := ⟨_, rfl⟩
    have z2 : 0 < (0 - V) * O / (O + f 8 + xs_chk s) := by
      have z3 : 0 < xs_co f s m 0 d (nI (96 + k)) (xs_pr f s m 0 d (95 + k)) := z
      unfold xs_co at z3
      rw [← hV, ← hO] at z3
      exact z3
    rw [← hV] at v0
    rw [← hO] at ho
    have c1 : (O + f 8).toInt = O.toInt + (f 8).toInt := xn_add (by omega) (by omega)
    have c2 : (O + f 8 + xs_chk s).toInt = O.toInt + (f 8).toInt + (xs_chk s).toInt := by rw [xn_add (by omega) (by omega), c1]
    have c3 : (0 - V).toInt = -V.toInt := by rw [xn_sub (by rw [show (0 : Int32).toInt = 0 from rfl]; omega) (by rw [show (0 : Int32).toInt = 0 from rfl]; omega), show (0 : Int32).toInt = 0 from rfl]; omega
    have q1 : 0 ≤ V.toInt * O.toInt := Int.mul_nonneg v0.1 ho.1
    have q2 : V.toInt * O.toInt ≤ 2400000 * 100 := Int.mul_le_mul v0.2 ho.2 ho.1 (by omega)
    have c4 : ((0 - V) * O).toInt = -(V.toInt * O.toInt) := by
      rw [xn_mul (by rw [c3, Int.neg_mul]; omega) (by rw [c3, Int.neg_mul]; omega), c3, Int.neg_mul]
    rw [xn_lt, show (0 : Int32).toInt = 0 from rfl, xn_div (fun y => by rw [y, show (-1 : Int32).toInt = -1 from rfl] at c2; omega), c4, c2, Int.neg_tdiv] at z2
    have := Int.tdiv_nonneg q1 (show 0 ≤ O.toInt + (f 8).toInt + (xs_chk s).toInt by omega)
    omega
  unfold xs_drk xs_dr
  rw [xn_psLc (g := fun _ => 0) (fun j hj => h 0 j (by omega)), xn_psLc (g := fun _ => 0) (fun j hj => h 1 j (by omega))]
  decide +kernel
theorem xn_mn20 {x : Int32} : (20 ≤ x → xs_min x 20 = 20) ∧ (¬ 20 ≤ x → xs_min x 20 = x) := by
  unfold xs_min
  refine ⟨fun h => ?_, fun h => if_neg (fun z => h (by rw [xn_le]; rw [xn_lt] at z; omega))⟩
  by_cases z : 20 < x
  · rw [if_pos z]
  · rw [if_neg z, xn_eq]
    rw [xn_le] at h
    rw [xn_lt] at z
    omega
theorem xn_mnw {x w : Int32} : (x ≤ w → xs_min x w = x) ∧ (¬ x ≤ w → xs_min x w = w) := by
  unfold xs_min
  exact ⟨fun h => if_neg (xn_nlt h), fun h => if_pos (xn_ltn h)⟩
theorem xn_mn2000 {x : Int32} : (2000 ≤ x → xs_min x 2000 = 2000) ∧ (¬ 2000 ≤ x → xs_min x 2000 = x) := by
  unfold xs_min
  refine ⟨fun h => ?_, fun h => if_neg (fun z => h (by rw [xn_le]; rw [xn_lt] at z; omega))⟩
  by_cases z : 2000 < x
  · rw [if_pos z]
  · rw [if_neg z, xn_eq]
    rw [xn_le] at h
    rw [xn_lt] at z
    omega
theorem xn_mnA {F : Nat → Int32} {b w d : Int32} (hb : xs_min (F 1) 20 = b) (hd : xs_min (F 0 + 5 * b) w = d) (hg : -1000000 ≤ (F 0 + 5 * b - d).toInt) (h : ¬ F 0 + 5 * b - d ≤ 1500) : xs_blo (xs_giv (xs_bur F) w) = xs_f6 1500 (F 1 - b) (F 2 + b) (F 3 + d) (F 4 + (F 0 + 5 * b - d - 1500)) (F 5 + 1) := by
  have e1 : xs_bur F = xs_f6 (F 0 + 5 * b) (F 1 - b) (F 2 + b) (F 3) (F 4) (F 5 + 1) := by unfold xs_bur; rw [hb]
  have e2 : xs_giv (xs_bur F) w = xs_f6 (F 0 + 5 * b - d) (F 1 - b) (F 2 + b) (F 3 + d) (F 4) (F 5 + 1) := by
    rw [e1]
    show xs_f6 (F 0 + 5 * b - xs_min (F 0 + 5 * b) w) _ _ (F 3 + xs_min (F 0 + 5 * b) w) _ _ = _
    rw [hd]
    rfl
  rw [e2]
  obtain ⟨G, hG⟩ : ∃ G, G = F 0 + 5 * b - d := ⟨_, rfl⟩
  rw [← hG] at h hg ⊢
  show xs_f6 (G - xs_max 0 (G - 1500)) _ _ _ (F 4 + xs_max 0 (G - 1500)) _ = _
  have e3 : xs_max 0 (G - 1500) = G - 1500 := if_pos (by
    rw [xn_le, show (1500 : Int32).toInt = 1500 from rfl] at h
    have := xn_b G
    rw [xn_lt, xn_sub (by rw [show (1500 : Int32).toInt = 1500 from rfl]; omega) (by rw [show (1500 : Int32).toInt = 1500 from rfl]; omega), show (1500 : Int32).toInt = 1500 from rfl, show (0 : Int32).toInt = 0 from rfl]
    omega)
  rw [e3, show G - (G - 1500) = 1500 by rw [Int32.sub_eq_add_neg, Int32.neg_sub, Int32.sub_eq_add_neg, ← Int32.add_assoc, Int32.add_comm G, Int32.add_assoc, Int32.add_right_neg, Int32.add_zero]]
  rfl
theorem xn_mnB {F : Nat → Int32} {b w d : Int32} (hb : xs_min (F 1) 20 = b) (hd : xs_min (F 0 + 5 * b) w = d) (hg : -1000000 ≤ (F 0 + 5 * b - d).toInt) (h : F 0 + 5 * b - d ≤ 1500) : xs_blo (xs_giv (xs_bur F) w) = xs_f6 (F 0 + 5 * b - d) (F 1 - b) (F 2 + b) (F 3 + d) (F 4) (F 5 + 1) := by
  have e1 : xs_bur F = xs_f6 (F 0 + 5 * b) (F 1 - b) (F 2 + b) (F 3) (F 4) (F 5 + 1) := by unfold xs_bur; rw [hb]
  have e2 : xs_giv (xs_bur F) w = xs_f6 (F 0 + 5 * b - d) (F 1 - b) (F 2 + b) (F 3 + d) (F 4) (F 5 + 1) := by
    rw [e1]
    show xs_f6 (F 0 + 5 * b - xs_min (F 0 + 5 * b) w) _ _ (F 3 + xs_min (F 0 + 5 * b) w) _ _ = _
    rw [hd]
    rfl
  rw [e2]
  obtain ⟨G, hG⟩ : ∃ G, G = F 0 + 5 * b - d := ⟨_, rfl⟩
  rw [← hG] at h hg ⊢
  show xs_f6 (G - xs_max 0 (G - 1500)) _ _ _ (F 4 + xs_max 0 (G - 1500)) _ = _
  have e3 : xs_max 0 (G - 1500) = 0 := if_neg (by
    rw [xn_le, show (1500 : Int32).toInt = 1500 from rfl] at h
    rw [xn_lt, xn_sub (by rw [show (1500 : Int32).toInt = 1500 from rfl]; omega) (by rw [show (1500 : Int32).toInt = 1500 from rfl]; omega), show (1500 : Int32).toInt = 1500 from rfl, show (0 : Int32).toInt = 0 from rfl]
    omega)
  rw [e3, Int32.sub_zero, Int32.add_zero]
  rfl
set_option maxRecDepth 20000 in
set_option maxHeartbeats 2000000 in
/-- twin -/
theorem xm_X9_twin : xv_K yX9_twin mX9_twin (fun as h n Post => ∃ (σ : xs_Sg) (q : Int32) (p : Int32), as = [.ref 83, .int q, .int p] ∧ (xs_Mo h σ) ∧ (103 < n) ∧ (xs_V σ) ∧ xs_DM h n Post (xs_twin σ q p)) := by
  refine xv_entry (by decide +kernel) rfl (fun h => absurd h (by decide)) ?_
  rintro X _ h n Post ⟨σ, q, p, rfl, ⟨C, dk, hM, hR⟩, h103, hV, hp⟩
  refine ⟨Nat.le_of_ble_eq_true rfl, ?_⟩
  show xv_V X mX9_twin Post 0 0 0 [(0, .ref 83), (1, .int q), (2, .int p)] [] h n
  refine xi_aload_n (q := 1) dX9_twin_0 rfl rfl ?_
  refine xi_iconst (x := 0) (q := 2) dX9_twin_1 (by decide) rfl ?_
  refine xi_putf (q := 5) dX9_twin_2 fl_X9_71 ⟨by omega, (xs_M83 hM)⟩ (Or.inl rfl) (fun _ => rfl) (fun _ => rfl) (Nat.le_of_ble_eq_true rfl) rfl ?_
  refine xi_iload_n (q := 6) dX9_twin_5 rfl rfl ?_
  refine xv_cS1 (q := 9) xm_X9_isPlace ln_X9_116 dX9_twin_6 ⟨(Nat.le_of_ble_eq_true rfl), (Nat.le_of_ble_eq_true rfl)⟩ (Nat.le_of_ble_eq_true rfl) ⟨rfl, rfl⟩ rfl (Nat.zero_le _) (Nat.zero_le _) ?_
  refine ⟨_, rfl, ?_⟩
  refine xi_if_eq (q := 12) (q2 := 19) dX9_twin_9 (by decide) rfl (fun c_9 => ?_) (fun c_9 => ?_)
  · have g_9 : xs_i q 0 5 = false := decide_eq_false (xn_b0 c_9)
    refine xi_ldc (q := 21) dX9_twin_19 kc_X9_91 rfl ?_
    refine xi_ret ⟨_, rfl, rfl, dX9_twin_21⟩ (Nat.zero_le _) (Nat.zero_le _) ?_
    exact xs_finM (σ' := σ) hp (by simp only [xs_twin, xs_onE, xs_onP, xs_fn, xs_an, Bool.not_false, Bool.not_true, Bool.true_or, Bool.false_or, Bool.and_true, Bool.true_and, Bool.and_false, Bool.false_and, Bool.false_eq_true, if_true, if_false, ↓reduceIte, g_9] <;> rfl) _ (xs_Mx (σ' := σ) hM hR (fa := (upd (C 83) 0 0)) ((va_up_self _ _ _).trans rfl) (fun j hj => (pk_un (by omega)).trans (rfl)) ((va_up_ne _ _ (by omega)).trans (xs_M88 hM)) (fun _ _ => rfl) ((va_up_ne _ _ (by omega)).trans (xs_M94 hM)) ((va_up_ne _ _ (by omega)).trans (xs_M95 hM)) ((va_up_ne _ _ (by omega)).trans (xs_M96 hM)) ((va_up_ne _ _ (by omega)).trans (xs_M97 hM)) ((va_up_ne _ _ (by omega)).trans (xs_M98 hM)) ((va_up_ne _ _ (by omega)).trans (xs_M99 hM)) (fun i i1 i2 i3 i4 => ((va_up_ne _ _ (by omega)).trans (Eq.refl _))) (fun _ _ _ => rfl) hR.2) (fun i hi => ((va_up_ne _ _ (by omega)).trans (Eq.refl _)))
  · have g_9 : xs_i q 0 5 = true := decide_eq_true (xn_b1 c_9)
    obtain ⟨kq, hkq, rfl⟩ := xn_pk (m := 5) (by omega) (xn_b1 c_9)
    refine xi_iload_n (q := 13) dX9_twin_12 rfl rfl ?_
    refine xv_cS1 (q := 16) xm_X9_isPlace ln_X9_116 dX9_twin_13 ⟨(Nat.le_of_ble_eq_true rfl), (Nat.le_of_ble_eq_true rfl)⟩ (Nat.le_of_ble_eq_true rfl) ⟨rfl, rfl⟩ rfl (Nat.zero_le _) (Nat.zero_le _) ?_
    refine ⟨_, rfl, ?_⟩
    refine xi_if_ne (q := 19) (q2 := 22) dX9_twin_16 (by decide) rfl (fun c_16 => ?_) (fun c_16 => ?_)
    · have g_16 : xs_i p 0 5 = true := decide_eq_true (xn_b1 c_16)
      obtain ⟨kp, hkp, rfl⟩ := xn_pk (m := 5) (by omega) (xn_b1 c_16)
      refine xi_aload_n (q := 23) dX9_twin_22 rfl rfl ?_
      refine xi_iload_n (q := 24) dX9_twin_23 rfl rfl ?_
      refine xv_cV1 (q := 27) xm_X9_stands ln_X9_123 dX9_twin_24 (xv_self (by omega)) rfl ⟨(Nat.le_of_ble_eq_true rfl), (Nat.le_of_ble_eq_true rfl)⟩ (Nat.le_of_ble_eq_true rfl) ⟨rfl, rfl⟩ rfl (Nat.zero_le _) (Nat.zero_le _) ?_
      refine ⟨(upd (C 83) 0 0), dk, C 87, kp, rfl, ((va_up_self _ _ _).trans rfl), by omega, ((va_up_ne _ _ (by omega)).trans (xs_M87 hM)), by omega, ?_, ?_⟩
      · intro z24 h24 p24 f24
        have Fh24 : ∀ i, i ≠ 83 → h24 i = h i := fun i j83 => (f24 i (by omega)).trans ((va_up_ne _ _ (by omega)).trans (Eq.refl _))
        have y24 : σ 6 kp 0 = 0 := (xs_ht hR (by omega)).symm.trans z24
        refine xi_istore_n (q := 28) dX9_twin_27 (Nat.le_of_ble_eq_true rfl) rfl ?_
        refine xi_iload_n (q := 29) dX9_twin_28 rfl rfl ?_
        refine xi_if_ge (q := 32) (q2 := 34) dX9_twin_29 (by decide) rfl (fun c_29 => ?_) (fun c_29 => ?_)
        · exact absurd c_29 (by decide)
        · skip
          refine xi_iload_n (q := 33) dX9_twin_32 rfl rfl ?_
          refine xi_ret ⟨_, rfl, rfl, dX9_twin_33⟩ (Nat.zero_le _) (Nat.zero_le _) ?_
          exact xs_finM (σ' := (xs_fd σ 1)) hp (by simp only [xs_twin, xs_onE, xs_onP, xs_fn1, xs_an, Bool.not_false, Bool.not_true, Bool.true_or, Bool.false_or, Bool.and_true, Bool.true_and, Bool.and_false, Bool.false_and, Bool.false_eq_true, if_true, if_false, ↓reduceIte, g_9, g_16, eq_true y24, xs_kk0 (k := kq) (by omega), xs_kk0 (k := kp) (by omega)] <;> rfl) _ (xs_Mx (σ' := (xs_fd σ 1)) hM hR (fa := (upd (upd (C 83) 0 0) 1 1)) p24 (fun j hj => (pk_un (by omega)).trans ((pk_un (by omega)).trans (rfl))) ((Fh24 88 (by omega)).trans (xs_M88 hM)) (fun _ _ => rfl) ((Fh24 94 (by omega)).trans (xs_M94 hM)) ((Fh24 95 (by omega)).trans (xs_M95 hM)) ((Fh24 96 (by omega)).trans (xs_M96 hM)) ((Fh24 97 (by omega)).trans (xs_M97 hM)) ((Fh24 98 (by omega)).trans (xs_M98 hM)) ((Fh24 99 (by omega)).trans (xs_M99 hM)) (fun i i1 i2 i3 i4 => (Fh24 i (by omega))) xs_fdo rfl) (fun i hi => (Fh24 i (by omega)))
      · intro z24 h24 p24 f24
        have Fh24 : ∀ i, i ≠ 83 → h24 i = h i := fun i j83 => (f24 i (by omega)).trans ((va_up_ne _ _ (by omega)).trans (Eq.refl _))
        have y24 : ¬ σ 6 kp 0 = 0 := fun e => z24 ((xs_ht hR (by omega)).trans e)
        refine xi_istore_n (q := 28) dX9_twin_27 (Nat.le_of_ble_eq_true rfl) rfl ?_
        refine xi_iload_n (q := 29) dX9_twin_28 rfl rfl ?_
        refine xi_if_ge (q := 32) (q2 := 34) dX9_twin_29 (by decide) rfl (fun c_29 => ?_) (fun c_29 => ?_)
        · skip
          refine xi_aload_n (q := 35) dX9_twin_34 rfl rfl ?_
          refine xi_iload_n (q := 36) dX9_twin_35 rfl rfl ?_
          refine xi_iload_n (q := 37) dX9_twin_36 rfl rfl ?_
          refine xv_cV2 (q := 40) xm_X9_like ln_X9_128 dX9_twin_37 ⟨by omega, p24⟩ rfl ⟨(Nat.le_of_ble_eq_true rfl), (Nat.le_of_ble_eq_true rfl)⟩ (Nat.le_of_ble_eq_true rfl) ⟨rfl, rfl⟩ rfl (Nat.zero_le _) (Nat.zero_le _) ?_
          refine ⟨(upd (upd (C 83) 0 0) 1 0), dk, (C 88), kq, kp, rfl, ⟨p24, ((Fh24 88 (by omega)).trans (xs_M88 hM)), ((Fh24 93 (by omega)).trans (xs_M93 hM))⟩, by omega, by omega, by omega, fun h37 q37 f37 => ?_⟩
          have Fh37 : ∀ i, i ≠ 83 → i ≠ 88 → h37 i = h i := fun i j83 j88 => (f37 i (by omega)).trans (Fh24 i (by omega))
          refine xi_aload_n (q := 41) dX9_twin_40 rfl rfl ?_
          refine xi_getf (q := 44) dX9_twin_41 fl_X9_19 ⟨by omega, ((f37 83 (by omega)).trans p24)⟩ rfl rfl ?_
          refine xi_iload_n (q := 45) dX9_twin_44 rfl rfl ?_
          refine xi_iconst (x := 1) (q := 46) dX9_twin_45 (by decide) rfl ?_
          refine xi_zast (q := 47) dX9_twin_46 ⟨by omega, ((Fh37 87 (by omega) (by omega)).trans (xs_M87 hM))⟩ (xv_ixN (by omega) (by omega)) rfl rfl ?_
          refine xi_aload_n (q := 48) dX9_twin_47 rfl rfl ?_
          refine xi_getf (q := 51) dX9_twin_48 fl_X9_26 (xv_keep (by omega) ⟨by omega, ((f37 83 (by omega)).trans p24)⟩) rfl rfl ?_
          refine xi_iload_n (q := 52) dX9_twin_51 rfl rfl ?_
          refine xi_iconst (x := 0) (q := 53) dX9_twin_52 (by decide) rfl ?_
          refine xi_zast (q := 54) dX9_twin_53 (xv_keep (by omega) ⟨by omega, ((Fh37 89 (by omega) (by omega)).trans (xs_M89 hM))⟩) (xv_ixN (by omega) (by omega)) rfl rfl ?_
          refine xi_iconst (x := 1) (q := 55) dX9_twin_54 (by decide) rfl ?_
          refine xi_ret ⟨_, rfl, rfl, dX9_twin_55⟩ (Nat.zero_le _) (Nat.zero_le _) ?_
          exact xs_finM (σ' := (xs_fd (xs_ca (xs_en σ kq (σ 4 kp) (σ 5 kp 0) 1) kq 0 (σ 8 kq 0) (σ 9 kq 0) (σ 10 kq)) 0)) hp (by simp only [xs_twin, xs_onE, xs_onP, xs_fn, xs_an, Bool.not_false, Bool.not_true, Bool.true_or, Bool.false_or, Bool.and_true, Bool.true_and, Bool.and_false, Bool.false_and, Bool.false_eq_true, if_true, if_false, ↓reduceIte, g_9, g_16, eq_false y24, xs_kk0 (k := kq) (by omega), xs_kk0 (k := kp) (by omega)] <;> rfl) _ ⟨(xs_cu (xs_cu (xs_cu (xs_cu C 83 (upd (upd (C 83) 0 0) 1 0)) 88 (xs_lik (C 88) kq kp)) 87 (upd (C 87) kq 1)) 89 (upd (C 89) kq 0)), _, ⟨((va_up_ne _ _ (by omega)).trans ((va_up_ne _ _ (by omega)).trans ((f37 83 (by omega)).trans p24))), ((va_up_ne _ _ (by omega)).trans ((va_up_ne _ _ (by omega)).trans ((Fh37 84 (by omega) (by omega)).trans (xs_M84 (C := C) hM)))), ((va_up_ne _ _ (by omega)).trans ((va_up_ne _ _ (by omega)).trans ((Fh37 85 (by omega) (by omega)).trans (xs_M85 (C := C) hM)))), ((va_up_ne _ _ (by omega)).trans ((va_up_ne _ _ (by omega)).trans ((Fh37 86 (by omega) (by omega)).trans (xs_M86 (C := C) hM)))), ((va_up_ne _ _ (by omega)).trans ((va_up_self _ _ _).trans rfl)), ((va_up_ne _ _ (by omega)).trans ((va_up_ne _ _ (by omega)).trans q37)), ((va_up_self _ _ _).trans rfl), ((va_up_ne _ _ (by omega)).trans ((va_up_ne _ _ (by omega)).trans ((Fh37 90 (by omega) (by omega)).trans (xs_M90 (C := C) hM)))), ((va_up_ne _ _ (by omega)).trans ((va_up_ne _ _ (by omega)).trans ((Fh37 91 (by omega) (by omega)).trans (xs_M91 (C := C) hM)))), ((va_up_ne _ _ (by omega)).trans ((va_up_ne _ _ (by omega)).trans ((Fh37 92 (by omega) (by omega)).trans (xs_M92 (C := C) hM)))), ((va_up_ne _ _ (by omega)).trans ((va_up_ne _ _ (by omega)).trans ((Fh37 93 (by omega) (by omega)).trans (xs_M93 (C := C) hM)))), ((va_up_ne _ _ (by omega)).trans ((va_up_ne _ _ (by omega)).trans ((Fh37 94 (by omega) (by omega)).trans (xs_M94 (C := C) hM)))), ((va_up_ne _ _ (by omega)).trans ((va_up_ne _ _ (by omega)).trans ((Fh37 95 (by omega) (by omega)).trans (xs_M95 (C := C) hM)))), ((va_up_ne _ _ (by omega)).trans ((va_up_ne _ _ (by omega)).trans ((Fh37 96 (by omega) (by omega)).trans (xs_M96 (C := C) hM)))), ((va_up_ne _ _ (by omega)).trans ((va_up_ne _ _ (by omega)).trans ((Fh37 97 (by omega) (by omega)).trans (xs_M97 (C := C) hM)))), ((va_up_ne _ _ (by omega)).trans ((va_up_ne _ _ (by omega)).trans ((Fh37 98 (by omega) (by omega)).trans (xs_M98 (C := C) hM)))), ((va_up_ne _ _ (by omega)).trans ((va_up_ne _ _ (by omega)).trans ((Fh37 99 (by omega) (by omega)).trans (xs_M99 (C := C) hM)))), ((va_up_ne _ _ (by omega)).trans ((va_up_ne _ _ (by omega)).trans ((Fh37 100 (by omega) (by omega)).trans (xs_M100 (C := C) hM)))), ((va_up_ne _ _ (by omega)).trans ((va_up_ne _ _ (by omega)).trans ((Fh37 101 (by omega) (by omega)).trans (xs_M101 (C := C) hM)))), ((va_up_ne _ _ (by omega)).trans ((va_up_ne _ _ (by omega)).trans ((Fh37 102 (by omega) (by omega)).trans (xs_M102 (C := C) hM)))), ((va_up_ne _ _ (by omega)).trans ((va_up_ne _ _ (by omega)).trans ((Fh37 103 (by omega) (by omega)).trans (xs_M103 (C := C) hM))))⟩, ⟨xs_Rfd (xs_Rca (C := (xs_cu (xs_cu (xs_cu (xs_cu (xs_cu C 83 (upd (upd (C 83) 0 0) 1 0)) 88 (xs_lik (C 88) kq kp)) 87 (upd (C 87) kq 1)) 89 (upd (C 89) kq 0)) 89 (C 89))) (j := kq) (kp := 0) (xs_Ren (C' := (xs_cu (xs_cu (xs_cu (xs_cu (xs_cu C 83 (upd (upd (C 83) 0 0) 1 0)) 88 (xs_lik (C 88) kq kp)) 87 (upd (C 87) kq 1)) 89 (upd (C 89) kq 0)) 89 (C 89))) (j := kq) (nf := σ 4 kp) (s := σ 5 kp 0) (t := 1) hR.1 (fun p hp => rfl) (fun x hx => by
                    show xs_lik (C 88) kq kp (12 * kq + x) = _
                    unfold xs_lik
                    rw [if_pos (by omega), show 12 * kp + (12 * kq + x - 12 * kq) = 12 * kp + x by omega]
                    exact xs_hq hR (by omega) x hx) (by
                    show xs_lik (C 88) kq kp (12 * kq + 11) = _
                    unfold xs_lik
                    rw [if_pos (by omega), show 12 * kp + (12 * kq + 11 - 12 * kq) = 12 * kp + 11 by omega]
                    exact xs_hs hR (by omega)) (fun x hx hx2 => by
                    show xs_lik (C 88) kq kp x = _
                    unfold xs_lik
                    rw [if_neg (by omega)]) (fun i hi => (pk_un (by omega)).trans ((pk_un (by omega)).trans (rfl))) (fun i hi i1 i2 i3 => by
                    by_cases e : i = 89
                    · rw [e]; rfl
                    · rw [xs_cuo e, xs_cuo e, xs_cuo (by omega), xs_cuo (by omega), xs_cuo (by omega)])) (fun p hp => rfl) (fun p hp => by
                    by_cases e : p = kq
                    · rw [if_pos e, e]; exact (hR.1.2.2.1 kq (by omega)).2.1
                    · rw [if_neg e]; rfl) (fun p hp => by
                    by_cases e : p = kq
                    · rw [if_pos e, e]; exact (hR.1.2.2.1 kq (by omega)).2.2.1
                    · rw [if_neg e]; rfl) (fun k hk => (hR.1.2.2.1 kq (by omega)).2.2.2 k hk) (fun p k hp hpk hk => rfl) (fun _ _ => rfl) (fun _ _ => rfl) (fun i hi i1 i2 => (xs_cuo (by omega)).symm)), rfl⟩⟩ (fun i hi => ((va_up_ne _ _ (by omega)).trans ((va_up_ne _ _ (by omega)).trans (Fh37 i (by omega) (by omega)))))
        · exact absurd (by decide) c_29
    · have g_16 : xs_i p 0 5 = false := decide_eq_false (xn_b0 c_16)
      refine xi_ldc (q := 21) dX9_twin_19 kc_X9_91 rfl ?_
      refine xi_ret ⟨_, rfl, rfl, dX9_twin_21⟩ (Nat.zero_le _) (Nat.zero_le _) ?_
      exact xs_finM (σ' := σ) hp (by simp only [xs_twin, xs_onE, xs_onP, xs_fn, xs_an, Bool.not_false, Bool.not_true, Bool.true_or, Bool.false_or, Bool.and_true, Bool.true_and, Bool.and_false, Bool.false_and, Bool.false_eq_true, if_true, if_false, ↓reduceIte, g_9, g_16, xs_kk0 (k := kq) (by omega)] <;> rfl) _ (xs_Mx (σ' := σ) hM hR (fa := (upd (C 83) 0 0)) ((va_up_self _ _ _).trans rfl) (fun j hj => (pk_un (by omega)).trans (rfl)) ((va_up_ne _ _ (by omega)).trans (xs_M88 hM)) (fun _ _ => rfl) ((va_up_ne _ _ (by omega)).trans (xs_M94 hM)) ((va_up_ne _ _ (by omega)).trans (xs_M95 hM)) ((va_up_ne _ _ (by omega)).trans (xs_M96 hM)) ((va_up_ne _ _ (by omega)).trans (xs_M97 hM)) ((va_up_ne _ _ (by omega)).trans (xs_M98 hM)) ((va_up_ne _ _ (by omega)).trans (xs_M99 hM)) (fun i i1 i2 i3 i4 => ((va_up_ne _ _ (by omega)).trans (Eq.refl _))) (fun _ _ _ => rfl) hR.2) (fun i hi => ((va_up_ne _ _ (by omega)).trans (Eq.refl _)))

set_option maxRecDepth 20000 in
set_option maxHeartbeats 2000000 in
/-- clear -/
theorem xm_X9_clear : xv_K yX9_clear mX9_clear (fun as h n Post => ∃ (σ : xs_Sg) (p : Int32), as = [.ref 83, .int p] ∧ (xs_Mo h σ) ∧ (103 < n) ∧ (xs_V σ) ∧ xs_DM h n Post (xs_clear σ p)) := by
  refine xv_entry (by decide +kernel) rfl (fun h => absurd h (by decide)) ?_
  rintro X _ h n Post ⟨σ, p, rfl, ⟨C, dk, hM, hR⟩, h103, hV, hp⟩
  refine ⟨Nat.le_of_ble_eq_true rfl, ?_⟩
  show xv_V X mX9_clear Post 0 0 0 [(0, .ref 83), (1, .int p)] [] h n
  refine xi_aload_n (q := 1) dX9_clear_0 rfl rfl ?_
  refine xi_iconst (x := 0) (q := 2) dX9_clear_1 (by decide) rfl ?_
  refine xi_putf (q := 5) dX9_clear_2 fl_X9_71 ⟨by omega, (xs_M83 hM)⟩ (Or.inl rfl) (fun _ => rfl) (fun _ => rfl) (Nat.le_of_ble_eq_true rfl) rfl ?_
  refine xi_iload_n (q := 6) dX9_clear_5 rfl rfl ?_
  refine xv_cS1 (q := 9) xm_X9_isPlace ln_X9_116 dX9_clear_6 ⟨(Nat.le_of_ble_eq_true rfl), (Nat.le_of_ble_eq_true rfl)⟩ (Nat.le_of_ble_eq_true rfl) ⟨rfl, rfl⟩ rfl (Nat.zero_le _) (Nat.zero_le _) ?_
  refine ⟨_, rfl, ?_⟩
  refine xi_if_ne (q := 12) (q2 := 15) dX9_clear_9 (by decide) rfl (fun c_9 => ?_) (fun c_9 => ?_)
  · have g_9 : xs_i p 0 5 = true := decide_eq_true (xn_b1 c_9)
    obtain ⟨kp, hkp, rfl⟩ := xn_pk (m := 5) (by omega) (xn_b1 c_9)
    refine xi_aload_n (q := 16) dX9_clear_15 rfl rfl ?_
    refine xi_getf (q := 19) dX9_clear_16 fl_X9_19 (xv_self (by omega)) rfl rfl ?_
    refine xi_iload_n (q := 20) dX9_clear_19 rfl rfl ?_
    refine xi_zald (q := 21) dX9_clear_20 (xv_keep (by omega) ⟨by omega, (xs_M87 hM)⟩) (xv_ixN (by omega) (by omega)) rfl ?_
    refine xi_istore_n (q := 22) dX9_clear_21 (Nat.le_of_ble_eq_true rfl) rfl ?_
    refine xi_aload_n (q := 23) dX9_clear_22 rfl rfl ?_
    refine xi_getf (q := 26) dX9_clear_23 fl_X9_19 (xv_self (by omega)) rfl rfl ?_
    refine xi_iload_n (q := 27) dX9_clear_26 rfl rfl ?_
    refine xi_iconst (x := 0) (q := 28) dX9_clear_27 (by decide) rfl ?_
    refine xi_zast (q := 29) dX9_clear_28 (xv_keep (by omega) ⟨by omega, (xs_M87 hM)⟩) (xv_ixN (by omega) (by omega)) rfl rfl ?_
    refine xi_aload_n (q := 30) dX9_clear_29 rfl rfl ?_
    refine xi_getf (q := 33) dX9_clear_30 fl_X9_26 (xv_keep (by omega) (xv_self (by omega))) rfl rfl ?_
    refine xi_iload_n (q := 34) dX9_clear_33 rfl rfl ?_
    refine xi_iconst (x := 0) (q := 35) dX9_clear_34 (by decide) rfl ?_
    refine xi_zast (q := 36) dX9_clear_35 (xv_keep (by omega) (xv_keep (by omega) ⟨by omega, (xs_M89 hM)⟩)) (xv_ixN (by omega) (by omega)) rfl rfl ?_
    refine xi_iload_n (q := 37) dX9_clear_36 rfl rfl ?_
    refine xi_if_eq (q := 40) (q2 := 44) dX9_clear_37 (by decide) rfl (fun c_37 => ?_) (fun c_37 => ?_)
    · have y37 : σ 6 kp 0 = 0 := (xs_ht hR (by omega)).symm.trans (by first | exact c_37 | exact Decidable.of_not_not c_37)
      refine xi_iconst (x := 0) (q := 45) dX9_clear_44 (by decide) rfl ?_
      refine xi_ret ⟨_, rfl, rfl, dX9_clear_45⟩ (Nat.zero_le _) (Nat.zero_le _) ?_
      exact xs_finM (σ' := σ) hp (by simp only [xs_clear, xs_onE, xs_onP, xs_fn, xs_an, Bool.not_false, Bool.not_true, Bool.true_or, Bool.false_or, Bool.and_true, Bool.true_and, Bool.and_false, Bool.false_and, Bool.false_eq_true, if_true, if_false, ↓reduceIte, g_9, eq_true y37, xs_kk0 (k := kp) (by omega)] <;> rfl) _ ⟨(xs_cu (xs_cu (xs_cu C 83 (upd (C 83) 0 0)) 87 (upd (C 87) kp 0)) 89 (upd (C 89) kp 0)), _, ⟨((va_up_ne _ _ (by omega)).trans ((va_up_ne _ _ (by omega)).trans ((va_up_self _ _ _).trans rfl))), ((va_up_ne _ _ (by omega)).trans ((va_up_ne _ _ (by omega)).trans ((va_up_ne _ _ (by omega)).trans (xs_M84 (C := C) hM)))), ((va_up_ne _ _ (by omega)).trans ((va_up_ne _ _ (by omega)).trans ((va_up_ne _ _ (by omega)).trans (xs_M85 (C := C) hM)))), ((va_up_ne _ _ (by omega)).trans ((va_up_ne _ _ (by omega)).trans ((va_up_ne _ _ (by omega)).trans (xs_M86 (C := C) hM)))), ((va_up_ne _ _ (by omega)).trans ((va_up_self _ _ _).trans rfl)), ((va_up_ne _ _ (by omega)).trans ((va_up_ne _ _ (by omega)).trans ((va_up_ne _ _ (by omega)).trans (xs_M88 (C := C) hM)))), ((va_up_self _ _ _).trans rfl), ((va_up_ne _ _ (by omega)).trans ((va_up_ne _ _ (by omega)).trans ((va_up_ne _ _ (by omega)).trans (xs_M90 (C := C) hM)))), ((va_up_ne _ _ (by omega)).trans ((va_up_ne _ _ (by omega)).trans ((va_up_ne _ _ (by omega)).trans (xs_M91 (C := C) hM)))), ((va_up_ne _ _ (by omega)).trans ((va_up_ne _ _ (by omega)).trans ((va_up_ne _ _ (by omega)).trans (xs_M92 (C := C) hM)))), ((va_up_ne _ _ (by omega)).trans ((va_up_ne _ _ (by omega)).trans ((va_up_ne _ _ (by omega)).trans (xs_M93 (C := C) hM)))), ((va_up_ne _ _ (by omega)).trans ((va_up_ne _ _ (by omega)).trans ((va_up_ne _ _ (by omega)).trans (xs_M94 (C := C) hM)))), ((va_up_ne _ _ (by omega)).trans ((va_up_ne _ _ (by omega)).trans ((va_up_ne _ _ (by omega)).trans (xs_M95 (C := C) hM)))), ((va_up_ne _ _ (by omega)).trans ((va_up_ne _ _ (by omega)).trans ((va_up_ne _ _ (by omega)).trans (xs_M96 (C := C) hM)))), ((va_up_ne _ _ (by omega)).trans ((va_up_ne _ _ (by omega)).trans ((va_up_ne _ _ (by omega)).trans (xs_M97 (C := C) hM)))), ((va_up_ne _ _ (by omega)).trans ((va_up_ne _ _ (by omega)).trans ((va_up_ne _ _ (by omega)).trans (xs_M98 (C := C) hM)))), ((va_up_ne _ _ (by omega)).trans ((va_up_ne _ _ (by omega)).trans ((va_up_ne _ _ (by omega)).trans (xs_M99 (C := C) hM)))), ((va_up_ne _ _ (by omega)).trans ((va_up_ne _ _ (by omega)).trans ((va_up_ne _ _ (by omega)).trans (xs_M100 (C := C) hM)))), ((va_up_ne _ _ (by omega)).trans ((va_up_ne _ _ (by omega)).trans ((va_up_ne _ _ (by omega)).trans (xs_M101 (C := C) hM)))), ((va_up_ne _ _ (by omega)).trans ((va_up_ne _ _ (by omega)).trans ((va_up_ne _ _ (by omega)).trans (xs_M102 (C := C) hM)))), ((va_up_ne _ _ (by omega)).trans ((va_up_ne _ _ (by omega)).trans ((va_up_ne _ _ (by omega)).trans (xs_M103 (C := C) hM))))⟩, ⟨xs_MRak hR.1 (fun _ _ _ => rfl) (fun i hi => (pk_un (by omega)).trans (rfl)) (fun _ _ => rfl) (fun i i1 i2 i3 => by
                by_cases a : i = 89
                · rw [a]; exact xn_upid ((hR.1.2.2.1 kp (by omega)).1.trans (Decidable.byContradiction fun z => (hV.2.2.2.2.2.1 kp (by omega) z).1 y37))
                · by_cases b : i = 87
                  · rw [b]; exact xn_upid ((xs_ht hR (by omega)).trans y37)
                  · rw [xs_cuo a, xs_cuo b, xs_cuo (by omega)]), hR.2⟩⟩ (fun i hi => ((va_up_ne _ _ (by omega)).trans ((va_up_ne _ _ (by omega)).trans ((va_up_ne _ _ (by omega)).trans (Eq.refl _)))))
    · have y37 : ¬ σ 6 kp 0 = 0 := fun e => c_37 ((xs_ht hR (by omega)).trans e)
      refine xi_iconst (x := 1) (q := 41) dX9_clear_40 (by decide) rfl ?_
      refine xi_goto (q := 45) dX9_clear_41 (by decide) ?_
      refine xi_ret ⟨_, rfl, rfl, dX9_clear_45⟩ (Nat.zero_le _) (Nat.zero_le _) ?_
      exact xs_finM (σ' := (xs_ca (xs_en σ kp (σ 4 kp) (σ 5 kp 0) 0) kp 0 (σ 8 kp 0) (σ 9 kp 0) (σ 10 kp))) hp (by simp only [xs_clear, xs_onE, xs_onP, xs_fn, xs_an, Bool.not_false, Bool.not_true, Bool.true_or, Bool.false_or, Bool.and_true, Bool.true_and, Bool.and_false, Bool.false_and, Bool.false_eq_true, if_true, if_false, ↓reduceIte, g_9, eq_false y37, xs_kk0 (k := kp) (by omega)] <;> rfl) _ ⟨(xs_cu (xs_cu (xs_cu C 83 (upd (C 83) 0 0)) 87 (upd (C 87) kp 0)) 89 (upd (C 89) kp 0)), _, ⟨((va_up_ne _ _ (by omega)).trans ((va_up_ne _ _ (by omega)).trans ((va_up_self _ _ _).trans rfl))), ((va_up_ne _ _ (by omega)).trans ((va_up_ne _ _ (by omega)).trans ((va_up_ne _ _ (by omega)).trans (xs_M84 (C := C) hM)))), ((va_up_ne _ _ (by omega)).trans ((va_up_ne _ _ (by omega)).trans ((va_up_ne _ _ (by omega)).trans (xs_M85 (C := C) hM)))), ((va_up_ne _ _ (by omega)).trans ((va_up_ne _ _ (by omega)).trans ((va_up_ne _ _ (by omega)).trans (xs_M86 (C := C) hM)))), ((va_up_ne _ _ (by omega)).trans ((va_up_self _ _ _).trans rfl)), ((va_up_ne _ _ (by omega)).trans ((va_up_ne _ _ (by omega)).trans ((va_up_ne _ _ (by omega)).trans (xs_M88 (C := C) hM)))), ((va_up_self _ _ _).trans rfl), ((va_up_ne _ _ (by omega)).trans ((va_up_ne _ _ (by omega)).trans ((va_up_ne _ _ (by omega)).trans (xs_M90 (C := C) hM)))), ((va_up_ne _ _ (by omega)).trans ((va_up_ne _ _ (by omega)).trans ((va_up_ne _ _ (by omega)).trans (xs_M91 (C := C) hM)))), ((va_up_ne _ _ (by omega)).trans ((va_up_ne _ _ (by omega)).trans ((va_up_ne _ _ (by omega)).trans (xs_M92 (C := C) hM)))), ((va_up_ne _ _ (by omega)).trans ((va_up_ne _ _ (by omega)).trans ((va_up_ne _ _ (by omega)).trans (xs_M93 (C := C) hM)))), ((va_up_ne _ _ (by omega)).trans ((va_up_ne _ _ (by omega)).trans ((va_up_ne _ _ (by omega)).trans (xs_M94 (C := C) hM)))), ((va_up_ne _ _ (by omega)).trans ((va_up_ne _ _ (by omega)).trans ((va_up_ne _ _ (by omega)).trans (xs_M95 (C := C) hM)))), ((va_up_ne _ _ (by omega)).trans ((va_up_ne _ _ (by omega)).trans ((va_up_ne _ _ (by omega)).trans (xs_M96 (C := C) hM)))), ((va_up_ne _ _ (by omega)).trans ((va_up_ne _ _ (by omega)).trans ((va_up_ne _ _ (by omega)).trans (xs_M97 (C := C) hM)))), ((va_up_ne _ _ (by omega)).trans ((va_up_ne _ _ (by omega)).trans ((va_up_ne _ _ (by omega)).trans (xs_M98 (C := C) hM)))), ((va_up_ne _ _ (by omega)).trans ((va_up_ne _ _ (by omega)).trans ((va_up_ne _ _ (by omega)).trans (xs_M99 (C := C) hM)))), ((va_up_ne _ _ (by omega)).trans ((va_up_ne _ _ (by omega)).trans ((va_up_ne _ _ (by omega)).trans (xs_M100 (C := C) hM)))), ((va_up_ne _ _ (by omega)).trans ((va_up_ne _ _ (by omega)).trans ((va_up_ne _ _ (by omega)).trans (xs_M101 (C := C) hM)))), ((va_up_ne _ _ (by omega)).trans ((va_up_ne _ _ (by omega)).trans ((va_up_ne _ _ (by omega)).trans (xs_M102 (C := C) hM)))), ((va_up_ne _ _ (by omega)).trans ((va_up_ne _ _ (by omega)).trans ((va_up_ne _ _ (by omega)).trans (xs_M103 (C := C) hM))))⟩, ⟨xs_Rca (C := (xs_cu (xs_cu (xs_cu (xs_cu C 83 (upd (C 83) 0 0)) 87 (upd (C 87) kp 0)) 89 (upd (C 89) kp 0)) 89 (C 89))) (j := kp) (kp := 0) (xs_Ren (C' := (xs_cu (xs_cu (xs_cu (xs_cu C 83 (upd (C 83) 0 0)) 87 (upd (C 87) kp 0)) 89 (upd (C 89) kp 0)) 89 (C 89))) (j := kp) (nf := σ 4 kp) (s := σ 5 kp 0) (t := 0) hR.1 (fun p hp => rfl) (fun x hx => xs_hq hR (by omega) x hx) (xs_hs hR (by omega)) (fun x hx hx2 => rfl) (fun i hi => (pk_un (by omega)).trans (rfl)) (fun i hi i1 i2 i3 => by
                by_cases e : i = 89
                · rw [e]; rfl
                · rw [xs_cuo e, xs_cuo e, xs_cuo (by omega), xs_cuo (by omega)])) (fun p hp => rfl) (fun p hp => by
                by_cases e : p = kp
                · rw [if_pos e, e]; exact (hR.1.2.2.1 kp (by omega)).2.1
                · rw [if_neg e]; rfl) (fun p hp => by
                by_cases e : p = kp
                · rw [if_pos e, e]; exact (hR.1.2.2.1 kp (by omega)).2.2.1
                · rw [if_neg e]; rfl) (fun k hk => (hR.1.2.2.1 kp (by omega)).2.2.2 k hk) (fun p k hp hpk hk => rfl) (fun _ _ => rfl) (fun _ _ => rfl) (fun i hi i1 i2 => (xs_cuo (by omega)).symm), hR.2.trans (congrFun ((xs_cao (fe := 16) (o := 0) (xs_en σ kp (σ 4 kp) (σ 5 kp 0) 0) kp 0 (σ 8 kp 0) (σ 9 kp 0) (σ 10 kp) (Or.inr (by omega))).trans (xs_eno (fe := 16) (o := 0) σ kp (σ 5 kp 0) 0 (σ 4 kp) (Or.inr (by omega)))) 0).symm⟩⟩ (fun i hi => ((va_up_ne _ _ (by omega)).trans ((va_up_ne _ _ (by omega)).trans ((va_up_ne _ _ (by omega)).trans (Eq.refl _)))))
  · have g_9 : xs_i p 0 5 = false := decide_eq_false (xn_b0 c_9)
    refine xi_ldc (q := 14) dX9_clear_12 kc_X9_91 rfl ?_
    refine xi_ret ⟨_, rfl, rfl, dX9_clear_14⟩ (Nat.zero_le _) (Nat.zero_le _) ?_
    exact xs_finM (σ' := σ) hp (by simp only [xs_clear, xs_onE, xs_onP, xs_fn, xs_an, Bool.not_false, Bool.not_true, Bool.true_or, Bool.false_or, Bool.and_true, Bool.true_and, Bool.and_false, Bool.false_and, Bool.false_eq_true, if_true, if_false, ↓reduceIte, g_9] <;> rfl) _ (xs_Mx (σ' := σ) hM hR (fa := (upd (C 83) 0 0)) ((va_up_self _ _ _).trans rfl) (fun j hj => (pk_un (by omega)).trans (rfl)) ((va_up_ne _ _ (by omega)).trans (xs_M88 hM)) (fun _ _ => rfl) ((va_up_ne _ _ (by omega)).trans (xs_M94 hM)) ((va_up_ne _ _ (by omega)).trans (xs_M95 hM)) ((va_up_ne _ _ (by omega)).trans (xs_M96 hM)) ((va_up_ne _ _ (by omega)).trans (xs_M97 hM)) ((va_up_ne _ _ (by omega)).trans (xs_M98 hM)) ((va_up_ne _ _ (by omega)).trans (xs_M99 hM)) (fun i i1 i2 i3 i4 => ((va_up_ne _ _ (by omega)).trans (Eq.refl _))) (fun _ _ _ => rfl) hR.2) (fun i hi => ((va_up_ne _ _ (by omega)).trans (Eq.refl _)))

set_option maxRecDepth 20000 in
set_option maxHeartbeats 2000000 in
/-- tune -/
theorem xm_X9_tune : xv_K yX9_tune mX9_tune (fun as h n Post => ∃ (σ : xs_Sg) (p : Int32), as = [.ref 83, .int p] ∧ (xs_Mo h σ) ∧ (103 < n) ∧ (xs_V σ) ∧ xs_DM h n Post (xs_tune σ p)) := by
  refine xv_entry (by decide +kernel) rfl (fun h => absurd h (by decide)) ?_
  rintro X _ h n Post ⟨σ, p, rfl, ⟨C, dk, hM, hR⟩, h103, hV, hp⟩
  refine ⟨Nat.le_of_ble_eq_true rfl, ?_⟩
  show xv_V X mX9_tune Post 0 0 0 [(0, .ref 83), (1, .int p)] [] h n
  refine xi_aload_n (q := 1) dX9_tune_0 rfl rfl ?_
  refine xi_iconst (x := 0) (q := 2) dX9_tune_1 (by decide) rfl ?_
  refine xi_putf (q := 5) dX9_tune_2 fl_X9_71 ⟨by omega, (xs_M83 hM)⟩ (Or.inl rfl) (fun _ => rfl) (fun _ => rfl) (Nat.le_of_ble_eq_true rfl) rfl ?_
  refine xi_iload_n (q := 6) dX9_tune_5 rfl rfl ?_
  refine xv_cS1 (q := 9) xm_X9_isPlace ln_X9_116 dX9_tune_6 ⟨(Nat.le_of_ble_eq_true rfl), (Nat.le_of_ble_eq_true rfl)⟩ (Nat.le_of_ble_eq_true rfl) ⟨rfl, rfl⟩ rfl (Nat.zero_le _) (Nat.zero_le _) ?_
  refine ⟨_, rfl, ?_⟩
  refine xi_if_ne (q := 12) (q2 := 15) dX9_tune_9 (by decide) rfl (fun c_9 => ?_) (fun c_9 => ?_)
  · have g_9 : xs_i p 0 5 = true := decide_eq_true (xn_b1 c_9)
    obtain ⟨kp, hkp, rfl⟩ := xn_pk (m := 5) (by omega) (xn_b1 c_9)
    refine xi_aload_n (q := 16) dX9_tune_15 rfl rfl ?_
    refine xi_iload_n (q := 17) dX9_tune_16 rfl rfl ?_
    refine xv_cV1 (q := 20) xm_X9_stands ln_X9_123 dX9_tune_17 (xv_self (by omega)) rfl ⟨(Nat.le_of_ble_eq_true rfl), (Nat.le_of_ble_eq_true rfl)⟩ (Nat.le_of_ble_eq_true rfl) ⟨rfl, rfl⟩ rfl (Nat.zero_le _) (Nat.zero_le _) ?_
    refine ⟨(upd (C 83) 0 0), dk, C 87, kp, rfl, ((va_up_self _ _ _).trans rfl), by omega, ((va_up_ne _ _ (by omega)).trans (xs_M87 hM)), by omega, ?_, ?_⟩
    · intro z17 h17 p17 f17
      have Fh17 : ∀ i, i ≠ 83 → h17 i = h i := fun i j83 => (f17 i (by omega)).trans ((va_up_ne _ _ (by omega)).trans (Eq.refl _))
      have y17 : σ 6 kp 0 = 0 := (xs_ht hR (by omega)).symm.trans z17
      refine xi_istore_n (q := 21) dX9_tune_20 (Nat.le_of_ble_eq_true rfl) rfl ?_
      refine xi_iload_n (q := 22) dX9_tune_21 rfl rfl ?_
      refine xi_if_ge (q := 25) (q2 := 27) dX9_tune_22 (by decide) rfl (fun c_22 => ?_) (fun c_22 => ?_)
      · exact absurd c_22 (by decide)
      · skip
        refine xi_iload_n (q := 26) dX9_tune_25 rfl rfl ?_
        refine xi_ret ⟨_, rfl, rfl, dX9_tune_26⟩ (Nat.zero_le _) (Nat.zero_le _) ?_
        exact xs_finM (σ' := (xs_fd σ 1)) hp (by simp only [xs_tune, xs_onE, xs_onP, xs_fn1, xs_an, Bool.not_false, Bool.not_true, Bool.true_or, Bool.false_or, Bool.and_true, Bool.true_and, Bool.and_false, Bool.false_and, Bool.false_eq_true, if_true, if_false, ↓reduceIte, g_9, eq_true y17, xs_kk0 (k := kp) (by omega)] <;> rfl) _ (xs_Mx (σ' := (xs_fd σ 1)) hM hR (fa := (upd (upd (C 83) 0 0) 1 1)) p17 (fun j hj => (pk_un (by omega)).trans ((pk_un (by omega)).trans (rfl))) ((Fh17 88 (by omega)).trans (xs_M88 hM)) (fun _ _ => rfl) ((Fh17 94 (by omega)).trans (xs_M94 hM)) ((Fh17 95 (by omega)).trans (xs_M95 hM)) ((Fh17 96 (by omega)).trans (xs_M96 hM)) ((Fh17 97 (by omega)).trans (xs_M97 hM)) ((Fh17 98 (by omega)).trans (xs_M98 hM)) ((Fh17 99 (by omega)).trans (xs_M99 hM)) (fun i i1 i2 i3 i4 => (Fh17 i (by omega))) xs_fdo rfl) (fun i hi => (Fh17 i (by omega)))
    · intro z17 h17 p17 f17
      have Fh17 : ∀ i, i ≠ 83 → h17 i = h i := fun i j83 => (f17 i (by omega)).trans ((va_up_ne _ _ (by omega)).trans (Eq.refl _))
      have y17 : ¬ σ 6 kp 0 = 0 := fun e => z17 ((xs_ht hR (by omega)).trans e)
      refine xi_istore_n (q := 21) dX9_tune_20 (Nat.le_of_ble_eq_true rfl) rfl ?_
      refine xi_iload_n (q := 22) dX9_tune_21 rfl rfl ?_
      refine xi_if_ge (q := 25) (q2 := 27) dX9_tune_22 (by decide) rfl (fun c_22 => ?_) (fun c_22 => ?_)
      · skip
        refine xi_aload_n (q := 28) dX9_tune_27 rfl rfl ?_
        refine xi_iload_n (q := 29) dX9_tune_28 rfl rfl ?_
        refine xv_cV1 (q := 32) xm_X9_unlike ln_X9_179 dX9_tune_29 ⟨by omega, p17⟩ rfl ⟨(Nat.le_of_ble_eq_true rfl), (Nat.le_of_ble_eq_true rfl)⟩ (Nat.le_of_ble_eq_true rfl) ⟨rfl, rfl⟩ rfl (Nat.zero_le _) (Nat.zero_le _) ?_
        refine ⟨(upd (upd (C 83) 0 0) 1 0), dk, (C 88), kp, rfl, ⟨p17, ((Fh17 88 (by omega)).trans (xs_M88 hM)), ((Fh17 93 (by omega)).trans (xs_M93 hM))⟩, by omega, by omega, ?_⟩
        rw [xs_hs hR (p := kp) (by omega), xe_unl (xs_hq hR (p := kp) (by omega))]
        refine xi_istore_n (q := 33) dX9_tune_32 (Nat.le_of_ble_eq_true rfl) rfl ?_
        refine xi_aload_n (q := 34) dX9_tune_33 rfl rfl ?_
        refine xi_iload_n (q := 35) dX9_tune_34 rfl rfl ?_
        refine xv_cV1 (q := 38) xm_X9_settle ln_X9_191 dX9_tune_35 ⟨by omega, p17⟩ rfl ⟨(Nat.le_of_ble_eq_true rfl), (Nat.le_of_ble_eq_true rfl)⟩ (Nat.le_of_ble_eq_true rfl) ⟨rfl, rfl⟩ rfl (Nat.zero_le _) (Nat.zero_le _) ?_
        refine ⟨(upd (upd (C 83) 0 0) 1 0), dk, (C 88), kp, rfl, ⟨p17, ((Fh17 88 (by omega)).trans (xs_M88 hM)), ((Fh17 93 (by omega)).trans (xs_M93 hM))⟩, by omega, by omega, fun h35 n35 p35 q35 e35 f35 => ?_⟩
        rw [xs_hs hR (p := kp) (by omega), xe_set (xs_hq hR (p := kp) (by omega))] at p35 ⊢
        have Fh35 : ∀ i, i ≠ 83 → i ≠ 88 → h35 i = h i := fun i j83 j88 => (f35 i (by omega) (by omega)).trans (Fh17 i (by omega))
        refine xi_istore (q := 40) dX9_tune_38 (Nat.le_of_ble_eq_true rfl) rfl ?_
        refine xi_aload_n (q := 41) dX9_tune_40 rfl rfl ?_
        refine xi_getf (q := 44) dX9_tune_41 fl_X9_23 ⟨by omega, p35⟩ rfl rfl ?_
        refine xi_bipush (x := 12) (q := 46) dX9_tune_44 (by decide) rfl ?_
        refine xi_iload_n (q := 47) dX9_tune_46 rfl rfl ?_
        refine xi_imul (q := 48) dX9_tune_47 rfl ?_
        refine xi_iconst (x := 2) (q := 49) dX9_tune_48 (by decide) rfl ?_
        refine xi_iadd (q := 50) dX9_tune_49 rfl ?_
        refine xi_aload_n (q := 51) dX9_tune_50 rfl rfl ?_
        refine xi_getf (q := 54) dX9_tune_51 fl_X9_185 ⟨by omega, p35⟩ rfl rfl ?_
        refine xi_iast (q := 55) dX9_tune_54 ⟨by omega, q35⟩ (xn_ix12 (j := 2) (p := kp) (by omega) (by omega)) rfl ?_
        refine xi_aload_n (q := 56) dX9_tune_55 rfl rfl ?_
        refine xi_getf (q := 59) dX9_tune_56 fl_X9_23 (xv_keep (by omega) ⟨by omega, p35⟩) rfl rfl ?_
        refine xi_bipush (x := 12) (q := 61) dX9_tune_59 (by decide) rfl ?_
        refine xi_iload_n (q := 62) dX9_tune_61 rfl rfl ?_
        refine xi_imul (q := 63) dX9_tune_62 rfl ?_
        refine xi_iconst (x := 3) (q := 64) dX9_tune_63 (by decide) rfl ?_
        refine xi_iadd (q := 65) dX9_tune_64 rfl ?_
        refine xi_aload_n (q := 66) dX9_tune_65 rfl rfl ?_
        refine xi_getf (q := 69) dX9_tune_66 fl_X9_188 (xv_keep (by omega) ⟨by omega, p35⟩) rfl rfl ?_
        refine xi_iast (q := 70) dX9_tune_69 (xv_self (by omega)) (xn_ix12 (j := 3) (p := kp) (by omega) (by omega)) rfl ?_
        refine xi_iload_n (q := 71) dX9_tune_70 rfl rfl ?_
        refine xi_ret ⟨_, rfl, rfl, dX9_tune_71⟩ (Nat.zero_le _) (Nat.zero_le _) ?_
        exact xs_finM (σ' := (xs_fd (xs_en σ kp (xs_ag (σ 4 kp) (xs_set (σ 4 kp) (σ 5 kp 0)).2.1 (xs_set (σ 4 kp) (σ 5 kp 0)).2.2) (σ 5 kp 0) (σ 6 kp 0)) 0)) hp (by simp only [xs_tune, xs_onE, xs_onP, xs_fn, xs_an, Bool.not_false, Bool.not_true, Bool.true_or, Bool.false_or, Bool.and_true, Bool.true_and, Bool.and_false, Bool.false_and, Bool.false_eq_true, if_true, if_false, ↓reduceIte, g_9, eq_false y17, xs_kk0 (k := kp) (by omega)] <;> rfl) _ ⟨(xs_cu (xs_cu C 83 (upd (upd (upd (upd (C 83) 0 0) 1 0) 2 (xs_set (σ 4 kp) (σ 5 kp 0)).2.1) 3 (xs_set (σ 4 kp) (σ 5 kp 0)).2.2)) 88 (upd (upd n35 (12 * kp + 2) (xs_set (σ 4 kp) (σ 5 kp 0)).2.1) (12 * kp + 3) (xs_set (σ 4 kp) (σ 5 kp 0)).2.2)), _, ⟨((va_up_ne _ _ (by omega)).trans ((va_up_ne _ _ (by omega)).trans p35)), ((va_up_ne _ _ (by omega)).trans ((va_up_ne _ _ (by omega)).trans ((Fh35 84 (by omega) (by omega)).trans (xs_M84 (C := C) hM)))), ((va_up_ne _ _ (by omega)).trans ((va_up_ne _ _ (by omega)).trans ((Fh35 85 (by omega) (by omega)).trans (xs_M85 (C := C) hM)))), ((va_up_ne _ _ (by omega)).trans ((va_up_ne _ _ (by omega)).trans ((Fh35 86 (by omega) (by omega)).trans (xs_M86 (C := C) hM)))), ((va_up_ne _ _ (by omega)).trans ((va_up_ne _ _ (by omega)).trans ((Fh35 87 (by omega) (by omega)).trans (xs_M87 (C := C) hM)))), ((va_up_self _ _ _).trans rfl), ((va_up_ne _ _ (by omega)).trans ((va_up_ne _ _ (by omega)).trans ((Fh35 89 (by omega) (by omega)).trans (xs_M89 (C := C) hM)))), ((va_up_ne _ _ (by omega)).trans ((va_up_ne _ _ (by omega)).trans ((Fh35 90 (by omega) (by omega)).trans (xs_M90 (C := C) hM)))), ((va_up_ne _ _ (by omega)).trans ((va_up_ne _ _ (by omega)).trans ((Fh35 91 (by omega) (by omega)).trans (xs_M91 (C := C) hM)))), ((va_up_ne _ _ (by omega)).trans ((va_up_ne _ _ (by omega)).trans ((Fh35 92 (by omega) (by omega)).trans (xs_M92 (C := C) hM)))), ((va_up_ne _ _ (by omega)).trans ((va_up_ne _ _ (by omega)).trans ((Fh35 93 (by omega) (by omega)).trans (xs_M93 (C := C) hM)))), ((va_up_ne _ _ (by omega)).trans ((va_up_ne _ _ (by omega)).trans ((Fh35 94 (by omega) (by omega)).trans (xs_M94 (C := C) hM)))), ((va_up_ne _ _ (by omega)).trans ((va_up_ne _ _ (by omega)).trans ((Fh35 95 (by omega) (by omega)).trans (xs_M95 (C := C) hM)))), ((va_up_ne _ _ (by omega)).trans ((va_up_ne _ _ (by omega)).trans ((Fh35 96 (by omega) (by omega)).trans (xs_M96 (C := C) hM)))), ((va_up_ne _ _ (by omega)).trans ((va_up_ne _ _ (by omega)).trans ((Fh35 97 (by omega) (by omega)).trans (xs_M97 (C := C) hM)))), ((va_up_ne _ _ (by omega)).trans ((va_up_ne _ _ (by omega)).trans ((Fh35 98 (by omega) (by omega)).trans (xs_M98 (C := C) hM)))), ((va_up_ne _ _ (by omega)).trans ((va_up_ne _ _ (by omega)).trans ((Fh35 99 (by omega) (by omega)).trans (xs_M99 (C := C) hM)))), ((va_up_ne _ _ (by omega)).trans ((va_up_ne _ _ (by omega)).trans ((Fh35 100 (by omega) (by omega)).trans (xs_M100 (C := C) hM)))), ((va_up_ne _ _ (by omega)).trans ((va_up_ne _ _ (by omega)).trans ((Fh35 101 (by omega) (by omega)).trans (xs_M101 (C := C) hM)))), ((va_up_ne _ _ (by omega)).trans ((va_up_ne _ _ (by omega)).trans ((Fh35 102 (by omega) (by omega)).trans (xs_M102 (C := C) hM)))), ((va_up_ne _ _ (by omega)).trans ((va_up_ne _ _ (by omega)).trans ((Fh35 103 (by omega) (by omega)).trans (xs_M103 (C := C) hM))))⟩, ⟨xs_Rfd (xs_Ren (j := kp) hR.1 (fun p hp => by
                  by_cases e : p = kp
                  · rw [if_pos e, e]; exact xs_ht hR (by omega)
                  · rw [if_neg e]; rfl) (fun x hx => by
                  show (upd (upd n35 (12 * kp + 2) (xs_set (σ 4 kp) (σ 5 kp 0)).2.1) (12 * kp + 3) (xs_set (σ 4 kp) (σ 5 kp 0)).2.2) (12 * kp + x) = upd (upd (σ 4 kp) 2 (xs_set (σ 4 kp) (σ 5 kp 0)).2.1) 3 (xs_set (σ 4 kp) (σ 5 kp 0)).2.2 x
                  by_cases z3 : x = 3
                  · rw [z3, pk_us, pk_us]
                  · rw [pk_un (by omega), pk_un z3]
                    by_cases z2 : x = 2
                    · rw [z2, pk_us, pk_us]
                    · rw [pk_un (by omega), pk_un z2]; exact (e35 _ (by omega)).trans (xs_hq hR (by omega) x hx)) ((pk_un (by omega)).trans ((pk_un (by omega)).trans ((e35 _ (by omega)).trans (xs_hs hR (by omega))))) (fun x hx hx2 => (pk_un (by omega)).trans ((pk_un (by omega)).trans (e35 x hx))) (fun i hi => (pk_un (by omega)).trans ((pk_un (by omega)).trans ((pk_un (by omega)).trans ((pk_un (by omega)).trans (rfl))))) (fun i hi i1 i2 i3 => (by rw [xs_cuo (by omega), xs_cuo (by omega)]))), rfl⟩⟩ (fun i hi => ((va_up_ne _ _ (by omega)).trans ((va_up_ne _ _ (by omega)).trans (Fh35 i (by omega) (by omega)))))
      · exact absurd (by decide) c_22
  · have g_9 : xs_i p 0 5 = false := decide_eq_false (xn_b0 c_9)
    refine xi_ldc (q := 14) dX9_tune_12 kc_X9_91 rfl ?_
    refine xi_ret ⟨_, rfl, rfl, dX9_tune_14⟩ (Nat.zero_le _) (Nat.zero_le _) ?_
    exact xs_finM (σ' := σ) hp (by simp only [xs_tune, xs_onE, xs_onP, xs_fn, xs_an, Bool.not_false, Bool.not_true, Bool.true_or, Bool.false_or, Bool.and_true, Bool.true_and, Bool.and_false, Bool.false_and, Bool.false_eq_true, if_true, if_false, ↓reduceIte, g_9] <;> rfl) _ (xs_Mx (σ' := σ) hM hR (fa := (upd (C 83) 0 0)) ((va_up_self _ _ _).trans rfl) (fun j hj => (pk_un (by omega)).trans (rfl)) ((va_up_ne _ _ (by omega)).trans (xs_M88 hM)) (fun _ _ => rfl) ((va_up_ne _ _ (by omega)).trans (xs_M94 hM)) ((va_up_ne _ _ (by omega)).trans (xs_M95 hM)) ((va_up_ne _ _ (by omega)).trans (xs_M96 hM)) ((va_up_ne _ _ (by omega)).trans (xs_M97 hM)) ((va_up_ne _ _ (by omega)).trans (xs_M98 hM)) ((va_up_ne _ _ (by omega)).trans (xs_M99 hM)) (fun i i1 i2 i3 i4 => ((va_up_ne _ _ (by omega)).trans (Eq.refl _))) (fun _ _ _ => rfl) hR.2) (fun i hi => ((va_up_ne _ _ (by omega)).trans (Eq.refl _)))

set_option maxRecDepth 20000 in
set_option maxHeartbeats 2000000 in
/-- stoke -/
theorem xm_X9_stoke : xv_K yX9_stoke mX9_stoke (fun as h n Post => ∃ (σ : xs_Sg) (c : Int32), as = [.ref 83, .int c] ∧ (xs_Mo h σ) ∧ (103 < n) ∧ (xs_V σ) ∧ xs_DM h n Post (xs_stoke σ c)) := by
  refine xv_entry (by decide +kernel) rfl (fun h => absurd h (by decide)) ?_
  rintro X _ h n Post ⟨σ, c, rfl, ⟨C, dk, hM, hR⟩, h103, hV, hp⟩
  refine ⟨Nat.le_of_ble_eq_true rfl, ?_⟩
  show xv_V X mX9_stoke Post 0 0 0 [(0, .ref 83), (1, .int c)] [] h n
  refine xi_aload_n (q := 1) dX9_stoke_0 rfl rfl ?_
  refine xi_iconst (x := 0) (q := 2) dX9_stoke_1 (by decide) rfl ?_
  refine xi_putf (q := 5) dX9_stoke_2 fl_X9_71 ⟨by omega, (xs_M83 hM)⟩ (Or.inl rfl) (fun _ => rfl) (fun _ => rfl) (Nat.le_of_ble_eq_true rfl) rfl ?_
  refine xi_iload_n (q := 6) dX9_stoke_5 rfl rfl ?_
  refine xi_i2l (q := 7) dX9_stoke_6 rfl ?_
  refine xi_lconst (x := 1) (q := 8) dX9_stoke_7 (by decide) rfl ?_
  refine xi_ldc2 (q := 11) dX9_stoke_8 kc_X9_165 rfl ?_
  refine xv_cS3 (q := 14) xm_X9_in ln_X9_81 dX9_stoke_11 ⟨(Nat.le_of_ble_eq_true rfl), (Nat.le_of_ble_eq_true rfl)⟩ (Nat.le_of_ble_eq_true rfl) ⟨rfl, rfl⟩ rfl (Nat.zero_le _) (Nat.zero_le _) ?_
  refine ⟨c, 1, 1000, rfl, ?_⟩
  refine xi_if_ne (q := 17) (q2 := 20) dX9_stoke_14 (by decide) rfl (fun c_14 => ?_) (fun c_14 => ?_)
  · have g_14 : xs_i c 1 1000 = true := decide_eq_true (xn_b1 c_14)
    refine xi_aload_n (q := 21) dX9_stoke_20 rfl rfl ?_
    refine xi_getf (q := 24) dX9_stoke_21 fl_X9_246 (xv_self (by omega)) rfl rfl ?_
    refine xi_iload_n (q := 25) dX9_stoke_24 rfl rfl ?_
    refine xi_iadd (q := 26) dX9_stoke_25 rfl ?_
    refine xi_sipush (x := 10000) (q := 29) dX9_stoke_26 (by decide) rfl ?_
    refine xi_icmp_le (q := 32) (q2 := 35) dX9_stoke_29 (by decide) rfl (fun c_29 => ?_) (fun c_29 => ?_)
    · have y29 : σ 13 0 1 + c ≤ 10000 := by rw [← (show C 83 6 = σ 13 0 1 from (hR.1.2.2.2.1.2 1 (by omega)))]; exact c_29
      refine xi_aload_n (q := 36) dX9_stoke_35 rfl rfl ?_
      refine xi_dup (q := 37) dX9_stoke_36 rfl rfl ?_
      refine xi_getf (q := 40) dX9_stoke_37 fl_X9_246 (xv_self (by omega)) rfl rfl ?_
      refine xi_iload_n (q := 41) dX9_stoke_40 rfl rfl ?_
      refine xi_iadd (q := 42) dX9_stoke_41 rfl ?_
      refine xi_putf (q := 45) dX9_stoke_42 fl_X9_246 (xv_self (by omega)) (Or.inl rfl) (fun _ => rfl) (fun _ => rfl) (Nat.le_of_ble_eq_true rfl) rfl ?_
      refine xi_aload_n (q := 46) dX9_stoke_45 rfl rfl ?_
      refine xi_getf (q := 49) dX9_stoke_46 fl_X9_246 (xv_self (by omega)) rfl rfl ?_
      refine xi_ret ⟨_, rfl, rfl, dX9_stoke_49⟩ (Nat.zero_le _) (Nat.zero_le _) ?_
      exact xs_finM (σ' := (xs_fi σ (xs_f6 (σ 13 0 0) (σ 13 0 1 + c) (σ 13 0 2) (σ 13 0 3) (σ 13 0 4) (σ 13 0 5)))) hp (by rw [(show C 83 6 = σ 13 0 1 from (hR.1.2.2.2.1.2 1 (by omega)))]; simp only [xs_stoke, xs_onE, xs_onP, xs_fn, xs_an, Bool.not_false, Bool.not_true, Bool.true_or, Bool.false_or, Bool.and_true, Bool.true_and, Bool.and_false, Bool.false_and, Bool.false_eq_true, if_true, if_false, ↓reduceIte, g_14, eq_true y29] <;> rfl) _ ⟨(xs_cu C 83 (upd (upd (C 83) 0 0) 6 (C 83 6 + c))), _, ⟨((va_up_self _ _ _).trans rfl), ((va_up_ne _ _ (by omega)).trans ((va_up_ne _ _ (by omega)).trans (xs_M84 (C := C) hM))), ((va_up_ne _ _ (by omega)).trans ((va_up_ne _ _ (by omega)).trans (xs_M85 (C := C) hM))), ((va_up_ne _ _ (by omega)).trans ((va_up_ne _ _ (by omega)).trans (xs_M86 (C := C) hM))), ((va_up_ne _ _ (by omega)).trans ((va_up_ne _ _ (by omega)).trans (xs_M87 (C := C) hM))), ((va_up_ne _ _ (by omega)).trans ((va_up_ne _ _ (by omega)).trans (xs_M88 (C := C) hM))), ((va_up_ne _ _ (by omega)).trans ((va_up_ne _ _ (by omega)).trans (xs_M89 (C := C) hM))), ((va_up_ne _ _ (by omega)).trans ((va_up_ne _ _ (by omega)).trans (xs_M90 (C := C) hM))), ((va_up_ne _ _ (by omega)).trans ((va_up_ne _ _ (by omega)).trans (xs_M91 (C := C) hM))), ((va_up_ne _ _ (by omega)).trans ((va_up_ne _ _ (by omega)).trans (xs_M92 (C := C) hM))), ((va_up_ne _ _ (by omega)).trans ((va_up_ne _ _ (by omega)).trans (xs_M93 (C := C) hM))), ((va_up_ne _ _ (by omega)).trans ((va_up_ne _ _ (by omega)).trans (xs_M94 (C := C) hM))), ((va_up_ne _ _ (by omega)).trans ((va_up_ne _ _ (by omega)).trans (xs_M95 (C := C) hM))), ((va_up_ne _ _ (by omega)).trans ((va_up_ne _ _ (by omega)).trans (xs_M96 (C := C) hM))), ((va_up_ne _ _ (by omega)).trans ((va_up_ne _ _ (by omega)).trans (xs_M97 (C := C) hM))), ((va_up_ne _ _ (by omega)).trans ((va_up_ne _ _ (by omega)).trans (xs_M98 (C := C) hM))), ((va_up_ne _ _ (by omega)).trans ((va_up_ne _ _ (by omega)).trans (xs_M99 (C := C) hM))), ((va_up_ne _ _ (by omega)).trans ((va_up_ne _ _ (by omega)).trans (xs_M100 (C := C) hM))), ((va_up_ne _ _ (by omega)).trans ((va_up_ne _ _ (by omega)).trans (xs_M101 (C := C) hM))), ((va_up_ne _ _ (by omega)).trans ((va_up_ne _ _ (by omega)).trans (xs_M102 (C := C) hM))), ((va_up_ne _ _ (by omega)).trans ((va_up_ne _ _ (by omega)).trans (xs_M103 (C := C) hM)))⟩, ⟨xs_Rfi hR.1 (fun j hj => by
                obtain rfl | rfl | rfl | rfl | rfl | rfl : j = 0 ∨ j = 1 ∨ j = 2 ∨ j = 3 ∨ j = 4 ∨ j = 5 := by omega
                · exact (hR.1.2.2.2.1.2 0 (by omega))
                · show C 83 6 + c = σ 13 0 1 + c; rw [(show C 83 6 = σ 13 0 1 from (hR.1.2.2.2.1.2 1 (by omega)))]
                · exact (hR.1.2.2.2.1.2 2 (by omega))
                · exact (hR.1.2.2.2.1.2 3 (by omega))
                · exact (hR.1.2.2.2.1.2 4 (by omega))
                · exact (hR.1.2.2.2.1.2 5 (by omega))) rfl rfl (fun _ _ => rfl) (fun i hi i1 i2 => (by rw [xs_cuo (by omega)])), hR.2⟩⟩ (fun i hi => ((va_up_ne _ _ (by omega)).trans ((va_up_ne _ _ (by omega)).trans (Eq.refl _))))
    · have y29 : ¬ σ 13 0 1 + c ≤ 10000 := by rw [← (show C 83 6 = σ 13 0 1 from (hR.1.2.2.2.1.2 1 (by omega)))]; exact c_29
      refine xi_ldc (q := 34) dX9_stoke_32 kc_X9_249 rfl ?_
      refine xi_ret ⟨_, rfl, rfl, dX9_stoke_34⟩ (Nat.zero_le _) (Nat.zero_le _) ?_
      exact xs_finM (σ' := σ) hp (by simp only [xs_stoke, xs_onE, xs_onP, xs_fn, xs_an, Bool.not_false, Bool.not_true, Bool.true_or, Bool.false_or, Bool.and_true, Bool.true_and, Bool.and_false, Bool.false_and, Bool.false_eq_true, if_true, if_false, ↓reduceIte, g_14, eq_false y29] <;> rfl) _ (xs_Mx (σ' := σ) hM hR (fa := (upd (C 83) 0 0)) ((va_up_self _ _ _).trans rfl) (fun j hj => (pk_un (by omega)).trans (rfl)) ((va_up_ne _ _ (by omega)).trans (xs_M88 hM)) (fun _ _ => rfl) ((va_up_ne _ _ (by omega)).trans (xs_M94 hM)) ((va_up_ne _ _ (by omega)).trans (xs_M95 hM)) ((va_up_ne _ _ (by omega)).trans (xs_M96 hM)) ((va_up_ne _ _ (by omega)).trans (xs_M97 hM)) ((va_up_ne _ _ (by omega)).trans (xs_M98 hM)) ((va_up_ne _ _ (by omega)).trans (xs_M99 hM)) (fun i i1 i2 i3 i4 => ((va_up_ne _ _ (by omega)).trans (Eq.refl _))) (fun _ _ _ => rfl) hR.2) (fun i hi => ((va_up_ne _ _ (by omega)).trans (Eq.refl _)))
  · have g_14 : xs_i c 1 1000 = false := decide_eq_false (xn_b0 c_14)
    refine xi_ldc (q := 19) dX9_stoke_17 kc_X9_91 rfl ?_
    refine xi_ret ⟨_, rfl, rfl, dX9_stoke_19⟩ (Nat.zero_le _) (Nat.zero_le _) ?_
    exact xs_finM (σ' := σ) hp (by simp only [xs_stoke, xs_onE, xs_onP, xs_fn, xs_an, Bool.not_false, Bool.not_true, Bool.true_or, Bool.false_or, Bool.and_true, Bool.true_and, Bool.and_false, Bool.false_and, Bool.false_eq_true, if_true, if_false, ↓reduceIte, g_14] <;> rfl) _ (xs_Mx (σ' := σ) hM hR (fa := (upd (C 83) 0 0)) ((va_up_self _ _ _).trans rfl) (fun j hj => (pk_un (by omega)).trans (rfl)) ((va_up_ne _ _ (by omega)).trans (xs_M88 hM)) (fun _ _ => rfl) ((va_up_ne _ _ (by omega)).trans (xs_M94 hM)) ((va_up_ne _ _ (by omega)).trans (xs_M95 hM)) ((va_up_ne _ _ (by omega)).trans (xs_M96 hM)) ((va_up_ne _ _ (by omega)).trans (xs_M97 hM)) ((va_up_ne _ _ (by omega)).trans (xs_M98 hM)) ((va_up_ne _ _ (by omega)).trans (xs_M99 hM)) (fun i i1 i2 i3 i4 => ((va_up_ne _ _ (by omega)).trans (Eq.refl _))) (fun _ _ _ => rfl) hR.2) (fun i hi => ((va_up_ne _ _ (by omega)).trans (Eq.refl _)))

