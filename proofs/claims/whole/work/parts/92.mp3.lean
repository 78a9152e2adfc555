def xs_lk (g : Nat → Int32) : Nat → Int32
  | 0 => 0
  | k + 1 => xs_lk g k + (if 0 < k ∧ k < 24 ∧ g k < g (48 - k) then 1 else 0)
def xs_pk (g : Nat → Int32) : Nat → Int32
  | 0 => g 0
  | k + 1 => if xs_pk g k < g k then g k else xs_pk g k
theorem xn_pkE (g : Nat → Int32) : ∀ k, xs_pk g (k + 1) = xs_mx g k
  | 0 => by
    show (if g 0 < g 0 then g 0 else g 0) = g 0
    split <;> rfl
  | k + 1 => by
    show (if xs_pk g (k + 1) < g (k + 1) then g (k + 1) else xs_pk g (k + 1)) = if xs_mx g k < g (k + 1) then g (k + 1) else xs_mx g k
    rw [xn_pkE g k]
theorem xn_lkE (g : Nat → Int32) : ∀ k, k ≤ 23 → xs_lk g (k + 1) = xs_ps (xs_lp1 g) k
  | 0, _ => by
    show (0 : Int32) + (if 0 < 0 ∧ 0 < 24 ∧ g 0 < g (48 - 0) then 1 else 0) = 0
    rw [if_neg (fun z => absurd z.1 (by omega))]
    rfl
  | k + 1, hk => by
    show xs_lk g (k + 1) + (if 0 < k + 1 ∧ k + 1 < 24 ∧ g (k + 1) < g (48 - (k + 1)) then 1 else 0) = xs_ps (xs_lp1 g) k + xs_lp1 g k
    rw [xn_lkE g k (by omega)]
    unfold xs_lp1
    rw [show 48 - (k + 1) = 47 - k by omega]
    by_cases z : g (k + 1) < g (47 - k)
    · rw [if_pos ⟨by omega, by omega, z⟩, if_pos z]
    · rw [if_neg (fun y => z y.2.2), if_neg z]
theorem xn_lkT (g : Nat → Int32) : ∀ j, xs_lk g (24 + j) = xs_ps (xs_lp1 g) 23
  | 0 => xn_lkE g 23 (by omega)
  | j + 1 => by
    show xs_lk g (24 + j) + (if 0 < 24 + j ∧ 24 + j < 24 ∧ g (24 + j) < g (48 - (24 + j)) then 1 else 0) = xs_ps (xs_lp1 g) 23
    rw [if_neg (fun z => absurd z.2.1 (by omega)), xn_lkT g j, Int32.add_zero]
theorem xn_lk0 {g : Nat → Int32} {k : Nat} (h : ¬ (0 < k ∧ k < 24 ∧ g k < g (48 - k))) : xs_lk g k + 0 = xs_lk g (k + 1) := by
  show _ = xs_lk g k + (if 0 < k ∧ k < 24 ∧ g k < g (48 - k) then 1 else 0)
  rw [if_neg h]
theorem xn_lk1 {g : Nat → Int32} {k : Nat} (h : 0 < k ∧ k < 24 ∧ g k < g (48 - k)) : xs_lk g k + 1 = xs_lk g (k + 1) := by
  show _ = xs_lk g k + (if 0 < k ∧ k < 24 ∧ g k < g (48 - k) then 1 else 0)
  rw [if_pos h]
theorem xn_pk0 {g : Nat → Int32} {k : Nat} (h : g k ≤ xs_pk g k) : xs_pk g k = xs_pk g (k + 1) := by
  show _ = if xs_pk g k < g k then g k else xs_pk g k
  rw [if_neg (xn_nlt h)]
theorem xn_pk1 {g : Nat → Int32} {k : Nat} (h : ¬ g k ≤ xs_pk g k) : g k = xs_pk g (k + 1) := by
  show _ = if xs_pk g k < g k then g k else xs_pk g k
  rw [if_pos (xn_ltn h)]
set_option maxRecDepth 20000 in
set_option maxHeartbeats 2000000 in
/-- look -/
theorem xm_X9_look : xv_K yX9_look mX9_look (fun as h n Post => ∃ (σ : xs_Sg) (p : Int32) (m : Int32) (b : Int32) (g : Int32) (d : Int32) (w : Int32), as = [.ref 83, .int p, .int m, .int b, .int g, .int d, .int w] ∧ (xs_Mo h σ) ∧ (103 < n) ∧ (xs_V σ) ∧ xs_DM h n Post (xs_look σ p m b g d w)) := by
  refine xv_entry (by decide +kernel) rfl (fun h => absurd h (by decide)) ?_
  rintro X _ h n Post ⟨σ, p, m, b, g, d, w, rfl, ⟨C, dk, hM, hR⟩, h103, hV, hp⟩
  refine ⟨Nat.le_of_ble_eq_true rfl, ?_⟩
  show xv_V X mX9_look Post 0 0 0 [(0, .ref 83), (1, .int p), (2, .int m), (3, .int b), (4, .int g), (5, .int d), (6, .int w)] [] h n
  refine xi_aload_n (q := 1) dX9_look_0 rfl rfl ?_
  refine xi_iconst (x := 0) (q := 2) dX9_look_1 (by decide) rfl ?_
  refine xi_putf (q := 5) dX9_look_2 fl_X9_71 ⟨by omega, (xs_M83 hM)⟩ (Or.inl rfl) (fun _ => rfl) (fun _ => rfl) (Nat.le_of_ble_eq_true rfl) rfl ?_
  refine xi_iload_n (q := 6) dX9_look_5 rfl rfl ?_
  refine xv_cS1 (q := 9) xm_X9_isPlace ln_X9_116 dX9_look_6 ⟨(Nat.le_of_ble_eq_true rfl), (Nat.le_of_ble_eq_true rfl)⟩ (Nat.le_of_ble_eq_true rfl) ⟨rfl, rfl⟩ rfl (Nat.zero_le _) (Nat.zero_le _) ?_
  refine ⟨_, rfl, ?_⟩
  refine xi_if_eq (q := 12) (q2 := 46) dX9_look_9 (by decide) rfl (fun c_9 => ?_) (fun c_9 => ?_)
  · have g_9 : xs_i p 0 5 = false := decide_eq_false (xn_b0 c_9)
    refine xi_ldc (q := 48) dX9_look_46 kc_X9_91 rfl ?_
    refine xi_ret ⟨_, rfl, rfl, dX9_look_48⟩ (Nat.zero_le _) (Nat.zero_le _) ?_
    exact xs_finM (σ' := σ) hp (by simp only [xs_look, xs_onE, xs_onP, xs_fn, xs_an, Bool.not_false, Bool.not_true, Bool.true_or, Bool.false_or, Bool.and_true, Bool.true_and, Bool.and_false, Bool.false_and, Bool.false_eq_true, if_true, if_false, ↓reduceIte, g_9] <;> rfl) _ (xs_Mx (σ' := σ) hM hR (fa := (upd (C 83) 0 0)) ((va_up_self _ _ _).trans rfl) (fun j hj => (pk_un (by omega)).trans (rfl)) ((va_up_ne _ _ (by omega)).trans (xs_M88 hM)) (fun _ _ => rfl) ((va_up_ne _ _ (by omega)).trans (xs_M94 hM)) ((va_up_ne _ _ (by omega)).trans (xs_M95 hM)) ((va_up_ne _ _ (by omega)).trans (xs_M96 hM)) ((va_up_ne _ _ (by omega)).trans (xs_M97 hM)) ((va_up_ne _ _ (by omega)).trans (xs_M98 hM)) ((va_up_ne _ _ (by omega)).trans (xs_M99 hM)) (fun i i1 i2 i3 i4 => ((va_up_ne _ _ (by omega)).trans (Eq.refl _))) (fun _ _ _ => rfl) hR.2) (fun i hi => ((va_up_ne _ _ (by omega)).trans (Eq.refl _)))
  · have g_9 : xs_i p 0 5 = true := decide_eq_true (xn_b1 c_9)
    obtain ⟨kp, hkp, rfl⟩ := xn_pk (m := 5) (by omega) (xn_b1 c_9)
    refine xi_iload_n (q := 13) dX9_look_12 rfl rfl ?_
    refine xi_iload_n (q := 14) dX9_look_13 rfl rfl ?_
    refine xi_iload (q := 16) dX9_look_14 rfl rfl ?_
    refine xv_cS3 (q := 19) xm_X9_isTurn ln_X9_209 dX9_look_16 ⟨(Nat.le_of_ble_eq_true rfl), (Nat.le_of_ble_eq_true rfl)⟩ (Nat.le_of_ble_eq_true rfl) ⟨rfl, rfl⟩ rfl (Nat.zero_le _) (Nat.zero_le _) ?_
    refine ⟨_, _, _, rfl, ?_⟩
    refine xi_if_eq (q := 22) (q2 := 46) dX9_look_19 (by decide) rfl (fun c_19 => ?_) (fun c_19 => ?_)
    · have g_19 : (xs_i m (-6) 6 && xs_i b 0 2000 && xs_i g 0 4) = false := Bool.eq_false_iff.mpr (xn_b0 c_19)
      refine xi_ldc (q := 48) dX9_look_46 kc_X9_91 rfl ?_
      refine xi_ret ⟨_, rfl, rfl, dX9_look_48⟩ (Nat.zero_le _) (Nat.zero_le _) ?_
      exact xs_finM (σ' := σ) hp (by simp only [xs_look, xs_onE, xs_onP, xs_fn, xs_an, Bool.not_false, Bool.not_true, Bool.true_or, Bool.false_or, Bool.and_true, Bool.true_and, Bool.and_false, Bool.false_and, Bool.false_eq_true, if_true, if_false, ↓reduceIte, g_9, g_19, xs_kk0 (k := kp) (by omega)] <;> rfl) _ (xs_Mx (σ' := σ) hM hR (fa := (upd (C 83) 0 0)) ((va_up_self _ _ _).trans rfl) (fun j hj => (pk_un (by omega)).trans (rfl)) ((va_up_ne _ _ (by omega)).trans (xs_M88 hM)) (fun _ _ => rfl) ((va_up_ne _ _ (by omega)).trans (xs_M94 hM)) ((va_up_ne _ _ (by omega)).trans (xs_M95 hM)) ((va_up_ne _ _ (by omega)).trans (xs_M96 hM)) ((va_up_ne _ _ (by omega)).trans (xs_M97 hM)) ((va_up_ne _ _ (by omega)).trans (xs_M98 hM)) ((va_up_ne _ _ (by omega)).trans (xs_M99 hM)) (fun i i1 i2 i3 i4 => ((va_up_ne _ _ (by omega)).trans (Eq.refl _))) (fun _ _ _ => rfl) hR.2) (fun i hi => ((va_up_ne _ _ (by omega)).trans (Eq.refl _)))
    · have g_19 : (xs_i m (-6) 6 && xs_i b 0 2000 && xs_i g 0 4) = true := xn_b1 c_19
      have t_19 : (xs_i m (-6) 6 = true ∧ xs_i b 0 2000 = true) ∧ xs_i g 0 4 = true := by rw [← Bool.and_eq_true, ← Bool.and_eq_true]; exact g_19
      refine xi_iload (q := 24) dX9_look_22 rfl rfl ?_
      refine xi_i2l (q := 25) dX9_look_24 rfl ?_
      refine xi_lconst (x := 0) (q := 26) dX9_look_25 (by decide) rfl ?_
      refine xi_lconst (x := 1) (q := 27) dX9_look_26 (by decide) rfl ?_
      refine xv_cS3 (q := 30) xm_X9_in ln_X9_81 dX9_look_27 ⟨(Nat.le_of_ble_eq_true rfl), (Nat.le_of_ble_eq_true rfl)⟩ (Nat.le_of_ble_eq_true rfl) ⟨rfl, rfl⟩ rfl (Nat.zero_le _) (Nat.zero_le _) ?_
      refine ⟨d, 0, 1, rfl, ?_⟩
      refine xi_if_eq (q := 33) (q2 := 46) dX9_look_30 (by decide) rfl (fun c_30 => ?_) (fun c_30 => ?_)
      · have g_30 : xs_i d 0 1 = false := decide_eq_false (xn_b0 c_30)
        refine xi_ldc (q := 48) dX9_look_46 kc_X9_91 rfl ?_
        refine xi_ret ⟨_, rfl, rfl, dX9_look_48⟩ (Nat.zero_le _) (Nat.zero_le _) ?_
        exact xs_finM (σ' := σ) hp (by simp only [xs_look, xs_onE, xs_onP, xs_fn, xs_an, Bool.not_false, Bool.not_true, Bool.true_or, Bool.false_or, Bool.and_true, Bool.true_and, Bool.and_false, Bool.false_and, Bool.false_eq_true, if_true, if_false, ↓reduceIte, g_9, g_19, g_30, xs_kk0 (k := kp) (by omega)] <;> rfl) _ (xs_Mx (σ' := σ) hM hR (fa := (upd (C 83) 0 0)) ((va_up_self _ _ _).trans rfl) (fun j hj => (pk_un (by omega)).trans (rfl)) ((va_up_ne _ _ (by omega)).trans (xs_M88 hM)) (fun _ _ => rfl) ((va_up_ne _ _ (by omega)).trans (xs_M94 hM)) ((va_up_ne _ _ (by omega)).trans (xs_M95 hM)) ((va_up_ne _ _ (by omega)).trans (xs_M96 hM)) ((va_up_ne _ _ (by omega)).trans (xs_M97 hM)) ((va_up_ne _ _ (by omega)).trans (xs_M98 hM)) ((va_up_ne _ _ (by omega)).trans (xs_M99 hM)) (fun i i1 i2 i3 i4 => ((va_up_ne _ _ (by omega)).trans (Eq.refl _))) (fun _ _ _ => rfl) hR.2) (fun i hi => ((va_up_ne _ _ (by omega)).trans (Eq.refl _)))
      · have g_30 : xs_i d 0 1 = true := decide_eq_true (xn_b1 c_30)
        refine xi_iload (q := 35) dX9_look_33 rfl rfl ?_
        refine xi_i2l (q := 36) dX9_look_35 rfl ?_
        refine xi_lconst (x := 0) (q := 37) dX9_look_36 (by decide) rfl ?_
        refine xi_ldc2 (q := 40) dX9_look_37 kc_X9_89 rfl ?_
        refine xv_cS3 (q := 43) xm_X9_in ln_X9_81 dX9_look_40 ⟨(Nat.le_of_ble_eq_true rfl), (Nat.le_of_ble_eq_true rfl)⟩ (Nat.le_of_ble_eq_true rfl) ⟨rfl, rfl⟩ rfl (Nat.zero_le _) (Nat.zero_le _) ?_
        refine ⟨w, 0, 2, rfl, ?_⟩
        refine xi_if_ne (q := 46) (q2 := 49) dX9_look_43 (by decide) rfl (fun c_43 => ?_) (fun c_43 => ?_)
        · have g_43 : xs_i w 0 2 = true := decide_eq_true (xn_b1 c_43)
          refine xi_aload_n (q := 50) dX9_look_49 rfl rfl ?_
          refine xi_iload_n (q := 51) dX9_look_50 rfl rfl ?_
          refine xv_cV1 (q := 54) xm_X9_stands ln_X9_123 dX9_look_51 (xv_self (by omega)) rfl ⟨(Nat.le_of_ble_eq_true rfl), (Nat.le_of_ble_eq_true rfl)⟩ (Nat.le_of_ble_eq_true rfl) ⟨rfl, rfl⟩ rfl (Nat.zero_le _) (Nat.zero_le _) ?_
          refine ⟨(upd (C 83) 0 0), dk, C 87, kp, rfl, ((va_up_self _ _ _).trans rfl), by omega, ((va_up_ne _ _ (by omega)).trans (xs_M87 hM)), by omega, ?_, ?_⟩
          · intro z51 h51 p51 f51
            have Fh51 : ∀ i, i ≠ 83 → h51 i = h i := fun i j83 => (f51 i (by omega)).trans ((va_up_ne _ _ (by omega)).trans (Eq.refl _))
            have y51 : σ 6 kp 0 = 0 := (xs_ht hR (by omega)).symm.trans z51
            refine xi_istore (q := 56) dX9_look_54 (Nat.le_of_ble_eq_true rfl) rfl ?_
            refine xi_iload (q := 58) dX9_look_56 rfl rfl ?_
            refine xi_if_ge (q := 61) (q2 := 64) dX9_look_58 (by decide) rfl (fun c_58 => ?_) (fun c_58 => ?_)
            · exact absurd c_58 (by decide)
            · skip
              refine xi_iload (q := 63) dX9_look_61 rfl rfl ?_
              refine xi_ret ⟨_, rfl, rfl, dX9_look_63⟩ (Nat.zero_le _) (Nat.zero_le _) ?_
              exact xs_finM (σ' := (xs_fd σ 1)) hp (by simp only [xs_look, xs_onE, xs_onP, xs_fn1, xs_an, Bool.not_false, Bool.not_true, Bool.true_or, Bool.false_or, Bool.and_true, Bool.true_and, Bool.and_false, Bool.false_and, Bool.false_eq_true, if_true, if_false, ↓reduceIte, g_9, g_19, g_30, g_43, eq_true y51, xs_kk0 (k := kp) (by omega)] <;> rfl) _ (xs_Mx (σ' := (xs_fd σ 1)) hM hR (fa := (upd (upd (C 83) 0 0) 1 1)) p51 (fun j hj => (pk_un (by omega)).trans ((pk_un (by omega)).trans (rfl))) ((Fh51 88 (by omega)).trans (xs_M88 hM)) (fun _ _ => rfl) ((Fh51 94 (by omega)).trans (xs_M94 hM)) ((Fh51 95 (by omega)).trans (xs_M95 hM)) ((Fh51 96 (by omega)).trans (xs_M96 hM)) ((Fh51 97 (by omega)).trans (xs_M97 hM)) ((Fh51 98 (by omega)).trans (xs_M98 hM)) ((Fh51 99 (by omega)).trans (xs_M99 hM)) (fun i i1 i2 i3 i4 => (Fh51 i (by omega))) xs_fdo rfl) (fun i hi => (Fh51 i (by omega)))
          · intro z51 h51 p51 f51
            have Fh51 : ∀ i, i ≠ 83 → h51 i = h i := fun i j83 => (f51 i (by omega)).trans ((va_up_ne _ _ (by omega)).trans (Eq.refl _))
            have y51 : ¬ σ 6 kp 0 = 0 := fun e => z51 ((xs_ht hR (by omega)).trans e)
            refine xi_istore (q := 56) dX9_look_54 (Nat.le_of_ble_eq_true rfl) rfl ?_
            refine xi_iload (q := 58) dX9_look_56 rfl rfl ?_
            refine xi_if_ge (q := 61) (q2 := 64) dX9_look_58 (by decide) rfl (fun c_58 => ?_) (fun c_58 => ?_)
            · skip
              refine xi_aload_n (q := 65) dX9_look_64 rfl rfl ?_
              refine xi_iload_n (q := 66) dX9_look_65 rfl rfl ?_
              refine xi_iload_n (q := 67) dX9_look_66 rfl rfl ?_
              refine xi_iload_n (q := 68) dX9_look_67 rfl rfl ?_
              refine xi_iload (q := 70) dX9_look_68 rfl rfl ?_
              refine xi_iload (q := 72) dX9_look_70 rfl rfl ?_
              refine xv_cV5 (q := 75) xm_X9_draw ln_X9_215 dX9_look_72 ⟨by omega, p51⟩ rfl ⟨(Nat.le_of_ble_eq_true rfl), (Nat.le_of_ble_eq_true rfl)⟩ (Nat.le_of_ble_eq_true rfl) ⟨rfl, rfl⟩ rfl (Nat.zero_le _) (Nat.zero_le _) ?_
              refine ⟨(upd (upd (C 83) 0 0) 1 0), dk, (C 88), kp, _, _, _, _, _, rfl, ⟨p51, ((Fh51 88 (by omega)).trans (xs_M88 hM)), ((Fh51 93 (by omega)).trans (xs_M93 hM))⟩, by omega, by omega, (xe_ok (xs_hq hR (by omega)) (hV.2.2.2.1 kp (by omega) y51).1), ((Fh51 94 (by omega)).trans (xs_M94 hM)), fun h72 p72 q72 f72 => ?_⟩
              have Fh72 : ∀ i, i ≠ 83 → i ≠ 94 → h72 i = h i := fun i j83 j94 => (f72 i (by omega) (by omega)).trans (Fh51 i (by omega))
              obtain ⟨G, hG⟩ : ∃ G : Nat → Int32, G = (fun k => xs_cd (σ 4 kp) (σ 5 kp 0) m (b * g / 4) d k) := ⟨_, rfl⟩
              replace q72 : h72 94 = xs_ia 48 G := by rw [q72, hG]; exact congrArg (xs_ia 48) (funext fun k => by rw [xs_hs hR (p := kp) (by omega), xe_cd (xs_hq hR (p := kp) (by omega))])
              refine xi_iconst (x := 0) (q := 76) dX9_look_75 (by decide) rfl ?_
              refine xi_istore (q := 78) dX9_look_76 (Nat.le_of_ble_eq_true rfl) rfl ?_
              refine xi_aload_n (q := 79) dX9_look_78 rfl rfl ?_
              refine xi_getf (q := 82) dX9_look_79 fl_X9_41 ⟨by omega, p72⟩ rfl rfl ?_
              refine xi_iconst (x := 0) (q := 83) dX9_look_82 (by decide) rfl ?_
              refine xi_iald (q := 84) dX9_look_83 ⟨by omega, q72⟩ ⟨xv_ink (by decide), (by decide : (0 : Int32).toNatClampNeg = 0)⟩ rfl ?_
              refine xi_istore (q := 86) dX9_look_84 (Nat.le_of_ble_eq_true rfl) rfl ?_
              refine xi_iconst (x := 0) (q := 87) dX9_look_86 (by decide) rfl ?_
              refine xi_istore (q := 89) dX9_look_87 (Nat.le_of_ble_eq_true rfl) rfl ?_
              refine xi_iconst (x := 0) (q := 90) dX9_look_89 (by decide) rfl ?_
              refine xi_istore (q := 92) dX9_look_90 (Nat.le_of_ble_eq_true rfl) rfl ?_
              refine xv_weakS (lv' := [(0, .ref 83), (6, .int w), (8, .int (xs_ps G 0)), (9, .int (xs_pk G 0)), (10, .int (xs_lk G 0)), (11, .int (nI 0))]) ⟨rfl, rfl, rfl, rfl, rfl, rfl, trivial⟩ ?_
              refine xv_lp (lv := fun k => [(0, .ref 83), (6, .int w), (8, .int (xs_ps G k)), (9, .int (xs_pk G k)), (10, .int (xs_lk G k)), (11, .int (nI k))]) (N := 48) (k0 := 0) (by omega) (fun k hk ih92 => ?_)
              show xv_V X mX9_look Post 0 0 92 [(0, .ref 83), (6, .int w), (8, .int (xs_ps G k)), (9, .int (xs_pk G k)), (10, .int (xs_lk G k)), (11, .int (nI k))] [] _ n
              refine xi_iload (q := 94) dX9_look_92 rfl rfl ?_
              refine xi_bipush (x := 48) (q := 96) dX9_look_94 (by decide) rfl ?_
              refine xi_icmp_ge (q := 99) (q2 := 185) dX9_look_96 (by decide) rfl (fun c_96 => ?_) (fun c_96 => ?_)
              · have hk2 : k = 48 := by have z : 48 ≤ k := xn_leN c_96 (by omega) (by omega); omega
                subst hk2
                rw [show xs_pk G 48 = xs_mx G 47 from xn_pkE G 47, show xs_lk G 48 = xs_ps (xs_lp1 G) 23 from xn_lkT G 24]
                refine xi_iload (q := 187) dX9_look_185 rfl rfl ?_
                refine xi_if_ne (q := 190) (q2 := 198) dX9_look_187 (by decide) rfl (fun c_187 => ?_) (fun c_187 => ?_)
                · skip
                  refine xi_iload (q := 200) dX9_look_198 rfl rfl ?_
                  refine xi_iconst (x := 1) (q := 201) dX9_look_200 (by decide) rfl ?_
                  refine xi_icmp_ne (q := 204) (q2 := 209) dX9_look_201 (by decide) rfl (fun c_201 => ?_) (fun c_201 => ?_)
                  · skip
                    refine xi_iload (q := 211) dX9_look_209 rfl rfl ?_
                    refine xi_ret ⟨_, rfl, rfl, dX9_look_211⟩ (Nat.zero_le _) (Nat.zero_le _) ?_
                    exact xs_finM (σ' := (xs_fd σ 0)) hp (by rw [hG]; simp only [xs_look, xs_onE, xs_onP, xs_fn, xs_an, Bool.not_false, Bool.not_true, Bool.true_or, Bool.false_or, Bool.and_true, Bool.true_and, Bool.and_false, Bool.false_and, Bool.false_eq_true, if_true, if_false, ↓reduceIte, g_9, g_19, g_30, g_43, eq_false y51, eq_false (show ¬ w = 0 from c_187), eq_false (show ¬ w = 1 from c_201), xs_kk0 (k := kp) (by omega)] <;> rfl) _ (xs_Mx (σ' := (xs_fd σ 0)) hM hR (fa := (upd (upd (C 83) 0 0) 1 0)) p72 (fun j hj => (pk_un (by omega)).trans ((pk_un (by omega)).trans (rfl))) ((Fh72 88 (by omega) (by omega)).trans (xs_M88 hM)) (fun _ _ => rfl) q72 ((Fh72 95 (by omega) (by omega)).trans (xs_M95 hM)) ((Fh72 96 (by omega) (by omega)).trans (xs_M96 hM)) ((Fh72 97 (by omega) (by omega)).trans (xs_M97 hM)) ((Fh72 98 (by omega) (by omega)).trans (xs_M98 hM)) ((Fh72 99 (by omega) (by omega)).trans (xs_M99 hM)) (fun i i1 i2 i3 i4 => (Fh72 i (by omega) (by omega))) xs_fdo rfl) (fun i hi => (Fh72 i (by omega) (by omega)))
                  · skip
                    refine xi_iload (q := 206) dX9_look_204 rfl rfl ?_
                    refine xi_goto (q := 211) dX9_look_206 (by decide) ?_
                    refine xi_ret ⟨_, rfl, rfl, dX9_look_211⟩ (Nat.zero_le _) (Nat.zero_le _) ?_
                    exact xs_finM (σ' := (xs_fd σ 0)) hp (by rw [hG]; simp only [xs_look, xs_onE, xs_onP, xs_fn, xs_an, Bool.not_false, Bool.not_true, Bool.true_or, Bool.false_or, Bool.and_true, Bool.true_and, Bool.and_false, Bool.false_and, Bool.false_eq_true, if_true, if_false, ↓reduceIte, g_9, g_19, g_30, g_43, eq_false y51, eq_false (show ¬ w = 0 from c_187), eq_true (show w = 1 from by first | exact c_201 | exact Decidable.of_not_not c_201), xs_kk0 (k := kp) (by omega)] <;> rfl) _ (xs_Mx (σ' := (xs_fd σ 0)) hM hR (fa := (upd (upd (C 83) 0 0) 1 0)) p72 (fun j hj => (pk_un (by omega)).trans ((pk_un (by omega)).trans (rfl))) ((Fh72 88 (by omega) (by omega)).trans (xs_M88 hM)) (fun _ _ => rfl) q72 ((Fh72 95 (by omega) (by omega)).trans (xs_M95 hM)) ((Fh72 96 (by omega) (by omega)).trans (xs_M96 hM)) ((Fh72 97 (by omega) (by omega)).trans (xs_M97 hM)) ((Fh72 98 (by omega) (by omega)).trans (xs_M98 hM)) ((Fh72 99 (by omega) (by omega)).trans (xs_M99 hM)) (fun i i1 i2 i3 i4 => (Fh72 i (by omega) (by omega))) xs_fdo rfl) (fun i hi => (Fh72 i (by omega) (by omega)))
                · skip
                  refine xi_iload (q := 192) dX9_look_190 rfl rfl ?_
                  refine xi_bipush (x := 48) (q := 194) dX9_look_192 (by decide) rfl ?_
                  refine xi_idiv (q := 195) dX9_look_194 (by decide) rfl ?_
                  refine xi_goto (q := 211) dX9_look_195 (by decide) ?_
                  refine xi_ret ⟨_, rfl, rfl, dX9_look_211⟩ (Nat.zero_le _) (Nat.zero_le _) ?_
                  exact xs_finM (σ' := (xs_fd σ 0)) hp (by rw [hG]; simp only [xs_look, xs_onE, xs_onP, xs_fn, xs_an, Bool.not_false, Bool.not_true, Bool.true_or, Bool.false_or, Bool.and_true, Bool.true_and, Bool.and_false, Bool.false_and, Bool.false_eq_true, if_true, if_false, ↓reduceIte, g_9, g_19, g_30, g_43, eq_false y51, eq_true (show w = 0 from by first | exact c_187 | exact Decidable.of_not_not c_187), xs_kk0 (k := kp) (by omega)] <;> rfl) _ (xs_Mx (σ' := (xs_fd σ 0)) hM hR (fa := (upd (upd (C 83) 0 0) 1 0)) p72 (fun j hj => (pk_un (by omega)).trans ((pk_un (by omega)).trans (rfl))) ((Fh72 88 (by omega) (by omega)).trans (xs_M88 hM)) (fun _ _ => rfl) q72 ((Fh72 95 (by omega) (by omega)).trans (xs_M95 hM)) ((Fh72 96 (by omega) (by omega)).trans (xs_M96 hM)) ((Fh72 97 (by omega) (by omega)).trans (xs_M97 hM)) ((Fh72 98 (by omega) (by omega)).trans (xs_M98 hM)) ((Fh72 99 (by omega) (by omega)).trans (xs_M99 hM)) (fun i i1 i2 i3 i4 => (Fh72 i (by omega) (by omega))) xs_fdo rfl) (fun i hi => (Fh72 i (by omega) (by omega)))
              · have hk2 : k < 48 := xn_nleN c_96 (by omega) (by omega)
                refine xi_iload (q := 101) dX9_look_99 rfl rfl ?_
                refine xi_aload_n (q := 102) dX9_look_101 rfl rfl ?_
                refine xi_getf (q := 105) dX9_look_102 fl_X9_41 ⟨by omega, p72⟩ rfl rfl ?_
                refine xi_iload (q := 107) dX9_look_105 rfl rfl ?_
                refine xi_iald (q := 108) dX9_look_107 ⟨by omega, q72⟩ (xv_ixN hk2 (by omega)) rfl ?_
                refine xi_iadd (q := 109) dX9_look_108 rfl ?_
                refine xi_istore (q := 111) dX9_look_109 (Nat.le_of_ble_eq_true rfl) rfl ?_
                refine xi_aload_n (q := 112) dX9_look_111 rfl rfl ?_
                refine xi_getf (q := 115) dX9_look_112 fl_X9_41 ⟨by omega, p72⟩ rfl rfl ?_
                refine xi_iload (q := 117) dX9_look_115 rfl rfl ?_
                refine xi_iald (q := 118) dX9_look_117 ⟨by omega, q72⟩ (xv_ixN hk2 (by omega)) rfl ?_
                refine xi_iload (q := 120) dX9_look_118 rfl rfl ?_
                refine xi_icmp_le (q := 123) (q2 := 133) dX9_look_120 (by decide) rfl (fun c_120 => ?_) (fun c_120 => ?_)
                · skip
                  refine xi_iload (q := 135) dX9_look_133 rfl rfl ?_
                  refine xi_istore (q := 137) dX9_look_135 (Nat.le_of_ble_eq_true rfl) rfl ?_
                  refine xi_iload (q := 139) dX9_look_137 rfl rfl ?_
                  refine xi_iload (q := 141) dX9_look_139 rfl rfl ?_
                  refine xi_if_le (q := 144) (q2 := 175) dX9_look_141 (by decide) rfl (fun c_141 => ?_) (fun c_141 => ?_)
                  · skip
                    refine xi_iconst (x := 0) (q := 176) dX9_look_175 (by decide) rfl ?_
                    refine xi_iadd (q := 177) dX9_look_176 rfl ?_
                    refine xi_istore (q := 179) dX9_look_177 (Nat.le_of_ble_eq_true rfl) rfl ?_
                    refine xi_iinc (y := nI (k + 1)) (q := 182) dX9_look_179 rfl (xn_inc k) (Nat.le_of_ble_eq_true rfl) rfl ?_
                    refine xi_goto (q := 92) dX9_look_182 (by decide) ?_
                    rw [xs_psS G k rfl, xn_pk0 c_120, xn_lk0 (fun z => absurd z.1 (fun y => by have q := xn_leN (b := 0) c_141 (by omega) (by omega); omega))]
                    refine xv_weakS (lv' := [(0, .ref 83), (6, .int w), (8, .int (xs_ps G (k + 1))), (9, .int (xs_pk G (k + 1))), (10, .int (xs_lk G (k + 1))), (11, .int (nI (k + 1)))]) ⟨rfl, rfl, rfl, rfl, rfl, rfl, trivial⟩ ?_
                    exact ih92 (by omega)
                  · have hk0 : 0 < k := xn_nleN c_141 (by omega) (by omega)
                    refine xi_iload (q := 146) dX9_look_144 rfl rfl ?_
                    refine xi_bipush (x := 24) (q := 148) dX9_look_146 (by decide) rfl ?_
                    refine xi_icmp_ge (q := 151) (q2 := 175) dX9_look_148 (by decide) rfl (fun c_148 => ?_) (fun c_148 => ?_)
                    · skip
                      refine xi_iconst (x := 0) (q := 176) dX9_look_175 (by decide) rfl ?_
                      refine xi_iadd (q := 177) dX9_look_176 rfl ?_
                      refine xi_istore (q := 179) dX9_look_177 (Nat.le_of_ble_eq_true rfl) rfl ?_
                      refine xi_iinc (y := nI (k + 1)) (q := 182) dX9_look_179 rfl (xn_inc k) (Nat.le_of_ble_eq_true rfl) rfl ?_
                      refine xi_goto (q := 92) dX9_look_182 (by decide) ?_
                      rw [xs_psS G k rfl, xn_pk0 c_120, xn_lk0 (fun z => absurd z.2.1 (by have q := xn_leN (a := 24) c_148 (by omega) (by omega); omega))]
                      refine xv_weakS (lv' := [(0, .ref 83), (6, .int w), (8, .int (xs_ps G (k + 1))), (9, .int (xs_pk G (k + 1))), (10, .int (xs_lk G (k + 1))), (11, .int (nI (k + 1)))]) ⟨rfl, rfl, rfl, rfl, rfl, rfl, trivial⟩ ?_
                      exact ih92 (by omega)
                    · have hk24 : k < 24 := xn_nleN c_148 (by omega) (by omega)
                      refine xi_aload_n (q := 152) dX9_look_151 rfl rfl ?_
                      refine xi_getf (q := 155) dX9_look_152 fl_X9_41 ⟨by omega, p72⟩ rfl rfl ?_
                      refine xi_iload (q := 157) dX9_look_155 rfl rfl ?_
                      refine xi_iald (q := 158) dX9_look_157 ⟨by omega, q72⟩ (xv_ixN hk2 (by omega)) rfl ?_
                      refine xi_aload_n (q := 159) dX9_look_158 rfl rfl ?_
                      refine xi_getf (q := 162) dX9_look_159 fl_X9_41 ⟨by omega, p72⟩ rfl rfl ?_
                      refine xi_bipush (x := 48) (q := 164) dX9_look_162 (by decide) rfl ?_
                      refine xi_iload (q := 166) dX9_look_164 rfl rfl ?_
                      refine xi_isub (q := 167) dX9_look_166 rfl ?_
                      refine xi_iald (q := 168) dX9_look_167 ⟨by omega, q72⟩ (by rw [show (48 - nI k : Int32) = nI (48 - k) from xn_subN (a := 48) (by omega)]; exact xv_ixN (by omega) (by omega)) rfl ?_
                      refine xi_icmp_ge (q := 171) (q2 := 175) dX9_look_168 (by decide) rfl (fun c_168 => ?_) (fun c_168 => ?_)
                      · skip
                        refine xi_iconst (x := 0) (q := 176) dX9_look_175 (by decide) rfl ?_
                        refine xi_iadd (q := 177) dX9_look_176 rfl ?_
                        refine xi_istore (q := 179) dX9_look_177 (Nat.le_of_ble_eq_true rfl) rfl ?_
                        refine xi_iinc (y := nI (k + 1)) (q := 182) dX9_look_179 rfl (xn_inc k) (Nat.le_of_ble_eq_true rfl) rfl ?_
                        refine xi_goto (q := 92) dX9_look_182 (by decide) ?_
                        rw [xs_psS G k rfl, xn_pk0 c_120, xn_lk0 (fun z => absurd z.2.2 (xn_nlt c_168))]
                        refine xv_weakS (lv' := [(0, .ref 83), (6, .int w), (8, .int (xs_ps G (k + 1))), (9, .int (xs_pk G (k + 1))), (10, .int (xs_lk G (k + 1))), (11, .int (nI (k + 1)))]) ⟨rfl, rfl, rfl, rfl, rfl, rfl, trivial⟩ ?_
                        exact ih92 (by omega)
                      · skip
                        refine xi_iconst (x := 1) (q := 172) dX9_look_171 (by decide) rfl ?_
                        refine xi_goto (q := 176) dX9_look_172 (by decide) ?_
                        refine xi_iadd (q := 177) dX9_look_176 rfl ?_
                        refine xi_istore (q := 179) dX9_look_177 (Nat.le_of_ble_eq_true rfl) rfl ?_
                        refine xi_iinc (y := nI (k + 1)) (q := 182) dX9_look_179 rfl (xn_inc k) (Nat.le_of_ble_eq_true rfl) rfl ?_
                        refine xi_goto (q := 92) dX9_look_182 (by decide) ?_
                        rw [xs_psS G k rfl, xn_pk0 c_120, xn_lk1 ⟨hk0, hk24, xn_ltn c_168⟩]
                        refine xv_weakS (lv' := [(0, .ref 83), (6, .int w), (8, .int (xs_ps G (k + 1))), (9, .int (xs_pk G (k + 1))), (10, .int (xs_lk G (k + 1))), (11, .int (nI (k + 1)))]) ⟨rfl, rfl, rfl, rfl, rfl, rfl, trivial⟩ ?_
                        exact ih92 (by omega)
                · skip
                  refine xi_aload_n (q := 124) dX9_look_123 rfl rfl ?_
                  refine xi_getf (q := 127) dX9_look_124 fl_X9_41 ⟨by omega, p72⟩ rfl rfl ?_
                  refine xi_iload (q := 129) dX9_look_127 rfl rfl ?_
                  refine xi_iald (q := 130) dX9_look_129 ⟨by omega, q72⟩ (xv_ixN hk2 (by omega)) rfl ?_
                  refine xi_goto (q := 135) dX9_look_130 (by decide) ?_
                  refine xi_istore (q := 137) dX9_look_135 (Nat.le_of_ble_eq_true rfl) rfl ?_
                  refine xi_iload (q := 139) dX9_look_137 rfl rfl ?_
                  refine xi_iload (q := 141) dX9_look_139 rfl rfl ?_
                  refine xi_if_le (q := 144) (q2 := 175) dX9_look_141 (by decide) rfl (fun c_141 => ?_) (fun c_141 => ?_)
                  · skip
                    refine xi_iconst (x := 0) (q := 176) dX9_look_175 (by decide) rfl ?_
                    refine xi_iadd (q := 177) dX9_look_176 rfl ?_
                    refine xi_istore (q := 179) dX9_look_177 (Nat.le_of_ble_eq_true rfl) rfl ?_
                    refine xi_iinc (y := nI (k + 1)) (q := 182) dX9_look_179 rfl (xn_inc k) (Nat.le_of_ble_eq_true rfl) rfl ?_
                    refine xi_goto (q := 92) dX9_look_182 (by decide) ?_
                    rw [xs_psS G k rfl, xn_pk1 c_120, xn_lk0 (fun z => absurd z.1 (fun y => by have q := xn_leN (b := 0) c_141 (by omega) (by omega); omega))]
                    refine xv_weakS (lv' := [(0, .ref 83), (6, .int w), (8, .int (xs_ps G (k + 1))), (9, .int (xs_pk G (k + 1))), (10, .int (xs_lk G (k + 1))), (11, .int (nI (k + 1)))]) ⟨rfl, rfl, rfl, rfl, rfl, rfl, trivial⟩ ?_
                    exact ih92 (by omega)
                  · have hk0 : 0 < k := xn_nleN c_141 (by omega) (by omega)
                    refine xi_iload (q := 146) dX9_look_144 rfl rfl ?_
                    refine xi_bipush (x := 24) (q := 148) dX9_look_146 (by decide) rfl ?_
                    refine xi_icmp_ge (q := 151) (q2 := 175) dX9_look_148 (by decide) rfl (fun c_148 => ?_) (fun c_148 => ?_)
                    · skip
                      refine xi_iconst (x := 0) (q := 176) dX9_look_175 (by decide) rfl ?_
                      refine xi_iadd (q := 177) dX9_look_176 rfl ?_
                      refine xi_istore (q := 179) dX9_look_177 (Nat.le_of_ble_eq_true rfl) rfl ?_
                      refine xi_iinc (y := nI (k + 1)) (q := 182) dX9_look_179 rfl (xn_inc k) (Nat.le_of_ble_eq_true rfl) rfl ?_
                      refine xi_goto (q := 92) dX9_look_182 (by decide) ?_
                      rw [xs_psS G k rfl, xn_pk1 c_120, xn_lk0 (fun z => absurd z.2.1 (by have q := xn_leN (a := 24) c_148 (by omega) (by omega); omega))]
                      refine xv_weakS (lv' := [(0, .ref 83), (6, .int w), (8, .int (xs_ps G (k + 1))), (9, .int (xs_pk G (k + 1))), (10, .int (xs_lk G (k + 1))), (11, .int (nI (k + 1)))]) ⟨rfl, rfl, rfl, rfl, rfl, rfl, trivial⟩ ?_
                      exact ih92 (by omega)
                    · have hk24 : k < 24 := xn_nleN c_148 (by omega) (by omega)
                      refine xi_aload_n (q := 152) dX9_look_151 rfl rfl ?_
                      refine xi_getf (q := 155) dX9_look_152 fl_X9_41 ⟨by omega, p72⟩ rfl rfl ?_
                      refine xi_iload (q := 157) dX9_look_155 rfl rfl ?_
                      refine xi_iald (q := 158) dX9_look_157 ⟨by omega, q72⟩ (xv_ixN hk2 (by omega)) rfl ?_
                      refine xi_aload_n (q := 159) dX9_look_158 rfl rfl ?_
                      refine xi_getf (q := 162) dX9_look_159 fl_X9_41 ⟨by omega, p72⟩ rfl rfl ?_
                      refine xi_bipush (x := 48) (q := 164) dX9_look_162 (by decide) rfl ?_
                      refine xi_iload (q := 166) dX9_look_164 rfl rfl ?_
                      refine xi_isub (q := 167) dX9_look_166 rfl ?_
                      refine xi_iald (q := 168) dX9_look_167 ⟨by omega, q72⟩ (by rw [show (48 - nI k : Int32) = nI (48 - k) from xn_subN (a := 48) (by omega)]; exact xv_ixN (by omega) (by omega)) rfl ?_
                      refine xi_icmp_ge (q := 171) (q2 := 175) dX9_look_168 (by decide) rfl (fun c_168 => ?_) (fun c_168 => ?_)
                      · skip
                        refine xi_iconst (x := 0) (q := 176) dX9_look_175 (by decide) rfl ?_
                        refine xi_iadd (q := 177) dX9_look_176 rfl ?_
                        refine xi_istore (q := 179) dX9_look_177 (Nat.le_of_ble_eq_true rfl) rfl ?_
                        refine xi_iinc (y := nI (k + 1)) (q := 182) dX9_look_179 rfl (xn_inc k) (Nat.le_of_ble_eq_true rfl) rfl ?_
                        refine xi_goto (q := 92) dX9_look_182 (by decide) ?_
                        rw [xs_psS G k rfl, xn_pk1 c_120, xn_lk0 (fun z => absurd z.2.2 (xn_nlt c_168))]
                        refine xv_weakS (lv' := [(0, .ref 83), (6, .int w), (8, .int (xs_ps G (k + 1))), (9, .int (xs_pk G (k + 1))), (10, .int (xs_lk G (k + 1))), (11, .int (nI (k + 1)))]) ⟨rfl, rfl, rfl, rfl, rfl, rfl, trivial⟩ ?_
                        exact ih92 (by omega)
                      · skip
                        refine xi_iconst (x := 1) (q := 172) dX9_look_171 (by decide) rfl ?_
                        refine xi_goto (q := 176) dX9_look_172 (by decide) ?_
                        refine xi_iadd (q := 177) dX9_look_176 rfl ?_
                        refine xi_istore (q := 179) dX9_look_177 (Nat.le_of_ble_eq_true rfl) rfl ?_
                        refine xi_iinc (y := nI (k + 1)) (q := 182) dX9_look_179 rfl (xn_inc k) (Nat.le_of_ble_eq_true rfl) rfl ?_
                        refine xi_goto (q := 92) dX9_look_182 (by decide) ?_
                        rw [xs_psS G k rfl, xn_pk1 c_120, xn_lk1 ⟨hk0, hk24, xn_ltn c_168⟩]
                        refine xv_weakS (lv' := [(0, .ref 83), (6, .int w), (8, .int (xs_ps G (k + 1))), (9, .int (xs_pk G (k + 1))), (10, .int (xs_lk G (k + 1))), (11, .int (nI (k + 1)))]) ⟨rfl, rfl, rfl, rfl, rfl, rfl, trivial⟩ ?_
                        exact ih92 (by omega)
            · exact absurd (by decide) c_58
        · have g_43 : xs_i w 0 2 = false := decide_eq_false (xn_b0 c_43)
          refine xi_ldc (q := 48) dX9_look_46 kc_X9_91 rfl ?_
          refine xi_ret ⟨_, rfl, rfl, dX9_look_48⟩ (Nat.zero_le _) (Nat.zero_le _) ?_
          exact xs_finM (σ' := σ) hp (by simp only [xs_look, xs_onE, xs_onP, xs_fn, xs_an, Bool.not_false, Bool.not_true, Bool.true_or, Bool.false_or, Bool.and_true, Bool.true_and, Bool.and_false, Bool.false_and, Bool.false_eq_true, if_true, if_false, ↓reduceIte, g_9, g_19, g_30, g_43, xs_kk0 (k := kp) (by omega)] <;> rfl) _ (xs_Mx (σ' := σ) hM hR (fa := (upd (C 83) 0 0)) ((va_up_self _ _ _).trans rfl) (fun j hj => (pk_un (by omega)).trans (rfl)) ((va_up_ne _ _ (by omega)).trans (xs_M88 hM)) (fun _ _ => rfl) ((va_up_ne _ _ (by omega)).trans (xs_M94 hM)) ((va_up_ne _ _ (by omega)).trans (xs_M95 hM)) ((va_up_ne _ _ (by omega)).trans (xs_M96 hM)) ((va_up_ne _ _ (by omega)).trans (xs_M97 hM)) ((va_up_ne _ _ (by omega)).trans (xs_M98 hM)) ((va_up_ne _ _ (by omega)).trans (xs_M99 hM)) (fun i i1 i2 i3 i4 => ((va_up_ne _ _ (by omega)).trans (Eq.refl _))) (fun _ _ _ => rfl) hR.2) (fun i hi => ((va_up_ne _ _ (by omega)).trans (Eq.refl _)))

set_option maxRecDepth 20000 in
set_option maxHeartbeats 2000000 in
/-- misfit -/
theorem xm_X9_misfit : xv_K yX9_misfit mX9_misfit (fun as h n Post => ∃ (σ : xs_Sg) (p : Int32) (s : Int32), as = [.ref 83, .int p, .int s] ∧ (xs_Mo h σ) ∧ (103 < n) ∧ (xs_V σ) ∧ xs_DM h n Post (xs_misfit σ p s)) := by
  refine xv_entry (by decide +kernel) rfl (fun h => absurd h (by decide)) ?_
  rintro X _ h n Post ⟨σ, p, s, rfl, ⟨C, dk, hM, hR⟩, h103, hV, hp⟩
  refine ⟨Nat.le_of_ble_eq_true rfl, ?_⟩
  show xv_V X mX9_misfit Post 0 0 0 [(0, .ref 83), (1, .int p), (2, .int s)] [] h n
  refine xi_aload_n (q := 1) dX9_misfit_0 rfl rfl ?_
  refine xi_iconst (x := 0) (q := 2) dX9_misfit_1 (by decide) rfl ?_
  refine xi_putf (q := 5) dX9_misfit_2 fl_X9_71 ⟨by omega, (xs_M83 hM)⟩ (Or.inl rfl) (fun _ => rfl) (fun _ => rfl) (Nat.le_of_ble_eq_true rfl) rfl ?_
  refine xi_iload_n (q := 6) dX9_misfit_5 rfl rfl ?_
  refine xv_cS1 (q := 9) xm_X9_isPlace ln_X9_116 dX9_misfit_6 ⟨(Nat.le_of_ble_eq_true rfl), (Nat.le_of_ble_eq_true rfl)⟩ (Nat.le_of_ble_eq_true rfl) ⟨rfl, rfl⟩ rfl (Nat.zero_le _) (Nat.zero_le _) ?_
  refine ⟨_, rfl, ?_⟩
  refine xi_if_eq (q := 12) (q2 := 24) dX9_misfit_9 (by decide) rfl (fun c_9 => ?_) (fun c_9 => ?_)
  · have g_9 : xs_i p 0 5 = false := decide_eq_false (xn_b0 c_9)
    refine xi_ldc (q := 26) dX9_misfit_24 kc_X9_91 rfl ?_
    refine xi_ret ⟨_, rfl, rfl, dX9_misfit_26⟩ (Nat.zero_le _) (Nat.zero_le _) ?_
    exact xs_finM (σ' := σ) hp (by simp only [xs_misfit, xs_onE, xs_onP, xs_fn, xs_an, Bool.not_false, Bool.not_true, Bool.true_or, Bool.false_or, Bool.and_true, Bool.true_and, Bool.and_false, Bool.false_and, Bool.false_eq_true, if_true, if_false, ↓reduceIte, g_9] <;> rfl) _ (xs_Mx (σ' := σ) hM hR (fa := (upd (C 83) 0 0)) ((va_up_self _ _ _).trans rfl) (fun j hj => (pk_un (by omega)).trans (rfl)) ((va_up_ne _ _ (by omega)).trans (xs_M88 hM)) (fun _ _ => rfl) ((va_up_ne _ _ (by omega)).trans (xs_M94 hM)) ((va_up_ne _ _ (by omega)).trans (xs_M95 hM)) ((va_up_ne _ _ (by omega)).trans (xs_M96 hM)) ((va_up_ne _ _ (by omega)).trans (xs_M97 hM)) ((va_up_ne _ _ (by omega)).trans (xs_M98 hM)) ((va_up_ne _ _ (by omega)).trans (xs_M99 hM)) (fun i i1 i2 i3 i4 => ((va_up_ne _ _ (by omega)).trans (Eq.refl _))) (fun _ _ _ => rfl) hR.2) (fun i hi => ((va_up_ne _ _ (by omega)).trans (Eq.refl _)))
  · have g_9 : xs_i p 0 5 = true := decide_eq_true (xn_b1 c_9)
    obtain ⟨kp, hkp, rfl⟩ := xn_pk (m := 5) (by omega) (xn_b1 c_9)
    refine xi_iload_n (q := 13) dX9_misfit_12 rfl rfl ?_
    refine xi_i2l (q := 14) dX9_misfit_13 rfl ?_
    refine xi_lconst (x := 0) (q := 15) dX9_misfit_14 (by decide) rfl ?_
    refine xi_ldc2 (q := 18) dX9_misfit_15 kc_X9_126 rfl ?_
    refine xv_cS3 (q := 21) xm_X9_in ln_X9_81 dX9_misfit_18 ⟨(Nat.le_of_ble_eq_true rfl), (Nat.le_of_ble_eq_true rfl)⟩ (Nat.le_of_ble_eq_true rfl) ⟨rfl, rfl⟩ rfl (Nat.zero_le _) (Nat.zero_le _) ?_
    refine ⟨s, 0, 12, rfl, ?_⟩
    refine xi_if_ne (q := 24) (q2 := 27) dX9_misfit_21 (by decide) rfl (fun c_21 => ?_) (fun c_21 => ?_)
    · have g_21 : xs_i s 0 12 = true := decide_eq_true (xn_b1 c_21)
      refine xi_aload_n (q := 28) dX9_misfit_27 rfl rfl ?_
      refine xi_getf (q := 31) dX9_misfit_28 fl_X9_26 (xv_self (by omega)) rfl rfl ?_
      refine xi_iload_n (q := 32) dX9_misfit_31 rfl rfl ?_
      refine xi_zald (q := 33) dX9_misfit_32 (xv_keep (by omega) ⟨by omega, (xs_M89 hM)⟩) (xv_ixN (by omega) (by omega)) rfl ?_
      refine xi_if_ne (q := 36) (q2 := 39) dX9_misfit_33 (by decide) rfl (fun c_33 => ?_) (fun c_33 => ?_)
      · have y33 : ¬ σ 7 kp 0 = 0 := fun e => c_33 ((hR.1.2.2.1 kp (by omega)).1.trans e)
        refine xi_aload_n (q := 40) dX9_misfit_39 rfl rfl ?_
        refine xi_iconst (x := 0) (q := 41) dX9_misfit_40 (by decide) rfl ?_
        refine xi_putf (q := 44) dX9_misfit_41 fl_X9_75 (xv_self (by omega)) (Or.inl rfl) (fun _ => rfl) (fun _ => rfl) (Nat.le_of_ble_eq_true rfl) rfl ?_
        refine xi_aload_n (q := 45) dX9_misfit_44 rfl rfl ?_
        refine xi_iload_n (q := 46) dX9_misfit_45 rfl rfl ?_
        refine xi_iload_n (q := 47) dX9_misfit_46 rfl rfl ?_
        refine xv_cV2 (q := 50) xm_X9_misfitOf ln_X9_238 dX9_misfit_47 (xv_self (by omega)) rfl ⟨(Nat.le_of_ble_eq_true rfl), (Nat.le_of_ble_eq_true rfl)⟩ (Nat.le_of_ble_eq_true rfl) ⟨rfl, rfl⟩ rfl (Nat.zero_le _) (Nat.zero_le _) ?_
        have v47 := hV.2.2.2.2.2.1 kp (by omega) y33
        refine ⟨(upd (upd (C 83) 0 0) 1 0), dk, (C 88), kp, s, σ 4 kp, σ 10 kp, σ 8 kp 0, σ 9 kp 0, C 90, C 91, C 92, _, rfl, ⟨((va_up_self _ _ _).trans rfl), ((va_up_ne _ _ (by omega)).trans ((va_up_ne _ _ (by omega)).trans (xs_M88 hM))), ((va_up_ne _ _ (by omega)).trans ((va_up_ne _ _ (by omega)).trans (xs_M93 hM)))⟩, by omega, by omega, (hV.2.2.2.1 kp (by omega) v47.1).1, fun j hj => (((fun _ _ => rfl)) _ (by omega)).trans (xs_hq hR (by omega) j hj), fun j hj => ⟨(hR.1.2.2.1 kp (by omega)).2.2.2 j hj, (v47.2.2.2 j hj).1⟩, (hR.1.2.2.1 kp (by omega)).2.1, (hR.1.2.2.1 kp (by omega)).2.2.1, ((va_up_ne _ _ (by omega)).trans ((va_up_ne _ _ (by omega)).trans (xs_M90 hM))), ((va_up_ne _ _ (by omega)).trans ((va_up_ne _ _ (by omega)).trans (xs_M91 hM))), ((va_up_ne _ _ (by omega)).trans ((va_up_ne _ _ (by omega)).trans (xs_M92 hM))), ((va_up_ne _ _ (by omega)).trans ((va_up_ne _ _ (by omega)).trans (xs_M94 hM))), fun h47 d47 n47 r47 p47 q47 e47 u47 f47 => ?_⟩
        have Fh47 : ∀ i, i ≠ 83 → i ≠ 88 → i ≠ 94 → h47 i = h i := fun i j83 j88 j94 => (f47 i (by omega) (by omega) (by omega)).trans ((va_up_ne _ _ (by omega)).trans ((va_up_ne _ _ (by omega)).trans (Eq.refl _)))
        refine xi_ret ⟨_, rfl, rfl, dX9_misfit_50⟩ (Nat.zero_le _) (Nat.zero_le _) ?_
        exact xs_finM (σ' := (xs_fd σ 0)) hp (by simp only [xs_misfit, xs_onE, xs_onP, xs_fn, xs_an, Bool.not_false, Bool.not_true, Bool.true_or, Bool.false_or, Bool.and_true, Bool.true_and, Bool.and_false, Bool.false_and, Bool.false_eq_true, if_true, if_false, ↓reduceIte, g_9, g_21, eq_false y33, xs_kk0 (k := kp) (by omega)] <;> rfl) _ (xs_Mx (σ' := (xs_fd σ 0)) hM hR (fa := (upd (upd (C 83) 0 0) 1 0)) p47 (fun j hj => (pk_un (by omega)).trans ((pk_un (by omega)).trans (rfl))) q47 (fun x hx => (e47 x hx).trans (((fun _ _ => rfl)) x hx)) u47 ((Fh47 95 (by omega) (by omega) (by omega)).trans (xs_M95 hM)) ((Fh47 96 (by omega) (by omega) (by omega)).trans (xs_M96 hM)) ((Fh47 97 (by omega) (by omega) (by omega)).trans (xs_M97 hM)) ((Fh47 98 (by omega) (by omega) (by omega)).trans (xs_M98 hM)) ((Fh47 99 (by omega) (by omega) (by omega)).trans (xs_M99 hM)) (fun i i1 i2 i3 i4 => (Fh47 i (by omega) (by omega) (by omega))) xs_fdo rfl) (fun i hi => (Fh47 i (by omega) (by omega) (by omega)))
      · have y33 : σ 7 kp 0 = 0 := (hR.1.2.2.1 kp (by omega)).1.symm.trans (by first | exact c_33 | exact Decidable.of_not_not c_33)
        refine xi_ldc (q := 38) dX9_misfit_36 kc_X9_237 rfl ?_
        refine xi_ret ⟨_, rfl, rfl, dX9_misfit_38⟩ (Nat.zero_le _) (Nat.zero_le _) ?_
        exact xs_finM (σ' := σ) hp (by simp only [xs_misfit, xs_onE, xs_onP, xs_fn, xs_an, Bool.not_false, Bool.not_true, Bool.true_or, Bool.false_or, Bool.and_true, Bool.true_and, Bool.and_false, Bool.false_and, Bool.false_eq_true, if_true, if_false, ↓reduceIte, g_9, g_21, eq_true y33, xs_kk0 (k := kp) (by omega)] <;> rfl) _ (xs_Mx (σ' := σ) hM hR (fa := (upd (C 83) 0 0)) ((va_up_self _ _ _).trans rfl) (fun j hj => (pk_un (by omega)).trans (rfl)) ((va_up_ne _ _ (by omega)).trans (xs_M88 hM)) (fun _ _ => rfl) ((va_up_ne _ _ (by omega)).trans (xs_M94 hM)) ((va_up_ne _ _ (by omega)).trans (xs_M95 hM)) ((va_up_ne _ _ (by omega)).trans (xs_M96 hM)) ((va_up_ne _ _ (by omega)).trans (xs_M97 hM)) ((va_up_ne _ _ (by omega)).trans (xs_M98 hM)) ((va_up_ne _ _ (by omega)).trans (xs_M99 hM)) (fun i i1 i2 i3 i4 => ((va_up_ne _ _ (by omega)).trans (Eq.refl _))) (fun _ _ _ => rfl) hR.2) (fun i hi => ((va_up_ne _ _ (by omega)).trans (Eq.refl _)))
    · have g_21 : xs_i s 0 12 = false := decide_eq_false (xn_b0 c_21)
      refine xi_ldc (q := 26) dX9_misfit_24 kc_X9_91 rfl ?_
      refine xi_ret ⟨_, rfl, rfl, dX9_misfit_26⟩ (Nat.zero_le _) (Nat.zero_le _) ?_
      exact xs_finM (σ' := σ) hp (by simp only [xs_misfit, xs_onE, xs_onP, xs_fn, xs_an, Bool.not_false, Bool.not_true, Bool.true_or, Bool.false_or, Bool.and_true, Bool.true_and, Bool.and_false, Bool.false_and, Bool.false_eq_true, if_true, if_false, ↓reduceIte, g_9, g_21, xs_kk0 (k := kp) (by omega)] <;> rfl) _ (xs_Mx (σ' := σ) hM hR (fa := (upd (C 83) 0 0)) ((va_up_self _ _ _).trans rfl) (fun j hj => (pk_un (by omega)).trans (rfl)) ((va_up_ne _ _ (by omega)).trans (xs_M88 hM)) (fun _ _ => rfl) ((va_up_ne _ _ (by omega)).trans (xs_M94 hM)) ((va_up_ne _ _ (by omega)).trans (xs_M95 hM)) ((va_up_ne _ _ (by omega)).trans (xs_M96 hM)) ((va_up_ne _ _ (by omega)).trans (xs_M97 hM)) ((va_up_ne _ _ (by omega)).trans (xs_M98 hM)) ((va_up_ne _ _ (by omega)).trans (xs_M99 hM)) (fun i i1 i2 i3 i4 => ((va_up_ne _ _ (by omega)).trans (Eq.refl _))) (fun _ _ _ => rfl) hR.2) (fun i hi => ((va_up_ne _ _ (by omega)).trans (Eq.refl _)))

