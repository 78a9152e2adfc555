def xs_nb (A : Int32 → Int32) (k : Nat) : Int32 := if k = 0 then -1000000 else (xs_fo A k).1
theorem xn_foK {A : Int32 → Int32} {k : Nat} (hA : ∀ m, 0 ≤ (A m).toInt) (h : A (nI k - 6) ≤ (xs_fo A k).2) : xs_fo A (k + 1) = xs_fo A k ∧ xs_nb A (k + 1) = xs_nb A k := by
  have e : xs_fo A (k + 1) = xs_fo A k := by
    show (if (xs_fo A k).2 < A (nI k - 6) then (nI k - 6, A (nI k - 6)) else xs_fo A k) = _
    rw [if_neg (xn_nlt h)]
  refine ⟨e, ?_⟩
  unfold xs_nb
  rw [if_neg (by omega), e, if_neg (fun z => ?_)]
  subst z
  have := hA (nI 0 - 6)
  rw [xn_le] at h
  rw [show ((xs_fo A 0).2).toInt = -1 from rfl] at h
  omega
theorem xn_foT {A : Int32 → Int32} {k : Nat} (h : ¬ A (nI k - 6) ≤ (xs_fo A k).2) : xs_fo A (k + 1) = (nI k - 6, A (nI k - 6)) ∧ xs_nb A (k + 1) = nI k - 6 := by
  have e : xs_fo A (k + 1) = (nI k - 6, A (nI k - 6)) := by
    show (if (xs_fo A k).2 < A (nI k - 6) then (nI k - 6, A (nI k - 6)) else xs_fo A k) = _
    rw [if_pos (xn_ltn h)]
  refine ⟨e, ?_⟩
  unfold xs_nb
  rw [if_neg (by omega), e]
theorem xn_faB {f : Nat → Int32} {one two b m : Int32} (hf : xs_ok f) (hb : 0 ≤ b.toInt ∧ b.toInt ≤ 2000) : 0 ≤ (xs_fap f one two b m).toInt := by
  have h := xn_psB (f := xs_ap1 (fun j => xs_cd f one m (b * 4 / 4) 0 j) (fun j => xs_cd f two m (b * 4 / 4) 0 j)) (fun j hj => by
    unfold xs_ap1
    split
    · decide
    · have h1 := xn_cdb (s := one) (m := m) (d := 0) hf hb hj
      have h2 := xn_cdb (s := two) (m := m) (d := 0) hf hb hj
      have h3 : (xs_cd f two m (b * 4 / 4) 0 j - xs_cd f one m (b * 4 / 4) 0 j).toInt = (xs_cd f two m (b * 4 / 4) 0 j).toInt - (xs_cd f one m (b * 4 / 4) 0 j).toInt := xn_sub (by omega) (by omega)
      show 0 ≤ (xs_abs (xs_cd f two m (b * 4 / 4) 0 j - xs_cd f one m (b * 4 / 4) 0 j)).toInt ∧ (xs_abs (xs_cd f two m (b * 4 / 4) 0 j - xs_cd f one m (b * 4 / 4) 0 j)).toInt ≤ 125000
      exact xn_absb (K := 125000) (by omega) (by omega)) 48 (by omega)
  unfold xs_fap
  omega
theorem xn_apS {p q : Nat → Int32} {j : Nat} (hp : 0 ≤ (p j).toInt ∧ (p j).toInt ≤ 120000) (hq : 0 ≤ (q j).toInt ∧ (q j).toInt ≤ 120000) : xs_ap1 p q j = xs_abs (p j - q j) := by
  unfold xs_ap1
  rw [if_neg (fun z => by rw [z, show (-1 : Int32).toInt = -1 from rfl] at hp; omega), xn_abss hq hp]
set_option maxRecDepth 20000 in
set_option maxHeartbeats 2000000 in
/-- next -/
theorem xm_X9_next : xv_K yX9_next mX9_next (fun as h n Post => ∃ (σ : xs_Sg) (p : Int32) (one : Int32) (two : Int32) (b : Int32), as = [.ref 83, .int p, .int one, .int two, .int b] ∧ (xs_Mo h σ) ∧ (103 < n) ∧ (xs_V σ) ∧ xs_DM h n Post (xs_next σ p one two b)) := by
  refine xv_entry (by decide +kernel) rfl (fun h => absurd h (by decide)) ?_
  rintro X _ h n Post ⟨σ, p, one, two, b, rfl, ⟨C, dk, hM, hR⟩, h103, hV, hp⟩
  refine ⟨Nat.le_of_ble_eq_true rfl, ?_⟩
  show xv_V X mX9_next Post 0 0 0 [(0, .ref 83), (1, .int p), (2, .int one), (3, .int two), (4, .int b)] [] h n
  refine xi_aload_n (q := 1) dX9_next_0 rfl rfl ?_
  refine xi_iconst (x := 0) (q := 2) dX9_next_1 (by decide) rfl ?_
  refine xi_putf (q := 5) dX9_next_2 fl_X9_71 ⟨by omega, (xs_M83 hM)⟩ (Or.inl rfl) (fun _ => rfl) (fun _ => rfl) (Nat.le_of_ble_eq_true rfl) rfl ?_
  refine xi_iload_n (q := 6) dX9_next_5 rfl rfl ?_
  refine xv_cS1 (q := 9) xm_X9_isPlace ln_X9_116 dX9_next_6 ⟨(Nat.le_of_ble_eq_true rfl), (Nat.le_of_ble_eq_true rfl)⟩ (Nat.le_of_ble_eq_true rfl) ⟨rfl, rfl⟩ rfl (Nat.zero_le _) (Nat.zero_le _) ?_
  refine ⟨_, rfl, ?_⟩
  refine xi_if_eq (q := 12) (q2 := 54) dX9_next_9 (by decide) rfl (fun c_9 => ?_) (fun c_9 => ?_)
  · have g_9 : xs_i p 0 5 = false := decide_eq_false (xn_b0 c_9)
    refine xi_ldc (q := 56) dX9_next_54 kc_X9_91 rfl ?_
    refine xi_ret ⟨_, rfl, rfl, dX9_next_56⟩ (Nat.zero_le _) (Nat.zero_le _) ?_
    exact xs_finM (σ' := σ) hp (by simp only [xs_next, xs_onE, xs_onP, xs_fn, xs_an, Bool.not_false, Bool.not_true, Bool.true_or, Bool.false_or, Bool.and_true, Bool.true_and, Bool.and_false, Bool.false_and, Bool.false_eq_true, if_true, if_false, ↓reduceIte, g_9] <;> rfl) _ (xs_Mx (σ' := σ) hM hR (fa := (upd (C 83) 0 0)) ((va_up_self _ _ _).trans rfl) (fun j hj => (pk_un (by omega)).trans (rfl)) ((va_up_ne _ _ (by omega)).trans (xs_M88 hM)) (fun _ _ => rfl) ((va_up_ne _ _ (by omega)).trans (xs_M94 hM)) ((va_up_ne _ _ (by omega)).trans (xs_M95 hM)) ((va_up_ne _ _ (by omega)).trans (xs_M96 hM)) ((va_up_ne _ _ (by omega)).trans (xs_M97 hM)) ((va_up_ne _ _ (by omega)).trans (xs_M98 hM)) ((va_up_ne _ _ (by omega)).trans (xs_M99 hM)) (fun i i1 i2 i3 i4 => ((va_up_ne _ _ (by omega)).trans (Eq.refl _))) (fun _ _ _ => rfl) hR.2) (fun i hi => ((va_up_ne _ _ (by omega)).trans (Eq.refl _)))
  · have g_9 : xs_i p 0 5 = true := decide_eq_true (xn_b1 c_9)
    obtain ⟨kp, hkp, rfl⟩ := xn_pk (m := 5) (by omega) (xn_b1 c_9)
    refine xi_iload_n (q := 13) dX9_next_12 rfl rfl ?_
    refine xi_i2l (q := 14) dX9_next_13 rfl ?_
    refine xi_lconst (x := 0) (q := 15) dX9_next_14 (by decide) rfl ?_
    refine xi_ldc2 (q := 18) dX9_next_15 kc_X9_126 rfl ?_
    refine xv_cS3 (q := 21) xm_X9_in ln_X9_81 dX9_next_18 ⟨(Nat.le_of_ble_eq_true rfl), (Nat.le_of_ble_eq_true rfl)⟩ (Nat.le_of_ble_eq_true rfl) ⟨rfl, rfl⟩ rfl (Nat.zero_le _) (Nat.zero_le _) ?_
    refine ⟨one, 0, 12, rfl, ?_⟩
    refine xi_if_eq (q := 24) (q2 := 54) dX9_next_21 (by decide) rfl (fun c_21 => ?_) (fun c_21 => ?_)
    · have g_21 : xs_i one 0 12 = false := decide_eq_false (xn_b0 c_21)
      refine xi_ldc (q := 56) dX9_next_54 kc_X9_91 rfl ?_
      refine xi_ret ⟨_, rfl, rfl, dX9_next_56⟩ (Nat.zero_le _) (Nat.zero_le _) ?_
      exact xs_finM (σ' := σ) hp (by simp only [xs_next, xs_onE, xs_onP, xs_fn, xs_an, Bool.not_false, Bool.not_true, Bool.true_or, Bool.false_or, Bool.and_true, Bool.true_and, Bool.and_false, Bool.false_and, Bool.false_eq_true, if_true, if_false, ↓reduceIte, g_9, g_21, xs_kk0 (k := kp) (by omega)] <;> rfl) _ (xs_Mx (σ' := σ) hM hR (fa := (upd (C 83) 0 0)) ((va_up_self _ _ _).trans rfl) (fun j hj => (pk_un (by omega)).trans (rfl)) ((va_up_ne _ _ (by omega)).trans (xs_M88 hM)) (fun _ _ => rfl) ((va_up_ne _ _ (by omega)).trans (xs_M94 hM)) ((va_up_ne _ _ (by omega)).trans (xs_M95 hM)) ((va_up_ne _ _ (by omega)).trans (xs_M96 hM)) ((va_up_ne _ _ (by omega)).trans (xs_M97 hM)) ((va_up_ne _ _ (by omega)).trans (xs_M98 hM)) ((va_up_ne _ _ (by omega)).trans (xs_M99 hM)) (fun i i1 i2 i3 i4 => ((va_up_ne _ _ (by omega)).trans (Eq.refl _))) (fun _ _ _ => rfl) hR.2) (fun i hi => ((va_up_ne _ _ (by omega)).trans (Eq.refl _)))
    · have g_21 : xs_i one 0 12 = true := decide_eq_true (xn_b1 c_21)
      refine xi_iload_n (q := 25) dX9_next_24 rfl rfl ?_
      refine xi_i2l (q := 26) dX9_next_25 rfl ?_
      refine xi_lconst (x := 0) (q := 27) dX9_next_26 (by decide) rfl ?_
      refine xi_ldc2 (q := 30) dX9_next_27 kc_X9_126 rfl ?_
      refine xv_cS3 (q := 33) xm_X9_in ln_X9_81 dX9_next_30 ⟨(Nat.le_of_ble_eq_true rfl), (Nat.le_of_ble_eq_true rfl)⟩ (Nat.le_of_ble_eq_true rfl) ⟨rfl, rfl⟩ rfl (Nat.zero_le _) (Nat.zero_le _) ?_
      refine ⟨two, 0, 12, rfl, ?_⟩
      refine xi_if_eq (q := 36) (q2 := 54) dX9_next_33 (by decide) rfl (fun c_33 => ?_) (fun c_33 => ?_)
      · have g_33 : xs_i two 0 12 = false := decide_eq_false (xn_b0 c_33)
        refine xi_ldc (q := 56) dX9_next_54 kc_X9_91 rfl ?_
        refine xi_ret ⟨_, rfl, rfl, dX9_next_56⟩ (Nat.zero_le _) (Nat.zero_le _) ?_
        exact xs_finM (σ' := σ) hp (by simp only [xs_next, xs_onE, xs_onP, xs_fn, xs_an, Bool.not_false, Bool.not_true, Bool.true_or, Bool.false_or, Bool.and_true, Bool.true_and, Bool.and_false, Bool.false_and, Bool.false_eq_true, if_true, if_false, ↓reduceIte, g_9, g_21, g_33, xs_kk0 (k := kp) (by omega)] <;> rfl) _ (xs_Mx (σ' := σ) hM hR (fa := (upd (C 83) 0 0)) ((va_up_self _ _ _).trans rfl) (fun j hj => (pk_un (by omega)).trans (rfl)) ((va_up_ne _ _ (by omega)).trans (xs_M88 hM)) (fun _ _ => rfl) ((va_up_ne _ _ (by omega)).trans (xs_M94 hM)) ((va_up_ne _ _ (by omega)).trans (xs_M95 hM)) ((va_up_ne _ _ (by omega)).trans (xs_M96 hM)) ((va_up_ne _ _ (by omega)).trans (xs_M97 hM)) ((va_up_ne _ _ (by omega)).trans (xs_M98 hM)) ((va_up_ne _ _ (by omega)).trans (xs_M99 hM)) (fun i i1 i2 i3 i4 => ((va_up_ne _ _ (by omega)).trans (Eq.refl _))) (fun _ _ _ => rfl) hR.2) (fun i hi => ((va_up_ne _ _ (by omega)).trans (Eq.refl _)))
      · have g_33 : xs_i two 0 12 = true := decide_eq_true (xn_b1 c_33)
        refine xi_iload_n (q := 37) dX9_next_36 rfl rfl ?_
        refine xi_iload_n (q := 38) dX9_next_37 rfl rfl ?_
        refine xi_icmp_eq (q := 41) (q2 := 54) dX9_next_38 (by decide) rfl (fun c_38 => ?_) (fun c_38 => ?_)
        · have w38 : one = two := by first | exact c_38 | exact Decidable.of_not_not c_38
          refine xi_ldc (q := 56) dX9_next_54 kc_X9_91 rfl ?_
          refine xi_ret ⟨_, rfl, rfl, dX9_next_56⟩ (Nat.zero_le _) (Nat.zero_le _) ?_
          exact xs_finM (σ' := σ) hp (by simp only [xs_next, xs_onE, xs_onP, xs_fn, xs_an, Bool.not_false, Bool.not_true, Bool.true_or, Bool.false_or, Bool.and_true, Bool.true_and, Bool.and_false, Bool.false_and, Bool.false_eq_true, if_true, if_false, ↓reduceIte, g_9, g_21, g_33, decide_eq_true w38, xs_kk0 (k := kp) (by omega)] <;> rfl) _ (xs_Mx (σ' := σ) hM hR (fa := (upd (C 83) 0 0)) ((va_up_self _ _ _).trans rfl) (fun j hj => (pk_un (by omega)).trans (rfl)) ((va_up_ne _ _ (by omega)).trans (xs_M88 hM)) (fun _ _ => rfl) ((va_up_ne _ _ (by omega)).trans (xs_M94 hM)) ((va_up_ne _ _ (by omega)).trans (xs_M95 hM)) ((va_up_ne _ _ (by omega)).trans (xs_M96 hM)) ((va_up_ne _ _ (by omega)).trans (xs_M97 hM)) ((va_up_ne _ _ (by omega)).trans (xs_M98 hM)) ((va_up_ne _ _ (by omega)).trans (xs_M99 hM)) (fun i i1 i2 i3 i4 => ((va_up_ne _ _ (by omega)).trans (Eq.refl _))) (fun _ _ _ => rfl) hR.2) (fun i hi => ((va_up_ne _ _ (by omega)).trans (Eq.refl _)))
        · have w38 : ¬ one = two := c_38
          refine xi_iload (q := 43) dX9_next_41 rfl rfl ?_
          refine xi_i2l (q := 44) dX9_next_43 rfl ?_
          refine xi_lconst (x := 0) (q := 45) dX9_next_44 (by decide) rfl ?_
          refine xi_ldc2 (q := 48) dX9_next_45 kc_X9_207 rfl ?_
          refine xv_cS3 (q := 51) xm_X9_in ln_X9_81 dX9_next_48 ⟨(Nat.le_of_ble_eq_true rfl), (Nat.le_of_ble_eq_true rfl)⟩ (Nat.le_of_ble_eq_true rfl) ⟨rfl, rfl⟩ rfl (Nat.zero_le _) (Nat.zero_le _) ?_
          refine ⟨b, 0, 2000, rfl, ?_⟩
          refine xi_if_ne (q := 54) (q2 := 57) dX9_next_51 (by decide) rfl (fun c_51 => ?_) (fun c_51 => ?_)
          · have g_51 : xs_i b 0 2000 = true := decide_eq_true (xn_b1 c_51)
            refine xi_aload_n (q := 58) dX9_next_57 rfl rfl ?_
            refine xi_iload_n (q := 59) dX9_next_58 rfl rfl ?_
            refine xv_cV1 (q := 62) xm_X9_stands ln_X9_123 dX9_next_59 (xv_self (by omega)) rfl ⟨(Nat.le_of_ble_eq_true rfl), (Nat.le_of_ble_eq_true rfl)⟩ (Nat.le_of_ble_eq_true rfl) ⟨rfl, rfl⟩ rfl (Nat.zero_le _) (Nat.zero_le _) ?_
            refine ⟨(upd (C 83) 0 0), dk, C 87, kp, rfl, ((va_up_self _ _ _).trans rfl), by omega, ((va_up_ne _ _ (by omega)).trans (xs_M87 hM)), by omega, ?_, ?_⟩
            · intro z59 h59 p59 f59
              have Fh59 : ∀ i, i ≠ 83 → h59 i = h i := fun i j83 => (f59 i (by omega)).trans ((va_up_ne _ _ (by omega)).trans (Eq.refl _))
              have y59 : σ 6 kp 0 = 0 := (xs_ht hR (by omega)).symm.trans z59
              refine xi_istore (q := 64) dX9_next_62 (Nat.le_of_ble_eq_true rfl) rfl ?_
              refine xi_iload (q := 66) dX9_next_64 rfl rfl ?_
              refine xi_if_ge (q := 69) (q2 := 72) dX9_next_66 (by decide) rfl (fun c_66 => ?_) (fun c_66 => ?_)
              · exact absurd c_66 (by decide)
              · skip
                refine xi_iload (q := 71) dX9_next_69 rfl rfl ?_
                refine xi_ret ⟨_, rfl, rfl, dX9_next_71⟩ (Nat.zero_le _) (Nat.zero_le _) ?_
                exact xs_finM (σ' := (xs_fd σ 1)) hp (by simp only [xs_next, xs_onE, xs_onP, xs_fn1, xs_an, Bool.not_false, Bool.not_true, Bool.true_or, Bool.false_or, Bool.and_true, Bool.true_and, Bool.and_false, Bool.false_and, Bool.false_eq_true, if_true, if_false, ↓reduceIte, g_9, g_21, g_33, decide_eq_false w38, g_51, eq_true y59, xs_kk0 (k := kp) (by omega)] <;> rfl) _ (xs_Mx (σ' := (xs_fd σ 1)) hM hR (fa := (upd (upd (C 83) 0 0) 1 1)) p59 (fun j hj => (pk_un (by omega)).trans ((pk_un (by omega)).trans (rfl))) ((Fh59 88 (by omega)).trans (xs_M88 hM)) (fun _ _ => rfl) ((Fh59 94 (by omega)).trans (xs_M94 hM)) ((Fh59 95 (by omega)).trans (xs_M95 hM)) ((Fh59 96 (by omega)).trans (xs_M96 hM)) ((Fh59 97 (by omega)).trans (xs_M97 hM)) ((Fh59 98 (by omega)).trans (xs_M98 hM)) ((Fh59 99 (by omega)).trans (xs_M99 hM)) (fun i i1 i2 i3 i4 => (Fh59 i (by omega))) xs_fdo rfl) (fun i hi => (Fh59 i (by omega)))
            · intro z59 h59 p59 f59
              have Fh59 : ∀ i, i ≠ 83 → h59 i = h i := fun i j83 => (f59 i (by omega)).trans ((va_up_ne _ _ (by omega)).trans (Eq.refl _))
              have y59 : ¬ σ 6 kp 0 = 0 := fun e => z59 ((xs_ht hR (by omega)).trans e)
              refine xi_istore (q := 64) dX9_next_62 (Nat.le_of_ble_eq_true rfl) rfl ?_
              refine xi_iload (q := 66) dX9_next_64 rfl rfl ?_
              refine xi_if_ge (q := 69) (q2 := 72) dX9_next_66 (by decide) rfl (fun c_66 => ?_) (fun c_66 => ?_)
              · skip
                refine xi_aload_n (q := 73) dX9_next_72 rfl rfl ?_
                refine xi_bipush (x := 6) (q := 75) dX9_next_73 (by decide) rfl ?_
                refine xi_iload_n (q := 76) dX9_next_75 rfl rfl ?_
                refine xv_cV2 (q := 79) xm_X9_like ln_X9_128 dX9_next_76 ⟨by omega, p59⟩ rfl ⟨(Nat.le_of_ble_eq_true rfl), (Nat.le_of_ble_eq_true rfl)⟩ (Nat.le_of_ble_eq_true rfl) ⟨rfl, rfl⟩ rfl (Nat.zero_le _) (Nat.zero_le _) ?_
                refine ⟨(upd (upd (C 83) 0 0) 1 0), dk, (C 88), 6, kp, rfl, ⟨p59, ((Fh59 88 (by omega)).trans (xs_M88 hM)), ((Fh59 93 (by omega)).trans (xs_M93 hM))⟩, by omega, by omega, by omega, fun h76 q76 f76 => ?_⟩
                have Fh76 : ∀ i, i ≠ 83 → i ≠ 88 → h76 i = h i := fun i j83 j88 => (f76 i (by omega)).trans (Fh59 i (by omega))
                obtain ⟨A, hA⟩ : ∃ A : Int32 → Int32, A = (xs_fap (σ 4 kp) one two b) := ⟨_, rfl⟩
                have hA0 : ∀ m, 0 ≤ (A m).toInt := fun m => by rw [hA]; exact xn_faB ((hV.2.2.2.1 kp (by omega) y59).1) (by have z := xn_gI g_51; exact z)
                refine xi_iconst (x := (-1)) (q := 80) dX9_next_79 (by decide) rfl ?_
                refine xi_istore (q := 82) dX9_next_80 (Nat.le_of_ble_eq_true rfl) rfl ?_
                refine xi_ldc (q := 84) dX9_next_82 kc_X9_158 rfl ?_
                refine xi_istore (q := 86) dX9_next_84 (Nat.le_of_ble_eq_true rfl) rfl ?_
                refine xi_bipush (x := (-6)) (q := 88) dX9_next_86 (by decide) rfl ?_
                refine xi_istore (q := 90) dX9_next_88 (Nat.le_of_ble_eq_true rfl) rfl ?_
                refine xv_weakS (lv' := [(0, .ref 83), (2, .int one), (3, .int two), (4, .int b), (6, .int (xs_fo A 0).2), (7, .int (xs_nb A 0)), (8, .int (nI 0 - 6))]) ⟨rfl, rfl, rfl, rfl, rfl, rfl, rfl, trivial⟩ ?_
                refine xv_lpH (lv := fun k => [(0, .ref 83), (2, .int one), (3, .int two), (4, .int b), (6, .int (xs_fo A k).2), (7, .int (xs_nb A k)), (8, .int (nI k - 6))]) (I := fun k hI => ∃ (dI : Int64) (nu : Nat → Int32) (g94 : Nat → Int32) (g96 : Nat → Int32), hI 83 = xs_mo (upd (upd (C 83) 0 0) 1 0) dI ∧ hI 88 = xs_ia 84 nu ∧ (∀ x, x < 72 → nu x = C 88 x) ∧ hI 94 = xs_ia 48 g94 ∧ hI 96 = xs_ia 48 g96 ∧ (∀ x, x < 11 → nu (72 + x) = σ 4 kp x) ∧ ∀ i, i ≠ 83 → i ≠ 88 → i ≠ 94 → i ≠ 96 → hI i = h i) (N := 13) (fun k h90 hk I90 ih90 => ?_) 0 _ (by omega) ⟨_, _, _, _, ((f76 83 (by omega)).trans p59), q76, (fun x hx => if_neg (by omega)), ((Fh76 94 (by omega) (by omega)).trans (xs_M94 hM)), ((Fh76 96 (by omega) (by omega)).trans (xs_M96 hM)), (fun x hx => by show xs_lik (C 88) 6 kp (72 + x) = _; unfold xs_lik; rw [if_pos (by omega), show 12 * kp + (72 + x - 12 * 6) = 12 * kp + x by omega]; exact xs_hq hR (by omega) x hx), fun i _ _ _ _ => (Fh76 i (by omega) (by omega))⟩
                show xv_V X mX9_next Post 0 0 90 [(0, .ref 83), (2, .int one), (3, .int two), (4, .int b), (6, .int (xs_fo A k).2), (7, .int (xs_nb A k)), (8, .int (nI k - 6))] [] h90 n
                obtain ⟨d90, n90, g94_90, g96_90, p83_90, p88_90, e88_90, p94_90, p96_90, x90, F90⟩ := I90
                refine xi_iload (q := 92) dX9_next_90 rfl rfl ?_
                refine xi_bipush (x := 7) (q := 94) dX9_next_92 (by decide) rfl ?_
                refine xi_icmp_ge (q := 97) (q2 := 247) dX9_next_94 (by decide) rfl (fun c_94 => ?_) (fun c_94 => ?_)
                · have hk2 : k = 13 := by
                    have z : 7 ≤ nI k - 6 := c_94
                    rw [xn_le, xn_s6i (by omega), show (7 : Int32).toInt = 7 from rfl] at z
                    omega
                  subst hk2
                  refine xi_iload (q := 249) dX9_next_247 rfl rfl ?_
                  refine xi_ret ⟨_, rfl, rfl, dX9_next_249⟩ (Nat.zero_le _) (Nat.zero_le _) ?_
                  exact xs_finM (σ' := (xs_fd σ 0)) hp (by rw [show xs_nb A 13 = (xs_fo A 13).1 from rfl, hA]; simp only [xs_next, xs_onE, xs_onP, xs_fn, xs_an, Bool.not_false, Bool.not_true, Bool.true_or, Bool.false_or, Bool.and_true, Bool.true_and, Bool.and_false, Bool.false_and, Bool.false_eq_true, if_true, if_false, ↓reduceIte, g_9, g_21, g_33, decide_eq_false w38, g_51, eq_false y59, xs_kk0 (k := kp) (by omega)] <;> rfl) _ (xs_Mx (σ' := (xs_fd σ 0)) hM hR (fa := (upd (upd (C 83) 0 0) 1 0)) p83_90 (fun j hj => (pk_un (by omega)).trans ((pk_un (by omega)).trans (rfl))) p88_90 e88_90 p94_90 ((F90 95 (by omega) (by omega) (by omega) (by omega)).trans (xs_M95 hM)) p96_90 ((F90 97 (by omega) (by omega) (by omega) (by omega)).trans (xs_M97 hM)) ((F90 98 (by omega) (by omega) (by omega) (by omega)).trans (xs_M98 hM)) ((F90 99 (by omega) (by omega) (by omega) (by omega)).trans (xs_M99 hM)) (fun i i1 i2 i3 i4 => (F90 i (by omega) (by omega) (by omega) (by omega))) xs_fdo rfl) (fun i hi => (F90 i (by omega) (by omega) (by omega) (by omega)))
                · have hk2 : k < 13 := by
                    have z : ¬ 7 ≤ nI k - 6 := c_94
                    rw [xn_le, xn_s6i (by omega), show (7 : Int32).toInt = 7 from rfl] at z
                    omega
                  refine xi_aload_n (q := 98) dX9_next_97 rfl rfl ?_
                  refine xi_getf (q := 101) dX9_next_98 fl_X9_23 ⟨by omega, p83_90⟩ rfl rfl ?_
                  refine xi_bipush (x := 83) (q := 103) dX9_next_101 (by decide) rfl ?_
                  refine xi_iload_n (q := 104) dX9_next_103 rfl rfl ?_
                  refine xi_iast (q := 105) dX9_next_104 ⟨by omega, p88_90⟩ ⟨xv_ink (by decide), (by decide : (83 : Int32).toNatClampNeg = 83)⟩ rfl ?_
                  refine xi_aload_n (q := 106) dX9_next_105 rfl rfl ?_
                  refine xi_bipush (x := 6) (q := 108) dX9_next_106 (by decide) rfl ?_
                  refine xi_iload (q := 110) dX9_next_108 rfl rfl ?_
                  refine xi_iload (q := 112) dX9_next_110 rfl rfl ?_
                  refine xi_iconst (x := 4) (q := 113) dX9_next_112 (by decide) rfl ?_
                  refine xi_iconst (x := 0) (q := 114) dX9_next_113 (by decide) rfl ?_
                  refine xv_cV5 (q := 117) xm_X9_draw ln_X9_215 dX9_next_114 (xv_keep (by omega) ⟨by omega, p83_90⟩) rfl ⟨(Nat.le_of_ble_eq_true rfl), (Nat.le_of_ble_eq_true rfl)⟩ (Nat.le_of_ble_eq_true rfl) ⟨rfl, rfl⟩ rfl (Nat.zero_le _) (Nat.zero_le _) ?_
                  have r114 : ∀ j, j < 11 → xs_nr (upd n90 83 one) 6 j = σ 4 kp j := (fun x hx => (pk_un (by omega)).trans (x90 x hx))
                  refine ⟨(upd (upd (C 83) 0 0) 1 0), d90, (upd n90 83 one), 6, _, _, _, _, _, rfl, ⟨((va_up_ne _ _ (by omega)).trans p83_90), ((va_up_self _ _ _).trans rfl), ((va_up_ne _ _ (by omega)).trans ((F90 93 (by omega) (by omega) (by omega) (by omega)).trans (xs_M93 hM)))⟩, by omega, by omega, (xe_ok r114 (hV.2.2.2.1 kp (by omega) y59).1), ((va_up_ne _ _ (by omega)).trans p94_90), fun h114 p114 q114 f114 => ?_⟩
                  have Fh114 : ∀ i, i ≠ 83 → i ≠ 88 → i ≠ 94 → i ≠ 96 → h114 i = h i := fun i j83 j88 j94 j96 => (f114 i (by omega) (by omega)).trans ((va_up_ne _ _ (by omega)).trans (F90 i (by omega) (by omega) (by omega) (by omega)))
                  obtain ⟨P1, hP1x⟩ : ∃ G : Nat → Int32, G = (fun j => xs_cd (σ 4 kp) one (nI k - 6) (b * 4 / 4) 0 j) := ⟨_, rfl⟩
                  replace q114 : h114 94 = xs_ia 48 P1 := by rw [q114, hP1x]; exact congrArg (xs_ia 48) (funext fun k => by rw [show (upd n90 83 one) (12 * 6 + 11) = one from pk_us, xe_cd r114])
                  have hP1 : P1 = P1 := rfl
                  refine xi_iconst (x := 0) (q := 118) dX9_next_117 (by decide) rfl ?_
                  refine xi_istore (q := 120) dX9_next_118 (Nat.le_of_ble_eq_true rfl) rfl ?_
                  refine xv_weakS (lv' := [(0, .ref 83), (2, .int one), (3, .int two), (4, .int b), (6, .int (xs_fo A k).2), (7, .int (xs_nb A k)), (8, .int (nI k - 6)), (9, .int (nI 0))]) ⟨rfl, rfl, rfl, rfl, rfl, rfl, rfl, rfl, trivial⟩ ?_
                  refine xv_lpH (lv := fun j => [(0, .ref 83), (2, .int one), (3, .int two), (4, .int b), (6, .int (xs_fo A k).2), (7, .int (xs_nb A k)), (8, .int (nI k - 6)), (9, .int (nI j))]) (I := fun j hI => ∃ (dI : Int64) (nu : Nat → Int32) (g94 : Nat → Int32) (g96 : Nat → Int32), hI 83 = xs_mo (upd (upd (C 83) 0 0) 1 0) dI ∧ hI 88 = xs_ia 84 nu ∧ (∀ x, x < 72 → nu x = C 88 x) ∧ hI 94 = xs_ia 48 g94 ∧ hI 96 = xs_ia 48 g96 ∧ ((∀ x, x < 11 → nu (72 + x) = σ 4 kp x) ∧ g94 = P1 ∧ ∀ i, i < j → g96 i = P1 i) ∧ ∀ i, i ≠ 83 → i ≠ 88 → i ≠ 94 → i ≠ 96 → hI i = h i) (N := 48) (fun j h120 hj I120 ih120 => ?_) 0 _ (by omega) ⟨_, _, _, _, p114, ((f114 88 (by omega) (by omega)).trans ((va_up_self _ _ _).trans rfl)), (fun x hx => (pk_un (by omega)).trans ((e88_90) x hx)), q114, ((f114 96 (by omega) (by omega)).trans ((va_up_ne _ _ (by omega)).trans p96_90)), ⟨(fun x hx => (pk_un (by omega)).trans (x90 x hx)), hP1.symm, fun i hi => absurd hi (by omega)⟩, fun i _ _ _ _ => (Fh114 i (by omega) (by omega) (by omega) (by omega))⟩
                  show xv_V X mX9_next Post 0 0 120 [(0, .ref 83), (2, .int one), (3, .int two), (4, .int b), (6, .int (xs_fo A k).2), (7, .int (xs_nb A k)), (8, .int (nI k - 6)), (9, .int (nI j))] [] h120 n
                  obtain ⟨d120, n120, g94_120, g96_120, p83_120, p88_120, e88_120, p94_120, p96_120, x120, F120⟩ := I120
                  refine xi_iload (q := 122) dX9_next_120 rfl rfl ?_
                  refine xi_bipush (x := 48) (q := 124) dX9_next_122 (by decide) rfl ?_
                  refine xi_icmp_ge (q := 127) (q2 := 147) dX9_next_124 (by decide) rfl (fun c_124 => ?_) (fun c_124 => ?_)
                  · have hj2 : j = 48 := by have z : 48 ≤ j := xn_leN c_124 (by omega) (by omega); omega
                    subst hj2
                    refine xi_aload_n (q := 148) dX9_next_147 rfl rfl ?_
                    refine xi_getf (q := 151) dX9_next_148 fl_X9_23 ⟨by omega, p83_120⟩ rfl rfl ?_
                    refine xi_bipush (x := 83) (q := 153) dX9_next_151 (by decide) rfl ?_
                    refine xi_iload_n (q := 154) dX9_next_153 rfl rfl ?_
                    refine xi_iast (q := 155) dX9_next_154 ⟨by omega, p88_120⟩ ⟨xv_ink (by decide), (by decide : (83 : Int32).toNatClampNeg = 83)⟩ rfl ?_
                    refine xi_aload_n (q := 156) dX9_next_155 rfl rfl ?_
                    refine xi_bipush (x := 6) (q := 158) dX9_next_156 (by decide) rfl ?_
                    refine xi_iload (q := 160) dX9_next_158 rfl rfl ?_
                    refine xi_iload (q := 162) dX9_next_160 rfl rfl ?_
                    refine xi_iconst (x := 4) (q := 163) dX9_next_162 (by decide) rfl ?_
                    refine xi_iconst (x := 0) (q := 164) dX9_next_163 (by decide) rfl ?_
                    refine xv_cV5 (q := 167) xm_X9_draw ln_X9_215 dX9_next_164 (xv_keep (by omega) ⟨by omega, p83_120⟩) rfl ⟨(Nat.le_of_ble_eq_true rfl), (Nat.le_of_ble_eq_true rfl)⟩ (Nat.le_of_ble_eq_true rfl) ⟨rfl, rfl⟩ rfl (Nat.zero_le _) (Nat.zero_le _) ?_
                    have r164 : ∀ j, j < 11 → xs_nr (upd n120 83 two) 6 j = σ 4 kp j := (fun x hx => (pk_un (by omega)).trans (x120.1 x hx))
                    refine ⟨(upd (upd (C 83) 0 0) 1 0), d120, (upd n120 83 two), 6, _, _, _, _, _, rfl, ⟨((va_up_ne _ _ (by omega)).trans p83_120), ((va_up_self _ _ _).trans rfl), ((va_up_ne _ _ (by omega)).trans ((F120 93 (by omega) (by omega) (by omega) (by omega)).trans (xs_M93 hM)))⟩, by omega, by omega, (xe_ok r164 (hV.2.2.2.1 kp (by omega) y59).1), ((va_up_ne _ _ (by omega)).trans p94_120), fun h164 p164 q164 f164 => ?_⟩
                    have Fh164 : ∀ i, i ≠ 83 → i ≠ 88 → i ≠ 94 → i ≠ 96 → h164 i = h i := fun i j83 j88 j94 j96 => (f164 i (by omega) (by omega)).trans ((va_up_ne _ _ (by omega)).trans (F120 i (by omega) (by omega) (by omega) (by omega)))
                    obtain ⟨P2, hP2⟩ : ∃ G : Nat → Int32, G = (fun j => xs_cd (σ 4 kp) two (nI k - 6) (b * 4 / 4) 0 j) := ⟨_, rfl⟩
                    replace q164 : h164 94 = xs_ia 48 P2 := by rw [q164, hP2]; exact congrArg (xs_ia 48) (funext fun k => by rw [show (upd n120 83 two) (12 * 6 + 11) = two from pk_us, xe_cd r164])
                    have b1 : ∀ j, j < 48 → 0 ≤ (P1 j).toInt ∧ (P1 j).toInt ≤ 120000 := fun j hj => by rw [hP1x]; exact xn_cdb ((hV.2.2.2.1 kp (by omega) y59).1) (by have z := xn_gI g_51; exact z) hj
                    have b2 : ∀ j, j < 48 → 0 ≤ (P2 j).toInt ∧ (P2 j).toInt ≤ 120000 := fun j hj => by rw [hP2]; exact xn_cdb ((hV.2.2.2.1 kp (by omega) y59).1) (by have z := xn_gI g_51; exact z) hj
                    refine xi_iconst (x := 0) (q := 168) dX9_next_167 (by decide) rfl ?_
                    refine xi_istore (q := 170) dX9_next_168 (Nat.le_of_ble_eq_true rfl) rfl ?_
                    refine xi_iconst (x := 0) (q := 171) dX9_next_170 (by decide) rfl ?_
                    refine xi_istore (q := 173) dX9_next_171 (Nat.le_of_ble_eq_true rfl) rfl ?_
                    refine xv_weakS (lv' := [(0, .ref 83), (2, .int one), (3, .int two), (4, .int b), (6, .int (xs_fo A k).2), (7, .int (xs_nb A k)), (8, .int (nI k - 6)), (9, .int (xs_ps (xs_ap1 P1 P2) 0)), (10, .int (nI 0))]) ⟨rfl, rfl, rfl, rfl, rfl, rfl, rfl, rfl, rfl, trivial⟩ ?_
                    refine xv_lp (lv := fun j => [(0, .ref 83), (2, .int one), (3, .int two), (4, .int b), (6, .int (xs_fo A k).2), (7, .int (xs_nb A k)), (8, .int (nI k - 6)), (9, .int (xs_ps (xs_ap1 P1 P2) j)), (10, .int (nI j))]) (N := 48) (k0 := 0) (by omega) (fun j hj ih173 => ?_)
                    show xv_V X mX9_next Post 0 0 173 [(0, .ref 83), (2, .int one), (3, .int two), (4, .int b), (6, .int (xs_fo A k).2), (7, .int (xs_nb A k)), (8, .int (nI k - 6)), (9, .int (xs_ps (xs_ap1 P1 P2) j)), (10, .int (nI j))] [] _ n
                    refine xi_iload (q := 175) dX9_next_173 rfl rfl ?_
                    refine xi_bipush (x := 48) (q := 177) dX9_next_175 (by decide) rfl ?_
                    refine xi_icmp_ge (q := 180) (q2 := 209) dX9_next_177 (by decide) rfl (fun c_177 => ?_) (fun c_177 => ?_)
                    · have hj3 : j = 48 := by have z : 48 ≤ j := xn_leN c_177 (by omega) (by omega); omega
                      subst hj3
                      have eA : xs_ps (xs_ap1 P1 P2) 48 = A (nI k - 6) := by rw [hA, hP1x, hP2]; rfl
                      rw [eA]
                      refine xi_iload (q := 211) dX9_next_209 rfl rfl ?_
                      refine xi_iload (q := 213) dX9_next_211 rfl rfl ?_
                      refine xi_icmp_le (q := 216) (q2 := 221) dX9_next_213 (by decide) rfl (fun c_213 => ?_) (fun c_213 => ?_)
                      · have ef := xn_foK hA0 c_213
                        refine xi_iload (q := 223) dX9_next_221 rfl rfl ?_
                        refine xi_istore (q := 225) dX9_next_223 (Nat.le_of_ble_eq_true rfl) rfl ?_
                        refine xi_iload (q := 227) dX9_next_225 rfl rfl ?_
                        refine xi_iload (q := 229) dX9_next_227 rfl rfl ?_
                        refine xi_icmp_le (q := 232) (q2 := 237) dX9_next_229 (by decide) rfl (fun c_229 => ?_) (fun c_229 => ?_)
                        · skip
                          refine xi_iload (q := 239) dX9_next_237 rfl rfl ?_
                          refine xi_istore (q := 241) dX9_next_239 (Nat.le_of_ble_eq_true rfl) rfl ?_
                          refine xi_iinc (q := 244) dX9_next_241 rfl rfl (Nat.le_of_ble_eq_true rfl) rfl ?_
                          rw [xn_s6]
                          refine xi_goto (q := 90) dX9_next_244 (by decide) ?_
                          refine xv_weakS (lv' := [(0, .ref 83), (2, .int one), (3, .int two), (4, .int b), (6, .int (xs_fo A k).2), (7, .int (xs_nb A k)), (8, .int (nI (k + 1) - 6))]) ⟨rfl, rfl, rfl, rfl, rfl, rfl, rfl, trivial⟩ ?_
                          have Q := ih90 _ (by omega) ⟨_, _, _, _, p164, ((f164 88 (by omega) (by omega)).trans ((va_up_self _ _ _).trans rfl)), (fun x hx => (pk_un (by omega)).trans ((e88_120) x hx)), q164, ((f164 96 (by omega) (by omega)).trans ((va_up_ne _ _ (by omega)).trans p96_120)), (fun x hx => (pk_un (by omega)).trans (x120.1 x hx)), fun i _ _ _ _ => (Fh164 i (by omega) (by omega) (by omega) (by omega))⟩
                          rw [ef.1, ef.2] at Q
                          exact Q
                        · exact absurd c_213 c_229
                      · have ef := xn_foT c_213
                        refine xi_iload (q := 218) dX9_next_216 rfl rfl ?_
                        refine xi_goto (q := 223) dX9_next_218 (by decide) ?_
                        refine xi_istore (q := 225) dX9_next_223 (Nat.le_of_ble_eq_true rfl) rfl ?_
                        refine xi_iload (q := 227) dX9_next_225 rfl rfl ?_
                        refine xi_iload (q := 229) dX9_next_227 rfl rfl ?_
                        refine xi_icmp_le (q := 232) (q2 := 237) dX9_next_229 (by decide) rfl (fun c_229 => ?_) (fun c_229 => ?_)
                        · exact absurd c_229 c_213
                        · skip
                          refine xi_iload (q := 234) dX9_next_232 rfl rfl ?_
                          refine xi_goto (q := 239) dX9_next_234 (by decide) ?_
                          refine xi_istore (q := 241) dX9_next_239 (Nat.le_of_ble_eq_true rfl) rfl ?_
                          refine xi_iinc (q := 244) dX9_next_241 rfl rfl (Nat.le_of_ble_eq_true rfl) rfl ?_
                          rw [xn_s6]
                          refine xi_goto (q := 90) dX9_next_244 (by decide) ?_
                          refine xv_weakS (lv' := [(0, .ref 83), (2, .int one), (3, .int two), (4, .int b), (6, .int (A (nI k - 6))), (7, .int (nI k - 6)), (8, .int (nI (k + 1) - 6))]) ⟨rfl, rfl, rfl, rfl, rfl, rfl, rfl, trivial⟩ ?_
                          have Q := ih90 _ (by omega) ⟨_, _, _, _, p164, ((f164 88 (by omega) (by omega)).trans ((va_up_self _ _ _).trans rfl)), (fun x hx => (pk_un (by omega)).trans ((e88_120) x hx)), q164, ((f164 96 (by omega) (by omega)).trans ((va_up_ne _ _ (by omega)).trans p96_120)), (fun x hx => (pk_un (by omega)).trans (x120.1 x hx)), fun i _ _ _ _ => (Fh164 i (by omega) (by omega) (by omega) (by omega))⟩
                          rw [ef.1, ef.2] at Q
                          exact Q
                    · have hj2 : j < 48 := xn_nleN c_177 (by omega) (by omega)
                      refine xi_iload (q := 182) dX9_next_180 rfl rfl ?_
                      refine xi_aload_n (q := 183) dX9_next_182 rfl rfl ?_
                      refine xi_getf (q := 186) dX9_next_183 fl_X9_47 ⟨by omega, p164⟩ rfl rfl ?_
                      refine xi_iload (q := 188) dX9_next_186 rfl rfl ?_
                      refine xi_iald (q := 189) dX9_next_188 ⟨by omega, ((f164 96 (by omega) (by omega)).trans ((va_up_ne _ _ (by omega)).trans p96_120))⟩ (xv_ixN hj2 (by omega)) rfl ?_
                      rw [x120.2.2 j hj2]
                      refine xi_aload_n (q := 190) dX9_next_189 rfl rfl ?_
                      refine xi_getf (q := 193) dX9_next_190 fl_X9_41 ⟨by omega, p164⟩ rfl rfl ?_
                      refine xi_iload (q := 195) dX9_next_193 rfl rfl ?_
                      refine xi_iald (q := 196) dX9_next_195 ⟨by omega, q164⟩ (xv_ixN hj2 (by omega)) rfl ?_
                      refine xi_isub (q := 197) dX9_next_196 rfl ?_
                      refine xv_cS1 (q := 200) xm_X9_size ln_X9_234 dX9_next_197 ⟨(Nat.le_of_ble_eq_true rfl), (Nat.le_of_ble_eq_true rfl)⟩ (Nat.le_of_ble_eq_true rfl) ⟨rfl, rfl⟩ rfl (Nat.zero_le _) (Nat.zero_le _) ?_
                      refine ⟨_, rfl, ?_⟩
                      refine xi_iadd (q := 201) dX9_next_200 rfl ?_
                      refine xi_istore (q := 203) dX9_next_201 (Nat.le_of_ble_eq_true rfl) rfl ?_
                      refine xi_iinc (y := nI (j + 1)) (q := 206) dX9_next_203 rfl (xn_inc j) (Nat.le_of_ble_eq_true rfl) rfl ?_
                      refine xi_goto (q := 173) dX9_next_206 (by decide) ?_
                      rw [xs_psS (xs_ap1 P1 P2) j (xn_apS (b1 j hj2) (b2 j hj2))]
                      refine xv_weakS (lv' := [(0, .ref 83), (2, .int one), (3, .int two), (4, .int b), (6, .int (xs_fo A k).2), (7, .int (xs_nb A k)), (8, .int (nI k - 6)), (9, .int (xs_ps (xs_ap1 P1 P2) (j + 1))), (10, .int (nI (j + 1)))]) ⟨rfl, rfl, rfl, rfl, rfl, rfl, rfl, rfl, rfl, trivial⟩ ?_
                      exact ih173 (by omega)
                  · have hj2 : j < 48 := xn_nleN c_124 (by omega) (by omega)
                    refine xi_aload_n (q := 128) dX9_next_127 rfl rfl ?_
                    refine xi_getf (q := 131) dX9_next_128 fl_X9_47 ⟨by omega, p83_120⟩ rfl rfl ?_
                    refine xi_iload (q := 133) dX9_next_131 rfl rfl ?_
                    refine xi_aload_n (q := 134) dX9_next_133 rfl rfl ?_
                    refine xi_getf (q := 137) dX9_next_134 fl_X9_41 ⟨by omega, p83_120⟩ rfl rfl ?_
                    refine xi_iload (q := 139) dX9_next_137 rfl rfl ?_
                    refine xi_iald (q := 140) dX9_next_139 ⟨by omega, p94_120⟩ (xv_ixN hj2 (by omega)) rfl ?_
                    refine xi_iast (q := 141) dX9_next_140 ⟨by omega, p96_120⟩ (xv_ixN hj2 (by omega)) rfl ?_
                    refine xi_iinc (y := nI (j + 1)) (q := 144) dX9_next_141 rfl (xn_inc j) (Nat.le_of_ble_eq_true rfl) rfl ?_
                    refine xi_goto (q := 120) dX9_next_144 (by decide) ?_
                    refine xv_weakS (lv' := [(0, .ref 83), (2, .int one), (3, .int two), (4, .int b), (6, .int (xs_fo A k).2), (7, .int (xs_nb A k)), (8, .int (nI k - 6)), (9, .int (nI (j + 1)))]) ⟨rfl, rfl, rfl, rfl, rfl, rfl, rfl, rfl, trivial⟩ ?_
                    exact ih120 _ (by omega) ⟨_, _, _, _, ((va_up_ne _ _ (by omega)).trans p83_120), ((va_up_ne _ _ (by omega)).trans p88_120), e88_120, ((va_up_ne _ _ (by omega)).trans p94_120), ((va_up_self _ _ _).trans rfl), ⟨x120.1, x120.2.1, xn_updl x120.2.2 (by rw [x120.2.1])⟩, fun i _ _ _ _ => ((va_up_ne _ _ (by omega)).trans (F120 i (by omega) (by omega) (by omega) (by omega)))⟩
              · exact absurd (by decide) c_66
          · have g_51 : xs_i b 0 2000 = false := decide_eq_false (xn_b0 c_51)
            refine xi_ldc (q := 56) dX9_next_54 kc_X9_91 rfl ?_
            refine xi_ret ⟨_, rfl, rfl, dX9_next_56⟩ (Nat.zero_le _) (Nat.zero_le _) ?_
            exact xs_finM (σ' := σ) hp (by simp only [xs_next, xs_onE, xs_onP, xs_fn, xs_an, Bool.not_false, Bool.not_true, Bool.true_or, Bool.false_or, Bool.and_true, Bool.true_and, Bool.and_false, Bool.false_and, Bool.false_eq_true, if_true, if_false, ↓reduceIte, g_9, g_21, g_33, decide_eq_false w38, g_51, xs_kk0 (k := kp) (by omega)] <;> rfl) _ (xs_Mx (σ' := σ) hM hR (fa := (upd (C 83) 0 0)) ((va_up_self _ _ _).trans rfl) (fun j hj => (pk_un (by omega)).trans (rfl)) ((va_up_ne _ _ (by omega)).trans (xs_M88 hM)) (fun _ _ => rfl) ((va_up_ne _ _ (by omega)).trans (xs_M94 hM)) ((va_up_ne _ _ (by omega)).trans (xs_M95 hM)) ((va_up_ne _ _ (by omega)).trans (xs_M96 hM)) ((va_up_ne _ _ (by omega)).trans (xs_M97 hM)) ((va_up_ne _ _ (by omega)).trans (xs_M98 hM)) ((va_up_ne _ _ (by omega)).trans (xs_M99 hM)) (fun i i1 i2 i3 i4 => ((va_up_ne _ _ (by omega)).trans (Eq.refl _))) (fun _ _ _ => rfl) hR.2) (fun i hi => ((va_up_ne _ _ (by omega)).trans (Eq.refl _)))

