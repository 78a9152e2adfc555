theorem xn_hasN {i k sz : Int32} (h : ¬ 0 ≤ i) : xs_has i k sz = false := by
  unfold xs_has
  rw [decide_eq_false h, Bool.false_and]
theorem xn_hasL {i k sz : Int32} (h0 : 0 ≤ i) (hk : 0 ≤ k.toInt) (hz : 0 ≤ sz.toInt ∧ sz.toInt ≤ 60) : lg_cmp (i.toInt64 + k.toInt64) sz.toInt64 ≤ 0 ↔ xs_has i k sz = true := by
  have b1 := xn_b i
  have b2 := xn_b k
  have e1 : (i.toInt64 + k.toInt64).toInt = i.toInt + k.toInt := by
    rw [Int64.toInt_add, Int32.toInt_toInt64, Int32.toInt_toInt64]
    exact Int.bmod_eq_of_le (by omega) (by omega)
  rw [lg_cmp_le, Int64.le_iff_toInt_le, e1, Int32.toInt_toInt64]
  unfold xs_has
  rw [Bool.and_eq_true, Bool.and_eq_true, Bool.and_eq_true, decide_eq_true_eq, decide_eq_true_eq, decide_eq_true_eq, decide_eq_true_eq, xn_le, xn_le, xn_le, xn_le, xn_sub (by omega) (by omega), show (0 : Int32).toInt = 0 from rfl]
  rw [xn_le, show (0 : Int32).toInt = 0 from rfl] at h0
  omega
def xs_wn (t : xs_3) : Int32 := if t.1 = -1000000 then 0 else t.2.1
theorem xn_pN {k : Nat} (hk : k < 6) : ¬ nI k = -1000000 := fun z => by
  rw [xn_eq, xn_NI (by omega), show (-1000000 : Int32).toInt = -1000000 from rfl] at z
  omega
theorem xn_nin {A : Int32 → Int32} {k : Nat} (hk : k < 6) {t : xs_3} (ht : t = (-1000000, -1000000, -1000000) ∨ ¬ t.1 = -1000000) : ∀ j, xs_nin A (nI k) j t = (-1000000, -1000000, -1000000) ∨ ¬ (xs_nin A (nI k) j t).1 = -1000000
  | 0 => ht
  | j + 1 => by
    show xs_nst _ _ _ (xs_nin A (nI k) j t) = _ ∨ ¬ (xs_nst _ _ _ (xs_nin A (nI k) j t)).1 = _
    unfold xs_nst
    split
    · exact Or.inr (xn_pN hk)
    · exact xn_nin hk ht j
theorem xn_nou {σ : xs_Sg} {A : Nat → Int32 → Int32} : ∀ k, k ≤ 6 → xs_nou σ A k = (-1000000, -1000000, -1000000) ∨ ¬ (xs_nou σ A k).1 = -1000000
  | 0, _ => Or.inl rfl
  | k + 1, hk => by
    show (if σ 6 k 0 = 0 then xs_nou σ A k else xs_nin (A k) (nI k) 13 (xs_nou σ A k)) = _ ∨ ¬ (if σ 6 k 0 = 0 then xs_nou σ A k else xs_nin (A k) (nI k) 13 (xs_nou σ A k)).1 = _
    split
    · exact xn_nou k (by omega)
    · exact xn_nin (by omega) (xn_nou k (by omega)) 13
theorem xn_selN {w : Int32} {t : xs_3} (ht : t = (-1000000, -1000000, -1000000) ∨ ¬ t.1 = -1000000) (h : t.1 = -1000000) : xs_sel3 w t = -1000000 := by
  rw [ht.resolve_right (fun z => z h)]
  unfold xs_sel3
  split
  · rfl
  · split <;> rfl
theorem xn_nstK {v p m : Int32} {t : xs_3} (h : ¬ t.1 = -1000000) (h2 : t.2.2 ≤ v) : xs_nst v p m t = t := if_neg (fun z => z.elim h (xn_nlt h2))
theorem xn_nstT {v p m : Int32} {t : xs_3} (h : t.1 = -1000000 ∨ ¬ t.2.2 ≤ v) : xs_nst v p m t = (p, m, v) := if_pos (h.elim Or.inl (fun z => Or.inr (xn_ltn z)))
set_option maxRecDepth 20000 in
set_option maxHeartbeats 2000000 in
/-- whose -/
theorem xm_X9_whose : xv_K yX9_whose mX9_whose (fun as h n Post => ∃ (σ : xs_Sg) (s : Int32) (i : Int32) (b : Int32) (w : Int32), as = [.ref 83, .int s, .int i, .int b, .int w] ∧ (xs_Mo h σ) ∧ (103 < n) ∧ (xs_V σ) ∧ xs_DM h n Post (xs_whose σ s i b w)) := by
  refine xv_entry (by decide +kernel) rfl (fun h => absurd h (by decide)) ?_
  rintro X _ h n Post ⟨σ, s, i, b, w, rfl, ⟨C, dk, hM, hR⟩, h103, hV, hp⟩
  refine ⟨Nat.le_of_ble_eq_true rfl, ?_⟩
  show xv_V X mX9_whose Post 0 0 0 [(0, .ref 83), (1, .int s), (2, .int i), (3, .int b), (4, .int w)] [] h n
  refine xi_aload_n (q := 1) dX9_whose_0 rfl rfl ?_
  refine xi_iconst (x := 0) (q := 2) dX9_whose_1 (by decide) rfl ?_
  refine xi_putf (q := 5) dX9_whose_2 fl_X9_71 ⟨by omega, (xs_M83 hM)⟩ (Or.inl rfl) (fun _ => rfl) (fun _ => rfl) (Nat.le_of_ble_eq_true rfl) rfl ?_
  refine xi_iload_n (q := 6) dX9_whose_5 rfl rfl ?_
  refine xv_cS1 (q := 9) xm_X9_isSheet ln_X9_85 dX9_whose_6 ⟨(Nat.le_of_ble_eq_true rfl), (Nat.le_of_ble_eq_true rfl)⟩ (Nat.le_of_ble_eq_true rfl) ⟨rfl, rfl⟩ rfl (Nat.zero_le _) (Nat.zero_le _) ?_
  refine ⟨_, rfl, ?_⟩
  refine xi_if_eq (q := 12) (q2 := 37) dX9_whose_9 (by decide) rfl (fun c_9 => ?_) (fun c_9 => ?_)
  · have g_9 : xs_i s 0 7 = false := decide_eq_false (xn_b0 c_9)
    refine xi_ldc (q := 39) dX9_whose_37 kc_X9_91 rfl ?_
    refine xi_ret ⟨_, rfl, rfl, dX9_whose_39⟩ (Nat.zero_le _) (Nat.zero_le _) ?_
    exact xs_finM (σ' := σ) hp (by simp only [xs_whose, xs_onE, xs_onP, xs_fn, xs_an, Bool.not_false, Bool.not_true, Bool.true_or, Bool.false_or, Bool.and_true, Bool.true_and, Bool.and_false, Bool.false_and, Bool.false_eq_true, if_true, if_false, ↓reduceIte, g_9] <;> rfl) _ (xs_Mx (σ' := σ) hM hR (fa := (upd (C 83) 0 0)) ((va_up_self _ _ _).trans rfl) (fun j hj => (pk_un (by omega)).trans (rfl)) ((va_up_ne _ _ (by omega)).trans (xs_M88 hM)) (fun _ _ => rfl) ((va_up_ne _ _ (by omega)).trans (xs_M94 hM)) ((va_up_ne _ _ (by omega)).trans (xs_M95 hM)) ((va_up_ne _ _ (by omega)).trans (xs_M96 hM)) ((va_up_ne _ _ (by omega)).trans (xs_M97 hM)) ((va_up_ne _ _ (by omega)).trans (xs_M98 hM)) ((va_up_ne _ _ (by omega)).trans (xs_M99 hM)) (fun i i1 i2 i3 i4 => ((va_up_ne _ _ (by omega)).trans (Eq.refl _))) (fun _ _ _ => rfl) hR.2) (fun i hi => ((va_up_ne _ _ (by omega)).trans (Eq.refl _)))
  · have g_9 : xs_i s 0 7 = true := decide_eq_true (xn_b1 c_9)
    obtain ⟨ks, hks, rfl⟩ := xn_pk (m := 7) (by omega) (xn_b1 c_9)
    refine xi_iload_n (q := 13) dX9_whose_12 rfl rfl ?_
    refine xi_i2l (q := 14) dX9_whose_13 rfl ?_
    refine xi_lconst (x := 0) (q := 15) dX9_whose_14 (by decide) rfl ?_
    refine xi_ldc2 (q := 18) dX9_whose_15 kc_X9_207 rfl ?_
    refine xv_cS3 (q := 21) xm_X9_in ln_X9_81 dX9_whose_18 ⟨(Nat.le_of_ble_eq_true rfl), (Nat.le_of_ble_eq_true rfl)⟩ (Nat.le_of_ble_eq_true rfl) ⟨rfl, rfl⟩ rfl (Nat.zero_le _) (Nat.zero_le _) ?_
    refine ⟨b, 0, 2000, rfl, ?_⟩
    refine xi_if_eq (q := 24) (q2 := 37) dX9_whose_21 (by decide) rfl (fun c_21 => ?_) (fun c_21 => ?_)
    · have g_21 : xs_i b 0 2000 = false := decide_eq_false (xn_b0 c_21)
      refine xi_ldc (q := 39) dX9_whose_37 kc_X9_91 rfl ?_
      refine xi_ret ⟨_, rfl, rfl, dX9_whose_39⟩ (Nat.zero_le _) (Nat.zero_le _) ?_
      exact xs_finM (σ' := σ) hp (by simp only [xs_whose, xs_onE, xs_onP, xs_fn, xs_an, Bool.not_false, Bool.not_true, Bool.true_or, Bool.false_or, Bool.and_true, Bool.true_and, Bool.and_false, Bool.false_and, Bool.false_eq_true, if_true, if_false, ↓reduceIte, g_9, g_21, xs_kk0 (k := ks) (by omega)] <;> rfl) _ (xs_Mx (σ' := σ) hM hR (fa := (upd (C 83) 0 0)) ((va_up_self _ _ _).trans rfl) (fun j hj => (pk_un (by omega)).trans (rfl)) ((va_up_ne _ _ (by omega)).trans (xs_M88 hM)) (fun _ _ => rfl) ((va_up_ne _ _ (by omega)).trans (xs_M94 hM)) ((va_up_ne _ _ (by omega)).trans (xs_M95 hM)) ((va_up_ne _ _ (by omega)).trans (xs_M96 hM)) ((va_up_ne _ _ (by omega)).trans (xs_M97 hM)) ((va_up_ne _ _ (by omega)).trans (xs_M98 hM)) ((va_up_ne _ _ (by omega)).trans (xs_M99 hM)) (fun i i1 i2 i3 i4 => ((va_up_ne _ _ (by omega)).trans (Eq.refl _))) (fun _ _ _ => rfl) hR.2) (fun i hi => ((va_up_ne _ _ (by omega)).trans (Eq.refl _)))
    · have g_21 : xs_i b 0 2000 = true := decide_eq_true (xn_b1 c_21)
      refine xi_iload (q := 26) dX9_whose_24 rfl rfl ?_
      refine xi_i2l (q := 27) dX9_whose_26 rfl ?_
      refine xi_lconst (x := 0) (q := 28) dX9_whose_27 (by decide) rfl ?_
      refine xi_ldc2 (q := 31) dX9_whose_28 kc_X9_89 rfl ?_
      refine xv_cS3 (q := 34) xm_X9_in ln_X9_81 dX9_whose_31 ⟨(Nat.le_of_ble_eq_true rfl), (Nat.le_of_ble_eq_true rfl)⟩ (Nat.le_of_ble_eq_true rfl) ⟨rfl, rfl⟩ rfl (Nat.zero_le _) (Nat.zero_le _) ?_
      refine ⟨w, 0, 2, rfl, ?_⟩
      refine xi_if_ne (q := 37) (q2 := 40) dX9_whose_34 (by decide) rfl (fun c_34 => ?_) (fun c_34 => ?_)
      · have g_34 : xs_i w 0 2 = true := decide_eq_true (xn_b1 c_34)
        refine xi_aload_n (q := 41) dX9_whose_40 rfl rfl ?_
        refine xi_getf (q := 44) dX9_whose_41 fl_X9_7 (xv_self (by omega)) rfl rfl ?_
        refine xi_iload_n (q := 45) dX9_whose_44 rfl rfl ?_
        refine xi_iald (q := 46) dX9_whose_45 (xv_keep (by omega) ⟨by omega, (xs_M84 hM)⟩) (xv_ixN (by omega) (by omega)) rfl ?_
        refine xi_if_ge (q := 49) (q2 := 55) dX9_whose_46 (by decide) rfl (fun c_46 => ?_) (fun c_46 => ?_)
        · have y46 : ¬ σ 0 ks 0 = 0 := (xs_ln hV hR (by omega)).1 c_46
          refine xi_iload_n (q := 56) dX9_whose_55 rfl rfl ?_
          refine xi_if_lt (q := 59) (q2 := 76) dX9_whose_56 (by decide) rfl (fun c_56 => ?_) (fun c_56 => ?_)
          · have g_56 : xs_has i 48 (σ 2 ks 0) = false := xn_hasN (fun z => by rw [xn_le] at z; rw [xn_lt] at c_56; omega)
            refine xi_aload_n (q := 77) dX9_whose_76 rfl rfl ?_
            refine xi_iconst (x := 2) (q := 78) dX9_whose_77 (by decide) rfl ?_
            refine xv_cV1 (q := 81) xm_X9_found ln_X9_92 dX9_whose_78 (xv_self (by omega)) rfl ⟨(Nat.le_of_ble_eq_true rfl), (Nat.le_of_ble_eq_true rfl)⟩ (Nat.le_of_ble_eq_true rfl) ⟨rfl, rfl⟩ rfl (Nat.zero_le _) (Nat.zero_le _) ?_
            refine ⟨(upd (C 83) 0 0), dk, 2, rfl, ((va_up_self _ _ _).trans rfl), by omega, fun h78 p78 f78 => ?_⟩
            have Fh78 : ∀ i, i ≠ 83 → h78 i = h i := fun i j83 => (f78 i (by omega)).trans ((va_up_ne _ _ (by omega)).trans (Eq.refl _))
            refine xi_ret ⟨_, rfl, rfl, dX9_whose_81⟩ (Nat.zero_le _) (Nat.zero_le _) ?_
            exact xs_finM (σ' := (xs_fd σ 2)) hp (by simp only [xs_whose, xs_onE, xs_onP, xs_fn, xs_an, Bool.not_false, Bool.not_true, Bool.true_or, Bool.false_or, Bool.and_true, Bool.true_and, Bool.and_false, Bool.false_and, Bool.false_eq_true, if_true, if_false, ↓reduceIte, g_9, g_21, g_34, eq_false y46, g_56, xs_kk0 (k := ks) (by omega)] <;> rfl) _ (xs_Mx (σ' := (xs_fd σ 2)) hM hR (fa := (upd (upd (C 83) 0 0) 1 2)) p78 (fun j hj => (pk_un (by omega)).trans ((pk_un (by omega)).trans (rfl))) ((Fh78 88 (by omega)).trans (xs_M88 hM)) (fun _ _ => rfl) ((Fh78 94 (by omega)).trans (xs_M94 hM)) ((Fh78 95 (by omega)).trans (xs_M95 hM)) ((Fh78 96 (by omega)).trans (xs_M96 hM)) ((Fh78 97 (by omega)).trans (xs_M97 hM)) ((Fh78 98 (by omega)).trans (xs_M98 hM)) ((Fh78 99 (by omega)).trans (xs_M99 hM)) (fun i i1 i2 i3 i4 => (Fh78 i (by omega))) xs_fdo rfl) (fun i hi => (Fh78 i (by omega)))
          · have h0_56 : 0 ≤ i := by rw [xn_le]; rw [xn_lt] at c_56; omega
            refine xi_iload_n (q := 60) dX9_whose_59 rfl rfl ?_
            refine xi_i2l (q := 61) dX9_whose_60 rfl ?_
            refine xi_ldc2 (q := 64) dX9_whose_61 kc_X9_229 rfl ?_
            refine xi_ladd (q := 65) dX9_whose_64 rfl ?_
            refine xi_aload_n (q := 66) dX9_whose_65 rfl rfl ?_
            refine xi_getf (q := 69) dX9_whose_66 fl_X9_13 (xv_self (by omega)) rfl rfl ?_
            refine xi_iload_n (q := 70) dX9_whose_69 rfl rfl ?_
            refine xi_iald (q := 71) dX9_whose_70 (xv_keep (by omega) ⟨by omega, (xs_M85 hM)⟩) (xv_ixN (by omega) (by omega)) rfl ?_
            rw [(hR.1.1 ks (by omega)).2.1]
            refine xi_i2l (q := 72) dX9_whose_71 rfl ?_
            refine xi_lcmp (q := 73) dX9_whose_72 rfl ?_
            refine xi_if_le (q := 76) (q2 := 82) dX9_whose_73 (by decide) rfl (fun c_73 => ?_) (fun c_73 => ?_)
            · have g_73 : xs_has i 48 (σ 2 ks 0) = true := (xn_hasL (k := 48) h0_56 (by decide) (hV.2.1 ks (by omega) y46).1).mp c_73
              obtain ⟨ki, hki, rfl⟩ := xn_hasA (m := 48) (by omega) g_73 (hV.2.1 ks (by omega) y46).1.2
              refine xi_aload_n (q := 83) dX9_whose_82 rfl rfl ?_
              refine xi_iload_n (q := 84) dX9_whose_83 rfl rfl ?_
              refine xi_iload_n (q := 85) dX9_whose_84 rfl rfl ?_
              refine xv_cV2 (q := 88) xm_X9_isCard ln_X9_231 dX9_whose_85 (xv_self (by omega)) rfl ⟨(Nat.le_of_ble_eq_true rfl), (Nat.le_of_ble_eq_true rfl)⟩ (Nat.le_of_ble_eq_true rfl) ⟨rfl, rfl⟩ rfl (Nat.zero_le _) (Nat.zero_le _) ?_
              refine ⟨(upd (C 83) 0 0), dk, C 86, ks, ki, (fun t => σ 3 ks (ki + t)), rfl, ((va_up_self _ _ _).trans rfl), by omega, ((va_up_ne _ _ (by omega)).trans (xs_M86 hM)), by omega, by omega, fun t ht => by rw [show 60 * ks + ki + t = 60 * ks + (ki + t) by omega]; exact (hR.1.1 ks (by omega)).2.2 _ (by omega), ?_⟩
              refine xi_if_ne (q := 91) (q2 := 94) dX9_whose_88 (by decide) rfl (fun c_88 => ?_) (fun c_88 => ?_)
              · have g_88 : xs_all (fun t => decide (-1 ≤ σ 3 ks (ki + t)) && decide (σ 3 ks (ki + t) ≤ 5000)) 48 = true := xn_b1 c_88
                obtain ⟨ci, hci⟩ : ∃ ci : Nat → Int32, ci = (fun t => σ 3 ks (ki + t)) := ⟨_, rfl⟩
                have hcv : ∀ t, t < 48 → C 86 (60 * ks + ki + t) = ci t := fun t ht => by rw [hci, show 60 * ks + ki + t = 60 * ks + (ki + t) by omega]; exact (hR.1.1 ks (by omega)).2.2 _ (by omega)
                have hcm : ∀ t, t < 48 → -1 ≤ (ci t).toInt := fun t ht => by
                  have z := xn_allI g_88 t ht
                  rw [Bool.and_eq_true, decide_eq_true_eq, xn_le] at z
                  rw [hci]
                  exact z.1
                obtain ⟨A, hA⟩ : ∃ A : Nat → Int32 → Int32, A = xs_apt σ b ci := ⟨_, rfl⟩
                refine xi_aload_n (q := 95) dX9_whose_94 rfl rfl ?_
                refine xi_iconst (x := 0) (q := 96) dX9_whose_95 (by decide) rfl ?_
                refine xi_putf (q := 99) dX9_whose_96 fl_X9_75 (xv_self (by omega)) (Or.inl rfl) (fun _ => rfl) (fun _ => rfl) (Nat.le_of_ble_eq_true rfl) rfl ?_
                refine xi_ldc (q := 101) dX9_whose_99 kc_X9_158 rfl ?_
                refine xi_istore (q := 103) dX9_whose_101 (Nat.le_of_ble_eq_true rfl) rfl ?_
                refine xi_ldc (q := 105) dX9_whose_103 kc_X9_158 rfl ?_
                refine xi_istore (q := 107) dX9_whose_105 (Nat.le_of_ble_eq_true rfl) rfl ?_
                refine xi_iconst (x := 0) (q := 108) dX9_whose_107 (by decide) rfl ?_
                refine xi_istore (q := 110) dX9_whose_108 (Nat.le_of_ble_eq_true rfl) rfl ?_
                refine xi_iconst (x := 0) (q := 111) dX9_whose_110 (by decide) rfl ?_
                refine xi_istore (q := 113) dX9_whose_111 (Nat.le_of_ble_eq_true rfl) rfl ?_
                refine xv_weakS (lv' := [(0, .ref 83), (1, .int (nI ks)), (2, .int (nI ki)), (3, .int b), (4, .int w), (5, .int (xs_nou σ A 0).2.2), (6, .int (xs_nou σ A 0).1), (7, .int (xs_wn (xs_nou σ A 0))), (8, .int (nI 0))]) ⟨rfl, rfl, rfl, rfl, rfl, rfl, rfl, rfl, rfl, trivial⟩ ?_
                refine xv_lpH (lv := fun k => [(0, .ref 83), (1, .int (nI ks)), (2, .int (nI ki)), (3, .int b), (4, .int w), (5, .int (xs_nou σ A k).2.2), (6, .int (xs_nou σ A k).1), (7, .int (xs_wn (xs_nou σ A k))), (8, .int (nI k))]) (I := fun k hI => ∃ (dI : Int64) (g94 : Nat → Int32), hI 83 = xs_mo (upd (upd (C 83) 0 0) 1 0) dI ∧ hI 94 = xs_ia 48 g94 ∧ (True) ∧ ∀ i, i ≠ 83 → i ≠ 94 → hI i = h i) (N := 6) (fun k h113 hk I113 ih113 => ?_) 0 _ (by omega) ⟨_, _, ((va_up_self _ _ _).trans rfl), ((va_up_ne _ _ (by omega)).trans ((va_up_ne _ _ (by omega)).trans (xs_M94 hM))), trivial, fun i _ _ => ((va_up_ne _ _ (by omega)).trans ((va_up_ne _ _ (by omega)).trans (Eq.refl _)))⟩
                show xv_V X mX9_whose Post 0 0 113 [(0, .ref 83), (1, .int (nI ks)), (2, .int (nI ki)), (3, .int b), (4, .int w), (5, .int (xs_nou σ A k).2.2), (6, .int (xs_nou σ A k).1), (7, .int (xs_wn (xs_nou σ A k))), (8, .int (nI k))] [] h113 n
                obtain ⟨d113, g94_113, p83_113, p94_113, x113, F113⟩ := I113
                refine xi_iload (q := 115) dX9_whose_113 rfl rfl ?_
                refine xi_bipush (x := 6) (q := 117) dX9_whose_115 (by decide) rfl ?_
                refine xi_icmp_ge (q := 120) (q2 := 252) dX9_whose_117 (by decide) rfl (fun c_117 => ?_) (fun c_117 => ?_)
                · have hk2 : k = 6 := by have z : 6 ≤ k := xn_leN c_117 (by omega) (by omega); omega
                  subst hk2
                  refine xi_iload (q := 254) dX9_whose_252 rfl rfl ?_
                  refine xi_ldc (q := 256) dX9_whose_254 kc_X9_158 rfl ?_
                  refine xi_icmp_ne (q := 259) (q2 := 264) dX9_whose_256 (by decide) rfl (fun c_256 => ?_) (fun c_256 => ?_)
                  · skip
                    refine xi_iload (q := 266) dX9_whose_264 rfl rfl ?_
                    refine xi_if_ne (q := 269) (q2 := 274) dX9_whose_266 (by decide) rfl (fun c_266 => ?_) (fun c_266 => ?_)
                    · skip
                      refine xi_iload (q := 276) dX9_whose_274 rfl rfl ?_
                      refine xi_iconst (x := 1) (q := 277) dX9_whose_276 (by decide) rfl ?_
                      refine xi_icmp_ne (q := 280) (q2 := 285) dX9_whose_277 (by decide) rfl (fun c_277 => ?_) (fun c_277 => ?_)
                      · have eN : xs_sel3 w (xs_nou σ (xs_apt σ b (fun t => σ 3 ks (ki + t))) 6) = (xs_nou σ A 6).2.2 := by rw [← hci, ← hA]; unfold xs_sel3; rw [if_neg c_266, if_neg c_277]
                        refine xi_iload (q := 287) dX9_whose_285 rfl rfl ?_
                        refine xi_ret ⟨_, rfl, rfl, dX9_whose_287⟩ (Nat.zero_le _) (Nat.zero_le _) ?_
                        exact xs_finM (σ' := (xs_fd σ 0)) hp (by simp only [xs_whose, xs_onE, xs_onP, xs_fn, xs_an, Bool.not_false, Bool.not_true, Bool.true_or, Bool.false_or, Bool.and_true, Bool.true_and, Bool.and_false, Bool.false_and, Bool.false_eq_true, if_true, if_false, ↓reduceIte, g_9, g_21, g_34, eq_false y46, g_73, g_88, eN, xs_kk0 (k := ks) (by omega), xs_kk0 (k := ki) (by omega)] <;> rfl) _ (xs_Mx (σ' := (xs_fd σ 0)) hM hR (fa := (upd (upd (C 83) 0 0) 1 0)) p83_113 (fun j hj => (pk_un (by omega)).trans ((pk_un (by omega)).trans (rfl))) ((F113 88 (by omega) (by omega)).trans (xs_M88 hM)) (fun _ _ => rfl) p94_113 ((F113 95 (by omega) (by omega)).trans (xs_M95 hM)) ((F113 96 (by omega) (by omega)).trans (xs_M96 hM)) ((F113 97 (by omega) (by omega)).trans (xs_M97 hM)) ((F113 98 (by omega) (by omega)).trans (xs_M98 hM)) ((F113 99 (by omega) (by omega)).trans (xs_M99 hM)) (fun i i1 i2 i3 i4 => (F113 i (by omega) (by omega))) xs_fdo rfl) (fun i hi => (F113 i (by omega) (by omega)))
                      · have eN : xs_sel3 w (xs_nou σ (xs_apt σ b (fun t => σ 3 ks (ki + t))) 6) = (xs_wn (xs_nou σ A 6)) := by rw [← hci, ← hA]; unfold xs_wn xs_sel3; rw [if_neg c_266, if_pos (show w = 1 from by first | exact c_277 | exact Decidable.of_not_not c_277), if_neg c_256]
                        refine xi_iload (q := 282) dX9_whose_280 rfl rfl ?_
                        refine xi_goto (q := 287) dX9_whose_282 (by decide) ?_
                        refine xi_ret ⟨_, rfl, rfl, dX9_whose_287⟩ (Nat.zero_le _) (Nat.zero_le _) ?_
                        exact xs_finM (σ' := (xs_fd σ 0)) hp (by simp only [xs_whose, xs_onE, xs_onP, xs_fn, xs_an, Bool.not_false, Bool.not_true, Bool.true_or, Bool.false_or, Bool.and_true, Bool.true_and, Bool.and_false, Bool.false_and, Bool.false_eq_true, if_true, if_false, ↓reduceIte, g_9, g_21, g_34, eq_false y46, g_73, g_88, eN, xs_kk0 (k := ks) (by omega), xs_kk0 (k := ki) (by omega)] <;> rfl) _ (xs_Mx (σ' := (xs_fd σ 0)) hM hR (fa := (upd (upd (C 83) 0 0) 1 0)) p83_113 (fun j hj => (pk_un (by omega)).trans ((pk_un (by omega)).trans (rfl))) ((F113 88 (by omega) (by omega)).trans (xs_M88 hM)) (fun _ _ => rfl) p94_113 ((F113 95 (by omega) (by omega)).trans (xs_M95 hM)) ((F113 96 (by omega) (by omega)).trans (xs_M96 hM)) ((F113 97 (by omega) (by omega)).trans (xs_M97 hM)) ((F113 98 (by omega) (by omega)).trans (xs_M98 hM)) ((F113 99 (by omega) (by omega)).trans (xs_M99 hM)) (fun i i1 i2 i3 i4 => (F113 i (by omega) (by omega))) xs_fdo rfl) (fun i hi => (F113 i (by omega) (by omega)))
                    · have eN : xs_sel3 w (xs_nou σ (xs_apt σ b (fun t => σ 3 ks (ki + t))) 6) = (xs_nou σ A 6).1 := by rw [← hci, ← hA]; exact if_pos (by first | exact c_266 | exact Decidable.of_not_not c_266)
                      refine xi_iload (q := 271) dX9_whose_269 rfl rfl ?_
                      refine xi_goto (q := 287) dX9_whose_271 (by decide) ?_
                      refine xi_ret ⟨_, rfl, rfl, dX9_whose_287⟩ (Nat.zero_le _) (Nat.zero_le _) ?_
                      exact xs_finM (σ' := (xs_fd σ 0)) hp (by simp only [xs_whose, xs_onE, xs_onP, xs_fn, xs_an, Bool.not_false, Bool.not_true, Bool.true_or, Bool.false_or, Bool.and_true, Bool.true_and, Bool.and_false, Bool.false_and, Bool.false_eq_true, if_true, if_false, ↓reduceIte, g_9, g_21, g_34, eq_false y46, g_73, g_88, eN, xs_kk0 (k := ks) (by omega), xs_kk0 (k := ki) (by omega)] <;> rfl) _ (xs_Mx (σ' := (xs_fd σ 0)) hM hR (fa := (upd (upd (C 83) 0 0) 1 0)) p83_113 (fun j hj => (pk_un (by omega)).trans ((pk_un (by omega)).trans (rfl))) ((F113 88 (by omega) (by omega)).trans (xs_M88 hM)) (fun _ _ => rfl) p94_113 ((F113 95 (by omega) (by omega)).trans (xs_M95 hM)) ((F113 96 (by omega) (by omega)).trans (xs_M96 hM)) ((F113 97 (by omega) (by omega)).trans (xs_M97 hM)) ((F113 98 (by omega) (by omega)).trans (xs_M98 hM)) ((F113 99 (by omega) (by omega)).trans (xs_M99 hM)) (fun i i1 i2 i3 i4 => (F113 i (by omega) (by omega))) xs_fdo rfl) (fun i hi => (F113 i (by omega) (by omega)))
                  · have eN : xs_sel3 w (xs_nou σ (xs_apt σ b (fun t => σ 3 ks (ki + t))) 6) = -1000000 := by rw [← hci, ← hA]; exact xn_selN (xn_nou 6 (by omega)) (by first | exact c_256 | exact Decidable.of_not_not c_256)
                    refine xi_ldc (q := 261) dX9_whose_259 kc_X9_158 rfl ?_
                    refine xi_goto (q := 287) dX9_whose_261 (by decide) ?_
                    refine xi_ret ⟨_, rfl, rfl, dX9_whose_287⟩ (Nat.zero_le _) (Nat.zero_le _) ?_
                    exact xs_finM (σ' := (xs_fd σ 0)) hp (by simp only [xs_whose, xs_onE, xs_onP, xs_fn, xs_an, Bool.not_false, Bool.not_true, Bool.true_or, Bool.false_or, Bool.and_true, Bool.true_and, Bool.and_false, Bool.false_and, Bool.false_eq_true, if_true, if_false, ↓reduceIte, g_9, g_21, g_34, eq_false y46, g_73, g_88, eN, xs_kk0 (k := ks) (by omega), xs_kk0 (k := ki) (by omega)] <;> rfl) _ (xs_Mx (σ' := (xs_fd σ 0)) hM hR (fa := (upd (upd (C 83) 0 0) 1 0)) p83_113 (fun j hj => (pk_un (by omega)).trans ((pk_un (by omega)).trans (rfl))) ((F113 88 (by omega) (by omega)).trans (xs_M88 hM)) (fun _ _ => rfl) p94_113 ((F113 95 (by omega) (by omega)).trans (xs_M95 hM)) ((F113 96 (by omega) (by omega)).trans (xs_M96 hM)) ((F113 97 (by omega) (by omega)).trans (xs_M97 hM)) ((F113 98 (by omega) (by omega)).trans (xs_M98 hM)) ((F113 99 (by omega) (by omega)).trans (xs_M99 hM)) (fun i i1 i2 i3 i4 => (F113 i (by omega) (by omega))) xs_fdo rfl) (fun i hi => (F113 i (by omega) (by omega)))
                · have hk2 : k < 6 := xn_nleN c_117 (by omega) (by omega)
                  by_cases y120 : σ 6 k 0 = 0
                  · refine xi_bipush (x := (-6)) (q := 122) dX9_whose_120 (by decide) rfl ?_
                    refine xi_istore (q := 124) dX9_whose_122 (Nat.le_of_ble_eq_true rfl) rfl ?_
                    refine xi_iload (q := 126) dX9_whose_124 rfl rfl ?_
                    refine xi_bipush (x := 7) (q := 128) dX9_whose_126 (by decide) rfl ?_
                    refine xi_icmp_ge (q := 131) (q2 := 246) dX9_whose_128 (by decide) rfl (fun c_128 => ?_) (fun c_128 => ?_)
                    · exact absurd c_128 (by decide)
                    · skip
                      refine xi_aload_n (q := 132) dX9_whose_131 rfl rfl ?_
                      refine xi_getf (q := 135) dX9_whose_132 fl_X9_19 ⟨by omega, p83_113⟩ rfl rfl ?_
                      refine xi_iload (q := 137) dX9_whose_135 rfl rfl ?_
                      refine xi_zald (q := 138) dX9_whose_137 ⟨by omega, ((F113 87 (by omega) (by omega)).trans (xs_M87 hM))⟩ (xv_ixN (by omega) (by omega)) rfl ?_
                      refine xi_if_eq (q := 141) (q2 := 246) dX9_whose_138 (by decide) rfl (fun c_138 => ?_) (fun c_138 => ?_)
                      · skip
                        refine xi_iinc (y := nI (k + 1)) (q := 249) dX9_whose_246 rfl (xn_inc k) (Nat.le_of_ble_eq_true rfl) rfl ?_
                        refine xi_goto (q := 113) dX9_whose_249 (by decide) ?_
                        refine xv_weakS (lv' := [(0, .ref 83), (1, .int (nI ks)), (2, .int (nI ki)), (3, .int b), (4, .int w), (5, .int (xs_nou σ A k).2.2), (6, .int (xs_nou σ A k).1), (7, .int (xs_wn (xs_nou σ A k))), (8, .int (nI (k + 1)))]) ⟨rfl, rfl, rfl, rfl, rfl, rfl, rfl, rfl, rfl, trivial⟩ ?_
                        have Q := ih113 _ (by omega) ⟨_, _, p83_113, p94_113, trivial, fun i _ _ => (F113 i (by omega) (by omega))⟩
                        rw [show xs_nou σ A (k + 1) = (xs_nou σ A k) from if_pos y120] at Q
                        exact Q
                      · exact absurd ((xs_ht hR (by omega)).trans y120) c_138
                  · refine xi_bipush (x := (-6)) (q := 122) dX9_whose_120 (by decide) rfl ?_
                    refine xi_istore (q := 124) dX9_whose_122 (Nat.le_of_ble_eq_true rfl) rfl ?_
                    refine xv_weakS (lv' := [(0, .ref 83), (1, .int (nI ks)), (2, .int (nI ki)), (3, .int b), (4, .int w), (5, .int (xs_nin (A k) (nI k) 0 (xs_nou σ A k)).2.2), (6, .int (xs_nin (A k) (nI k) 0 (xs_nou σ A k)).1), (7, .int (xs_wn (xs_nin (A k) (nI k) 0 (xs_nou σ A k)))), (8, .int (nI k)), (9, .int (nI 0 - 6))]) ⟨rfl, rfl, rfl, rfl, rfl, rfl, rfl, rfl, rfl, rfl, trivial⟩ ?_
                    refine xv_lpH (lv := fun j => [(0, .ref 83), (1, .int (nI ks)), (2, .int (nI ki)), (3, .int b), (4, .int w), (5, .int (xs_nin (A k) (nI k) j (xs_nou σ A k)).2.2), (6, .int (xs_nin (A k) (nI k) j (xs_nou σ A k)).1), (7, .int (xs_wn (xs_nin (A k) (nI k) j (xs_nou σ A k)))), (8, .int (nI k)), (9, .int (nI j - 6))]) (I := fun j hI => ∃ (dI : Int64) (g94 : Nat → Int32), hI 83 = xs_mo (upd (upd (C 83) 0 0) 1 0) dI ∧ hI 94 = xs_ia 48 g94 ∧ (True) ∧ ∀ i, i ≠ 83 → i ≠ 94 → hI i = h i) (N := 13) (fun j h124 hj I124 ih124 => ?_) 0 _ (by omega) ⟨_, _, p83_113, p94_113, trivial, fun i _ _ => (F113 i (by omega) (by omega))⟩
                    show xv_V X mX9_whose Post 0 0 124 [(0, .ref 83), (1, .int (nI ks)), (2, .int (nI ki)), (3, .int b), (4, .int w), (5, .int (xs_nin (A k) (nI k) j (xs_nou σ A k)).2.2), (6, .int (xs_nin (A k) (nI k) j (xs_nou σ A k)).1), (7, .int (xs_wn (xs_nin (A k) (nI k) j (xs_nou σ A k)))), (8, .int (nI k)), (9, .int (nI j - 6))] [] h124 n
                    obtain ⟨d124, g94_124, p83_124, p94_124, x124, F124⟩ := I124
                    refine xi_iload (q := 126) dX9_whose_124 rfl rfl ?_
                    refine xi_bipush (x := 7) (q := 128) dX9_whose_126 (by decide) rfl ?_
                    refine xi_icmp_ge (q := 131) (q2 := 246) dX9_whose_128 (by decide) rfl (fun c_128 => ?_) (fun c_128 => ?_)
                    · have hj2 : j = 13 := by
                        have z : 7 ≤ nI j - 6 := c_128
                        rw [xn_le, xn_s6i (by omega), show (7 : Int32).toInt = 7 from rfl] at z
                        omega
                      subst hj2
                      refine xi_iinc (y := nI (k + 1)) (q := 249) dX9_whose_246 rfl (xn_inc k) (Nat.le_of_ble_eq_true rfl) rfl ?_
                      refine xi_goto (q := 113) dX9_whose_249 (by decide) ?_
                      refine xv_weakS (lv' := [(0, .ref 83), (1, .int (nI ks)), (2, .int (nI ki)), (3, .int b), (4, .int w), (5, .int (xs_nin (A k) (nI k) 13 (xs_nou σ A k)).2.2), (6, .int (xs_nin (A k) (nI k) 13 (xs_nou σ A k)).1), (7, .int (xs_wn (xs_nin (A k) (nI k) 13 (xs_nou σ A k)))), (8, .int (nI (k + 1)))]) ⟨rfl, rfl, rfl, rfl, rfl, rfl, rfl, rfl, rfl, trivial⟩ ?_
                      have Q := ih113 _ (by omega) ⟨_, _, p83_124, p94_124, trivial, fun i _ _ => (F124 i (by omega) (by omega))⟩
                      rw [show xs_nou σ A (k + 1) = (xs_nin (A k) (nI k) 13 (xs_nou σ A k)) from if_neg y120] at Q
                      exact Q
                    · have hj2 : j < 13 := by
                        have z : ¬ 7 ≤ nI j - 6 := c_128
                        rw [xn_le, xn_s6i (by omega), show (7 : Int32).toInt = 7 from rfl] at z
                        omega
                      refine xi_aload_n (q := 132) dX9_whose_131 rfl rfl ?_
                      refine xi_getf (q := 135) dX9_whose_132 fl_X9_19 ⟨by omega, p83_124⟩ rfl rfl ?_
                      refine xi_iload (q := 137) dX9_whose_135 rfl rfl ?_
                      refine xi_zald (q := 138) dX9_whose_137 ⟨by omega, ((F124 87 (by omega) (by omega)).trans (xs_M87 hM))⟩ (xv_ixN (by omega) (by omega)) rfl ?_
                      refine xi_if_eq (q := 141) (q2 := 246) dX9_whose_138 (by decide) rfl (fun c_138 => ?_) (fun c_138 => ?_)
                      · exact absurd ((xs_ht hR (by omega)).symm.trans c_138) y120
                      · skip
                        refine xi_aload_n (q := 142) dX9_whose_141 rfl rfl ?_
                        refine xi_iload (q := 144) dX9_whose_142 rfl rfl ?_
                        refine xi_iload (q := 146) dX9_whose_144 rfl rfl ?_
                        refine xi_iload_n (q := 147) dX9_whose_146 rfl rfl ?_
                        refine xi_iconst (x := 4) (q := 148) dX9_whose_147 (by decide) rfl ?_
                        refine xi_iconst (x := 0) (q := 149) dX9_whose_148 (by decide) rfl ?_
                        refine xv_cV5 (q := 152) xm_X9_draw ln_X9_215 dX9_whose_149 ⟨by omega, p83_124⟩ rfl ⟨(Nat.le_of_ble_eq_true rfl), (Nat.le_of_ble_eq_true rfl)⟩ (Nat.le_of_ble_eq_true rfl) ⟨rfl, rfl⟩ rfl (Nat.zero_le _) (Nat.zero_le _) ?_
                        refine ⟨(upd (upd (C 83) 0 0) 1 0), d124, (C 88), k, _, _, _, _, _, rfl, ⟨p83_124, ((F124 88 (by omega) (by omega)).trans (xs_M88 hM)), ((F124 93 (by omega) (by omega)).trans (xs_M93 hM))⟩, by omega, by omega, (xe_ok (xs_hq hR (by omega)) (hV.2.2.2.1 k (by omega) y120).1), p94_124, fun h149 p149 q149 f149 => ?_⟩
                        have Fh149 : ∀ i, i ≠ 83 → i ≠ 94 → h149 i = h i := fun i j83 j94 => (f149 i (by omega) (by omega)).trans (F124 i (by omega) (by omega))
                        obtain ⟨P, hP⟩ : ∃ G : Nat → Int32, G = (fun i => xs_cd (σ 4 k) (σ 5 k 0) (nI j - 6) (b * 4 / 4) 0 i) := ⟨_, rfl⟩
                        replace q149 : h149 94 = xs_ia 48 P := by rw [q149, hP]; exact congrArg (xs_ia 48) (funext fun i => by rw [xs_hs hR (p := k) (by omega), xe_cd (xs_hq hR (p := k) (by omega))])
                        refine xi_iconst (x := 0) (q := 153) dX9_whose_152 (by decide) rfl ?_
                        refine xi_istore (q := 155) dX9_whose_153 (Nat.le_of_ble_eq_true rfl) rfl ?_
                        refine xi_iconst (x := 0) (q := 156) dX9_whose_155 (by decide) rfl ?_
                        refine xi_istore (q := 158) dX9_whose_156 (Nat.le_of_ble_eq_true rfl) rfl ?_
                        refine xv_weakS (lv' := [(0, .ref 83), (1, .int (nI ks)), (2, .int (nI ki)), (3, .int b), (4, .int w), (5, .int (xs_nin (A k) (nI k) j (xs_nou σ A k)).2.2), (6, .int (xs_nin (A k) (nI k) j (xs_nou σ A k)).1), (7, .int (xs_wn (xs_nin (A k) (nI k) j (xs_nou σ A k)))), (8, .int (nI k)), (9, .int (nI j - 6)), (10, .int (xs_ps (xs_ap1 ci P) 0)), (11, .int (nI 0))]) ⟨rfl, rfl, rfl, rfl, rfl, rfl, rfl, rfl, rfl, rfl, rfl, rfl, trivial⟩ ?_
                        refine xv_lp (lv := fun i => [(0, .ref 83), (1, .int (nI ks)), (2, .int (nI ki)), (3, .int b), (4, .int w), (5, .int (xs_nin (A k) (nI k) j (xs_nou σ A k)).2.2), (6, .int (xs_nin (A k) (nI k) j (xs_nou σ A k)).1), (7, .int (xs_wn (xs_nin (A k) (nI k) j (xs_nou σ A k)))), (8, .int (nI k)), (9, .int (nI j - 6)), (10, .int (xs_ps (xs_ap1 ci P) i)), (11, .int (nI i))]) (N := 48) (k0 := 0) (by omega) (fun i hi ih158 => ?_)
                        show xv_V X mX9_whose Post 0 0 158 [(0, .ref 83), (1, .int (nI ks)), (2, .int (nI ki)), (3, .int b), (4, .int w), (5, .int (xs_nin (A k) (nI k) j (xs_nou σ A k)).2.2), (6, .int (xs_nin (A k) (nI k) j (xs_nou σ A k)).1), (7, .int (xs_wn (xs_nin (A k) (nI k) j (xs_nou σ A k)))), (8, .int (nI k)), (9, .int (nI j - 6)), (10, .int (xs_ps (xs_ap1 ci P) i)), (11, .int (nI i))] [] _ n
                        refine xi_iload (q := 160) dX9_whose_158 rfl rfl ?_
                        refine xi_bipush (x := 48) (q := 162) dX9_whose_160 (by decide) rfl ?_
                        refine xi_icmp_ge (q := 165) (q2 := 214) dX9_whose_162 (by decide) rfl (fun c_162 => ?_) (fun c_162 => ?_)
                        · have hi3 : i = 48 := by have z : 48 ≤ i := xn_leN c_162 (by omega) (by omega); omega
                          subst hi3
                          rw [show xs_ps (xs_ap1 ci P) 48 = A k (nI j - 6) from by rw [hA, hP]; rfl]
                          refine xi_iload (q := 216) dX9_whose_214 rfl rfl ?_
                          refine xi_ldc (q := 218) dX9_whose_216 kc_X9_158 rfl ?_
                          refine xi_icmp_eq (q := 221) (q2 := 228) dX9_whose_218 (by decide) rfl (fun c_218 => ?_) (fun c_218 => ?_)
                          · skip
                            refine xi_iload (q := 230) dX9_whose_228 rfl rfl ?_
                            refine xi_istore (q := 232) dX9_whose_230 (Nat.le_of_ble_eq_true rfl) rfl ?_
                            refine xi_iload (q := 234) dX9_whose_232 rfl rfl ?_
                            refine xi_istore (q := 236) dX9_whose_234 (Nat.le_of_ble_eq_true rfl) rfl ?_
                            refine xi_iload (q := 238) dX9_whose_236 rfl rfl ?_
                            refine xi_istore (q := 240) dX9_whose_238 (Nat.le_of_ble_eq_true rfl) rfl ?_
                            refine xi_iinc (q := 243) dX9_whose_240 rfl rfl (Nat.le_of_ble_eq_true rfl) rfl ?_
                            rw [xn_s6]
                            refine xi_goto (q := 124) dX9_whose_243 (by decide) ?_
                            refine xv_weakS (lv' := [(0, .ref 83), (1, .int (nI ks)), (2, .int (nI ki)), (3, .int b), (4, .int w), (5, .int ((nI k, nI j - 6, A k (nI j - 6)) : xs_3).2.2), (6, .int ((nI k, nI j - 6, A k (nI j - 6)) : xs_3).1), (7, .int (nI j - 6)), (8, .int (nI k)), (9, .int (nI (j + 1) - 6))]) ⟨rfl, rfl, rfl, rfl, rfl, rfl, rfl, rfl, rfl, rfl, trivial⟩ ?_
                            have Q := ih124 _ (by omega) ⟨_, _, p149, q149, trivial, fun i _ _ => (Fh149 i (by omega) (by omega))⟩
                            rw [show xs_nin (A k) (nI k) (j + 1) (xs_nou σ A k) = ((nI k, nI j - 6, A k (nI j - 6)) : xs_3) from xn_nstT (Or.inl c_218), show xs_wn ((nI k, nI j - 6, A k (nI j - 6)) : xs_3) = nI j - 6 from if_neg (xn_pN (by omega))] at Q
                            exact Q
                          · skip
                            refine xi_iload (q := 223) dX9_whose_221 rfl rfl ?_
                            refine xi_iload (q := 225) dX9_whose_223 rfl rfl ?_
                            refine xi_icmp_ge (q := 228) (q2 := 240) dX9_whose_225 (by decide) rfl (fun c_225 => ?_) (fun c_225 => ?_)
                            · skip
                              refine xi_iinc (q := 243) dX9_whose_240 rfl rfl (Nat.le_of_ble_eq_true rfl) rfl ?_
                              rw [xn_s6]
                              refine xi_goto (q := 124) dX9_whose_243 (by decide) ?_
                              refine xv_weakS (lv' := [(0, .ref 83), (1, .int (nI ks)), (2, .int (nI ki)), (3, .int b), (4, .int w), (5, .int (xs_nin (A k) (nI k) j (xs_nou σ A k)).2.2), (6, .int (xs_nin (A k) (nI k) j (xs_nou σ A k)).1), (7, .int (xs_wn (xs_nin (A k) (nI k) j (xs_nou σ A k)))), (8, .int (nI k)), (9, .int (nI (j + 1) - 6))]) ⟨rfl, rfl, rfl, rfl, rfl, rfl, rfl, rfl, rfl, rfl, trivial⟩ ?_
                              have Q := ih124 _ (by omega) ⟨_, _, p149, q149, trivial, fun i _ _ => (Fh149 i (by omega) (by omega))⟩
                              rw [show xs_nin (A k) (nI k) (j + 1) (xs_nou σ A k) = (xs_nin (A k) (nI k) j (xs_nou σ A k)) from xn_nstK c_218 c_225] at Q
                              exact Q
                            · skip
                              refine xi_iload (q := 230) dX9_whose_228 rfl rfl ?_
                              refine xi_istore (q := 232) dX9_whose_230 (Nat.le_of_ble_eq_true rfl) rfl ?_
                              refine xi_iload (q := 234) dX9_whose_232 rfl rfl ?_
                              refine xi_istore (q := 236) dX9_whose_234 (Nat.le_of_ble_eq_true rfl) rfl ?_
                              refine xi_iload (q := 238) dX9_whose_236 rfl rfl ?_
                              refine xi_istore (q := 240) dX9_whose_238 (Nat.le_of_ble_eq_true rfl) rfl ?_
                              refine xi_iinc (q := 243) dX9_whose_240 rfl rfl (Nat.le_of_ble_eq_true rfl) rfl ?_
                              rw [xn_s6]
                              refine xi_goto (q := 124) dX9_whose_243 (by decide) ?_
                              refine xv_weakS (lv' := [(0, .ref 83), (1, .int (nI ks)), (2, .int (nI ki)), (3, .int b), (4, .int w), (5, .int ((nI k, nI j - 6, A k (nI j - 6)) : xs_3).2.2), (6, .int ((nI k, nI j - 6, A k (nI j - 6)) : xs_3).1), (7, .int (nI j - 6)), (8, .int (nI k)), (9, .int (nI (j + 1) - 6))]) ⟨rfl, rfl, rfl, rfl, rfl, rfl, rfl, rfl, rfl, rfl, trivial⟩ ?_
                              have Q := ih124 _ (by omega) ⟨_, _, p149, q149, trivial, fun i _ _ => (Fh149 i (by omega) (by omega))⟩
                              rw [show xs_nin (A k) (nI k) (j + 1) (xs_nou σ A k) = ((nI k, nI j - 6, A k (nI j - 6)) : xs_3) from xn_nstT (Or.inr c_225), show xs_wn ((nI k, nI j - 6, A k (nI j - 6)) : xs_3) = nI j - 6 from if_neg (xn_pN (by omega))] at Q
                              exact Q
                        · have hi2 : i < 48 := xn_nleN c_162 (by omega) (by omega)
                          refine xi_aload_n (q := 166) dX9_whose_165 rfl rfl ?_
                          refine xi_getf (q := 169) dX9_whose_166 fl_X9_16 ⟨by omega, p149⟩ rfl rfl ?_
                          refine xi_bipush (x := 60) (q := 171) dX9_whose_169 (by decide) rfl ?_
                          refine xi_iload_n (q := 172) dX9_whose_171 rfl rfl ?_
                          refine xi_imul (q := 173) dX9_whose_172 rfl ?_
                          refine xi_iload_n (q := 174) dX9_whose_173 rfl rfl ?_
                          refine xi_iadd (q := 175) dX9_whose_174 rfl ?_
                          refine xi_iload (q := 177) dX9_whose_175 rfl rfl ?_
                          refine xi_iadd (q := 178) dX9_whose_177 rfl ?_
                          refine xi_iald (q := 179) dX9_whose_178 ⟨by omega, ((Fh149 86 (by omega) (by omega)).trans (xs_M86 hM))⟩ (by rw [show (60 * nI ks + nI ki + nI i : Int32) = nI (60 * ks + ki + i) by rw [show (60 * nI ks : Int32) = nI (60 * ks) from pk_mul 60 ks, nI_add, nI_add]]; exact xv_ixN (by omega) (by omega)) rfl ?_
                          rw [hcv i hi2]
                          refine xi_istore (q := 181) dX9_whose_179 (Nat.le_of_ble_eq_true rfl) rfl ?_
                          refine xi_iload (q := 183) dX9_whose_181 rfl rfl ?_
                          refine xi_iload (q := 185) dX9_whose_183 rfl rfl ?_
                          refine xi_if_ge (q := 188) (q2 := 192) dX9_whose_185 (by decide) rfl (fun c_185 => ?_) (fun c_185 => ?_)
                          · skip
                            refine xi_aload_n (q := 193) dX9_whose_192 rfl rfl ?_
                            refine xi_getf (q := 196) dX9_whose_193 fl_X9_41 ⟨by omega, p149⟩ rfl rfl ?_
                            refine xi_iload (q := 198) dX9_whose_196 rfl rfl ?_
                            refine xi_iald (q := 199) dX9_whose_198 ⟨by omega, q149⟩ (xv_ixN hi2 (by omega)) rfl ?_
                            refine xi_iload (q := 201) dX9_whose_199 rfl rfl ?_
                            refine xi_isub (q := 202) dX9_whose_201 rfl ?_
                            refine xv_cS1 (q := 205) xm_X9_size ln_X9_234 dX9_whose_202 ⟨(Nat.le_of_ble_eq_true rfl), (Nat.le_of_ble_eq_true rfl)⟩ (Nat.le_of_ble_eq_true rfl) ⟨rfl, rfl⟩ rfl (Nat.zero_le _) (Nat.zero_le _) ?_
                            refine ⟨_, rfl, ?_⟩
                            refine xi_iadd (q := 206) dX9_whose_205 rfl ?_
                            refine xi_istore (q := 208) dX9_whose_206 (Nat.le_of_ble_eq_true rfl) rfl ?_
                            refine xi_iinc (y := nI (i + 1)) (q := 211) dX9_whose_208 rfl (xn_inc i) (Nat.le_of_ble_eq_true rfl) rfl ?_
                            refine xi_goto (q := 158) dX9_whose_211 (by decide) ?_
                            rw [xs_psS (xs_ap1 ci P) i (xn_ap1 c_185)]
                            refine xv_weakS (lv' := [(0, .ref 83), (1, .int (nI ks)), (2, .int (nI ki)), (3, .int b), (4, .int w), (5, .int (xs_nin (A k) (nI k) j (xs_nou σ A k)).2.2), (6, .int (xs_nin (A k) (nI k) j (xs_nou σ A k)).1), (7, .int (xs_wn (xs_nin (A k) (nI k) j (xs_nou σ A k)))), (8, .int (nI k)), (9, .int (nI j - 6)), (10, .int (xs_ps (xs_ap1 ci P) (i + 1))), (11, .int (nI (i + 1)))]) ⟨rfl, rfl, rfl, rfl, rfl, rfl, rfl, rfl, rfl, rfl, rfl, rfl, trivial⟩ ?_
                            exact ih158 (by omega)
                          · skip
                            refine xi_iconst (x := 0) (q := 189) dX9_whose_188 (by decide) rfl ?_
                            refine xi_goto (q := 205) dX9_whose_189 (by decide) ?_
                            refine xi_iadd (q := 206) dX9_whose_205 rfl ?_
                            refine xi_istore (q := 208) dX9_whose_206 (Nat.le_of_ble_eq_true rfl) rfl ?_
                            refine xi_iinc (y := nI (i + 1)) (q := 211) dX9_whose_208 rfl (xn_inc i) (Nat.le_of_ble_eq_true rfl) rfl ?_
                            refine xi_goto (q := 158) dX9_whose_211 (by decide) ?_
                            rw [xs_psS (xs_ap1 ci P) i (xn_ap0 (hcm i hi2) c_185)]
                            refine xv_weakS (lv' := [(0, .ref 83), (1, .int (nI ks)), (2, .int (nI ki)), (3, .int b), (4, .int w), (5, .int (xs_nin (A k) (nI k) j (xs_nou σ A k)).2.2), (6, .int (xs_nin (A k) (nI k) j (xs_nou σ A k)).1), (7, .int (xs_wn (xs_nin (A k) (nI k) j (xs_nou σ A k)))), (8, .int (nI k)), (9, .int (nI j - 6)), (10, .int (xs_ps (xs_ap1 ci P) (i + 1))), (11, .int (nI (i + 1)))]) ⟨rfl, rfl, rfl, rfl, rfl, rfl, rfl, rfl, rfl, rfl, rfl, rfl, trivial⟩ ?_
                            exact ih158 (by omega)
              · have g_88 : xs_all (fun t => decide (-1 ≤ σ 3 ks (ki + t)) && decide (σ 3 ks (ki + t) ≤ 5000)) 48 = false := Bool.eq_false_iff.mpr (xn_b0 c_88)
                refine xi_ldc (q := 93) dX9_whose_91 kc_X9_91 rfl ?_
                refine xi_ret ⟨_, rfl, rfl, dX9_whose_93⟩ (Nat.zero_le _) (Nat.zero_le _) ?_
                exact xs_finM (σ' := σ) hp (by simp only [xs_whose, xs_onE, xs_onP, xs_fn, xs_an, Bool.not_false, Bool.not_true, Bool.true_or, Bool.false_or, Bool.and_true, Bool.true_and, Bool.and_false, Bool.false_and, Bool.false_eq_true, if_true, if_false, ↓reduceIte, g_9, g_21, g_34, eq_false y46, g_73, g_88, xs_kk0 (k := ks) (by omega), xs_kk0 (k := ki) (by omega)] <;> rfl) _ (xs_Mx (σ' := σ) hM hR (fa := (upd (C 83) 0 0)) ((va_up_self _ _ _).trans rfl) (fun j hj => (pk_un (by omega)).trans (rfl)) ((va_up_ne _ _ (by omega)).trans (xs_M88 hM)) (fun _ _ => rfl) ((va_up_ne _ _ (by omega)).trans (xs_M94 hM)) ((va_up_ne _ _ (by omega)).trans (xs_M95 hM)) ((va_up_ne _ _ (by omega)).trans (xs_M96 hM)) ((va_up_ne _ _ (by omega)).trans (xs_M97 hM)) ((va_up_ne _ _ (by omega)).trans (xs_M98 hM)) ((va_up_ne _ _ (by omega)).trans (xs_M99 hM)) (fun i i1 i2 i3 i4 => ((va_up_ne _ _ (by omega)).trans (Eq.refl _))) (fun _ _ _ => rfl) hR.2) (fun i hi => ((va_up_ne _ _ (by omega)).trans (Eq.refl _)))
            · have g_73 : xs_has i 48 (σ 2 ks 0) = false := Bool.eq_false_iff.mpr (fun z => c_73 ((xn_hasL (k := 48) h0_56 (by decide) (hV.2.1 ks (by omega) y46).1).mpr z))
              refine xi_aload_n (q := 77) dX9_whose_76 rfl rfl ?_
              refine xi_iconst (x := 2) (q := 78) dX9_whose_77 (by decide) rfl ?_
              refine xv_cV1 (q := 81) xm_X9_found ln_X9_92 dX9_whose_78 (xv_self (by omega)) rfl ⟨(Nat.le_of_ble_eq_true rfl), (Nat.le_of_ble_eq_true rfl)⟩ (Nat.le_of_ble_eq_true rfl) ⟨rfl, rfl⟩ rfl (Nat.zero_le _) (Nat.zero_le _) ?_
              refine ⟨(upd (C 83) 0 0), dk, 2, rfl, ((va_up_self _ _ _).trans rfl), by omega, fun h78 p78 f78 => ?_⟩
              have Fh78 : ∀ i, i ≠ 83 → h78 i = h i := fun i j83 => (f78 i (by omega)).trans ((va_up_ne _ _ (by omega)).trans (Eq.refl _))
              refine xi_ret ⟨_, rfl, rfl, dX9_whose_81⟩ (Nat.zero_le _) (Nat.zero_le _) ?_
              exact xs_finM (σ' := (xs_fd σ 2)) hp (by simp only [xs_whose, xs_onE, xs_onP, xs_fn, xs_an, Bool.not_false, Bool.not_true, Bool.true_or, Bool.false_or, Bool.and_true, Bool.true_and, Bool.and_false, Bool.false_and, Bool.false_eq_true, if_true, if_false, ↓reduceIte, g_9, g_21, g_34, eq_false y46, g_73, xs_kk0 (k := ks) (by omega)] <;> rfl) _ (xs_Mx (σ' := (xs_fd σ 2)) hM hR (fa := (upd (upd (C 83) 0 0) 1 2)) p78 (fun j hj => (pk_un (by omega)).trans ((pk_un (by omega)).trans (rfl))) ((Fh78 88 (by omega)).trans (xs_M88 hM)) (fun _ _ => rfl) ((Fh78 94 (by omega)).trans (xs_M94 hM)) ((Fh78 95 (by omega)).trans (xs_M95 hM)) ((Fh78 96 (by omega)).trans (xs_M96 hM)) ((Fh78 97 (by omega)).trans (xs_M97 hM)) ((Fh78 98 (by omega)).trans (xs_M98 hM)) ((Fh78 99 (by omega)).trans (xs_M99 hM)) (fun i i1 i2 i3 i4 => (Fh78 i (by omega))) xs_fdo rfl) (fun i hi => (Fh78 i (by omega)))
        · have y46 : σ 0 ks 0 = 0 := (xs_ln hV hR (by omega)).2 c_46
          refine xi_aload_n (q := 50) dX9_whose_49 rfl rfl ?_
          refine xi_iconst (x := 1) (q := 51) dX9_whose_50 (by decide) rfl ?_
          refine xv_cV1 (q := 54) xm_X9_found ln_X9_92 dX9_whose_51 (xv_self (by omega)) rfl ⟨(Nat.le_of_ble_eq_true rfl), (Nat.le_of_ble_eq_true rfl)⟩ (Nat.le_of_ble_eq_true rfl) ⟨rfl, rfl⟩ rfl (Nat.zero_le _) (Nat.zero_le _) ?_
          refine ⟨(upd (C 83) 0 0), dk, 1, rfl, ((va_up_self _ _ _).trans rfl), by omega, fun h51 p51 f51 => ?_⟩
          have Fh51 : ∀ i, i ≠ 83 → h51 i = h i := fun i j83 => (f51 i (by omega)).trans ((va_up_ne _ _ (by omega)).trans (Eq.refl _))
          refine xi_ret ⟨_, rfl, rfl, dX9_whose_54⟩ (Nat.zero_le _) (Nat.zero_le _) ?_
          exact xs_finM (σ' := (xs_fd σ 1)) hp (by simp only [xs_whose, xs_onE, xs_onP, xs_fn, xs_an, Bool.not_false, Bool.not_true, Bool.true_or, Bool.false_or, Bool.and_true, Bool.true_and, Bool.and_false, Bool.false_and, Bool.false_eq_true, if_true, if_false, ↓reduceIte, g_9, g_21, g_34, eq_true y46, xs_kk0 (k := ks) (by omega)] <;> rfl) _ (xs_Mx (σ' := (xs_fd σ 1)) hM hR (fa := (upd (upd (C 83) 0 0) 1 1)) p51 (fun j hj => (pk_un (by omega)).trans ((pk_un (by omega)).trans (rfl))) ((Fh51 88 (by omega)).trans (xs_M88 hM)) (fun _ _ => rfl) ((Fh51 94 (by omega)).trans (xs_M94 hM)) ((Fh51 95 (by omega)).trans (xs_M95 hM)) ((Fh51 96 (by omega)).trans (xs_M96 hM)) ((Fh51 97 (by omega)).trans (xs_M97 hM)) ((Fh51 98 (by omega)).trans (xs_M98 hM)) ((Fh51 99 (by omega)).trans (xs_M99 hM)) (fun i i1 i2 i3 i4 => (Fh51 i (by omega))) xs_fdo rfl) (fun i hi => (Fh51 i (by omega)))
      · have g_34 : xs_i w 0 2 = false := decide_eq_false (xn_b0 c_34)
        refine xi_ldc (q := 39) dX9_whose_37 kc_X9_91 rfl ?_
        refine xi_ret ⟨_, rfl, rfl, dX9_whose_39⟩ (Nat.zero_le _) (Nat.zero_le _) ?_
        exact xs_finM (σ' := σ) hp (by simp only [xs_whose, xs_onE, xs_onP, xs_fn, xs_an, Bool.not_false, Bool.not_true, Bool.true_or, Bool.false_or, Bool.and_true, Bool.true_and, Bool.and_false, Bool.false_and, Bool.false_eq_true, if_true, if_false, ↓reduceIte, g_9, g_21, g_34, xs_kk0 (k := ks) (by omega)] <;> rfl) _ (xs_Mx (σ' := σ) hM hR (fa := (upd (C 83) 0 0)) ((va_up_self _ _ _).trans rfl) (fun j hj => (pk_un (by omega)).trans (rfl)) ((va_up_ne _ _ (by omega)).trans (xs_M88 hM)) (fun _ _ => rfl) ((va_up_ne _ _ (by omega)).trans (xs_M94 hM)) ((va_up_ne _ _ (by omega)).trans (xs_M95 hM)) ((va_up_ne _ _ (by omega)).trans (xs_M96 hM)) ((va_up_ne _ _ (by omega)).trans (xs_M97 hM)) ((va_up_ne _ _ (by omega)).trans (xs_M98 hM)) ((va_up_ne _ _ (by omega)).trans (xs_M99 hM)) (fun i i1 i2 i3 i4 => ((va_up_ne _ _ (by omega)).trans (Eq.refl _))) (fun _ _ _ => rfl) hR.2) (fun i hi => ((va_up_ne _ _ (by omega)).trans (Eq.refl _)))

