theorem xn_rd0 {ci : Nat → Int32} {k : Nat} (h0 : -1 ≤ (ci k).toInt) (h : ci k < 0) : xs_rd1 ci k = 0 := by
  unfold xs_rd1
  rw [if_pos (by rw [xn_lt, show (0 : Int32).toInt = 0 from rfl] at h; rw [xn_eq, show (-1 : Int32).toInt = -1 from rfl]; omega)]
theorem xn_rd1 {ci : Nat → Int32} {k : Nat} (h : ¬ ci k < 0) : xs_rd1 ci k = 1 := by
  unfold xs_rd1
  rw [if_neg (fun z => h (by rw [z]; decide))]
set_option maxRecDepth 20000 in
set_option maxHeartbeats 2000000 in
/-- engine -/
theorem xm_X9_engine : xv_K yX9_engine mX9_engine (fun as h n Post => ∃ (σ : xs_Sg) (p : Int32) (s : Int32) (i : Int32), as = [.ref 83, .int p, .int s, .int i] ∧ (xs_Mo h σ) ∧ (103 < n) ∧ (xs_V σ) ∧ xs_DM h n Post (xs_engine σ p s i)) := by
  refine xv_entry (by decide +kernel) rfl (fun h => absurd h (by decide)) ?_
  rintro X _ h n Post ⟨σ, p, s, i, rfl, ⟨C, dk, hM, hR⟩, h103, hV, hp⟩
  refine ⟨Nat.le_of_ble_eq_true rfl, ?_⟩
  show xv_V X mX9_engine Post 0 0 0 [(0, .ref 83), (1, .int p), (2, .int s), (3, .int i)] [] h n
  refine xi_aload_n (q := 1) dX9_engine_0 rfl rfl ?_
  refine xi_iconst (x := 0) (q := 2) dX9_engine_1 (by decide) rfl ?_
  refine xi_putf (q := 5) dX9_engine_2 fl_X9_71 ⟨by omega, (xs_M83 hM)⟩ (Or.inl rfl) (fun _ => rfl) (fun _ => rfl) (Nat.le_of_ble_eq_true rfl) rfl ?_
  refine xi_iload_n (q := 6) dX9_engine_5 rfl rfl ?_
  refine xv_cS1 (q := 9) xm_X9_isPlace ln_X9_116 dX9_engine_6 ⟨(Nat.le_of_ble_eq_true rfl), (Nat.le_of_ble_eq_true rfl)⟩ (Nat.le_of_ble_eq_true rfl) ⟨rfl, rfl⟩ rfl (Nat.zero_le _) (Nat.zero_le _) ?_
  refine ⟨_, rfl, ?_⟩
  refine xi_if_eq (q := 12) (q2 := 19) dX9_engine_9 (by decide) rfl (fun c_9 => ?_) (fun c_9 => ?_)
  · have g_9 : xs_i p 0 5 = false := decide_eq_false (xn_b0 c_9)
    refine xi_ldc (q := 21) dX9_engine_19 kc_X9_91 rfl ?_
    refine xi_ret ⟨_, rfl, rfl, dX9_engine_21⟩ (Nat.zero_le _) (Nat.zero_le _) ?_
    exact xs_finM (σ' := σ) hp (by simp only [xs_engine, xs_onE, xs_onP, xs_fn, xs_an, Bool.not_false, Bool.not_true, Bool.true_or, Bool.false_or, Bool.and_true, Bool.true_and, Bool.and_false, Bool.false_and, Bool.false_eq_true, if_true, if_false, ↓reduceIte, g_9] <;> rfl) _ (xs_Mx (σ' := σ) hM hR (fa := (upd (C 83) 0 0)) ((va_up_self _ _ _).trans rfl) (fun j hj => (pk_un (by omega)).trans (rfl)) ((va_up_ne _ _ (by omega)).trans (xs_M88 hM)) (fun _ _ => rfl) ((va_up_ne _ _ (by omega)).trans (xs_M94 hM)) ((va_up_ne _ _ (by omega)).trans (xs_M95 hM)) ((va_up_ne _ _ (by omega)).trans (xs_M96 hM)) ((va_up_ne _ _ (by omega)).trans (xs_M97 hM)) ((va_up_ne _ _ (by omega)).trans (xs_M98 hM)) ((va_up_ne _ _ (by omega)).trans (xs_M99 hM)) (fun i i1 i2 i3 i4 => ((va_up_ne _ _ (by omega)).trans (Eq.refl _))) (fun _ _ _ => rfl) hR.2) (fun i hi => ((va_up_ne _ _ (by omega)).trans (Eq.refl _)))
  · have g_9 : xs_i p 0 5 = true := decide_eq_true (xn_b1 c_9)
    obtain ⟨kp, hkp, rfl⟩ := xn_pk (m := 5) (by omega) (xn_b1 c_9)
    refine xi_iload_n (q := 13) dX9_engine_12 rfl rfl ?_
    refine xv_cS1 (q := 16) xm_X9_isSheet ln_X9_85 dX9_engine_13 ⟨(Nat.le_of_ble_eq_true rfl), (Nat.le_of_ble_eq_true rfl)⟩ (Nat.le_of_ble_eq_true rfl) ⟨rfl, rfl⟩ rfl (Nat.zero_le _) (Nat.zero_le _) ?_
    refine ⟨_, rfl, ?_⟩
    refine xi_if_ne (q := 19) (q2 := 22) dX9_engine_16 (by decide) rfl (fun c_16 => ?_) (fun c_16 => ?_)
    · have g_16 : xs_i s 0 7 = true := decide_eq_true (xn_b1 c_16)
      obtain ⟨ks, hks, rfl⟩ := xn_pk (m := 7) (by omega) (xn_b1 c_16)
      refine xi_aload_n (q := 23) dX9_engine_22 rfl rfl ?_
      refine xi_getf (q := 26) dX9_engine_23 fl_X9_7 (xv_self (by omega)) rfl rfl ?_
      refine xi_iload_n (q := 27) dX9_engine_26 rfl rfl ?_
      refine xi_iald (q := 28) dX9_engine_27 (xv_keep (by omega) ⟨by omega, (xs_M84 hM)⟩) (xv_ixN (by omega) (by omega)) rfl ?_
      refine xi_if_ge (q := 31) (q2 := 37) dX9_engine_28 (by decide) rfl (fun c_28 => ?_) (fun c_28 => ?_)
      · have y28 : ¬ σ 0 ks 0 = 0 := (xs_ln hV hR (by omega)).1 c_28
        refine xi_iload_n (q := 38) dX9_engine_37 rfl rfl ?_
        refine xi_if_lt (q := 41) (q2 := 58) dX9_engine_38 (by decide) rfl (fun c_38 => ?_) (fun c_38 => ?_)
        · have g_38 : xs_has i 11 (σ 2 ks 0) = false := xn_hasN (fun z => by rw [xn_le] at z; rw [xn_lt] at c_38; omega)
          refine xi_aload_n (q := 59) dX9_engine_58 rfl rfl ?_
          refine xi_iconst (x := 2) (q := 60) dX9_engine_59 (by decide) rfl ?_
          refine xv_cV1 (q := 63) xm_X9_found ln_X9_92 dX9_engine_60 (xv_self (by omega)) rfl ⟨(Nat.le_of_ble_eq_true rfl), (Nat.le_of_ble_eq_true rfl)⟩ (Nat.le_of_ble_eq_true rfl) ⟨rfl, rfl⟩ rfl (Nat.zero_le _) (Nat.zero_le _) ?_
          refine ⟨(upd (C 83) 0 0), dk, 2, rfl, ((va_up_self _ _ _).trans rfl), by omega, fun h60 p60 f60 => ?_⟩
          have Fh60 : ∀ i, i ≠ 83 → h60 i = h i := fun i j83 => (f60 i (by omega)).trans ((va_up_ne _ _ (by omega)).trans (Eq.refl _))
          refine xi_ret ⟨_, rfl, rfl, dX9_engine_63⟩ (Nat.zero_le _) (Nat.zero_le _) ?_
          exact xs_finM (σ' := (xs_fd σ 2)) hp (by simp only [xs_engine, xs_onE, xs_onP, xs_fn, xs_an, Bool.not_false, Bool.not_true, Bool.true_or, Bool.false_or, Bool.and_true, Bool.true_and, Bool.and_false, Bool.false_and, Bool.false_eq_true, if_true, if_false, ↓reduceIte, g_9, g_16, eq_false y28, g_38, xs_kk0 (k := kp) (by omega), xs_kk0 (k := ks) (by omega)] <;> rfl) _ (xs_Mx (σ' := (xs_fd σ 2)) hM hR (fa := (upd (upd (C 83) 0 0) 1 2)) p60 (fun j hj => (pk_un (by omega)).trans ((pk_un (by omega)).trans (rfl))) ((Fh60 88 (by omega)).trans (xs_M88 hM)) (fun _ _ => rfl) ((Fh60 94 (by omega)).trans (xs_M94 hM)) ((Fh60 95 (by omega)).trans (xs_M95 hM)) ((Fh60 96 (by omega)).trans (xs_M96 hM)) ((Fh60 97 (by omega)).trans (xs_M97 hM)) ((Fh60 98 (by omega)).trans (xs_M98 hM)) ((Fh60 99 (by omega)).trans (xs_M99 hM)) (fun i i1 i2 i3 i4 => (Fh60 i (by omega))) xs_fdo rfl) (fun i hi => (Fh60 i (by omega)))
        · have h0_38 : 0 ≤ i := by rw [xn_le]; rw [xn_lt] at c_38; omega
          refine xi_iload_n (q := 42) dX9_engine_41 rfl rfl ?_
          refine xi_i2l (q := 43) dX9_engine_42 rfl ?_
          refine xi_ldc2 (q := 46) dX9_engine_43 kc_X9_106 rfl ?_
          refine xi_ladd (q := 47) dX9_engine_46 rfl ?_
          refine xi_aload_n (q := 48) dX9_engine_47 rfl rfl ?_
          refine xi_getf (q := 51) dX9_engine_48 fl_X9_13 (xv_self (by omega)) rfl rfl ?_
          refine xi_iload_n (q := 52) dX9_engine_51 rfl rfl ?_
          refine xi_iald (q := 53) dX9_engine_52 (xv_keep (by omega) ⟨by omega, (xs_M85 hM)⟩) (xv_ixN (by omega) (by omega)) rfl ?_
          rw [(hR.1.1 ks (by omega)).2.1]
          refine xi_i2l (q := 54) dX9_engine_53 rfl ?_
          refine xi_lcmp (q := 55) dX9_engine_54 rfl ?_
          refine xi_if_le (q := 58) (q2 := 64) dX9_engine_55 (by decide) rfl (fun c_55 => ?_) (fun c_55 => ?_)
          · have g_55 : xs_has i 11 (σ 2 ks 0) = true := (xn_hasL (k := 11) h0_38 (by decide) (hV.2.1 ks (by omega) y28).1).mp c_55
            obtain ⟨ki, hki, rfl⟩ := xn_hasA (m := 11) (by omega) g_55 (hV.2.1 ks (by omega) y28).1.2
            refine xi_iconst (x := 0) (q := 65) dX9_engine_64 (by decide) rfl ?_
            refine xi_istore (q := 67) dX9_engine_65 (Nat.le_of_ble_eq_true rfl) rfl ?_
            refine xv_weakS (lv' := [(0, .ref 83), (1, .int (nI kp)), (2, .int (nI ks)), (3, .int (nI ki)), (4, .int (nI 0))]) ⟨rfl, rfl, rfl, rfl, rfl, trivial⟩ ?_
            refine xv_lpH (lv := fun k => [(0, .ref 83), (1, .int (nI kp)), (2, .int (nI ks)), (3, .int (nI ki)), (4, .int (nI k))]) (I := fun k hI => ∃ (dI : Int64), hI 83 = xs_mo (upd (C 83) 0 0) dI ∧ (∀ t, t < k → (fun t => xs_isNb (nI t) (σ 3 ks (ki + t))) t = true) ∧ ∀ i, i ≠ 83 → hI i = h i) (N := 11) (fun k h67 hk I67 ih67 => ?_) 0 _ (by omega) ⟨_, ((va_up_self _ _ _).trans rfl), (fun t ht => absurd ht (by omega)), fun i _ => ((va_up_ne _ _ (by omega)).trans (Eq.refl _))⟩
            show xv_V X mX9_engine Post 0 0 67 [(0, .ref 83), (1, .int (nI kp)), (2, .int (nI ks)), (3, .int (nI ki)), (4, .int (nI k))] [] h67 n
            obtain ⟨d67, p83_67, x67, F67⟩ := I67
            refine xi_iload (q := 69) dX9_engine_67 rfl rfl ?_
            refine xi_bipush (x := 11) (q := 71) dX9_engine_69 (by decide) rfl ?_
            refine xi_icmp_ge (q := 74) (q2 := 105) dX9_engine_71 (by decide) rfl (fun c_71 => ?_) (fun c_71 => ?_)
            · have hk2 : k = 11 := by have z : 11 ≤ k := xn_leN c_71 (by omega) (by omega); omega
              subst hk2
              have gf : xs_all (fun t => xs_isNb (nI t) (σ 3 ks (ki + t))) 11 = true := xn_allT x67
              refine xi_aload_n (q := 106) dX9_engine_105 rfl rfl ?_
              refine xi_iconst (x := 0) (q := 107) dX9_engine_106 (by decide) rfl ?_
              refine xi_putf (q := 110) dX9_engine_107 fl_X9_75 ⟨by omega, p83_67⟩ (Or.inl rfl) (fun _ => rfl) (fun _ => rfl) (Nat.le_of_ble_eq_true rfl) rfl ?_
              refine xi_aload_n (q := 111) dX9_engine_110 rfl rfl ?_
              refine xi_getf (q := 114) dX9_engine_111 fl_X9_19 (xv_self (by omega)) rfl rfl ?_
              refine xi_iload_n (q := 115) dX9_engine_114 rfl rfl ?_
              refine xi_iconst (x := 1) (q := 116) dX9_engine_115 (by decide) rfl ?_
              refine xi_zast (q := 117) dX9_engine_116 (xv_keep (by omega) ⟨by omega, ((F67 87 (by omega)).trans (xs_M87 hM))⟩) (xv_ixN (by omega) (by omega)) rfl rfl ?_
              refine xi_aload_n (q := 118) dX9_engine_117 rfl rfl ?_
              refine xi_getf (q := 121) dX9_engine_118 fl_X9_26 (xv_keep (by omega) (xv_self (by omega))) rfl rfl ?_
              refine xi_iload_n (q := 122) dX9_engine_121 rfl rfl ?_
              refine xi_iconst (x := 0) (q := 123) dX9_engine_122 (by decide) rfl ?_
              refine xi_zast (q := 124) dX9_engine_123 (xv_keep (by omega) (xv_keep (by omega) ⟨by omega, ((F67 89 (by omega)).trans (xs_M89 hM))⟩)) (xv_ixN (by omega) (by omega)) rfl rfl ?_
              refine xi_iconst (x := 0) (q := 125) dX9_engine_124 (by decide) rfl ?_
              refine xi_istore (q := 127) dX9_engine_125 (Nat.le_of_ble_eq_true rfl) rfl ?_
              refine xv_weakS (lv' := [(0, .ref 83), (1, .int (nI kp)), (2, .int (nI ks)), (3, .int (nI ki)), (4, .int (nI 0))]) ⟨rfl, rfl, rfl, rfl, rfl, trivial⟩ ?_
              refine xv_lpH (lv := fun k => [(0, .ref 83), (1, .int (nI kp)), (2, .int (nI ks)), (3, .int (nI ki)), (4, .int (nI k))]) (I := fun k hI => ∃ (dI : Int64) (g88 : Nat → Int32), hI 83 = xs_mo (upd (upd (C 83) 0 0) 1 0) dI ∧ hI 87 = xs_zb 7 (upd (C 87) kp 1) ∧ hI 88 = xs_ia 84 g88 ∧ hI 89 = xs_zb 6 (upd (C 89) kp 0) ∧ (∀ x, x < 84 → g88 x = if 12 * kp ≤ x ∧ x < 12 * kp + k then σ 3 ks (ki + (x - 12 * kp)) else C 88 x) ∧ ∀ i, i ≠ 83 → i ≠ 87 → i ≠ 88 → i ≠ 89 → hI i = h i) (N := 11) (fun k h127 hk I127 ih127 => ?_) 0 _ (by omega) ⟨_, _, ((va_up_ne _ _ (by omega)).trans ((va_up_ne _ _ (by omega)).trans ((va_up_self _ _ _).trans rfl))), ((va_up_ne _ _ (by omega)).trans ((va_up_self _ _ _).trans rfl)), ((va_up_ne _ _ (by omega)).trans ((va_up_ne _ _ (by omega)).trans ((va_up_ne _ _ (by omega)).trans ((F67 88 (by omega)).trans (xs_M88 hM))))), ((va_up_self _ _ _).trans rfl), (fun x hx => (if_neg (by omega)).symm), fun i _ _ _ _ => ((va_up_ne _ _ (by omega)).trans ((va_up_ne _ _ (by omega)).trans ((va_up_ne _ _ (by omega)).trans (F67 i (by omega)))))⟩
              show xv_V X mX9_engine Post 0 0 127 [(0, .ref 83), (1, .int (nI kp)), (2, .int (nI ks)), (3, .int (nI ki)), (4, .int (nI k))] [] h127 n
              obtain ⟨d127, g88_127, p83_127, p87_127, p88_127, p89_127, x127, F127⟩ := I127
              refine xi_iload (q := 129) dX9_engine_127 rfl rfl ?_
              refine xi_bipush (x := 11) (q := 131) dX9_engine_129 (by decide) rfl ?_
              refine xi_icmp_ge (q := 134) (q2 := 166) dX9_engine_131 (by decide) rfl (fun c_131 => ?_) (fun c_131 => ?_)
              · have hk2 : k = 11 := by have z : 11 ≤ k := xn_leN c_131 (by omega) (by omega); omega
                subst hk2
                refine xi_aload_n (q := 167) dX9_engine_166 rfl rfl ?_
                refine xi_getf (q := 170) dX9_engine_167 fl_X9_23 ⟨by omega, p83_127⟩ rfl rfl ?_
                refine xi_bipush (x := 12) (q := 172) dX9_engine_170 (by decide) rfl ?_
                refine xi_iload_n (q := 173) dX9_engine_172 rfl rfl ?_
                refine xi_imul (q := 174) dX9_engine_173 rfl ?_
                refine xi_bipush (x := 11) (q := 176) dX9_engine_174 (by decide) rfl ?_
                refine xi_iadd (q := 177) dX9_engine_176 rfl ?_
                refine xi_iconst (x := 0) (q := 178) dX9_engine_177 (by decide) rfl ?_
                refine xi_iast (q := 179) dX9_engine_178 ⟨by omega, p88_127⟩ (xn_ix12 (j := 11) (p := kp) (by omega) (by omega)) rfl ?_
                refine xi_iconst (x := 1) (q := 180) dX9_engine_179 (by decide) rfl ?_
                refine xi_ret ⟨_, rfl, rfl, dX9_engine_180⟩ (Nat.zero_le _) (Nat.zero_le _) ?_
                exact xs_finM (σ' := (xs_fd (xs_ca (xs_en σ kp (fun t => σ 3 ks (ki + t)) 0 1) kp 0 (σ 8 kp 0) (σ 9 kp 0) (σ 10 kp)) 0)) hp (by simp only [xs_engine, xs_onE, xs_onP, xs_fn, xs_an, Bool.not_false, Bool.not_true, Bool.true_or, Bool.false_or, Bool.and_true, Bool.true_and, Bool.and_false, Bool.false_and, Bool.false_eq_true, if_true, if_false, ↓reduceIte, g_9, g_16, eq_false y28, g_55, gf, xs_kk0 (k := kp) (by omega), xs_kk0 (k := ks) (by omega), xs_kk0 (k := ki) (by omega)] <;> rfl) _ ⟨(xs_cu (xs_cu (xs_cu (xs_cu C 83 (upd (upd (C 83) 0 0) 1 0)) 88 (upd g88_127 (12 * kp + 11) 0)) 87 (upd (C 87) kp 1)) 89 (upd (C 89) kp 0)), _, ⟨((va_up_ne _ _ (by omega)).trans p83_127), ((va_up_ne _ _ (by omega)).trans ((F127 84 (by omega) (by omega) (by omega) (by omega)).trans (xs_M84 (C := C) hM))), ((va_up_ne _ _ (by omega)).trans ((F127 85 (by omega) (by omega) (by omega) (by omega)).trans (xs_M85 (C := C) hM))), ((va_up_ne _ _ (by omega)).trans ((F127 86 (by omega) (by omega) (by omega) (by omega)).trans (xs_M86 (C := C) hM))), ((va_up_ne _ _ (by omega)).trans p87_127), ((va_up_self _ _ _).trans rfl), ((va_up_ne _ _ (by omega)).trans p89_127), ((va_up_ne _ _ (by omega)).trans ((F127 90 (by omega) (by omega) (by omega) (by omega)).trans (xs_M90 (C := C) hM))), ((va_up_ne _ _ (by omega)).trans ((F127 91 (by omega) (by omega) (by omega) (by omega)).trans (xs_M91 (C := C) hM))), ((va_up_ne _ _ (by omega)).trans ((F127 92 (by omega) (by omega) (by omega) (by omega)).trans (xs_M92 (C := C) hM))), ((va_up_ne _ _ (by omega)).trans ((F127 93 (by omega) (by omega) (by omega) (by omega)).trans (xs_M93 (C := C) hM))), ((va_up_ne _ _ (by omega)).trans ((F127 94 (by omega) (by omega) (by omega) (by omega)).trans (xs_M94 (C := C) hM))), ((va_up_ne _ _ (by omega)).trans ((F127 95 (by omega) (by omega) (by omega) (by omega)).trans (xs_M95 (C := C) hM))), ((va_up_ne _ _ (by omega)).trans ((F127 96 (by omega) (by omega) (by omega) (by omega)).trans (xs_M96 (C := C) hM))), ((va_up_ne _ _ (by omega)).trans ((F127 97 (by omega) (by omega) (by omega) (by omega)).trans (xs_M97 (C := C) hM))), ((va_up_ne _ _ (by omega)).trans ((F127 98 (by omega) (by omega) (by omega) (by omega)).trans (xs_M98 (C := C) hM))), ((va_up_ne _ _ (by omega)).trans ((F127 99 (by omega) (by omega) (by omega) (by omega)).trans (xs_M99 (C := C) hM))), ((va_up_ne _ _ (by omega)).trans ((F127 100 (by omega) (by omega) (by omega) (by omega)).trans (xs_M100 (C := C) hM))), ((va_up_ne _ _ (by omega)).trans ((F127 101 (by omega) (by omega) (by omega) (by omega)).trans (xs_M101 (C := C) hM))), ((va_up_ne _ _ (by omega)).trans ((F127 102 (by omega) (by omega) (by omega) (by omega)).trans (xs_M102 (C := C) hM))), ((va_up_ne _ _ (by omega)).trans ((F127 103 (by omega) (by omega) (by omega) (by omega)).trans (xs_M103 (C := C) hM)))⟩, ⟨xs_Rfd (xs_Rca (C := (xs_cu (xs_cu (xs_cu (xs_cu (xs_cu C 83 (upd (upd (C 83) 0 0) 1 0)) 88 (upd g88_127 (12 * kp + 11) 0)) 87 (upd (C 87) kp 1)) 89 (upd (C 89) kp 0)) 89 (C 89))) (j := kp) (kp := 0) (xs_Ren (C' := (xs_cu (xs_cu (xs_cu (xs_cu (xs_cu C 83 (upd (upd (C 83) 0 0) 1 0)) 88 (upd g88_127 (12 * kp + 11) 0)) 87 (upd (C 87) kp 1)) 89 (upd (C 89) kp 0)) 89 (C 89))) (j := kp) (nf := fun t => σ 3 ks (ki + t)) (s := 0) (t := 1) hR.1 (fun p hp => rfl) (fun x hx => by
                          show (upd g88_127 (12 * kp + 11) 0) (12 * kp + x) = _
                          rw [pk_un (by omega), x127 _ (by omega), if_pos (by omega), show 12 * kp + x - 12 * kp = x by omega]) pk_us (fun x hx hx2 => by
                          show (upd g88_127 (12 * kp + 11) 0) x = _
                          rw [pk_un (by omega), x127 _ (by omega), if_neg (by omega)]) (fun i hi => (pk_un (by omega)).trans ((pk_un (by omega)).trans (rfl))) (fun i hi i1 i2 i3 => by
                          by_cases e : i = 89
                          · rw [e]; rfl
                          · rw [xs_cuo e, xs_cuo e, xs_cuo (by omega), xs_cuo (by omega), xs_cuo (by omega)])) (fun p hp => rfl) (fun p hp => by
                          by_cases e : p = kp
                          · rw [if_pos e, e]; exact (hR.1.2.2.1 kp (by omega)).2.1
                          · rw [if_neg e]; rfl) (fun p hp => by
                          by_cases e : p = kp
                          · rw [if_pos e, e]; exact (hR.1.2.2.1 kp (by omega)).2.2.1
                          · rw [if_neg e]; rfl) (fun k hk => (hR.1.2.2.1 kp (by omega)).2.2.2 k hk) (fun p k hp hpk hk => rfl) (fun _ _ => rfl) (fun _ _ => rfl) (fun i hi i1 i2 => (xs_cuo (by omega)).symm)), rfl⟩⟩ (fun i hi => ((va_up_ne _ _ (by omega)).trans (F127 i (by omega) (by omega) (by omega) (by omega))))
              · have hk2 : k < 11 := xn_nleN c_131 (by omega) (by omega)
                refine xi_aload_n (q := 135) dX9_engine_134 rfl rfl ?_
                refine xi_getf (q := 138) dX9_engine_135 fl_X9_23 ⟨by omega, p83_127⟩ rfl rfl ?_
                refine xi_bipush (x := 12) (q := 140) dX9_engine_138 (by decide) rfl ?_
                refine xi_iload_n (q := 141) dX9_engine_140 rfl rfl ?_
                refine xi_imul (q := 142) dX9_engine_141 rfl ?_
                refine xi_iload (q := 144) dX9_engine_142 rfl rfl ?_
                refine xi_iadd (q := 145) dX9_engine_144 rfl ?_
                refine xi_aload_n (q := 146) dX9_engine_145 rfl rfl ?_
                refine xi_getf (q := 149) dX9_engine_146 fl_X9_16 ⟨by omega, p83_127⟩ rfl rfl ?_
                refine xi_bipush (x := 60) (q := 151) dX9_engine_149 (by decide) rfl ?_
                refine xi_iload_n (q := 152) dX9_engine_151 rfl rfl ?_
                refine xi_imul (q := 153) dX9_engine_152 rfl ?_
                refine xi_iload_n (q := 154) dX9_engine_153 rfl rfl ?_
                refine xi_iadd (q := 155) dX9_engine_154 rfl ?_
                refine xi_iload (q := 157) dX9_engine_155 rfl rfl ?_
                refine xi_iadd (q := 158) dX9_engine_157 rfl ?_
                refine xi_iald (q := 159) dX9_engine_158 ⟨by omega, ((F127 86 (by omega) (by omega) (by omega) (by omega)).trans (xs_M86 hM))⟩ (by rw [show (60 * nI ks + nI ki + nI k : Int32) = nI (60 * ks + ki + k) by rw [show (60 * nI ks : Int32) = nI (60 * ks) from pk_mul 60 ks, nI_add, nI_add]]; exact xv_ixN (by omega) (by omega)) rfl ?_
                rw [show C 86 (60 * ks + ki + k) = σ 3 ks (ki + k) from by rw [show 60 * ks + ki + k = 60 * ks + (ki + k) by omega]; exact (hR.1.1 ks (by omega)).2.2 _ (by omega)]
                refine xi_iast (q := 160) dX9_engine_159 ⟨by omega, p88_127⟩ (xn_ixM (a := 12) (p := kp) (k := k) (by omega) (by omega)) rfl ?_
                refine xi_iinc (y := nI (k + 1)) (q := 163) dX9_engine_160 rfl (xn_inc k) (Nat.le_of_ble_eq_true rfl) rfl ?_
                refine xi_goto (q := 127) dX9_engine_163 (by decide) ?_
                refine xv_weakS (lv' := [(0, .ref 83), (1, .int (nI kp)), (2, .int (nI ks)), (3, .int (nI ki)), (4, .int (nI (k + 1)))]) ⟨rfl, rfl, rfl, rfl, rfl, trivial⟩ ?_
                exact ih127 _ (by omega) ⟨_, _, ((va_up_ne _ _ (by omega)).trans p83_127), ((va_up_ne _ _ (by omega)).trans p87_127), ((va_up_self _ _ _).trans rfl), ((va_up_ne _ _ (by omega)).trans p89_127), (fun x hx => by
                      by_cases e : x = 12 * kp + k
                      · rw [e, pk_us, if_pos (by omega), show 12 * kp + k - 12 * kp = k by omega]
                      · rw [pk_un e, x127 x hx]
                        by_cases y : 12 * kp ≤ x ∧ x < 12 * kp + k
                        · rw [if_pos y, if_pos (by omega)]
                        · rw [if_neg y, if_neg (by omega)]), fun i _ _ _ _ => ((va_up_ne _ _ (by omega)).trans (F127 i (by omega) (by omega) (by omega) (by omega)))⟩
            · have hk2 : k < 11 := xn_nleN c_71 (by omega) (by omega)
              refine xi_iload (q := 76) dX9_engine_74 rfl rfl ?_
              refine xi_aload_n (q := 77) dX9_engine_76 rfl rfl ?_
              refine xi_getf (q := 80) dX9_engine_77 fl_X9_16 ⟨by omega, p83_67⟩ rfl rfl ?_
              refine xi_bipush (x := 60) (q := 82) dX9_engine_80 (by decide) rfl ?_
              refine xi_iload_n (q := 83) dX9_engine_82 rfl rfl ?_
              refine xi_imul (q := 84) dX9_engine_83 rfl ?_
              refine xi_iload_n (q := 85) dX9_engine_84 rfl rfl ?_
              refine xi_iadd (q := 86) dX9_engine_85 rfl ?_
              refine xi_iload (q := 88) dX9_engine_86 rfl rfl ?_
              refine xi_iadd (q := 89) dX9_engine_88 rfl ?_
              refine xi_iald (q := 90) dX9_engine_89 ⟨by omega, ((F67 86 (by omega)).trans (xs_M86 hM))⟩ (by rw [show (60 * nI ks + nI ki + nI k : Int32) = nI (60 * ks + ki + k) by rw [show (60 * nI ks : Int32) = nI (60 * ks) from pk_mul 60 ks, nI_add, nI_add]]; exact xv_ixN (by omega) (by omega)) rfl ?_
              rw [show C 86 (60 * ks + ki + k) = σ 3 ks (ki + k) from by rw [show 60 * ks + ki + k = 60 * ks + (ki + k) by omega]; exact (hR.1.1 ks (by omega)).2.2 _ (by omega)]
              refine xv_cS2 (q := 93) xm_X9_isNumber ln_X9_119 dX9_engine_90 ⟨(Nat.le_of_ble_eq_true rfl), (Nat.le_of_ble_eq_true rfl)⟩ (Nat.le_of_ble_eq_true rfl) ⟨rfl, rfl⟩ rfl (Nat.zero_le _) (Nat.zero_le _) ?_
              refine ⟨_, _, rfl, ?_⟩
              refine xi_if_ne (q := 96) (q2 := 99) dX9_engine_93 (by decide) rfl (fun c_93 => ?_) (fun c_93 => ?_)
              · have f93 : (fun t => xs_isNb (nI t) (σ 3 ks (ki + t))) k = true := xn_b1 c_93
                refine xi_iinc (y := nI (k + 1)) (q := 102) dX9_engine_99 rfl (xn_inc k) (Nat.le_of_ble_eq_true rfl) rfl ?_
                refine xi_goto (q := 67) dX9_engine_102 (by decide) ?_
                refine xv_weakS (lv' := [(0, .ref 83), (1, .int (nI kp)), (2, .int (nI ks)), (3, .int (nI ki)), (4, .int (nI (k + 1)))]) ⟨rfl, rfl, rfl, rfl, rfl, trivial⟩ ?_
                exact ih67 _ (by omega) ⟨_, p83_67, (fun t ht => by
                      rcases Nat.lt_or_ge t k with z | z
                      · exact x67 t z
                      · rw [show t = k by omega]; exact f93), fun i _ => (F67 i (by omega))⟩
              · have gf : xs_all (fun t => xs_isNb (nI t) (σ 3 ks (ki + t))) 11 = false := xn_allF (i := k) (Bool.eq_false_iff.mpr (xn_b0 c_93)) (by omega)
                refine xi_ldc (q := 98) dX9_engine_96 kc_X9_91 rfl ?_
                refine xi_ret ⟨_, rfl, rfl, dX9_engine_98⟩ (Nat.zero_le _) (Nat.zero_le _) ?_
                exact xs_finM (σ' := σ) hp (by simp only [xs_engine, xs_onE, xs_onP, xs_fn, xs_an, Bool.not_false, Bool.not_true, Bool.true_or, Bool.false_or, Bool.and_true, Bool.true_and, Bool.and_false, Bool.false_and, Bool.false_eq_true, if_true, if_false, ↓reduceIte, g_9, g_16, eq_false y28, g_55, gf, xs_kk0 (k := kp) (by omega), xs_kk0 (k := ks) (by omega), xs_kk0 (k := ki) (by omega)] <;> rfl) _ (xs_Mx (σ' := σ) hM hR (fa := (upd (C 83) 0 0)) p83_67 (fun j hj => (pk_un (by omega)).trans (rfl)) ((F67 88 (by omega)).trans (xs_M88 hM)) (fun _ _ => rfl) ((F67 94 (by omega)).trans (xs_M94 hM)) ((F67 95 (by omega)).trans (xs_M95 hM)) ((F67 96 (by omega)).trans (xs_M96 hM)) ((F67 97 (by omega)).trans (xs_M97 hM)) ((F67 98 (by omega)).trans (xs_M98 hM)) ((F67 99 (by omega)).trans (xs_M99 hM)) (fun i i1 i2 i3 i4 => (F67 i (by omega))) (fun _ _ _ => rfl) hR.2) (fun i hi => (F67 i (by omega)))
          · have g_55 : xs_has i 11 (σ 2 ks 0) = false := Bool.eq_false_iff.mpr (fun z => c_55 ((xn_hasL (k := 11) h0_38 (by decide) (hV.2.1 ks (by omega) y28).1).mpr z))
            refine xi_aload_n (q := 59) dX9_engine_58 rfl rfl ?_
            refine xi_iconst (x := 2) (q := 60) dX9_engine_59 (by decide) rfl ?_
            refine xv_cV1 (q := 63) xm_X9_found ln_X9_92 dX9_engine_60 (xv_self (by omega)) rfl ⟨(Nat.le_of_ble_eq_true rfl), (Nat.le_of_ble_eq_true rfl)⟩ (Nat.le_of_ble_eq_true rfl) ⟨rfl, rfl⟩ rfl (Nat.zero_le _) (Nat.zero_le _) ?_
            refine ⟨(upd (C 83) 0 0), dk, 2, rfl, ((va_up_self _ _ _).trans rfl), by omega, fun h60 p60 f60 => ?_⟩
            have Fh60 : ∀ i, i ≠ 83 → h60 i = h i := fun i j83 => (f60 i (by omega)).trans ((va_up_ne _ _ (by omega)).trans (Eq.refl _))
            refine xi_ret ⟨_, rfl, rfl, dX9_engine_63⟩ (Nat.zero_le _) (Nat.zero_le _) ?_
            exact xs_finM (σ' := (xs_fd σ 2)) hp (by simp only [xs_engine, xs_onE, xs_onP, xs_fn, xs_an, Bool.not_false, Bool.not_true, Bool.true_or, Bool.false_or, Bool.and_true, Bool.true_and, Bool.and_false, Bool.false_and, Bool.false_eq_true, if_true, if_false, ↓reduceIte, g_9, g_16, eq_false y28, g_55, xs_kk0 (k := kp) (by omega), xs_kk0 (k := ks) (by omega)] <;> rfl) _ (xs_Mx (σ' := (xs_fd σ 2)) hM hR (fa := (upd (upd (C 83) 0 0) 1 2)) p60 (fun j hj => (pk_un (by omega)).trans ((pk_un (by omega)).trans (rfl))) ((Fh60 88 (by omega)).trans (xs_M88 hM)) (fun _ _ => rfl) ((Fh60 94 (by omega)).trans (xs_M94 hM)) ((Fh60 95 (by omega)).trans (xs_M95 hM)) ((Fh60 96 (by omega)).trans (xs_M96 hM)) ((Fh60 97 (by omega)).trans (xs_M97 hM)) ((Fh60 98 (by omega)).trans (xs_M98 hM)) ((Fh60 99 (by omega)).trans (xs_M99 hM)) (fun i i1 i2 i3 i4 => (Fh60 i (by omega))) xs_fdo rfl) (fun i hi => (Fh60 i (by omega)))
      · have y28 : σ 0 ks 0 = 0 := (xs_ln hV hR (by omega)).2 c_28
        refine xi_aload_n (q := 32) dX9_engine_31 rfl rfl ?_
        refine xi_iconst (x := 1) (q := 33) dX9_engine_32 (by decide) rfl ?_
        refine xv_cV1 (q := 36) xm_X9_found ln_X9_92 dX9_engine_33 (xv_self (by omega)) rfl ⟨(Nat.le_of_ble_eq_true rfl), (Nat.le_of_ble_eq_true rfl)⟩ (Nat.le_of_ble_eq_true rfl) ⟨rfl, rfl⟩ rfl (Nat.zero_le _) (Nat.zero_le _) ?_
        refine ⟨(upd (C 83) 0 0), dk, 1, rfl, ((va_up_self _ _ _).trans rfl), by omega, fun h33 p33 f33 => ?_⟩
        have Fh33 : ∀ i, i ≠ 83 → h33 i = h i := fun i j83 => (f33 i (by omega)).trans ((va_up_ne _ _ (by omega)).trans (Eq.refl _))
        refine xi_ret ⟨_, rfl, rfl, dX9_engine_36⟩ (Nat.zero_le _) (Nat.zero_le _) ?_
        exact xs_finM (σ' := (xs_fd σ 1)) hp (by simp only [xs_engine, xs_onE, xs_onP, xs_fn, xs_an, Bool.not_false, Bool.not_true, Bool.true_or, Bool.false_or, Bool.and_true, Bool.true_and, Bool.and_false, Bool.false_and, Bool.false_eq_true, if_true, if_false, ↓reduceIte, g_9, g_16, eq_true y28, xs_kk0 (k := kp) (by omega), xs_kk0 (k := ks) (by omega)] <;> rfl) _ (xs_Mx (σ' := (xs_fd σ 1)) hM hR (fa := (upd (upd (C 83) 0 0) 1 1)) p33 (fun j hj => (pk_un (by omega)).trans ((pk_un (by omega)).trans (rfl))) ((Fh33 88 (by omega)).trans (xs_M88 hM)) (fun _ _ => rfl) ((Fh33 94 (by omega)).trans (xs_M94 hM)) ((Fh33 95 (by omega)).trans (xs_M95 hM)) ((Fh33 96 (by omega)).trans (xs_M96 hM)) ((Fh33 97 (by omega)).trans (xs_M97 hM)) ((Fh33 98 (by omega)).trans (xs_M98 hM)) ((Fh33 99 (by omega)).trans (xs_M99 hM)) (fun i i1 i2 i3 i4 => (Fh33 i (by omega))) xs_fdo rfl) (fun i hi => (Fh33 i (by omega)))
    · have g_16 : xs_i s 0 7 = false := decide_eq_false (xn_b0 c_16)
      refine xi_ldc (q := 21) dX9_engine_19 kc_X9_91 rfl ?_
      refine xi_ret ⟨_, rfl, rfl, dX9_engine_21⟩ (Nat.zero_le _) (Nat.zero_le _) ?_
      exact xs_finM (σ' := σ) hp (by simp only [xs_engine, xs_onE, xs_onP, xs_fn, xs_an, Bool.not_false, Bool.not_true, Bool.true_or, Bool.false_or, Bool.and_true, Bool.true_and, Bool.and_false, Bool.false_and, Bool.false_eq_true, if_true, if_false, ↓reduceIte, g_9, g_16, xs_kk0 (k := kp) (by omega)] <;> rfl) _ (xs_Mx (σ' := σ) hM hR (fa := (upd (C 83) 0 0)) ((va_up_self _ _ _).trans rfl) (fun j hj => (pk_un (by omega)).trans (rfl)) ((va_up_ne _ _ (by omega)).trans (xs_M88 hM)) (fun _ _ => rfl) ((va_up_ne _ _ (by omega)).trans (xs_M94 hM)) ((va_up_ne _ _ (by omega)).trans (xs_M95 hM)) ((va_up_ne _ _ (by omega)).trans (xs_M96 hM)) ((va_up_ne _ _ (by omega)).trans (xs_M97 hM)) ((va_up_ne _ _ (by omega)).trans (xs_M98 hM)) ((va_up_ne _ _ (by omega)).trans (xs_M99 hM)) (fun i i1 i2 i3 i4 => ((va_up_ne _ _ (by omega)).trans (Eq.refl _))) (fun _ _ _ => rfl) hR.2) (fun i hi => ((va_up_ne _ _ (by omega)).trans (Eq.refl _)))

set_option maxRecDepth 20000 in
set_option maxHeartbeats 2000000 in
/-- find -/
theorem xm_X9_find : xv_K yX9_find mX9_find (fun as h n Post => ∃ (σ : xs_Sg) (p : Int32) (m : Int32) (b : Int32) (s : Int32) (i : Int32), as = [.ref 83, .int p, .int m, .int b, .int s, .int i] ∧ (xs_Mo h σ) ∧ (103 < n) ∧ (xs_V σ) ∧ xs_DM h n Post (xs_find1 σ p m b s i)) := by
  refine xv_entry (by decide +kernel) rfl (fun h => absurd h (by decide)) ?_
  rintro X _ h n Post ⟨σ, p, m, b, s, i, rfl, ⟨C, dk, hM, hR⟩, h103, hV, hp⟩
  refine ⟨Nat.le_of_ble_eq_true rfl, ?_⟩
  show xv_V X mX9_find Post 0 0 0 [(0, .ref 83), (1, .int p), (2, .int m), (3, .int b), (4, .int s), (5, .int i)] [] h n
  refine xi_aload_n (q := 1) dX9_find_0 rfl rfl ?_
  refine xi_iconst (x := 0) (q := 2) dX9_find_1 (by decide) rfl ?_
  refine xi_putf (q := 5) dX9_find_2 fl_X9_71 ⟨by omega, (xs_M83 hM)⟩ (Or.inl rfl) (fun _ => rfl) (fun _ => rfl) (Nat.le_of_ble_eq_true rfl) rfl ?_
  refine xi_iload_n (q := 6) dX9_find_5 rfl rfl ?_
  refine xv_cS1 (q := 9) xm_X9_isPlace ln_X9_116 dX9_find_6 ⟨(Nat.le_of_ble_eq_true rfl), (Nat.le_of_ble_eq_true rfl)⟩ (Nat.le_of_ble_eq_true rfl) ⟨rfl, rfl⟩ rfl (Nat.zero_le _) (Nat.zero_le _) ?_
  refine ⟨_, rfl, ?_⟩
  refine xi_if_eq (q := 12) (q2 := 39) dX9_find_9 (by decide) rfl (fun c_9 => ?_) (fun c_9 => ?_)
  · have g_9 : xs_i p 0 5 = false := decide_eq_false (xn_b0 c_9)
    refine xi_ldc (q := 41) dX9_find_39 kc_X9_91 rfl ?_
    refine xi_ret ⟨_, rfl, rfl, dX9_find_41⟩ (Nat.zero_le _) (Nat.zero_le _) ?_
    exact xs_finM (σ' := σ) hp (by simp only [xs_find1, xs_onE, xs_onP, xs_fn, xs_an, Bool.not_false, Bool.not_true, Bool.true_or, Bool.false_or, Bool.and_true, Bool.true_and, Bool.and_false, Bool.false_and, Bool.false_eq_true, if_true, if_false, ↓reduceIte, g_9] <;> rfl) _ (xs_Mx (σ' := σ) hM hR (fa := (upd (C 83) 0 0)) ((va_up_self _ _ _).trans rfl) (fun j hj => (pk_un (by omega)).trans (rfl)) ((va_up_ne _ _ (by omega)).trans (xs_M88 hM)) (fun _ _ => rfl) ((va_up_ne _ _ (by omega)).trans (xs_M94 hM)) ((va_up_ne _ _ (by omega)).trans (xs_M95 hM)) ((va_up_ne _ _ (by omega)).trans (xs_M96 hM)) ((va_up_ne _ _ (by omega)).trans (xs_M97 hM)) ((va_up_ne _ _ (by omega)).trans (xs_M98 hM)) ((va_up_ne _ _ (by omega)).trans (xs_M99 hM)) (fun i i1 i2 i3 i4 => ((va_up_ne _ _ (by omega)).trans (Eq.refl _))) (fun _ _ _ => rfl) hR.2) (fun i hi => ((va_up_ne _ _ (by omega)).trans (Eq.refl _)))
  · have g_9 : xs_i p 0 5 = true := decide_eq_true (xn_b1 c_9)
    obtain ⟨kp, hkp, rfl⟩ := xn_pk (m := 5) (by omega) (xn_b1 c_9)
    refine xi_iload_n (q := 13) dX9_find_12 rfl rfl ?_
    refine xv_cS1 (q := 16) xm_X9_isNotch ln_X9_171 dX9_find_13 ⟨(Nat.le_of_ble_eq_true rfl), (Nat.le_of_ble_eq_true rfl)⟩ (Nat.le_of_ble_eq_true rfl) ⟨rfl, rfl⟩ rfl (Nat.zero_le _) (Nat.zero_le _) ?_
    refine ⟨_, rfl, ?_⟩
    refine xi_if_eq (q := 19) (q2 := 39) dX9_find_16 (by decide) rfl (fun c_16 => ?_) (fun c_16 => ?_)
    · have g_16 : xs_i m (-6) 6 = false := decide_eq_false (xn_b0 c_16)
      refine xi_ldc (q := 41) dX9_find_39 kc_X9_91 rfl ?_
      refine xi_ret ⟨_, rfl, rfl, dX9_find_41⟩ (Nat.zero_le _) (Nat.zero_le _) ?_
      exact xs_finM (σ' := σ) hp (by simp only [xs_find1, xs_onE, xs_onP, xs_fn, xs_an, Bool.not_false, Bool.not_true, Bool.true_or, Bool.false_or, Bool.and_true, Bool.true_and, Bool.and_false, Bool.false_and, Bool.false_eq_true, if_true, if_false, ↓reduceIte, g_9, g_16, xs_kk0 (k := kp) (by omega)] <;> rfl) _ (xs_Mx (σ' := σ) hM hR (fa := (upd (C 83) 0 0)) ((va_up_self _ _ _).trans rfl) (fun j hj => (pk_un (by omega)).trans (rfl)) ((va_up_ne _ _ (by omega)).trans (xs_M88 hM)) (fun _ _ => rfl) ((va_up_ne _ _ (by omega)).trans (xs_M94 hM)) ((va_up_ne _ _ (by omega)).trans (xs_M95 hM)) ((va_up_ne _ _ (by omega)).trans (xs_M96 hM)) ((va_up_ne _ _ (by omega)).trans (xs_M97 hM)) ((va_up_ne _ _ (by omega)).trans (xs_M98 hM)) ((va_up_ne _ _ (by omega)).trans (xs_M99 hM)) (fun i i1 i2 i3 i4 => ((va_up_ne _ _ (by omega)).trans (Eq.refl _))) (fun _ _ _ => rfl) hR.2) (fun i hi => ((va_up_ne _ _ (by omega)).trans (Eq.refl _)))
    · have g_16 : xs_i m (-6) 6 = true := decide_eq_true (xn_b1 c_16)
      refine xi_iload_n (q := 20) dX9_find_19 rfl rfl ?_
      refine xi_i2l (q := 21) dX9_find_20 rfl ?_
      refine xi_lconst (x := 0) (q := 22) dX9_find_21 (by decide) rfl ?_
      refine xi_ldc2 (q := 25) dX9_find_22 kc_X9_207 rfl ?_
      refine xv_cS3 (q := 28) xm_X9_in ln_X9_81 dX9_find_25 ⟨(Nat.le_of_ble_eq_true rfl), (Nat.le_of_ble_eq_true rfl)⟩ (Nat.le_of_ble_eq_true rfl) ⟨rfl, rfl⟩ rfl (Nat.zero_le _) (Nat.zero_le _) ?_
      refine ⟨b, 0, 2000, rfl, ?_⟩
      refine xi_if_eq (q := 31) (q2 := 39) dX9_find_28 (by decide) rfl (fun c_28 => ?_) (fun c_28 => ?_)
      · have g_28 : xs_i b 0 2000 = false := decide_eq_false (xn_b0 c_28)
        refine xi_ldc (q := 41) dX9_find_39 kc_X9_91 rfl ?_
        refine xi_ret ⟨_, rfl, rfl, dX9_find_41⟩ (Nat.zero_le _) (Nat.zero_le _) ?_
        exact xs_finM (σ' := σ) hp (by simp only [xs_find1, xs_onE, xs_onP, xs_fn, xs_an, Bool.not_false, Bool.not_true, Bool.true_or, Bool.false_or, Bool.and_true, Bool.true_and, Bool.and_false, Bool.false_and, Bool.false_eq_true, if_true, if_false, ↓reduceIte, g_9, g_16, g_28, xs_kk0 (k := kp) (by omega)] <;> rfl) _ (xs_Mx (σ' := σ) hM hR (fa := (upd (C 83) 0 0)) ((va_up_self _ _ _).trans rfl) (fun j hj => (pk_un (by omega)).trans (rfl)) ((va_up_ne _ _ (by omega)).trans (xs_M88 hM)) (fun _ _ => rfl) ((va_up_ne _ _ (by omega)).trans (xs_M94 hM)) ((va_up_ne _ _ (by omega)).trans (xs_M95 hM)) ((va_up_ne _ _ (by omega)).trans (xs_M96 hM)) ((va_up_ne _ _ (by omega)).trans (xs_M97 hM)) ((va_up_ne _ _ (by omega)).trans (xs_M98 hM)) ((va_up_ne _ _ (by omega)).trans (xs_M99 hM)) (fun i i1 i2 i3 i4 => ((va_up_ne _ _ (by omega)).trans (Eq.refl _))) (fun _ _ _ => rfl) hR.2) (fun i hi => ((va_up_ne _ _ (by omega)).trans (Eq.refl _)))
      · have g_28 : xs_i b 0 2000 = true := decide_eq_true (xn_b1 c_28)
        refine xi_iload (q := 33) dX9_find_31 rfl rfl ?_
        refine xv_cS1 (q := 36) xm_X9_isSheet ln_X9_85 dX9_find_33 ⟨(Nat.le_of_ble_eq_true rfl), (Nat.le_of_ble_eq_true rfl)⟩ (Nat.le_of_ble_eq_true rfl) ⟨rfl, rfl⟩ rfl (Nat.zero_le _) (Nat.zero_le _) ?_
        refine ⟨_, rfl, ?_⟩
        refine xi_if_ne (q := 39) (q2 := 42) dX9_find_36 (by decide) rfl (fun c_36 => ?_) (fun c_36 => ?_)
        · have g_36 : xs_i s 0 7 = true := decide_eq_true (xn_b1 c_36)
          obtain ⟨ks, hks, rfl⟩ := xn_pk (m := 7) (by omega) (xn_b1 c_36)
          refine xi_aload_n (q := 43) dX9_find_42 rfl rfl ?_
          refine xi_getf (q := 46) dX9_find_43 fl_X9_19 (xv_self (by omega)) rfl rfl ?_
          refine xi_iload_n (q := 47) dX9_find_46 rfl rfl ?_
          refine xi_zald (q := 48) dX9_find_47 (xv_keep (by omega) ⟨by omega, (xs_M87 hM)⟩) (xv_ixN (by omega) (by omega)) rfl ?_
          refine xi_if_eq (q := 51) (q2 := 61) dX9_find_48 (by decide) rfl (fun c_48 => ?_) (fun c_48 => ?_)
          · have y48 : σ 6 kp 0 = 0 := (xs_ht hR (by omega)).symm.trans (by first | exact c_48 | exact Decidable.of_not_not c_48)
            refine xi_aload_n (q := 62) dX9_find_61 rfl rfl ?_
            refine xi_iconst (x := 1) (q := 63) dX9_find_62 (by decide) rfl ?_
            refine xv_cV1 (q := 66) xm_X9_found ln_X9_92 dX9_find_63 (xv_self (by omega)) rfl ⟨(Nat.le_of_ble_eq_true rfl), (Nat.le_of_ble_eq_true rfl)⟩ (Nat.le_of_ble_eq_true rfl) ⟨rfl, rfl⟩ rfl (Nat.zero_le _) (Nat.zero_le _) ?_
            refine ⟨(upd (C 83) 0 0), dk, 1, rfl, ((va_up_self _ _ _).trans rfl), by omega, fun h63 p63 f63 => ?_⟩
            have Fh63 : ∀ i, i ≠ 83 → h63 i = h i := fun i j83 => (f63 i (by omega)).trans ((va_up_ne _ _ (by omega)).trans (Eq.refl _))
            refine xi_ret ⟨_, rfl, rfl, dX9_find_66⟩ (Nat.zero_le _) (Nat.zero_le _) ?_
            exact xs_finM (σ' := (xs_fd σ 1)) hp (by simp only [xs_find1, xs_onE, xs_onP, xs_fn, xs_an, Bool.not_false, Bool.not_true, Bool.true_or, Bool.false_or, Bool.and_true, Bool.true_and, Bool.and_false, Bool.false_and, Bool.false_eq_true, if_true, if_false, ↓reduceIte, g_9, g_16, g_28, g_36, eq_true y48, ite_self, xs_kk0 (k := kp) (by omega), xs_kk0 (k := ks) (by omega)] <;> rfl) _ (xs_Mx (σ' := (xs_fd σ 1)) hM hR (fa := (upd (upd (C 83) 0 0) 1 1)) p63 (fun j hj => (pk_un (by omega)).trans ((pk_un (by omega)).trans (rfl))) ((Fh63 88 (by omega)).trans (xs_M88 hM)) (fun _ _ => rfl) ((Fh63 94 (by omega)).trans (xs_M94 hM)) ((Fh63 95 (by omega)).trans (xs_M95 hM)) ((Fh63 96 (by omega)).trans (xs_M96 hM)) ((Fh63 97 (by omega)).trans (xs_M97 hM)) ((Fh63 98 (by omega)).trans (xs_M98 hM)) ((Fh63 99 (by omega)).trans (xs_M99 hM)) (fun i i1 i2 i3 i4 => (Fh63 i (by omega))) xs_fdo rfl) (fun i hi => (Fh63 i (by omega)))
          · have y48 : ¬ σ 6 kp 0 = 0 := fun e => c_48 ((xs_ht hR (by omega)).trans e)
            refine xi_aload_n (q := 52) dX9_find_51 rfl rfl ?_
            refine xi_getf (q := 55) dX9_find_52 fl_X9_7 (xv_self (by omega)) rfl rfl ?_
            refine xi_iload (q := 57) dX9_find_55 rfl rfl ?_
            refine xi_iald (q := 58) dX9_find_57 (xv_keep (by omega) ⟨by omega, (xs_M84 hM)⟩) (xv_ixN (by omega) (by omega)) rfl ?_
            refine xi_if_ge (q := 61) (q2 := 67) dX9_find_58 (by decide) rfl (fun c_58 => ?_) (fun c_58 => ?_)
            · have y58 : ¬ σ 0 ks 0 = 0 := (xs_ln hV hR (by omega)).1 c_58
              refine xi_iload (q := 69) dX9_find_67 rfl rfl ?_
              refine xi_if_lt (q := 72) (q2 := 91) dX9_find_69 (by decide) rfl (fun c_69 => ?_) (fun c_69 => ?_)
              · have g_69 : xs_has i 48 (σ 2 ks 0) = false := xn_hasN (fun z => by rw [xn_le] at z; rw [xn_lt] at c_69; omega)
                refine xi_aload_n (q := 92) dX9_find_91 rfl rfl ?_
                refine xi_iconst (x := 2) (q := 93) dX9_find_92 (by decide) rfl ?_
                refine xv_cV1 (q := 96) xm_X9_found ln_X9_92 dX9_find_93 (xv_self (by omega)) rfl ⟨(Nat.le_of_ble_eq_true rfl), (Nat.le_of_ble_eq_true rfl)⟩ (Nat.le_of_ble_eq_true rfl) ⟨rfl, rfl⟩ rfl (Nat.zero_le _) (Nat.zero_le _) ?_
                refine ⟨(upd (C 83) 0 0), dk, 2, rfl, ((va_up_self _ _ _).trans rfl), by omega, fun h93 p93 f93 => ?_⟩
                have Fh93 : ∀ i, i ≠ 83 → h93 i = h i := fun i j83 => (f93 i (by omega)).trans ((va_up_ne _ _ (by omega)).trans (Eq.refl _))
                refine xi_ret ⟨_, rfl, rfl, dX9_find_96⟩ (Nat.zero_le _) (Nat.zero_le _) ?_
                exact xs_finM (σ' := (xs_fd σ 2)) hp (by simp only [xs_find1, xs_onE, xs_onP, xs_fn, xs_an, Bool.not_false, Bool.not_true, Bool.true_or, Bool.false_or, Bool.and_true, Bool.true_and, Bool.and_false, Bool.false_and, Bool.false_eq_true, if_true, if_false, ↓reduceIte, g_9, g_16, g_28, g_36, eq_false y48, eq_false y58, g_69, xs_kk0 (k := kp) (by omega), xs_kk0 (k := ks) (by omega)] <;> rfl) _ (xs_Mx (σ' := (xs_fd σ 2)) hM hR (fa := (upd (upd (C 83) 0 0) 1 2)) p93 (fun j hj => (pk_un (by omega)).trans ((pk_un (by omega)).trans (rfl))) ((Fh93 88 (by omega)).trans (xs_M88 hM)) (fun _ _ => rfl) ((Fh93 94 (by omega)).trans (xs_M94 hM)) ((Fh93 95 (by omega)).trans (xs_M95 hM)) ((Fh93 96 (by omega)).trans (xs_M96 hM)) ((Fh93 97 (by omega)).trans (xs_M97 hM)) ((Fh93 98 (by omega)).trans (xs_M98 hM)) ((Fh93 99 (by omega)).trans (xs_M99 hM)) (fun i i1 i2 i3 i4 => (Fh93 i (by omega))) xs_fdo rfl) (fun i hi => (Fh93 i (by omega)))
              · have h0_69 : 0 ≤ i := by rw [xn_le]; rw [xn_lt] at c_69; omega
                refine xi_iload (q := 74) dX9_find_72 rfl rfl ?_
                refine xi_i2l (q := 75) dX9_find_74 rfl ?_
                refine xi_ldc2 (q := 78) dX9_find_75 kc_X9_229 rfl ?_
                refine xi_ladd (q := 79) dX9_find_78 rfl ?_
                refine xi_aload_n (q := 80) dX9_find_79 rfl rfl ?_
                refine xi_getf (q := 83) dX9_find_80 fl_X9_13 (xv_self (by omega)) rfl rfl ?_
                refine xi_iload (q := 85) dX9_find_83 rfl rfl ?_
                refine xi_iald (q := 86) dX9_find_85 (xv_keep (by omega) ⟨by omega, (xs_M85 hM)⟩) (xv_ixN (by omega) (by omega)) rfl ?_
                rw [(hR.1.1 ks (by omega)).2.1]
                refine xi_i2l (q := 87) dX9_find_86 rfl ?_
                refine xi_lcmp (q := 88) dX9_find_87 rfl ?_
                refine xi_if_le (q := 91) (q2 := 97) dX9_find_88 (by decide) rfl (fun c_88 => ?_) (fun c_88 => ?_)
                · have g_88 : xs_has i 48 (σ 2 ks 0) = true := (xn_hasL (k := 48) h0_69 (by decide) (hV.2.1 ks (by omega) y58).1).mp c_88
                  obtain ⟨ki, hki, rfl⟩ := xn_hasA (m := 48) (by omega) g_88 (hV.2.1 ks (by omega) y58).1.2
                  refine xi_aload_n (q := 98) dX9_find_97 rfl rfl ?_
                  refine xi_iload (q := 100) dX9_find_98 rfl rfl ?_
                  refine xi_iload (q := 102) dX9_find_100 rfl rfl ?_
                  refine xv_cV2 (q := 105) xm_X9_isCard ln_X9_231 dX9_find_102 (xv_self (by omega)) rfl ⟨(Nat.le_of_ble_eq_true rfl), (Nat.le_of_ble_eq_true rfl)⟩ (Nat.le_of_ble_eq_true rfl) ⟨rfl, rfl⟩ rfl (Nat.zero_le _) (Nat.zero_le _) ?_
                  refine ⟨(upd (C 83) 0 0), dk, C 86, ks, ki, (fun t => σ 3 ks (ki + t)), rfl, ((va_up_self _ _ _).trans rfl), by omega, ((va_up_ne _ _ (by omega)).trans (xs_M86 hM)), by omega, by omega, fun t ht => by rw [show 60 * ks + ki + t = 60 * ks + (ki + t) by omega]; exact (hR.1.1 ks (by omega)).2.2 _ (by omega), ?_⟩
                  refine xi_if_ne (q := 108) (q2 := 111) dX9_find_105 (by decide) rfl (fun c_105 => ?_) (fun c_105 => ?_)
                  · have g_105 : xs_all (fun t => decide (-1 ≤ σ 3 ks (ki + t)) && decide (σ 3 ks (ki + t) ≤ 5000)) 48 = true := xn_b1 c_105
                    have hcm : ∀ t, t < 48 → -1 ≤ (((fun t => σ 3 ks (ki + t)) t) : Int32).toInt := fun t ht => by
                      have z := xn_allI g_105 t ht
                      rw [Bool.and_eq_true, decide_eq_true_eq, xn_le] at z
                      exact z.1
                    refine xi_aload_n (q := 112) dX9_find_111 rfl rfl ?_
                    refine xi_iconst (x := 0) (q := 113) dX9_find_112 (by decide) rfl ?_
                    refine xi_putf (q := 116) dX9_find_113 fl_X9_75 (xv_self (by omega)) (Or.inl rfl) (fun _ => rfl) (fun _ => rfl) (Nat.le_of_ble_eq_true rfl) rfl ?_
                    refine xi_aload_n (q := 117) dX9_find_116 rfl rfl ?_
                    refine xi_getf (q := 120) dX9_find_117 fl_X9_26 (xv_self (by omega)) rfl rfl ?_
                    refine xi_iload_n (q := 121) dX9_find_120 rfl rfl ?_
                    refine xi_iconst (x := 1) (q := 122) dX9_find_121 (by decide) rfl ?_
                    refine xi_zast (q := 123) dX9_find_122 (xv_keep (by omega) (xv_keep (by omega) ⟨by omega, (xs_M89 hM)⟩)) (xv_ixN (by omega) (by omega)) rfl rfl ?_
                    refine xi_aload_n (q := 124) dX9_find_123 rfl rfl ?_
                    refine xi_getf (q := 127) dX9_find_124 fl_X9_29 (xv_keep (by omega) (xv_self (by omega))) rfl rfl ?_
                    refine xi_iload_n (q := 128) dX9_find_127 rfl rfl ?_
                    refine xi_iload_n (q := 129) dX9_find_128 rfl rfl ?_
                    refine xi_iast (q := 130) dX9_find_129 (xv_keep (by omega) (xv_keep (by omega) (xv_keep (by omega) ⟨by omega, (xs_M90 hM)⟩))) (xv_ixN (by omega) (by omega)) rfl ?_
                    refine xi_aload_n (q := 131) dX9_find_130 rfl rfl ?_
                    refine xi_getf (q := 134) dX9_find_131 fl_X9_32 (xv_keep (by omega) (xv_keep (by omega) (xv_self (by omega)))) rfl rfl ?_
                    refine xi_iload_n (q := 135) dX9_find_134 rfl rfl ?_
                    refine xi_iload_n (q := 136) dX9_find_135 rfl rfl ?_
                    refine xi_iast (q := 137) dX9_find_136 (xv_keep (by omega) (xv_keep (by omega) (xv_keep (by omega) (xv_keep (by omega) ⟨by omega, (xs_M91 hM)⟩)))) (xv_ixN (by omega) (by omega)) rfl ?_
                    refine xi_iconst (x := 0) (q := 138) dX9_find_137 (by decide) rfl ?_
                    refine xi_istore (q := 140) dX9_find_138 (Nat.le_of_ble_eq_true rfl) rfl ?_
                    refine xi_iconst (x := 0) (q := 141) dX9_find_140 (by decide) rfl ?_
                    refine xi_istore (q := 143) dX9_find_141 (Nat.le_of_ble_eq_true rfl) rfl ?_
                    refine xv_weakS (lv' := [(0, .ref 83), (1, .int (nI kp)), (4, .int (nI ks)), (5, .int (nI ki)), (6, .int (xs_ps (xs_rd1 (fun t => σ 3 ks (ki + t))) 0)), (7, .int (nI 0))]) ⟨rfl, rfl, rfl, rfl, rfl, rfl, trivial⟩ ?_
                    refine xv_lpH (lv := fun k => [(0, .ref 83), (1, .int (nI kp)), (4, .int (nI ks)), (5, .int (nI ki)), (6, .int (xs_ps (xs_rd1 (fun t => σ 3 ks (ki + t))) k)), (7, .int (nI k))]) (I := fun k hI => ∃ (dI : Int64) (g92 : Nat → Int32), hI 83 = xs_mo (upd (upd (C 83) 0 0) 1 0) dI ∧ hI 89 = xs_zb 6 (upd (C 89) kp 1) ∧ hI 90 = xs_ia 6 (upd (C 90) kp m) ∧ hI 91 = xs_ia 6 (upd (C 91) kp b) ∧ hI 92 = xs_ia 288 g92 ∧ (∀ x, x < 288 → g92 x = if 48 * kp ≤ x ∧ x < 48 * kp + k then σ 3 ks (ki + (x - 48 * kp)) else C 92 x) ∧ ∀ i, i ≠ 83 → i ≠ 89 → i ≠ 90 → i ≠ 91 → i ≠ 92 → hI i = h i) (N := 48) (fun k h143 hk I143 ih143 => ?_) 0 _ (by omega) ⟨_, _, ((va_up_ne _ _ (by omega)).trans ((va_up_ne _ _ (by omega)).trans ((va_up_ne _ _ (by omega)).trans ((va_up_self _ _ _).trans rfl)))), ((va_up_ne _ _ (by omega)).trans ((va_up_ne _ _ (by omega)).trans ((va_up_self _ _ _).trans rfl))), ((va_up_ne _ _ (by omega)).trans ((va_up_self _ _ _).trans rfl)), ((va_up_self _ _ _).trans rfl), ((va_up_ne _ _ (by omega)).trans ((va_up_ne _ _ (by omega)).trans ((va_up_ne _ _ (by omega)).trans ((va_up_ne _ _ (by omega)).trans ((va_up_ne _ _ (by omega)).trans (xs_M92 hM)))))), (fun x hx => (if_neg (by omega)).symm), fun i _ _ _ _ _ => ((va_up_ne _ _ (by omega)).trans ((va_up_ne _ _ (by omega)).trans ((va_up_ne _ _ (by omega)).trans ((va_up_ne _ _ (by omega)).trans ((va_up_ne _ _ (by omega)).trans (Eq.refl _))))))⟩
                    show xv_V X mX9_find Post 0 0 143 [(0, .ref 83), (1, .int (nI kp)), (4, .int (nI ks)), (5, .int (nI ki)), (6, .int (xs_ps (xs_rd1 (fun t => σ 3 ks (ki + t))) k)), (7, .int (nI k))] [] h143 n
                    obtain ⟨d143, g92_143, p83_143, p89_143, p90_143, p91_143, p92_143, x143, F143⟩ := I143
                    refine xi_iload (q := 145) dX9_find_143 rfl rfl ?_
                    refine xi_bipush (x := 48) (q := 147) dX9_find_145 (by decide) rfl ?_
                    refine xi_icmp_ge (q := 150) (q2 := 209) dX9_find_147 (by decide) rfl (fun c_147 => ?_) (fun c_147 => ?_)
                    · have hk2 : k = 48 := by have z : 48 ≤ k := xn_leN c_147 (by omega) (by omega); omega
                      subst hk2
                      refine xi_iload (q := 211) dX9_find_209 rfl rfl ?_
                      refine xi_ret ⟨_, rfl, rfl, dX9_find_211⟩ (Nat.zero_le _) (Nat.zero_le _) ?_
                      exact xs_finM (σ' := (xs_fd (xs_ca σ kp 1 m b (fun t => σ 3 ks (ki + t))) 0)) hp (by simp only [xs_find1, xs_onE, xs_onP, xs_fn, xs_an, Bool.not_false, Bool.not_true, Bool.true_or, Bool.false_or, Bool.and_true, Bool.true_and, Bool.and_false, Bool.false_and, Bool.false_eq_true, if_true, if_false, ↓reduceIte, g_9, g_16, g_28, g_36, eq_false y48, eq_false y58, g_88, g_105, xs_kk0 (k := kp) (by omega), xs_kk0 (k := ks) (by omega), xs_kk0 (k := ki) (by omega)] <;> rfl) _ ⟨(xs_cu (xs_cu (xs_cu (xs_cu (xs_cu C 83 (upd (upd (C 83) 0 0) 1 0)) 89 (upd (C 89) kp 1)) 90 (upd (C 90) kp m)) 91 (upd (C 91) kp b)) 92 g92_143), _, ⟨p83_143, ((F143 84 (by omega) (by omega) (by omega) (by omega) (by omega)).trans (xs_M84 (C := C) hM)), ((F143 85 (by omega) (by omega) (by omega) (by omega) (by omega)).trans (xs_M85 (C := C) hM)), ((F143 86 (by omega) (by omega) (by omega) (by omega) (by omega)).trans (xs_M86 (C := C) hM)), ((F143 87 (by omega) (by omega) (by omega) (by omega) (by omega)).trans (xs_M87 (C := C) hM)), ((F143 88 (by omega) (by omega) (by omega) (by omega) (by omega)).trans (xs_M88 (C := C) hM)), p89_143, p90_143, p91_143, p92_143, ((F143 93 (by omega) (by omega) (by omega) (by omega) (by omega)).trans (xs_M93 (C := C) hM)), ((F143 94 (by omega) (by omega) (by omega) (by omega) (by omega)).trans (xs_M94 (C := C) hM)), ((F143 95 (by omega) (by omega) (by omega) (by omega) (by omega)).trans (xs_M95 (C := C) hM)), ((F143 96 (by omega) (by omega) (by omega) (by omega) (by omega)).trans (xs_M96 (C := C) hM)), ((F143 97 (by omega) (by omega) (by omega) (by omega) (by omega)).trans (xs_M97 (C := C) hM)), ((F143 98 (by omega) (by omega) (by omega) (by omega) (by omega)).trans (xs_M98 (C := C) hM)), ((F143 99 (by omega) (by omega) (by omega) (by omega) (by omega)).trans (xs_M99 (C := C) hM)), ((F143 100 (by omega) (by omega) (by omega) (by omega) (by omega)).trans (xs_M100 (C := C) hM)), ((F143 101 (by omega) (by omega) (by omega) (by omega) (by omega)).trans (xs_M101 (C := C) hM)), ((F143 102 (by omega) (by omega) (by omega) (by omega) (by omega)).trans (xs_M102 (C := C) hM)), ((F143 103 (by omega) (by omega) (by omega) (by omega) (by omega)).trans (xs_M103 (C := C) hM))⟩, ⟨xs_Rfd (xs_Rca (j := kp) hR.1 (fun p hp => rfl) (fun p hp => rfl) (fun p hp => rfl) (fun k hk => by
                                show g92_143 (48 * kp + k) = _
                                rw [x143 _ (by omega), if_pos (by omega), show 48 * kp + k - 48 * kp = k by omega]) (fun p k hp hpk hk => by
                                show g92_143 (48 * p + k) = _
                                rw [x143 _ (by omega), if_neg (by omega)]) (fun i hi => (pk_un (by omega)).trans ((pk_un (by omega)).trans (rfl))) (fun _ _ => rfl) (fun i hi i1 i2 => (by rw [xs_cuo (by omega), xs_cuo (by omega), xs_cuo (by omega), xs_cuo (by omega), xs_cuo (by omega)]))), rfl⟩⟩ (fun i hi => (F143 i (by omega) (by omega) (by omega) (by omega) (by omega)))
                    · have hk2 : k < 48 := xn_nleN c_147 (by omega) (by omega)
                      refine xi_aload_n (q := 151) dX9_find_150 rfl rfl ?_
                      refine xi_getf (q := 154) dX9_find_151 fl_X9_35 ⟨by omega, p83_143⟩ rfl rfl ?_
                      refine xi_bipush (x := 48) (q := 156) dX9_find_154 (by decide) rfl ?_
                      refine xi_iload_n (q := 157) dX9_find_156 rfl rfl ?_
                      refine xi_imul (q := 158) dX9_find_157 rfl ?_
                      refine xi_iload (q := 160) dX9_find_158 rfl rfl ?_
                      refine xi_iadd (q := 161) dX9_find_160 rfl ?_
                      refine xi_aload_n (q := 162) dX9_find_161 rfl rfl ?_
                      refine xi_getf (q := 165) dX9_find_162 fl_X9_16 ⟨by omega, p83_143⟩ rfl rfl ?_
                      refine xi_bipush (x := 60) (q := 167) dX9_find_165 (by decide) rfl ?_
                      refine xi_iload (q := 169) dX9_find_167 rfl rfl ?_
                      refine xi_imul (q := 170) dX9_find_169 rfl ?_
                      refine xi_iload (q := 172) dX9_find_170 rfl rfl ?_
                      refine xi_iadd (q := 173) dX9_find_172 rfl ?_
                      refine xi_iload (q := 175) dX9_find_173 rfl rfl ?_
                      refine xi_iadd (q := 176) dX9_find_175 rfl ?_
                      refine xi_iald (q := 177) dX9_find_176 ⟨by omega, ((F143 86 (by omega) (by omega) (by omega) (by omega) (by omega)).trans (xs_M86 hM))⟩ (by rw [show (60 * nI ks + nI ki + nI k : Int32) = nI (60 * ks + ki + k) by rw [show (60 * nI ks : Int32) = nI (60 * ks) from pk_mul 60 ks, nI_add, nI_add]]; exact xv_ixN (by omega) (by omega)) rfl ?_
                      rw [show C 86 (60 * ks + ki + k) = σ 3 ks (ki + k) from by rw [show 60 * ks + ki + k = 60 * ks + (ki + k) by omega]; exact (hR.1.1 ks (by omega)).2.2 _ (by omega)]
                      refine xi_iast (q := 178) dX9_find_177 ⟨by omega, p92_143⟩ (xn_ixM (a := 48) (p := kp) (k := k) (by omega) (by omega)) rfl ?_
                      refine xi_iload (q := 180) dX9_find_178 rfl rfl ?_
                      refine xi_aload_n (q := 181) dX9_find_180 rfl rfl ?_
                      refine xi_getf (q := 184) dX9_find_181 fl_X9_35 (xv_keep (by omega) ⟨by omega, p83_143⟩) rfl rfl ?_
                      refine xi_bipush (x := 48) (q := 186) dX9_find_184 (by decide) rfl ?_
                      refine xi_iload_n (q := 187) dX9_find_186 rfl rfl ?_
                      refine xi_imul (q := 188) dX9_find_187 rfl ?_
                      refine xi_iload (q := 190) dX9_find_188 rfl rfl ?_
                      refine xi_iadd (q := 191) dX9_find_190 rfl ?_
                      refine xi_iald (q := 192) dX9_find_191 (xv_self (by omega)) (xn_ixM (a := 48) (p := kp) (k := k) (by omega) (by omega)) rfl ?_
                      rw [pk_us]
                      refine xi_if_lt (q := 195) (q2 := 199) dX9_find_192 (by decide) rfl (fun c_192 => ?_) (fun c_192 => ?_)
                      · skip
                        refine xi_iconst (x := 0) (q := 200) dX9_find_199 (by decide) rfl ?_
                        refine xi_iadd (q := 201) dX9_find_200 rfl ?_
                        refine xi_istore (q := 203) dX9_find_201 (Nat.le_of_ble_eq_true rfl) rfl ?_
                        refine xi_iinc (y := nI (k + 1)) (q := 206) dX9_find_203 rfl (xn_inc k) (Nat.le_of_ble_eq_true rfl) rfl ?_
                        refine xi_goto (q := 143) dX9_find_206 (by decide) ?_
                        rw [xs_psS (xs_rd1 (fun t => σ 3 ks (ki + t))) k (xn_rd0 (hcm k hk2) c_192)]
                        refine xv_weakS (lv' := [(0, .ref 83), (1, .int (nI kp)), (4, .int (nI ks)), (5, .int (nI ki)), (6, .int (xs_ps (xs_rd1 (fun t => σ 3 ks (ki + t))) (k + 1))), (7, .int (nI (k + 1)))]) ⟨rfl, rfl, rfl, rfl, rfl, rfl, trivial⟩ ?_
                        exact ih143 _ (by omega) ⟨_, _, ((va_up_ne _ _ (by omega)).trans p83_143), ((va_up_ne _ _ (by omega)).trans p89_143), ((va_up_ne _ _ (by omega)).trans p90_143), ((va_up_ne _ _ (by omega)).trans p91_143), ((va_up_self _ _ _).trans rfl), (fun x hx => by
                              by_cases e : x = 48 * kp + k
                              · rw [e, pk_us, if_pos (by omega), show 48 * kp + k - 48 * kp = k by omega]
                              · rw [pk_un e, x143 x hx]
                                by_cases y : 48 * kp ≤ x ∧ x < 48 * kp + k
                                · rw [if_pos y, if_pos (by omega)]
                                · rw [if_neg y, if_neg (by omega)]), fun i _ _ _ _ _ => ((va_up_ne _ _ (by omega)).trans (F143 i (by omega) (by omega) (by omega) (by omega) (by omega)))⟩
                      · skip
                        refine xi_iconst (x := 1) (q := 196) dX9_find_195 (by decide) rfl ?_
                        refine xi_goto (q := 200) dX9_find_196 (by decide) ?_
                        refine xi_iadd (q := 201) dX9_find_200 rfl ?_
                        refine xi_istore (q := 203) dX9_find_201 (Nat.le_of_ble_eq_true rfl) rfl ?_
                        refine xi_iinc (y := nI (k + 1)) (q := 206) dX9_find_203 rfl (xn_inc k) (Nat.le_of_ble_eq_true rfl) rfl ?_
                        refine xi_goto (q := 143) dX9_find_206 (by decide) ?_
                        rw [xs_psS (xs_rd1 (fun t => σ 3 ks (ki + t))) k (xn_rd1 c_192)]
                        refine xv_weakS (lv' := [(0, .ref 83), (1, .int (nI kp)), (4, .int (nI ks)), (5, .int (nI ki)), (6, .int (xs_ps (xs_rd1 (fun t => σ 3 ks (ki + t))) (k + 1))), (7, .int (nI (k + 1)))]) ⟨rfl, rfl, rfl, rfl, rfl, rfl, trivial⟩ ?_
                        exact ih143 _ (by omega) ⟨_, _, ((va_up_ne _ _ (by omega)).trans p83_143), ((va_up_ne _ _ (by omega)).trans p89_143), ((va_up_ne _ _ (by omega)).trans p90_143), ((va_up_ne _ _ (by omega)).trans p91_143), ((va_up_self _ _ _).trans rfl), (fun x hx => by
                              by_cases e : x = 48 * kp + k
                              · rw [e, pk_us, if_pos (by omega), show 48 * kp + k - 48 * kp = k by omega]
                              · rw [pk_un e, x143 x hx]
                                by_cases y : 48 * kp ≤ x ∧ x < 48 * kp + k
                                · rw [if_pos y, if_pos (by omega)]
                                · rw [if_neg y, if_neg (by omega)]), fun i _ _ _ _ _ => ((va_up_ne _ _ (by omega)).trans (F143 i (by omega) (by omega) (by omega) (by omega) (by omega)))⟩
                  · have g_105 : xs_all (fun t => decide (-1 ≤ σ 3 ks (ki + t)) && decide (σ 3 ks (ki + t) ≤ 5000)) 48 = false := Bool.eq_false_iff.mpr (xn_b0 c_105)
                    refine xi_ldc (q := 110) dX9_find_108 kc_X9_91 rfl ?_
                    refine xi_ret ⟨_, rfl, rfl, dX9_find_110⟩ (Nat.zero_le _) (Nat.zero_le _) ?_
                    exact xs_finM (σ' := σ) hp (by simp only [xs_find1, xs_onE, xs_onP, xs_fn, xs_an, Bool.not_false, Bool.not_true, Bool.true_or, Bool.false_or, Bool.and_true, Bool.true_and, Bool.and_false, Bool.false_and, Bool.false_eq_true, if_true, if_false, ↓reduceIte, g_9, g_16, g_28, g_36, eq_false y48, eq_false y58, g_88, g_105, xs_kk0 (k := kp) (by omega), xs_kk0 (k := ks) (by omega), xs_kk0 (k := ki) (by omega)] <;> rfl) _ (xs_Mx (σ' := σ) hM hR (fa := (upd (C 83) 0 0)) ((va_up_self _ _ _).trans rfl) (fun j hj => (pk_un (by omega)).trans (rfl)) ((va_up_ne _ _ (by omega)).trans (xs_M88 hM)) (fun _ _ => rfl) ((va_up_ne _ _ (by omega)).trans (xs_M94 hM)) ((va_up_ne _ _ (by omega)).trans (xs_M95 hM)) ((va_up_ne _ _ (by omega)).trans (xs_M96 hM)) ((va_up_ne _ _ (by omega)).trans (xs_M97 hM)) ((va_up_ne _ _ (by omega)).trans (xs_M98 hM)) ((va_up_ne _ _ (by omega)).trans (xs_M99 hM)) (fun i i1 i2 i3 i4 => ((va_up_ne _ _ (by omega)).trans (Eq.refl _))) (fun _ _ _ => rfl) hR.2) (fun i hi => ((va_up_ne _ _ (by omega)).trans (Eq.refl _)))
                · have g_88 : xs_has i 48 (σ 2 ks 0) = false := Bool.eq_false_iff.mpr (fun z => c_88 ((xn_hasL (k := 48) h0_69 (by decide) (hV.2.1 ks (by omega) y58).1).mpr z))
                  refine xi_aload_n (q := 92) dX9_find_91 rfl rfl ?_
                  refine xi_iconst (x := 2) (q := 93) dX9_find_92 (by decide) rfl ?_
                  refine xv_cV1 (q := 96) xm_X9_found ln_X9_92 dX9_find_93 (xv_self (by omega)) rfl ⟨(Nat.le_of_ble_eq_true rfl), (Nat.le_of_ble_eq_true rfl)⟩ (Nat.le_of_ble_eq_true rfl) ⟨rfl, rfl⟩ rfl (Nat.zero_le _) (Nat.zero_le _) ?_
                  refine ⟨(upd (C 83) 0 0), dk, 2, rfl, ((va_up_self _ _ _).trans rfl), by omega, fun h93 p93 f93 => ?_⟩
                  have Fh93 : ∀ i, i ≠ 83 → h93 i = h i := fun i j83 => (f93 i (by omega)).trans ((va_up_ne _ _ (by omega)).trans (Eq.refl _))
                  refine xi_ret ⟨_, rfl, rfl, dX9_find_96⟩ (Nat.zero_le _) (Nat.zero_le _) ?_
                  exact xs_finM (σ' := (xs_fd σ 2)) hp (by simp only [xs_find1, xs_onE, xs_onP, xs_fn, xs_an, Bool.not_false, Bool.not_true, Bool.true_or, Bool.false_or, Bool.and_true, Bool.true_and, Bool.and_false, Bool.false_and, Bool.false_eq_true, if_true, if_false, ↓reduceIte, g_9, g_16, g_28, g_36, eq_false y48, eq_false y58, g_88, xs_kk0 (k := kp) (by omega), xs_kk0 (k := ks) (by omega)] <;> rfl) _ (xs_Mx (σ' := (xs_fd σ 2)) hM hR (fa := (upd (upd (C 83) 0 0) 1 2)) p93 (fun j hj => (pk_un (by omega)).trans ((pk_un (by omega)).trans (rfl))) ((Fh93 88 (by omega)).trans (xs_M88 hM)) (fun _ _ => rfl) ((Fh93 94 (by omega)).trans (xs_M94 hM)) ((Fh93 95 (by omega)).trans (xs_M95 hM)) ((Fh93 96 (by omega)).trans (xs_M96 hM)) ((Fh93 97 (by omega)).trans (xs_M97 hM)) ((Fh93 98 (by omega)).trans (xs_M98 hM)) ((Fh93 99 (by omega)).trans (xs_M99 hM)) (fun i i1 i2 i3 i4 => (Fh93 i (by omega))) xs_fdo rfl) (fun i hi => (Fh93 i (by omega)))
            · have y58 : σ 0 ks 0 = 0 := (xs_ln hV hR (by omega)).2 c_58
              refine xi_aload_n (q := 62) dX9_find_61 rfl rfl ?_
              refine xi_iconst (x := 1) (q := 63) dX9_find_62 (by decide) rfl ?_
              refine xv_cV1 (q := 66) xm_X9_found ln_X9_92 dX9_find_63 (xv_self (by omega)) rfl ⟨(Nat.le_of_ble_eq_true rfl), (Nat.le_of_ble_eq_true rfl)⟩ (Nat.le_of_ble_eq_true rfl) ⟨rfl, rfl⟩ rfl (Nat.zero_le _) (Nat.zero_le _) ?_
              refine ⟨(upd (C 83) 0 0), dk, 1, rfl, ((va_up_self _ _ _).trans rfl), by omega, fun h63 p63 f63 => ?_⟩
              have Fh63 : ∀ i, i ≠ 83 → h63 i = h i := fun i j83 => (f63 i (by omega)).trans ((va_up_ne _ _ (by omega)).trans (Eq.refl _))
              refine xi_ret ⟨_, rfl, rfl, dX9_find_66⟩ (Nat.zero_le _) (Nat.zero_le _) ?_
              exact xs_finM (σ' := (xs_fd σ 1)) hp (by simp only [xs_find1, xs_onE, xs_onP, xs_fn, xs_an, Bool.not_false, Bool.not_true, Bool.true_or, Bool.false_or, Bool.and_true, Bool.true_and, Bool.and_false, Bool.false_and, Bool.false_eq_true, if_true, if_false, ↓reduceIte, g_9, g_16, g_28, g_36, eq_false y48, eq_true y58, xs_kk0 (k := kp) (by omega), xs_kk0 (k := ks) (by omega)] <;> rfl) _ (xs_Mx (σ' := (xs_fd σ 1)) hM hR (fa := (upd (upd (C 83) 0 0) 1 1)) p63 (fun j hj => (pk_un (by omega)).trans ((pk_un (by omega)).trans (rfl))) ((Fh63 88 (by omega)).trans (xs_M88 hM)) (fun _ _ => rfl) ((Fh63 94 (by omega)).trans (xs_M94 hM)) ((Fh63 95 (by omega)).trans (xs_M95 hM)) ((Fh63 96 (by omega)).trans (xs_M96 hM)) ((Fh63 97 (by omega)).trans (xs_M97 hM)) ((Fh63 98 (by omega)).trans (xs_M98 hM)) ((Fh63 99 (by omega)).trans (xs_M99 hM)) (fun i i1 i2 i3 i4 => (Fh63 i (by omega))) xs_fdo rfl) (fun i hi => (Fh63 i (by omega)))
        · have g_36 : xs_i s 0 7 = false := decide_eq_false (xn_b0 c_36)
          refine xi_ldc (q := 41) dX9_find_39 kc_X9_91 rfl ?_
          refine xi_ret ⟨_, rfl, rfl, dX9_find_41⟩ (Nat.zero_le _) (Nat.zero_le _) ?_
          exact xs_finM (σ' := σ) hp (by simp only [xs_find1, xs_onE, xs_onP, xs_fn, xs_an, Bool.not_false, Bool.not_true, Bool.true_or, Bool.false_or, Bool.and_true, Bool.true_and, Bool.and_false, Bool.false_and, Bool.false_eq_true, if_true, if_false, ↓reduceIte, g_9, g_16, g_28, g_36, xs_kk0 (k := kp) (by omega)] <;> rfl) _ (xs_Mx (σ' := σ) hM hR (fa := (upd (C 83) 0 0)) ((va_up_self _ _ _).trans rfl) (fun j hj => (pk_un (by omega)).trans (rfl)) ((va_up_ne _ _ (by omega)).trans (xs_M88 hM)) (fun _ _ => rfl) ((va_up_ne _ _ (by omega)).trans (xs_M94 hM)) ((va_up_ne _ _ (by omega)).trans (xs_M95 hM)) ((va_up_ne _ _ (by omega)).trans (xs_M96 hM)) ((va_up_ne _ _ (by omega)).trans (xs_M97 hM)) ((va_up_ne _ _ (by omega)).trans (xs_M98 hM)) ((va_up_ne _ _ (by omega)).trans (xs_M99 hM)) (fun i i1 i2 i3 i4 => ((va_up_ne _ _ (by omega)).trans (Eq.refl _))) (fun _ _ _ => rfl) hR.2) (fun i hi => ((va_up_ne _ _ (by omega)).trans (Eq.refl _)))

