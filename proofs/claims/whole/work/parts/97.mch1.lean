section
variable {C C' : Nat → Nat → Int32} {σ : xs_Sg}
theorem xs_Rfd {x : Int32} (H : xs_MRa σ C) : xs_MRa (xs_fd σ x) C := xs_MRak H xs_fdo (fun _ _ => rfl) (fun _ _ => rfl) (fun _ _ _ _ => rfl)
theorem xs_Rsh {j : Nat} {t l sz : Int32} {it : Nat → Int32} (H : xs_MRa σ C) (e84 : ∀ s, s < 8 → C' 84 s = if s = j then (if t = 0 then -1 else l) else C 84 s) (e85 : ∀ s, s < 8 → C' 85 s = if s = j then sz else C 85 s) (e86 : ∀ k, k < 60 → C' 86 (60 * j + k) = it k) (e86o : ∀ s k, s < 8 → s ≠ j → k < 60 → C' 86 (60 * s + k) = C 86 (60 * s + k)) (h83 : ∀ i, 3 < i → C' 83 i = C 83 i) (ho : ∀ i, 86 < i → C' i = C i) : xs_MRa (xs_sh σ j t l sz it) C' := by
  refine ⟨fun s hs => ?_, xs_MRek H.2.1 (fun f o h1 h2 => xs_sho σ j t l sz it (Or.inr (by omega))) (ho _ (by omega)) (fun x _ => by rw [ho 88 (by omega)]), xs_MRck H.2.2.1 (fun f o h1 h2 => xs_sho σ j t l sz it (Or.inr (by omega))) (ho _ (by omega)) (ho _ (by omega)) (ho _ (by omega)) (ho _ (by omega)), xs_MRfk H.2.2.2.1 (fun f o h1 h2 => xs_sho σ j t l sz it (Or.inr (by omega))) (fun i hi => h83 i (by omega)) (ho _ (by omega)), xs_MRpk H.2.2.2.2 (fun f o h1 h2 => xs_sho σ j t l sz it (Or.inr (by omega))) (h83 _ (by omega)) (ho _ (by omega)) (ho _ (by omega)) (ho _ (by omega))⟩
  by_cases z : s = j
  · subst z
    have q := xs_shs σ s t l sz it
    rw [q.1, q.2.1, q.2.2.1, q.2.2.2, e84 s hs, e85 s hs, if_pos rfl, if_pos rfl]
    exact ⟨rfl, rfl, e86⟩
  · rw [xs_sho (fe := 0) σ j t l sz it (Or.inl z), xs_sho (fe := 1) σ j t l sz it (Or.inl z), xs_sho (fe := 2) σ j t l sz it (Or.inl z), xs_sho (fe := 3) σ j t l sz it (Or.inl z), e84 s hs, e85 s hs, if_neg z, if_neg z]
    exact ⟨(H.1 s hs).1, (H.1 s hs).2.1, fun k hk => (e86o s k hs z hk).trans ((H.1 s hs).2.2 k hk)⟩
theorem xs_Ren {j : Nat} {nf : Nat → Int32} {s t : Int32} (H : xs_MRa σ C) (e87 : ∀ p, p < 6 → C' 87 p = if p = j then t else C 87 p) (e88 : ∀ x, x < 11 → C' 88 (12 * j + x) = nf x) (e11 : C' 88 (12 * j + 11) = s) (e88o : ∀ x, x < 72 → x < 12 * j ∨ 12 * j + 12 ≤ x → C' 88 x = C 88 x) (h83 : ∀ i, 3 < i → C' 83 i = C 83 i) (ho : ∀ i, 84 ≤ i → i ≠ 87 → i ≠ 88 → i < 94 ∨ 99 < i → C' i = C i) : xs_MRa (xs_en σ j nf s t) C' := by
  refine ⟨xs_MRsk H.1 (fun f o h1 => xs_eno σ j s t nf (Or.inr (by omega))) (ho _ (by omega) (by omega) (by omega) (by omega)) (ho _ (by omega) (by omega) (by omega) (by omega)) (ho _ (by omega) (by omega) (by omega) (by omega)), fun p hp => ?_, xs_MRck H.2.2.1 (fun f o h1 h2 => xs_eno σ j s t nf (Or.inr (by omega))) (ho _ (by omega) (by omega) (by omega) (by omega)) (ho _ (by omega) (by omega) (by omega) (by omega)) (ho _ (by omega) (by omega) (by omega) (by omega)) (ho _ (by omega) (by omega) (by omega) (by omega)), xs_MRfk H.2.2.2.1 (fun f o h1 h2 => xs_eno σ j s t nf (Or.inr (by omega))) (fun i hi => h83 i (by omega)) (ho _ (by omega) (by omega) (by omega) (by omega)), xs_MRpk H.2.2.2.2 (fun f o h1 h2 => xs_eno σ j s t nf (Or.inr (by omega))) (h83 _ (by omega)) (ho _ (by omega) (by omega) (by omega) (by omega)) (ho _ (by omega) (by omega) (by omega) (by omega)) (ho _ (by omega) (by omega) (by omega) (by omega))⟩
  by_cases z : p = j
  · subst z
    have q := xs_ens σ p s t nf
    rw [q.1, q.2.1, q.2.2, e87 p hp, if_pos rfl]
    exact ⟨rfl, e11, e88⟩
  · rw [xs_eno (fe := 4) σ j s t nf (Or.inl z), xs_eno (fe := 5) σ j s t nf (Or.inl z), xs_eno (fe := 6) σ j s t nf (Or.inl z), e87 p hp, if_neg z]
    exact ⟨(H.2.1 p hp).1, (e88o _ (by omega) (by omega)).trans (H.2.1 p hp).2.1, fun x hx => (e88o _ (by omega) (by omega)).trans ((H.2.1 p hp).2.2 x hx)⟩
theorem xs_Rca {j : Nat} {kp nt bo : Int32} {ci : Nat → Int32} (H : xs_MRa σ C) (e89 : ∀ p, p < 6 → C' 89 p = if p = j then kp else C 89 p) (e90 : ∀ p, p < 6 → C' 90 p = if p = j then nt else C 90 p) (e91 : ∀ p, p < 6 → C' 91 p = if p = j then bo else C 91 p) (e92 : ∀ k, k < 48 → C' 92 (48 * j + k) = ci k) (e92o : ∀ p k, p < 6 → p ≠ j → k < 48 → C' 92 (48 * p + k) = C 92 (48 * p + k)) (h83 : ∀ i, 3 < i → C' 83 i = C 83 i) (h88 : ∀ x, x < 72 → C' 88 x = C 88 x) (ho : ∀ i, 84 ≤ i → i < 88 ∨ 92 < i → i < 94 ∨ 99 < i → C' i = C i) : xs_MRa (xs_ca σ j kp nt bo ci) C' := by
  refine ⟨xs_MRsk H.1 (fun f o h1 => xs_cao σ j kp nt bo ci (Or.inr (by omega))) (ho _ (by omega) (by omega) (by omega)) (ho _ (by omega) (by omega) (by omega)) (ho _ (by omega) (by omega) (by omega)), xs_MRek H.2.1 (fun f o h1 h2 => xs_cao σ j kp nt bo ci (Or.inr (by omega))) (ho _ (by omega) (by omega) (by omega)) h88, fun p hp => ?_, xs_MRfk H.2.2.2.1 (fun f o h1 h2 => xs_cao σ j kp nt bo ci (Or.inr (by omega))) (fun i hi => h83 i (by omega)) (ho _ (by omega) (by omega) (by omega)), xs_MRpk H.2.2.2.2 (fun f o h1 h2 => xs_cao σ j kp nt bo ci (Or.inr (by omega))) (h83 _ (by omega)) (ho _ (by omega) (by omega) (by omega)) (ho _ (by omega) (by omega) (by omega)) (ho _ (by omega) (by omega) (by omega))⟩
  by_cases z : p = j
  · subst z
    have q := xs_cas σ p kp nt bo ci
    rw [q.1, q.2.1, q.2.2.1, q.2.2.2, e89 p hp, e90 p hp, e91 p hp, if_pos rfl, if_pos rfl, if_pos rfl]
    exact ⟨rfl, rfl, rfl, e92⟩
  · rw [xs_cao (fe := 7) σ j kp nt bo ci (Or.inl z), xs_cao (fe := 8) σ j kp nt bo ci (Or.inl z), xs_cao (fe := 9) σ j kp nt bo ci (Or.inl z), xs_cao (fe := 10) σ j kp nt bo ci (Or.inl z), e89 p hp, e90 p hp, e91 p hp, if_neg z, if_neg z, if_neg z]
    exact ⟨(H.2.2.1 p hp).1, (H.2.2.1 p hp).2.1, (H.2.2.1 p hp).2.2.1, fun k hk => (e92o p k hp z hk).trans ((H.2.2.1 p hp).2.2.2 k hk)⟩
theorem xs_Rfi {g : Nat → Int32} (H : xs_MRa σ C) (e : ∀ j, j < 6 → C' 83 (5 + j) = g j) (e4 : C' 83 4 = C 83 4) (e11 : C' 83 11 = C 83 11) (h88 : ∀ x, x < 72 → C' 88 x = C 88 x) (ho : ∀ i, 84 ≤ i → i ≠ 88 → i < 94 ∨ 99 < i → C' i = C i) : xs_MRa (xs_fi σ g) C' := by
  have hs : ∀ f o, f ≠ 13 → xs_fi σ g f o = σ f o := fun f o hf => xs_pto (by omega)
  refine ⟨xs_MRsk H.1 (fun f o h1 => hs f o (by omega)) (ho _ (by omega) (by omega) (by omega)) (ho _ (by omega) (by omega) (by omega)) (ho _ (by omega) (by omega) (by omega)), xs_MRek H.2.1 (fun f o h1 h2 => hs f o (by omega)) (ho _ (by omega) (by omega) (by omega)) h88, xs_MRck H.2.2.1 (fun f o h1 h2 => hs f o (by omega)) (ho _ (by omega) (by omega) (by omega)) (ho _ (by omega) (by omega) (by omega)) (ho _ (by omega) (by omega) (by omega)) (ho _ (by omega) (by omega) (by omega)), ?_, xs_MRpk H.2.2.2.2 (fun f o h1 h2 => hs f o (by omega)) e4 (ho _ (by omega) (by omega) (by omega)) (ho _ (by omega) (by omega) (by omega)) (ho _ (by omega) (by omega) (by omega))⟩
  unfold xs_MRf
  rw [hs 14 0 (by omega), hs 15 0 (by omega), e11, ho 103 (by omega) (by omega) (by omega), show xs_fi σ g 13 0 = g from xs_pts _ _ _ _]
  exact ⟨H.2.2.2.1.1, e⟩
theorem xs_Rtr {m : Int32} {g : Nat → Int32} (H : xs_MRa σ C) (e11 : C' 83 11 = m) (e103 : ∀ i, i < 16 → C' 103 i = g i) (e : ∀ j, 3 < j → j < 11 → C' 83 j = C 83 j) (h88 : ∀ x, x < 72 → C' 88 x = C 88 x) (ho : ∀ i, 84 ≤ i → i ≠ 88 → i < 94 ∨ 99 < i → i ≠ 103 → C' i = C i) : xs_MRa (xs_tn (xs_tr σ g) m) C' := by
  have hs : ∀ f o, f ≠ 14 → f ≠ 15 → xs_tn (xs_tr σ g) m f o = σ f o := fun f o h1 h2 => (xs_pto (by omega)).trans (xs_pto (by omega))
  refine ⟨xs_MRsk H.1 (fun f o h1 => hs f o (by omega) (by omega)) (ho _ (by omega) (by omega) (by omega) (by omega)) (ho _ (by omega) (by omega) (by omega) (by omega)) (ho _ (by omega) (by omega) (by omega) (by omega)), xs_MRek H.2.1 (fun f o h1 h2 => hs f o (by omega) (by omega)) (ho _ (by omega) (by omega) (by omega) (by omega)) h88, xs_MRck H.2.2.1 (fun f o h1 h2 => hs f o (by omega) (by omega)) (ho _ (by omega) (by omega) (by omega) (by omega)) (ho _ (by omega) (by omega) (by omega) (by omega)) (ho _ (by omega) (by omega) (by omega) (by omega)) (ho _ (by omega) (by omega) (by omega) (by omega)), ?_, xs_MRpk H.2.2.2.2 (fun f o h1 h2 => hs f o (by omega) (by omega)) (e _ (by omega) (by omega)) (ho _ (by omega) (by omega) (by omega) (by omega)) (ho _ (by omega) (by omega) (by omega) (by omega)) (ho _ (by omega) (by omega) (by omega) (by omega))⟩
  unfold xs_MRf
  rw [hs 13 0 (by omega) (by omega), show xs_tn (xs_tr σ g) m 14 0 = (fun _ => m) from xs_pts _ _ _ _, show xs_tn (xs_tr σ g) m 15 0 = g from (xs_pto (by omega)).trans (xs_pts _ _ _ _)]
  exact ⟨⟨e11, e103⟩, fun j hj => (e _ (by omega) (by omega)).trans (H.2.2.2.1.2 j hj)⟩
end
theorem xn_has1 {i sz : Int32} (hz : 0 ≤ sz.toInt ∧ sz.toInt ≤ 60) : (0 ≤ i ∧ i ≤ sz - 1) ↔ xs_has i 1 sz = true := by
  unfold xs_has
  rw [Bool.and_eq_true, Bool.and_eq_true, Bool.and_eq_true, decide_eq_true_eq, decide_eq_true_eq, decide_eq_true_eq, decide_eq_true_eq, xn_le, xn_le, xn_le, xn_le, xn_sub (by rw [show (1 : Int32).toInt = 1 from rfl]; omega) (by rw [show (1 : Int32).toInt = 1 from rfl]; omega), show (0 : Int32).toInt = 0 from rfl, show (1 : Int32).toInt = 1 from rfl]
  omega
set_option maxRecDepth 20000 in
set_option maxHeartbeats 2000000 in
/-- sheet -/
theorem xm_X9_sheet : xv_K yX9_sheet mX9_sheet (fun as h n Post => ∃ (σ : xs_Sg) (s : Int32) (l : Int32) (z : Int32), as = [.ref 83, .int s, .int l, .int z] ∧ (xs_Mo h σ) ∧ (103 < n) ∧ (xs_V σ) ∧ xs_DM h n Post (xs_sheet σ s l z)) := by
  refine xv_entry (by decide +kernel) rfl (fun h => absurd h (by decide)) ?_
  rintro X _ h n Post ⟨σ, s, l, z, rfl, ⟨C, dk, hM, hR⟩, h103, hV, hp⟩
  refine ⟨Nat.le_of_ble_eq_true rfl, ?_⟩
  show xv_V X mX9_sheet Post 0 0 0 [(0, .ref 83), (1, .int s), (2, .int l), (3, .int z)] [] h n
  refine xi_aload_n (q := 1) dX9_sheet_0 rfl rfl ?_
  refine xi_iconst (x := 0) (q := 2) dX9_sheet_1 (by decide) rfl ?_
  refine xi_putf (q := 5) dX9_sheet_2 fl_X9_71 ⟨by omega, (xs_M83 hM)⟩ (Or.inl rfl) (fun _ => rfl) (fun _ => rfl) (Nat.le_of_ble_eq_true rfl) rfl ?_
  refine xi_iload_n (q := 6) dX9_sheet_5 rfl rfl ?_
  refine xv_cS1 (q := 9) xm_X9_isSheet ln_X9_85 dX9_sheet_6 ⟨(Nat.le_of_ble_eq_true rfl), (Nat.le_of_ble_eq_true rfl)⟩ (Nat.le_of_ble_eq_true rfl) ⟨rfl, rfl⟩ rfl (Nat.zero_le _) (Nat.zero_le _) ?_
  refine ⟨_, rfl, ?_⟩
  refine xi_if_eq (q := 12) (q2 := 30) dX9_sheet_9 (by decide) rfl (fun c_9 => ?_) (fun c_9 => ?_)
  · have g_9 : xs_i s 0 7 = false := decide_eq_false (xn_b0 c_9)
    refine xi_ldc (q := 32) dX9_sheet_30 kc_X9_91 rfl ?_
    refine xi_ret ⟨_, rfl, rfl, dX9_sheet_32⟩ (Nat.zero_le _) (Nat.zero_le _) ?_
    exact xs_finM (σ' := σ) hp (by simp only [xs_sheet, xs_onE, xs_onP, xs_fn, xs_an, Bool.not_false, Bool.not_true, Bool.true_or, Bool.false_or, Bool.and_true, Bool.true_and, Bool.and_false, Bool.false_and, Bool.false_eq_true, if_true, if_false, ↓reduceIte, g_9] <;> rfl) _ (xs_Mx (σ' := σ) hM hR (fa := (upd (C 83) 0 0)) ((va_up_self _ _ _).trans rfl) (fun j hj => (pk_un (by omega)).trans (rfl)) ((va_up_ne _ _ (by omega)).trans (xs_M88 hM)) (fun _ _ => rfl) ((va_up_ne _ _ (by omega)).trans (xs_M94 hM)) ((va_up_ne _ _ (by omega)).trans (xs_M95 hM)) ((va_up_ne _ _ (by omega)).trans (xs_M96 hM)) ((va_up_ne _ _ (by omega)).trans (xs_M97 hM)) ((va_up_ne _ _ (by omega)).trans (xs_M98 hM)) ((va_up_ne _ _ (by omega)).trans (xs_M99 hM)) (fun i i1 i2 i3 i4 => ((va_up_ne _ _ (by omega)).trans (Eq.refl _))) (fun _ _ _ => rfl) hR.2) (fun i hi => ((va_up_ne _ _ (by omega)).trans (Eq.refl _)))
  · have g_9 : xs_i s 0 7 = true := decide_eq_true (xn_b1 c_9)
    obtain ⟨ks, hks, rfl⟩ := xn_pk (m := 7) (by omega) (xn_b1 c_9)
    refine xi_iload_n (q := 13) dX9_sheet_12 rfl rfl ?_
    refine xi_i2l (q := 14) dX9_sheet_13 rfl ?_
    refine xi_lconst (x := 0) (q := 15) dX9_sheet_14 (by decide) rfl ?_
    refine xi_ldc2 (q := 18) dX9_sheet_15 kc_X9_89 rfl ?_
    refine xv_cS3 (q := 21) xm_X9_in ln_X9_81 dX9_sheet_18 ⟨(Nat.le_of_ble_eq_true rfl), (Nat.le_of_ble_eq_true rfl)⟩ (Nat.le_of_ble_eq_true rfl) ⟨rfl, rfl⟩ rfl (Nat.zero_le _) (Nat.zero_le _) ?_
    refine ⟨l, 0, 2, rfl, ?_⟩
    refine xi_if_eq (q := 24) (q2 := 30) dX9_sheet_21 (by decide) rfl (fun c_21 => ?_) (fun c_21 => ?_)
    · have g_21 : xs_i l 0 2 = false := decide_eq_false (xn_b0 c_21)
      refine xi_ldc (q := 32) dX9_sheet_30 kc_X9_91 rfl ?_
      refine xi_ret ⟨_, rfl, rfl, dX9_sheet_32⟩ (Nat.zero_le _) (Nat.zero_le _) ?_
      exact xs_finM (σ' := σ) hp (by simp only [xs_sheet, xs_onE, xs_onP, xs_fn, xs_an, Bool.not_false, Bool.not_true, Bool.true_or, Bool.false_or, Bool.and_true, Bool.true_and, Bool.and_false, Bool.false_and, Bool.false_eq_true, if_true, if_false, ↓reduceIte, g_9, g_21, xs_kk0 (k := ks) (by omega)] <;> rfl) _ (xs_Mx (σ' := σ) hM hR (fa := (upd (C 83) 0 0)) ((va_up_self _ _ _).trans rfl) (fun j hj => (pk_un (by omega)).trans (rfl)) ((va_up_ne _ _ (by omega)).trans (xs_M88 hM)) (fun _ _ => rfl) ((va_up_ne _ _ (by omega)).trans (xs_M94 hM)) ((va_up_ne _ _ (by omega)).trans (xs_M95 hM)) ((va_up_ne _ _ (by omega)).trans (xs_M96 hM)) ((va_up_ne _ _ (by omega)).trans (xs_M97 hM)) ((va_up_ne _ _ (by omega)).trans (xs_M98 hM)) ((va_up_ne _ _ (by omega)).trans (xs_M99 hM)) (fun i i1 i2 i3 i4 => ((va_up_ne _ _ (by omega)).trans (Eq.refl _))) (fun _ _ _ => rfl) hR.2) (fun i hi => ((va_up_ne _ _ (by omega)).trans (Eq.refl _)))
    · have g_21 : xs_i l 0 2 = true := decide_eq_true (xn_b1 c_21)
      refine xi_iload_n (q := 25) dX9_sheet_24 rfl rfl ?_
      refine xi_bipush (x := 60) (q := 27) dX9_sheet_25 (by decide) rfl ?_
      refine xi_icmp_le (q := 30) (q2 := 33) dX9_sheet_27 (by decide) rfl (fun c_27 => ?_) (fun c_27 => ?_)
      · skip
        refine xi_aload_n (q := 34) dX9_sheet_33 rfl rfl ?_
        refine xi_iconst (x := 0) (q := 35) dX9_sheet_34 (by decide) rfl ?_
        refine xi_putf (q := 38) dX9_sheet_35 fl_X9_75 (xv_self (by omega)) (Or.inl rfl) (fun _ => rfl) (fun _ => rfl) (Nat.le_of_ble_eq_true rfl) rfl ?_
        refine xi_iload_n (q := 39) dX9_sheet_38 rfl rfl ?_
        refine xi_if_ge (q := 42) (q2 := 48) dX9_sheet_39 (by decide) rfl (fun c_39 => ?_) (fun c_39 => ?_)
        · have y39 : 0 ≤ z := c_39
          refine xi_aload_n (q := 49) dX9_sheet_48 rfl rfl ?_
          refine xi_getf (q := 52) dX9_sheet_49 fl_X9_7 (xv_self (by omega)) rfl rfl ?_
          refine xi_iload_n (q := 53) dX9_sheet_52 rfl rfl ?_
          refine xi_iload_n (q := 54) dX9_sheet_53 rfl rfl ?_
          refine xi_iast (q := 55) dX9_sheet_54 (xv_keep (by omega) (xv_keep (by omega) ⟨by omega, (xs_M84 hM)⟩)) (xv_ixN (by omega) (by omega)) rfl ?_
          refine xi_aload_n (q := 56) dX9_sheet_55 rfl rfl ?_
          refine xi_getf (q := 59) dX9_sheet_56 fl_X9_13 (xv_keep (by omega) (xv_self (by omega))) rfl rfl ?_
          refine xi_iload_n (q := 60) dX9_sheet_59 rfl rfl ?_
          refine xi_iload_n (q := 61) dX9_sheet_60 rfl rfl ?_
          refine xi_iast (q := 62) dX9_sheet_61 (xv_keep (by omega) (xv_keep (by omega) (xv_keep (by omega) ⟨by omega, (xs_M85 hM)⟩))) (xv_ixN (by omega) (by omega)) rfl ?_
          refine xi_iconst (x := 0) (q := 63) dX9_sheet_62 (by decide) rfl ?_
          refine xi_istore (q := 65) dX9_sheet_63 (Nat.le_of_ble_eq_true rfl) rfl ?_
          refine xv_weakS (lv' := [(0, .ref 83), (1, .int (nI ks)), (3, .int z), (4, .int (nI 0))]) ⟨rfl, rfl, rfl, rfl, trivial⟩ ?_
          refine xv_lpH (lv := fun k => [(0, .ref 83), (1, .int (nI ks)), (3, .int z), (4, .int (nI k))]) (I := fun k hI => ∃ (dI : Int64) (g86 : Nat → Int32), hI 83 = xs_mo (upd (upd (C 83) 0 0) 1 0) dI ∧ hI 84 = xs_ia 8 (upd (C 84) ks l) ∧ hI 85 = xs_ia 8 (upd (C 85) ks z) ∧ hI 86 = xs_ia 480 g86 ∧ (∀ x, x < 480 → g86 x = if 60 * ks ≤ x ∧ x < 60 * ks + k then 0 else C 86 x) ∧ ∀ i, i ≠ 83 → i ≠ 84 → i ≠ 85 → i ≠ 86 → hI i = h i) (N := 60) (fun k h65 hk I65 ih65 => ?_) 0 _ (by omega) ⟨_, _, ((va_up_ne _ _ (by omega)).trans ((va_up_ne _ _ (by omega)).trans ((va_up_self _ _ _).trans rfl))), ((va_up_ne _ _ (by omega)).trans ((va_up_self _ _ _).trans rfl)), ((va_up_self _ _ _).trans rfl), ((va_up_ne _ _ (by omega)).trans ((va_up_ne _ _ (by omega)).trans ((va_up_ne _ _ (by omega)).trans ((va_up_ne _ _ (by omega)).trans (xs_M86 hM))))), (fun x hx => (if_neg (by omega)).symm), fun i _ _ _ _ => ((va_up_ne _ _ (by omega)).trans ((va_up_ne _ _ (by omega)).trans ((va_up_ne _ _ (by omega)).trans ((va_up_ne _ _ (by omega)).trans (Eq.refl _)))))⟩
          show xv_V X mX9_sheet Post 0 0 65 [(0, .ref 83), (1, .int (nI ks)), (3, .int z), (4, .int (nI k))] [] h65 n
          obtain ⟨d65, g86_65, p83_65, p84_65, p85_65, p86_65, x65, F65⟩ := I65
          refine xi_iload (q := 67) dX9_sheet_65 rfl rfl ?_
          refine xi_bipush (x := 60) (q := 69) dX9_sheet_67 (by decide) rfl ?_
          refine xi_icmp_ge (q := 72) (q2 := 91) dX9_sheet_69 (by decide) rfl (fun c_69 => ?_) (fun c_69 => ?_)
          · have hk2 : k = 60 := by have z : 60 ≤ k := xn_leN c_69 (by omega) (by omega); omega
            subst hk2
            refine xi_iload_n (q := 92) dX9_sheet_91 rfl rfl ?_
            refine xi_ret ⟨_, rfl, rfl, dX9_sheet_92⟩ (Nat.zero_le _) (Nat.zero_le _) ?_
            exact xs_finM (σ' := (xs_fd (xs_sh σ ks 1 l z fun _ => 0) 0)) hp (by simp only [xs_sheet, xs_onE, xs_onP, xs_fn, xs_an, Bool.not_false, Bool.not_true, Bool.true_or, Bool.false_or, Bool.and_true, Bool.true_and, Bool.and_false, Bool.false_and, Bool.false_eq_true, if_true, if_false, ↓reduceIte, g_9, g_21, decide_eq_true c_27, eq_true y39, if_pos y39, xs_kk0 (k := ks) (by omega)] <;> rfl) _ ⟨(xs_cu (xs_cu (xs_cu (xs_cu C 83 (upd (upd (C 83) 0 0) 1 0)) 84 (upd (C 84) ks l)) 85 (upd (C 85) ks z)) 86 g86_65), _, ⟨p83_65, p84_65, p85_65, p86_65, ((F65 87 (by omega) (by omega) (by omega) (by omega)).trans (xs_M87 (C := C) hM)), ((F65 88 (by omega) (by omega) (by omega) (by omega)).trans (xs_M88 (C := C) hM)), ((F65 89 (by omega) (by omega) (by omega) (by omega)).trans (xs_M89 (C := C) hM)), ((F65 90 (by omega) (by omega) (by omega) (by omega)).trans (xs_M90 (C := C) hM)), ((F65 91 (by omega) (by omega) (by omega) (by omega)).trans (xs_M91 (C := C) hM)), ((F65 92 (by omega) (by omega) (by omega) (by omega)).trans (xs_M92 (C := C) hM)), ((F65 93 (by omega) (by omega) (by omega) (by omega)).trans (xs_M93 (C := C) hM)), ((F65 94 (by omega) (by omega) (by omega) (by omega)).trans (xs_M94 (C := C) hM)), ((F65 95 (by omega) (by omega) (by omega) (by omega)).trans (xs_M95 (C := C) hM)), ((F65 96 (by omega) (by omega) (by omega) (by omega)).trans (xs_M96 (C := C) hM)), ((F65 97 (by omega) (by omega) (by omega) (by omega)).trans (xs_M97 (C := C) hM)), ((F65 98 (by omega) (by omega) (by omega) (by omega)).trans (xs_M98 (C := C) hM)), ((F65 99 (by omega) (by omega) (by omega) (by omega)).trans (xs_M99 (C := C) hM)), ((F65 100 (by omega) (by omega) (by omega) (by omega)).trans (xs_M100 (C := C) hM)), ((F65 101 (by omega) (by omega) (by omega) (by omega)).trans (xs_M101 (C := C) hM)), ((F65 102 (by omega) (by omega) (by omega) (by omega)).trans (xs_M102 (C := C) hM)), ((F65 103 (by omega) (by omega) (by omega) (by omega)).trans (xs_M103 (C := C) hM))⟩, ⟨xs_Rfd (xs_Rsh (j := ks) (t := 1) hR.1 (fun s hs => by show upd (C 84) ks l s = _; unfold upd; rw [if_neg (show ¬ (1 : Int32) = 0 by decide)]) (fun s hs => rfl) (fun k hk => by show g86_65 (60 * ks + k) = 0; rw [x65 _ (by omega), if_pos (by omega)]) (fun s k hs hsk hk => by show g86_65 (60 * s + k) = _; rw [x65 _ (by omega), if_neg (by omega)]) (fun i hi => (pk_un (by omega)).trans ((pk_un (by omega)).trans (rfl))) (fun i hi => (by rw [xs_cuo (by omega), xs_cuo (by omega), xs_cuo (by omega), xs_cuo (by omega)]))), rfl⟩⟩ (fun i hi => (F65 i (by omega) (by omega) (by omega) (by omega)))
          · have hk2 : k < 60 := xn_nleN c_69 (by omega) (by omega)
            refine xi_aload_n (q := 73) dX9_sheet_72 rfl rfl ?_
            refine xi_getf (q := 76) dX9_sheet_73 fl_X9_16 ⟨by omega, p83_65⟩ rfl rfl ?_
            refine xi_bipush (x := 60) (q := 78) dX9_sheet_76 (by decide) rfl ?_
            refine xi_iload_n (q := 79) dX9_sheet_78 rfl rfl ?_
            refine xi_imul (q := 80) dX9_sheet_79 rfl ?_
            refine xi_iload (q := 82) dX9_sheet_80 rfl rfl ?_
            refine xi_iadd (q := 83) dX9_sheet_82 rfl ?_
            refine xi_iconst (x := 0) (q := 84) dX9_sheet_83 (by decide) rfl ?_
            refine xi_iast (q := 85) dX9_sheet_84 ⟨by omega, p86_65⟩ (xn_ixM (a := 60) (p := ks) (k := k) (by omega) (by omega)) rfl ?_
            refine xi_iinc (y := nI (k + 1)) (q := 88) dX9_sheet_85 rfl (xn_inc k) (Nat.le_of_ble_eq_true rfl) rfl ?_
            refine xi_goto (q := 65) dX9_sheet_88 (by decide) ?_
            refine xv_weakS (lv' := [(0, .ref 83), (1, .int (nI ks)), (3, .int z), (4, .int (nI (k + 1)))]) ⟨rfl, rfl, rfl, rfl, trivial⟩ ?_
            exact ih65 _ (by omega) ⟨_, _, ((va_up_ne _ _ (by omega)).trans p83_65), ((va_up_ne _ _ (by omega)).trans p84_65), ((va_up_ne _ _ (by omega)).trans p85_65), ((va_up_self _ _ _).trans rfl), (fun x hx => by
                  by_cases e : x = 60 * ks + k
                  · rw [e, pk_us, if_pos (by omega)]
                  · rw [pk_un e, x65 x hx]
                    by_cases y : 60 * ks ≤ x ∧ x < 60 * ks + k
                    · rw [if_pos y, if_pos (by omega)]
                    · rw [if_neg y, if_neg (by omega)]), fun i _ _ _ _ => ((va_up_ne _ _ (by omega)).trans (F65 i (by omega) (by omega) (by omega) (by omega)))⟩
        · have y39 : ¬ 0 ≤ z := c_39
          refine xi_aload_n (q := 43) dX9_sheet_42 rfl rfl ?_
          refine xi_iconst (x := 4) (q := 44) dX9_sheet_43 (by decide) rfl ?_
          refine xv_cV1 (q := 47) xm_X9_found ln_X9_92 dX9_sheet_44 (xv_self (by omega)) rfl ⟨(Nat.le_of_ble_eq_true rfl), (Nat.le_of_ble_eq_true rfl)⟩ (Nat.le_of_ble_eq_true rfl) ⟨rfl, rfl⟩ rfl (Nat.zero_le _) (Nat.zero_le _) ?_
          refine ⟨(upd (upd (C 83) 0 0) 1 0), dk, 4, rfl, ((va_up_self _ _ _).trans rfl), by omega, fun h44 p44 f44 => ?_⟩
          have Fh44 : ∀ i, i ≠ 83 → h44 i = h i := fun i j83 => (f44 i (by omega)).trans ((va_up_ne _ _ (by omega)).trans ((va_up_ne _ _ (by omega)).trans (Eq.refl _)))
          refine xi_ret ⟨_, rfl, rfl, dX9_sheet_47⟩ (Nat.zero_le _) (Nat.zero_le _) ?_
          exact xs_finM (σ' := (xs_fd σ 4)) hp (by simp only [xs_sheet, xs_onE, xs_onP, xs_fn, xs_an, Bool.not_false, Bool.not_true, Bool.true_or, Bool.false_or, Bool.and_true, Bool.true_and, Bool.and_false, Bool.false_and, Bool.false_eq_true, if_true, if_false, ↓reduceIte, g_9, g_21, decide_eq_true c_27, eq_false y39, xs_kk0 (k := ks) (by omega)] <;> rfl) _ (xs_Mx (σ' := (xs_fd σ 4)) hM hR (fa := (upd (upd (upd (C 83) 0 0) 1 0) 1 4)) p44 (fun j hj => (pk_un (by omega)).trans ((pk_un (by omega)).trans ((pk_un (by omega)).trans (rfl)))) ((Fh44 88 (by omega)).trans (xs_M88 hM)) (fun _ _ => rfl) ((Fh44 94 (by omega)).trans (xs_M94 hM)) ((Fh44 95 (by omega)).trans (xs_M95 hM)) ((Fh44 96 (by omega)).trans (xs_M96 hM)) ((Fh44 97 (by omega)).trans (xs_M97 hM)) ((Fh44 98 (by omega)).trans (xs_M98 hM)) ((Fh44 99 (by omega)).trans (xs_M99 hM)) (fun i i1 i2 i3 i4 => (Fh44 i (by omega))) xs_fdo rfl) (fun i hi => (Fh44 i (by omega)))
      · skip
        refine xi_ldc (q := 32) dX9_sheet_30 kc_X9_91 rfl ?_
        refine xi_ret ⟨_, rfl, rfl, dX9_sheet_32⟩ (Nat.zero_le _) (Nat.zero_le _) ?_
        exact xs_finM (σ' := σ) hp (by simp only [xs_sheet, xs_onE, xs_onP, xs_fn, xs_an, Bool.not_false, Bool.not_true, Bool.true_or, Bool.false_or, Bool.and_true, Bool.true_and, Bool.and_false, Bool.false_and, Bool.false_eq_true, if_true, if_false, ↓reduceIte, g_9, g_21, decide_eq_false c_27, xs_kk0 (k := ks) (by omega)] <;> rfl) _ (xs_Mx (σ' := σ) hM hR (fa := (upd (C 83) 0 0)) ((va_up_self _ _ _).trans rfl) (fun j hj => (pk_un (by omega)).trans (rfl)) ((va_up_ne _ _ (by omega)).trans (xs_M88 hM)) (fun _ _ => rfl) ((va_up_ne _ _ (by omega)).trans (xs_M94 hM)) ((va_up_ne _ _ (by omega)).trans (xs_M95 hM)) ((va_up_ne _ _ (by omega)).trans (xs_M96 hM)) ((va_up_ne _ _ (by omega)).trans (xs_M97 hM)) ((va_up_ne _ _ (by omega)).trans (xs_M98 hM)) ((va_up_ne _ _ (by omega)).trans (xs_M99 hM)) (fun i i1 i2 i3 i4 => ((va_up_ne _ _ (by omega)).trans (Eq.refl _))) (fun _ _ _ => rfl) hR.2) (fun i hi => ((va_up_ne _ _ (by omega)).trans (Eq.refl _)))

