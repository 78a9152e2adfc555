set_option maxRecDepth 20000 in
set_option maxHeartbeats 2000000 in
/-- drinkOf -/
theorem xm_X9_drinkOf : xv_K yX9_drinkOf mX9_drinkOf (fun as h n Post => ∃ (fa : Nat → Int32) (dk : Int64) (nu : Nat → Int32) (p : Nat) (m : Int32) (b : Int32) (g : Int32) (r0 : Nat → Int32), as = [.ref 83, .int (nI p), .int m, .int b, .int g] ∧ (xs_MW h fa dk nu) ∧ (103 < n) ∧ (p < 7) ∧ (xs_ok (xs_nr nu p)) ∧ (h 94 = xs_ia 48 r0) ∧ (∀ (h' : xv_H) (dk' : Int64) (r' : Nat → Int32), h' 83 = xs_mo fa dk' → h' 94 = xs_ia 48 r' → (∀ i, i ≠ 83 → i ≠ 94 → h' i = h i) → Post (some (.int (xs_drk (xs_nr nu p) (nu (12 * p + 11)) m (b * g / 4)))) h' n)) := by
  refine xv_entry (by decide +kernel) rfl (fun h => absurd h (by decide)) ?_
  rintro X _ h n Post ⟨fa, dk, nu, p, m, b, g, r0, rfl, hW, h103, hp7, hok, hpr, hp⟩
  refine ⟨Nat.le_of_ble_eq_true rfl, ?_⟩
  show xv_V X mX9_drinkOf Post 0 0 0 [(0, .ref 83), (1, .int (nI p)), (2, .int m), (3, .int b), (4, .int g)] [] h n
  refine xi_aload_n (q := 1) dX9_drinkOf_0 rfl rfl ?_
  refine xi_iload_n (q := 2) dX9_drinkOf_1 rfl rfl ?_
  refine xi_iload_n (q := 3) dX9_drinkOf_2 rfl rfl ?_
  refine xi_iload_n (q := 4) dX9_drinkOf_3 rfl rfl ?_
  refine xi_iload (q := 6) dX9_drinkOf_4 rfl rfl ?_
  refine xi_iconst (x := 0) (q := 7) dX9_drinkOf_6 (by decide) rfl ?_
  refine xv_cV5 (q := 10) xm_X9_draw ln_X9_215 dX9_drinkOf_7 ⟨by omega, hW.1⟩ rfl ⟨(Nat.le_of_ble_eq_true rfl), (Nat.le_of_ble_eq_true rfl)⟩ (Nat.le_of_ble_eq_true rfl) ⟨rfl, rfl⟩ rfl (Nat.zero_le _) (Nat.zero_le _) ?_
  refine ⟨fa, _, nu, p, m, b, g, 0, _, rfl, hW, h103, hp7, hok, hpr, fun h8 p1 p2 p3 => ?_⟩
  have hW8 : xs_MW h8 fa _ nu := ⟨p1, (p3 88 (by omega) (by omega)).trans hW.2.1, (p3 93 (by omega) (by omega)).trans hW.2.2⟩
  refine xi_aload_n (q := 11) dX9_drinkOf_10 rfl rfl ?_
  refine xi_getf (q := 14) dX9_drinkOf_11 fl_X9_194 ⟨by omega, p1⟩ rfl rfl ?_
  refine xi_lstore (q := 16) dX9_drinkOf_14 (Nat.le_of_ble_eq_true rfl) rfl ?_
  refine xi_aload_n (q := 17) dX9_drinkOf_16 rfl rfl ?_
  refine xi_iload_n (q := 18) dX9_drinkOf_17 rfl rfl ?_
  refine xi_iload_n (q := 19) dX9_drinkOf_18 rfl rfl ?_
  refine xi_iload_n (q := 20) dX9_drinkOf_19 rfl rfl ?_
  refine xi_iload (q := 22) dX9_drinkOf_20 rfl rfl ?_
  refine xi_iconst (x := 1) (q := 23) dX9_drinkOf_22 (by decide) rfl ?_
  refine xv_cV5 (q := 26) xm_X9_draw ln_X9_215 dX9_drinkOf_23 ⟨by omega, p1⟩ rfl ⟨(Nat.le_of_ble_eq_true rfl), (Nat.le_of_ble_eq_true rfl)⟩ (Nat.le_of_ble_eq_true rfl) ⟨rfl, rfl⟩ rfl (Nat.zero_le _) (Nat.zero_le _) ?_
  refine ⟨fa, _, nu, p, m, b, g, 1, _, rfl, hW8, h103, hp7, hok, p2, fun h9 q1 q2 q3 => ?_⟩
  refine xi_lload (q := 28) dX9_drinkOf_26 rfl rfl ?_
  refine xi_aload_n (q := 29) dX9_drinkOf_28 rfl rfl ?_
  refine xi_getf (q := 32) dX9_drinkOf_29 fl_X9_194 ⟨by omega, q1⟩ rfl rfl ?_
  refine xi_ladd (q := 33) dX9_drinkOf_32 rfl ?_
  refine xi_ldc2 (q := 36) dX9_drinkOf_33 kc_X9_165 rfl ?_
  refine xi_ldiv (q := 37) dX9_drinkOf_36 (by decide) rfl ?_
  refine xi_l2i (q := 38) dX9_drinkOf_37 rfl ?_
  refine xi_ret ⟨_, rfl, rfl, dX9_drinkOf_38⟩ (Nat.zero_le _) (Nat.zero_le _) ?_
  exact hp h9 _ _ q1 q2 (fun i i1 i2 => (q3 i i1 i2).trans (p3 i i1 i2))

theorem xs_wke {f : Nat → Int32} {s m B : Int32} : ((0 + xs_psL (xs_wk1 f s m B 0) 48 + xs_psL (xs_wk1 f s m B 1) 48) / 2000).toInt32 = xs_wrk f s m B := by
  unfold xs_wrk
  rw [Int64.zero_add]
set_option maxRecDepth 20000 in
set_option maxHeartbeats 2000000 in
/-- workOf -/
theorem xm_X9_workOf : xv_K yX9_workOf mX9_workOf (fun as h n Post => ∃ (fa : Nat → Int32) (dk : Int64) (nu : Nat → Int32) (p : Nat) (m : Int32) (b : Int32) (g : Int32) (r0 : Nat → Int32), as = [.ref 83, .int (nI p), .int m, .int b, .int g] ∧ (xs_MW h fa dk nu) ∧ (103 < n) ∧ (p < 7) ∧ (xs_ok (xs_nr nu p)) ∧ (h 94 = xs_ia 48 r0) ∧ (∀ (h' : xv_H) (dk' : Int64) (r' : Nat → Int32), h' 83 = xs_mo fa dk' → h' 94 = xs_ia 48 r' → (∀ i, i ≠ 83 → i ≠ 94 → h' i = h i) → Post (some (.int (xs_wrk (xs_nr nu p) (nu (12 * p + 11)) m (b * g / 4)))) h' n)) := by
  refine xv_entry (by decide +kernel) rfl (fun h => absurd h (by decide)) ?_
  rintro X _ h n Post ⟨fa, dk, nu, p, m, b, g, r0, rfl, hW, h103, hp7, hok, hpr, hp⟩
  refine ⟨Nat.le_of_ble_eq_true rfl, ?_⟩
  show xv_V X mX9_workOf Post 0 0 0 [(0, .ref 83), (1, .int (nI p)), (2, .int m), (3, .int b), (4, .int g)] [] h n
  obtain ⟨f, hf⟩ : ∃ f : Nat → Int32, f = xs_nr nu p := ⟨_, rfl⟩
  have hok0 : xs_ok0 (nu (12 * p + 0)) := hok.1
  rw [← hf] at hp
  have L26 : ∀ (SS : Int64) (d : Int32) (hh : xv_H) {dk2 : Int64}, xs_MW hh fa dk2 nu → hh 94 = xs_ia 48 (fun k => xs_cd f (nu (12 * p + 11)) m (b * g / 4) d k) → xv_V X mX9_workOf Post 0 0 99 [(0, .ref 83), (1, .int (nI p)), (2, .int m), (3, .int b), (4, .int g), (5, .long (SS + xs_psL (xs_wk1 f (nu (12 * p + 11)) m (b * g / 4) d) 48)), (7, .int d)] [] hh n → ∀ (dd k : Nat), k + dd = 48 → xv_V X mX9_workOf Post 0 0 26 [(0, .ref 83), (1, .int (nI p)), (2, .int m), (3, .int b), (4, .int g), (5, .long (SS + xs_psL (xs_wk1 f (nu (12 * p + 11)) m (b * g / 4) d) k)), (7, .int d), (8, .int (nI k))] [] hh n := by
    intro SS d hh dk2 hWh hprh hQ dd
    induction dd using Nat.strongRecOn with
    | _ dd ih =>
      intro k hk
      refine xi_iload (q := 28) dX9_workOf_26 rfl rfl ?_
      refine xi_bipush (x := 48) (q := 30) dX9_workOf_28 (by decide) rfl ?_
      refine xi_icmp_ge (q := 33) (q2 := 99) dX9_workOf_30 (by decide) rfl (fun c_30 => ?_) (fun c_30 => ?_)
      · have hk2 : k = 48 := by have z : 48 ≤ k := xn_leN c_30 (by omega) (by omega); omega
        subst hk2
        refine xv_weakS (lv' := [(0, .ref 83), (1, .int (nI p)), (2, .int m), (3, .int b), (4, .int g), (5, .long (SS + xs_psL (xs_wk1 f (nu (12 * p + 11)) m (b * g / 4) d) 48)), (7, .int d)]) ⟨rfl, rfl, rfl, rfl, rfl, rfl, rfl, trivial⟩ ?_
        exact hQ
      · have hk2 : k < 48 := xn_nleN c_30 (by omega) (by omega)
        refine xi_aload_n (q := 34) dX9_workOf_33 rfl rfl ?_
        refine xi_iload_n (q := 35) dX9_workOf_34 rfl rfl ?_
        refine xi_iload (q := 37) dX9_workOf_35 rfl rfl ?_
        refine xi_iconst (x := 1) (q := 38) dX9_workOf_37 (by decide) rfl ?_
        refine xi_iadd (q := 39) dX9_workOf_38 rfl ?_
        rw [show nI k + 1 = nI (k + 1) from nI_1 k]
        refine xv_cV2 (q := 42) xm_X9_pistonAt ln_X9_167 dX9_workOf_39 ⟨by omega, hWh.1⟩ rfl ⟨(Nat.le_of_ble_eq_true rfl), (Nat.le_of_ble_eq_true rfl)⟩ (Nat.le_of_ble_eq_true rfl) ⟨rfl, rfl⟩ rfl (Nat.zero_le _) (Nat.zero_le _) ?_
        refine ⟨_, _, _, p, nI (k + 1), rfl, hWh, h103, hp7, hok0, ?_⟩
        refine xi_aload_n (q := 43) dX9_workOf_42 rfl rfl ?_
        refine xi_iload_n (q := 44) dX9_workOf_43 rfl rfl ?_
        refine xi_iload (q := 46) dX9_workOf_44 rfl rfl ?_
        refine xv_cV2 (q := 49) xm_X9_pistonAt ln_X9_167 dX9_workOf_46 ⟨by omega, hWh.1⟩ rfl ⟨(Nat.le_of_ble_eq_true rfl), (Nat.le_of_ble_eq_true rfl)⟩ (Nat.le_of_ble_eq_true rfl) ⟨rfl, rfl⟩ rfl (Nat.zero_le _) (Nat.zero_le _) ?_
        refine ⟨_, _, _, p, nI k, rfl, hWh, h103, hp7, hok0, ?_⟩
        refine xi_isub (q := 50) dX9_workOf_49 rfl ?_
        refine xi_istore (q := 52) dX9_workOf_50 (Nat.le_of_ble_eq_true rfl) rfl ?_
        refine xi_lload (q := 54) dX9_workOf_52 rfl rfl ?_
        refine xi_aload_n (q := 55) dX9_workOf_54 rfl rfl ?_
        refine xi_getf (q := 58) dX9_workOf_55 fl_X9_41 ⟨by omega, hWh.1⟩ rfl rfl ?_
        refine xi_iload (q := 60) dX9_workOf_58 rfl rfl ?_
        refine xi_iald (q := 61) dX9_workOf_60 ⟨by omega, hprh⟩ (xv_ixN hk2 (by omega)) rfl ?_
        refine xi_aload_n (q := 62) dX9_workOf_61 rfl rfl ?_
        refine xi_getf (q := 65) dX9_workOf_62 fl_X9_41 ⟨by omega, hWh.1⟩ rfl rfl ?_
        refine xi_iload (q := 67) dX9_workOf_65 rfl rfl ?_
        refine xi_iconst (x := 1) (q := 68) dX9_workOf_67 (by decide) rfl ?_
        refine xi_iadd (q := 69) dX9_workOf_68 rfl ?_
        refine xi_bipush (x := 48) (q := 71) dX9_workOf_69 (by decide) rfl ?_
        refine xi_irem (q := 72) dX9_workOf_71 (by decide) rfl ?_
        rw [show (nI k + 1 - (nI k + 1) / 48 * 48 : Int32) = nI ((k + 1) % 48) by rw [nI_1]; exact xn_remN (d := 48) (by omega) (by omega) (by omega)]
        refine xi_iald (q := 73) dX9_workOf_72 ⟨by omega, hprh⟩ (xv_ixN (k := (k + 1) % 48) (by omega) (by omega)) rfl ?_
        refine xi_iadd (q := 74) dX9_workOf_73 rfl ?_
        refine xi_i2l (q := 75) dX9_workOf_74 rfl ?_
        refine xi_iload (q := 77) dX9_workOf_75 rfl rfl ?_
        refine xi_if_ne (q := 80) (q2 := 85) dX9_workOf_77 (by decide) rfl (fun c_77 => ?_) (fun c_77 => ?_)
        · refine xi_iload (q := 87) dX9_workOf_85 rfl rfl ?_
          refine xi_ineg (q := 88) dX9_workOf_87 rfl ?_
          refine xi_i2l (q := 89) dX9_workOf_88 rfl ?_
          refine xi_lmul (q := 90) dX9_workOf_89 rfl ?_
          refine xi_ladd (q := 91) dX9_workOf_90 rfl ?_
          refine xi_lstore (q := 93) dX9_workOf_91 (Nat.le_of_ble_eq_true rfl) rfl ?_
          refine xi_iinc (y := nI (k + 1)) (q := 96) dX9_workOf_93 rfl (xn_inc k) (Nat.le_of_ble_eq_true rfl) rfl ?_
          refine xi_goto (q := 26) dX9_workOf_96 (by decide) ?_
          refine xv_weakS (lv' := [(0, .ref 83), (1, .int (nI p)), (2, .int m), (3, .int b), (4, .int g), (5, .long (SS + xs_psL (xs_wk1 f (nu (12 * p + 11)) m (b * g / 4) d) k + (xs_cd f (nu (12 * p + 11)) m (b * g / 4) d k + xs_cd f (nu (12 * p + 11)) m (b * g / 4) d ((k + 1) % 48)).toInt64 * ((-(xs_pis (nu (12 * p + 0)) (nI (k + 1)) - xs_pis (nu (12 * p + 0)) (nI k)))).toInt64)), (7, .int d), (8, .int (nI (k + 1)))]) ⟨rfl, rfl, rfl, rfl, rfl, rfl, rfl, rfl, trivial⟩ ?_
          have e3 : SS + xs_psL (xs_wk1 f (nu (12 * p + 11)) m (b * g / 4) d) k + (xs_cd f (nu (12 * p + 11)) m (b * g / 4) d k + xs_cd f (nu (12 * p + 11)) m (b * g / 4) d ((k + 1) % 48)).toInt64 * ((-(xs_pis (nu (12 * p + 0)) (nI (k + 1)) - xs_pis (nu (12 * p + 0)) (nI k)))).toInt64 = SS + xs_psL (xs_wk1 f (nu (12 * p + 11)) m (b * g / 4) d) (k + 1) := by
            rw [Int64.add_assoc]
            show SS + (xs_psL (xs_wk1 f (nu (12 * p + 11)) m (b * g / 4) d) k + (xs_cd f (nu (12 * p + 11)) m (b * g / 4) d k + xs_cd f (nu (12 * p + 11)) m (b * g / 4) d ((k + 1) % 48)).toInt64 * ((-(xs_pis (nu (12 * p + 0)) (nI (k + 1)) - xs_pis (nu (12 * p + 0)) (nI k)))).toInt64) = SS + (xs_psL (xs_wk1 f (nu (12 * p + 11)) m (b * g / 4) d) k + xs_wk1 f (nu (12 * p + 11)) m (b * g / 4) d k)
            unfold xs_wk1
            rw [if_neg c_77, hf]
            rfl
          rw [e3]
          exact ih (dd - 1) (by omega) (k + 1) (by omega)
        · refine xi_iload (q := 82) dX9_workOf_80 rfl rfl ?_
          refine xi_goto (q := 88) dX9_workOf_82 (by decide) ?_
          refine xi_i2l (q := 89) dX9_workOf_88 rfl ?_
          refine xi_lmul (q := 90) dX9_workOf_89 rfl ?_
          refine xi_ladd (q := 91) dX9_workOf_90 rfl ?_
          refine xi_lstore (q := 93) dX9_workOf_91 (Nat.le_of_ble_eq_true rfl) rfl ?_
          refine xi_iinc (y := nI (k + 1)) (q := 96) dX9_workOf_93 rfl (xn_inc k) (Nat.le_of_ble_eq_true rfl) rfl ?_
          refine xi_goto (q := 26) dX9_workOf_96 (by decide) ?_
          refine xv_weakS (lv' := [(0, .ref 83), (1, .int (nI p)), (2, .int m), (3, .int b), (4, .int g), (5, .long (SS + xs_psL (xs_wk1 f (nu (12 * p + 11)) m (b * g / 4) d) k + (xs_cd f (nu (12 * p + 11)) m (b * g / 4) d k + xs_cd f (nu (12 * p + 11)) m (b * g / 4) d ((k + 1) % 48)).toInt64 * ((xs_pis (nu (12 * p + 0)) (nI (k + 1)) - xs_pis (nu (12 * p + 0)) (nI k))).toInt64)), (7, .int d), (8, .int (nI (k + 1)))]) ⟨rfl, rfl, rfl, rfl, rfl, rfl, rfl, rfl, trivial⟩ ?_
          have e3 : SS + xs_psL (xs_wk1 f (nu (12 * p + 11)) m (b * g / 4) d) k + (xs_cd f (nu (12 * p + 11)) m (b * g / 4) d k + xs_cd f (nu (12 * p + 11)) m (b * g / 4) d ((k + 1) % 48)).toInt64 * ((xs_pis (nu (12 * p + 0)) (nI (k + 1)) - xs_pis (nu (12 * p + 0)) (nI k))).toInt64 = SS + xs_psL (xs_wk1 f (nu (12 * p + 11)) m (b * g / 4) d) (k + 1) := by
            rw [Int64.add_assoc]
            show SS + (xs_psL (xs_wk1 f (nu (12 * p + 11)) m (b * g / 4) d) k + (xs_cd f (nu (12 * p + 11)) m (b * g / 4) d k + xs_cd f (nu (12 * p + 11)) m (b * g / 4) d ((k + 1) % 48)).toInt64 * ((xs_pis (nu (12 * p + 0)) (nI (k + 1)) - xs_pis (nu (12 * p + 0)) (nI k))).toInt64) = SS + (xs_psL (xs_wk1 f (nu (12 * p + 11)) m (b * g / 4) d) k + xs_wk1 f (nu (12 * p + 11)) m (b * g / 4) d k)
            unfold xs_wk1
            rw [if_pos c_77, hf]
            rfl
          rw [e3]
          exact ih (dd - 1) (by omega) (k + 1) (by omega)
  have Q2 : ∀ (hh : xv_H) (dk2 : Int64), hh 83 = xs_mo fa dk2 → hh 94 = xs_ia 48 (fun k => xs_cd f (nu (12 * p + 11)) m (b * g / 4) 1 k) → (∀ i, i ≠ 83 → i ≠ 94 → hh i = h i) → xv_V X mX9_workOf Post 0 0 99 [(0, .ref 83), (1, .int (nI p)), (2, .int m), (3, .int b), (4, .int g), (5, .long (0 + xs_psL (xs_wk1 f (nu (12 * p + 11)) m (b * g / 4) 0) 48 + xs_psL (xs_wk1 f (nu (12 * p + 11)) m (b * g / 4) 1) 48)), (7, .int 1)] [] hh n := by
    intro hh dk2 u1 u2 u3
    refine xi_iinc (q := 102) dX9_workOf_99 rfl rfl (Nat.le_of_ble_eq_true rfl) rfl ?_
    refine xi_goto (q := 6) dX9_workOf_102 (by decide) ?_
    refine xi_iload (q := 8) dX9_workOf_6 rfl rfl ?_
    refine xi_iconst (x := 2) (q := 9) dX9_workOf_8 (by decide) rfl ?_
    refine xi_icmp_ge (q := 12) (q2 := 105) dX9_workOf_9 (by decide) rfl (fun c_9 => ?_) (fun c_9 => ?_)
    · skip
      refine xi_lload (q := 107) dX9_workOf_105 rfl rfl ?_
      refine xi_ldc2 (q := 110) dX9_workOf_107 kc_X9_207 rfl ?_
      refine xi_ldiv (q := 111) dX9_workOf_110 (by decide) rfl ?_
      refine xi_l2i (q := 112) dX9_workOf_111 rfl ?_
      refine xi_ret ⟨_, rfl, rfl, dX9_workOf_112⟩ (Nat.zero_le _) (Nat.zero_le _) ?_
      exact xv_eqr (hp hh _ _ u1 u2 u3) xs_wke
    · exact absurd (by decide) c_9
  refine xi_lconst (x := 0) (q := 1) dX9_workOf_0 (by decide) rfl ?_
  refine xi_lstore (q := 3) dX9_workOf_1 (Nat.le_of_ble_eq_true rfl) rfl ?_
  refine xi_iconst (x := 0) (q := 4) dX9_workOf_3 (by decide) rfl ?_
  refine xi_istore (q := 6) dX9_workOf_4 (Nat.le_of_ble_eq_true rfl) rfl ?_
  refine xi_iload (q := 8) dX9_workOf_6 rfl rfl ?_
  refine xi_iconst (x := 2) (q := 9) dX9_workOf_8 (by decide) rfl ?_
  refine xi_icmp_ge (q := 12) (q2 := 105) dX9_workOf_9 (by decide) rfl (fun c_9 => ?_) (fun c_9 => ?_)
  · exact absurd c_9 (by decide)
  · skip
    refine xi_aload_n (q := 13) dX9_workOf_12 rfl rfl ?_
    refine xi_iload_n (q := 14) dX9_workOf_13 rfl rfl ?_
    refine xi_iload_n (q := 15) dX9_workOf_14 rfl rfl ?_
    refine xi_iload_n (q := 16) dX9_workOf_15 rfl rfl ?_
    refine xi_iload (q := 18) dX9_workOf_16 rfl rfl ?_
    refine xi_iload (q := 20) dX9_workOf_18 rfl rfl ?_
    refine xv_cV5 (q := 23) xm_X9_draw ln_X9_215 dX9_workOf_20 ⟨by omega, hW.1⟩ rfl ⟨(Nat.le_of_ble_eq_true rfl), (Nat.le_of_ble_eq_true rfl)⟩ (Nat.le_of_ble_eq_true rfl) ⟨rfl, rfl⟩ rfl (Nat.zero_le _) (Nat.zero_le _) ?_
    refine ⟨fa, _, nu, p, m, b, g, 0, _, rfl, hW, h103, hp7, hok, hpr, fun h8 p1h8 p2h8 p3h8 => ?_⟩
    rw [← hf] at p2h8
    have hWh8 : xs_MW h8 fa _ nu := ⟨p1h8, (p3h8 88 (by omega) (by omega)).trans hW.2.1, (p3h8 93 (by omega) (by omega)).trans hW.2.2⟩
    refine xi_iconst (x := 0) (q := 24) dX9_workOf_23 (by decide) rfl ?_
    refine xi_istore (q := 26) dX9_workOf_24 (Nat.le_of_ble_eq_true rfl) rfl ?_
    refine xv_weakS (lv' := [(0, .ref 83), (1, .int (nI p)), (2, .int m), (3, .int b), (4, .int g), (5, .long (0)), (7, .int 0), (8, .int (nI 0))]) ⟨rfl, rfl, rfl, rfl, rfl, rfl, rfl, rfl, trivial⟩ ?_
    have Q1 : xv_V X mX9_workOf Post 0 0 99 [(0, .ref 83), (1, .int (nI p)), (2, .int m), (3, .int b), (4, .int g), (5, .long (0 + xs_psL (xs_wk1 f (nu (12 * p + 11)) m (b * g / 4) 0) 48)), (7, .int 0)] [] h8 n := by
      refine xi_iinc (q := 102) dX9_workOf_99 rfl rfl (Nat.le_of_ble_eq_true rfl) rfl ?_
      refine xi_goto (q := 6) dX9_workOf_102 (by decide) ?_
      refine xi_iload (q := 8) dX9_workOf_6 rfl rfl ?_
      refine xi_iconst (x := 2) (q := 9) dX9_workOf_8 (by decide) rfl ?_
      refine xi_icmp_ge (q := 12) (q2 := 105) dX9_workOf_9 (by decide) rfl (fun c_9 => ?_) (fun c_9 => ?_)
      · exact absurd c_9 (by decide)
      · skip
        refine xi_aload_n (q := 13) dX9_workOf_12 rfl rfl ?_
        refine xi_iload_n (q := 14) dX9_workOf_13 rfl rfl ?_
        refine xi_iload_n (q := 15) dX9_workOf_14 rfl rfl ?_
        refine xi_iload_n (q := 16) dX9_workOf_15 rfl rfl ?_
        refine xi_iload (q := 18) dX9_workOf_16 rfl rfl ?_
        refine xi_iload (q := 20) dX9_workOf_18 rfl rfl ?_
        refine xv_cV5 (q := 23) xm_X9_draw ln_X9_215 dX9_workOf_20 ⟨by omega, hWh8.1⟩ rfl ⟨(Nat.le_of_ble_eq_true rfl), (Nat.le_of_ble_eq_true rfl)⟩ (Nat.le_of_ble_eq_true rfl) ⟨rfl, rfl⟩ rfl (Nat.zero_le _) (Nat.zero_le _) ?_
        refine ⟨fa, _, nu, p, m, b, g, 1, _, rfl, hWh8, h103, hp7, hok, p2h8, fun h9 p1h9 p2h9 p3h9 => ?_⟩
        rw [← hf] at p2h9
        have hWh9 : xs_MW h9 fa _ nu := ⟨p1h9, (p3h9 88 (by omega) (by omega)).trans hWh8.2.1, (p3h9 93 (by omega) (by omega)).trans hWh8.2.2⟩
        refine xi_iconst (x := 0) (q := 24) dX9_workOf_23 (by decide) rfl ?_
        refine xi_istore (q := 26) dX9_workOf_24 (Nat.le_of_ble_eq_true rfl) rfl ?_
        refine xv_weakS (lv' := [(0, .ref 83), (1, .int (nI p)), (2, .int m), (3, .int b), (4, .int g), (5, .long (0 + xs_psL (xs_wk1 f (nu (12 * p + 11)) m (b * g / 4) 0) 48)), (7, .int 1), (8, .int (nI 0))]) ⟨rfl, rfl, rfl, rfl, rfl, rfl, rfl, rfl, trivial⟩ ?_
        have G := L26 (0 + xs_psL (xs_wk1 f (nu (12 * p + 11)) m (b * g / 4) 0) 48) 1 h9 hWh9 p2h9 (Q2 h9 _ p1h9 p2h9 (fun i i1 i2 => (p3h9 i i1 i2).trans (p3h8 i i1 i2))) 48 0 (by omega)
        rw [show 0 + xs_psL (xs_wk1 f (nu (12 * p + 11)) m (b * g / 4) 0) 48 + xs_psL (xs_wk1 f (nu (12 * p + 11)) m (b * g / 4) 1) 0 = 0 + xs_psL (xs_wk1 f (nu (12 * p + 11)) m (b * g / 4) 0) 48 from Int64.add_zero _] at G
        exact G
    have G := L26 0 0 h8 hWh8 p2h8 Q1 48 0 (by omega)
    exact G

