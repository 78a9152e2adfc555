theorem xn_nlt {a b : Int32} (h : a ≤ b) : ¬ b < a := fun z => by
  rw [xn_le] at h
  rw [xn_lt] at z
  omega
theorem xn_ltn {a b : Int32} (h : ¬ a ≤ b) : b < a := by
  rw [xn_le] at h
  rw [xn_lt]
  omega
theorem xn_evF2 {f : Nat → Int32} {s m d w : Int32} {k : Nat} (h : xs_b (xs_isop f s m d w (nI k - 1)) = xs_b (decide (xs_rem w 2 = 0)) ∨ ¬ xs_b (xs_isop f s m d w (nI k)) = xs_b (decide (xs_rem w 2 = 0))) : xs_eat f s m d w k = false := by
  unfold xs_eat
  rcases h with h | h
  · rw [xn_bi h]
    cases xs_isop f s m d w (nI k) <;> cases decide (xs_rem w 2 = 0) <;> rfl
  · revert h
    cases xs_isop f s m d w (nI k) <;> cases decide (xs_rem w 2 = 0) <;> cases xs_isop f s m d w (nI k - 1) <;> decide
theorem xn_evT2 {f : Nat → Int32} {s m d w : Int32} {k : Nat} (h : ¬ xs_b (xs_isop f s m d w (nI k - 1)) = xs_b (decide (xs_rem w 2 = 0))) (h2 : xs_b (xs_isop f s m d w (nI k)) = xs_b (decide (xs_rem w 2 = 0))) : xs_eat f s m d w k = true := by
  unfold xs_eat
  revert h h2
  cases xs_isop f s m d w (nI k) <;> cases decide (xs_rem w 2 = 0) <;> cases xs_isop f s m d w (nI k - 1) <;> decide
set_option maxRecDepth 20000 in
set_option maxHeartbeats 2000000 in
/-- openBy -/
theorem xm_X9_openBy : xv_K yX9_openBy mX9_openBy (fun as h n Post => ∃ (fa : Nat → Int32) (dk : Int64) (nu : Nat → Int32) (p : Nat) (v : Int32) (d : Int32) (w : Int32), as = [.ref 83, .int (nI p), .int v, .int d, .int w] ∧ (xs_MW h fa dk nu) ∧ (103 < n) ∧ (p < 7) ∧ Post (some (.int (xs_by (xs_nr nu p) v d w))) h n) := by
  refine xv_entry (by decide +kernel) rfl (fun h => absurd h (by decide)) ?_
  rintro X _ h n Post ⟨fa, dk, nu, p, v, d, w, rfl, hW, h103, hp7, hp⟩
  refine ⟨Nat.le_of_ble_eq_true rfl, ?_⟩
  show xv_V X mX9_openBy Post 0 0 0 [(0, .ref 83), (1, .int (nI p)), (2, .int v), (3, .int d), (4, .int w)] [] h n
  refine xi_bipush (x := 12) (q := 2) dX9_openBy_0 (by decide) rfl ?_
  refine xi_iload_n (q := 3) dX9_openBy_2 rfl rfl ?_
  refine xi_imul (q := 4) dX9_openBy_3 rfl ?_
  refine xi_istore (q := 6) dX9_openBy_4 (Nat.le_of_ble_eq_true rfl) rfl ?_
  refine xi_iload (q := 8) dX9_openBy_6 rfl rfl ?_
  refine xi_if_ne (q := 11) (q2 := 34) dX9_openBy_8 (by decide) rfl (fun c_8 => ?_) (fun c_8 => ?_)
  · skip
    refine xi_iload_n (q := 35) dX9_openBy_34 rfl rfl ?_
    refine xi_if_ne (q := 38) (q2 := 43) dX9_openBy_35 (by decide) rfl (fun c_35 => ?_) (fun c_35 => ?_)
    · skip
      refine xi_iload_n (q := 44) dX9_openBy_43 rfl rfl ?_
      refine xi_aload_n (q := 45) dX9_openBy_44 rfl rfl ?_
      refine xi_getf (q := 48) dX9_openBy_45 fl_X9_23 ⟨by omega, hW.1⟩ rfl rfl ?_
      refine xi_iload (q := 50) dX9_openBy_48 rfl rfl ?_
      refine xi_iconst (x := 5) (q := 51) dX9_openBy_50 (by decide) rfl ?_
      refine xi_iadd (q := 52) dX9_openBy_51 rfl ?_
      refine xi_iald (q := 53) dX9_openBy_52 ⟨by omega, hW.2.1⟩ (xn_ix12 (j := 5) hp7 (by omega)) rfl ?_
      refine xi_isub (q := 54) dX9_openBy_53 rfl ?_
      refine xi_istore (q := 56) dX9_openBy_54 (Nat.le_of_ble_eq_true rfl) rfl ?_
      refine xi_iload (q := 58) dX9_openBy_56 rfl rfl ?_
      refine xi_aload_n (q := 59) dX9_openBy_58 rfl rfl ?_
      refine xi_getf (q := 62) dX9_openBy_59 fl_X9_23 ⟨by omega, hW.1⟩ rfl rfl ?_
      refine xi_iload (q := 64) dX9_openBy_62 rfl rfl ?_
      refine xi_bipush (x := 6) (q := 66) dX9_openBy_64 (by decide) rfl ?_
      refine xi_iadd (q := 67) dX9_openBy_66 rfl ?_
      refine xi_iald (q := 68) dX9_openBy_67 ⟨by omega, hW.2.1⟩ (xn_ix12 (j := 6) hp7 (by omega)) rfl ?_
      refine xi_icmp_ge (q := 71) (q2 := 76) dX9_openBy_68 (by decide) rfl (fun c_68 => ?_) (fun c_68 => ?_)
      · skip
        refine xi_aload_n (q := 77) dX9_openBy_76 rfl rfl ?_
        refine xi_getf (q := 80) dX9_openBy_77 fl_X9_23 ⟨by omega, hW.1⟩ rfl rfl ?_
        refine xi_iload (q := 82) dX9_openBy_80 rfl rfl ?_
        refine xi_bipush (x := 6) (q := 84) dX9_openBy_82 (by decide) rfl ?_
        refine xi_iadd (q := 85) dX9_openBy_84 rfl ?_
        refine xi_iald (q := 86) dX9_openBy_85 ⟨by omega, hW.2.1⟩ (xn_ix12 (j := 6) hp7 (by omega)) rfl ?_
        refine xi_istore (q := 88) dX9_openBy_86 (Nat.le_of_ble_eq_true rfl) rfl ?_
        refine xi_iload (q := 90) dX9_openBy_88 rfl rfl ?_
        refine xi_if_ge (q := 93) (q2 := 97) dX9_openBy_90 (by decide) rfl (fun c_90 => ?_) (fun c_90 => ?_)
        · skip
          refine xi_iload (q := 99) dX9_openBy_97 rfl rfl ?_
          refine xi_ret ⟨_, rfl, rfl, dX9_openBy_99⟩ (Nat.zero_le _) (Nat.zero_le _) ?_
          exact xv_eqr hp (by simp only [xs_by, xs_far, xs_cl, xs_nr, eq_false c_8, eq_false c_35, eq_false (xn_nlt c_68), eq_false (xn_nlt c_90), if_true, if_false, ↓reduceIte])
        · skip
          refine xi_iconst (x := 0) (q := 94) dX9_openBy_93 (by decide) rfl ?_
          refine xi_goto (q := 99) dX9_openBy_94 (by decide) ?_
          refine xi_ret ⟨_, rfl, rfl, dX9_openBy_99⟩ (Nat.zero_le _) (Nat.zero_le _) ?_
          exact xv_eqr hp (by simp only [xs_by, xs_far, xs_cl, xs_nr, eq_false c_8, eq_false c_35, eq_false (xn_nlt c_68), eq_true (xn_ltn c_90), if_true, if_false, ↓reduceIte])
      · skip
        refine xi_iload (q := 73) dX9_openBy_71 rfl rfl ?_
        refine xi_goto (q := 86) dX9_openBy_73 (by decide) ?_
        refine xi_istore (q := 88) dX9_openBy_86 (Nat.le_of_ble_eq_true rfl) rfl ?_
        refine xi_iload (q := 90) dX9_openBy_88 rfl rfl ?_
        refine xi_if_ge (q := 93) (q2 := 97) dX9_openBy_90 (by decide) rfl (fun c_90 => ?_) (fun c_90 => ?_)
        · skip
          refine xi_iload (q := 99) dX9_openBy_97 rfl rfl ?_
          refine xi_ret ⟨_, rfl, rfl, dX9_openBy_99⟩ (Nat.zero_le _) (Nat.zero_le _) ?_
          exact xv_eqr hp (by simp only [xs_by, xs_far, xs_cl, xs_nr, eq_false c_8, eq_false c_35, eq_true (xn_ltn c_68), eq_false (xn_nlt c_90), if_true, if_false, ↓reduceIte])
        · skip
          refine xi_iconst (x := 0) (q := 94) dX9_openBy_93 (by decide) rfl ?_
          refine xi_goto (q := 99) dX9_openBy_94 (by decide) ?_
          refine xi_ret ⟨_, rfl, rfl, dX9_openBy_99⟩ (Nat.zero_le _) (Nat.zero_le _) ?_
          exact xv_eqr hp (by simp only [xs_by, xs_far, xs_cl, xs_nr, eq_false c_8, eq_false c_35, eq_true (xn_ltn c_68), eq_true (xn_ltn c_90), if_true, if_false, ↓reduceIte])
    · skip
      refine xi_iload_n (q := 39) dX9_openBy_38 rfl rfl ?_
      refine xi_ineg (q := 40) dX9_openBy_39 rfl ?_
      refine xi_goto (q := 44) dX9_openBy_40 (by decide) ?_
      refine xi_aload_n (q := 45) dX9_openBy_44 rfl rfl ?_
      refine xi_getf (q := 48) dX9_openBy_45 fl_X9_23 ⟨by omega, hW.1⟩ rfl rfl ?_
      refine xi_iload (q := 50) dX9_openBy_48 rfl rfl ?_
      refine xi_iconst (x := 5) (q := 51) dX9_openBy_50 (by decide) rfl ?_
      refine xi_iadd (q := 52) dX9_openBy_51 rfl ?_
      refine xi_iald (q := 53) dX9_openBy_52 ⟨by omega, hW.2.1⟩ (xn_ix12 (j := 5) hp7 (by omega)) rfl ?_
      refine xi_isub (q := 54) dX9_openBy_53 rfl ?_
      refine xi_istore (q := 56) dX9_openBy_54 (Nat.le_of_ble_eq_true rfl) rfl ?_
      refine xi_iload (q := 58) dX9_openBy_56 rfl rfl ?_
      refine xi_aload_n (q := 59) dX9_openBy_58 rfl rfl ?_
      refine xi_getf (q := 62) dX9_openBy_59 fl_X9_23 ⟨by omega, hW.1⟩ rfl rfl ?_
      refine xi_iload (q := 64) dX9_openBy_62 rfl rfl ?_
      refine xi_bipush (x := 6) (q := 66) dX9_openBy_64 (by decide) rfl ?_
      refine xi_iadd (q := 67) dX9_openBy_66 rfl ?_
      refine xi_iald (q := 68) dX9_openBy_67 ⟨by omega, hW.2.1⟩ (xn_ix12 (j := 6) hp7 (by omega)) rfl ?_
      refine xi_icmp_ge (q := 71) (q2 := 76) dX9_openBy_68 (by decide) rfl (fun c_68 => ?_) (fun c_68 => ?_)
      · skip
        refine xi_aload_n (q := 77) dX9_openBy_76 rfl rfl ?_
        refine xi_getf (q := 80) dX9_openBy_77 fl_X9_23 ⟨by omega, hW.1⟩ rfl rfl ?_
        refine xi_iload (q := 82) dX9_openBy_80 rfl rfl ?_
        refine xi_bipush (x := 6) (q := 84) dX9_openBy_82 (by decide) rfl ?_
        refine xi_iadd (q := 85) dX9_openBy_84 rfl ?_
        refine xi_iald (q := 86) dX9_openBy_85 ⟨by omega, hW.2.1⟩ (xn_ix12 (j := 6) hp7 (by omega)) rfl ?_
        refine xi_istore (q := 88) dX9_openBy_86 (Nat.le_of_ble_eq_true rfl) rfl ?_
        refine xi_iload (q := 90) dX9_openBy_88 rfl rfl ?_
        refine xi_if_ge (q := 93) (q2 := 97) dX9_openBy_90 (by decide) rfl (fun c_90 => ?_) (fun c_90 => ?_)
        · skip
          refine xi_iload (q := 99) dX9_openBy_97 rfl rfl ?_
          refine xi_ret ⟨_, rfl, rfl, dX9_openBy_99⟩ (Nat.zero_le _) (Nat.zero_le _) ?_
          exact xv_eqr hp (by simp only [xs_by, xs_far, xs_cl, xs_nr, eq_false c_8, eq_true c_35, eq_false (xn_nlt c_68), eq_false (xn_nlt c_90), if_true, if_false, ↓reduceIte])
        · skip
          refine xi_iconst (x := 0) (q := 94) dX9_openBy_93 (by decide) rfl ?_
          refine xi_goto (q := 99) dX9_openBy_94 (by decide) ?_
          refine xi_ret ⟨_, rfl, rfl, dX9_openBy_99⟩ (Nat.zero_le _) (Nat.zero_le _) ?_
          exact xv_eqr hp (by simp only [xs_by, xs_far, xs_cl, xs_nr, eq_false c_8, eq_true c_35, eq_false (xn_nlt c_68), eq_true (xn_ltn c_90), if_true, if_false, ↓reduceIte])
      · skip
        refine xi_iload (q := 73) dX9_openBy_71 rfl rfl ?_
        refine xi_goto (q := 86) dX9_openBy_73 (by decide) ?_
        refine xi_istore (q := 88) dX9_openBy_86 (Nat.le_of_ble_eq_true rfl) rfl ?_
        refine xi_iload (q := 90) dX9_openBy_88 rfl rfl ?_
        refine xi_if_ge (q := 93) (q2 := 97) dX9_openBy_90 (by decide) rfl (fun c_90 => ?_) (fun c_90 => ?_)
        · skip
          refine xi_iload (q := 99) dX9_openBy_97 rfl rfl ?_
          refine xi_ret ⟨_, rfl, rfl, dX9_openBy_99⟩ (Nat.zero_le _) (Nat.zero_le _) ?_
          exact xv_eqr hp (by simp only [xs_by, xs_far, xs_cl, xs_nr, eq_false c_8, eq_true c_35, eq_true (xn_ltn c_68), eq_false (xn_nlt c_90), if_true, if_false, ↓reduceIte])
        · skip
          refine xi_iconst (x := 0) (q := 94) dX9_openBy_93 (by decide) rfl ?_
          refine xi_goto (q := 99) dX9_openBy_94 (by decide) ?_
          refine xi_ret ⟨_, rfl, rfl, dX9_openBy_99⟩ (Nat.zero_le _) (Nat.zero_le _) ?_
          exact xv_eqr hp (by simp only [xs_by, xs_far, xs_cl, xs_nr, eq_false c_8, eq_true c_35, eq_true (xn_ltn c_68), eq_true (xn_ltn c_90), if_true, if_false, ↓reduceIte])
  · skip
    refine xi_iload_n (q := 12) dX9_openBy_11 rfl rfl ?_
    refine xi_if_ne (q := 15) (q2 := 19) dX9_openBy_12 (by decide) rfl (fun c_12 => ?_) (fun c_12 => ?_)
    · skip
      refine xi_iload_n (q := 20) dX9_openBy_19 rfl rfl ?_
      refine xi_ineg (q := 21) dX9_openBy_20 rfl ?_
      refine xi_aload_n (q := 22) dX9_openBy_21 rfl rfl ?_
      refine xi_getf (q := 25) dX9_openBy_22 fl_X9_23 ⟨by omega, hW.1⟩ rfl rfl ?_
      refine xi_iload (q := 27) dX9_openBy_25 rfl rfl ?_
      refine xi_iconst (x := 4) (q := 28) dX9_openBy_27 (by decide) rfl ?_
      refine xi_iadd (q := 29) dX9_openBy_28 rfl ?_
      refine xi_iald (q := 30) dX9_openBy_29 ⟨by omega, hW.2.1⟩ (xn_ix12 (j := 4) hp7 (by omega)) rfl ?_
      refine xi_isub (q := 31) dX9_openBy_30 rfl ?_
      refine xi_goto (q := 54) dX9_openBy_31 (by decide) ?_
      refine xi_istore (q := 56) dX9_openBy_54 (Nat.le_of_ble_eq_true rfl) rfl ?_
      refine xi_iload (q := 58) dX9_openBy_56 rfl rfl ?_
      refine xi_aload_n (q := 59) dX9_openBy_58 rfl rfl ?_
      refine xi_getf (q := 62) dX9_openBy_59 fl_X9_23 ⟨by omega, hW.1⟩ rfl rfl ?_
      refine xi_iload (q := 64) dX9_openBy_62 rfl rfl ?_
      refine xi_bipush (x := 6) (q := 66) dX9_openBy_64 (by decide) rfl ?_
      refine xi_iadd (q := 67) dX9_openBy_66 rfl ?_
      refine xi_iald (q := 68) dX9_openBy_67 ⟨by omega, hW.2.1⟩ (xn_ix12 (j := 6) hp7 (by omega)) rfl ?_
      refine xi_icmp_ge (q := 71) (q2 := 76) dX9_openBy_68 (by decide) rfl (fun c_68 => ?_) (fun c_68 => ?_)
      · skip
        refine xi_aload_n (q := 77) dX9_openBy_76 rfl rfl ?_
        refine xi_getf (q := 80) dX9_openBy_77 fl_X9_23 ⟨by omega, hW.1⟩ rfl rfl ?_
        refine xi_iload (q := 82) dX9_openBy_80 rfl rfl ?_
        refine xi_bipush (x := 6) (q := 84) dX9_openBy_82 (by decide) rfl ?_
        refine xi_iadd (q := 85) dX9_openBy_84 rfl ?_
        refine xi_iald (q := 86) dX9_openBy_85 ⟨by omega, hW.2.1⟩ (xn_ix12 (j := 6) hp7 (by omega)) rfl ?_
        refine xi_istore (q := 88) dX9_openBy_86 (Nat.le_of_ble_eq_true rfl) rfl ?_
        refine xi_iload (q := 90) dX9_openBy_88 rfl rfl ?_
        refine xi_if_ge (q := 93) (q2 := 97) dX9_openBy_90 (by decide) rfl (fun c_90 => ?_) (fun c_90 => ?_)
        · skip
          refine xi_iload (q := 99) dX9_openBy_97 rfl rfl ?_
          refine xi_ret ⟨_, rfl, rfl, dX9_openBy_99⟩ (Nat.zero_le _) (Nat.zero_le _) ?_
          exact xv_eqr hp (by simp only [xs_by, xs_far, xs_cl, xs_nr, eq_true c_8, eq_false c_12, eq_false (xn_nlt c_68), eq_false (xn_nlt c_90), if_true, if_false, ↓reduceIte])
        · skip
          refine xi_iconst (x := 0) (q := 94) dX9_openBy_93 (by decide) rfl ?_
          refine xi_goto (q := 99) dX9_openBy_94 (by decide) ?_
          refine xi_ret ⟨_, rfl, rfl, dX9_openBy_99⟩ (Nat.zero_le _) (Nat.zero_le _) ?_
          exact xv_eqr hp (by simp only [xs_by, xs_far, xs_cl, xs_nr, eq_true c_8, eq_false c_12, eq_false (xn_nlt c_68), eq_true (xn_ltn c_90), if_true, if_false, ↓reduceIte])
      · skip
        refine xi_iload (q := 73) dX9_openBy_71 rfl rfl ?_
        refine xi_goto (q := 86) dX9_openBy_73 (by decide) ?_
        refine xi_istore (q := 88) dX9_openBy_86 (Nat.le_of_ble_eq_true rfl) rfl ?_
        refine xi_iload (q := 90) dX9_openBy_88 rfl rfl ?_
        refine xi_if_ge (q := 93) (q2 := 97) dX9_openBy_90 (by decide) rfl (fun c_90 => ?_) (fun c_90 => ?_)
        · skip
          refine xi_iload (q := 99) dX9_openBy_97 rfl rfl ?_
          refine xi_ret ⟨_, rfl, rfl, dX9_openBy_99⟩ (Nat.zero_le _) (Nat.zero_le _) ?_
          exact xv_eqr hp (by simp only [xs_by, xs_far, xs_cl, xs_nr, eq_true c_8, eq_false c_12, eq_true (xn_ltn c_68), eq_false (xn_nlt c_90), if_true, if_false, ↓reduceIte])
        · skip
          refine xi_iconst (x := 0) (q := 94) dX9_openBy_93 (by decide) rfl ?_
          refine xi_goto (q := 99) dX9_openBy_94 (by decide) ?_
          refine xi_ret ⟨_, rfl, rfl, dX9_openBy_99⟩ (Nat.zero_le _) (Nat.zero_le _) ?_
          exact xv_eqr hp (by simp only [xs_by, xs_far, xs_cl, xs_nr, eq_true c_8, eq_false c_12, eq_true (xn_ltn c_68), eq_true (xn_ltn c_90), if_true, if_false, ↓reduceIte])
    · skip
      refine xi_iload_n (q := 16) dX9_openBy_15 rfl rfl ?_
      refine xi_goto (q := 21) dX9_openBy_16 (by decide) ?_
      refine xi_aload_n (q := 22) dX9_openBy_21 rfl rfl ?_
      refine xi_getf (q := 25) dX9_openBy_22 fl_X9_23 ⟨by omega, hW.1⟩ rfl rfl ?_
      refine xi_iload (q := 27) dX9_openBy_25 rfl rfl ?_
      refine xi_iconst (x := 4) (q := 28) dX9_openBy_27 (by decide) rfl ?_
      refine xi_iadd (q := 29) dX9_openBy_28 rfl ?_
      refine xi_iald (q := 30) dX9_openBy_29 ⟨by omega, hW.2.1⟩ (xn_ix12 (j := 4) hp7 (by omega)) rfl ?_
      refine xi_isub (q := 31) dX9_openBy_30 rfl ?_
      refine xi_goto (q := 54) dX9_openBy_31 (by decide) ?_
      refine xi_istore (q := 56) dX9_openBy_54 (Nat.le_of_ble_eq_true rfl) rfl ?_
      refine xi_iload (q := 58) dX9_openBy_56 rfl rfl ?_
      refine xi_aload_n (q := 59) dX9_openBy_58 rfl rfl ?_
      refine xi_getf (q := 62) dX9_openBy_59 fl_X9_23 ⟨by omega, hW.1⟩ rfl rfl ?_
      refine xi_iload (q := 64) dX9_openBy_62 rfl rfl ?_
      refine xi_bipush (x := 6) (q := 66) dX9_openBy_64 (by decide) rfl ?_
      refine xi_iadd (q := 67) dX9_openBy_66 rfl ?_
      refine xi_iald (q := 68) dX9_openBy_67 ⟨by omega, hW.2.1⟩ (xn_ix12 (j := 6) hp7 (by omega)) rfl ?_
      refine xi_icmp_ge (q := 71) (q2 := 76) dX9_openBy_68 (by decide) rfl (fun c_68 => ?_) (fun c_68 => ?_)
      · skip
        refine xi_aload_n (q := 77) dX9_openBy_76 rfl rfl ?_
        refine xi_getf (q := 80) dX9_openBy_77 fl_X9_23 ⟨by omega, hW.1⟩ rfl rfl ?_
        refine xi_iload (q := 82) dX9_openBy_80 rfl rfl ?_
        refine xi_bipush (x := 6) (q := 84) dX9_openBy_82 (by decide) rfl ?_
        refine xi_iadd (q := 85) dX9_openBy_84 rfl ?_
        refine xi_iald (q := 86) dX9_openBy_85 ⟨by omega, hW.2.1⟩ (xn_ix12 (j := 6) hp7 (by omega)) rfl ?_
        refine xi_istore (q := 88) dX9_openBy_86 (Nat.le_of_ble_eq_true rfl) rfl ?_
        refine xi_iload (q := 90) dX9_openBy_88 rfl rfl ?_
        refine xi_if_ge (q := 93) (q2 := 97) dX9_openBy_90 (by decide) rfl (fun c_90 => ?_) (fun c_90 => ?_)
        · skip
          refine xi_iload (q := 99) dX9_openBy_97 rfl rfl ?_
          refine xi_ret ⟨_, rfl, rfl, dX9_openBy_99⟩ (Nat.zero_le _) (Nat.zero_le _) ?_
          exact xv_eqr hp (by simp only [xs_by, xs_far, xs_cl, xs_nr, eq_true c_8, eq_true c_12, eq_false (xn_nlt c_68), eq_false (xn_nlt c_90), if_true, if_false, ↓reduceIte])
        · skip
          refine xi_iconst (x := 0) (q := 94) dX9_openBy_93 (by decide) rfl ?_
          refine xi_goto (q := 99) dX9_openBy_94 (by decide) ?_
          refine xi_ret ⟨_, rfl, rfl, dX9_openBy_99⟩ (Nat.zero_le _) (Nat.zero_le _) ?_
          exact xv_eqr hp (by simp only [xs_by, xs_far, xs_cl, xs_nr, eq_true c_8, eq_true c_12, eq_false (xn_nlt c_68), eq_true (xn_ltn c_90), if_true, if_false, ↓reduceIte])
      · skip
        refine xi_iload (q := 73) dX9_openBy_71 rfl rfl ?_
        refine xi_goto (q := 86) dX9_openBy_73 (by decide) ?_
        refine xi_istore (q := 88) dX9_openBy_86 (Nat.le_of_ble_eq_true rfl) rfl ?_
        refine xi_iload (q := 90) dX9_openBy_88 rfl rfl ?_
        refine xi_if_ge (q := 93) (q2 := 97) dX9_openBy_90 (by decide) rfl (fun c_90 => ?_) (fun c_90 => ?_)
        · skip
          refine xi_iload (q := 99) dX9_openBy_97 rfl rfl ?_
          refine xi_ret ⟨_, rfl, rfl, dX9_openBy_99⟩ (Nat.zero_le _) (Nat.zero_le _) ?_
          exact xv_eqr hp (by simp only [xs_by, xs_far, xs_cl, xs_nr, eq_true c_8, eq_true c_12, eq_true (xn_ltn c_68), eq_false (xn_nlt c_90), if_true, if_false, ↓reduceIte])
        · skip
          refine xi_iconst (x := 0) (q := 94) dX9_openBy_93 (by decide) rfl ?_
          refine xi_goto (q := 99) dX9_openBy_94 (by decide) ?_
          refine xi_ret ⟨_, rfl, rfl, dX9_openBy_99⟩ (Nat.zero_le _) (Nat.zero_le _) ?_
          exact xv_eqr hp (by simp only [xs_by, xs_far, xs_cl, xs_nr, eq_true c_8, eq_true c_12, eq_true (xn_ltn c_68), eq_true (xn_ltn c_90), if_true, if_false, ↓reduceIte])

set_option maxRecDepth 20000 in
set_option maxHeartbeats 2000000 in
/-- openAt -/
theorem xm_X9_openAt : xv_K yX9_openAt mX9_openAt (fun as h n Post => ∃ (fa : Nat → Int32) (dk : Int64) (nu : Nat → Int32) (p : Nat) (m : Int32) (d : Int32) (k : Int32) (w : Int32), as = [.ref 83, .int (nI p), .int m, .int d, .int k, .int w] ∧ (xs_MW h fa dk nu) ∧ (103 < n) ∧ (p < 7) ∧ Post (some (.int (xs_opn (xs_nr nu p) (nu (12 * p + 11)) m d k w))) h n) := by
  refine xv_entry (by decide +kernel) rfl (fun h => absurd h (by decide)) ?_
  rintro X _ h n Post ⟨fa, dk, nu, p, m, d, k, w, rfl, hW, h103, hp7, hp⟩
  refine ⟨Nat.le_of_ble_eq_true rfl, ?_⟩
  show xv_V X mX9_openAt Post 0 0 0 [(0, .ref 83), (1, .int (nI p)), (2, .int m), (3, .int d), (4, .int k), (5, .int w)] [] h n
  refine xi_aload_n (q := 1) dX9_openAt_0 rfl rfl ?_
  refine xi_iload_n (q := 2) dX9_openAt_1 rfl rfl ?_
  refine xi_aload_n (q := 3) dX9_openAt_2 rfl rfl ?_
  refine xi_iload_n (q := 4) dX9_openAt_3 rfl rfl ?_
  refine xi_iload_n (q := 5) dX9_openAt_4 rfl rfl ?_
  refine xi_iload (q := 7) dX9_openAt_5 rfl rfl ?_
  refine xv_cV3 (q := 10) xm_X9_valveAt ln_X9_146 dX9_openAt_7 ⟨by omega, hW.1⟩ rfl ⟨(Nat.le_of_ble_eq_true rfl), (Nat.le_of_ble_eq_true rfl)⟩ (Nat.le_of_ble_eq_true rfl) ⟨rfl, rfl⟩ rfl (Nat.zero_le _) (Nat.zero_le _) ?_
  refine ⟨_, _, _, p, m, k, rfl, hW, h103, hp7, ?_⟩
  refine xi_iload_n (q := 11) dX9_openAt_10 rfl rfl ?_
  refine xi_iload (q := 13) dX9_openAt_11 rfl rfl ?_
  refine xv_cV4 (q := 16) xm_X9_openBy ln_X9_150 dX9_openAt_13 ⟨by omega, hW.1⟩ rfl ⟨(Nat.le_of_ble_eq_true rfl), (Nat.le_of_ble_eq_true rfl)⟩ (Nat.le_of_ble_eq_true rfl) ⟨rfl, rfl⟩ rfl (Nat.zero_le _) (Nat.zero_le _) ?_
  refine ⟨_, _, _, p, _, d, w, rfl, hW, h103, hp7, ?_⟩
  refine xi_ret ⟨_, rfl, rfl, dX9_openAt_16⟩ (Nat.zero_le _) (Nat.zero_le _) ?_
  exact hp

set_option maxRecDepth 20000 in
set_option maxHeartbeats 2000000 in
/-- eventOf -/
theorem xm_X9_eventOf : xv_K yX9_eventOf mX9_eventOf (fun as h n Post => ∃ (fa : Nat → Int32) (dk : Int64) (nu : Nat → Int32) (p : Nat) (m : Int32) (d : Int32) (w : Int32), as = [.ref 83, .int (nI p), .int m, .int d, .int w] ∧ (xs_MW h fa dk nu) ∧ (103 < n) ∧ (p < 7) ∧ Post (some (.int (xs_evt (xs_nr nu p) (nu (12 * p + 11)) m d w))) h n) := by
  refine xv_entry (by decide +kernel) rfl (fun h => absurd h (by decide)) ?_
  rintro X _ h n Post ⟨fa, dk, nu, p, m, d, w, rfl, hW, h103, hp7, hp⟩
  refine ⟨Nat.le_of_ble_eq_true rfl, ?_⟩
  show xv_V X mX9_eventOf Post 0 0 0 [(0, .ref 83), (1, .int (nI p)), (2, .int m), (3, .int d), (4, .int w)] [] h n
  have L17 : ∀ (dd k : Nat), k + dd = 48 → xs_find (xs_eat (xs_nr nu p) (nu (12 * p + 11)) m d w) dd k = xs_evt (xs_nr nu p) (nu (12 * p + 11)) m d w → xv_V X mX9_eventOf Post 0 0 17 [(0, .ref 83), (1, .int (nI p)), (2, .int m), (3, .int d), (4, .int w), (5, .int (xs_b (decide (xs_rem w 2 = 0)))), (6, .int (nI k))] [] h n := by
    intro dd
    induction dd using Nat.strongRecOn with
    | _ dd ih =>
      intro k hk hfi
      refine xi_iload (q := 19) dX9_eventOf_17 rfl rfl ?_
      refine xi_bipush (x := 48) (q := 21) dX9_eventOf_19 (by decide) rfl ?_
      refine xi_icmp_ge (q := 24) (q2 := 95) dX9_eventOf_21 (by decide) rfl (fun c_21 => ?_) (fun c_21 => ?_)
      · have hk2 : k = 48 := by have z : 48 ≤ k := xn_leN c_21 (by omega) (by omega); omega
        refine xi_ldc (q := 97) dX9_eventOf_95 kc_X9_158 rfl ?_
        refine xi_ret ⟨_, rfl, rfl, dX9_eventOf_97⟩ (Nat.zero_le _) (Nat.zero_le _) ?_
        exact xv_eqr hp (by rw [← hfi, show dd = 0 by omega]; rfl)
      · have hk2 : k < 48 := xn_nleN c_21 (by omega) (by omega)
        refine xi_aload_n (q := 25) dX9_eventOf_24 rfl rfl ?_
        refine xi_iload_n (q := 26) dX9_eventOf_25 rfl rfl ?_
        refine xi_iload_n (q := 27) dX9_eventOf_26 rfl rfl ?_
        refine xi_iload_n (q := 28) dX9_eventOf_27 rfl rfl ?_
        refine xi_iload (q := 30) dX9_eventOf_28 rfl rfl ?_
        refine xi_iload (q := 32) dX9_eventOf_30 rfl rfl ?_
        refine xi_iconst (x := 2) (q := 33) dX9_eventOf_32 (by decide) rfl ?_
        refine xi_idiv (q := 34) dX9_eventOf_33 (by decide) rfl ?_
        refine xv_cV5 (q := 37) xm_X9_openAt ln_X9_154 dX9_eventOf_34 ⟨by omega, hW.1⟩ rfl ⟨(Nat.le_of_ble_eq_true rfl), (Nat.le_of_ble_eq_true rfl)⟩ (Nat.le_of_ble_eq_true rfl) ⟨rfl, rfl⟩ rfl (Nat.zero_le _) (Nat.zero_le _) ?_
        refine ⟨_, _, _, p, m, d, _, _, rfl, hW, h103, hp7, ?_⟩
        have J45 : ∀ x : Int32, x = xs_b (xs_isop (xs_nr nu p) (nu (12 * p + 11)) m d w (nI k)) → xv_V X mX9_eventOf Post 0 0 45 [(0, .ref 83), (1, .int (nI p)), (2, .int m), (3, .int d), (4, .int w), (5, .int (xs_b (decide (xs_rem w 2 = 0)))), (6, .int (nI k))] [.int x] h n := by
          intro x hx
          subst hx
          refine xi_istore (q := 47) dX9_eventOf_45 (Nat.le_of_ble_eq_true rfl) rfl ?_
          refine xi_aload_n (q := 48) dX9_eventOf_47 rfl rfl ?_
          refine xi_iload_n (q := 49) dX9_eventOf_48 rfl rfl ?_
          refine xi_iload_n (q := 50) dX9_eventOf_49 rfl rfl ?_
          refine xi_iload_n (q := 51) dX9_eventOf_50 rfl rfl ?_
          refine xi_iload (q := 53) dX9_eventOf_51 rfl rfl ?_
          refine xi_iconst (x := 1) (q := 54) dX9_eventOf_53 (by decide) rfl ?_
          refine xi_isub (q := 55) dX9_eventOf_54 rfl ?_
          refine xi_iload (q := 57) dX9_eventOf_55 rfl rfl ?_
          refine xi_iconst (x := 2) (q := 58) dX9_eventOf_57 (by decide) rfl ?_
          refine xi_idiv (q := 59) dX9_eventOf_58 (by decide) rfl ?_
          refine xv_cV5 (q := 62) xm_X9_openAt ln_X9_154 dX9_eventOf_59 ⟨by omega, hW.1⟩ rfl ⟨(Nat.le_of_ble_eq_true rfl), (Nat.le_of_ble_eq_true rfl)⟩ (Nat.le_of_ble_eq_true rfl) ⟨rfl, rfl⟩ rfl (Nat.zero_le _) (Nat.zero_le _) ?_
          refine ⟨_, _, _, p, m, d, _, _, rfl, hW, h103, hp7, ?_⟩
          have J70 : ∀ x : Int32, x = xs_b (xs_isop (xs_nr nu p) (nu (12 * p + 11)) m d w (nI k - 1)) → xv_V X mX9_eventOf Post 0 0 70 [(0, .ref 83), (1, .int (nI p)), (2, .int m), (3, .int d), (4, .int w), (5, .int (xs_b (decide (xs_rem w 2 = 0)))), (6, .int (nI k)), (7, .int (xs_b (xs_isop (xs_nr nu p) (nu (12 * p + 11)) m d w (nI k))))] [.int x] h n := by
            intro x hx
            subst hx
            refine xi_istore (q := 72) dX9_eventOf_70 (Nat.le_of_ble_eq_true rfl) rfl ?_
            refine xi_iload (q := 74) dX9_eventOf_72 rfl rfl ?_
            refine xi_iload (q := 76) dX9_eventOf_74 rfl rfl ?_
            refine xi_icmp_ne (q := 79) (q2 := 89) dX9_eventOf_76 (by decide) rfl (fun c_76 => ?_) (fun c_76 => ?_)
            · refine xi_iinc (y := nI (k + 1)) (q := 92) dX9_eventOf_89 rfl (xn_inc k) (Nat.le_of_ble_eq_true rfl) rfl ?_
              refine xi_goto (q := 17) dX9_eventOf_92 (by decide) ?_
              refine xv_weakS (lv' := [(0, .ref 83), (1, .int (nI p)), (2, .int m), (3, .int d), (4, .int w), (5, .int (xs_b (decide (xs_rem w 2 = 0)))), (6, .int (nI (k + 1)))]) ⟨rfl, rfl, rfl, rfl, rfl, rfl, rfl, trivial⟩ ?_
              exact ih (dd - 1) (by omega) (k + 1) (by omega) (by
                rw [← hfi, show dd = dd - 1 + 1 by omega]
                show _ = if xs_eat (xs_nr nu p) (nu (12 * p + 11)) m d w k = true then nI k else xs_find (xs_eat (xs_nr nu p) (nu (12 * p + 11)) m d w) (dd - 1) (k + 1)
                rw [xn_evF2 (Or.inr c_76)]
                rfl)
            · refine xi_iload (q := 81) dX9_eventOf_79 rfl rfl ?_
              refine xi_iload (q := 83) dX9_eventOf_81 rfl rfl ?_
              refine xi_icmp_eq (q := 86) (q2 := 89) dX9_eventOf_83 (by decide) rfl (fun c_83 => ?_) (fun c_83 => ?_)
              · refine xi_iinc (y := nI (k + 1)) (q := 92) dX9_eventOf_89 rfl (xn_inc k) (Nat.le_of_ble_eq_true rfl) rfl ?_
                refine xi_goto (q := 17) dX9_eventOf_92 (by decide) ?_
                refine xv_weakS (lv' := [(0, .ref 83), (1, .int (nI p)), (2, .int m), (3, .int d), (4, .int w), (5, .int (xs_b (decide (xs_rem w 2 = 0)))), (6, .int (nI (k + 1)))]) ⟨rfl, rfl, rfl, rfl, rfl, rfl, rfl, trivial⟩ ?_
                exact ih (dd - 1) (by omega) (k + 1) (by omega) (by
                  rw [← hfi, show dd = dd - 1 + 1 by omega]
                  show _ = if xs_eat (xs_nr nu p) (nu (12 * p + 11)) m d w k = true then nI k else xs_find (xs_eat (xs_nr nu p) (nu (12 * p + 11)) m d w) (dd - 1) (k + 1)
                  rw [xn_evF2 (Or.inl c_83)]
                  rfl)
              · refine xi_iload (q := 88) dX9_eventOf_86 rfl rfl ?_
                refine xi_ret ⟨_, rfl, rfl, dX9_eventOf_88⟩ (Nat.zero_le _) (Nat.zero_le _) ?_
                exact xv_eqr hp (by
                  rw [← hfi, show dd = dd - 1 + 1 by omega]
                  show _ = if xs_eat (xs_nr nu p) (nu (12 * p + 11)) m d w k = true then nI k else xs_find (xs_eat (xs_nr nu p) (nu (12 * p + 11)) m d w) (dd - 1) (k + 1)
                  rw [xn_evT2 c_83 (by first | exact c_76 | exact Decidable.of_not_not c_76)]
                  rfl)
          refine xi_if_le (q := 65) (q2 := 69) dX9_eventOf_62 (by decide) rfl (fun c_62 => ?_) (fun c_62 => ?_)
          · refine xi_iconst (x := 0) (q := 70) dX9_eventOf_69 (by decide) rfl ?_
            refine xv_weakS (lv' := [(0, .ref 83), (1, .int (nI p)), (2, .int m), (3, .int d), (4, .int w), (5, .int (xs_b (decide (xs_rem w 2 = 0)))), (6, .int (nI k)), (7, .int (xs_b (xs_isop (xs_nr nu p) (nu (12 * p + 11)) m d w (nI k))))]) ⟨rfl, rfl, rfl, rfl, rfl, rfl, rfl, rfl, trivial⟩ ?_
            exact J70 _ ((xn_b8 _).1 c_62)
          · refine xi_iconst (x := 1) (q := 66) dX9_eventOf_65 (by decide) rfl ?_
            refine xi_goto (q := 70) dX9_eventOf_66 (by decide) ?_
            refine xv_weakS (lv' := [(0, .ref 83), (1, .int (nI p)), (2, .int m), (3, .int d), (4, .int w), (5, .int (xs_b (decide (xs_rem w 2 = 0)))), (6, .int (nI k)), (7, .int (xs_b (xs_isop (xs_nr nu p) (nu (12 * p + 11)) m d w (nI k))))]) ⟨rfl, rfl, rfl, rfl, rfl, rfl, rfl, rfl, trivial⟩ ?_
            exact J70 _ ((xn_b8 _).2 c_62)
        refine xi_if_le (q := 40) (q2 := 44) dX9_eventOf_37 (by decide) rfl (fun c_37 => ?_) (fun c_37 => ?_)
        · refine xi_iconst (x := 0) (q := 45) dX9_eventOf_44 (by decide) rfl ?_
          exact J45 _ ((xn_b8 _).1 c_37)
        · refine xi_iconst (x := 1) (q := 41) dX9_eventOf_40 (by decide) rfl ?_
          refine xi_goto (q := 45) dX9_eventOf_41 (by decide) ?_
          exact J45 _ ((xn_b8 _).2 c_37)
  refine xi_iload (q := 2) dX9_eventOf_0 rfl rfl ?_
  refine xi_iconst (x := 2) (q := 3) dX9_eventOf_2 (by decide) rfl ?_
  refine xi_irem (q := 4) dX9_eventOf_3 (by decide) rfl ?_
  refine xi_if_ne (q := 7) (q2 := 11) dX9_eventOf_4 (by decide) rfl (fun c_4 => ?_) (fun c_4 => ?_)
  · have e0 : xs_b (decide (xs_rem w 2 = 0)) = 0 := by rw [decide_eq_false (show ¬ xs_rem w 2 = 0 from c_4)]; rfl
    refine xi_iconst (x := 0) (q := 12) dX9_eventOf_11 (by decide) rfl ?_
    rw [← e0]
    refine xi_istore (q := 14) dX9_eventOf_12 (Nat.le_of_ble_eq_true rfl) rfl ?_
    refine xi_iconst (x := 0) (q := 15) dX9_eventOf_14 (by decide) rfl ?_
    refine xi_istore (q := 17) dX9_eventOf_15 (Nat.le_of_ble_eq_true rfl) rfl ?_
    refine xv_weakS (lv' := [(0, .ref 83), (1, .int (nI p)), (2, .int m), (3, .int d), (4, .int w), (5, .int (xs_b (decide (xs_rem w 2 = 0)))), (6, .int (nI 0))]) ⟨rfl, rfl, rfl, rfl, rfl, rfl, rfl, trivial⟩ ?_
    exact L17 48 0 (by omega) rfl
  · have e0 : xs_b (decide (xs_rem w 2 = 0)) = 1 := by rw [decide_eq_true (show xs_rem w 2 = 0 from by first | exact c_4 | exact Decidable.of_not_not c_4)]; rfl
    refine xi_iconst (x := 1) (q := 8) dX9_eventOf_7 (by decide) rfl ?_
    refine xi_goto (q := 12) dX9_eventOf_8 (by decide) ?_
    rw [← e0]
    refine xi_istore (q := 14) dX9_eventOf_12 (Nat.le_of_ble_eq_true rfl) rfl ?_
    refine xi_iconst (x := 0) (q := 15) dX9_eventOf_14 (by decide) rfl ?_
    refine xi_istore (q := 17) dX9_eventOf_15 (Nat.le_of_ble_eq_true rfl) rfl ?_
    refine xv_weakS (lv' := [(0, .ref 83), (1, .int (nI p)), (2, .int m), (3, .int d), (4, .int w), (5, .int (xs_b (decide (xs_rem w 2 = 0)))), (6, .int (nI 0))]) ⟨rfl, rfl, rfl, rfl, rfl, rfl, rfl, trivial⟩ ?_
    exact L17 48 0 (by omega) rfl

