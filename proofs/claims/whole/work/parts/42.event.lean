theorem xn_lateb (s : Int32) : -3 ≤ (xs_late s).toInt ∧ (xs_late s).toInt ≤ 3 := by
  unfold xs_late
  by_cases h1 : 1 ≤ s ∧ s ≤ 3
  · rw [if_pos h1]
    rw [xn_le, xn_le, show (1 : Int32).toInt = 1 from rfl, show (3 : Int32).toInt = 3 from rfl] at h1
    rw [xn_neg (by omega)]
    omega
  · rw [if_neg h1]
    by_cases h2 : 4 ≤ s ∧ s ≤ 6
    · rw [if_pos h2]
      rw [xn_le, xn_le, show (4 : Int32).toInt = 4 from rfl, show (6 : Int32).toInt = 6 from rfl] at h2
      rw [xn_sub (by rw [show (3 : Int32).toInt = 3 from rfl]; omega) (by rw [show (3 : Int32).toInt = 3 from rfl]; omega), show (3 : Int32).toInt = 3 from rfl]
      omega
    · rw [if_neg h2]
      decide
theorem xn_arg1 {a b s : Int32} (ha : -2000 ≤ a.toInt ∧ a.toInt ≤ 2000) (hb : 0 ≤ b.toInt ∧ b.toInt ≤ 11) : (a + b + xs_late s - 12).toInt = a.toInt + b.toInt + (xs_late s).toInt - 12 := by
  have h1 := xn_lateb s
  have e1 : (a + b).toInt = a.toInt + b.toInt := xn_add (by omega) (by omega)
  have e2 : (a + b + xs_late s).toInt = a.toInt + b.toInt + (xs_late s).toInt := by rw [xn_add (by omega) (by omega), e1]
  rw [xn_sub (by rw [show (12 : Int32).toInt = 12 from rfl]; omega) (by rw [show (12 : Int32).toInt = 12 from rfl]; omega), e2]
  rfl
theorem xn_arg2 {a b : Int32} (ha : -2000 ≤ a.toInt ∧ a.toInt ≤ 2000) (hb : 0 ≤ b.toInt ∧ b.toInt ≤ 11) : (b - a - 12).toInt = b.toInt - a.toInt - 12 := by
  have e1 : (b - a).toInt = b.toInt - a.toInt := xn_sub (by omega) (by omega)
  rw [xn_sub (by rw [show (12 : Int32).toInt = 12 from rfl]; omega) (by rw [show (12 : Int32).toInt = 12 from rfl]; omega), e1]
  rfl
theorem xn_swi {f : Nat → Int32} {s m a b : Int32} (h2 : 0 ≤ (f 2).toInt ∧ (f 2).toInt ≤ 11) (ha : -2000 ≤ a.toInt ∧ a.toInt ≤ 2000) (hb : -2000 ≤ b.toInt ∧ b.toInt ≤ 2000) (h : a.toInt % 48 = b.toInt % 48) : xs_swi f s m a = xs_swi f s m b := by
  unfold xs_swi
  rw [xn_cos (a := a + f 2 + xs_late s - 12) (b := b + f 2 + xs_late s - 12) (by rw [xn_arg1 ha h2, xn_arg1 hb h2]; omega), xn_cos (a := f 2 - a - 12) (b := f 2 - b - 12) (by rw [xn_arg2 ha h2, xn_arg2 hb h2]; omega)]
theorem xn_swic {p q : Nat → Int32} {s m k : Int32} (h1 : p 1 = q 1) (h2 : p 2 = q 2) : xs_swi p s m k = xs_swi q s m k := by
  unfold xs_swi
  rw [h1, h2]
def xs_b (b : Bool) : Int32 := if b = true then 1 else 0
theorem xn_bi {a b : Bool} (h : xs_b a = xs_b b) : a = b := by
  revert h
  cases a <;> cases b <;> decide
theorem xn_b8 (x : Int32) : (x ≤ 0 → (0 : Int32) = xs_b (decide (0 < x))) ∧ (¬ x ≤ 0 → (1 : Int32) = xs_b (decide (0 < x))) := by
  constructor
  · intro h
    rw [decide_eq_false (fun z => by rw [xn_lt] at z; rw [xn_le] at h; omega)]
    rfl
  · intro h
    rw [decide_eq_true (by rw [xn_lt]; rw [xn_le] at h; omega)]
    rfl
theorem xn_evF {f : Nat → Int32} {s m d w : Int32} {k : Nat} (h : xs_b (xs_isop f s m d w (nI k)) = xs_b (xs_isop f s m d w (nI k - 1)) ∨ ¬ xs_b (xs_isop f s m d w (nI k)) = xs_b (decide (xs_rem w 2 = 0))) : xs_eat f s m d w k = false := by
  unfold xs_eat
  rcases h with h | h
  · rw [xn_bi h]
    cases xs_isop f s m d w (nI k - 1) <;> cases decide (xs_rem w 2 = 0) <;> rfl
  · revert h
    cases xs_isop f s m d w (nI k) <;> cases decide (xs_rem w 2 = 0) <;> cases xs_isop f s m d w (nI k - 1) <;> decide
theorem xn_evT {f : Nat → Int32} {s m d w : Int32} {k : Nat} (h : ¬ xs_b (xs_isop f s m d w (nI k)) = xs_b (xs_isop f s m d w (nI k - 1))) (h2 : xs_b (xs_isop f s m d w (nI k)) = xs_b (decide (xs_rem w 2 = 0))) : xs_eat f s m d w k = true := by
  unfold xs_eat
  rw [← xn_bi h2]
  revert h
  cases xs_isop f s m d w (nI k) <;> cases xs_isop f s m d w (nI k - 1) <;> decide
theorem xn_w2 {w : Int32} (hw : w = 0 ∨ w = 1 ∨ w = 2 ∨ w = 3) : (w / 2 = 0 ∨ w / 2 = 1) ∧ (2 ≤ w → (1 : Int32) = w / 2) ∧ (¬ 2 ≤ w → (0 : Int32) = w / 2) := by
  rcases hw with rfl | rfl | rfl | rfl <;> decide

set_option maxRecDepth 20000 in
set_option maxHeartbeats 2000000 in
/-- firstEventOn -/
theorem xm_X3_firstEventOn : xv_K yX3_firstEventOn mX3_firstEventOn (fun as h n Post => ∃ (r : Nat) (e : Nat) (f : Nat → Int32) (s : Int32) (t : Int32) (m : Int32) (d : Int32) (w : Int32), as = [.ref 8, .ref r, .ref e, .int m, .int d, .int w] ∧ (e + 1 < n) ∧ (h e = .inr (0, [.ref (e + 1), .int s, .int t])) ∧ (h (e + 1) = .inl (.int, 11, .inl f)) ∧ (r < n) ∧ (h r = .inl (.int, 48, .inl fun j => xs_swi f s m (nI j))) ∧ (0 ≤ (f 2).toInt ∧ (f 2).toInt ≤ 11) ∧ (d = 0 ∨ d = 1) ∧ (w = 0 ∨ w = 1 ∨ w = 2 ∨ w = 3) ∧ Post (some (.int (xs_evt f s m d w))) h n) := by
  refine xv_entry (by decide +kernel) rfl (fun h => absurd h (by decide)) ?_
  rintro X _ h n Post ⟨r, e, f, s, t, m, d, w, rfl, hn, hE, hN, hr, hg, h2, hd, hw, hp⟩
  refine ⟨Nat.le_of_ble_eq_true rfl, ?_⟩
  show xv_V X mX3_firstEventOn Post 0 0 0 [(0, .ref 8), (1, .ref r), (2, .ref e), (3, .int m), (4, .int d), (5, .int w)] [] h n
  have L64 : ∀ (dd k : Nat), k + dd = 48 → xs_find (xs_eat f s m d w) dd k = xs_evt f s m d w → xv_V X mX3_firstEventOn Post 0 0 64 [(1, .ref r), (2, .ref e), (3, .int m), (4, .int d), (5, .int w), (6, .int (xs_hng f m)), (7, .int (w / 2)), (8, .int (xs_b (decide (xs_rem w 2 = 0)))), (9, .int (xs_b (xs_isop f s m d w (nI k - 1)))), (10, .int (nI k))] [] h n := by
    intro dd
    induction dd using Nat.strongRecOn with
    | _ dd ih =>
      intro k hk hfi
      refine xi_iload (q := 66) dX3_firstEventOn_64 rfl rfl ?_
      refine xi_aload_n (q := 67) dX3_firstEventOn_66 rfl rfl ?_
      refine xi_alen (v := nI 48) (q := 68) dX3_firstEventOn_67 ⟨hr, hg⟩ rfl rfl ?_
      refine xi_icmp_ge (q := 71) (q2 := 123) dX3_firstEventOn_68 (by decide) rfl (fun c_68 => ?_) (fun c_68 => ?_)
      · have hk2 : k = 48 := by have z := xn_leN c_68 (by omega) (by omega); omega
        refine xi_ldc (q := 125) dX3_firstEventOn_123 kc_X3_64 rfl ?_
        refine xi_ret ⟨_, rfl, rfl, dX3_firstEventOn_125⟩ (Nat.zero_le _) (Nat.zero_le _) ?_
        exact xv_eqr hp (by rw [← hfi]; have hd0 : dd = 0 := by omega
                            subst hd0; rfl)
      · have hk2 : k < 48 := xn_nleN c_68 (by omega) (by omega)
        have J94 : ∀ x : Int32, x = xs_b (xs_isop f s m d w (nI k)) → xv_V X mX3_firstEventOn Post 0 0 94 [(1, .ref r), (2, .ref e), (3, .int m), (4, .int d), (5, .int w), (6, .int (xs_hng f m)), (7, .int (w / 2)), (8, .int (xs_b (decide (xs_rem w 2 = 0)))), (9, .int (xs_b (xs_isop f s m d w (nI k - 1)))), (10, .int (nI k))] [.int x] h n := by
          intro x hx
          subst hx
          refine xi_istore (q := 96) dX3_firstEventOn_94 (Nat.le_of_ble_eq_true rfl) rfl ?_
          refine xi_iload (q := 98) dX3_firstEventOn_96 rfl rfl ?_
          refine xi_iload (q := 100) dX3_firstEventOn_98 rfl rfl ?_
          refine xi_icmp_eq (q := 103) (q2 := 113) dX3_firstEventOn_100 (by decide) rfl (fun c_100 => ?_) (fun c_100 => ?_)
          · refine xi_iload (q := 115) dX3_firstEventOn_113 rfl rfl ?_
            refine xi_istore (q := 117) dX3_firstEventOn_115 (Nat.le_of_ble_eq_true rfl) rfl ?_
            refine xi_iinc (y := nI (k + 1)) (q := 120) dX3_firstEventOn_117 rfl (xn_inc k) (Nat.le_of_ble_eq_true rfl) rfl ?_
            refine xi_goto (q := 64) dX3_firstEventOn_120 (by decide) ?_
            refine xv_weakS (lv' := [(1, .ref r), (2, .ref e), (3, .int m), (4, .int d), (5, .int w), (6, .int (xs_hng f m)), (7, .int (w / 2)), (8, .int (xs_b (decide (xs_rem w 2 = 0)))), (9, .int (xs_b (xs_isop f s m d w (nI k)))), (10, .int (nI (k + 1)))]) ⟨rfl, rfl, rfl, rfl, rfl, rfl, rfl, rfl, rfl, rfl, trivial⟩ ?_
            have ih2 := ih (dd - 1) (by omega) (k + 1) (by omega) (by
              rw [← hfi, show dd = dd - 1 + 1 by omega]
              show _ = if xs_eat f s m d w k = true then nI k else xs_find (xs_eat f s m d w) (dd - 1) (k + 1)
              rw [xn_evF (Or.inl c_100)]
              rfl)
            rw [nI_pred k] at ih2
            exact ih2
          · refine xi_iload (q := 105) dX3_firstEventOn_103 rfl rfl ?_
            refine xi_iload (q := 107) dX3_firstEventOn_105 rfl rfl ?_
            refine xi_icmp_ne (q := 110) (q2 := 113) dX3_firstEventOn_107 (by decide) rfl (fun c_107 => ?_) (fun c_107 => ?_)
            · refine xi_iload (q := 115) dX3_firstEventOn_113 rfl rfl ?_
              refine xi_istore (q := 117) dX3_firstEventOn_115 (Nat.le_of_ble_eq_true rfl) rfl ?_
              refine xi_iinc (y := nI (k + 1)) (q := 120) dX3_firstEventOn_117 rfl (xn_inc k) (Nat.le_of_ble_eq_true rfl) rfl ?_
              refine xi_goto (q := 64) dX3_firstEventOn_120 (by decide) ?_
              refine xv_weakS (lv' := [(1, .ref r), (2, .ref e), (3, .int m), (4, .int d), (5, .int w), (6, .int (xs_hng f m)), (7, .int (w / 2)), (8, .int (xs_b (decide (xs_rem w 2 = 0)))), (9, .int (xs_b (xs_isop f s m d w (nI k)))), (10, .int (nI (k + 1)))]) ⟨rfl, rfl, rfl, rfl, rfl, rfl, rfl, rfl, rfl, rfl, trivial⟩ ?_
              have ih2 := ih (dd - 1) (by omega) (k + 1) (by omega) (by
                rw [← hfi, show dd = dd - 1 + 1 by omega]
                show _ = if xs_eat f s m d w k = true then nI k else xs_find (xs_eat f s m d w) (dd - 1) (k + 1)
                rw [xn_evF (Or.inr c_107)]
                rfl)
              rw [nI_pred k] at ih2
              exact ih2
            · refine xi_iload (q := 112) dX3_firstEventOn_110 rfl rfl ?_
              refine xi_ret ⟨_, rfl, rfl, dX3_firstEventOn_112⟩ (Nat.zero_le _) (Nat.zero_le _) ?_
              exact xv_eqr hp (by
                rw [← hfi, show dd = dd - 1 + 1 by omega]
                show _ = if xs_eat f s m d w k = true then nI k else xs_find (xs_eat f s m d w) (dd - 1) (k + 1)
                rw [xn_evT c_100 c_107]
                rfl)
        refine xv_weakS (lv' := [(1, .ref r), (2, .ref e), (3, .int m), (4, .int d), (5, .int w), (6, .int (xs_hng f m)), (7, .int (w / 2)), (8, .int (xs_b (decide (xs_rem w 2 = 0)))), (9, .int (xs_b (xs_isop f s m d w (nI k - 1)))), (10, .int (nI k))]) ⟨rfl, rfl, rfl, rfl, rfl, rfl, rfl, rfl, rfl, rfl, trivial⟩ ?_
        refine xi_aload_n (q := 72) dX3_firstEventOn_71 rfl rfl ?_
        refine xi_aload_n (q := 73) dX3_firstEventOn_72 rfl rfl ?_
        refine xi_iload (q := 75) dX3_firstEventOn_73 rfl rfl ?_
        refine xi_iald (q := 76) dX3_firstEventOn_75 ⟨hr, hg⟩ (xv_ixN hk2 (by omega)) rfl ?_
        refine xi_iload (q := 78) dX3_firstEventOn_76 rfl rfl ?_
        refine xi_iadd (q := 79) dX3_firstEventOn_78 rfl ?_
        refine xi_iload (q := 81) dX3_firstEventOn_79 rfl rfl ?_
        refine xi_iload (q := 83) dX3_firstEventOn_81 rfl rfl ?_
        refine xv_cV3 (q := 86) xm_X0_opening ln_X3_80 dX3_firstEventOn_83 ⟨by omega, hE⟩ rfl ⟨(Nat.le_of_ble_eq_true rfl), (Nat.le_of_ble_eq_true rfl)⟩ (Nat.le_of_ble_eq_true rfl) ⟨rfl, rfl⟩ rfl (Nat.zero_le _) (Nat.zero_le _) ?_
        refine ⟨e, f, s, t, _, _, _, rfl, hn, hE, hN, hd, (xn_w2 hw).1, ?_⟩
        refine xi_if_le (q := 89) (q2 := 93) dX3_firstEventOn_86 (by decide) rfl (fun c_86 => ?_) (fun c_86 => ?_)
        · refine xi_iconst (x := 0) (q := 94) dX3_firstEventOn_93 (by decide) rfl ?_
          exact J94 _ ((xn_b8 _).1 c_86)
        · refine xi_iconst (x := 1) (q := 90) dX3_firstEventOn_89 (by decide) rfl ?_
          refine xi_goto (q := 94) dX3_firstEventOn_90 (by decide) ?_
          exact J94 _ ((xn_b8 _).2 c_86)
  have J59 : ∀ x : Int32, x = xs_b (xs_isop f s m d w (nI 0 - 1)) → xv_V X mX3_firstEventOn Post 0 0 59 [(1, .ref r), (2, .ref e), (3, .int m), (4, .int d), (5, .int w), (6, .int (xs_hng f m)), (7, .int (w / 2)), (8, .int (xs_b (decide (xs_rem w 2 = 0))))] [.int x] h n := by
    intro x hx
    subst hx
    refine xi_istore (q := 61) dX3_firstEventOn_59 (Nat.le_of_ble_eq_true rfl) rfl ?_
    refine xi_iconst (x := 0) (q := 62) dX3_firstEventOn_61 (by decide) rfl ?_
    refine xi_istore (q := 64) dX3_firstEventOn_62 (Nat.le_of_ble_eq_true rfl) rfl ?_
    refine xv_weakS (lv' := [(1, .ref r), (2, .ref e), (3, .int m), (4, .int d), (5, .int w), (6, .int (xs_hng f m)), (7, .int (w / 2)), (8, .int (xs_b (decide (xs_rem w 2 = 0)))), (9, .int (xs_b (xs_isop f s m d w (nI 0 - 1)))), (10, .int (nI 0))]) ⟨rfl, rfl, rfl, rfl, rfl, rfl, rfl, rfl, rfl, rfl, trivial⟩ ?_
    exact L64 48 0 (by omega) rfl
  have hlast : xs_by f (xs_swi f s m (nI 47) + xs_hng f m) d (w / 2) = xs_opn f s m d (nI 0 - 1) (w / 2) := by
    unfold xs_opn xs_val
    rw [xn_swi (a := nI 47) (b := nI 0 - 1) h2 (by decide) (by decide) (by decide)]
  have J32 : ∀ x : Int32, x = xs_b (decide (xs_rem w 2 = 0)) → xv_V X mX3_firstEventOn Post 0 0 32 [(1, .ref r), (2, .ref e), (3, .int m), (4, .int d), (5, .int w), (6, .int (xs_hng f m)), (7, .int (w / 2))] [.int x] h n := by
    intro x hx
    subst hx
    refine xi_istore (q := 34) dX3_firstEventOn_32 (Nat.le_of_ble_eq_true rfl) rfl ?_
    refine xi_aload_n (q := 35) dX3_firstEventOn_34 rfl rfl ?_
    refine xi_aload_n (q := 36) dX3_firstEventOn_35 rfl rfl ?_
    refine xi_aload_n (q := 37) dX3_firstEventOn_36 rfl rfl ?_
    refine xi_alen (v := 48) (q := 38) dX3_firstEventOn_37 ⟨hr, hg⟩ rfl rfl ?_
    refine xi_iconst (x := 1) (q := 39) dX3_firstEventOn_38 (by decide) rfl ?_
    refine xi_isub (q := 40) dX3_firstEventOn_39 rfl ?_
    refine xi_iald (q := 41) dX3_firstEventOn_40 ⟨hr, hg⟩ ⟨xv_ink (by decide), (by decide : (48 - 1 : Int32).toNatClampNeg = 47)⟩ rfl ?_
    refine xi_iload (q := 43) dX3_firstEventOn_41 rfl rfl ?_
    refine xi_iadd (q := 44) dX3_firstEventOn_43 rfl ?_
    refine xi_iload (q := 46) dX3_firstEventOn_44 rfl rfl ?_
    refine xi_iload (q := 48) dX3_firstEventOn_46 rfl rfl ?_
    refine xv_cV3 (q := 51) xm_X0_opening ln_X3_80 dX3_firstEventOn_48 ⟨by omega, hE⟩ rfl ⟨(Nat.le_of_ble_eq_true rfl), (Nat.le_of_ble_eq_true rfl)⟩ (Nat.le_of_ble_eq_true rfl) ⟨rfl, rfl⟩ rfl (Nat.zero_le _) (Nat.zero_le _) ?_
    refine ⟨e, f, s, t, _, _, _, rfl, hn, hE, hN, hd, (xn_w2 hw).1, ?_⟩
    rw [show xs_by f ((fun j => xs_swi f s m (nI j)) 47 + xs_hng f m) d (w / 2) = xs_opn f s m d (nI 0 - 1) (w / 2) from hlast]
    refine xi_if_le (q := 54) (q2 := 58) dX3_firstEventOn_51 (by decide) rfl (fun c_51 => ?_) (fun c_51 => ?_)
    · refine xi_iconst (x := 0) (q := 59) dX3_firstEventOn_58 (by decide) rfl ?_
      refine xv_weakS (lv' := [(1, .ref r), (2, .ref e), (3, .int m), (4, .int d), (5, .int w), (6, .int (xs_hng f m)), (7, .int (w / 2)), (8, .int (xs_b (decide (xs_rem w 2 = 0))))]) ⟨rfl, rfl, rfl, rfl, rfl, rfl, rfl, rfl, trivial⟩ ?_
      exact J59 _ ((xn_b8 _).1 c_51)
    · refine xi_iconst (x := 1) (q := 55) dX3_firstEventOn_54 (by decide) rfl ?_
      refine xi_goto (q := 59) dX3_firstEventOn_55 (by decide) ?_
      refine xv_weakS (lv' := [(1, .ref r), (2, .ref e), (3, .int m), (4, .int d), (5, .int w), (6, .int (xs_hng f m)), (7, .int (w / 2)), (8, .int (xs_b (decide (xs_rem w 2 = 0))))]) ⟨rfl, rfl, rfl, rfl, rfl, rfl, rfl, rfl, trivial⟩ ?_
      exact J59 _ ((xn_b8 _).2 c_51)
  have J18 : ∀ x : Int32, x = w / 2 → xv_V X mX3_firstEventOn Post 0 0 18 [(1, .ref r), (2, .ref e), (3, .int m), (4, .int d), (5, .int w), (6, .int (xs_hng f m))] [.int x] h n := by
    intro x hx
    subst hx
    refine xi_istore (q := 20) dX3_firstEventOn_18 (Nat.le_of_ble_eq_true rfl) rfl ?_
    refine xi_iload (q := 22) dX3_firstEventOn_20 rfl rfl ?_
    refine xi_iconst (x := 2) (q := 23) dX3_firstEventOn_22 (by decide) rfl ?_
    refine xi_irem (q := 24) dX3_firstEventOn_23 (by decide) rfl ?_
    refine xi_if_ne (q := 27) (q2 := 31) dX3_firstEventOn_24 (by decide) rfl (fun c_24 => ?_) (fun c_24 => ?_)
    · refine xi_iconst (x := 0) (q := 32) dX3_firstEventOn_31 (by decide) rfl ?_
      refine xv_weakS (lv' := [(1, .ref r), (2, .ref e), (3, .int m), (4, .int d), (5, .int w), (6, .int (xs_hng f m)), (7, .int (w / 2))]) ⟨rfl, rfl, rfl, rfl, rfl, rfl, rfl, trivial⟩ ?_
      exact J32 _ (by rw [decide_eq_false (show ¬ xs_rem w 2 = 0 from c_24)]; rfl)
    · refine xi_iconst (x := 1) (q := 28) dX3_firstEventOn_27 (by decide) rfl ?_
      refine xi_goto (q := 32) dX3_firstEventOn_28 (by decide) ?_
      refine xv_weakS (lv' := [(1, .ref r), (2, .ref e), (3, .int m), (4, .int d), (5, .int w), (6, .int (xs_hng f m)), (7, .int (w / 2))]) ⟨rfl, rfl, rfl, rfl, rfl, rfl, rfl, trivial⟩ ?_
      exact J32 _ (by rw [decide_eq_true (show xs_rem w 2 = 0 from c_24)]; rfl)
  refine xi_aload_n (q := 1) dX3_firstEventOn_0 rfl rfl ?_
  refine xi_iload_n (q := 2) dX3_firstEventOn_1 rfl rfl ?_
  refine xv_cV1 (q := 5) xm_X0_hanging ln_X3_76 dX3_firstEventOn_2 ⟨by omega, hE⟩ rfl ⟨(Nat.le_of_ble_eq_true rfl), (Nat.le_of_ble_eq_true rfl)⟩ (Nat.le_of_ble_eq_true rfl) ⟨rfl, rfl⟩ rfl (Nat.zero_le _) (Nat.zero_le _) ?_
  refine ⟨e, f, s, t, _, rfl, hn, hE, hN, ?_⟩
  refine xi_istore (q := 7) dX3_firstEventOn_5 (Nat.le_of_ble_eq_true rfl) rfl ?_
  refine xi_iload (q := 9) dX3_firstEventOn_7 rfl rfl ?_
  refine xi_iconst (x := 2) (q := 10) dX3_firstEventOn_9 (by decide) rfl ?_
  refine xi_icmp_ge (q := 13) (q2 := 17) dX3_firstEventOn_10 (by decide) rfl (fun c_10 => ?_) (fun c_10 => ?_)
  · refine xi_iconst (x := 1) (q := 18) dX3_firstEventOn_17 (by decide) rfl ?_
    refine xv_weakS (lv' := [(1, .ref r), (2, .ref e), (3, .int m), (4, .int d), (5, .int w), (6, .int (xs_hng f m))]) ⟨rfl, rfl, rfl, rfl, rfl, rfl, trivial⟩ ?_
    exact J18 _ ((xn_w2 hw).2.1 c_10)
  · refine xi_iconst (x := 0) (q := 14) dX3_firstEventOn_13 (by decide) rfl ?_
    refine xi_goto (q := 18) dX3_firstEventOn_14 (by decide) ?_
    refine xv_weakS (lv' := [(1, .ref r), (2, .ref e), (3, .int m), (4, .int d), (5, .int w), (6, .int (xs_hng f m))]) ⟨rfl, rfl, rfl, rfl, rfl, rfl, trivial⟩ ?_
    exact J18 _ ((xn_w2 hw).2.2 c_10)
