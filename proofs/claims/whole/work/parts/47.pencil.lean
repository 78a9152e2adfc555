def xs_I (g : Nat → Int32) : xv_E := .inl (.int, 48, .inl g)
def xs_PC (h : xv_H) (dn : Int64) (wk dk : Int32) (r1 r2 r3 r4 : Nat → Int32) : Prop := h 17 = .inr (5, [.ref 18, .ref 19, .ref 20, .ref 21, .long dn, .int wk, .int dk]) ∧ h 18 = .inl (.int, 48, .inl r1) ∧ h 19 = .inl (.int, 48, .inl r2) ∧ h 20 = .inl (.int, 48, .inl r3) ∧ h 21 = .inl (.int, 48, .inl r4)
theorem xs_PC1 {h : xv_H} {dn : Int64} {wk dk : Int32} {r1 r2 r3 r4 : Nat → Int32} (hP : xs_PC h dn wk dk r1 r2 r3 r4) (g : Nat → Int32) : xs_PC (va_up h 18 (.inl (.int, 48, .inl g))) dn wk dk g r2 r3 r4 := ⟨(va_up_ne _ _ (by omega)).trans hP.1, va_up_self _ _ _, (va_up_ne _ _ (by omega)).trans hP.2.2.1, (va_up_ne _ _ (by omega)).trans hP.2.2.2.1, (va_up_ne _ _ (by omega)).trans hP.2.2.2.2⟩
theorem xs_PC2 {h : xv_H} {dn : Int64} {wk dk : Int32} {r1 r2 r3 r4 : Nat → Int32} (hP : xs_PC h dn wk dk r1 r2 r3 r4) (g : Nat → Int32) : xs_PC (va_up h 19 (.inl (.int, 48, .inl g))) dn wk dk r1 g r3 r4 := ⟨(va_up_ne _ _ (by omega)).trans hP.1, (va_up_ne _ _ (by omega)).trans hP.2.1, va_up_self _ _ _, (va_up_ne _ _ (by omega)).trans hP.2.2.2.1, (va_up_ne _ _ (by omega)).trans hP.2.2.2.2⟩
theorem xs_PC3 {h : xv_H} {dn : Int64} {wk dk : Int32} {r1 r2 r3 r4 : Nat → Int32} (hP : xs_PC h dn wk dk r1 r2 r3 r4) (g : Nat → Int32) : xs_PC (va_up h 20 (.inl (.int, 48, .inl g))) dn wk dk r1 r2 g r4 := ⟨(va_up_ne _ _ (by omega)).trans hP.1, (va_up_ne _ _ (by omega)).trans hP.2.1, (va_up_ne _ _ (by omega)).trans hP.2.2.1, va_up_self _ _ _, (va_up_ne _ _ (by omega)).trans hP.2.2.2.2⟩
theorem xs_PC4 {h : xv_H} {dn : Int64} {wk dk : Int32} {r1 r2 r3 r4 : Nat → Int32} (hP : xs_PC h dn wk dk r1 r2 r3 r4) (g : Nat → Int32) : xs_PC (va_up h 21 (.inl (.int, 48, .inl g))) dn wk dk r1 r2 r3 g := ⟨(va_up_ne _ _ (by omega)).trans hP.1, (va_up_ne _ _ (by omega)).trans hP.2.1, (va_up_ne _ _ (by omega)).trans hP.2.2.1, (va_up_ne _ _ (by omega)).trans hP.2.2.2.1, va_up_self _ _ _⟩
theorem xs_PC0 {h : xv_H} {dn : Int64} {wk dk : Int32} {r1 r2 r3 r4 : Nat → Int32} (hP : xs_PC h dn wk dk r1 r2 r3 r4) (dn2 : Int64) (w2 d2 : Int32) : xs_PC (va_up h 17 (.inr (5, [.ref 18, .ref 19, .ref 20, .ref 21, .long dn2, .int w2, .int d2]))) dn2 w2 d2 r1 r2 r3 r4 := ⟨va_up_self _ _ _, (va_up_ne _ _ (by omega)).trans hP.2.1, (va_up_ne _ _ (by omega)).trans hP.2.2.1, (va_up_ne _ _ (by omega)).trans hP.2.2.2.1, (va_up_ne _ _ (by omega)).trans hP.2.2.2.2⟩
def xs_mx (g : Nat → Int32) : Nat → Int32
  | 0 => g 0
  | k + 1 => if xs_mx g k < g (k + 1) then g (k + 1) else xs_mx g k
def xs_lp1 (g : Nat → Int32) (j : Nat) : Int32 := if g (j + 1) < g (47 - j) then 1 else 0
def xs_pu1 (r g : Nat → Int32) (k : Nat) : Int64 := (g k + g ((k + 1) % 48)).toInt64 * (r ((k + 1) % 48) - r k).toInt64
theorem xn_remN {a d : Nat} (ha : a < 2147483648) (h0 : 0 < d) (hd : d < 2147483648) : nI a - nI a / nI d * nI d = nI (a % d) := pk_rem ha h0 hd
theorem xn_pos {x : Int32} (h : 0 < x.toInt) : 0 < x := by rw [xn_lt, show (0 : Int32).toInt = 0 from rfl]; exact h

set_option maxRecDepth 20000 in
set_option maxHeartbeats 2000000 in
/-- mean -/
theorem xm_X5_mean : xv_K yX5_mean mX5_mean (fun as h n Post => ∃ (dn : Int64) (wk : Int32) (dk : Int32) (r1 : Nat → Int32) (r2 : Nat → Int32) (r3 : Nat → Int32) (r4 : Nat → Int32), as = [.ref 17] ∧ (xs_PC h dn wk dk r1 r2 r3 r4) ∧ (21 < n) ∧ Post (some (.int (xs_ps r4 48 / 48))) h n) := by
  refine xv_entry (by decide +kernel) rfl (fun h => absurd h (by decide)) ?_
  rintro X _ h n Post ⟨dn, wk, dk, r1, r2, r3, r4, rfl, hP, h21, hp⟩
  refine ⟨Nat.le_of_ble_eq_true rfl, ?_⟩
  show xv_V X mX5_mean Post 0 0 0 [(0, .ref 17)] [] h n
  have L4 : ∀ (d k : Nat), k + d = 48 → xv_V X mX5_mean Post 0 0 4 [(0, .ref 17), (1, .int (xs_ps r4 k)), (2, .int (nI k))] [] h n := by
    intro d
    induction d using Nat.strongRecOn with
    | _ d ih =>
      intro k hk
      refine xi_iload_n (q := 5) dX5_mean_4 rfl rfl ?_
      refine xi_bipush (x := 48) (q := 7) dX5_mean_5 (by decide) rfl ?_
      refine xi_icmp_ge (q := 10) (q2 := 25) dX5_mean_7 (by decide) rfl (fun c_7 => ?_) (fun c_7 => ?_)
      · have hk2 : k = 48 := by have z : 48 ≤ k := xn_leN c_7 (by omega) (by omega); omega
        subst hk2
        refine xi_iload_n (q := 26) dX5_mean_25 rfl rfl ?_
        refine xi_bipush (x := 48) (q := 28) dX5_mean_26 (by decide) rfl ?_
        refine xi_idiv (q := 29) dX5_mean_28 (by decide) rfl ?_
        refine xi_ret ⟨_, rfl, rfl, dX5_mean_29⟩ (Nat.zero_le _) (Nat.zero_le _) ?_
        exact hp
      · have hk2 : k < 48 := xn_nleN c_7 (by omega) (by omega)
        refine xi_iload_n (q := 11) dX5_mean_10 rfl rfl ?_
        refine xi_aload_n (q := 12) dX5_mean_11 rfl rfl ?_
        refine xi_getf (q := 15) dX5_mean_12 fl_X5_21 ⟨by omega, hP.1⟩ rfl rfl ?_
        refine xi_iload_n (q := 16) dX5_mean_15 rfl rfl ?_
        refine xi_iald (q := 17) dX5_mean_16 ⟨by omega, hP.2.2.2.2⟩ (xv_ixN hk2 (by omega)) rfl ?_
        refine xi_iadd (q := 18) dX5_mean_17 rfl ?_
        refine xi_istore_n (q := 19) dX5_mean_18 (Nat.le_of_ble_eq_true rfl) rfl ?_
        refine xi_iinc (y := nI (k + 1)) (q := 22) dX5_mean_19 rfl (xn_inc k) (Nat.le_of_ble_eq_true rfl) rfl ?_
        refine xi_goto (q := 4) dX5_mean_22 (by decide) ?_
        refine xv_weakS (lv' := [(0, .ref 17), (1, .int (xs_ps r4 (k + 1))), (2, .int (nI (k + 1)))]) ⟨rfl, rfl, rfl, trivial⟩ ?_
        exact ih (d - 1) (by omega) (k + 1) (by omega)
  refine xi_iconst (x := 0) (q := 1) dX5_mean_0 (by decide) rfl ?_
  refine xi_istore_n (q := 2) dX5_mean_1 (Nat.le_of_ble_eq_true rfl) rfl ?_
  refine xi_iconst (x := 0) (q := 3) dX5_mean_2 (by decide) rfl ?_
  refine xi_istore_n (q := 4) dX5_mean_3 (Nat.le_of_ble_eq_true rfl) rfl ?_
  refine xv_weakS (lv' := [(0, .ref 17), (1, .int (xs_ps r4 0)), (2, .int (nI 0))]) ⟨rfl, rfl, rfl, trivial⟩ ?_
  exact L4 48 0 (by omega)

set_option maxRecDepth 20000 in
set_option maxHeartbeats 2000000 in
/-- peak -/
theorem xm_X5_peak : xv_K yX5_peak mX5_peak (fun as h n Post => ∃ (dn : Int64) (wk : Int32) (dk : Int32) (r1 : Nat → Int32) (r2 : Nat → Int32) (r3 : Nat → Int32) (r4 : Nat → Int32), as = [.ref 17] ∧ (xs_PC h dn wk dk r1 r2 r3 r4) ∧ (21 < n) ∧ Post (some (.int (xs_mx r4 47))) h n) := by
  refine xv_entry (by decide +kernel) rfl (fun h => absurd h (by decide)) ?_
  rintro X _ h n Post ⟨dn, wk, dk, r1, r2, r3, r4, rfl, hP, h21, hp⟩
  refine ⟨Nat.le_of_ble_eq_true rfl, ?_⟩
  show xv_V X mX5_peak Post 0 0 0 [(0, .ref 17)] [] h n
  have L9 : ∀ (d k : Nat), k + d = 47 → xv_V X mX5_peak Post 0 0 9 [(0, .ref 17), (1, .int (xs_mx r4 k)), (2, .int (nI (k + 1)))] [] h n := by
    intro d
    induction d using Nat.strongRecOn with
    | _ d ih =>
      intro k hk
      refine xi_iload_n (q := 10) dX5_peak_9 rfl rfl ?_
      refine xi_bipush (x := 48) (q := 12) dX5_peak_10 (by decide) rfl ?_
      refine xi_icmp_ge (q := 15) (q2 := 32) dX5_peak_12 (by decide) rfl (fun c_12 => ?_) (fun c_12 => ?_)
      · have hk2 : k = 47 := by have z : 48 ≤ k + 1 := xn_leN c_12 (by omega) (by omega); omega
        subst hk2
        refine xi_iload_n (q := 33) dX5_peak_32 rfl rfl ?_
        refine xi_ret ⟨_, rfl, rfl, dX5_peak_33⟩ (Nat.zero_le _) (Nat.zero_le _) ?_
        exact hp
      · have hk2 : k + 1 < 48 := xn_nleN c_12 (by omega) (by omega)
        refine xi_iload_n (q := 16) dX5_peak_15 rfl rfl ?_
        refine xi_aload_n (q := 17) dX5_peak_16 rfl rfl ?_
        refine xi_getf (q := 20) dX5_peak_17 fl_X5_21 ⟨by omega, hP.1⟩ rfl rfl ?_
        refine xi_iload_n (q := 21) dX5_peak_20 rfl rfl ?_
        refine xi_iald (q := 22) dX5_peak_21 ⟨by omega, hP.2.2.2.2⟩ (xv_ixN hk2 (by omega)) rfl ?_
        refine xi_mmax (q := 25) dX5_peak_22 ln_X5_67 (Nat.le_of_ble_eq_true rfl) (Nat.le_of_ble_eq_true rfl) (Nat.zero_le _) (Nat.zero_le _) rfl ?_
        refine xi_istore_n (q := 26) dX5_peak_25 (Nat.le_of_ble_eq_true rfl) rfl ?_
        refine xi_iinc (y := nI ((k + 1) + 1)) (q := 29) dX5_peak_26 rfl (xn_inc (k + 1)) (Nat.le_of_ble_eq_true rfl) rfl ?_
        refine xi_goto (q := 9) dX5_peak_29 (by decide) ?_
        refine xv_weakS (lv' := [(0, .ref 17), (1, .int (xs_mx r4 (k + 1))), (2, .int (nI (k + 1 + 1)))]) ⟨rfl, rfl, rfl, trivial⟩ ?_
        exact ih (d - 1) (by omega) (k + 1) (by omega)
  refine xi_aload_n (q := 1) dX5_peak_0 rfl rfl ?_
  refine xi_getf (q := 4) dX5_peak_1 fl_X5_21 ⟨by omega, hP.1⟩ rfl rfl ?_
  refine xi_iconst (x := 0) (q := 5) dX5_peak_4 (by decide) rfl ?_
  refine xi_iald (q := 6) dX5_peak_5 ⟨by omega, hP.2.2.2.2⟩ ⟨xv_ink (by decide), (by decide : (0 : Int32).toNatClampNeg = 0)⟩ rfl ?_
  refine xi_istore_n (q := 7) dX5_peak_6 (Nat.le_of_ble_eq_true rfl) rfl ?_
  refine xi_iconst (x := 1) (q := 8) dX5_peak_7 (by decide) rfl ?_
  refine xi_istore_n (q := 9) dX5_peak_8 (Nat.le_of_ble_eq_true rfl) rfl ?_
  refine xv_weakS (lv' := [(0, .ref 17), (1, .int (xs_mx r4 0)), (2, .int (nI (0 + 1)))]) ⟨rfl, rfl, rfl, trivial⟩ ?_
  exact L9 47 0 (by omega)

set_option maxRecDepth 20000 in
set_option maxHeartbeats 2000000 in
/-- loop -/
theorem xm_X5_loop : xv_K yX5_loop mX5_loop (fun as h n Post => ∃ (dn : Int64) (wk : Int32) (dk : Int32) (r1 : Nat → Int32) (r2 : Nat → Int32) (r3 : Nat → Int32) (r4 : Nat → Int32), as = [.ref 17] ∧ (xs_PC h dn wk dk r1 r2 r3 r4) ∧ (21 < n) ∧ Post (some (.int (xs_ps (xs_lp1 r4) 23))) h n) := by
  refine xv_entry (by decide +kernel) rfl (fun h => absurd h (by decide)) ?_
  rintro X _ h n Post ⟨dn, wk, dk, r1, r2, r3, r4, rfl, hP, h21, hp⟩
  refine ⟨Nat.le_of_ble_eq_true rfl, ?_⟩
  show xv_V X mX5_loop Post 0 0 0 [(0, .ref 17)] [] h n
  have L4 : ∀ (d k : Nat), k + d = 23 → xv_V X mX5_loop Post 0 0 4 [(0, .ref 17), (1, .int (xs_ps (xs_lp1 r4) k)), (2, .int (nI (k + 1)))] [] h n := by
    intro d
    induction d using Nat.strongRecOn with
    | _ d ih =>
      intro k hk
      refine xi_iload_n (q := 5) dX5_loop_4 rfl rfl ?_
      refine xi_bipush (x := 24) (q := 7) dX5_loop_5 (by decide) rfl ?_
      refine xi_icmp_ge (q := 10) (q2 := 42) dX5_loop_7 (by decide) rfl (fun c_7 => ?_) (fun c_7 => ?_)
      · have hk2 : k = 23 := by have z : 24 ≤ k + 1 := xn_leN c_7 (by omega) (by omega); omega
        subst hk2
        refine xi_iload_n (q := 43) dX5_loop_42 rfl rfl ?_
        refine xi_ret ⟨_, rfl, rfl, dX5_loop_43⟩ (Nat.zero_le _) (Nat.zero_le _) ?_
        exact hp
      · have hk2 : k + 1 < 24 := xn_nleN c_7 (by omega) (by omega)
        have i48 : xv_ix (48 - nI (k + 1)) 48 (47 - k) := by
          rw [show (48 - nI (k + 1) : Int32) = nI (48 - (k + 1)) from pk_sub (a := 48) (by omega), show 48 - (k + 1) = 47 - k by omega]
          exact xv_ixN (by omega) (by omega)
        refine xi_iload_n (q := 11) dX5_loop_10 rfl rfl ?_
        refine xi_aload_n (q := 12) dX5_loop_11 rfl rfl ?_
        refine xi_getf (q := 15) dX5_loop_12 fl_X5_21 ⟨by omega, hP.1⟩ rfl rfl ?_
        refine xi_iload_n (q := 16) dX5_loop_15 rfl rfl ?_
        refine xi_iald (q := 17) dX5_loop_16 ⟨by omega, hP.2.2.2.2⟩ (xv_ixN (by omega) (by omega)) rfl ?_
        refine xi_aload_n (q := 18) dX5_loop_17 rfl rfl ?_
        refine xi_getf (q := 21) dX5_loop_18 fl_X5_21 ⟨by omega, hP.1⟩ rfl rfl ?_
        refine xi_bipush (x := 48) (q := 23) dX5_loop_21 (by decide) rfl ?_
        refine xi_iload_n (q := 24) dX5_loop_23 rfl rfl ?_
        refine xi_isub (q := 25) dX5_loop_24 rfl ?_
        refine xi_iald (q := 26) dX5_loop_25 ⟨by omega, hP.2.2.2.2⟩ i48 rfl ?_
        refine xi_icmp_ge (q := 29) (q2 := 33) dX5_loop_26 (by decide) rfl (fun c_26 => ?_) (fun c_26 => ?_)
        · refine xi_iconst (x := 0) (q := 34) dX5_loop_33 (by decide) rfl ?_
          refine xi_iadd (q := 35) dX5_loop_34 rfl ?_
          refine xi_istore_n (q := 36) dX5_loop_35 (Nat.le_of_ble_eq_true rfl) rfl ?_
          refine xi_iinc (y := nI ((k + 1) + 1)) (q := 39) dX5_loop_36 rfl (xn_inc (k + 1)) (Nat.le_of_ble_eq_true rfl) rfl ?_
          refine xi_goto (q := 4) dX5_loop_39 (by decide) ?_
          have e2 : xs_ps (xs_lp1 r4) (k + 1) = xs_ps (xs_lp1 r4) k + 0 := by show _ + xs_lp1 r4 k = _; unfold xs_lp1; rw [if_neg (fun z => by rw [xn_lt] at z; rw [xn_le] at c_26; omega)]
          refine xv_weakS (lv' := [(0, .ref 17), (1, .int (xs_ps (xs_lp1 r4) k + 0)), (2, .int (nI (k + 1 + 1)))]) ⟨rfl, rfl, rfl, trivial⟩ ?_
          rw [← e2]
          exact ih (d - 1) (by omega) (k + 1) (by omega)
        · refine xi_iconst (x := 1) (q := 30) dX5_loop_29 (by decide) rfl ?_
          refine xi_goto (q := 34) dX5_loop_30 (by decide) ?_
          refine xi_iadd (q := 35) dX5_loop_34 rfl ?_
          refine xi_istore_n (q := 36) dX5_loop_35 (Nat.le_of_ble_eq_true rfl) rfl ?_
          refine xi_iinc (y := nI ((k + 1) + 1)) (q := 39) dX5_loop_36 rfl (xn_inc (k + 1)) (Nat.le_of_ble_eq_true rfl) rfl ?_
          refine xi_goto (q := 4) dX5_loop_39 (by decide) ?_
          have e2 : xs_ps (xs_lp1 r4) (k + 1) = xs_ps (xs_lp1 r4) k + 1 := by show _ + xs_lp1 r4 k = _; unfold xs_lp1; rw [if_pos (by rw [xn_lt]; rw [xn_le] at c_26; omega)]
          refine xv_weakS (lv' := [(0, .ref 17), (1, .int (xs_ps (xs_lp1 r4) k + 1)), (2, .int (nI (k + 1 + 1)))]) ⟨rfl, rfl, rfl, trivial⟩ ?_
          rw [← e2]
          exact ih (d - 1) (by omega) (k + 1) (by omega)
  refine xi_iconst (x := 0) (q := 1) dX5_loop_0 (by decide) rfl ?_
  refine xi_istore_n (q := 2) dX5_loop_1 (Nat.le_of_ble_eq_true rfl) rfl ?_
  refine xi_iconst (x := 1) (q := 3) dX5_loop_2 (by decide) rfl ?_
  refine xi_istore_n (q := 4) dX5_loop_3 (Nat.le_of_ble_eq_true rfl) rfl ?_
  refine xv_weakS (lv' := [(0, .ref 17), (1, .int (xs_ps (xs_lp1 r4) 0)), (2, .int (nI (0 + 1)))]) ⟨rfl, rfl, rfl, trivial⟩ ?_
  exact L4 23 0 (by omega)

set_option maxRecDepth 20000 in
set_option maxHeartbeats 2000000 in
/-- pushed -/
theorem xm_X5_pushed : xv_K yX5_pushed mX5_pushed (fun as h n Post => ∃ (dn : Int64) (wk : Int32) (dk : Int32) (r1 : Nat → Int32) (r2 : Nat → Int32) (r3 : Nat → Int32) (r4 : Nat → Int32), as = [.ref 17] ∧ (xs_PC h dn wk dk r1 r2 r3 r4) ∧ (21 < n) ∧ Post (some (.long (xs_psL (xs_pu1 r1 r4) 48))) h n) := by
  refine xv_entry (by decide +kernel) rfl (fun h => absurd h (by decide)) ?_
  rintro X _ h n Post ⟨dn, wk, dk, r1, r2, r3, r4, rfl, hP, h21, hp⟩
  refine ⟨Nat.le_of_ble_eq_true rfl, ?_⟩
  show xv_V X mX5_pushed Post 0 0 0 [(0, .ref 17)] [] h n
  have L4 : ∀ (d k : Nat), k + d = 48 → xv_V X mX5_pushed Post 0 0 4 [(0, .ref 17), (1, .long (xs_psL (xs_pu1 r1 r4) k)), (3, .int (nI k))] [] h n := by
    intro d
    induction d using Nat.strongRecOn with
    | _ d ih =>
      intro k hk
      refine xi_iload_n (q := 5) dX5_pushed_4 rfl rfl ?_
      refine xi_bipush (x := 48) (q := 7) dX5_pushed_5 (by decide) rfl ?_
      refine xi_icmp_ge (q := 10) (q2 := 58) dX5_pushed_7 (by decide) rfl (fun c_7 => ?_) (fun c_7 => ?_)
      · have hk2 : k = 48 := by have z : 48 ≤ k := xn_leN c_7 (by omega) (by omega); omega
        subst hk2
        refine xi_lload_n (q := 59) dX5_pushed_58 rfl rfl ?_
        refine xi_ret ⟨rfl, dX5_pushed_59⟩ (Nat.zero_le _) (Nat.zero_le _) ?_
        exact hp
      · have hk2 : k < 48 := xn_nleN c_7 (by omega) (by omega)
        have ion : xv_ix (nI k + 1 - (nI k + 1) / 48 * 48) 48 ((k + 1) % 48) := by
          rw [nI_1, show nI (k + 1) - nI (k + 1) / 48 * 48 = nI ((k + 1) % 48) from xn_remN (d := 48) (by omega) (by omega) (by omega)]
          exact xv_ixN (by omega) (by omega)
        refine xi_iload_n (q := 11) dX5_pushed_10 rfl rfl ?_
        refine xi_iconst (x := 1) (q := 12) dX5_pushed_11 (by decide) rfl ?_
        refine xi_iadd (q := 13) dX5_pushed_12 rfl ?_
        refine xi_bipush (x := 48) (q := 15) dX5_pushed_13 (by decide) rfl ?_
        refine xi_irem (q := 16) dX5_pushed_15 (by decide) rfl ?_
        refine xi_istore (q := 18) dX5_pushed_16 (Nat.le_of_ble_eq_true rfl) rfl ?_
        refine xi_lload_n (q := 19) dX5_pushed_18 rfl rfl ?_
        refine xi_aload_n (q := 20) dX5_pushed_19 rfl rfl ?_
        refine xi_getf (q := 23) dX5_pushed_20 fl_X5_21 ⟨by omega, hP.1⟩ rfl rfl ?_
        refine xi_iload_n (q := 24) dX5_pushed_23 rfl rfl ?_
        refine xi_iald (q := 25) dX5_pushed_24 ⟨by omega, hP.2.2.2.2⟩ (xv_ixN hk2 (by omega)) rfl ?_
        refine xi_aload_n (q := 26) dX5_pushed_25 rfl rfl ?_
        refine xi_getf (q := 29) dX5_pushed_26 fl_X5_21 ⟨by omega, hP.1⟩ rfl rfl ?_
        refine xi_iload (q := 31) dX5_pushed_29 rfl rfl ?_
        refine xi_iald (q := 32) dX5_pushed_31 ⟨by omega, hP.2.2.2.2⟩ ion rfl ?_
        refine xi_iadd (q := 33) dX5_pushed_32 rfl ?_
        refine xi_i2l (q := 34) dX5_pushed_33 rfl ?_
        refine xi_aload_n (q := 35) dX5_pushed_34 rfl rfl ?_
        refine xi_getf (q := 38) dX5_pushed_35 fl_X5_9 ⟨by omega, hP.1⟩ rfl rfl ?_
        refine xi_iload (q := 40) dX5_pushed_38 rfl rfl ?_
        refine xi_iald (q := 41) dX5_pushed_40 ⟨by omega, hP.2.1⟩ ion rfl ?_
        refine xi_aload_n (q := 42) dX5_pushed_41 rfl rfl ?_
        refine xi_getf (q := 45) dX5_pushed_42 fl_X5_9 ⟨by omega, hP.1⟩ rfl rfl ?_
        refine xi_iload_n (q := 46) dX5_pushed_45 rfl rfl ?_
        refine xi_iald (q := 47) dX5_pushed_46 ⟨by omega, hP.2.1⟩ (xv_ixN hk2 (by omega)) rfl ?_
        refine xi_isub (q := 48) dX5_pushed_47 rfl ?_
        refine xi_i2l (q := 49) dX5_pushed_48 rfl ?_
        refine xi_lmul (q := 50) dX5_pushed_49 rfl ?_
        refine xi_ladd (q := 51) dX5_pushed_50 rfl ?_
        refine xi_lstore_n (q := 52) dX5_pushed_51 (Nat.le_of_ble_eq_true rfl) rfl ?_
        refine xi_iinc (y := nI (k + 1)) (q := 55) dX5_pushed_52 rfl (xn_inc k) (Nat.le_of_ble_eq_true rfl) rfl ?_
        refine xi_goto (q := 4) dX5_pushed_55 (by decide) ?_
        refine xv_weakS (lv' := [(0, .ref 17), (1, .long (xs_psL (xs_pu1 r1 r4) (k + 1))), (3, .int (nI (k + 1)))]) ⟨rfl, rfl, rfl, trivial⟩ ?_
        exact ih (d - 1) (by omega) (k + 1) (by omega)
  refine xi_lconst (x := 0) (q := 1) dX5_pushed_0 (by decide) rfl ?_
  refine xi_lstore_n (q := 2) dX5_pushed_1 (Nat.le_of_ble_eq_true rfl) rfl ?_
  refine xi_iconst (x := 0) (q := 3) dX5_pushed_2 (by decide) rfl ?_
  refine xi_istore_n (q := 4) dX5_pushed_3 (Nat.le_of_ble_eq_true rfl) rfl ?_
  refine xv_weakS (lv' := [(0, .ref 17), (1, .long (xs_psL (xs_pu1 r1 r4) 0)), (3, .int (nI 0))]) ⟨rfl, rfl, rfl, trivial⟩ ?_
  exact L4 48 0 (by omega)

set_option maxRecDepth 20000 in
set_option maxHeartbeats 2000000 in
/-- prepare -/
theorem xm_X5_prepare : xv_K yX5_prepare mX5_prepare (fun as h n Post => ∃ (dn : Int64) (wk : Int32) (dk : Int32) (r1 : Nat → Int32) (r2 : Nat → Int32) (r3 : Nat → Int32) (r4 : Nat → Int32) (e : Nat) (f : Nat → Int32) (s : Int32) (t : Int32) (m : Int32) (d : Int32), as = [.ref 17, .ref e, .int m, .int d] ∧ (e + 1 < n) ∧ (h e = .inr (0, [.ref (e + 1), .int s, .int t])) ∧ (h (e + 1) = .inl (.int, 11, .inl f)) ∧ (xs_PC h dn wk dk r1 r2 r3 r4) ∧ (21 < n) ∧ (e + 1 < 17 ∨ 21 < e) ∧ (xs_ok f) ∧ (d = 0 ∨ d = 1) ∧ (∀ h' : xv_H, xs_PC h' dn wk dk (fun k => xs_rom f d (nI k)) (fun k => xs_opn f s m d (nI k) 0) (fun k => xs_opn f s m d (nI k) 1) r4 → (∀ i, i < 17 ∨ 21 < i → h' i = h i) → Post none h' n)) := by
  refine xv_entry (by decide +kernel) rfl (fun h => absurd h (by decide)) ?_
  rintro X _ h n Post ⟨dn, wk, dk, r1, r2, r3, r4, e, f, s, t, m, d, rfl, hn, hE, hN, hP, h21, he, hok, hd, hp⟩
  refine ⟨Nat.le_of_ble_eq_true rfl, ?_⟩
  show xv_V X mX5_prepare Post 0 0 0 [(0, .ref 17), (1, .ref e), (2, .int m), (3, .int d)] [] h n
  have h00 : 0 ≤ f 0 := by rw [xn_le, show (0 : Int32).toInt = 0 from rfl]; have := hok.1; omega
  have h01 : f 0 ≤ 20 := by rw [xn_le, show (20 : Int32).toInt = 20 from rfl]; have := hok.1; omega
  have L10 : ∀ (dd k : Nat) (hh : xv_H) (g1 g2 g3 : Nat → Int32), k + dd = 48 → xs_PC hh dn wk dk g1 g2 g3 r4 → (∀ j, j < k → g1 j = xs_rom f d (nI j) ∧ g2 j = xs_opn f s m d (nI j) 0 ∧ g3 j = xs_opn f s m d (nI j) 1) → (∀ i, i < 17 ∨ 21 < i → hh i = h i) → xv_V X mX5_prepare Post 0 0 10 [(0, .ref 17), (1, .ref e), (2, .int m), (3, .int d), (4, .int (xs_hng f m)), (5, .int (nI k))] [] hh n := by
    intro dd
    induction dd using Nat.strongRecOn with
    | _ dd ih =>
      intro k hh g1 g2 g3 hk hQ hg hf0
      refine xi_iload (q := 12) dX5_prepare_10 rfl rfl ?_
      refine xi_bipush (x := 48) (q := 14) dX5_prepare_12 (by decide) rfl ?_
      refine xi_icmp_ge (q := 17) (q2 := 103) dX5_prepare_14 (by decide) rfl (fun c_14 => ?_) (fun c_14 => ?_)
      · have hk2 : k = 48 := by have z : 48 ≤ k := xn_leN c_14 (by omega) (by omega); omega
        subst hk2
        refine xv_norm (h' := va_up hh 18 (.inl (.int, 48, .inl fun k => xs_rom f d (nI k)))) (xv_nr hQ.2.1 rfl (fun j hj => (hg j hj).1)) ?_
        refine xv_norm (h' := va_up (va_up hh 18 (.inl (.int, 48, .inl fun k => xs_rom f d (nI k)))) 19 (.inl (.int, 48, .inl fun k => xs_opn f s m d (nI k) 0))) (xv_nr ((va_up_ne _ _ (by omega)).trans hQ.2.2.1) rfl (fun j hj => (hg j hj).2.1)) ?_
        refine xv_norm (h' := va_up (va_up (va_up hh 18 (.inl (.int, 48, .inl fun k => xs_rom f d (nI k)))) 19 (.inl (.int, 48, .inl fun k => xs_opn f s m d (nI k) 0))) 20 (.inl (.int, 48, .inl fun k => xs_opn f s m d (nI k) 1))) (xv_nr ((va_up_ne _ _ (by omega)).trans ((va_up_ne _ _ (by omega)).trans hQ.2.2.2.1)) rfl (fun j hj => (hg j hj).2.2)) ?_
        refine xi_vret ⟨rfl, dX5_prepare_103⟩ (Nat.zero_le _) (Nat.zero_le _) ?_
        exact hp _ (xs_PC3 (xs_PC2 (xs_PC1 hQ _) _) _) (fun i hi => by rw [va_up_ne _ _ (by omega), va_up_ne _ _ (by omega), va_up_ne _ _ (by omega)]; exact hf0 i hi)
      · have hk2 : k < 48 := xn_nleN c_14 (by omega) (by omega)
        refine xi_aload_n (q := 18) dX5_prepare_17 rfl rfl ?_
        refine xi_iload (q := 20) dX5_prepare_18 rfl rfl ?_
        refine xv_cV1 (q := 23) xm_X0_stroke ln_X5_77 dX5_prepare_20 ⟨by omega, (hf0 e (by omega)).trans hE⟩ rfl ⟨(Nat.le_of_ble_eq_true rfl), (Nat.le_of_ble_eq_true rfl)⟩ (Nat.le_of_ble_eq_true rfl) ⟨rfl, rfl⟩ rfl (Nat.zero_le _) (Nat.zero_le _) ?_
        refine ⟨e, f, s, t, _, rfl, hn, (hf0 e (by omega)).trans hE, (hf0 (e + 1) (by omega)).trans hN, h00, h01, ?_⟩
        refine xi_istore (q := 25) dX5_prepare_23 (Nat.le_of_ble_eq_true rfl) rfl ?_
        refine xi_aload_n (q := 26) dX5_prepare_25 rfl rfl ?_
        refine xi_getf (q := 29) dX5_prepare_26 fl_X5_9 ⟨by omega, hQ.1⟩ rfl rfl ?_
        refine xi_iload (q := 31) dX5_prepare_29 rfl rfl ?_
        refine xi_aload_n (q := 32) dX5_prepare_31 rfl rfl ?_
        refine xi_getf (q := 35) dX5_prepare_32 fl_X5_28 ⟨by omega, (hf0 e (by omega)).trans hE⟩ rfl rfl ?_
        refine xi_bipush (x := 7) (q := 37) dX5_prepare_35 (by decide) rfl ?_
        refine xi_iald (q := 38) dX5_prepare_37 ⟨hn, (hf0 (e + 1) (by omega)).trans hN⟩ ⟨xv_ink (by decide), (by decide : (7 : Int32).toNatClampNeg = 7)⟩ rfl ?_
        refine xi_iload_n (q := 39) dX5_prepare_38 rfl rfl ?_
        refine xi_if_ne (q := 42) (q2 := 47) dX5_prepare_39 (by decide) rfl (fun c_39 => ?_) (fun c_39 => ?_)
        · refine xi_sipush (x := 1000) (q := 50) dX5_prepare_47 (by decide) rfl ?_
          refine xi_iload (q := 52) dX5_prepare_50 rfl rfl ?_
          refine xi_isub (q := 53) dX5_prepare_52 rfl ?_
          refine xi_iadd (q := 54) dX5_prepare_53 rfl ?_
          refine xi_iast (q := 55) dX5_prepare_54 ⟨by omega, hQ.2.1⟩ (xv_ixN hk2 (by omega)) rfl ?_
          refine xi_aload_n (q := 56) dX5_prepare_55 rfl rfl ?_
          refine xi_iload_n (q := 57) dX5_prepare_56 rfl rfl ?_
          refine xi_iload (q := 59) dX5_prepare_57 rfl rfl ?_
          refine xv_cV2 (q := 62) xm_X0_swing ln_X5_80 dX5_prepare_59 (xv_keep (by omega) ⟨by omega, (hf0 e (by omega)).trans hE⟩) rfl ⟨(Nat.le_of_ble_eq_true rfl), (Nat.le_of_ble_eq_true rfl)⟩ (Nat.le_of_ble_eq_true rfl) ⟨rfl, rfl⟩ rfl (Nat.zero_le _) (Nat.zero_le _) ?_
          refine ⟨e, f, s, t, _, _, rfl, hn, (va_up_ne _ _ (by omega)).trans ((hf0 e (by omega)).trans hE), (va_up_ne _ _ (by omega)).trans ((hf0 (e + 1) (by omega)).trans hN), ?_⟩
          refine xi_iload (q := 64) dX5_prepare_62 rfl rfl ?_
          refine xi_iadd (q := 65) dX5_prepare_64 rfl ?_
          refine xi_istore (q := 67) dX5_prepare_65 (Nat.le_of_ble_eq_true rfl) rfl ?_
          refine xi_aload_n (q := 68) dX5_prepare_67 rfl rfl ?_
          refine xi_getf (q := 71) dX5_prepare_68 fl_X5_15 (xv_keep (by omega) ⟨by omega, hQ.1⟩) rfl rfl ?_
          refine xi_iload (q := 73) dX5_prepare_71 rfl rfl ?_
          refine xi_aload_n (q := 74) dX5_prepare_73 rfl rfl ?_
          refine xi_iload (q := 76) dX5_prepare_74 rfl rfl ?_
          refine xi_iload_n (q := 77) dX5_prepare_76 rfl rfl ?_
          refine xi_iconst (x := 0) (q := 78) dX5_prepare_77 (by decide) rfl ?_
          refine xv_cV3 (q := 81) xm_X0_opening ln_X5_83 dX5_prepare_78 (xv_keep (by omega) ⟨by omega, (hf0 e (by omega)).trans hE⟩) rfl ⟨(Nat.le_of_ble_eq_true rfl), (Nat.le_of_ble_eq_true rfl)⟩ (Nat.le_of_ble_eq_true rfl) ⟨rfl, rfl⟩ rfl (Nat.zero_le _) (Nat.zero_le _) ?_
          refine ⟨e, f, s, t, _, _, _, rfl, hn, (va_up_ne _ _ (by omega)).trans ((hf0 e (by omega)).trans hE), (va_up_ne _ _ (by omega)).trans ((hf0 (e + 1) (by omega)).trans hN), hd, Or.inl rfl, ?_⟩
          refine xi_iast (q := 82) dX5_prepare_81 (xv_keep (by omega) ⟨by omega, hQ.2.2.1⟩) (xv_ixN hk2 (by omega)) rfl ?_
          refine xi_aload_n (q := 83) dX5_prepare_82 rfl rfl ?_
          refine xi_getf (q := 86) dX5_prepare_83 fl_X5_18 (xv_keep (by omega) (xv_keep (by omega) ⟨by omega, hQ.1⟩)) rfl rfl ?_
          refine xi_iload (q := 88) dX5_prepare_86 rfl rfl ?_
          refine xi_aload_n (q := 89) dX5_prepare_88 rfl rfl ?_
          refine xi_iload (q := 91) dX5_prepare_89 rfl rfl ?_
          refine xi_iload_n (q := 92) dX5_prepare_91 rfl rfl ?_
          refine xi_iconst (x := 1) (q := 93) dX5_prepare_92 (by decide) rfl ?_
          refine xv_cV3 (q := 96) xm_X0_opening ln_X5_83 dX5_prepare_93 (xv_keep (by omega) (xv_keep (by omega) ⟨by omega, (hf0 e (by omega)).trans hE⟩)) rfl ⟨(Nat.le_of_ble_eq_true rfl), (Nat.le_of_ble_eq_true rfl)⟩ (Nat.le_of_ble_eq_true rfl) ⟨rfl, rfl⟩ rfl (Nat.zero_le _) (Nat.zero_le _) ?_
          refine ⟨e, f, s, t, _, _, _, rfl, hn, (va_up_ne _ _ (by omega)).trans ((va_up_ne _ _ (by omega)).trans ((hf0 e (by omega)).trans hE)), (va_up_ne _ _ (by omega)).trans ((va_up_ne _ _ (by omega)).trans ((hf0 (e + 1) (by omega)).trans hN)), hd, Or.inr rfl, ?_⟩
          refine xi_iast (q := 97) dX5_prepare_96 (xv_keep (by omega) (xv_keep (by omega) ⟨by omega, hQ.2.2.2.1⟩)) (xv_ixN hk2 (by omega)) rfl ?_
          refine xi_iinc (y := nI (k + 1)) (q := 100) dX5_prepare_97 rfl (xn_inc k) (Nat.le_of_ble_eq_true rfl) rfl ?_
          refine xi_goto (q := 10) dX5_prepare_100 (by decide) ?_
          refine xv_weakS (lv' := [(0, .ref 17), (1, .ref e), (2, .int m), (3, .int d), (4, .int (xs_hng f m)), (5, .int (nI (k + 1)))]) ⟨rfl, rfl, rfl, rfl, rfl, rfl, trivial⟩ ?_
          exact ih (dd - 1) (by omega) (k + 1) _ _ _ _ (by omega) (xs_PC3 (xs_PC2 (xs_PC1 hQ _) _) _) (fun j hj => by
            by_cases e : j = k
            · rw [e, pk_us, pk_us, pk_us]; exact ⟨by unfold xs_rom; rw [if_neg c_39], rfl, rfl⟩
            · rw [pk_un e, pk_un e, pk_un e]; exact hg j (by omega)) (fun i hi => by rw [va_up_ne _ _ (by omega), va_up_ne _ _ (by omega), va_up_ne _ _ (by omega)]; exact hf0 i hi)
        · refine xi_iload (q := 44) dX5_prepare_42 rfl rfl ?_
          refine xi_goto (q := 53) dX5_prepare_44 (by decide) ?_
          refine xi_iadd (q := 54) dX5_prepare_53 rfl ?_
          refine xi_iast (q := 55) dX5_prepare_54 ⟨by omega, hQ.2.1⟩ (xv_ixN hk2 (by omega)) rfl ?_
          refine xi_aload_n (q := 56) dX5_prepare_55 rfl rfl ?_
          refine xi_iload_n (q := 57) dX5_prepare_56 rfl rfl ?_
          refine xi_iload (q := 59) dX5_prepare_57 rfl rfl ?_
          refine xv_cV2 (q := 62) xm_X0_swing ln_X5_80 dX5_prepare_59 (xv_keep (by omega) ⟨by omega, (hf0 e (by omega)).trans hE⟩) rfl ⟨(Nat.le_of_ble_eq_true rfl), (Nat.le_of_ble_eq_true rfl)⟩ (Nat.le_of_ble_eq_true rfl) ⟨rfl, rfl⟩ rfl (Nat.zero_le _) (Nat.zero_le _) ?_
          refine ⟨e, f, s, t, _, _, rfl, hn, (va_up_ne _ _ (by omega)).trans ((hf0 e (by omega)).trans hE), (va_up_ne _ _ (by omega)).trans ((hf0 (e + 1) (by omega)).trans hN), ?_⟩
          refine xi_iload (q := 64) dX5_prepare_62 rfl rfl ?_
          refine xi_iadd (q := 65) dX5_prepare_64 rfl ?_
          refine xi_istore (q := 67) dX5_prepare_65 (Nat.le_of_ble_eq_true rfl) rfl ?_
          refine xi_aload_n (q := 68) dX5_prepare_67 rfl rfl ?_
          refine xi_getf (q := 71) dX5_prepare_68 fl_X5_15 (xv_keep (by omega) ⟨by omega, hQ.1⟩) rfl rfl ?_
          refine xi_iload (q := 73) dX5_prepare_71 rfl rfl ?_
          refine xi_aload_n (q := 74) dX5_prepare_73 rfl rfl ?_
          refine xi_iload (q := 76) dX5_prepare_74 rfl rfl ?_
          refine xi_iload_n (q := 77) dX5_prepare_76 rfl rfl ?_
          refine xi_iconst (x := 0) (q := 78) dX5_prepare_77 (by decide) rfl ?_
          refine xv_cV3 (q := 81) xm_X0_opening ln_X5_83 dX5_prepare_78 (xv_keep (by omega) ⟨by omega, (hf0 e (by omega)).trans hE⟩) rfl ⟨(Nat.le_of_ble_eq_true rfl), (Nat.le_of_ble_eq_true rfl)⟩ (Nat.le_of_ble_eq_true rfl) ⟨rfl, rfl⟩ rfl (Nat.zero_le _) (Nat.zero_le _) ?_
          refine ⟨e, f, s, t, _, _, _, rfl, hn, (va_up_ne _ _ (by omega)).trans ((hf0 e (by omega)).trans hE), (va_up_ne _ _ (by omega)).trans ((hf0 (e + 1) (by omega)).trans hN), hd, Or.inl rfl, ?_⟩
          refine xi_iast (q := 82) dX5_prepare_81 (xv_keep (by omega) ⟨by omega, hQ.2.2.1⟩) (xv_ixN hk2 (by omega)) rfl ?_
          refine xi_aload_n (q := 83) dX5_prepare_82 rfl rfl ?_
          refine xi_getf (q := 86) dX5_prepare_83 fl_X5_18 (xv_keep (by omega) (xv_keep (by omega) ⟨by omega, hQ.1⟩)) rfl rfl ?_
          refine xi_iload (q := 88) dX5_prepare_86 rfl rfl ?_
          refine xi_aload_n (q := 89) dX5_prepare_88 rfl rfl ?_
          refine xi_iload (q := 91) dX5_prepare_89 rfl rfl ?_
          refine xi_iload_n (q := 92) dX5_prepare_91 rfl rfl ?_
          refine xi_iconst (x := 1) (q := 93) dX5_prepare_92 (by decide) rfl ?_
          refine xv_cV3 (q := 96) xm_X0_opening ln_X5_83 dX5_prepare_93 (xv_keep (by omega) (xv_keep (by omega) ⟨by omega, (hf0 e (by omega)).trans hE⟩)) rfl ⟨(Nat.le_of_ble_eq_true rfl), (Nat.le_of_ble_eq_true rfl)⟩ (Nat.le_of_ble_eq_true rfl) ⟨rfl, rfl⟩ rfl (Nat.zero_le _) (Nat.zero_le _) ?_
          refine ⟨e, f, s, t, _, _, _, rfl, hn, (va_up_ne _ _ (by omega)).trans ((va_up_ne _ _ (by omega)).trans ((hf0 e (by omega)).trans hE)), (va_up_ne _ _ (by omega)).trans ((va_up_ne _ _ (by omega)).trans ((hf0 (e + 1) (by omega)).trans hN)), hd, Or.inr rfl, ?_⟩
          refine xi_iast (q := 97) dX5_prepare_96 (xv_keep (by omega) (xv_keep (by omega) ⟨by omega, hQ.2.2.2.1⟩)) (xv_ixN hk2 (by omega)) rfl ?_
          refine xi_iinc (y := nI (k + 1)) (q := 100) dX5_prepare_97 rfl (xn_inc k) (Nat.le_of_ble_eq_true rfl) rfl ?_
          refine xi_goto (q := 10) dX5_prepare_100 (by decide) ?_
          refine xv_weakS (lv' := [(0, .ref 17), (1, .ref e), (2, .int m), (3, .int d), (4, .int (xs_hng f m)), (5, .int (nI (k + 1)))]) ⟨rfl, rfl, rfl, rfl, rfl, rfl, trivial⟩ ?_
          exact ih (dd - 1) (by omega) (k + 1) _ _ _ _ (by omega) (xs_PC3 (xs_PC2 (xs_PC1 hQ _) _) _) (fun j hj => by
            by_cases e : j = k
            · rw [e, pk_us, pk_us, pk_us]; exact ⟨by unfold xs_rom; rw [if_pos (by first | exact c_39 | exact Decidable.of_not_not c_39)], rfl, rfl⟩
            · rw [pk_un e, pk_un e, pk_un e]; exact hg j (by omega)) (fun i hi => by rw [va_up_ne _ _ (by omega), va_up_ne _ _ (by omega), va_up_ne _ _ (by omega)]; exact hf0 i hi)
  refine xi_aload_n (q := 1) dX5_prepare_0 rfl rfl ?_
  refine xi_iload_n (q := 2) dX5_prepare_1 rfl rfl ?_
  refine xv_cV1 (q := 5) xm_X0_hanging ln_X5_73 dX5_prepare_2 ⟨by omega, hE⟩ rfl ⟨(Nat.le_of_ble_eq_true rfl), (Nat.le_of_ble_eq_true rfl)⟩ (Nat.le_of_ble_eq_true rfl) ⟨rfl, rfl⟩ rfl (Nat.zero_le _) (Nat.zero_le _) ?_
  refine ⟨e, f, s, t, _, rfl, hn, hE, hN, ?_⟩
  refine xi_istore (q := 7) dX5_prepare_5 (Nat.le_of_ble_eq_true rfl) rfl ?_
  refine xi_iconst (x := 0) (q := 8) dX5_prepare_7 (by decide) rfl ?_
  refine xi_istore (q := 10) dX5_prepare_8 (Nat.le_of_ble_eq_true rfl) rfl ?_
  refine xv_weakS (lv' := [(0, .ref 17), (1, .ref e), (2, .int m), (3, .int d), (4, .int (xs_hng f m)), (5, .int (nI 0))]) ⟨rfl, rfl, rfl, rfl, rfl, rfl, trivial⟩ ?_
  exact L10 48 0 h r1 r2 r3 (by omega) hP (fun j hj => absurd hj (Nat.not_lt_zero j)) (fun _ _ => rfl)
