def xs_lv (σ : xs_Sg) (m : Nat) (b : Int32) : xs_Sg := xs_tn (xs_tr σ (upd (σ 15 0) m b)) (nI (m + 1))
def xs_lvL (σ : xs_Sg) (m : Nat) : List Int32 → xs_Sg
  | [] => σ
  | b :: bs => xs_lvL (xs_lv σ m b) (m + 1) bs
def xs_awv (f : Nat → Int32) (s t : Int32) : Int32 := if t = 1 then f 1 + xs_led f s else if t = 2 then f 1 + xs_led f s + (f 4 + 100) else if t = 3 then f 1 - s else 2 * (f 1 - s)
def xs_awl (t : Int32) : List Int32 := if t = 1 then [11, 10] else if t = 2 then [12, 11, 10, 21, 20] else if t = 3 then [13, 10] else [14, 13, 10]
def xs_amv (f : Nat → Int32) (s t : Int32) : Int32 := if t = 1 then f 4 else if t = 2 then f 4 + 100 else if t = 3 then f 4 + (f 1 - s) else f 4 + 2 * (f 1 - s) - 1000
def xs_aml (t : Int32) : List Int32 := if t = 1 then [20] else if t = 2 then [21, 20] else if t = 3 then [22, 20, 13, 10] else [23, 22, 20, 14, 13, 10]
set_option maxRecDepth 20000 in
set_option maxHeartbeats 2000000 in
/-- leave -/
theorem xm_X8_leave : xv_K yX8_leave mX8_leave (fun as h n Post => ∃ (σ : xs_Sg) (m : Nat) (b : Int32), as = [.ref 0, .int b] ∧ (xs_S h σ) ∧ (83 ≤ n) ∧ (σ 14 0 0 = nI m) ∧ (m < 16) ∧ (∀ h' : xv_H, xs_S h' (xs_lv σ m b) → (∀ i, i ≠ 0 → i ≠ 42 → h' i = h i) → Post none h' n)) := by
  refine xv_entry (by decide +kernel) rfl (fun h => absurd h (by decide)) ?_
  rintro X _ h n Post ⟨σ, m, b, rfl, hS, h83, hm0, hm1, hp⟩
  refine ⟨Nat.le_of_ble_eq_true rfl, ?_⟩
  show xv_V X mX8_leave Post 0 0 0 [(0, .ref 0), (1, .int b)] [] h n
  have hm : σ 14 0 0 = nI m := hm0
  refine xi_aload_n (q := 1) dX8_leave_0 rfl rfl ?_
  refine xi_getf (q := 4) dX8_leave_1 fl_X8_325 ⟨by omega, hS.1.1⟩ rfl rfl ?_
  refine xi_iconst (x := 0) (q := 5) dX8_leave_4 (by decide) rfl ?_
  refine xi_bipush (x := 15) (q := 7) dX8_leave_5 (by decide) rfl ?_
  refine xv_cS3 (q := 10) xm_X8_within ln_X8_77 dX8_leave_7 ⟨(Nat.le_of_ble_eq_true rfl), (Nat.le_of_ble_eq_true rfl)⟩ (Nat.le_of_ble_eq_true rfl) ⟨rfl, rfl⟩ rfl (Nat.zero_le _) (Nat.zero_le _) ?_
  refine ⟨_, _, _, rfl, ?_⟩
  refine xi_if_eq (q := 13) (q2 := 33) dX8_leave_10 (by decide) rfl (fun c_10 => ?_) (fun c_10 => ?_)
  · exact absurd (by rw [hm]; exact ⟨by rw [xn_le, xn_NI (by omega), show (0 : Int32).toInt = 0 from rfl]; omega, by rw [xn_le, xn_NI (by omega), show (15 : Int32).toInt = 15 from rfl]; omega⟩ : 0 ≤ σ 14 0 0 ∧ σ 14 0 0 ≤ 15) (xn_b0 c_10)
  · refine xi_aload_n (q := 14) dX8_leave_13 rfl rfl ?_
    refine xi_getf (q := 17) dX8_leave_14 fl_X8_72 ⟨by omega, hS.1.1⟩ rfl rfl ?_
    refine xi_aload_n (q := 18) dX8_leave_17 rfl rfl ?_
    refine xi_getf (q := 21) dX8_leave_18 fl_X8_325 ⟨by omega, hS.1.1⟩ rfl rfl ?_
    refine xi_iload_n (q := 22) dX8_leave_21 rfl rfl ?_
    refine xi_iast (q := 23) dX8_leave_22 ⟨by omega, hS.2.2.2.2.1.2⟩ (by rw [hm]; exact xv_ixN (k := m) (by omega) (by omega)) rfl ?_
    refine xi_aload_n (q := 24) dX8_leave_23 rfl rfl ?_
    refine xi_dup (q := 25) dX8_leave_24 rfl rfl ?_
    refine xi_getf (q := 28) dX8_leave_25 fl_X8_325 (xv_keep (by omega) ⟨by omega, hS.1.1⟩) rfl rfl ?_
    refine xi_iconst (x := 1) (q := 29) dX8_leave_28 (by decide) rfl ?_
    refine xi_iadd (q := 30) dX8_leave_29 rfl ?_
    refine xi_putf (q := 33) dX8_leave_30 fl_X8_325 (xv_keep (by omega) ⟨by omega, hS.1.1⟩) (Or.inl rfl) (fun _ => rfl) (fun _ => rfl) (Nat.le_of_ble_eq_true rfl) rfl ?_
    refine xi_vret ⟨rfl, dX8_leave_33⟩ (Nat.zero_le _) (Nat.zero_le _) ?_
    refine hp _ (xs_Stn (xs_Str (g := upd (σ 15 0) m b) (h' := va_up h 42 (xs_ia 16 (upd (σ 15 0) m b))) hS (va_up_self _ _ _) (fun i hi => va_up_ne _ _ hi)) ?_ (fun i hi => va_up_ne _ _ hi)) (fun i i1 i2 => (va_up_ne _ _ i1).trans (va_up_ne _ _ i2))
    rw [va_up_self]
    show xs_rt (σ 14 0 0 + 1) (σ 16 0 0) = xs_rt (nI (m + 1)) (σ 16 0 0)
    rw [hm, nI_1]

set_option maxRecDepth 20000 in
set_option maxHeartbeats 2000000 in
/-- worthOfAny -/
theorem xm_X8_worthOfAny : xv_K yX8_worthOfAny mX8_worthOfAny (fun as h n Post => ∃ (σ : xs_Sg) (k : Nat) (m : Nat), as = [.ref 0, .ref (59 + 2 * k)] ∧ (xs_S h σ) ∧ (83 ≤ n) ∧ (k < 6) ∧ (σ 14 0 0 = nI m) ∧ (m + 1 ≤ 16) ∧ (∀ h' : xv_H, xs_S h' (xs_lvL σ m [10]) → (∀ i, 83 ≤ i → h' i = h i) → Post (some (.int (σ 4 k 1))) h' n)) := by
  refine xv_entry (by decide +kernel) rfl (fun h => absurd h (by decide)) ?_
  rintro X _ h n Post ⟨σ, k, m, rfl, hS, h83, hk, hm, hm1, hp⟩
  refine ⟨Nat.le_of_ble_eq_true rfl, ?_⟩
  show xv_V X mX8_worthOfAny Post 0 0 0 [(0, .ref 0), (1, .ref (59 + 2 * k))] [] h n
  refine xi_aload_n (q := 1) dX8_worthOfAny_0 rfl rfl ?_
  refine xi_bipush (x := 10) (q := 3) dX8_worthOfAny_1 (by decide) rfl ?_
  refine xv_cV1 (q := 6) xm_X8_leave ln_X8_365 dX8_worthOfAny_3 ⟨by omega, hS.1.1⟩ rfl ⟨(Nat.le_of_ble_eq_true rfl), (Nat.le_of_ble_eq_true rfl)⟩ (Nat.le_of_ble_eq_true rfl) ⟨rfl, rfl⟩ rfl (Nat.zero_le _) (Nat.zero_le _) ?_
  refine ⟨_, m, 10, rfl, hS, by omega, hm, by omega, fun H1 S1 F1 => ?_⟩
  refine xi_aload_n (q := 7) dX8_worthOfAny_6 rfl rfl ?_
  refine xi_getf (q := 10) dX8_worthOfAny_7 fl_X8_146 ⟨by omega, (S1.2.2.1 k hk).1⟩ rfl rfl ?_
  refine xi_iconst (x := 1) (q := 11) dX8_worthOfAny_10 (by decide) rfl ?_
  refine xi_iald (q := 12) dX8_worthOfAny_11 ⟨by omega, (S1.2.2.1 k hk).2⟩ ⟨xv_ink (by decide), (by decide : (1 : Int32).toNatClampNeg = 1)⟩ rfl ?_
  refine xi_ret ⟨_, rfl, rfl, dX8_worthOfAny_12⟩ (Nat.zero_le _) (Nat.zero_le _) ?_
  exact hp _ S1 (fun i hi => (F1 i (by omega) (by omega)).trans (rfl))

set_option maxRecDepth 20000 in
set_option maxHeartbeats 2000000 in
/-- worthOfSound -/
theorem xm_X8_worthOfSound : xv_K yX8_worthOfSound mX8_worthOfSound (fun as h n Post => ∃ (σ : xs_Sg) (k : Nat) (m : Nat), as = [.ref 0, .ref (59 + 2 * k)] ∧ (xs_S h σ) ∧ (83 ≤ n) ∧ (k < 6) ∧ (σ 14 0 0 = nI m) ∧ (m + 2 ≤ 16) ∧ (∀ h' : xv_H, xs_S h' (xs_lvL σ m [11, 10]) → (∀ i, 83 ≤ i → h' i = h i) → Post (some (.int (σ 4 k 1 + xs_led (σ 4 k) (σ 5 k 0)))) h' n)) := by
  refine xv_entry (by decide +kernel) rfl (fun h => absurd h (by decide)) ?_
  rintro X _ h n Post ⟨σ, k, m, rfl, hS, h83, hk, hm, hm1, hp⟩
  refine ⟨Nat.le_of_ble_eq_true rfl, ?_⟩
  show xv_V X mX8_worthOfSound Post 0 0 0 [(0, .ref 0), (1, .ref (59 + 2 * k))] [] h n
  refine xi_aload_n (q := 1) dX8_worthOfSound_0 rfl rfl ?_
  refine xi_bipush (x := 11) (q := 3) dX8_worthOfSound_1 (by decide) rfl ?_
  refine xv_cV1 (q := 6) xm_X8_leave ln_X8_365 dX8_worthOfSound_3 ⟨by omega, hS.1.1⟩ rfl ⟨(Nat.le_of_ble_eq_true rfl), (Nat.le_of_ble_eq_true rfl)⟩ (Nat.le_of_ble_eq_true rfl) ⟨rfl, rfl⟩ rfl (Nat.zero_le _) (Nat.zero_le _) ?_
  refine ⟨_, m, 11, rfl, hS, by omega, hm, by omega, fun H2 S2 F2 => ?_⟩
  refine xi_aload_n (q := 7) dX8_worthOfSound_6 rfl rfl ?_
  refine xi_aload_n (q := 8) dX8_worthOfSound_7 rfl rfl ?_
  refine xv_cV1 (q := 11) xm_X8_worthOfAny ln_X8_377 dX8_worthOfSound_8 ⟨by omega, S2.1.1⟩ rfl ⟨(Nat.le_of_ble_eq_true rfl), (Nat.le_of_ble_eq_true rfl)⟩ (Nat.le_of_ble_eq_true rfl) ⟨rfl, rfl⟩ rfl (Nat.zero_le _) (Nat.zero_le _) ?_
  refine ⟨_, k, m + 1, rfl, S2, by omega, hk, rfl, by omega, fun H3 S3 F3 => ?_⟩
  refine xi_aload_n (q := 12) dX8_worthOfSound_11 rfl rfl ?_
  refine xv_cV0 (q := 15) xm_X0_lead ln_X8_187 dX8_worthOfSound_12 ⟨by omega, (S3.2.2.1 k hk).1⟩ rfl ⟨(Nat.le_of_ble_eq_true rfl), (Nat.le_of_ble_eq_true rfl)⟩ (Nat.le_of_ble_eq_true rfl) ⟨rfl, rfl⟩ rfl (Nat.zero_le _) (Nat.zero_le _) ?_
  refine ⟨59 + 2 * k, _, _, _, rfl, by omega, (S3.2.2.1 k hk).1, (S3.2.2.1 k hk).2, ?_⟩
  refine xi_iadd (q := 16) dX8_worthOfSound_15 rfl ?_
  refine xi_ret ⟨_, rfl, rfl, dX8_worthOfSound_16⟩ (Nat.zero_le _) (Nat.zero_le _) ?_
  exact hp _ S3 (fun i hi => (F3 i hi).trans ((F2 i (by omega) (by omega)).trans (rfl)))

set_option maxRecDepth 20000 in
set_option maxHeartbeats 2000000 in
/-- worthOfSick -/
theorem xm_X8_worthOfSick : xv_K yX8_worthOfSick mX8_worthOfSick (fun as h n Post => ∃ (σ : xs_Sg) (k : Nat) (m : Nat), as = [.ref 0, .ref (59 + 2 * k)] ∧ (xs_S h σ) ∧ (83 ≤ n) ∧ (k < 6) ∧ (σ 14 0 0 = nI m) ∧ (m + 2 ≤ 16) ∧ (∀ h' : xv_H, xs_S h' (xs_lvL σ m [13, 10]) → (∀ i, 83 ≤ i → h' i = h i) → Post (some (.int (σ 4 k 1 - σ 5 k 0))) h' n)) := by
  refine xv_entry (by decide +kernel) rfl (fun h => absurd h (by decide)) ?_
  rintro X _ h n Post ⟨σ, k, m, rfl, hS, h83, hk, hm, hm1, hp⟩
  refine ⟨Nat.le_of_ble_eq_true rfl, ?_⟩
  show xv_V X mX8_worthOfSick Post 0 0 0 [(0, .ref 0), (1, .ref (59 + 2 * k))] [] h n
  refine xi_aload_n (q := 1) dX8_worthOfSick_0 rfl rfl ?_
  refine xi_bipush (x := 13) (q := 3) dX8_worthOfSick_1 (by decide) rfl ?_
  refine xv_cV1 (q := 6) xm_X8_leave ln_X8_365 dX8_worthOfSick_3 ⟨by omega, hS.1.1⟩ rfl ⟨(Nat.le_of_ble_eq_true rfl), (Nat.le_of_ble_eq_true rfl)⟩ (Nat.le_of_ble_eq_true rfl) ⟨rfl, rfl⟩ rfl (Nat.zero_le _) (Nat.zero_le _) ?_
  refine ⟨_, m, 13, rfl, hS, by omega, hm, by omega, fun H4 S4 F4 => ?_⟩
  refine xi_aload_n (q := 7) dX8_worthOfSick_6 rfl rfl ?_
  refine xi_aload_n (q := 8) dX8_worthOfSick_7 rfl rfl ?_
  refine xv_cV1 (q := 11) xm_X8_worthOfAny ln_X8_377 dX8_worthOfSick_8 ⟨by omega, S4.1.1⟩ rfl ⟨(Nat.le_of_ble_eq_true rfl), (Nat.le_of_ble_eq_true rfl)⟩ (Nat.le_of_ble_eq_true rfl) ⟨rfl, rfl⟩ rfl (Nat.zero_le _) (Nat.zero_le _) ?_
  refine ⟨_, k, m + 1, rfl, S4, by omega, hk, rfl, by omega, fun H5 S5 F5 => ?_⟩
  refine xi_aload_n (q := 12) dX8_worthOfSick_11 rfl rfl ?_
  refine xi_getf (q := 15) dX8_worthOfSick_12 fl_X8_152 ⟨by omega, (S5.2.2.1 k hk).1⟩ rfl rfl ?_
  refine xi_isub (q := 16) dX8_worthOfSick_15 rfl ?_
  refine xi_ret ⟨_, rfl, rfl, dX8_worthOfSick_16⟩ (Nat.zero_le _) (Nat.zero_le _) ?_
  exact hp _ S5 (fun i hi => (F5 i hi).trans ((F4 i (by omega) (by omega)).trans (rfl)))

set_option maxRecDepth 20000 in
set_option maxHeartbeats 2000000 in
/-- worthOfStuck -/
theorem xm_X8_worthOfStuck : xv_K yX8_worthOfStuck mX8_worthOfStuck (fun as h n Post => ∃ (σ : xs_Sg) (k : Nat) (m : Nat), as = [.ref 0, .ref (59 + 2 * k)] ∧ (xs_S h σ) ∧ (83 ≤ n) ∧ (k < 6) ∧ (σ 14 0 0 = nI m) ∧ (m + 3 ≤ 16) ∧ (∀ h' : xv_H, xs_S h' (xs_lvL σ m [14, 13, 10]) → (∀ i, 83 ≤ i → h' i = h i) → Post (some (.int (2 * (σ 4 k 1 - σ 5 k 0)))) h' n)) := by
  refine xv_entry (by decide +kernel) rfl (fun h => absurd h (by decide)) ?_
  rintro X _ h n Post ⟨σ, k, m, rfl, hS, h83, hk, hm, hm1, hp⟩
  refine ⟨Nat.le_of_ble_eq_true rfl, ?_⟩
  show xv_V X mX8_worthOfStuck Post 0 0 0 [(0, .ref 0), (1, .ref (59 + 2 * k))] [] h n
  refine xi_aload_n (q := 1) dX8_worthOfStuck_0 rfl rfl ?_
  refine xi_bipush (x := 14) (q := 3) dX8_worthOfStuck_1 (by decide) rfl ?_
  refine xv_cV1 (q := 6) xm_X8_leave ln_X8_365 dX8_worthOfStuck_3 ⟨by omega, hS.1.1⟩ rfl ⟨(Nat.le_of_ble_eq_true rfl), (Nat.le_of_ble_eq_true rfl)⟩ (Nat.le_of_ble_eq_true rfl) ⟨rfl, rfl⟩ rfl (Nat.zero_le _) (Nat.zero_le _) ?_
  refine ⟨_, m, 14, rfl, hS, by omega, hm, by omega, fun H6 S6 F6 => ?_⟩
  refine xi_iconst (x := 2) (q := 7) dX8_worthOfStuck_6 (by decide) rfl ?_
  refine xi_aload_n (q := 8) dX8_worthOfStuck_7 rfl rfl ?_
  refine xi_aload_n (q := 9) dX8_worthOfStuck_8 rfl rfl ?_
  refine xv_cV1 (q := 12) xm_X8_worthOfSick ln_X8_371 dX8_worthOfStuck_9 ⟨by omega, S6.1.1⟩ rfl ⟨(Nat.le_of_ble_eq_true rfl), (Nat.le_of_ble_eq_true rfl)⟩ (Nat.le_of_ble_eq_true rfl) ⟨rfl, rfl⟩ rfl (Nat.zero_le _) (Nat.zero_le _) ?_
  refine ⟨_, k, m + 1, rfl, S6, by omega, hk, rfl, by omega, fun H7 S7 F7 => ?_⟩
  refine xi_imul (q := 13) dX8_worthOfStuck_12 rfl ?_
  refine xi_ret ⟨_, rfl, rfl, dX8_worthOfStuck_13⟩ (Nat.zero_le _) (Nat.zero_le _) ?_
  exact hp _ S7 (fun i hi => (F7 i hi).trans ((F6 i (by omega) (by omega)).trans (rfl)))

set_option maxRecDepth 20000 in
set_option maxHeartbeats 2000000 in
/-- markOfAny -/
theorem xm_X8_markOfAny : xv_K yX8_markOfAny mX8_markOfAny (fun as h n Post => ∃ (σ : xs_Sg) (k : Nat) (m : Nat), as = [.ref 0, .ref (59 + 2 * k)] ∧ (xs_S h σ) ∧ (83 ≤ n) ∧ (k < 6) ∧ (σ 14 0 0 = nI m) ∧ (m + 1 ≤ 16) ∧ (∀ h' : xv_H, xs_S h' (xs_lvL σ m [20]) → (∀ i, 83 ≤ i → h' i = h i) → Post (some (.int (σ 4 k 4))) h' n)) := by
  refine xv_entry (by decide +kernel) rfl (fun h => absurd h (by decide)) ?_
  rintro X _ h n Post ⟨σ, k, m, rfl, hS, h83, hk, hm, hm1, hp⟩
  refine ⟨Nat.le_of_ble_eq_true rfl, ?_⟩
  show xv_V X mX8_markOfAny Post 0 0 0 [(0, .ref 0), (1, .ref (59 + 2 * k))] [] h n
  refine xi_aload_n (q := 1) dX8_markOfAny_0 rfl rfl ?_
  refine xi_bipush (x := 20) (q := 3) dX8_markOfAny_1 (by decide) rfl ?_
  refine xv_cV1 (q := 6) xm_X8_leave ln_X8_365 dX8_markOfAny_3 ⟨by omega, hS.1.1⟩ rfl ⟨(Nat.le_of_ble_eq_true rfl), (Nat.le_of_ble_eq_true rfl)⟩ (Nat.le_of_ble_eq_true rfl) ⟨rfl, rfl⟩ rfl (Nat.zero_le _) (Nat.zero_le _) ?_
  refine ⟨_, m, 20, rfl, hS, by omega, hm, by omega, fun H8 S8 F8 => ?_⟩
  refine xi_aload_n (q := 7) dX8_markOfAny_6 rfl rfl ?_
  refine xi_getf (q := 10) dX8_markOfAny_7 fl_X8_146 ⟨by omega, (S8.2.2.1 k hk).1⟩ rfl rfl ?_
  refine xi_iconst (x := 4) (q := 11) dX8_markOfAny_10 (by decide) rfl ?_
  refine xi_iald (q := 12) dX8_markOfAny_11 ⟨by omega, (S8.2.2.1 k hk).2⟩ ⟨xv_ink (by decide), (by decide : (4 : Int32).toNatClampNeg = 4)⟩ rfl ?_
  refine xi_ret ⟨_, rfl, rfl, dX8_markOfAny_12⟩ (Nat.zero_le _) (Nat.zero_le _) ?_
  exact hp _ S8 (fun i hi => (F8 i (by omega) (by omega)).trans (rfl))

set_option maxRecDepth 20000 in
set_option maxHeartbeats 2000000 in
/-- markOfEven -/
theorem xm_X8_markOfEven : xv_K yX8_markOfEven mX8_markOfEven (fun as h n Post => ∃ (σ : xs_Sg) (k : Nat) (m : Nat), as = [.ref 0, .ref (59 + 2 * k)] ∧ (xs_S h σ) ∧ (83 ≤ n) ∧ (k < 6) ∧ (σ 14 0 0 = nI m) ∧ (m + 2 ≤ 16) ∧ (∀ h' : xv_H, xs_S h' (xs_lvL σ m [21, 20]) → (∀ i, 83 ≤ i → h' i = h i) → Post (some (.int (σ 4 k 4 + 100))) h' n)) := by
  refine xv_entry (by decide +kernel) rfl (fun h => absurd h (by decide)) ?_
  rintro X _ h n Post ⟨σ, k, m, rfl, hS, h83, hk, hm, hm1, hp⟩
  refine ⟨Nat.le_of_ble_eq_true rfl, ?_⟩
  show xv_V X mX8_markOfEven Post 0 0 0 [(0, .ref 0), (1, .ref (59 + 2 * k))] [] h n
  refine xi_aload_n (q := 1) dX8_markOfEven_0 rfl rfl ?_
  refine xi_bipush (x := 21) (q := 3) dX8_markOfEven_1 (by decide) rfl ?_
  refine xv_cV1 (q := 6) xm_X8_leave ln_X8_365 dX8_markOfEven_3 ⟨by omega, hS.1.1⟩ rfl ⟨(Nat.le_of_ble_eq_true rfl), (Nat.le_of_ble_eq_true rfl)⟩ (Nat.le_of_ble_eq_true rfl) ⟨rfl, rfl⟩ rfl (Nat.zero_le _) (Nat.zero_le _) ?_
  refine ⟨_, m, 21, rfl, hS, by omega, hm, by omega, fun H9 S9 F9 => ?_⟩
  refine xi_aload_n (q := 7) dX8_markOfEven_6 rfl rfl ?_
  refine xi_aload_n (q := 8) dX8_markOfEven_7 rfl rfl ?_
  refine xv_cV1 (q := 11) xm_X8_markOfAny ln_X8_383 dX8_markOfEven_8 ⟨by omega, S9.1.1⟩ rfl ⟨(Nat.le_of_ble_eq_true rfl), (Nat.le_of_ble_eq_true rfl)⟩ (Nat.le_of_ble_eq_true rfl) ⟨rfl, rfl⟩ rfl (Nat.zero_le _) (Nat.zero_le _) ?_
  refine ⟨_, k, m + 1, rfl, S9, by omega, hk, rfl, by omega, fun H10 S10 F10 => ?_⟩
  refine xi_bipush (x := 100) (q := 13) dX8_markOfEven_11 (by decide) rfl ?_
  refine xi_iadd (q := 14) dX8_markOfEven_13 rfl ?_
  refine xi_ret ⟨_, rfl, rfl, dX8_markOfEven_14⟩ (Nat.zero_le _) (Nat.zero_le _) ?_
  exact hp _ S10 (fun i hi => (F10 i hi).trans ((F9 i (by omega) (by omega)).trans (rfl)))

set_option maxRecDepth 20000 in
set_option maxHeartbeats 2000000 in
/-- askWorth -/
theorem xm_X8_askWorth : xv_K yX8_askWorth mX8_askWorth (fun as h n Post => ∃ (σ : xs_Sg) (k : Nat) (m : Nat) (t : Int32), as = [.ref 0, .ref (59 + 2 * k), .int t] ∧ (xs_S h σ) ∧ (83 ≤ n) ∧ (k < 6) ∧ (σ 14 0 0 = nI m) ∧ (m + 5 ≤ 16) ∧ (t = 1 ∨ t = 2 ∨ t = 3 ∨ t = 4) ∧ (∀ h' : xv_H, xs_S h' (xs_lvL σ m (xs_awl t)) → (∀ i, 83 ≤ i → h' i = h i) → Post (some (.int (xs_awv (σ 4 k) (σ 5 k 0) t))) h' n)) := by
  refine xv_entry (by decide +kernel) rfl (fun h => absurd h (by decide)) ?_
  rintro X _ h n Post ⟨σ, k, m, t, rfl, hS, h83, hk, hm, hm1, ht, hp⟩
  refine ⟨Nat.le_of_ble_eq_true rfl, ?_⟩
  show xv_V X mX8_askWorth Post 0 0 0 [(0, .ref 0), (1, .ref (59 + 2 * k)), (2, .int t)] [] h n
  rcases ht with rfl | rfl | rfl | rfl
  · have eL : xs_awl 1 = [11, 10] := by decide
    have eV : xs_awv (σ 4 k) (σ 5 k 0) 1 = σ 4 k 1 + xs_led (σ 4 k) (σ 5 k 0) := rfl
    rw [eL, eV] at hp
    refine xi_iload_n (q := 1) dX8_askWorth_0 rfl rfl ?_
    refine xi_tableIn (q := 32) dX8_askWorth_1 (by decide) (by decide) rfl (by decide) ?_
    refine xi_aload_n (q := 33) dX8_askWorth_32 rfl rfl ?_
    refine xi_aload_n (q := 34) dX8_askWorth_33 rfl rfl ?_
    refine xv_cV1 (q := 37) xm_X8_worthOfSound ln_X8_362 dX8_askWorth_34 ⟨by omega, hS.1.1⟩ rfl ⟨(Nat.le_of_ble_eq_true rfl), (Nat.le_of_ble_eq_true rfl)⟩ (Nat.le_of_ble_eq_true rfl) ⟨rfl, rfl⟩ rfl (Nat.zero_le _) (Nat.zero_le _) ?_
    refine ⟨_, k, m, rfl, hS, by omega, hk, hm, by omega, fun H11 S11 F11 => ?_⟩
    refine xi_ret ⟨_, rfl, rfl, dX8_askWorth_37⟩ (Nat.zero_le _) (Nat.zero_le _) ?_
    exact hp _ S11 (fun i hi => (F11 i hi).trans (rfl))
  · have eL : xs_awl 2 = [12, 11, 10, 21, 20] := by decide
    have eV : xs_awv (σ 4 k) (σ 5 k 0) 2 = σ 4 k 1 + xs_led (σ 4 k) (σ 5 k 0) + (σ 4 k 4 + 100) := rfl
    rw [eL, eV] at hp
    refine xi_iload_n (q := 1) dX8_askWorth_0 rfl rfl ?_
    refine xi_tableIn (q := 38) dX8_askWorth_1 (by decide) (by decide) rfl (by decide) ?_
    refine xi_aload_n (q := 39) dX8_askWorth_38 rfl rfl ?_
    refine xi_bipush (x := 12) (q := 41) dX8_askWorth_39 (by decide) rfl ?_
    refine xv_cV1 (q := 44) xm_X8_leave ln_X8_365 dX8_askWorth_41 ⟨by omega, hS.1.1⟩ rfl ⟨(Nat.le_of_ble_eq_true rfl), (Nat.le_of_ble_eq_true rfl)⟩ (Nat.le_of_ble_eq_true rfl) ⟨rfl, rfl⟩ rfl (Nat.zero_le _) (Nat.zero_le _) ?_
    refine ⟨_, m, 12, rfl, hS, by omega, hm, by omega, fun H12 S12 F12 => ?_⟩
    refine xi_aload_n (q := 45) dX8_askWorth_44 rfl rfl ?_
    refine xi_aload_n (q := 46) dX8_askWorth_45 rfl rfl ?_
    refine xv_cV1 (q := 49) xm_X8_worthOfSound ln_X8_362 dX8_askWorth_46 ⟨by omega, S12.1.1⟩ rfl ⟨(Nat.le_of_ble_eq_true rfl), (Nat.le_of_ble_eq_true rfl)⟩ (Nat.le_of_ble_eq_true rfl) ⟨rfl, rfl⟩ rfl (Nat.zero_le _) (Nat.zero_le _) ?_
    refine ⟨_, k, m + 1, rfl, S12, by omega, hk, rfl, by omega, fun H13 S13 F13 => ?_⟩
    refine xi_aload_n (q := 50) dX8_askWorth_49 rfl rfl ?_
    refine xi_aload_n (q := 51) dX8_askWorth_50 rfl rfl ?_
    refine xv_cV1 (q := 54) xm_X8_markOfEven ln_X8_368 dX8_askWorth_51 ⟨by omega, S13.1.1⟩ rfl ⟨(Nat.le_of_ble_eq_true rfl), (Nat.le_of_ble_eq_true rfl)⟩ (Nat.le_of_ble_eq_true rfl) ⟨rfl, rfl⟩ rfl (Nat.zero_le _) (Nat.zero_le _) ?_
    refine ⟨_, k, m + 3, rfl, S13, by omega, hk, rfl, by omega, fun H14 S14 F14 => ?_⟩
    refine xi_iadd (q := 55) dX8_askWorth_54 rfl ?_
    refine xi_ret ⟨_, rfl, rfl, dX8_askWorth_55⟩ (Nat.zero_le _) (Nat.zero_le _) ?_
    exact hp _ S14 (fun i hi => (F14 i hi).trans ((F13 i hi).trans ((F12 i (by omega) (by omega)).trans (rfl))))
  · have eL : xs_awl 3 = [13, 10] := by decide
    have eV : xs_awv (σ 4 k) (σ 5 k 0) 3 = σ 4 k 1 - σ 5 k 0 := rfl
    rw [eL, eV] at hp
    refine xi_iload_n (q := 1) dX8_askWorth_0 rfl rfl ?_
    refine xi_tableIn (q := 56) dX8_askWorth_1 (by decide) (by decide) rfl (by decide) ?_
    refine xi_aload_n (q := 57) dX8_askWorth_56 rfl rfl ?_
    refine xi_aload_n (q := 58) dX8_askWorth_57 rfl rfl ?_
    refine xv_cV1 (q := 61) xm_X8_worthOfSick ln_X8_371 dX8_askWorth_58 ⟨by omega, hS.1.1⟩ rfl ⟨(Nat.le_of_ble_eq_true rfl), (Nat.le_of_ble_eq_true rfl)⟩ (Nat.le_of_ble_eq_true rfl) ⟨rfl, rfl⟩ rfl (Nat.zero_le _) (Nat.zero_le _) ?_
    refine ⟨_, k, m, rfl, hS, by omega, hk, hm, by omega, fun H15 S15 F15 => ?_⟩
    refine xi_ret ⟨_, rfl, rfl, dX8_askWorth_61⟩ (Nat.zero_le _) (Nat.zero_le _) ?_
    exact hp _ S15 (fun i hi => (F15 i hi).trans (rfl))
  · have eL : xs_awl 4 = [14, 13, 10] := by decide
    have eV : xs_awv (σ 4 k) (σ 5 k 0) 4 = 2 * (σ 4 k 1 - σ 5 k 0) := rfl
    rw [eL, eV] at hp
    refine xi_iload_n (q := 1) dX8_askWorth_0 rfl rfl ?_
    refine xi_tableIn (q := 62) dX8_askWorth_1 (by decide) (by decide) rfl (by decide) ?_
    refine xi_aload_n (q := 63) dX8_askWorth_62 rfl rfl ?_
    refine xi_aload_n (q := 64) dX8_askWorth_63 rfl rfl ?_
    refine xv_cV1 (q := 67) xm_X8_worthOfStuck ln_X8_374 dX8_askWorth_64 ⟨by omega, hS.1.1⟩ rfl ⟨(Nat.le_of_ble_eq_true rfl), (Nat.le_of_ble_eq_true rfl)⟩ (Nat.le_of_ble_eq_true rfl) ⟨rfl, rfl⟩ rfl (Nat.zero_le _) (Nat.zero_le _) ?_
    refine ⟨_, k, m, rfl, hS, by omega, hk, hm, by omega, fun H16 S16 F16 => ?_⟩
    refine xi_ret ⟨_, rfl, rfl, dX8_askWorth_67⟩ (Nat.zero_le _) (Nat.zero_le _) ?_
    exact hp _ S16 (fun i hi => (F16 i hi).trans (rfl))

set_option maxRecDepth 20000 in
set_option maxHeartbeats 2000000 in
/-- markOfSick -/
theorem xm_X8_markOfSick : xv_K yX8_markOfSick mX8_markOfSick (fun as h n Post => ∃ (σ : xs_Sg) (k : Nat) (m : Nat) (t : Int32), as = [.ref 0, .ref (59 + 2 * k), .int t] ∧ (xs_S h σ) ∧ (83 ≤ n) ∧ (k < 6) ∧ (σ 14 0 0 = nI m) ∧ (m + 7 ≤ 16) ∧ (t = 3 ∨ t = 4) ∧ (∀ h' : xv_H, xs_S h' (xs_lvL σ m (22 :: 20 :: xs_awl t)) → (∀ i, 83 ≤ i → h' i = h i) → Post (some (.int (σ 4 k 4 + xs_awv (σ 4 k) (σ 5 k 0) t))) h' n)) := by
  refine xv_entry (by decide +kernel) rfl (fun h => absurd h (by decide)) ?_
  rintro X _ h n Post ⟨σ, k, m, t, rfl, hS, h83, hk, hm, hm1, ht, hp⟩
  refine ⟨Nat.le_of_ble_eq_true rfl, ?_⟩
  show xv_V X mX8_markOfSick Post 0 0 0 [(0, .ref 0), (1, .ref (59 + 2 * k)), (2, .int t)] [] h n
  rcases ht with rfl | rfl
  · have eL : xs_awl 3 = [13, 10] := by decide
    have eV : xs_awv (σ 4 k) (σ 5 k 0) 3 = σ 4 k 1 - σ 5 k 0 := rfl
    rw [eL, eV] at hp
    refine xi_aload_n (q := 1) dX8_markOfSick_0 rfl rfl ?_
    refine xi_bipush (x := 22) (q := 3) dX8_markOfSick_1 (by decide) rfl ?_
    refine xv_cV1 (q := 6) xm_X8_leave ln_X8_365 dX8_markOfSick_3 ⟨by omega, hS.1.1⟩ rfl ⟨(Nat.le_of_ble_eq_true rfl), (Nat.le_of_ble_eq_true rfl)⟩ (Nat.le_of_ble_eq_true rfl) ⟨rfl, rfl⟩ rfl (Nat.zero_le _) (Nat.zero_le _) ?_
    refine ⟨_, m, 22, rfl, hS, by omega, hm, by omega, fun H17 S17 F17 => ?_⟩
    refine xi_aload_n (q := 7) dX8_markOfSick_6 rfl rfl ?_
    refine xi_aload_n (q := 8) dX8_markOfSick_7 rfl rfl ?_
    refine xv_cV1 (q := 11) xm_X8_markOfAny ln_X8_383 dX8_markOfSick_8 ⟨by omega, S17.1.1⟩ rfl ⟨(Nat.le_of_ble_eq_true rfl), (Nat.le_of_ble_eq_true rfl)⟩ (Nat.le_of_ble_eq_true rfl) ⟨rfl, rfl⟩ rfl (Nat.zero_le _) (Nat.zero_le _) ?_
    refine ⟨_, k, m + 1, rfl, S17, by omega, hk, rfl, by omega, fun H18 S18 F18 => ?_⟩
    refine xi_istore_n (q := 12) dX8_markOfSick_11 (Nat.le_of_ble_eq_true rfl) rfl ?_
    refine xi_iload_n (q := 13) dX8_markOfSick_12 rfl rfl ?_
    refine xi_iload_n (q := 14) dX8_markOfSick_13 rfl rfl ?_
    refine xi_iconst (x := 4) (q := 15) dX8_markOfSick_14 (by decide) rfl ?_
    refine xi_icmp_ne (q := 18) (q2 := 26) dX8_markOfSick_15 (by decide) rfl (fun c_15 => ?_) (fun c_15 => ?_)
    · refine xi_aload_n (q := 27) dX8_markOfSick_26 rfl rfl ?_
      refine xi_aload_n (q := 28) dX8_markOfSick_27 rfl rfl ?_
      refine xv_cV1 (q := 31) xm_X8_worthOfSick ln_X8_371 dX8_markOfSick_28 ⟨by omega, S18.1.1⟩ rfl ⟨(Nat.le_of_ble_eq_true rfl), (Nat.le_of_ble_eq_true rfl)⟩ (Nat.le_of_ble_eq_true rfl) ⟨rfl, rfl⟩ rfl (Nat.zero_le _) (Nat.zero_le _) ?_
      refine ⟨_, k, m + 2, rfl, S18, by omega, hk, rfl, by omega, fun H19 S19 F19 => ?_⟩
      refine xi_iadd (q := 32) dX8_markOfSick_31 rfl ?_
      refine xi_ret ⟨_, rfl, rfl, dX8_markOfSick_32⟩ (Nat.zero_le _) (Nat.zero_le _) ?_
      exact hp _ S19 (fun i hi => (F19 i hi).trans ((F18 i hi).trans ((F17 i (by omega) (by omega)).trans (rfl))))
    · exact absurd c_15 (by decide)
  · have eL : xs_awl 4 = [14, 13, 10] := by decide
    have eV : xs_awv (σ 4 k) (σ 5 k 0) 4 = 2 * (σ 4 k 1 - σ 5 k 0) := rfl
    rw [eL, eV] at hp
    refine xi_aload_n (q := 1) dX8_markOfSick_0 rfl rfl ?_
    refine xi_bipush (x := 22) (q := 3) dX8_markOfSick_1 (by decide) rfl ?_
    refine xv_cV1 (q := 6) xm_X8_leave ln_X8_365 dX8_markOfSick_3 ⟨by omega, hS.1.1⟩ rfl ⟨(Nat.le_of_ble_eq_true rfl), (Nat.le_of_ble_eq_true rfl)⟩ (Nat.le_of_ble_eq_true rfl) ⟨rfl, rfl⟩ rfl (Nat.zero_le _) (Nat.zero_le _) ?_
    refine ⟨_, m, 22, rfl, hS, by omega, hm, by omega, fun H20 S20 F20 => ?_⟩
    refine xi_aload_n (q := 7) dX8_markOfSick_6 rfl rfl ?_
    refine xi_aload_n (q := 8) dX8_markOfSick_7 rfl rfl ?_
    refine xv_cV1 (q := 11) xm_X8_markOfAny ln_X8_383 dX8_markOfSick_8 ⟨by omega, S20.1.1⟩ rfl ⟨(Nat.le_of_ble_eq_true rfl), (Nat.le_of_ble_eq_true rfl)⟩ (Nat.le_of_ble_eq_true rfl) ⟨rfl, rfl⟩ rfl (Nat.zero_le _) (Nat.zero_le _) ?_
    refine ⟨_, k, m + 1, rfl, S20, by omega, hk, rfl, by omega, fun H21 S21 F21 => ?_⟩
    refine xi_istore_n (q := 12) dX8_markOfSick_11 (Nat.le_of_ble_eq_true rfl) rfl ?_
    refine xi_iload_n (q := 13) dX8_markOfSick_12 rfl rfl ?_
    refine xi_iload_n (q := 14) dX8_markOfSick_13 rfl rfl ?_
    refine xi_iconst (x := 4) (q := 15) dX8_markOfSick_14 (by decide) rfl ?_
    refine xi_icmp_ne (q := 18) (q2 := 26) dX8_markOfSick_15 (by decide) rfl (fun c_15 => ?_) (fun c_15 => ?_)
    · exact absurd rfl c_15
    · refine xi_aload_n (q := 19) dX8_markOfSick_18 rfl rfl ?_
      refine xi_aload_n (q := 20) dX8_markOfSick_19 rfl rfl ?_
      refine xv_cV1 (q := 23) xm_X8_worthOfStuck ln_X8_374 dX8_markOfSick_20 ⟨by omega, S21.1.1⟩ rfl ⟨(Nat.le_of_ble_eq_true rfl), (Nat.le_of_ble_eq_true rfl)⟩ (Nat.le_of_ble_eq_true rfl) ⟨rfl, rfl⟩ rfl (Nat.zero_le _) (Nat.zero_le _) ?_
      refine ⟨_, k, m + 2, rfl, S21, by omega, hk, rfl, by omega, fun H22 S22 F22 => ?_⟩
      refine xi_goto (q := 31) dX8_markOfSick_23 (by decide) ?_
      refine xi_iadd (q := 32) dX8_markOfSick_31 rfl ?_
      refine xi_ret ⟨_, rfl, rfl, dX8_markOfSick_32⟩ (Nat.zero_le _) (Nat.zero_le _) ?_
      exact hp _ S22 (fun i hi => (F22 i hi).trans ((F21 i hi).trans ((F20 i (by omega) (by omega)).trans (rfl))))

set_option maxRecDepth 20000 in
set_option maxHeartbeats 2000000 in
/-- askMark -/
theorem xm_X8_askMark : xv_K yX8_askMark mX8_askMark (fun as h n Post => ∃ (σ : xs_Sg) (k : Nat) (m : Nat) (t : Int32), as = [.ref 0, .ref (59 + 2 * k), .int t] ∧ (xs_S h σ) ∧ (83 ≤ n) ∧ (k < 6) ∧ (σ 14 0 0 = nI m) ∧ (m + 8 ≤ 16) ∧ (t = 1 ∨ t = 2 ∨ t = 3 ∨ t = 4) ∧ (∀ h' : xv_H, xs_S h' (xs_lvL σ m (xs_aml t)) → (∀ i, 83 ≤ i → h' i = h i) → Post (some (.int (xs_amv (σ 4 k) (σ 5 k 0) t))) h' n)) := by
  refine xv_entry (by decide +kernel) rfl (fun h => absurd h (by decide)) ?_
  rintro X _ h n Post ⟨σ, k, m, t, rfl, hS, h83, hk, hm, hm1, ht, hp⟩
  refine ⟨Nat.le_of_ble_eq_true rfl, ?_⟩
  show xv_V X mX8_askMark Post 0 0 0 [(0, .ref 0), (1, .ref (59 + 2 * k)), (2, .int t)] [] h n
  rcases ht with rfl | rfl | rfl | rfl
  · have eL : xs_aml 1 = [20] := by decide
    have eV : xs_amv (σ 4 k) (σ 5 k 0) 1 = σ 4 k 4 := rfl
    rw [eL, eV] at hp
    refine xi_iload_n (q := 1) dX8_askMark_0 rfl rfl ?_
    refine xi_tableOut (q := 58) dX8_askMark_1 (by decide) (by decide) ?_
    refine xi_aload_n (q := 59) dX8_askMark_58 rfl rfl ?_
    refine xi_aload_n (q := 60) dX8_askMark_59 rfl rfl ?_
    refine xv_cV1 (q := 63) xm_X8_markOfAny ln_X8_383 dX8_askMark_60 ⟨by omega, hS.1.1⟩ rfl ⟨(Nat.le_of_ble_eq_true rfl), (Nat.le_of_ble_eq_true rfl)⟩ (Nat.le_of_ble_eq_true rfl) ⟨rfl, rfl⟩ rfl (Nat.zero_le _) (Nat.zero_le _) ?_
    refine ⟨_, k, m, rfl, hS, by omega, hk, hm, by omega, fun H23 S23 F23 => ?_⟩
    refine xi_ret ⟨_, rfl, rfl, dX8_askMark_63⟩ (Nat.zero_le _) (Nat.zero_le _) ?_
    exact hp _ S23 (fun i hi => (F23 i hi).trans (rfl))
  · have eL : xs_aml 2 = [21, 20] := by decide
    have eV : xs_amv (σ 4 k) (σ 5 k 0) 2 = σ 4 k 4 + 100 := rfl
    rw [eL, eV] at hp
    refine xi_iload_n (q := 1) dX8_askMark_0 rfl rfl ?_
    refine xi_tableIn (q := 28) dX8_askMark_1 (by decide) (by decide) rfl (by decide) ?_
    refine xi_aload_n (q := 29) dX8_askMark_28 rfl rfl ?_
    refine xi_aload_n (q := 30) dX8_askMark_29 rfl rfl ?_
    refine xv_cV1 (q := 33) xm_X8_markOfEven ln_X8_368 dX8_askMark_30 ⟨by omega, hS.1.1⟩ rfl ⟨(Nat.le_of_ble_eq_true rfl), (Nat.le_of_ble_eq_true rfl)⟩ (Nat.le_of_ble_eq_true rfl) ⟨rfl, rfl⟩ rfl (Nat.zero_le _) (Nat.zero_le _) ?_
    refine ⟨_, k, m, rfl, hS, by omega, hk, hm, by omega, fun H24 S24 F24 => ?_⟩
    refine xi_ret ⟨_, rfl, rfl, dX8_askMark_33⟩ (Nat.zero_le _) (Nat.zero_le _) ?_
    exact hp _ S24 (fun i hi => (F24 i hi).trans (rfl))
  · have eL : xs_aml 3 = [22, 20, 13, 10] := by decide
    have eV : xs_amv (σ 4 k) (σ 5 k 0) 3 = σ 4 k 4 + (σ 4 k 1 - σ 5 k 0) := rfl
    rw [eL, eV] at hp
    refine xi_iload_n (q := 1) dX8_askMark_0 rfl rfl ?_
    refine xi_tableIn (q := 34) dX8_askMark_1 (by decide) (by decide) rfl (by decide) ?_
    refine xi_aload_n (q := 35) dX8_askMark_34 rfl rfl ?_
    refine xi_aload_n (q := 36) dX8_askMark_35 rfl rfl ?_
    refine xi_iload_n (q := 37) dX8_askMark_36 rfl rfl ?_
    refine xv_cV2 (q := 40) xm_X8_markOfSick ln_X8_380 dX8_askMark_37 ⟨by omega, hS.1.1⟩ rfl ⟨(Nat.le_of_ble_eq_true rfl), (Nat.le_of_ble_eq_true rfl)⟩ (Nat.le_of_ble_eq_true rfl) ⟨rfl, rfl⟩ rfl (Nat.zero_le _) (Nat.zero_le _) ?_
    refine ⟨_, k, m, 3, rfl, hS, by omega, hk, hm, by omega, Or.inl rfl, fun H25 S25 F25 => ?_⟩
    refine xi_ret ⟨_, rfl, rfl, dX8_askMark_40⟩ (Nat.zero_le _) (Nat.zero_le _) ?_
    exact hp _ S25 (fun i hi => (F25 i hi).trans (rfl))
  · have eL : xs_aml 4 = [23, 22, 20, 14, 13, 10] := by decide
    have eV : xs_amv (σ 4 k) (σ 5 k 0) 4 = σ 4 k 4 + 2 * (σ 4 k 1 - σ 5 k 0) - 1000 := rfl
    rw [eL, eV] at hp
    refine xi_iload_n (q := 1) dX8_askMark_0 rfl rfl ?_
    refine xi_tableIn (q := 41) dX8_askMark_1 (by decide) (by decide) rfl (by decide) ?_
    refine xi_aload_n (q := 42) dX8_askMark_41 rfl rfl ?_
    refine xi_bipush (x := 23) (q := 44) dX8_askMark_42 (by decide) rfl ?_
    refine xv_cV1 (q := 47) xm_X8_leave ln_X8_365 dX8_askMark_44 ⟨by omega, hS.1.1⟩ rfl ⟨(Nat.le_of_ble_eq_true rfl), (Nat.le_of_ble_eq_true rfl)⟩ (Nat.le_of_ble_eq_true rfl) ⟨rfl, rfl⟩ rfl (Nat.zero_le _) (Nat.zero_le _) ?_
    refine ⟨_, m, 23, rfl, hS, by omega, hm, by omega, fun H26 S26 F26 => ?_⟩
    refine xi_aload_n (q := 48) dX8_askMark_47 rfl rfl ?_
    refine xi_aload_n (q := 49) dX8_askMark_48 rfl rfl ?_
    refine xi_iload_n (q := 50) dX8_askMark_49 rfl rfl ?_
    refine xv_cV2 (q := 53) xm_X8_markOfSick ln_X8_380 dX8_askMark_50 ⟨by omega, S26.1.1⟩ rfl ⟨(Nat.le_of_ble_eq_true rfl), (Nat.le_of_ble_eq_true rfl)⟩ (Nat.le_of_ble_eq_true rfl) ⟨rfl, rfl⟩ rfl (Nat.zero_le _) (Nat.zero_le _) ?_
    refine ⟨_, k, m + 1, 4, rfl, S26, by omega, hk, rfl, by omega, Or.inr rfl, fun H27 S27 F27 => ?_⟩
    refine xi_sipush (x := 1000) (q := 56) dX8_askMark_53 (by decide) rfl ?_
    refine xi_isub (q := 57) dX8_askMark_56 rfl ?_
    refine xi_ret ⟨_, rfl, rfl, dX8_askMark_57⟩ (Nat.zero_le _) (Nat.zero_le _) ?_
    exact hp _ S27 (fun i hi => (F27 i hi).trans ((F26 i (by omega) (by omega)).trans (rfl)))

theorem xs_Vtn {σ : xs_Sg} (hV : xs_V σ) {m : Nat} (hm : m ≤ 16) : xs_V (xs_tn σ (nI m)) := ⟨hV.1, hV.2.1, hV.2.2.1, hV.2.2.2.1, hV.2.2.2.2.1, hV.2.2.2.2.2.1, hV.2.2.2.2.2.2.1, ⟨m, hm, rfl⟩, hV.2.2.2.2.2.2.2.2⟩
theorem xn_tk (f : Nat → Int32) (s : Int32) : xs_tk f s = 1 ∨ xs_tk f s = 2 ∨ xs_tk f s = 3 ∨ xs_tk f s = 4 := by
  unfold xs_tk
  split <;> split <;> decide
def xs_ask (σ : xs_Sg) (p w : Int32) : Int32 × xs_Sg := if (xs_i p 0 5 && xs_i w 0 1) = true then (if σ 6 p.toNatClampNeg 0 = 0 then xs_fn (xs_tn σ 0) 1 else if w = 0 then (xs_awv (σ 4 p.toNatClampNeg) (σ 5 p.toNatClampNeg 0) (xs_tk (σ 4 p.toNatClampNeg) (σ 5 p.toNatClampNeg 0)), xs_fd (xs_lvL (xs_tn σ 0) 0 (xs_awl (xs_tk (σ 4 p.toNatClampNeg) (σ 5 p.toNatClampNeg 0)))) 0) else (xs_amv (σ 4 p.toNatClampNeg) (σ 5 p.toNatClampNeg 0) (xs_tk (σ 4 p.toNatClampNeg) (σ 5 p.toNatClampNeg 0)), xs_fd (xs_lvL (xs_tn σ 0) 0 (xs_aml (xs_tk (σ 4 p.toNatClampNeg) (σ 5 p.toNatClampNeg 0)))) 0)) else (-1000001, σ)
set_option maxRecDepth 20000 in
set_option maxHeartbeats 2000000 in
/-- ask -/
theorem xm_X8_ask : xv_K yX8_ask mX8_ask (fun as h n Post => ∃ (σ : xs_Sg) (p : Int32) (w : Int32), as = [.ref 0, .int p, .int w] ∧ (xs_S h σ) ∧ (83 ≤ n) ∧ (xs_V σ) ∧ xs_D h n Post (xs_ask σ p w)) := by
  refine xv_entry (by decide +kernel) rfl (fun h => absurd h (by decide)) ?_
  rintro X _ h n Post ⟨σ, p, w, rfl, hS, h83, hV, hp⟩
  refine ⟨Nat.le_of_ble_eq_true rfl, ?_⟩
  show xv_V X mX8_ask Post 0 0 0 [(0, .ref 0), (1, .int p), (2, .int w)] [] h n
  refine xi_iload_n (q := 1) dX8_ask_0 rfl rfl ?_
  refine xv_cS1 (q := 4) xm_X8_isPlace ln_X8_125 dX8_ask_1 ⟨(Nat.le_of_ble_eq_true rfl), (Nat.le_of_ble_eq_true rfl)⟩ (Nat.le_of_ble_eq_true rfl) ⟨rfl, rfl⟩ rfl (Nat.zero_le _) (Nat.zero_le _) ?_
  refine ⟨_, rfl, ?_⟩
  refine xi_if_eq (q := 7) (q2 := 16) dX8_ask_4 (by decide) rfl (fun c_4 => ?_) (fun c_4 => ?_)
  · have g_4 : xs_i p 0 5 = false := decide_eq_false (xn_b0 c_4)
    refine xi_ldc (q := 18) dX8_ask_16 kc_X8_81 rfl ?_
    refine xi_ret ⟨_, rfl, rfl, dX8_ask_18⟩ (Nat.zero_le _) (Nat.zero_le _) ?_
    exact xs_fin hp (by simp only [xs_ask, xs_onE, xs_onP, xs_fn, xs_an, Bool.not_false, Bool.not_true, Bool.true_or, Bool.false_or, Bool.and_true, Bool.true_and, Bool.and_false, Bool.false_and, Bool.false_eq_true, if_true, if_false, ↓reduceIte, g_4]) _ hS (fun i hi => rfl)
  · have g_4 : xs_i p 0 5 = true := decide_eq_true (xn_b1 c_4)
    obtain ⟨kp, hkp, rfl⟩ := xn_pk (m := 5) (by omega) (xn_b1 c_4)
    refine xi_iload_n (q := 8) dX8_ask_7 rfl rfl ?_
    refine xi_iconst (x := 0) (q := 9) dX8_ask_8 (by decide) rfl ?_
    refine xi_iconst (x := 1) (q := 10) dX8_ask_9 (by decide) rfl ?_
    refine xv_cS3 (q := 13) xm_X8_within ln_X8_77 dX8_ask_10 ⟨(Nat.le_of_ble_eq_true rfl), (Nat.le_of_ble_eq_true rfl)⟩ (Nat.le_of_ble_eq_true rfl) ⟨rfl, rfl⟩ rfl (Nat.zero_le _) (Nat.zero_le _) ?_
    refine ⟨_, _, _, rfl, ?_⟩
    refine xi_if_ne (q := 16) (q2 := 19) dX8_ask_13 (by decide) rfl (fun c_13 => ?_) (fun c_13 => ?_)
    · have g_13 : xs_i w 0 1 = true := decide_eq_true (xn_b1 c_13)
      refine xi_aload_n (q := 20) dX8_ask_19 rfl rfl ?_
      refine xi_iconst (x := 0) (q := 21) dX8_ask_20 (by decide) rfl ?_
      refine xi_putf (q := 24) dX8_ask_21 fl_X8_325 ⟨by omega, hS.1.1⟩ (Or.inl rfl) (fun _ => rfl) (fun _ => rfl) (Nat.le_of_ble_eq_true rfl) rfl ?_
      refine xi_aload_n (q := 25) dX8_ask_24 rfl rfl ?_
      refine xi_iload_n (q := 26) dX8_ask_25 rfl rfl ?_
      refine xv_cV1 (q := 29) xm_X8_engineAt ln_X8_142 dX8_ask_26 (xv_self (by omega)) rfl ⟨(Nat.le_of_ble_eq_true rfl), (Nat.le_of_ble_eq_true rfl)⟩ (Nat.le_of_ble_eq_true rfl) ⟨rfl, rfl⟩ rfl (Nat.zero_le _) (Nat.zero_le _) ?_
      have S70 : xs_S (va_up h 0 (xs_rt 0 (σ 16 0 0))) (xs_tn σ 0) := xs_Stn hS (va_up_self _ _ _) (fun i hi => va_up_ne _ _ hi)
      refine ⟨_, kp, rfl, S70, by omega, by omega, fun hE26 => ?_, fun hE26 => ?_⟩
      · replace hE26 : ¬ σ 6 kp 0 = 0 := hE26
        refine xi_astore_n (q := 30) dX8_ask_29 (Nat.le_of_ble_eq_true rfl) rfl ?_
        refine xi_aload_n (q := 31) dX8_ask_30 rfl rfl ?_
        refine xi_ifnonnull_r (q := 40) dX8_ask_31 (by decide) ?_
        refine xi_aload_n (q := 41) dX8_ask_40 rfl rfl ?_
        refine xi_aload_n (q := 42) dX8_ask_41 rfl rfl ?_
        refine xv_cV1 (q := 45) xm_X8_toldKind ln_X8_319 dX8_ask_42 ⟨by omega, S70.1.1⟩ rfl ⟨(Nat.le_of_ble_eq_true rfl), (Nat.le_of_ble_eq_true rfl)⟩ (Nat.le_of_ble_eq_true rfl) ⟨rfl, rfl⟩ rfl (Nat.zero_le _) (Nat.zero_le _) ?_
        refine ⟨_, kp, rfl, S70, by omega, xs_Vtn (m := 0) hV (by omega), by omega, hE26, fun h9 S92 q2 => ?_⟩
        obtain ⟨T, hT⟩ : ∃ T, T = xs_tk (σ 4 kp) (σ 5 kp 0) := ⟨_, rfl⟩
        have hT4 := xn_tk (σ 4 kp) (σ 5 kp 0)
        rw [← hT] at hT4
        rw [show xs_tk (xs_tn σ 0 4 kp) (xs_tn σ 0 5 kp 0) = T from hT.symm]
        refine xi_istore (q := 47) dX8_ask_45 (Nat.le_of_ble_eq_true rfl) rfl ?_
        refine xi_aload_n (q := 48) dX8_ask_47 rfl rfl ?_
        refine xi_iload_n (q := 49) dX8_ask_48 rfl rfl ?_
        refine xi_if_ne (q := 52) (q2 := 62) dX8_ask_49 (by decide) rfl (fun c_49 => ?_) (fun c_49 => ?_)
        · skip
          refine xi_aload_n (q := 63) dX8_ask_62 rfl rfl ?_
          refine xi_aload_n (q := 64) dX8_ask_63 rfl rfl ?_
          refine xi_iload (q := 66) dX8_ask_64 rfl rfl ?_
          refine xv_cV2 (q := 69) xm_X8_askMark ln_X8_332 dX8_ask_66 ⟨by omega, S92.1.1⟩ rfl ⟨(Nat.le_of_ble_eq_true rfl), (Nat.le_of_ble_eq_true rfl)⟩ (Nat.le_of_ble_eq_true rfl) ⟨rfl, rfl⟩ rfl (Nat.zero_le _) (Nat.zero_le _) ?_
          refine ⟨_, kp, 0, T, rfl, S92, by omega, by omega, rfl, by omega, hT4, fun h7 S93 q3 => ?_⟩
          rw [show xs_amv (xs_tn σ 0 4 kp) (xs_tn σ 0 5 kp 0) T = xs_amv (σ 4 kp) (σ 5 kp 0) T from rfl]
          refine xv_cV1 (q := 72) xm_X8_answered ln_X8_90 dX8_ask_69 ⟨by omega, S93.1.1⟩ rfl ⟨(Nat.le_of_ble_eq_true rfl), (Nat.le_of_ble_eq_true rfl)⟩ (Nat.le_of_ble_eq_true rfl) ⟨rfl, rfl⟩ rfl (Nat.zero_le _) (Nat.zero_le _) ?_
          refine ⟨_, _, rfl, S93, by omega, fun H1 S1 F1 => ?_⟩
          refine xi_ret ⟨_, rfl, rfl, dX8_ask_72⟩ (Nat.zero_le _) (Nat.zero_le _) ?_
          exact xs_fin hp (by simp only [xs_ask, xs_onE, xs_onP, xs_fn, xs_an, Bool.not_false, Bool.not_true, Bool.true_or, Bool.false_or, Bool.and_true, Bool.true_and, Bool.and_false, Bool.false_and, Bool.false_eq_true, if_true, if_false, ↓reduceIte, g_4, g_13, hE26, c_49, ← hT, xs_kk0 (k := kp) (by omega)]) _ S1 (fun i hi => (F1 i (by omega)).trans ((q3 i hi).trans ((q2 i hi).trans ((va_up_ne _ _ (by omega)).trans rfl))))
        · skip
          refine xi_aload_n (q := 53) dX8_ask_52 rfl rfl ?_
          refine xi_aload_n (q := 54) dX8_ask_53 rfl rfl ?_
          refine xi_iload (q := 56) dX8_ask_54 rfl rfl ?_
          refine xv_cV2 (q := 59) xm_X8_askWorth ln_X8_328 dX8_ask_56 ⟨by omega, S92.1.1⟩ rfl ⟨(Nat.le_of_ble_eq_true rfl), (Nat.le_of_ble_eq_true rfl)⟩ (Nat.le_of_ble_eq_true rfl) ⟨rfl, rfl⟩ rfl (Nat.zero_le _) (Nat.zero_le _) ?_
          refine ⟨_, kp, 0, T, rfl, S92, by omega, by omega, rfl, by omega, hT4, fun h7 S93 q3 => ?_⟩
          rw [show xs_awv (xs_tn σ 0 4 kp) (xs_tn σ 0 5 kp 0) T = xs_awv (σ 4 kp) (σ 5 kp 0) T from rfl]
          refine xi_goto (q := 69) dX8_ask_59 (by decide) ?_
          refine xv_cV1 (q := 72) xm_X8_answered ln_X8_90 dX8_ask_69 ⟨by omega, S93.1.1⟩ rfl ⟨(Nat.le_of_ble_eq_true rfl), (Nat.le_of_ble_eq_true rfl)⟩ (Nat.le_of_ble_eq_true rfl) ⟨rfl, rfl⟩ rfl (Nat.zero_le _) (Nat.zero_le _) ?_
          refine ⟨_, _, rfl, S93, by omega, fun H2 S2 F2 => ?_⟩
          refine xi_ret ⟨_, rfl, rfl, dX8_ask_72⟩ (Nat.zero_le _) (Nat.zero_le _) ?_
          exact xs_fin hp (by simp only [xs_ask, xs_onE, xs_onP, xs_fn, xs_an, Bool.not_false, Bool.not_true, Bool.true_or, Bool.false_or, Bool.and_true, Bool.true_and, Bool.and_false, Bool.false_and, Bool.false_eq_true, if_true, if_false, ↓reduceIte, g_4, g_13, hE26, eq_true c_49, ← hT, xs_kk0 (k := kp) (by omega)]) _ S2 (fun i hi => (F2 i (by omega)).trans ((q3 i hi).trans ((q2 i hi).trans ((va_up_ne _ _ (by omega)).trans rfl))))
      · replace hE26 : σ 6 kp 0 = 0 := hE26
        refine xi_astore_nN (q := 30) dX8_ask_29 (Nat.le_of_ble_eq_true rfl) rfl ?_
        refine xi_aload_nN (q := 31) dX8_ask_30 rfl rfl ?_
        refine xi_ifnonnull_n (q := 34) dX8_ask_31 rfl ?_
        refine xi_aload_n (q := 35) dX8_ask_34 rfl rfl ?_
        refine xi_iconst (x := 1) (q := 36) dX8_ask_35 (by decide) rfl ?_
        refine xv_cV1 (q := 39) xm_X8_found ln_X8_82 dX8_ask_36 ⟨by omega, S70.1.1⟩ rfl ⟨(Nat.le_of_ble_eq_true rfl), (Nat.le_of_ble_eq_true rfl)⟩ (Nat.le_of_ble_eq_true rfl) ⟨rfl, rfl⟩ rfl (Nat.zero_le _) (Nat.zero_le _) ?_
        refine ⟨_, _, rfl, S70, by omega, fun H3 S3 F3 => ?_⟩
        refine xi_ret ⟨_, rfl, rfl, dX8_ask_39⟩ (Nat.zero_le _) (Nat.zero_le _) ?_
        exact xs_fin hp (by simp only [xs_ask, xs_onE, xs_onP, xs_fn, xs_an, Bool.not_false, Bool.not_true, Bool.true_or, Bool.false_or, Bool.and_true, Bool.true_and, Bool.and_false, Bool.false_and, Bool.false_eq_true, if_true, if_false, ↓reduceIte, g_4, g_13, eq_true hE26, xs_kk0 (k := kp) (by omega)]) _ S3 (fun i hi => (F3 i (by omega)).trans ((va_up_ne _ _ (by omega)).trans rfl))
    · have g_13 : xs_i w 0 1 = false := decide_eq_false (xn_b0 c_13)
      refine xi_ldc (q := 18) dX8_ask_16 kc_X8_81 rfl ?_
      refine xi_ret ⟨_, rfl, rfl, dX8_ask_18⟩ (Nat.zero_le _) (Nat.zero_le _) ?_
      exact xs_fin hp (by simp only [xs_ask, xs_onE, xs_onP, xs_fn, xs_an, Bool.not_false, Bool.not_true, Bool.true_or, Bool.false_or, Bool.and_true, Bool.true_and, Bool.and_false, Bool.false_and, Bool.false_eq_true, if_true, if_false, ↓reduceIte, g_4, g_13, xs_kk0 (k := kp) (by omega)]) _ hS (fun i hi => rfl)

