theorem xn_ix60 {i : Int32} {j : Nat} (h : xv_ix i 60 j) : 0 ≤ i ∧ i ≤ 59 := by
  have z := vp_in_iff.mp h.1
  constructor
  · rw [xn_le, show (0 : Int32).toInt = 0 from rfl]; omega
  · rw [xn_le, show (59 : Int32).toInt = 59 from rfl]; omega
theorem xn_allF {f : Nat → Bool} {i : Nat} (h : f i = false) : ∀ {K : Nat}, i < K → xs_all f K = false
  | K + 1, hi => by
    show (xs_all f K && f K) = false
    by_cases e : i = K
    · rw [← e, h, Bool.and_false]
    · rw [xn_allF h (show i < K by omega), Bool.false_and]
theorem xn_allT {f : Nat → Bool} : ∀ {K : Nat}, (∀ i, i < K → f i = true) → xs_all f K = true
  | 0, _ => rfl
  | K + 1, h => by
    show (xs_all f K && f K) = true
    rw [xn_allT (fun i hi => h i (by omega)), h K (by omega), Bool.true_and]
theorem xn_allI {f : Nat → Bool} : ∀ {K : Nat}, xs_all f K = true → ∀ i, i < K → f i = true
  | K + 1, h, i, hi => by
    have h2 : (xs_all f K && f K) = true := h
    rw [Bool.and_eq_true] at h2
    by_cases e : i = K
    · rw [e]; exact h2.2
    · exact xn_allI h2.1 i (by omega)
def xs_has (i k sz : Int32) : Bool := decide (0 ≤ i) && (decide (0 ≤ k) && (decide (k ≤ sz) && decide (i ≤ sz - k)))
def xs_abs (x : Int32) : Int32 := if 0 ≤ x then x else 0 - x
theorem xn_ixA {a i m : Nat} (h : a + i < m) (hm : m < 2147483648) : xv_ix (nI a + nI i) m (a + i) := by
  rw [nI_add]
  exact xv_ixN h hm

set_option maxRecDepth 20000 in
set_option maxHeartbeats 2000000 in
/-- has -/
theorem xm_X7_has : xv_K yX7_has mX7_has (fun as h n Post => ∃ (s0 : Nat) (th : Int32) (la : Int32) (sz : Int32) (it : Nat → Int32) (i : Int32) (k : Int32), as = [.ref s0, .int i, .int k] ∧ (s0 + 1 < n) ∧ (h s0 = .inr (7, [.ref (s0 + 1), .int th, .int la, .int sz])) ∧ (h (s0 + 1) = .inl (.int, 60, .inl it)) ∧ Post (some (.int (if xs_has i k sz = true then 1 else 0))) h n) := by
  refine xv_entry (by decide +kernel) rfl (fun h => absurd h (by decide)) ?_
  rintro X _ h n Post ⟨s0, th, la, sz, it, i, k, rfl, hs, hS, hI, hp⟩
  refine ⟨Nat.le_of_ble_eq_true rfl, ?_⟩
  show xv_V X mX7_has Post 0 0 0 [(0, .ref s0), (1, .int i), (2, .int k)] [] h n
  refine xi_iload_n (q := 1) dX7_has_0 rfl rfl ?_
  refine xi_if_lt (q := 4) (q2 := 30) dX7_has_1 (by decide) rfl (fun c_1 => ?_) (fun c_1 => ?_)
  · refine xi_iconst (x := 0) (q := 31) dX7_has_30 (by decide) rfl ?_
    refine xi_ret ⟨_, rfl, rfl, dX7_has_31⟩ (Nat.zero_le _) (Nat.zero_le _) ?_
    exact xv_eqb0 hp (fun z => by unfold xs_has at z; simp only [Bool.and_eq_true, decide_eq_true_eq, xn_le] at z; simp only [xn_lt] at c_1; omega)
  · refine xi_iload_n (q := 5) dX7_has_4 rfl rfl ?_
    refine xi_if_lt (q := 8) (q2 := 30) dX7_has_5 (by decide) rfl (fun c_5 => ?_) (fun c_5 => ?_)
    · refine xi_iconst (x := 0) (q := 31) dX7_has_30 (by decide) rfl ?_
      refine xi_ret ⟨_, rfl, rfl, dX7_has_31⟩ (Nat.zero_le _) (Nat.zero_le _) ?_
      exact xv_eqb0 hp (fun z => by unfold xs_has at z; simp only [Bool.and_eq_true, decide_eq_true_eq, xn_le] at z; simp only [xn_lt] at c_5; omega)
    · refine xi_iload_n (q := 9) dX7_has_8 rfl rfl ?_
      refine xi_aload_n (q := 10) dX7_has_9 rfl rfl ?_
      refine xi_getf (q := 13) dX7_has_10 fl_X7_23 ⟨by omega, hS⟩ rfl rfl ?_
      refine xi_icmp_gt (q := 16) (q2 := 30) dX7_has_13 (by decide) rfl (fun c_13 => ?_) (fun c_13 => ?_)
      · refine xi_iconst (x := 0) (q := 31) dX7_has_30 (by decide) rfl ?_
        refine xi_ret ⟨_, rfl, rfl, dX7_has_31⟩ (Nat.zero_le _) (Nat.zero_le _) ?_
        exact xv_eqb0 hp (fun z => by unfold xs_has at z; simp only [Bool.and_eq_true, decide_eq_true_eq, xn_le] at z; simp only [xn_lt] at c_13; omega)
      · refine xi_iload_n (q := 17) dX7_has_16 rfl rfl ?_
        refine xi_aload_n (q := 18) dX7_has_17 rfl rfl ?_
        refine xi_getf (q := 21) dX7_has_18 fl_X7_23 ⟨by omega, hS⟩ rfl rfl ?_
        refine xi_iload_n (q := 22) dX7_has_21 rfl rfl ?_
        refine xi_isub (q := 23) dX7_has_22 rfl ?_
        refine xi_icmp_gt (q := 26) (q2 := 30) dX7_has_23 (by decide) rfl (fun c_23 => ?_) (fun c_23 => ?_)
        · refine xi_iconst (x := 0) (q := 31) dX7_has_30 (by decide) rfl ?_
          refine xi_ret ⟨_, rfl, rfl, dX7_has_31⟩ (Nat.zero_le _) (Nat.zero_le _) ?_
          exact xv_eqb0 hp (fun z => by unfold xs_has at z; simp only [Bool.and_eq_true, decide_eq_true_eq, xn_le] at z; simp only [xn_lt] at c_23; omega)
        · refine xi_iconst (x := 1) (q := 27) dX7_has_26 (by decide) rfl ?_
          refine xi_goto (q := 31) dX7_has_27 (by decide) ?_
          refine xi_ret ⟨_, rfl, rfl, dX7_has_31⟩ (Nat.zero_le _) (Nat.zero_le _) ?_
          exact xv_eqb1 hp (by unfold xs_has; simp only [Bool.and_eq_true, decide_eq_true_eq, xn_le]; simp only [xn_lt] at c_1 c_5 c_13 c_23; rw [show (0 : Int32).toInt = 0 from rfl] at *; omega)

set_option maxRecDepth 20000 in
set_option maxHeartbeats 2000000 in
/-- read -/
theorem xm_X7_read : xv_K yX7_read mX7_read (fun as h n Post => ∃ (s0 : Nat) (th : Int32) (la : Int32) (sz : Int32) (it : Nat → Int32) (i : Int32) (j : Nat), as = [.ref s0, .int i] ∧ (s0 + 1 < n) ∧ (h s0 = .inr (7, [.ref (s0 + 1), .int th, .int la, .int sz])) ∧ (h (s0 + 1) = .inl (.int, 60, .inl it)) ∧ (xv_ix i 60 j) ∧ Post (some (.int (it j))) h n) := by
  refine xv_entry (by decide +kernel) rfl (fun h => absurd h (by decide)) ?_
  rintro X _ h n Post ⟨s0, th, la, sz, it, i, j, rfl, hs, hS, hI, hj, hp⟩
  refine ⟨Nat.le_of_ble_eq_true rfl, ?_⟩
  show xv_V X mX7_read Post 0 0 0 [(0, .ref s0), (1, .int i)] [] h n
  refine xi_iload_n (q := 1) dX7_read_0 rfl rfl ?_
  refine xi_iconst (x := 0) (q := 2) dX7_read_1 (by decide) rfl ?_
  refine xi_bipush (x := 59) (q := 4) dX7_read_2 (by decide) rfl ?_
  refine xv_cS3 (q := 7) xm_X8_within ln_X7_32 dX7_read_4 ⟨(Nat.le_of_ble_eq_true rfl), (Nat.le_of_ble_eq_true rfl)⟩ (Nat.le_of_ble_eq_true rfl) ⟨rfl, rfl⟩ rfl (Nat.zero_le _) (Nat.zero_le _) ?_
  refine ⟨_, _, _, rfl, ?_⟩
  refine xi_if_eq (q := 10) (q2 := 19) dX7_read_7 (by decide) rfl (fun c_7 => ?_) (fun c_7 => ?_)
  · exact absurd (xn_ix60 hj) (xn_b0 c_7)
  · refine xi_aload_n (q := 11) dX7_read_10 rfl rfl ?_
    refine xi_getf (q := 14) dX7_read_11 fl_X7_9 ⟨by omega, hS⟩ rfl rfl ?_
    refine xi_iload_n (q := 15) dX7_read_14 rfl rfl ?_
    refine xi_iald (q := 16) dX7_read_15 ⟨hs, hI⟩ hj rfl ?_
    refine xi_goto (q := 20) dX7_read_16 (by decide) ?_
    refine xi_ret ⟨_, rfl, rfl, dX7_read_20⟩ (Nat.zero_le _) (Nat.zero_le _) ?_
    exact hp

set_option maxRecDepth 20000 in
set_option maxHeartbeats 2000000 in
/-- write -/
theorem xm_X7_write : xv_K yX7_write mX7_write (fun as h n Post => ∃ (s0 : Nat) (th : Int32) (la : Int32) (sz : Int32) (it : Nat → Int32) (i : Int32) (v : Int32) (j : Nat), as = [.ref s0, .int i, .int v] ∧ (s0 + 1 < n) ∧ (h s0 = .inr (7, [.ref (s0 + 1), .int th, .int la, .int sz])) ∧ (h (s0 + 1) = .inl (.int, 60, .inl it)) ∧ (xv_ix i 60 j) ∧ (∀ h' : xv_H, h' (s0 + 1) = .inl (.int, 60, .inl (upd it j (xs_nar la v))) → (∀ x, x ≠ s0 + 1 → h' x = h x) → Post (some (.int (xs_nar la v))) h' n)) := by
  refine xv_entry (by decide +kernel) rfl (fun h => absurd h (by decide)) ?_
  rintro X _ h n Post ⟨s0, th, la, sz, it, i, v, j, rfl, hs, hS, hI, hj, hp⟩
  refine ⟨Nat.le_of_ble_eq_true rfl, ?_⟩
  show xv_V X mX7_write Post 0 0 0 [(0, .ref s0), (1, .int i), (2, .int v)] [] h n
  refine xi_iload_n (q := 1) dX7_write_0 rfl rfl ?_
  refine xi_iconst (x := 0) (q := 2) dX7_write_1 (by decide) rfl ?_
  refine xi_bipush (x := 59) (q := 4) dX7_write_2 (by decide) rfl ?_
  refine xv_cS3 (q := 7) xm_X8_within ln_X7_32 dX7_write_4 ⟨(Nat.le_of_ble_eq_true rfl), (Nat.le_of_ble_eq_true rfl)⟩ (Nat.le_of_ble_eq_true rfl) ⟨rfl, rfl⟩ rfl (Nat.zero_le _) (Nat.zero_le _) ?_
  refine ⟨_, _, _, rfl, ?_⟩
  refine xi_if_ne (q := 10) (q2 := 12) dX7_write_7 (by decide) rfl (fun c_7 => ?_) (fun c_7 => ?_)
  · refine xi_aload_n (q := 13) dX7_write_12 rfl rfl ?_
    refine xi_getf (q := 16) dX7_write_13 fl_X7_19 ⟨by omega, hS⟩ rfl rfl ?_
    refine xi_if_ne (q := 19) (q2 := 30) dX7_write_16 (by decide) rfl (fun c_16 => ?_) (fun c_16 => ?_)
    · refine xi_aload_n (q := 31) dX7_write_30 rfl rfl ?_
      refine xi_getf (q := 34) dX7_write_31 fl_X7_19 ⟨by omega, hS⟩ rfl rfl ?_
      refine xi_iconst (x := 1) (q := 35) dX7_write_34 (by decide) rfl ?_
      refine xi_icmp_ne (q := 38) (q2 := 49) dX7_write_35 (by decide) rfl (fun c_35 => ?_) (fun c_35 => ?_)
      · refine xi_aload_n (q := 50) dX7_write_49 rfl rfl ?_
        refine xi_getf (q := 53) dX7_write_50 fl_X7_9 ⟨by omega, hS⟩ rfl rfl ?_
        refine xi_iload_n (q := 54) dX7_write_53 rfl rfl ?_
        refine xi_iload_n (q := 55) dX7_write_54 rfl rfl ?_
        refine xi_iast (q := 56) dX7_write_55 ⟨hs, hI⟩ hj rfl ?_
        refine xi_aload_n (q := 57) dX7_write_56 rfl rfl ?_
        refine xi_getf (q := 60) dX7_write_57 fl_X7_9 (xv_keep (by omega) ⟨by omega, hS⟩) rfl rfl ?_
        refine xi_iload_n (q := 61) dX7_write_60 rfl rfl ?_
        refine xi_iald (q := 62) dX7_write_61 (xv_self (by omega)) hj rfl ?_
        refine xi_ret ⟨_, rfl, rfl, dX7_write_62⟩ (Nat.zero_le _) (Nat.zero_le _) ?_
        have e : xs_nar la v = v := by unfold xs_nar; rw [if_neg c_16, if_neg c_35]
        rw [pk_us]
        rw [← e]
        exact hp _ (by rw [va_up_self]) (fun x hx => va_up_ne _ _ hx)
      · refine xi_aload_n (q := 39) dX7_write_38 rfl rfl ?_
        refine xi_getf (q := 42) dX7_write_39 fl_X7_9 ⟨by omega, hS⟩ rfl rfl ?_
        refine xi_iload_n (q := 43) dX7_write_42 rfl rfl ?_
        refine xi_iload_n (q := 44) dX7_write_43 rfl rfl ?_
        refine xi_i2s (q := 45) dX7_write_44 rfl ?_
        refine xi_iast (q := 46) dX7_write_45 ⟨hs, hI⟩ hj rfl ?_
        refine xi_goto (q := 56) dX7_write_46 (by decide) ?_
        refine xi_aload_n (q := 57) dX7_write_56 rfl rfl ?_
        refine xi_getf (q := 60) dX7_write_57 fl_X7_9 (xv_keep (by omega) ⟨by omega, hS⟩) rfl rfl ?_
        refine xi_iload_n (q := 61) dX7_write_60 rfl rfl ?_
        refine xi_iald (q := 62) dX7_write_61 (xv_self (by omega)) hj rfl ?_
        refine xi_ret ⟨_, rfl, rfl, dX7_write_62⟩ (Nat.zero_le _) (Nat.zero_le _) ?_
        have e : xs_nar la v = v.toInt16.toInt32 := by unfold xs_nar; rw [if_neg c_16, if_pos (by first | exact c_35 | exact Decidable.of_not_not c_35)]
        rw [pk_us]
        rw [← e]
        exact hp _ (by rw [va_up_self]) (fun x hx => va_up_ne _ _ hx)
    · refine xi_aload_n (q := 20) dX7_write_19 rfl rfl ?_
      refine xi_getf (q := 23) dX7_write_20 fl_X7_9 ⟨by omega, hS⟩ rfl rfl ?_
      refine xi_iload_n (q := 24) dX7_write_23 rfl rfl ?_
      refine xi_iload_n (q := 25) dX7_write_24 rfl rfl ?_
      refine xi_i2b (q := 26) dX7_write_25 rfl ?_
      refine xi_iast (q := 27) dX7_write_26 ⟨hs, hI⟩ hj rfl ?_
      refine xi_goto (q := 56) dX7_write_27 (by decide) ?_
      refine xi_aload_n (q := 57) dX7_write_56 rfl rfl ?_
      refine xi_getf (q := 60) dX7_write_57 fl_X7_9 (xv_keep (by omega) ⟨by omega, hS⟩) rfl rfl ?_
      refine xi_iload_n (q := 61) dX7_write_60 rfl rfl ?_
      refine xi_iald (q := 62) dX7_write_61 (xv_self (by omega)) hj rfl ?_
      refine xi_ret ⟨_, rfl, rfl, dX7_write_62⟩ (Nat.zero_le _) (Nat.zero_le _) ?_
      have e : xs_nar la v = v.toInt8.toInt32 := by unfold xs_nar; rw [if_pos (by first | exact c_16 | exact Decidable.of_not_not c_16)]
      rw [pk_us]
      rw [← e]
      exact hp _ (by rw [va_up_self]) (fun x hx => va_up_ne _ _ hx)
  · exact absurd (xn_ix60 hj) (xn_b0 (by first | exact c_7 | exact Decidable.of_not_not c_7))

set_option maxRecDepth 20000 in
set_option maxHeartbeats 2000000 in
/-- begin -/
theorem xm_X7_begin : xv_K yX7_begin mX7_begin (fun as h n Post => ∃ (s0 : Nat) (th : Int32) (la : Int32) (sz : Int32) (it : Nat → Int32) (l2 : Int32) (z2 : Int32), as = [.ref s0, .int l2, .int z2] ∧ (s0 + 1 < n) ∧ (h s0 = .inr (7, [.ref (s0 + 1), .int th, .int la, .int sz])) ∧ (h (s0 + 1) = .inl (.int, 60, .inl it)) ∧ (∀ h' : xv_H, h' s0 = .inr (7, [.ref (s0 + 1), .int 1, .int l2, .int z2]) → h' (s0 + 1) = .inl (.int, 60, .inl fun _ => 0) → (∀ x, x ≠ s0 → x ≠ s0 + 1 → h' x = h x) → Post none h' n)) := by
  refine xv_entry (by decide +kernel) rfl (fun h => absurd h (by decide)) ?_
  rintro X _ h n Post ⟨s0, th, la, sz, it, l2, z2, rfl, hs, hS, hI, hp⟩
  refine ⟨Nat.le_of_ble_eq_true rfl, ?_⟩
  show xv_V X mX7_begin Post 0 0 0 [(0, .ref s0), (1, .int l2), (2, .int z2)] [] h n
  refine xi_aload_n (q := 1) dX7_begin_0 rfl rfl ?_
  refine xi_iconst (x := 1) (q := 2) dX7_begin_1 (by decide) rfl ?_
  refine xi_putf (q := 5) dX7_begin_2 fl_X7_15 ⟨by omega, hS⟩ (Or.inl rfl) (fun _ => rfl) (fun _ => rfl) (Nat.le_of_ble_eq_true rfl) rfl ?_
  refine xi_aload_n (q := 6) dX7_begin_5 rfl rfl ?_
  refine xi_iload_n (q := 7) dX7_begin_6 rfl rfl ?_
  refine xi_putf (q := 10) dX7_begin_7 fl_X7_19 (xv_self (by omega)) (Or.inl rfl) (fun _ => rfl) (fun _ => rfl) (Nat.le_of_ble_eq_true rfl) rfl ?_
  refine xi_aload_n (q := 11) dX7_begin_10 rfl rfl ?_
  refine xi_iload_n (q := 12) dX7_begin_11 rfl rfl ?_
  refine xi_putf (q := 15) dX7_begin_12 fl_X7_23 (xv_self (by omega)) (Or.inl rfl) (fun _ => rfl) (fun _ => rfl) (Nat.le_of_ble_eq_true rfl) rfl ?_
  refine xi_aload_n (q := 16) dX7_begin_15 rfl rfl ?_
  refine xi_getf (q := 19) dX7_begin_16 fl_X7_9 (xv_self (by omega)) rfl rfl ?_
  refine xi_iconst (x := 0) (q := 20) dX7_begin_19 (by decide) rfl ?_
  refine xv_cS2 (q := 23) xm_J7_fill_53178 ln_X7_26 dX7_begin_20 ⟨(Nat.le_of_ble_eq_true rfl), (Nat.le_of_ble_eq_true rfl)⟩ (Nat.le_of_ble_eq_true rfl) ⟨rfl, rfl⟩ rfl (Nat.zero_le _) (Nat.zero_le _) ?_
  refine ⟨s0 + 1, 0, 60, it, rfl, hs, by omega, ?_, fun h2 q1 q2 => ?_⟩
  · rw [va_up_ne _ _ (by omega), va_up_ne _ _ (by omega), va_up_ne _ _ (by omega)]; exact hI
  refine xi_vret ⟨rfl, dX7_begin_23⟩ (Nat.zero_le _) (Nat.zero_le _) ?_
  refine hp h2 ?_ q1 (fun x x1 x2 => ?_)
  · rw [q2 _ (by omega), bx_uu, bx_uu, va_up_self]; rfl
  · rw [q2 _ x2, va_up_ne _ _ x1, va_up_ne _ _ x1, va_up_ne _ _ x1]

set_option maxRecDepth 20000 in
set_option maxHeartbeats 2000000 in
/-- holdsWithin -/
theorem xm_X7_holdsWithin : xv_K yX7_holdsWithin mX7_holdsWithin (fun as h n Post => ∃ (s0 : Nat) (th : Int32) (la : Int32) (sz : Int32) (it : Nat → Int32) (a : Nat) (K : Nat) (lo : Int32) (hi : Int32), as = [.ref s0, .int (nI a), .int (nI K), .int lo, .int hi] ∧ (s0 + 1 < n) ∧ (h s0 = .inr (7, [.ref (s0 + 1), .int th, .int la, .int sz])) ∧ (h (s0 + 1) = .inl (.int, 60, .inl it)) ∧ (a + K ≤ 60) ∧ Post (some (.int (if xs_all (fun i => decide (lo ≤ it (a + i)) && decide (it (a + i) ≤ hi)) K = true then 1 else 0))) h n) := by
  refine xv_entry (by decide +kernel) rfl (fun h => absurd h (by decide)) ?_
  rintro X _ h n Post ⟨s0, th, la, sz, it, a, K, lo, hi, rfl, hs, hS, hI, haK, hp⟩
  refine ⟨Nat.le_of_ble_eq_true rfl, ?_⟩
  show xv_V X mX7_holdsWithin Post 0 0 0 [(0, .ref s0), (1, .int (nI a)), (2, .int (nI K)), (3, .int lo), (4, .int hi)] [] h n
  have L3 : ∀ (d i : Nat), i + d = K → (∀ x, x < i → (decide (lo ≤ it (a + x)) && decide (it (a + x) ≤ hi)) = true) → xv_V X mX7_holdsWithin Post 0 0 3 [(0, .ref s0), (1, .int (nI a)), (2, .int (nI K)), (3, .int lo), (4, .int hi), (5, .int (nI i))] [] h n := by
    intro d
    induction d using Nat.strongRecOn with
    | _ d ih =>
      intro i hi0 hall
      refine xi_iload (q := 5) dX7_holdsWithin_3 rfl rfl ?_
      refine xi_iload_n (q := 6) dX7_holdsWithin_5 rfl rfl ?_
      refine xi_icmp_ge (q := 9) (q2 := 34) dX7_holdsWithin_6 (by decide) rfl (fun c_6 => ?_) (fun c_6 => ?_)
      · have hiK : i = K := by have z := xn_leN c_6 (by omega) (by omega); omega
        refine xi_iconst (x := 1) (q := 35) dX7_holdsWithin_34 (by decide) rfl ?_
        refine xi_ret ⟨_, rfl, rfl, dX7_holdsWithin_35⟩ (Nat.zero_le _) (Nat.zero_le _) ?_
        exact xv_eqb1 hp (xn_allT (fun x hx => hall x (by omega)))
      · have hiK : i < K := xn_nleN c_6 (by omega) (by omega)
        refine xi_aload_n (q := 10) dX7_holdsWithin_9 rfl rfl ?_
        refine xi_iload_n (q := 11) dX7_holdsWithin_10 rfl rfl ?_
        refine xi_iload (q := 13) dX7_holdsWithin_11 rfl rfl ?_
        refine xi_iadd (q := 14) dX7_holdsWithin_13 rfl ?_
        refine xv_cV1 (q := 17) xm_X7_read ln_X7_36 dX7_holdsWithin_14 ⟨by omega, hS⟩ rfl ⟨(Nat.le_of_ble_eq_true rfl), (Nat.le_of_ble_eq_true rfl)⟩ (Nat.le_of_ble_eq_true rfl) ⟨rfl, rfl⟩ rfl (Nat.zero_le _) (Nat.zero_le _) ?_
        refine ⟨s0, th, la, sz, it, _, a + i, rfl, hs, hS, hI, xn_ixA (by omega) (by omega), ?_⟩
        refine xi_iload_n (q := 18) dX7_holdsWithin_17 rfl rfl ?_
        refine xi_iload (q := 20) dX7_holdsWithin_18 rfl rfl ?_
        refine xv_cS3 (q := 23) xm_X8_within ln_X7_32 dX7_holdsWithin_20 ⟨(Nat.le_of_ble_eq_true rfl), (Nat.le_of_ble_eq_true rfl)⟩ (Nat.le_of_ble_eq_true rfl) ⟨rfl, rfl⟩ rfl (Nat.zero_le _) (Nat.zero_le _) ?_
        refine ⟨_, _, _, rfl, ?_⟩
        refine xi_if_ne (q := 26) (q2 := 28) dX7_holdsWithin_23 (by decide) rfl (fun c_23 => ?_) (fun c_23 => ?_)
        · refine xi_iinc (y := nI (i + 1)) (q := 31) dX7_holdsWithin_28 rfl (xn_inc i) (Nat.le_of_ble_eq_true rfl) rfl ?_
          refine xi_goto (q := 3) dX7_holdsWithin_31 (by decide) ?_
          refine xv_weakS (lv' := [(0, .ref s0), (1, .int (nI a)), (2, .int (nI K)), (3, .int lo), (4, .int hi), (5, .int (nI (i + 1)))]) ⟨rfl, rfl, rfl, rfl, rfl, rfl, trivial⟩ ?_
          exact ih (d - 1) (by omega) (i + 1) (by omega) (fun x hx => by
            by_cases e : x = i
            · rw [e, Bool.and_eq_true, decide_eq_true_eq, decide_eq_true_eq]; exact xn_b1 c_23
            · exact hall x (by omega))
        · refine xi_iconst (x := 0) (q := 27) dX7_holdsWithin_26 (by decide) rfl ?_
          refine xi_ret ⟨_, rfl, rfl, dX7_holdsWithin_27⟩ (Nat.zero_le _) (Nat.zero_le _) ?_
          exact xv_eqb0 hp (fun z => xn_b0 (by first | exact c_23 | exact Decidable.of_not_not c_23) (by have y := xn_allI z i hiK; rw [Bool.and_eq_true, decide_eq_true_eq, decide_eq_true_eq] at y; exact y))
  refine xi_iconst (x := 0) (q := 1) dX7_holdsWithin_0 (by decide) rfl ?_
  refine xi_istore (q := 3) dX7_holdsWithin_1 (Nat.le_of_ble_eq_true rfl) rfl ?_
  refine xv_weakS (lv' := [(0, .ref s0), (1, .int (nI a)), (2, .int (nI K)), (3, .int lo), (4, .int hi), (5, .int (nI 0))]) ⟨rfl, rfl, rfl, rfl, rfl, rfl, trivial⟩ ?_
  exact L3 K 0 (by omega) (fun x hx => absurd hx (Nat.not_lt_zero x))

set_option maxRecDepth 20000 in
set_option maxHeartbeats 2000000 in
/-- take -/
theorem xm_X2_take : xv_K yX2_take mX2_take (fun as h n Post => ∃ (c0 : Nat) (kp : Int32) (nt : Int32) (bo : Int32) (g : Nat → Int32) (s0 : Nat) (th : Int32) (la : Int32) (sz : Int32) (it : Nat → Int32) (a : Nat), as = [.ref c0, .ref s0, .int (nI a)] ∧ (c0 + 1 < n) ∧ (h c0 = .inr (2, [.ref (c0 + 1), .int kp, .int nt, .int bo])) ∧ (h (c0 + 1) = .inl (.int, 48, .inl g)) ∧ (s0 + 1 < n) ∧ (h s0 = .inr (7, [.ref (s0 + 1), .int th, .int la, .int sz])) ∧ (h (s0 + 1) = .inl (.int, 60, .inl it)) ∧ (a + 48 ≤ 60) ∧ (c0 ≠ s0 ∧ c0 ≠ s0 + 1 ∧ c0 + 1 ≠ s0) ∧ (∀ h' : xv_H, h' (c0 + 1) = .inl (.int, 48, .inl fun j => it (a + j)) → (∀ x, x ≠ c0 + 1 → h' x = h x) → Post none h' n)) := by
  refine xv_entry (by decide +kernel) rfl (fun h => absurd h (by decide)) ?_
  rintro X _ h n Post ⟨c0, kp, nt, bo, g, s0, th, la, sz, it, a, rfl, hc, hO, hG, hs, hS, hI, haN, hne, hp⟩
  refine ⟨Nat.le_of_ble_eq_true rfl, ?_⟩
  show xv_V X mX2_take Post 0 0 0 [(0, .ref c0), (1, .ref s0), (2, .int (nI a))] [] h n
  have L2 : ∀ (d k : Nat) (g2 : Nat → Int32), k + d = 48 → (∀ j, j < k → g2 j = it (a + j)) → xv_V X mX2_take Post 0 0 2 [(0, .ref c0), (1, .ref s0), (2, .int (nI a)), (3, .int (nI k))] [] (va_up h (c0 + 1) (.inl (.int, 48, .inl g2))) n := by
    intro d
    induction d using Nat.strongRecOn with
    | _ d ih =>
      intro k g2 hk hg2
      refine xi_iload_n (q := 3) dX2_take_2 rfl rfl ?_
      refine xi_bipush (x := 48) (q := 5) dX2_take_3 (by decide) rfl ?_
      refine xi_icmp_ge (q := 8) (q2 := 27) dX2_take_5 (by decide) rfl (fun c_5 => ?_) (fun c_5 => ?_)
      · have hk2 : 48 ≤ k := xn_leN c_5 (by omega) (by omega)
        refine xv_norm (h' := va_up h (c0 + 1) (.inl (.int, 48, .inl fun j => it (a + j)))) (xv_nr (va_up_self _ _ _) (bx_uu _ _ _ _).symm (fun j hj => hg2 j (by omega))) ?_
        refine xi_vret ⟨rfl, dX2_take_27⟩ (Nat.zero_le _) (Nat.zero_le _) ?_
        exact hp _ (va_up_self _ _ _) (fun i hi => va_up_ne _ _ hi)
      · have hk2 : k < 48 := xn_nleN c_5 (by omega) (by omega)
        refine xi_aload_n (q := 9) dX2_take_8 rfl rfl ?_
        refine xi_getf (q := 12) dX2_take_9 fl_X2_9 ⟨by omega, (va_up_ne _ _ (by omega)).trans hO⟩ rfl rfl ?_
        refine xi_iload_n (q := 13) dX2_take_12 rfl rfl ?_
        refine xi_aload_n (q := 14) dX2_take_13 rfl rfl ?_
        refine xi_iload_n (q := 15) dX2_take_14 rfl rfl ?_
        refine xi_iload_n (q := 16) dX2_take_15 rfl rfl ?_
        refine xi_iadd (q := 17) dX2_take_16 rfl ?_
        refine xv_cV1 (q := 20) xm_X7_read ln_X2_15 dX2_take_17 ⟨by omega, (va_up_ne _ _ (by omega)).trans hS⟩ rfl ⟨(Nat.le_of_ble_eq_true rfl), (Nat.le_of_ble_eq_true rfl)⟩ (Nat.le_of_ble_eq_true rfl) ⟨rfl, rfl⟩ rfl (Nat.zero_le _) (Nat.zero_le _) ?_
        refine ⟨s0, th, la, sz, it, _, a + k, rfl, hs, (va_up_ne _ _ (by omega)).trans hS, (va_up_ne _ _ (by omega)).trans hI, xn_ixA (by omega) (by omega), ?_⟩
        refine xi_iast (q := 21) dX2_take_20 (xv_self (by omega)) (xv_ixN hk2 (by omega)) rfl ?_
        refine xi_iinc (y := nI (k + 1)) (q := 24) dX2_take_21 rfl (xn_inc k) (Nat.le_of_ble_eq_true rfl) rfl ?_
        refine xi_goto (q := 2) dX2_take_24 (by decide) ?_
        rw [bx_uu]
        refine xv_weakS (lv' := [(0, .ref c0), (1, .ref s0), (2, .int (nI a)), (3, .int (nI (k + 1)))]) ⟨rfl, rfl, rfl, rfl, trivial⟩ ?_
        exact ih (d - 1) (by omega) (k + 1) (upd g2 k (it (a + k))) (by omega) (fun j hj => by
          by_cases hjk : j = k
          · rw [hjk, pk_us]
          · rw [pk_un hjk]; exact hg2 j (by omega))
  refine xi_iconst (x := 0) (q := 1) dX2_take_0 (by decide) rfl ?_
  refine xi_istore_n (q := 2) dX2_take_1 (Nat.le_of_ble_eq_true rfl) rfl ?_
  refine xv_weakS (lv' := [(0, .ref c0), (1, .ref s0), (2, .int (nI a)), (3, .int (nI 0))]) ⟨rfl, rfl, rfl, rfl, trivial⟩ ?_
  have h5 := L2 48 0 g (by omega) (fun j hj => absurd hj (Nat.not_lt_zero j))
  rw [xv_upid hG] at h5
  exact h5

set_option maxRecDepth 20000 in
set_option maxHeartbeats 2000000 in
/-- build -/
theorem xm_X0_build : xv_K yX0_build mX0_build (fun as h n Post => ∃ (e : Nat) (s : Int32) (t : Int32) (g : Nat → Int32) (s0 : Nat) (th : Int32) (la : Int32) (sz : Int32) (it : Nat → Int32) (a : Nat), as = [.ref e, .ref s0, .int (nI a)] ∧ (e + 1 < n) ∧ (h e = .inr (0, [.ref (e + 1), .int s, .int t])) ∧ (h (e + 1) = .inl (.int, 11, .inl g)) ∧ (s0 + 1 < n) ∧ (h s0 = .inr (7, [.ref (s0 + 1), .int th, .int la, .int sz])) ∧ (h (s0 + 1) = .inl (.int, 60, .inl it)) ∧ (a + 11 ≤ 60) ∧ (e ≠ s0 ∧ e ≠ s0 + 1 ∧ e + 1 ≠ s0) ∧ (∀ h' : xv_H, h' e = .inr (0, [.ref (e + 1), .int 0, .int 1]) → h' (e + 1) = .inl (.int, 11, .inl fun j => it (a + j)) → (∀ x, x ≠ e → x ≠ e + 1 → h' x = h x) → Post none h' n)) := by
  refine xv_entry (by decide +kernel) rfl (fun h => absurd h (by decide)) ?_
  rintro X _ h n Post ⟨e, s, t, g, s0, th, la, sz, it, a, rfl, hc, hO, hG, hs, hS, hI, haN, hne, hp⟩
  refine ⟨Nat.le_of_ble_eq_true rfl, ?_⟩
  show xv_V X mX0_build Post 0 0 0 [(0, .ref e), (1, .ref s0), (2, .int (nI a))] [] h n
  have L2 : ∀ (d k : Nat) (g2 : Nat → Int32), k + d = 11 → (∀ j, j < k → g2 j = it (a + j)) → xv_V X mX0_build Post 0 0 2 [(0, .ref e), (1, .ref s0), (2, .int (nI a)), (3, .int (nI k))] [] (va_up h (e + 1) (.inl (.int, 11, .inl g2))) n := by
    intro d
    induction d using Nat.strongRecOn with
    | _ d ih =>
      intro k g2 hk hg2
      refine xi_iload_n (q := 3) dX0_build_2 rfl rfl ?_
      refine xi_bipush (x := 11) (q := 5) dX0_build_3 (by decide) rfl ?_
      refine xi_icmp_ge (q := 8) (q2 := 27) dX0_build_5 (by decide) rfl (fun c_5 => ?_) (fun c_5 => ?_)
      · have hk2 : 11 ≤ k := xn_leN c_5 (by omega) (by omega)
        refine xv_norm (h' := va_up h (e + 1) (.inl (.int, 11, .inl fun j => it (a + j)))) (xv_nr (va_up_self _ _ _) (bx_uu _ _ _ _).symm (fun j hj => hg2 j (by omega))) ?_
        refine xi_aload_n (q := 28) dX0_build_27 rfl rfl ?_
        refine xi_iconst (x := 0) (q := 29) dX0_build_28 (by decide) rfl ?_
        refine xi_putf (q := 32) dX0_build_29 fl_X0_21 ⟨by omega, (va_up_ne _ _ (by omega)).trans hO⟩ (Or.inl rfl) (fun _ => rfl) (fun _ => rfl) (Nat.le_of_ble_eq_true rfl) rfl ?_
        refine xi_aload_n (q := 33) dX0_build_32 rfl rfl ?_
        refine xi_iconst (x := 1) (q := 34) dX0_build_33 (by decide) rfl ?_
        refine xi_putf (q := 37) dX0_build_34 fl_X0_25 (xv_self (by omega)) (Or.inl rfl) (fun _ => rfl) (fun _ => rfl) (Nat.le_of_ble_eq_true rfl) rfl ?_
        refine xi_vret ⟨rfl, dX0_build_37⟩ (Nat.zero_le _) (Nat.zero_le _) ?_
        refine hp _ ?_ ?_ (fun x x1 x2 => ?_)
        · rw [bx_uu, va_up_self]; rfl
        · rw [bx_uu, va_up_ne _ _ (by omega), va_up_self]
        · rw [bx_uu, va_up_ne _ _ x1, va_up_ne _ _ x2]
      · have hk2 : k < 11 := xn_nleN c_5 (by omega) (by omega)
        refine xi_aload_n (q := 9) dX0_build_8 rfl rfl ?_
        refine xi_getf (q := 12) dX0_build_9 fl_X0_9 ⟨by omega, (va_up_ne _ _ (by omega)).trans hO⟩ rfl rfl ?_
        refine xi_iload_n (q := 13) dX0_build_12 rfl rfl ?_
        refine xi_aload_n (q := 14) dX0_build_13 rfl rfl ?_
        refine xi_iload_n (q := 15) dX0_build_14 rfl rfl ?_
        refine xi_iload_n (q := 16) dX0_build_15 rfl rfl ?_
        refine xi_iadd (q := 17) dX0_build_16 rfl ?_
        refine xv_cV1 (q := 20) xm_X7_read ln_X0_15 dX0_build_17 ⟨by omega, (va_up_ne _ _ (by omega)).trans hS⟩ rfl ⟨(Nat.le_of_ble_eq_true rfl), (Nat.le_of_ble_eq_true rfl)⟩ (Nat.le_of_ble_eq_true rfl) ⟨rfl, rfl⟩ rfl (Nat.zero_le _) (Nat.zero_le _) ?_
        refine ⟨s0, th, la, sz, it, _, a + k, rfl, hs, (va_up_ne _ _ (by omega)).trans hS, (va_up_ne _ _ (by omega)).trans hI, xn_ixA (by omega) (by omega), ?_⟩
        refine xi_iast (q := 21) dX0_build_20 (xv_self (by omega)) (xv_ixN hk2 (by omega)) rfl ?_
        refine xi_iinc (y := nI (k + 1)) (q := 24) dX0_build_21 rfl (xn_inc k) (Nat.le_of_ble_eq_true rfl) rfl ?_
        refine xi_goto (q := 2) dX0_build_24 (by decide) ?_
        rw [bx_uu]
        refine xv_weakS (lv' := [(0, .ref e), (1, .ref s0), (2, .int (nI a)), (3, .int (nI (k + 1)))]) ⟨rfl, rfl, rfl, rfl, trivial⟩ ?_
        exact ih (d - 1) (by omega) (k + 1) (upd g2 k (it (a + k))) (by omega) (fun j hj => by
          by_cases hjk : j = k
          · rw [hjk, pk_us]
          · rw [pk_un hjk]; exact hg2 j (by omega))
  refine xi_iconst (x := 0) (q := 1) dX0_build_0 (by decide) rfl ?_
  refine xi_istore_n (q := 2) dX0_build_1 (Nat.le_of_ble_eq_true rfl) rfl ?_
  refine xv_weakS (lv' := [(0, .ref e), (1, .ref s0), (2, .int (nI a)), (3, .int (nI 0))]) ⟨rfl, rfl, rfl, rfl, trivial⟩ ?_
  have h5 := L2 11 0 g (by omega) (fun j hj => absurd hj (Nat.not_lt_zero j))
  rw [xv_upid hG] at h5
  exact h5

def xs_rd1 (ci : Nat → Int32) (k : Nat) : Int32 := if ci k = -1 then 0 else 1
def xs_ap1 (ci g : Nat → Int32) (k : Nat) : Int32 := if ci k = -1 then 0 else xs_abs (g k - ci k)

set_option maxRecDepth 20000 in
set_option maxHeartbeats 2000000 in
/-- readable -/
theorem xm_X2_readable : xv_K yX2_readable mX2_readable (fun as h n Post => ∃ (c0 : Nat) (kp : Int32) (nt : Int32) (bo : Int32) (ci : Nat → Int32), as = [.ref c0] ∧ (c0 + 1 < n) ∧ (h c0 = .inr (2, [.ref (c0 + 1), .int kp, .int nt, .int bo])) ∧ (h (c0 + 1) = .inl (.int, 48, .inl ci)) ∧ Post (some (.int (xs_ps (xs_rd1 ci) 48))) h n) := by
  refine xv_entry (by decide +kernel) rfl (fun h => absurd h (by decide)) ?_
  rintro X _ h n Post ⟨c0, kp, nt, bo, ci, rfl, hc, hC, hN, hp⟩
  refine ⟨Nat.le_of_ble_eq_true rfl, ?_⟩
  show xv_V X mX2_readable Post 0 0 0 [(0, .ref c0)] [] h n
  have L4 : ∀ (d k : Nat), k + d = 48 → xv_V X mX2_readable Post 0 0 4 [(0, .ref c0), (1, .int (xs_ps (xs_rd1 ci) k)), (2, .int (nI k))] [] h n := by
    intro d
    induction d using Nat.strongRecOn with
    | _ d ih =>
      intro k hk
      refine xi_iload_n (q := 5) dX2_readable_4 rfl rfl ?_
      refine xi_bipush (x := 48) (q := 7) dX2_readable_5 (by decide) rfl ?_
      refine xi_icmp_ge (q := 10) (q2 := 34) dX2_readable_7 (by decide) rfl (fun c_7 => ?_) (fun c_7 => ?_)
      · have hk2 : k = 48 := by have z : 48 ≤ k := xn_leN c_7 (by omega) (by omega); omega
        subst hk2
        refine xi_iload_n (q := 35) dX2_readable_34 rfl rfl ?_
        refine xi_ret ⟨_, rfl, rfl, dX2_readable_35⟩ (Nat.zero_le _) (Nat.zero_le _) ?_
        exact hp
      · have hk2 : k < 48 := xn_nleN c_7 (by omega) (by omega)
        refine xi_iload_n (q := 11) dX2_readable_10 rfl rfl ?_
        refine xi_aload_n (q := 12) dX2_readable_11 rfl rfl ?_
        refine xi_getf (q := 15) dX2_readable_12 fl_X2_9 ⟨by omega, hC⟩ rfl rfl ?_
        refine xi_iload_n (q := 16) dX2_readable_15 rfl rfl ?_
        refine xi_iald (q := 17) dX2_readable_16 ⟨hc, hN⟩ (xv_ixN hk2 (by omega)) rfl ?_
        refine xi_iconst (x := (-1)) (q := 18) dX2_readable_17 (by decide) rfl ?_
        refine xi_icmp_eq (q := 21) (q2 := 25) dX2_readable_18 (by decide) rfl (fun c_18 => ?_) (fun c_18 => ?_)
        · refine xi_iconst (x := 0) (q := 26) dX2_readable_25 (by decide) rfl ?_
          refine xi_iadd (q := 27) dX2_readable_26 rfl ?_
          refine xi_istore_n (q := 28) dX2_readable_27 (Nat.le_of_ble_eq_true rfl) rfl ?_
          refine xi_iinc (y := nI (k + 1)) (q := 31) dX2_readable_28 rfl (xn_inc k) (Nat.le_of_ble_eq_true rfl) rfl ?_
          refine xi_goto (q := 4) dX2_readable_31 (by decide) ?_
          have e2 : xs_ps (xs_rd1 ci) (k + 1) = xs_ps (xs_rd1 ci) k + 0 := by show _ + xs_rd1 ci k = _; unfold xs_rd1; rw [if_pos c_18]
          refine xv_weakS (lv' := [(0, .ref c0), (1, .int (xs_ps (xs_rd1 ci) k + 0)), (2, .int (nI (k + 1)))]) ⟨rfl, rfl, rfl, trivial⟩ ?_
          rw [← e2]
          exact ih (d - 1) (by omega) (k + 1) (by omega)
        · refine xi_iconst (x := 1) (q := 22) dX2_readable_21 (by decide) rfl ?_
          refine xi_goto (q := 26) dX2_readable_22 (by decide) ?_
          refine xi_iadd (q := 27) dX2_readable_26 rfl ?_
          refine xi_istore_n (q := 28) dX2_readable_27 (Nat.le_of_ble_eq_true rfl) rfl ?_
          refine xi_iinc (y := nI (k + 1)) (q := 31) dX2_readable_28 rfl (xn_inc k) (Nat.le_of_ble_eq_true rfl) rfl ?_
          refine xi_goto (q := 4) dX2_readable_31 (by decide) ?_
          have e2 : xs_ps (xs_rd1 ci) (k + 1) = xs_ps (xs_rd1 ci) k + 1 := by show _ + xs_rd1 ci k = _; unfold xs_rd1; rw [if_neg c_18]
          refine xv_weakS (lv' := [(0, .ref c0), (1, .int (xs_ps (xs_rd1 ci) k + 1)), (2, .int (nI (k + 1)))]) ⟨rfl, rfl, rfl, trivial⟩ ?_
          rw [← e2]
          exact ih (d - 1) (by omega) (k + 1) (by omega)
  refine xi_iconst (x := 0) (q := 1) dX2_readable_0 (by decide) rfl ?_
  refine xi_istore_n (q := 2) dX2_readable_1 (Nat.le_of_ble_eq_true rfl) rfl ?_
  refine xi_iconst (x := 0) (q := 3) dX2_readable_2 (by decide) rfl ?_
  refine xi_istore_n (q := 4) dX2_readable_3 (Nat.le_of_ble_eq_true rfl) rfl ?_
  refine xv_weakS (lv' := [(0, .ref c0), (1, .int (xs_ps (xs_rd1 ci) 0)), (2, .int (nI 0))]) ⟨rfl, rfl, rfl, trivial⟩ ?_
  exact L4 48 0 (by omega)

set_option maxRecDepth 20000 in
set_option maxHeartbeats 2000000 in
/-- apart -/
theorem xm_X2_apart : xv_K yX2_apart mX2_apart (fun as h n Post => ∃ (c0 : Nat) (kp : Int32) (nt : Int32) (bo : Int32) (ci : Nat → Int32) (r : Nat) (g : Nat → Int32), as = [.ref c0, .ref r] ∧ (c0 + 1 < n) ∧ (h c0 = .inr (2, [.ref (c0 + 1), .int kp, .int nt, .int bo])) ∧ (h (c0 + 1) = .inl (.int, 48, .inl ci)) ∧ (r < n) ∧ (h r = .inl (.int, 48, .inl g)) ∧ Post (some (.int (xs_ps (xs_ap1 ci g) 48))) h n) := by
  refine xv_entry (by decide +kernel) rfl (fun h => absurd h (by decide)) ?_
  rintro X _ h n Post ⟨c0, kp, nt, bo, ci, r, g, rfl, hc, hC, hN, hr, hg, hp⟩
  refine ⟨Nat.le_of_ble_eq_true rfl, ?_⟩
  show xv_V X mX2_apart Post 0 0 0 [(0, .ref c0), (1, .ref r)] [] h n
  have L4 : ∀ (d k : Nat), k + d = 48 → xv_V X mX2_apart Post 0 0 4 [(0, .ref c0), (1, .ref r), (2, .int (xs_ps (xs_ap1 ci g) k)), (3, .int (nI k))] [] h n := by
    intro d
    induction d using Nat.strongRecOn with
    | _ d ih =>
      intro k hk
      refine xi_iload_n (q := 5) dX2_apart_4 rfl rfl ?_
      refine xi_bipush (x := 48) (q := 7) dX2_apart_5 (by decide) rfl ?_
      refine xi_icmp_ge (q := 10) (q2 := 48) dX2_apart_7 (by decide) rfl (fun c_7 => ?_) (fun c_7 => ?_)
      · have hk2 : k = 48 := by have z : 48 ≤ k := xn_leN c_7 (by omega) (by omega); omega
        subst hk2
        refine xi_iload_n (q := 49) dX2_apart_48 rfl rfl ?_
        refine xi_ret ⟨_, rfl, rfl, dX2_apart_49⟩ (Nat.zero_le _) (Nat.zero_le _) ?_
        exact hp
      · have hk2 : k < 48 := xn_nleN c_7 (by omega) (by omega)
        refine xi_iload_n (q := 11) dX2_apart_10 rfl rfl ?_
        refine xi_aload_n (q := 12) dX2_apart_11 rfl rfl ?_
        refine xi_alen (v := nI 48) (q := 13) dX2_apart_12 ⟨hr, hg⟩ rfl rfl ?_
        refine xi_icmp_ge (q := 16) (q2 := 48) dX2_apart_13 (by decide) rfl (fun c_13 => ?_) (fun c_13 => ?_)
        · exact absurd (xn_leN c_13 (by omega) (by omega)) (by omega)
        · refine xi_aload_n (q := 17) dX2_apart_16 rfl rfl ?_
          refine xi_getf (q := 20) dX2_apart_17 fl_X2_9 ⟨by omega, hC⟩ rfl rfl ?_
          refine xi_iload_n (q := 21) dX2_apart_20 rfl rfl ?_
          refine xi_iald (q := 22) dX2_apart_21 ⟨hc, hN⟩ (xv_ixN hk2 (by omega)) rfl ?_
          refine xi_iconst (x := (-1)) (q := 23) dX2_apart_22 (by decide) rfl ?_
          refine xi_icmp_eq (q := 26) (q2 := 42) dX2_apart_23 (by decide) rfl (fun c_23 => ?_) (fun c_23 => ?_)
          · refine xi_iinc (y := nI (k + 1)) (q := 45) dX2_apart_42 rfl (xn_inc k) (Nat.le_of_ble_eq_true rfl) rfl ?_
            refine xi_goto (q := 4) dX2_apart_45 (by decide) ?_
            have e2 : xs_ps (xs_ap1 ci g) (k + 1) = xs_ps (xs_ap1 ci g) k := by show _ + xs_ap1 ci g k = _; unfold xs_ap1; rw [if_pos c_23, Int32.add_zero]
            refine xv_weakS (lv' := [(0, .ref c0), (1, .ref r), (2, .int (xs_ps (xs_ap1 ci g) k)), (3, .int (nI (k + 1)))]) ⟨rfl, rfl, rfl, rfl, trivial⟩ ?_
            rw [← e2]
            exact ih (d - 1) (by omega) (k + 1) (by omega)
          · refine xi_iload_n (q := 27) dX2_apart_26 rfl rfl ?_
            refine xi_aload_n (q := 28) dX2_apart_27 rfl rfl ?_
            refine xi_iload_n (q := 29) dX2_apart_28 rfl rfl ?_
            refine xi_iald (q := 30) dX2_apart_29 ⟨hr, hg⟩ (xv_ixN hk2 (by omega)) rfl ?_
            refine xi_aload_n (q := 31) dX2_apart_30 rfl rfl ?_
            refine xi_getf (q := 34) dX2_apart_31 fl_X2_9 ⟨by omega, hC⟩ rfl rfl ?_
            refine xi_iload_n (q := 35) dX2_apart_34 rfl rfl ?_
            refine xi_iald (q := 36) dX2_apart_35 ⟨hc, hN⟩ (xv_ixN hk2 (by omega)) rfl ?_
            refine xi_isub (q := 37) dX2_apart_36 rfl ?_
            refine xi_mabs (q := 40) dX2_apart_37 ln_X2_21 (Nat.le_of_ble_eq_true rfl) (Nat.le_of_ble_eq_true rfl) (Nat.zero_le _) (Nat.zero_le _) rfl ?_
            refine xi_iadd (q := 41) dX2_apart_40 rfl ?_
            refine xi_istore_n (q := 42) dX2_apart_41 (Nat.le_of_ble_eq_true rfl) rfl ?_
            refine xi_iinc (y := nI (k + 1)) (q := 45) dX2_apart_42 rfl (xn_inc k) (Nat.le_of_ble_eq_true rfl) rfl ?_
            refine xi_goto (q := 4) dX2_apart_45 (by decide) ?_
            have e2 : xs_ps (xs_ap1 ci g) (k + 1) = xs_ps (xs_ap1 ci g) k + xs_abs (g k - ci k) := by show _ + xs_ap1 ci g k = _; unfold xs_ap1; rw [if_neg c_23]
            refine xv_weakS (lv' := [(0, .ref c0), (1, .ref r), (2, .int (xs_ps (xs_ap1 ci g) k + xs_abs (g k - ci k))), (3, .int (nI (k + 1)))]) ⟨rfl, rfl, rfl, rfl, trivial⟩ ?_
            rw [← e2]
            exact ih (d - 1) (by omega) (k + 1) (by omega)
  refine xi_iconst (x := 0) (q := 1) dX2_apart_0 (by decide) rfl ?_
  refine xi_istore_n (q := 2) dX2_apart_1 (Nat.le_of_ble_eq_true rfl) rfl ?_
  refine xi_iconst (x := 0) (q := 3) dX2_apart_2 (by decide) rfl ?_
  refine xi_istore_n (q := 4) dX2_apart_3 (Nat.le_of_ble_eq_true rfl) rfl ?_
  refine xv_weakS (lv' := [(0, .ref c0), (1, .ref r), (2, .int (xs_ps (xs_ap1 ci g) 0)), (3, .int (nI 0))]) ⟨rfl, rfl, rfl, rfl, trivial⟩ ?_
  exact L4 48 0 (by omega)
