def xs_i (v a b : Int32) : Bool := decide (a ≤ v ∧ v ≤ b)
def xs_fn (σ : xs_Sg) (x : Int32) : Int32 × xs_Sg := (-1000010 - x, xs_fd σ x)
def xs_an (σ : xs_Sg) (x : Int32) : Int32 × xs_Sg := (x, xs_fd σ 0)
def xs_onE (σ : xs_Sg) (p : Int32) (g : Bool) (r : Nat → Int32 × xs_Sg) : Int32 × xs_Sg := if (xs_i p 0 5 && g) = true then (if σ 6 p.toNatClampNeg 0 = 0 then xs_fn σ 1 else r p.toNatClampNeg) else (-1000001, σ)
def xs_onP (σ : xs_Sg) (p : Int32) (g : Bool) (r : Nat → Int32 × xs_Sg) : Int32 × xs_Sg := if (xs_i p 0 7 && g) = true then (if σ 0 p.toNatClampNeg 0 = 0 then xs_fn σ 1 else r p.toNatClampNeg) else (-1000001, σ)
def xs_D (h : xv_H) (n : Nat) (Post : xv_P) (R : Int32 × xs_Sg) : Prop := ∀ h' : xv_H, xs_S h' R.2 → (∀ i, 83 ≤ i → h' i = h i) → Post (some (.int R.1)) h' n
theorem xs_fin {h : xv_H} {n : Nat} {Post : xv_P} {R : Int32 × xs_Sg} {x : Int32} {σ' : xs_Sg} (hp : xs_D h n Post R) (e : R = (x, σ')) : ∀ h' : xv_H, xs_S h' σ' → (∀ i, 83 ≤ i → h' i = h i) → Post (some (.int x)) h' n := by
  subst e
  exact hp
theorem xn_pk {p : Int32} {m : Nat} (hm : m < 2147483648) (h : 0 ≤ p ∧ p ≤ nI m) : ∃ k, k ≤ m ∧ p = nI k := by
  rw [xn_le, xn_le, xn_NI hm, show (0 : Int32).toInt = 0 from rfl] at h
  have e := xn_ofI h.1
  refine ⟨p.toNatClampNeg, ?_, e⟩
  show p.toInt.toNat ≤ m
  omega
theorem xs_kk0 {k : Nat} (h : k < 2147483648) : (nI k).toNatClampNeg = k := nI_clamp h
theorem xs_ai {k N b : Nat} (hk : k < N) : va_rf ((fun k => if k < N then some (b + 2 * k) else none) k) = .ref (b + 2 * k) := by
  show va_rf (if k < N then some (b + 2 * k) else none) = _
  rw [if_pos hk]
  rfl
def xs_V (σ : xs_Sg) : Prop :=
  (∀ k, k < 8 → σ 0 k 0 = 0 ∨ σ 0 k 0 = 1) ∧ (∀ k, k < 8 → ¬ σ 0 k 0 = 0 → (0 ≤ (σ 2 k 0).toInt ∧ (σ 2 k 0).toInt ≤ 60) ∧ (σ 1 k 0 = 0 ∨ σ 1 k 0 = 1 ∨ σ 1 k 0 = 2)) ∧
  (∀ k, k < 6 → σ 6 k 0 = 0 ∨ σ 6 k 0 = 1) ∧ (∀ k, k < 6 → ¬ σ 6 k 0 = 0 → xs_ok (σ 4 k) ∧ 0 ≤ (σ 5 k 0).toInt ∧ (σ 5 k 0).toInt ≤ 12) ∧
  (∀ k, k < 6 → σ 7 k 0 = 0 ∨ σ 7 k 0 = 1) ∧ (∀ k, k < 6 → ¬ σ 7 k 0 = 0 → ¬ σ 6 k 0 = 0 ∧ (-6 ≤ (σ 8 k 0).toInt ∧ (σ 8 k 0).toInt ≤ 6) ∧ (0 ≤ (σ 9 k 0).toInt ∧ (σ 9 k 0).toInt ≤ 2000) ∧ ∀ j, j < 48 → -1 ≤ (σ 10 k j).toInt ∧ (σ 10 k j).toInt ≤ 5000) ∧
  (∃ N, N ≤ 10 ∧ σ 11 0 0 = nI N) ∧ (∃ N, N ≤ 16 ∧ σ 14 0 0 = nI N) ∧ 0 ≤ (σ 13 0 0).toInt

set_option maxRecDepth 20000 in
set_option maxHeartbeats 2000000 in
/-- found -/
theorem xm_X8_found : xv_K yX8_found mX8_found (fun as h n Post => ∃ (σ : xs_Sg) (x : Int32), as = [.ref 0, .int x] ∧ (xs_S h σ) ∧ (83 ≤ n) ∧ (∀ h' : xv_H, xs_S h' (xs_fd σ x) → (∀ i, i ≠ 0 → h' i = h i) → Post (some (.int (-1000010 - x))) h' n)) := by
  refine xv_entry (by decide +kernel) rfl (fun h => absurd h (by decide)) ?_
  rintro X _ h n Post ⟨σ, x, rfl, hS, h83, hp⟩
  refine ⟨Nat.le_of_ble_eq_true rfl, ?_⟩
  show xv_V X mX8_found Post 0 0 0 [(0, .ref 0), (1, .int x)] [] h n
  refine xi_aload_n (q := 1) dX8_found_0 rfl rfl ?_
  refine xi_iload_n (q := 2) dX8_found_1 rfl rfl ?_
  refine xi_putf (q := 5) dX8_found_2 fl_X8_344 ⟨by omega, hS.1.1⟩ (Or.inl rfl) (fun _ => rfl) (fun _ => rfl) (Nat.le_of_ble_eq_true rfl) rfl ?_
  refine xi_ldcw (q := 8) dX8_found_5 kc_X8_353 rfl ?_
  refine xi_iload_n (q := 9) dX8_found_8 rfl rfl ?_
  refine xi_isub (q := 10) dX8_found_9 rfl ?_
  refine xi_ret ⟨_, rfl, rfl, dX8_found_10⟩ (Nat.zero_le _) (Nat.zero_le _) ?_
  exact hp _ (xs_Sfd hS (va_up_self _ _ _) (fun i hi => va_up_ne _ _ hi)) (fun i hi => va_up_ne _ _ hi)

set_option maxRecDepth 20000 in
set_option maxHeartbeats 2000000 in
/-- answered -/
theorem xm_X8_answered : xv_K yX8_answered mX8_answered (fun as h n Post => ∃ (σ : xs_Sg) (x : Int32), as = [.ref 0, .int x] ∧ (xs_S h σ) ∧ (83 ≤ n) ∧ (∀ h' : xv_H, xs_S h' (xs_fd σ 0) → (∀ i, i ≠ 0 → h' i = h i) → Post (some (.int x)) h' n)) := by
  refine xv_entry (by decide +kernel) rfl (fun h => absurd h (by decide)) ?_
  rintro X _ h n Post ⟨σ, x, rfl, hS, h83, hp⟩
  refine ⟨Nat.le_of_ble_eq_true rfl, ?_⟩
  show xv_V X mX8_answered Post 0 0 0 [(0, .ref 0), (1, .int x)] [] h n
  refine xi_aload_n (q := 1) dX8_answered_0 rfl rfl ?_
  refine xi_iconst (x := 0) (q := 2) dX8_answered_1 (by decide) rfl ?_
  refine xi_putf (q := 5) dX8_answered_2 fl_X8_344 ⟨by omega, hS.1.1⟩ (Or.inl rfl) (fun _ => rfl) (fun _ => rfl) (Nat.le_of_ble_eq_true rfl) rfl ?_
  refine xi_iload_n (q := 6) dX8_answered_5 rfl rfl ?_
  refine xi_ret ⟨_, rfl, rfl, dX8_answered_6⟩ (Nat.zero_le _) (Nat.zero_le _) ?_
  exact hp _ (xs_Sfd hS (va_up_self _ _ _) (fun i hi => va_up_ne _ _ hi)) (fun i hi => va_up_ne _ _ hi)

set_option maxRecDepth 20000 in
set_option maxHeartbeats 2000000 in
/-- engineAt -/
theorem xm_X8_engineAt : xv_K yX8_engineAt mX8_engineAt (fun as h n Post => ∃ (σ : xs_Sg) (k : Nat), as = [.ref 0, .int (nI k)] ∧ (xs_S h σ) ∧ (83 ≤ n) ∧ (k < 6) ∧ ((¬ σ 6 k 0 = 0 → Post (some (.ref (59 + 2 * k))) h n) ∧ (σ 6 k 0 = 0 → Post (some .null) h n))) := by
  refine xv_entry (by decide +kernel) rfl (fun h => absurd h (by decide)) ?_
  rintro X _ h n Post ⟨σ, k, rfl, hS, h83, hk, hp⟩
  refine ⟨Nat.le_of_ble_eq_true rfl, ?_⟩
  show xv_V X mX8_engineAt Post 0 0 0 [(0, .ref 0), (1, .int (nI k))] [] h n
  refine xi_iload_n (q := 1) dX8_engineAt_0 rfl rfl ?_
  refine xv_cS1 (q := 4) xm_X8_isPlace ln_X8_125 dX8_engineAt_1 ⟨(Nat.le_of_ble_eq_true rfl), (Nat.le_of_ble_eq_true rfl)⟩ (Nat.le_of_ble_eq_true rfl) ⟨rfl, rfl⟩ rfl (Nat.zero_le _) (Nat.zero_le _) ?_
  refine ⟨_, rfl, ?_⟩
  refine xi_if_ne (q := 7) (q2 := 9) dX8_engineAt_4 (by decide) rfl (fun c_4 => ?_) (fun c_4 => ?_)
  · refine xi_aload_n (q := 10) dX8_engineAt_9 rfl rfl ?_
    refine xi_getf (q := 13) dX8_engineAt_10 fl_X8_17 ⟨by omega, hS.1.1⟩ rfl rfl ?_
    refine xi_iload_n (q := 14) dX8_engineAt_13 rfl rfl ?_
    refine xi_aald (q := 15) dX8_engineAt_14 ⟨by omega, hS.1.2.2.1⟩ rfl (xv_ixN hk (by omega)) (xs_ai hk) rfl ?_
    refine xi_astore_n (q := 16) dX8_engineAt_15 (Nat.le_of_ble_eq_true rfl) rfl ?_
    refine xi_aload_n (q := 17) dX8_engineAt_16 rfl rfl ?_
    refine xi_ifnull_r (q := 20) dX8_engineAt_17 rfl ?_
    refine xi_aload_n (q := 21) dX8_engineAt_20 rfl rfl ?_
    refine xi_getf (q := 24) dX8_engineAt_21 fl_X8_159 ⟨by omega, (hS.2.2.1 k hk).1⟩ rfl rfl ?_
    refine xi_if_eq (q := 27) (q2 := 31) dX8_engineAt_24 (by decide) rfl (fun c_24 => ?_) (fun c_24 => ?_)
    · have hz : σ 6 k 0 = 0 := c_24
      refine xi_null (q := 32) dX8_engineAt_31 rfl ?_
      refine xi_ret ⟨⟨_, rfl⟩, dX8_engineAt_32⟩ (Nat.zero_le _) (Nat.zero_le _) ?_
      exact hp.2 hz
    · have hz : ¬ σ 6 k 0 = 0 := c_24
      refine xi_aload_n (q := 28) dX8_engineAt_27 rfl rfl ?_
      refine xi_goto (q := 32) dX8_engineAt_28 (by decide) ?_
      refine xi_ret ⟨⟨_, rfl⟩, dX8_engineAt_32⟩ (Nat.zero_le _) (Nat.zero_le _) ?_
      exact hp.1 hz
  · exact absurd (⟨by rw [xn_le, xn_NI (by omega), show (0 : Int32).toInt = 0 from rfl]; omega, by rw [xn_le, xn_NI (by omega), show (5 : Int32).toInt = 5 from rfl]; omega⟩ : 0 ≤ nI k ∧ nI k ≤ 5) (xn_b0 (by first | exact c_4 | exact Decidable.of_not_not c_4))

set_option maxRecDepth 20000 in
set_option maxHeartbeats 2000000 in
/-- sheetAt -/
theorem xm_X8_sheetAt : xv_K yX8_sheetAt mX8_sheetAt (fun as h n Post => ∃ (σ : xs_Sg) (k : Nat), as = [.ref 0, .int (nI k)] ∧ (xs_S h σ) ∧ (83 ≤ n) ∧ (k < 8) ∧ ((¬ σ 0 k 0 = 0 → Post (some (.ref (43 + 2 * k))) h n) ∧ (σ 0 k 0 = 0 → Post (some .null) h n))) := by
  refine xv_entry (by decide +kernel) rfl (fun h => absurd h (by decide)) ?_
  rintro X _ h n Post ⟨σ, k, rfl, hS, h83, hk, hp⟩
  refine ⟨Nat.le_of_ble_eq_true rfl, ?_⟩
  show xv_V X mX8_sheetAt Post 0 0 0 [(0, .ref 0), (1, .int (nI k))] [] h n
  refine xi_iload_n (q := 1) dX8_sheetAt_0 rfl rfl ?_
  refine xi_iconst (x := 0) (q := 2) dX8_sheetAt_1 (by decide) rfl ?_
  refine xi_bipush (x := 7) (q := 4) dX8_sheetAt_2 (by decide) rfl ?_
  refine xv_cS3 (q := 7) xm_X8_within ln_X8_77 dX8_sheetAt_4 ⟨(Nat.le_of_ble_eq_true rfl), (Nat.le_of_ble_eq_true rfl)⟩ (Nat.le_of_ble_eq_true rfl) ⟨rfl, rfl⟩ rfl (Nat.zero_le _) (Nat.zero_le _) ?_
  refine ⟨_, _, _, rfl, ?_⟩
  refine xi_if_ne (q := 10) (q2 := 12) dX8_sheetAt_7 (by decide) rfl (fun c_7 => ?_) (fun c_7 => ?_)
  · refine xi_aload_n (q := 13) dX8_sheetAt_12 rfl rfl ?_
    refine xi_getf (q := 16) dX8_sheetAt_13 fl_X8_11 ⟨by omega, hS.1.1⟩ rfl rfl ?_
    refine xi_iload_n (q := 17) dX8_sheetAt_16 rfl rfl ?_
    refine xi_aald (q := 18) dX8_sheetAt_17 ⟨by omega, hS.1.2.1⟩ rfl (xv_ixN hk (by omega)) (xs_ai hk) rfl ?_
    refine xi_astore_n (q := 19) dX8_sheetAt_18 (Nat.le_of_ble_eq_true rfl) rfl ?_
    refine xi_aload_n (q := 20) dX8_sheetAt_19 rfl rfl ?_
    refine xi_ifnull_r (q := 23) dX8_sheetAt_20 rfl ?_
    refine xi_aload_n (q := 24) dX8_sheetAt_23 rfl rfl ?_
    refine xi_getf (q := 27) dX8_sheetAt_24 fl_X8_118 ⟨by omega, (hS.2.1 k hk).1⟩ rfl rfl ?_
    refine xi_if_eq (q := 30) (q2 := 34) dX8_sheetAt_27 (by decide) rfl (fun c_27 => ?_) (fun c_27 => ?_)
    · have hz : σ 0 k 0 = 0 := c_27
      refine xi_null (q := 35) dX8_sheetAt_34 rfl ?_
      refine xi_ret ⟨⟨_, rfl⟩, dX8_sheetAt_35⟩ (Nat.zero_le _) (Nat.zero_le _) ?_
      exact hp.2 hz
    · have hz : ¬ σ 0 k 0 = 0 := c_27
      refine xi_aload_n (q := 31) dX8_sheetAt_30 rfl rfl ?_
      refine xi_goto (q := 35) dX8_sheetAt_31 (by decide) ?_
      refine xi_ret ⟨⟨_, rfl⟩, dX8_sheetAt_35⟩ (Nat.zero_le _) (Nat.zero_le _) ?_
      exact hp.1 hz
  · exact absurd (⟨by rw [xn_le, xn_NI (by omega), show (0 : Int32).toInt = 0 from rfl]; omega, by rw [xn_le, xn_NI (by omega), show (7 : Int32).toInt = 7 from rfl]; omega⟩ : 0 ≤ nI k ∧ nI k ≤ 7) (xn_b0 (by first | exact c_7 | exact Decidable.of_not_not c_7))

