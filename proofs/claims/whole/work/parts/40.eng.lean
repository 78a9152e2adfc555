def xs_T0 (j : Nat) : Int32 := ([0, 10, 0, -20, 0, -20, 1, 20, 1, 1, 0] : List Int32).getD j 0
def xs_T1 (j : Nat) : Int32 := ([20, 200, 11, 20, 100, 50, 100, 200, 100, 100, 500] : List Int32).getD j 0
def xs_T2 (j : Nat) : Int32 := ([0, -1, -2, -3, 1, 2, 3, 0, 0, 0, 0, 0, 0] : List Int32).getD j 0
def xs_T3 (j : Nat) : Int32 := ([0, 0, 0, 0, 0, 0, 0, 5, 10, 20, 0, 0, 0] : List Int32).getD j 0
def xs_T4 (j : Nat) : Int32 := ([0, 0, 0, 0, 0, 0, 0, 0, 0, 0, 20, 50, 100] : List Int32).getD j 0
theorem xv_eqr {Post : xv_P} {h : xv_H} {n : Nat} {a b : Int32} (hp : Post (some (.int a)) h n) (e : b = a) : Post (some (.int b)) h n := e ▸ hp
theorem xv_eqb {Post : xv_P} {h : xv_H} {n : Nat} {p q : Prop} [Decidable p] [Decidable q] (hp : Post (some (.int (if p then 1 else 0))) h n) (e : q ↔ p) : Post (some (.int (if q then 1 else 0))) h n := by
  by_cases hq : q
  · rw [if_pos hq]; rw [if_pos (e.mp hq)] at hp; exact hp
  · rw [if_neg hq]; rw [if_neg (fun z => hq (e.mpr z))] at hp; exact hp
theorem xv_eqb1 {Post : xv_P} {h : xv_H} {n : Nat} {p : Prop} [Decidable p] (hp : Post (some (.int (if p then 1 else 0))) h n) (e : p) : Post (some (.int 1)) h n := by rw [if_pos e] at hp; exact hp
theorem xv_eqb0 {Post : xv_P} {h : xv_H} {n : Nat} {p : Prop} [Decidable p] (hp : Post (some (.int (if p then 1 else 0))) h n) (e : ¬ p) : Post (some (.int 0)) h n := by rw [if_neg e] at hp; exact hp
theorem xn_b0 {p : Prop} [Decidable p] (h : (if p then (1 : Int32) else 0) = 0) : ¬ p := fun z => by rw [if_pos z] at h; exact absurd h (by decide)
theorem xn_b1 {p : Prop} [Decidable p] (h : ¬ (if p then (1 : Int32) else 0) = 0) : p := Decidable.byContradiction fun z => h (if_neg z)
theorem xn_nb {p : Prop} [Decidable p] : narrow .boolean (.int (if p then 1 else 0)) = .int (if p then 1 else 0) := by split <;> rfl
theorem xn_i0 (s : Int32) : ∀ m : Nat, ¬ s < 0 → s.toInt < m → ∃ j, j < m ∧ s = nI j := fun m h0 h1 => by
  rw [xn_lt, show (0 : Int32).toInt = 0 from rfl] at h0
  have hb := xn_b s
  refine ⟨s.toInt.toNat, by omega, ?_⟩
  rw [xn_eq, xn_NI (by omega)]
  omega
theorem xn_T13 {f : Nat → Int32} {g : Int32 → Int32} (ht : ∀ j : Fin 13, f j.1 = g (nI j.1)) {s : Int32} (h0 : ¬ s < 0) (h1 : ¬ 13 ≤ s) : xv_ix s 13 s.toNatClampNeg ∧ f s.toNatClampNeg = g s := by
  rw [xn_le, show (13 : Int32).toInt = 13 from rfl] at h1
  obtain ⟨j, hj, rfl⟩ := xn_i0 s 13 h0 (by omega)
  rw [nI_clamp (by omega)]
  exact ⟨xv_ixN hj (by omega), ht ⟨j, hj⟩⟩
theorem xn_lateT : ∀ j : Fin 13, xs_T2 j.1 = xs_late (nI j.1) := by decide +kernel
theorem xn_leakT : ∀ j : Fin 13, xs_T3 j.1 = xs_leak (nI j.1) := by decide +kernel
theorem xn_chkT : ∀ j : Fin 13, xs_T4 j.1 = xs_chk (nI j.1) := by decide +kernel
theorem xn_lit (k : Nat) (h : k < 2147483648) : (OfNat.ofNat k : Int32).toInt = k := nI_toInt h
theorem xn_late0 {s : Int32} (h : s < 0 ∨ 13 ≤ s) : 0 = xs_late s := by
  rw [xn_lt, xn_le, show (0 : Int32).toInt = 0 from rfl, show (13 : Int32).toInt = 13 from rfl] at h
  unfold xs_late
  rw [if_neg (by rw [xn_le, xn_le, show (1 : Int32).toInt = 1 from rfl, show (3 : Int32).toInt = 3 from rfl]; omega), if_neg (by rw [xn_le, xn_le, show (4 : Int32).toInt = 4 from rfl, show (6 : Int32).toInt = 6 from rfl]; omega)]
theorem xn_leak0 {s : Int32} (h : s < 0 ∨ 13 ≤ s) : 0 = xs_leak s := by
  unfold xs_leak
  rw [if_neg (by rintro rfl; revert h; decide), if_neg (by rintro rfl; revert h; decide), if_neg (by rintro rfl; revert h; decide)]
theorem xn_chk0 {s : Int32} (h : s < 0 ∨ 13 ≤ s) : 0 = xs_chk s := by
  unfold xs_chk
  rw [if_neg (by rintro rfl; revert h; decide), if_neg (by rintro rfl; revert h; decide), if_neg (by rintro rfl; revert h; decide)]
theorem xn_nz {r : Int32} (h0 : 0 < r) (h1 : r ≤ 20) : ¬ 400000 * r = 0 := fun e => by
  rw [xn_lt, show (0 : Int32).toInt = 0 from rfl] at h0
  rw [xn_le, show (20 : Int32).toInt = 20 from rfl] at h1
  have h2 : (400000 * r).toInt = 400000 * r.toInt := xn_mul (by rw [show (400000 : Int32).toInt = 400000 from rfl]; omega) (by rw [show (400000 : Int32).toInt = 400000 from rfl]; omega)
  rw [e, show (0 : Int32).toInt = 0 from rfl] at h2
  omega
theorem xn_pis0 {r k : Int32} (h0 : ¬ 0 < r) (h : 0 ≤ r) : (10000 - xs_cos k) / 20 = xs_pis r k := by
  have : r = 0 := by
    rw [xn_lt] at h0
    rw [xn_le] at h
    rw [xn_eq]
    omega
  unfold xs_pis
  rw [if_pos this, Int32.add_zero]
theorem xn_pis1 {r k : Int32} (h0 : 0 < r) : (10000 - xs_cos k) / 20 + xs_cos (k - 12) * xs_cos (k - 12) / (400000 * r) = xs_pis r k := by
  unfold xs_pis
  rw [if_neg (fun z => by rw [z] at h0; exact absurd h0 (by decide))]
theorem xn_cl (p x : Int32) : (if 0 < (if x < p then x else p) then (if x < p then x else p) else 0) = xs_cl p x := by
  unfold xs_cl
  generalize (if x < p then x else p) = m
  by_cases h : m < 0
  · rw [if_pos h, if_neg (fun z => by rw [xn_lt] at h z; omega)]
  · rw [if_neg h]
    by_cases h2 : 0 < m
    · rw [if_pos h2]
    · rw [if_neg h2, xn_eq]
      rw [xn_lt] at h h2
      omega
def xs_isN (which v : Int32) : Prop := (0 ≤ which ∧ which ≤ 10) ∧ ¬ (which = 0 ∧ ¬ v = 0 ∧ v < 4) ∧ xs_T0 which.toNatClampNeg ≤ v ∧ v ≤ xs_T1 which.toNatClampNeg
def xs_isNb (which v : Int32) : Bool := (decide (0 ≤ which) && decide (which ≤ 10)) && (!(decide (which = 0) && !(decide (v = 0)) && decide (v < 4)) && (decide (xs_T0 which.toNatClampNeg ≤ v) && decide (v ≤ xs_T1 which.toNatClampNeg)))
theorem xn_isN (which v : Int32) : xs_isNb which v = true ↔ xs_isN which v := by
  unfold xs_isNb xs_isN
  simp only [Bool.and_eq_true, decide_eq_true_eq, Bool.not_eq_true', Bool.and_eq_false_iff, decide_eq_false_iff_not, Bool.not_eq_false']
  constructor
  · rintro ⟨a, b, c⟩
    exact ⟨a, fun ⟨x, y, z⟩ => by rcases b with (b | b) | b <;> simp_all, c⟩
  · rintro ⟨a, b, c⟩
    refine ⟨a, ?_, c⟩
    by_cases h1 : which = 0
    · by_cases h2 : v = 0
      · exact Or.inl (Or.inr h2)
      · exact Or.inr (fun h3 => b ⟨h1, h2, h3⟩)
    · exact Or.inl (Or.inl h1)
def xs_nar (lane v : Int32) : Int32 := if lane = 0 then v.toInt8.toInt32 else if lane = 1 then v.toInt16.toInt32 else v
def xs_all (f : Nat → Bool) : Nat → Bool
  | 0 => true
  | k + 1 => xs_all f k && f k
set_option maxRecDepth 20000 in
set_option maxHeartbeats 2000000 in
/-- within -/
theorem xm_X8_within : xv_K yX8_within mX8_within (fun as h n Post => ∃ (v : Int32) (a : Int32) (b : Int32), as = [.int v, .int a, .int b] ∧ Post (some (.int (if a ≤ v ∧ v ≤ b then 1 else 0))) h n) := by
  refine xv_entry (by decide +kernel) rfl (fun h => absurd h (by decide)) ?_
  rintro X _ h n Post ⟨v, a, b, rfl, hp⟩
  refine ⟨Nat.le_of_ble_eq_true rfl, ?_⟩
  show xv_V X mX8_within Post 0 0 0 [(0, .int v), (1, .int a), (2, .int b)] [] h n
  refine xi_iload_n (q := 1) dX8_within_0 rfl rfl ?_
  refine xi_iload_n (q := 2) dX8_within_1 rfl rfl ?_
  refine xi_icmp_lt (q := 5) (q2 := 14) dX8_within_2 (by decide) rfl (fun c_2 => ?_) (fun c_2 => ?_)
  · refine xi_iconst (x := 0) (q := 15) dX8_within_14 (by decide) rfl ?_
    refine xi_ret ⟨_, rfl, rfl, dX8_within_15⟩ (Nat.zero_le _) (Nat.zero_le _) ?_
    (split at hp <;> first | exact hp | (exfalso; simp only [xn_lt, xn_le] at *; omega))
  · refine xi_iload_n (q := 6) dX8_within_5 rfl rfl ?_
    refine xi_iload_n (q := 7) dX8_within_6 rfl rfl ?_
    refine xi_icmp_gt (q := 10) (q2 := 14) dX8_within_7 (by decide) rfl (fun c_7 => ?_) (fun c_7 => ?_)
    · refine xi_iconst (x := 0) (q := 15) dX8_within_14 (by decide) rfl ?_
      refine xi_ret ⟨_, rfl, rfl, dX8_within_15⟩ (Nat.zero_le _) (Nat.zero_le _) ?_
      (split at hp <;> first | exact hp | (exfalso; simp only [xn_lt, xn_le] at *; omega))
    · refine xi_iconst (x := 1) (q := 11) dX8_within_10 (by decide) rfl ?_
      refine xi_goto (q := 15) dX8_within_11 (by decide) ?_
      refine xi_ret ⟨_, rfl, rfl, dX8_within_15⟩ (Nat.zero_le _) (Nat.zero_le _) ?_
      (split at hp <;> first | exact hp | (exfalso; simp only [xn_lt, xn_le] at *; omega))

set_option maxRecDepth 20000 in
set_option maxHeartbeats 2000000 in
/-- cosine -/
theorem xm_X8_cosine : xv_K yX8_cosine mX8_cosine (fun as h n Post => ∃ (k : Int32), as = [.int k] ∧ Post (some (.int (xs_cos k))) h n) := by
  refine xv_entry (by decide +kernel) rfl (fun h => absurd h (by decide)) ?_
  rintro X _ h n Post ⟨k, rfl, hp⟩
  refine ⟨Nat.le_of_ble_eq_true rfl, ?_⟩
  show xv_V X mX8_cosine Post 0 0 0 [(0, .int k)] [] h n
  refine xi_iload_n (q := 1) dX8_cosine_0 rfl rfl ?_
  refine xi_bipush (x := 48) (q := 3) dX8_cosine_1 (by decide) rfl ?_
  refine xi_irem (q := 4) dX8_cosine_3 (by decide) rfl ?_
  refine xi_istore_n (q := 5) dX8_cosine_4 (Nat.le_of_ble_eq_true rfl) rfl ?_
  refine xi_gets (j := 5) (q := 8) dX8_cosine_5 rfl gs_X8_354 rfl ?_
  refine xi_iload_n (q := 9) dX8_cosine_8 rfl rfl ?_
  refine xi_if_ge (q := 12) (q2 := 19) dX8_cosine_9 (by decide) rfl (fun c9 => ?_) (fun c9 => ?_)
  · have c9 : 0 ≤ xs_rem k 48 := c9
    refine xi_iload_n (q := 20) dX8_cosine_19 rfl rfl ?_
    refine xi_roald (w := (48, xs_cT)) (q := 21) dX8_cosine_20 rfl ⟨(by have z := xn_rndin k; unfold xs_rnd at z; rw [if_neg (fun w => by rw [xn_lt] at w; rw [xn_le] at c9; omega)] at z; exact z), rfl⟩ rfl rfl ?_
    refine xi_ret ⟨_, rfl, rfl, dX8_cosine_21⟩ (Nat.zero_le _) (Nat.zero_le _) ?_
    exact xv_eqr hp (by unfold xs_cos xs_rnd; rw [if_neg (fun w => by rw [xn_lt] at w; rw [xn_le] at c9; omega)]; rfl)
  · have c9 : ¬ 0 ≤ xs_rem k 48 := c9
    refine xi_iload_n (q := 13) dX8_cosine_12 rfl rfl ?_
    refine xi_bipush (x := 48) (q := 15) dX8_cosine_13 (by decide) rfl ?_
    refine xi_iadd (q := 16) dX8_cosine_15 rfl ?_
    refine xi_goto (q := 20) dX8_cosine_16 (by decide) ?_
    refine xi_roald (w := (48, xs_cT)) (q := 21) dX8_cosine_20 rfl ⟨(by have z := xn_rndin k; unfold xs_rnd at z; rw [if_pos (by rw [xn_lt]; rw [xn_le] at c9; exact Int.not_le.mp c9)] at z; exact z), rfl⟩ rfl rfl ?_
    refine xi_ret ⟨_, rfl, rfl, dX8_cosine_21⟩ (Nat.zero_le _) (Nat.zero_le _) ?_
    exact xv_eqr hp (by unfold xs_cos xs_rnd; rw [if_pos (by rw [xn_lt]; rw [xn_le] at c9; exact Int.not_le.mp c9)]; rfl)

set_option maxRecDepth 20000 in
set_option maxHeartbeats 2000000 in
/-- share -/
theorem xm_X8_share : xv_K yX8_share mX8_share (fun as h n Post => ∃ (a : Int32) (p : Int32) (w : Int32), as = [.int a, .int p, .int w] ∧ (0 < w) ∧ Post (some (.int (a * p / w))) h n) := by
  refine xv_entry (by decide +kernel) rfl (fun h => absurd h (by decide)) ?_
  rintro X _ h n Post ⟨a, p, w, rfl, hw, hp⟩
  refine ⟨Nat.le_of_ble_eq_true rfl, ?_⟩
  show xv_V X mX8_share Post 0 0 0 [(0, .int a), (1, .int p), (2, .int w)] [] h n
  refine xi_iload_n (q := 1) dX8_share_0 rfl rfl ?_
  refine xi_if_le (q := 4) (q2 := 12) dX8_share_1 (by decide) rfl (fun c_1 => ?_) (fun c_1 => ?_)
  · exact absurd hw (by rw [xn_le] at c_1; rw [xn_lt]; omega)
  · refine xi_iload_n (q := 5) dX8_share_4 rfl rfl ?_
    refine xi_iload_n (q := 6) dX8_share_5 rfl rfl ?_
    refine xi_imul (q := 7) dX8_share_6 rfl ?_
    refine xi_iload_n (q := 8) dX8_share_7 rfl rfl ?_
    refine xi_idiv (q := 9) dX8_share_8 (fun z => by rw [z] at hw; exact absurd hw (by decide)) rfl ?_
    refine xi_goto (q := 13) dX8_share_9 (by decide) ?_
    refine xi_ret ⟨_, rfl, rfl, dX8_share_13⟩ (Nat.zero_le _) (Nat.zero_le _) ?_
    exact hp

set_option maxRecDepth 20000 in
set_option maxHeartbeats 2000000 in
/-- isPlace -/
theorem xm_X8_isPlace : xv_K yX8_isPlace mX8_isPlace (fun as h n Post => ∃ (v : Int32), as = [.int v] ∧ Post (some (.int (if 0 ≤ v ∧ v ≤ 5 then 1 else 0))) h n) := by
  refine xv_entry (by decide +kernel) rfl (fun h => absurd h (by decide)) ?_
  rintro X _ h n Post ⟨v, rfl, hp⟩
  refine ⟨Nat.le_of_ble_eq_true rfl, ?_⟩
  show xv_V X mX8_isPlace Post 0 0 0 [(0, .int v)] [] h n
  refine xi_iload_n (q := 1) dX8_isPlace_0 rfl rfl ?_
  refine xi_iconst (x := 0) (q := 2) dX8_isPlace_1 (by decide) rfl ?_
  refine xi_iconst (x := 5) (q := 3) dX8_isPlace_2 (by decide) rfl ?_
  refine xv_cS3 (q := 6) xm_X8_within ln_X8_77 dX8_isPlace_3 ⟨(Nat.le_of_ble_eq_true rfl), (Nat.le_of_ble_eq_true rfl)⟩ (Nat.le_of_ble_eq_true rfl) ⟨rfl, rfl⟩ rfl (Nat.zero_le _) (Nat.zero_le _) ?_
  refine ⟨_, _, _, rfl, ?_⟩
  refine xi_ret ⟨_, rfl, xn_nb, dX8_isPlace_6⟩ (Nat.zero_le _) (Nat.zero_le _) ?_
  exact hp

set_option maxRecDepth 20000 in
set_option maxHeartbeats 2000000 in
/-- isSickness -/
theorem xm_X8_isSickness : xv_K yX8_isSickness mX8_isSickness (fun as h n Post => ∃ (v : Int32), as = [.int v] ∧ Post (some (.int (if 0 ≤ v ∧ v ≤ 12 then 1 else 0))) h n) := by
  refine xv_entry (by decide +kernel) rfl (fun h => absurd h (by decide)) ?_
  rintro X _ h n Post ⟨v, rfl, hp⟩
  refine ⟨Nat.le_of_ble_eq_true rfl, ?_⟩
  show xv_V X mX8_isSickness Post 0 0 0 [(0, .int v)] [] h n
  refine xi_iload_n (q := 1) dX8_isSickness_0 rfl rfl ?_
  refine xi_iconst (x := 0) (q := 2) dX8_isSickness_1 (by decide) rfl ?_
  refine xi_bipush (x := 12) (q := 4) dX8_isSickness_2 (by decide) rfl ?_
  refine xv_cS3 (q := 7) xm_X8_within ln_X8_77 dX8_isSickness_4 ⟨(Nat.le_of_ble_eq_true rfl), (Nat.le_of_ble_eq_true rfl)⟩ (Nat.le_of_ble_eq_true rfl) ⟨rfl, rfl⟩ rfl (Nat.zero_le _) (Nat.zero_le _) ?_
  refine ⟨_, _, _, rfl, ?_⟩
  refine xi_ret ⟨_, rfl, xn_nb, dX8_isSickness_7⟩ (Nat.zero_le _) (Nat.zero_le _) ?_
  exact hp

set_option maxRecDepth 20000 in
set_option maxHeartbeats 2000000 in
/-- isNotch -/
theorem xm_X8_isNotch : xv_K yX8_isNotch mX8_isNotch (fun as h n Post => ∃ (v : Int32), as = [.int v] ∧ Post (some (.int (if -6 ≤ v ∧ v ≤ 6 then 1 else 0))) h n) := by
  refine xv_entry (by decide +kernel) rfl (fun h => absurd h (by decide)) ?_
  rintro X _ h n Post ⟨v, rfl, hp⟩
  refine ⟨Nat.le_of_ble_eq_true rfl, ?_⟩
  show xv_V X mX8_isNotch Post 0 0 0 [(0, .int v)] [] h n
  refine xi_iload_n (q := 1) dX8_isNotch_0 rfl rfl ?_
  refine xi_bipush (x := (-6)) (q := 3) dX8_isNotch_1 (by decide) rfl ?_
  refine xi_bipush (x := 6) (q := 5) dX8_isNotch_3 (by decide) rfl ?_
  refine xv_cS3 (q := 8) xm_X8_within ln_X8_77 dX8_isNotch_5 ⟨(Nat.le_of_ble_eq_true rfl), (Nat.le_of_ble_eq_true rfl)⟩ (Nat.le_of_ble_eq_true rfl) ⟨rfl, rfl⟩ rfl (Nat.zero_le _) (Nat.zero_le _) ?_
  refine ⟨_, _, _, rfl, ?_⟩
  refine xi_ret ⟨_, rfl, xn_nb, dX8_isNotch_8⟩ (Nat.zero_le _) (Nat.zero_le _) ?_
  exact hp

set_option maxRecDepth 20000 in
set_option maxHeartbeats 2000000 in
/-- isEnd -/
theorem xm_X8_isEnd : xv_K yX8_isEnd mX8_isEnd (fun as h n Post => ∃ (v : Int32), as = [.int v] ∧ Post (some (.int (if 0 ≤ v ∧ v ≤ 1 then 1 else 0))) h n) := by
  refine xv_entry (by decide +kernel) rfl (fun h => absurd h (by decide)) ?_
  rintro X _ h n Post ⟨v, rfl, hp⟩
  refine ⟨Nat.le_of_ble_eq_true rfl, ?_⟩
  show xv_V X mX8_isEnd Post 0 0 0 [(0, .int v)] [] h n
  refine xi_iload_n (q := 1) dX8_isEnd_0 rfl rfl ?_
  refine xi_iconst (x := 0) (q := 2) dX8_isEnd_1 (by decide) rfl ?_
  refine xi_iconst (x := 1) (q := 3) dX8_isEnd_2 (by decide) rfl ?_
  refine xv_cS3 (q := 6) xm_X8_within ln_X8_77 dX8_isEnd_3 ⟨(Nat.le_of_ble_eq_true rfl), (Nat.le_of_ble_eq_true rfl)⟩ (Nat.le_of_ble_eq_true rfl) ⟨rfl, rfl⟩ rfl (Nat.zero_le _) (Nat.zero_le _) ?_
  refine ⟨_, _, _, rfl, ?_⟩
  refine xi_ret ⟨_, rfl, xn_nb, dX8_isEnd_6⟩ (Nat.zero_le _) (Nat.zero_le _) ?_
  exact hp

set_option maxRecDepth 20000 in
set_option maxHeartbeats 2000000 in
/-- isTurned -/
theorem xm_X8_isTurned : xv_K yX8_isTurned mX8_isTurned (fun as h n Post => ∃ (v : Int32), as = [.int v] ∧ Post (some (.int (if -1000 ≤ v ∧ v ≤ 1000 then 1 else 0))) h n) := by
  refine xv_entry (by decide +kernel) rfl (fun h => absurd h (by decide)) ?_
  rintro X _ h n Post ⟨v, rfl, hp⟩
  refine ⟨Nat.le_of_ble_eq_true rfl, ?_⟩
  show xv_V X mX8_isTurned Post 0 0 0 [(0, .int v)] [] h n
  refine xi_iload_n (q := 1) dX8_isTurned_0 rfl rfl ?_
  refine xi_sipush (x := (-1000)) (q := 4) dX8_isTurned_1 (by decide) rfl ?_
  refine xi_sipush (x := 1000) (q := 7) dX8_isTurned_4 (by decide) rfl ?_
  refine xv_cS3 (q := 10) xm_X8_within ln_X8_77 dX8_isTurned_7 ⟨(Nat.le_of_ble_eq_true rfl), (Nat.le_of_ble_eq_true rfl)⟩ (Nat.le_of_ble_eq_true rfl) ⟨rfl, rfl⟩ rfl (Nat.zero_le _) (Nat.zero_le _) ?_
  refine ⟨_, _, _, rfl, ?_⟩
  refine xi_ret ⟨_, rfl, xn_nb, dX8_isTurned_10⟩ (Nat.zero_le _) (Nat.zero_le _) ?_
  exact hp

set_option maxRecDepth 20000 in
set_option maxHeartbeats 2000000 in
/-- isBoiler -/
theorem xm_X8_isBoiler : xv_K yX8_isBoiler mX8_isBoiler (fun as h n Post => ∃ (v : Int32), as = [.int v] ∧ Post (some (.int (if 0 ≤ v ∧ v ≤ 2000 then 1 else 0))) h n) := by
  refine xv_entry (by decide +kernel) rfl (fun h => absurd h (by decide)) ?_
  rintro X _ h n Post ⟨v, rfl, hp⟩
  refine ⟨Nat.le_of_ble_eq_true rfl, ?_⟩
  show xv_V X mX8_isBoiler Post 0 0 0 [(0, .int v)] [] h n
  refine xi_iload_n (q := 1) dX8_isBoiler_0 rfl rfl ?_
  refine xi_iconst (x := 0) (q := 2) dX8_isBoiler_1 (by decide) rfl ?_
  refine xi_sipush (x := 2000) (q := 5) dX8_isBoiler_2 (by decide) rfl ?_
  refine xv_cS3 (q := 8) xm_X8_within ln_X8_77 dX8_isBoiler_5 ⟨(Nat.le_of_ble_eq_true rfl), (Nat.le_of_ble_eq_true rfl)⟩ (Nat.le_of_ble_eq_true rfl) ⟨rfl, rfl⟩ rfl (Nat.zero_le _) (Nat.zero_le _) ?_
  refine ⟨_, _, _, rfl, ?_⟩
  refine xi_ret ⟨_, rfl, xn_nb, dX8_isBoiler_8⟩ (Nat.zero_le _) (Nat.zero_le _) ?_
  exact hp

set_option maxRecDepth 20000 in
set_option maxHeartbeats 2000000 in
/-- isRegulator -/
theorem xm_X8_isRegulator : xv_K yX8_isRegulator mX8_isRegulator (fun as h n Post => ∃ (v : Int32), as = [.int v] ∧ Post (some (.int (if 0 ≤ v ∧ v ≤ 4 then 1 else 0))) h n) := by
  refine xv_entry (by decide +kernel) rfl (fun h => absurd h (by decide)) ?_
  rintro X _ h n Post ⟨v, rfl, hp⟩
  refine ⟨Nat.le_of_ble_eq_true rfl, ?_⟩
  show xv_V X mX8_isRegulator Post 0 0 0 [(0, .int v)] [] h n
  refine xi_iload_n (q := 1) dX8_isRegulator_0 rfl rfl ?_
  refine xi_iconst (x := 0) (q := 2) dX8_isRegulator_1 (by decide) rfl ?_
  refine xi_iconst (x := 4) (q := 3) dX8_isRegulator_2 (by decide) rfl ?_
  refine xv_cS3 (q := 6) xm_X8_within ln_X8_77 dX8_isRegulator_3 ⟨(Nat.le_of_ble_eq_true rfl), (Nat.le_of_ble_eq_true rfl)⟩ (Nat.le_of_ble_eq_true rfl) ⟨rfl, rfl⟩ rfl (Nat.zero_le _) (Nat.zero_le _) ?_
  refine ⟨_, _, _, rfl, ?_⟩
  refine xi_ret ⟨_, rfl, xn_nb, dX8_isRegulator_6⟩ (Nat.zero_le _) (Nat.zero_le _) ?_
  exact hp

set_option maxRecDepth 20000 in
set_option maxHeartbeats 2000000 in
/-- late -/
theorem xm_X0_late : xv_K yX0_late mX0_late (fun as h n Post => ∃ (e : Nat) (f : Nat → Int32) (s : Int32) (t : Int32), as = [.ref e] ∧ (e + 1 < n) ∧ (h e = .inr (0, [.ref (e + 1), .int s, .int t])) ∧ (h (e + 1) = .inl (.int, 11, .inl f)) ∧ Post (some (.int (xs_late s))) h n) := by
  refine xv_entry (by decide +kernel) rfl (fun h => absurd h (by decide)) ?_
  rintro X _ h n Post ⟨e, f, s, t, rfl, hn, hE, hN, hp⟩
  refine ⟨Nat.le_of_ble_eq_true rfl, ?_⟩
  show xv_V X mX0_late Post 0 0 0 [(0, .ref e)] [] h n
  refine xi_aload_n (q := 1) dX0_late_0 rfl rfl ?_
  refine xi_getf (q := 4) dX0_late_1 fl_X0_21 ⟨by omega, hE⟩ rfl rfl ?_
  refine xi_if_lt (q := 7) (q2 := 29) dX0_late_4 (by decide) rfl (fun c_4 => ?_) (fun c_4 => ?_)
  · refine xi_iconst (x := 0) (q := 30) dX0_late_29 (by decide) rfl ?_
    refine xi_ret ⟨_, rfl, rfl, dX0_late_30⟩ (Nat.zero_le _) (Nat.zero_le _) ?_
    exact xv_eqr hp (xn_late0 (Or.inl c_4))
  · refine xi_aload_n (q := 8) dX0_late_7 rfl rfl ?_
    refine xi_getf (q := 11) dX0_late_8 fl_X0_21 ⟨by omega, hE⟩ rfl rfl ?_
    refine xi_gets (j := 2) (q := 14) dX0_late_11 rfl gs_X0_35 rfl ?_
    refine xi_rolen (w := (13, xs_T2)) (x := 13) (q := 15) dX0_late_14 rfl (by decide) rfl ?_
    refine xi_icmp_ge (q := 18) (q2 := 29) dX0_late_15 (by decide) rfl (fun c_15 => ?_) (fun c_15 => ?_)
    · refine xi_iconst (x := 0) (q := 30) dX0_late_29 (by decide) rfl ?_
      refine xi_ret ⟨_, rfl, rfl, dX0_late_30⟩ (Nat.zero_le _) (Nat.zero_le _) ?_
      exact xv_eqr hp (xn_late0 (Or.inr c_15))
    · refine xi_gets (j := 2) (q := 21) dX0_late_18 rfl gs_X0_35 rfl ?_
      refine xi_aload_n (q := 22) dX0_late_21 rfl rfl ?_
      refine xi_getf (q := 25) dX0_late_22 fl_X0_21 ⟨by omega, hE⟩ rfl rfl ?_
      refine xi_roald (w := (13, xs_T2)) (q := 26) dX0_late_25 rfl (xn_T13 xn_lateT c_4 c_15).1 rfl rfl ?_
      refine xi_goto (q := 30) dX0_late_26 (by decide) ?_
      refine xi_ret ⟨_, rfl, rfl, dX0_late_30⟩ (Nat.zero_le _) (Nat.zero_le _) ?_
      exact xv_eqr hp (xn_T13 xn_lateT c_4 c_15).2

set_option maxRecDepth 20000 in
set_option maxHeartbeats 2000000 in
/-- leak -/
theorem xm_X0_leak : xv_K yX0_leak mX0_leak (fun as h n Post => ∃ (e : Nat) (f : Nat → Int32) (s : Int32) (t : Int32), as = [.ref e] ∧ (e + 1 < n) ∧ (h e = .inr (0, [.ref (e + 1), .int s, .int t])) ∧ (h (e + 1) = .inl (.int, 11, .inl f)) ∧ Post (some (.int (xs_leak s))) h n) := by
  refine xv_entry (by decide +kernel) rfl (fun h => absurd h (by decide)) ?_
  rintro X _ h n Post ⟨e, f, s, t, rfl, hn, hE, hN, hp⟩
  refine ⟨Nat.le_of_ble_eq_true rfl, ?_⟩
  show xv_V X mX0_leak Post 0 0 0 [(0, .ref e)] [] h n
  refine xi_aload_n (q := 1) dX0_leak_0 rfl rfl ?_
  refine xi_getf (q := 4) dX0_leak_1 fl_X0_21 ⟨by omega, hE⟩ rfl rfl ?_
  refine xi_if_lt (q := 7) (q2 := 29) dX0_leak_4 (by decide) rfl (fun c_4 => ?_) (fun c_4 => ?_)
  · refine xi_iconst (x := 0) (q := 30) dX0_leak_29 (by decide) rfl ?_
    refine xi_ret ⟨_, rfl, rfl, dX0_leak_30⟩ (Nat.zero_le _) (Nat.zero_le _) ?_
    exact xv_eqr hp (xn_leak0 (Or.inl c_4))
  · refine xi_aload_n (q := 8) dX0_leak_7 rfl rfl ?_
    refine xi_getf (q := 11) dX0_leak_8 fl_X0_21 ⟨by omega, hE⟩ rfl rfl ?_
    refine xi_gets (j := 3) (q := 14) dX0_leak_11 rfl gs_X0_38 rfl ?_
    refine xi_rolen (w := (13, xs_T3)) (x := 13) (q := 15) dX0_leak_14 rfl (by decide) rfl ?_
    refine xi_icmp_ge (q := 18) (q2 := 29) dX0_leak_15 (by decide) rfl (fun c_15 => ?_) (fun c_15 => ?_)
    · refine xi_iconst (x := 0) (q := 30) dX0_leak_29 (by decide) rfl ?_
      refine xi_ret ⟨_, rfl, rfl, dX0_leak_30⟩ (Nat.zero_le _) (Nat.zero_le _) ?_
      exact xv_eqr hp (xn_leak0 (Or.inr c_15))
    · refine xi_gets (j := 3) (q := 21) dX0_leak_18 rfl gs_X0_38 rfl ?_
      refine xi_aload_n (q := 22) dX0_leak_21 rfl rfl ?_
      refine xi_getf (q := 25) dX0_leak_22 fl_X0_21 ⟨by omega, hE⟩ rfl rfl ?_
      refine xi_roald (w := (13, xs_T3)) (q := 26) dX0_leak_25 rfl (xn_T13 xn_leakT c_4 c_15).1 rfl rfl ?_
      refine xi_goto (q := 30) dX0_leak_26 (by decide) ?_
      refine xi_ret ⟨_, rfl, rfl, dX0_leak_30⟩ (Nat.zero_le _) (Nat.zero_le _) ?_
      exact xv_eqr hp (xn_T13 xn_leakT c_4 c_15).2

set_option maxRecDepth 20000 in
set_option maxHeartbeats 2000000 in
/-- choke -/
theorem xm_X0_choke : xv_K yX0_choke mX0_choke (fun as h n Post => ∃ (e : Nat) (f : Nat → Int32) (s : Int32) (t : Int32), as = [.ref e] ∧ (e + 1 < n) ∧ (h e = .inr (0, [.ref (e + 1), .int s, .int t])) ∧ (h (e + 1) = .inl (.int, 11, .inl f)) ∧ Post (some (.int (f 8 + xs_chk s))) h n) := by
  refine xv_entry (by decide +kernel) rfl (fun h => absurd h (by decide)) ?_
  rintro X _ h n Post ⟨e, f, s, t, rfl, hn, hE, hN, hp⟩
  refine ⟨Nat.le_of_ble_eq_true rfl, ?_⟩
  show xv_V X mX0_choke Post 0 0 0 [(0, .ref e)] [] h n
  refine xi_aload_n (q := 1) dX0_choke_0 rfl rfl ?_
  refine xi_getf (q := 4) dX0_choke_1 fl_X0_9 ⟨by omega, hE⟩ rfl rfl ?_
  refine xi_bipush (x := 8) (q := 6) dX0_choke_4 (by decide) rfl ?_
  refine xi_iald (q := 7) dX0_choke_6 ⟨hn, hN⟩ ⟨xv_ink (by decide), (by decide : (8 : Int32).toNatClampNeg = 8)⟩ rfl ?_
  refine xi_aload_n (q := 8) dX0_choke_7 rfl rfl ?_
  refine xi_getf (q := 11) dX0_choke_8 fl_X0_21 ⟨by omega, hE⟩ rfl rfl ?_
  refine xi_if_lt (q := 14) (q2 := 36) dX0_choke_11 (by decide) rfl (fun c_11 => ?_) (fun c_11 => ?_)
  · refine xi_iconst (x := 0) (q := 37) dX0_choke_36 (by decide) rfl ?_
    refine xi_iadd (q := 38) dX0_choke_37 rfl ?_
    refine xi_ret ⟨_, rfl, rfl, dX0_choke_38⟩ (Nat.zero_le _) (Nat.zero_le _) ?_
    exact xv_eqr hp (congrArg (f 8 + ·) (xn_chk0 (Or.inl c_11)))
  · refine xi_aload_n (q := 15) dX0_choke_14 rfl rfl ?_
    refine xi_getf (q := 18) dX0_choke_15 fl_X0_21 ⟨by omega, hE⟩ rfl rfl ?_
    refine xi_gets (j := 4) (q := 21) dX0_choke_18 rfl gs_X0_41 rfl ?_
    refine xi_rolen (w := (13, xs_T4)) (x := 13) (q := 22) dX0_choke_21 rfl (by decide) rfl ?_
    refine xi_icmp_ge (q := 25) (q2 := 36) dX0_choke_22 (by decide) rfl (fun c_22 => ?_) (fun c_22 => ?_)
    · refine xi_iconst (x := 0) (q := 37) dX0_choke_36 (by decide) rfl ?_
      refine xi_iadd (q := 38) dX0_choke_37 rfl ?_
      refine xi_ret ⟨_, rfl, rfl, dX0_choke_38⟩ (Nat.zero_le _) (Nat.zero_le _) ?_
      exact xv_eqr hp (congrArg (f 8 + ·) (xn_chk0 (Or.inr c_22)))
    · refine xi_gets (j := 4) (q := 28) dX0_choke_25 rfl gs_X0_41 rfl ?_
      refine xi_aload_n (q := 29) dX0_choke_28 rfl rfl ?_
      refine xi_getf (q := 32) dX0_choke_29 fl_X0_21 ⟨by omega, hE⟩ rfl rfl ?_
      refine xi_roald (w := (13, xs_T4)) (q := 33) dX0_choke_32 rfl (xn_T13 xn_chkT c_11 c_22).1 rfl rfl ?_
      refine xi_goto (q := 37) dX0_choke_33 (by decide) ?_
      refine xi_iadd (q := 38) dX0_choke_37 rfl ?_
      refine xi_ret ⟨_, rfl, rfl, dX0_choke_38⟩ (Nat.zero_le _) (Nat.zero_le _) ?_
      exact xv_eqr hp (congrArg (f 8 + ·) (xn_T13 xn_chkT c_11 c_22).2)

set_option maxRecDepth 20000 in
set_option maxHeartbeats 2000000 in
/-- stroke -/
theorem xm_X0_stroke : xv_K yX0_stroke mX0_stroke (fun as h n Post => ∃ (e : Nat) (f : Nat → Int32) (s : Int32) (t : Int32) (k : Int32), as = [.ref e, .int k] ∧ (e + 1 < n) ∧ (h e = .inr (0, [.ref (e + 1), .int s, .int t])) ∧ (h (e + 1) = .inl (.int, 11, .inl f)) ∧ (0 ≤ f 0) ∧ (f 0 ≤ 20) ∧ Post (some (.int (xs_pis (f 0) k))) h n) := by
  refine xv_entry (by decide +kernel) rfl (fun h => absurd h (by decide)) ?_
  rintro X _ h n Post ⟨e, f, s, t, k, rfl, hn, hE, hN, h0, h1, hp⟩
  refine ⟨Nat.le_of_ble_eq_true rfl, ?_⟩
  show xv_V X mX0_stroke Post 0 0 0 [(0, .ref e), (1, .int k)] [] h n
  refine xi_sipush (x := 10000) (q := 3) dX0_stroke_0 (by decide) rfl ?_
  refine xi_iload_n (q := 4) dX0_stroke_3 rfl rfl ?_
  refine xv_cS1 (q := 7) xm_X8_cosine ln_X0_44 dX0_stroke_4 ⟨(Nat.le_of_ble_eq_true rfl), (Nat.le_of_ble_eq_true rfl)⟩ (Nat.le_of_ble_eq_true rfl) ⟨rfl, rfl⟩ rfl (Nat.zero_le _) (Nat.zero_le _) ?_
  refine ⟨_, rfl, ?_⟩
  refine xi_isub (q := 8) dX0_stroke_7 rfl ?_
  refine xi_bipush (x := 20) (q := 10) dX0_stroke_8 (by decide) rfl ?_
  refine xi_idiv (q := 11) dX0_stroke_10 (by decide) rfl ?_
  refine xi_istore_n (q := 12) dX0_stroke_11 (Nat.le_of_ble_eq_true rfl) rfl ?_
  refine xi_aload_n (q := 13) dX0_stroke_12 rfl rfl ?_
  refine xi_getf (q := 16) dX0_stroke_13 fl_X0_9 ⟨by omega, hE⟩ rfl rfl ?_
  refine xi_iconst (x := 0) (q := 17) dX0_stroke_16 (by decide) rfl ?_
  refine xi_iald (q := 18) dX0_stroke_17 ⟨hn, hN⟩ ⟨xv_ink (by decide), (by decide : (0 : Int32).toNatClampNeg = 0)⟩ rfl ?_
  refine xi_istore_n (q := 19) dX0_stroke_18 (Nat.le_of_ble_eq_true rfl) rfl ?_
  refine xi_iload_n (q := 20) dX0_stroke_19 rfl rfl ?_
  refine xi_if_gt (q := 23) (q2 := 25) dX0_stroke_20 (by decide) rfl (fun c_20 => ?_) (fun c_20 => ?_)
  · refine xi_iload_n (q := 26) dX0_stroke_25 rfl rfl ?_
    refine xi_bipush (x := 12) (q := 28) dX0_stroke_26 (by decide) rfl ?_
    refine xi_isub (q := 29) dX0_stroke_28 rfl ?_
    refine xv_cS1 (q := 32) xm_X8_cosine ln_X0_44 dX0_stroke_29 ⟨(Nat.le_of_ble_eq_true rfl), (Nat.le_of_ble_eq_true rfl)⟩ (Nat.le_of_ble_eq_true rfl) ⟨rfl, rfl⟩ rfl (Nat.zero_le _) (Nat.zero_le _) ?_
    refine ⟨_, rfl, ?_⟩
    refine xi_istore (q := 34) dX0_stroke_32 (Nat.le_of_ble_eq_true rfl) rfl ?_
    refine xi_iload_n (q := 35) dX0_stroke_34 rfl rfl ?_
    refine xi_iload (q := 37) dX0_stroke_35 rfl rfl ?_
    refine xi_iload (q := 39) dX0_stroke_37 rfl rfl ?_
    refine xi_imul (q := 40) dX0_stroke_39 rfl ?_
    refine xi_ldc (q := 42) dX0_stroke_40 kc_X0_47 rfl ?_
    refine xi_iload_n (q := 43) dX0_stroke_42 rfl rfl ?_
    refine xi_imul (q := 44) dX0_stroke_43 rfl ?_
    refine xi_idiv (q := 45) dX0_stroke_44 (xn_nz c_20 h1) rfl ?_
    refine xi_iadd (q := 46) dX0_stroke_45 rfl ?_
    refine xi_ret ⟨_, rfl, rfl, dX0_stroke_46⟩ (Nat.zero_le _) (Nat.zero_le _) ?_
    exact xv_eqr hp (xn_pis1 c_20)
  · refine xi_iload_n (q := 24) dX0_stroke_23 rfl rfl ?_
    refine xi_ret ⟨_, rfl, rfl, dX0_stroke_24⟩ (Nat.zero_le _) (Nat.zero_le _) ?_
    exact xv_eqr hp (xn_pis0 c_20 h0)

set_option maxRecDepth 20000 in
set_option maxHeartbeats 2000000 in
/-- swing -/
theorem xm_X0_swing : xv_K yX0_swing mX0_swing (fun as h n Post => ∃ (e : Nat) (f : Nat → Int32) (s : Int32) (t : Int32) (m : Int32) (k : Int32), as = [.ref e, .int m, .int k] ∧ (e + 1 < n) ∧ (h e = .inr (0, [.ref (e + 1), .int s, .int t])) ∧ (h (e + 1) = .inl (.int, 11, .inl f)) ∧ Post (some (.int (xs_swi f s m k))) h n) := by
  refine xv_entry (by decide +kernel) rfl (fun h => absurd h (by decide)) ?_
  rintro X _ h n Post ⟨e, f, s, t, m, k, rfl, hn, hE, hN, hp⟩
  refine ⟨Nat.le_of_ble_eq_true rfl, ?_⟩
  show xv_V X mX0_swing Post 0 0 0 [(0, .ref e), (1, .int m), (2, .int k)] [] h n
  refine xi_aload_n (q := 1) dX0_swing_0 rfl rfl ?_
  refine xi_getf (q := 4) dX0_swing_1 fl_X0_9 ⟨by omega, hE⟩ rfl rfl ?_
  refine xi_iconst (x := 2) (q := 5) dX0_swing_4 (by decide) rfl ?_
  refine xi_iald (q := 6) dX0_swing_5 ⟨hn, hN⟩ ⟨xv_ink (by decide), (by decide : (2 : Int32).toNatClampNeg = 2)⟩ rfl ?_
  refine xi_istore_n (q := 7) dX0_swing_6 (Nat.le_of_ble_eq_true rfl) rfl ?_
  refine xi_bipush (x := 6) (q := 9) dX0_swing_7 (by decide) rfl ?_
  refine xi_iload_n (q := 10) dX0_swing_9 rfl rfl ?_
  refine xi_iadd (q := 11) dX0_swing_10 rfl ?_
  refine xi_iload_n (q := 12) dX0_swing_11 rfl rfl ?_
  refine xi_iload_n (q := 13) dX0_swing_12 rfl rfl ?_
  refine xi_iadd (q := 14) dX0_swing_13 rfl ?_
  refine xi_aload_n (q := 15) dX0_swing_14 rfl rfl ?_
  refine xv_cV0 (q := 18) xm_X0_late ln_X0_48 dX0_swing_15 ⟨by omega, hE⟩ rfl ⟨(Nat.le_of_ble_eq_true rfl), (Nat.le_of_ble_eq_true rfl)⟩ (Nat.le_of_ble_eq_true rfl) ⟨rfl, rfl⟩ rfl (Nat.zero_le _) (Nat.zero_le _) ?_
  refine ⟨e, f, s, t, rfl, hn, hE, hN, ?_⟩
  refine xi_iadd (q := 19) dX0_swing_18 rfl ?_
  refine xi_bipush (x := 12) (q := 21) dX0_swing_19 (by decide) rfl ?_
  refine xi_isub (q := 22) dX0_swing_21 rfl ?_
  refine xv_cS1 (q := 25) xm_X8_cosine ln_X0_44 dX0_swing_22 ⟨(Nat.le_of_ble_eq_true rfl), (Nat.le_of_ble_eq_true rfl)⟩ (Nat.le_of_ble_eq_true rfl) ⟨rfl, rfl⟩ rfl (Nat.zero_le _) (Nat.zero_le _) ?_
  refine ⟨_, rfl, ?_⟩
  refine xi_imul (q := 26) dX0_swing_25 rfl ?_
  refine xi_istore (q := 28) dX0_swing_26 (Nat.le_of_ble_eq_true rfl) rfl ?_
  refine xi_bipush (x := 6) (q := 30) dX0_swing_28 (by decide) rfl ?_
  refine xi_iload_n (q := 31) dX0_swing_30 rfl rfl ?_
  refine xi_isub (q := 32) dX0_swing_31 rfl ?_
  refine xi_iload_n (q := 33) dX0_swing_32 rfl rfl ?_
  refine xi_iload_n (q := 34) dX0_swing_33 rfl rfl ?_
  refine xi_isub (q := 35) dX0_swing_34 rfl ?_
  refine xi_bipush (x := 12) (q := 37) dX0_swing_35 (by decide) rfl ?_
  refine xi_isub (q := 38) dX0_swing_37 rfl ?_
  refine xv_cS1 (q := 41) xm_X8_cosine ln_X0_44 dX0_swing_38 ⟨(Nat.le_of_ble_eq_true rfl), (Nat.le_of_ble_eq_true rfl)⟩ (Nat.le_of_ble_eq_true rfl) ⟨rfl, rfl⟩ rfl (Nat.zero_le _) (Nat.zero_le _) ?_
  refine ⟨_, rfl, ?_⟩
  refine xi_imul (q := 42) dX0_swing_41 rfl ?_
  refine xi_istore (q := 44) dX0_swing_42 (Nat.le_of_ble_eq_true rfl) rfl ?_
  refine xi_aload_n (q := 45) dX0_swing_44 rfl rfl ?_
  refine xi_getf (q := 48) dX0_swing_45 fl_X0_9 ⟨by omega, hE⟩ rfl rfl ?_
  refine xi_iconst (x := 1) (q := 49) dX0_swing_48 (by decide) rfl ?_
  refine xi_iald (q := 50) dX0_swing_49 ⟨hn, hN⟩ ⟨xv_ink (by decide), (by decide : (1 : Int32).toNatClampNeg = 1)⟩ rfl ?_
  refine xi_iload (q := 52) dX0_swing_50 rfl rfl ?_
  refine xi_iload (q := 54) dX0_swing_52 rfl rfl ?_
  refine xi_iadd (q := 55) dX0_swing_54 rfl ?_
  refine xi_imul (q := 56) dX0_swing_55 rfl ?_
  refine xi_ldc (q := 58) dX0_swing_56 kc_X0_52 rfl ?_
  refine xi_idiv (q := 59) dX0_swing_58 (by decide) rfl ?_
  refine xi_ret ⟨_, rfl, rfl, dX0_swing_59⟩ (Nat.zero_le _) (Nat.zero_le _) ?_
  exact hp

set_option maxRecDepth 20000 in
set_option maxHeartbeats 2000000 in
/-- hanging -/
theorem xm_X0_hanging : xv_K yX0_hanging mX0_hanging (fun as h n Post => ∃ (e : Nat) (f : Nat → Int32) (s : Int32) (t : Int32) (m : Int32), as = [.ref e, .int m] ∧ (e + 1 < n) ∧ (h e = .inr (0, [.ref (e + 1), .int s, .int t])) ∧ (h (e + 1) = .inl (.int, 11, .inl f)) ∧ Post (some (.int (xs_hng f m))) h n) := by
  refine xv_entry (by decide +kernel) rfl (fun h => absurd h (by decide)) ?_
  rintro X _ h n Post ⟨e, f, s, t, m, rfl, hn, hE, hN, hp⟩
  refine ⟨Nat.le_of_ble_eq_true rfl, ?_⟩
  show xv_V X mX0_hanging Post 0 0 0 [(0, .ref e), (1, .int m)] [] h n
  refine xi_aload_n (q := 1) dX0_hanging_0 rfl rfl ?_
  refine xi_getf (q := 4) dX0_hanging_1 fl_X0_9 ⟨by omega, hE⟩ rfl rfl ?_
  refine xi_iconst (x := 3) (q := 5) dX0_hanging_4 (by decide) rfl ?_
  refine xi_iald (q := 6) dX0_hanging_5 ⟨hn, hN⟩ ⟨xv_ink (by decide), (by decide : (3 : Int32).toNatClampNeg = 3)⟩ rfl ?_
  refine xi_iload_n (q := 7) dX0_hanging_6 rfl rfl ?_
  refine xi_imul (q := 8) dX0_hanging_7 rfl ?_
  refine xi_bipush (x := 6) (q := 10) dX0_hanging_8 (by decide) rfl ?_
  refine xi_idiv (q := 11) dX0_hanging_10 (by decide) rfl ?_
  refine xi_ret ⟨_, rfl, rfl, dX0_hanging_11⟩ (Nat.zero_le _) (Nat.zero_le _) ?_
  exact hp

set_option maxRecDepth 20000 in
set_option maxHeartbeats 2000000 in
/-- travel -/
theorem xm_X0_travel : xv_K yX0_travel mX0_travel (fun as h n Post => ∃ (e : Nat) (f : Nat → Int32) (s : Int32) (t : Int32) (m : Int32) (k : Int32), as = [.ref e, .int m, .int k] ∧ (e + 1 < n) ∧ (h e = .inr (0, [.ref (e + 1), .int s, .int t])) ∧ (h (e + 1) = .inl (.int, 11, .inl f)) ∧ Post (some (.int (xs_val f s m k))) h n) := by
  refine xv_entry (by decide +kernel) rfl (fun h => absurd h (by decide)) ?_
  rintro X _ h n Post ⟨e, f, s, t, m, k, rfl, hn, hE, hN, hp⟩
  refine ⟨Nat.le_of_ble_eq_true rfl, ?_⟩
  show xv_V X mX0_travel Post 0 0 0 [(0, .ref e), (1, .int m), (2, .int k)] [] h n
  refine xi_aload_n (q := 1) dX0_travel_0 rfl rfl ?_
  refine xi_iload_n (q := 2) dX0_travel_1 rfl rfl ?_
  refine xi_iload_n (q := 3) dX0_travel_2 rfl rfl ?_
  refine xv_cV2 (q := 6) xm_X0_swing ln_X0_53 dX0_travel_3 ⟨by omega, hE⟩ rfl ⟨(Nat.le_of_ble_eq_true rfl), (Nat.le_of_ble_eq_true rfl)⟩ (Nat.le_of_ble_eq_true rfl) ⟨rfl, rfl⟩ rfl (Nat.zero_le _) (Nat.zero_le _) ?_
  refine ⟨e, f, s, t, _, _, rfl, hn, hE, hN, ?_⟩
  refine xi_aload_n (q := 7) dX0_travel_6 rfl rfl ?_
  refine xi_iload_n (q := 8) dX0_travel_7 rfl rfl ?_
  refine xv_cV1 (q := 11) xm_X0_hanging ln_X0_57 dX0_travel_8 ⟨by omega, hE⟩ rfl ⟨(Nat.le_of_ble_eq_true rfl), (Nat.le_of_ble_eq_true rfl)⟩ (Nat.le_of_ble_eq_true rfl) ⟨rfl, rfl⟩ rfl (Nat.zero_le _) (Nat.zero_le _) ?_
  refine ⟨e, f, s, t, _, rfl, hn, hE, hN, ?_⟩
  refine xi_iadd (q := 12) dX0_travel_11 rfl ?_
  refine xi_ret ⟨_, rfl, rfl, dX0_travel_12⟩ (Nat.zero_le _) (Nat.zero_le _) ?_
  exact hp

theorem xn_fA {f : Nat → Int32} {v d w : Int32} (h1 : d = w) (h2 : w = 0) : v - f 4 = xs_far f v d w := by subst h1; subst h2; rfl
theorem xn_fB {f : Nat → Int32} {v d w : Int32} (h1 : d = w) (h2 : ¬ w = 0) : v - f 5 = xs_far f v d w := by subst h1; unfold xs_far; rw [if_neg h2, if_neg h2]
theorem xn_fC {f : Nat → Int32} {v d w : Int32} (h1 : ¬ d = w) (h2 : w = 0) : -v - f 4 = xs_far f v d w := by subst h2; unfold xs_far; rw [if_pos rfl, if_neg h1]
theorem xn_fD {f : Nat → Int32} {v d w : Int32} (hd : d = 0 ∨ d = 1) (hw : w = 0 ∨ w = 1) (h1 : ¬ d = w) (h2 : ¬ w = 0) : -v - f 5 = xs_far f v d w := by
  rcases hw with rfl | rfl
  · exact absurd rfl h2
  · rcases hd with rfl | rfl
    · rfl
    · exact absurd rfl h1

set_option maxRecDepth 20000 in
set_option maxHeartbeats 2000000 in
/-- opening -/
theorem xm_X0_opening : xv_K yX0_opening mX0_opening (fun as h n Post => ∃ (e : Nat) (f : Nat → Int32) (s : Int32) (t : Int32) (v : Int32) (d : Int32) (w : Int32), as = [.ref e, .int v, .int d, .int w] ∧ (e + 1 < n) ∧ (h e = .inr (0, [.ref (e + 1), .int s, .int t])) ∧ (h (e + 1) = .inl (.int, 11, .inl f)) ∧ (d = 0 ∨ d = 1) ∧ (w = 0 ∨ w = 1) ∧ Post (some (.int (xs_by f v d w))) h n) := by
  refine xv_entry (by decide +kernel) rfl (fun h => absurd h (by decide)) ?_
  rintro X _ h n Post ⟨e, f, s, t, v, d, w, rfl, hn, hE, hN, hd, hw, hp⟩
  refine ⟨Nat.le_of_ble_eq_true rfl, ?_⟩
  show xv_V X mX0_opening Post 0 0 0 [(0, .ref e), (1, .int v), (2, .int d), (3, .int w)] [] h n
  refine xi_iload_n (q := 1) dX0_opening_0 rfl rfl ?_
  refine xi_iload_n (q := 2) dX0_opening_1 rfl rfl ?_
  refine xi_icmp_ne (q := 5) (q2 := 9) dX0_opening_2 (by decide) rfl (fun c_2 => ?_) (fun c_2 => ?_)
  · refine xi_iload_n (q := 10) dX0_opening_9 rfl rfl ?_
    refine xi_ineg (q := 11) dX0_opening_10 rfl ?_
    refine xi_istore (q := 13) dX0_opening_11 (Nat.le_of_ble_eq_true rfl) rfl ?_
    refine xi_iload (q := 15) dX0_opening_13 rfl rfl ?_
    refine xi_aload_n (q := 16) dX0_opening_15 rfl rfl ?_
    refine xi_getf (q := 19) dX0_opening_16 fl_X0_9 ⟨by omega, hE⟩ rfl rfl ?_
    refine xi_iload_n (q := 20) dX0_opening_19 rfl rfl ?_
    refine xi_if_ne (q := 23) (q2 := 27) dX0_opening_20 (by decide) rfl (fun c_20 => ?_) (fun c_20 => ?_)
    · refine xi_iconst (x := 5) (q := 28) dX0_opening_27 (by decide) rfl ?_
      refine xi_iald (q := 29) dX0_opening_28 ⟨hn, hN⟩ ⟨xv_ink (by decide), (by decide : (5 : Int32).toNatClampNeg = 5)⟩ rfl ?_
      refine xi_isub (q := 30) dX0_opening_29 rfl ?_
      refine xi_istore (q := 32) dX0_opening_30 (Nat.le_of_ble_eq_true rfl) rfl ?_
      refine xi_iconst (x := 0) (q := 33) dX0_opening_32 (by decide) rfl ?_
      refine xi_aload_n (q := 34) dX0_opening_33 rfl rfl ?_
      refine xi_getf (q := 37) dX0_opening_34 fl_X0_9 ⟨by omega, hE⟩ rfl rfl ?_
      refine xi_bipush (x := 6) (q := 39) dX0_opening_37 (by decide) rfl ?_
      refine xi_iald (q := 40) dX0_opening_39 ⟨hn, hN⟩ ⟨xv_ink (by decide), (by decide : (6 : Int32).toNatClampNeg = 6)⟩ rfl ?_
      refine xi_iload (q := 42) dX0_opening_40 rfl rfl ?_
      refine xi_mmin (q := 45) dX0_opening_42 ln_X0_60 (Nat.le_of_ble_eq_true rfl) (Nat.le_of_ble_eq_true rfl) (Nat.zero_le _) (Nat.zero_le _) rfl ?_
      refine xi_mmax (q := 48) dX0_opening_45 ln_X0_65 (Nat.le_of_ble_eq_true rfl) (Nat.le_of_ble_eq_true rfl) (Nat.zero_le _) (Nat.zero_le _) rfl ?_
      refine xi_ret ⟨_, rfl, rfl, dX0_opening_48⟩ (Nat.zero_le _) (Nat.zero_le _) ?_
      exact xv_eqr hp ((xn_cl _ _).trans (congrArg (xs_cl (f 6)) (xn_fD hd hw c_2 c_20)))
    · refine xi_iconst (x := 4) (q := 24) dX0_opening_23 (by decide) rfl ?_
      refine xi_goto (q := 28) dX0_opening_24 (by decide) ?_
      refine xi_iald (q := 29) dX0_opening_28 ⟨hn, hN⟩ ⟨xv_ink (by decide), (by decide : (4 : Int32).toNatClampNeg = 4)⟩ rfl ?_
      refine xi_isub (q := 30) dX0_opening_29 rfl ?_
      refine xi_istore (q := 32) dX0_opening_30 (Nat.le_of_ble_eq_true rfl) rfl ?_
      refine xi_iconst (x := 0) (q := 33) dX0_opening_32 (by decide) rfl ?_
      refine xi_aload_n (q := 34) dX0_opening_33 rfl rfl ?_
      refine xi_getf (q := 37) dX0_opening_34 fl_X0_9 ⟨by omega, hE⟩ rfl rfl ?_
      refine xi_bipush (x := 6) (q := 39) dX0_opening_37 (by decide) rfl ?_
      refine xi_iald (q := 40) dX0_opening_39 ⟨hn, hN⟩ ⟨xv_ink (by decide), (by decide : (6 : Int32).toNatClampNeg = 6)⟩ rfl ?_
      refine xi_iload (q := 42) dX0_opening_40 rfl rfl ?_
      refine xi_mmin (q := 45) dX0_opening_42 ln_X0_60 (Nat.le_of_ble_eq_true rfl) (Nat.le_of_ble_eq_true rfl) (Nat.zero_le _) (Nat.zero_le _) rfl ?_
      refine xi_mmax (q := 48) dX0_opening_45 ln_X0_65 (Nat.le_of_ble_eq_true rfl) (Nat.le_of_ble_eq_true rfl) (Nat.zero_le _) (Nat.zero_le _) rfl ?_
      refine xi_ret ⟨_, rfl, rfl, dX0_opening_48⟩ (Nat.zero_le _) (Nat.zero_le _) ?_
      exact xv_eqr hp ((xn_cl _ _).trans (congrArg (xs_cl (f 6)) (xn_fC c_2 c_20)))
  · refine xi_iload_n (q := 6) dX0_opening_5 rfl rfl ?_
    refine xi_goto (q := 11) dX0_opening_6 (by decide) ?_
    refine xi_istore (q := 13) dX0_opening_11 (Nat.le_of_ble_eq_true rfl) rfl ?_
    refine xi_iload (q := 15) dX0_opening_13 rfl rfl ?_
    refine xi_aload_n (q := 16) dX0_opening_15 rfl rfl ?_
    refine xi_getf (q := 19) dX0_opening_16 fl_X0_9 ⟨by omega, hE⟩ rfl rfl ?_
    refine xi_iload_n (q := 20) dX0_opening_19 rfl rfl ?_
    refine xi_if_ne (q := 23) (q2 := 27) dX0_opening_20 (by decide) rfl (fun c_20 => ?_) (fun c_20 => ?_)
    · refine xi_iconst (x := 5) (q := 28) dX0_opening_27 (by decide) rfl ?_
      refine xi_iald (q := 29) dX0_opening_28 ⟨hn, hN⟩ ⟨xv_ink (by decide), (by decide : (5 : Int32).toNatClampNeg = 5)⟩ rfl ?_
      refine xi_isub (q := 30) dX0_opening_29 rfl ?_
      refine xi_istore (q := 32) dX0_opening_30 (Nat.le_of_ble_eq_true rfl) rfl ?_
      refine xi_iconst (x := 0) (q := 33) dX0_opening_32 (by decide) rfl ?_
      refine xi_aload_n (q := 34) dX0_opening_33 rfl rfl ?_
      refine xi_getf (q := 37) dX0_opening_34 fl_X0_9 ⟨by omega, hE⟩ rfl rfl ?_
      refine xi_bipush (x := 6) (q := 39) dX0_opening_37 (by decide) rfl ?_
      refine xi_iald (q := 40) dX0_opening_39 ⟨hn, hN⟩ ⟨xv_ink (by decide), (by decide : (6 : Int32).toNatClampNeg = 6)⟩ rfl ?_
      refine xi_iload (q := 42) dX0_opening_40 rfl rfl ?_
      refine xi_mmin (q := 45) dX0_opening_42 ln_X0_60 (Nat.le_of_ble_eq_true rfl) (Nat.le_of_ble_eq_true rfl) (Nat.zero_le _) (Nat.zero_le _) rfl ?_
      refine xi_mmax (q := 48) dX0_opening_45 ln_X0_65 (Nat.le_of_ble_eq_true rfl) (Nat.le_of_ble_eq_true rfl) (Nat.zero_le _) (Nat.zero_le _) rfl ?_
      refine xi_ret ⟨_, rfl, rfl, dX0_opening_48⟩ (Nat.zero_le _) (Nat.zero_le _) ?_
      exact xv_eqr hp ((xn_cl _ _).trans (congrArg (xs_cl (f 6)) (xn_fB c_2 c_20)))
    · refine xi_iconst (x := 4) (q := 24) dX0_opening_23 (by decide) rfl ?_
      refine xi_goto (q := 28) dX0_opening_24 (by decide) ?_
      refine xi_iald (q := 29) dX0_opening_28 ⟨hn, hN⟩ ⟨xv_ink (by decide), (by decide : (4 : Int32).toNatClampNeg = 4)⟩ rfl ?_
      refine xi_isub (q := 30) dX0_opening_29 rfl ?_
      refine xi_istore (q := 32) dX0_opening_30 (Nat.le_of_ble_eq_true rfl) rfl ?_
      refine xi_iconst (x := 0) (q := 33) dX0_opening_32 (by decide) rfl ?_
      refine xi_aload_n (q := 34) dX0_opening_33 rfl rfl ?_
      refine xi_getf (q := 37) dX0_opening_34 fl_X0_9 ⟨by omega, hE⟩ rfl rfl ?_
      refine xi_bipush (x := 6) (q := 39) dX0_opening_37 (by decide) rfl ?_
      refine xi_iald (q := 40) dX0_opening_39 ⟨hn, hN⟩ ⟨xv_ink (by decide), (by decide : (6 : Int32).toNatClampNeg = 6)⟩ rfl ?_
      refine xi_iload (q := 42) dX0_opening_40 rfl rfl ?_
      refine xi_mmin (q := 45) dX0_opening_42 ln_X0_60 (Nat.le_of_ble_eq_true rfl) (Nat.le_of_ble_eq_true rfl) (Nat.zero_le _) (Nat.zero_le _) rfl ?_
      refine xi_mmax (q := 48) dX0_opening_45 ln_X0_65 (Nat.le_of_ble_eq_true rfl) (Nat.le_of_ble_eq_true rfl) (Nat.zero_le _) (Nat.zero_le _) rfl ?_
      refine xi_ret ⟨_, rfl, rfl, dX0_opening_48⟩ (Nat.zero_le _) (Nat.zero_le _) ?_
      exact xv_eqr hp ((xn_cl _ _).trans (congrArg (xs_cl (f 6)) (xn_fA c_2 c_20)))

set_option maxRecDepth 20000 in
set_option maxHeartbeats 2000000 in
/-- lead -/
theorem xm_X0_lead : xv_K yX0_lead mX0_lead (fun as h n Post => ∃ (e : Nat) (f : Nat → Int32) (s : Int32) (t : Int32), as = [.ref e] ∧ (e + 1 < n) ∧ (h e = .inr (0, [.ref (e + 1), .int s, .int t])) ∧ (h (e + 1) = .inl (.int, 11, .inl f)) ∧ Post (some (.int (xs_led f s))) h n) := by
  refine xv_entry (by decide +kernel) rfl (fun h => absurd h (by decide)) ?_
  rintro X _ h n Post ⟨e, f, s, t, rfl, hn, hE, hN, hp⟩
  refine ⟨Nat.le_of_ble_eq_true rfl, ?_⟩
  show xv_V X mX0_lead Post 0 0 0 [(0, .ref e)] [] h n
  refine xi_aload_n (q := 1) dX0_lead_0 rfl rfl ?_
  refine xi_aload_n (q := 2) dX0_lead_1 rfl rfl ?_
  refine xi_bipush (x := 6) (q := 4) dX0_lead_2 (by decide) rfl ?_
  refine xi_iconst (x := 0) (q := 5) dX0_lead_4 (by decide) rfl ?_
  refine xv_cV2 (q := 8) xm_X0_travel ln_X0_68 dX0_lead_5 ⟨by omega, hE⟩ rfl ⟨(Nat.le_of_ble_eq_true rfl), (Nat.le_of_ble_eq_true rfl)⟩ (Nat.le_of_ble_eq_true rfl) ⟨rfl, rfl⟩ rfl (Nat.zero_le _) (Nat.zero_le _) ?_
  refine ⟨e, f, s, t, _, _, rfl, hn, hE, hN, ?_⟩
  refine xi_iconst (x := 0) (q := 9) dX0_lead_8 (by decide) rfl ?_
  refine xi_iconst (x := 0) (q := 10) dX0_lead_9 (by decide) rfl ?_
  refine xv_cV3 (q := 13) xm_X0_opening ln_X0_71 dX0_lead_10 ⟨by omega, hE⟩ rfl ⟨(Nat.le_of_ble_eq_true rfl), (Nat.le_of_ble_eq_true rfl)⟩ (Nat.le_of_ble_eq_true rfl) ⟨rfl, rfl⟩ rfl (Nat.zero_le _) (Nat.zero_le _) ?_
  refine ⟨e, f, s, t, _, _, _, rfl, hn, hE, hN, Or.inl rfl, Or.inl rfl, ?_⟩
  refine xi_ret ⟨_, rfl, rfl, dX0_lead_13⟩ (Nat.zero_le _) (Nat.zero_le _) ?_
  exact hp

theorem xn_ix11 {w : Int32} (h : 0 ≤ w ∧ w ≤ 10) : xv_ix w 11 w.toNatClampNeg := ⟨vp_in_iff.mpr (by
  have h1 := h.1
  have h2 := h.2
  rw [xn_le, show (0 : Int32).toInt = 0 from rfl] at h1
  rw [xn_le, show (10 : Int32).toInt = 10 from rfl] at h2
  omega), rfl⟩
set_option maxRecDepth 20000 in
set_option maxHeartbeats 2000000 in
/-- isNumber -/
theorem xm_X8_isNumber : xv_K yX8_isNumber mX8_isNumber (fun as h n Post => ∃ (w : Int32) (v : Int32), as = [.int w, .int v] ∧ Post (some (.int (if xs_isNb w v = true then 1 else 0))) h n) := by
  refine xv_entry (by decide +kernel) rfl (fun h => absurd h (by decide)) ?_
  rintro X _ h n Post ⟨w, v, rfl, hp⟩
  refine ⟨Nat.le_of_ble_eq_true rfl, ?_⟩
  show xv_V X mX8_isNumber Post 0 0 0 [(0, .int w), (1, .int v)] [] h n
  refine xi_iload_n (q := 1) dX8_isNumber_0 rfl rfl ?_
  refine xi_iconst (x := 0) (q := 2) dX8_isNumber_1 (by decide) rfl ?_
  refine xi_bipush (x := 10) (q := 4) dX8_isNumber_2 (by decide) rfl ?_
  refine xv_cS3 (q := 7) xm_X8_within ln_X8_77 dX8_isNumber_4 ⟨(Nat.le_of_ble_eq_true rfl), (Nat.le_of_ble_eq_true rfl)⟩ (Nat.le_of_ble_eq_true rfl) ⟨rfl, rfl⟩ rfl (Nat.zero_le _) (Nat.zero_le _) ?_
  refine ⟨_, _, _, rfl, ?_⟩
  refine xi_if_ne (q := 10) (q2 := 12) dX8_isNumber_7 (by decide) rfl (fun c_7 => ?_) (fun c_7 => ?_)
  · refine xi_iload_n (q := 13) dX8_isNumber_12 rfl rfl ?_
    refine xi_if_ne (q := 16) (q2 := 27) dX8_isNumber_13 (by decide) rfl (fun c_13 => ?_) (fun c_13 => ?_)
    · refine xi_iload_n (q := 28) dX8_isNumber_27 rfl rfl ?_
      refine xi_gets (j := 0) (q := 31) dX8_isNumber_28 rfl gs_X8_347 rfl ?_
      refine xi_iload_n (q := 32) dX8_isNumber_31 rfl rfl ?_
      refine xi_roald (w := (11, xs_T0)) (q := 33) dX8_isNumber_32 rfl (xn_ix11 (xn_b1 c_7)) rfl rfl ?_
      refine xi_gets (j := 1) (q := 36) dX8_isNumber_33 rfl gs_X8_350 rfl ?_
      refine xi_iload_n (q := 37) dX8_isNumber_36 rfl rfl ?_
      refine xi_roald (w := (11, xs_T1)) (q := 38) dX8_isNumber_37 rfl (xn_ix11 (xn_b1 c_7)) rfl rfl ?_
      refine xv_cS3 (q := 41) xm_X8_within ln_X8_77 dX8_isNumber_38 ⟨(Nat.le_of_ble_eq_true rfl), (Nat.le_of_ble_eq_true rfl)⟩ (Nat.le_of_ble_eq_true rfl) ⟨rfl, rfl⟩ rfl (Nat.zero_le _) (Nat.zero_le _) ?_
      refine ⟨_, _, _, rfl, ?_⟩
      refine xi_ret ⟨_, rfl, xn_nb, dX8_isNumber_41⟩ (Nat.zero_le _) (Nat.zero_le _) ?_
      exact xv_eqb hp ⟨fun z => (xn_isN w v).mpr ⟨xn_b1 c_7, fun y => c_13 y.1, z⟩, fun z => ((xn_isN w v).mp z).2.2⟩
    · refine xi_iload_n (q := 17) dX8_isNumber_16 rfl rfl ?_
      refine xi_if_eq (q := 20) (q2 := 27) dX8_isNumber_17 (by decide) rfl (fun c_17 => ?_) (fun c_17 => ?_)
      · refine xi_iload_n (q := 28) dX8_isNumber_27 rfl rfl ?_
        refine xi_gets (j := 0) (q := 31) dX8_isNumber_28 rfl gs_X8_347 rfl ?_
        refine xi_iload_n (q := 32) dX8_isNumber_31 rfl rfl ?_
        refine xi_roald (w := (11, xs_T0)) (q := 33) dX8_isNumber_32 rfl (xn_ix11 (xn_b1 c_7)) rfl rfl ?_
        refine xi_gets (j := 1) (q := 36) dX8_isNumber_33 rfl gs_X8_350 rfl ?_
        refine xi_iload_n (q := 37) dX8_isNumber_36 rfl rfl ?_
        refine xi_roald (w := (11, xs_T1)) (q := 38) dX8_isNumber_37 rfl (xn_ix11 (xn_b1 c_7)) rfl rfl ?_
        refine xv_cS3 (q := 41) xm_X8_within ln_X8_77 dX8_isNumber_38 ⟨(Nat.le_of_ble_eq_true rfl), (Nat.le_of_ble_eq_true rfl)⟩ (Nat.le_of_ble_eq_true rfl) ⟨rfl, rfl⟩ rfl (Nat.zero_le _) (Nat.zero_le _) ?_
        refine ⟨_, _, _, rfl, ?_⟩
        refine xi_ret ⟨_, rfl, xn_nb, dX8_isNumber_41⟩ (Nat.zero_le _) (Nat.zero_le _) ?_
        exact xv_eqb hp ⟨fun z => (xn_isN w v).mpr ⟨xn_b1 c_7, fun y => y.2.1 c_17, z⟩, fun z => ((xn_isN w v).mp z).2.2⟩
      · refine xi_iload_n (q := 21) dX8_isNumber_20 rfl rfl ?_
        refine xi_iconst (x := 4) (q := 22) dX8_isNumber_21 (by decide) rfl ?_
        refine xi_icmp_ge (q := 25) (q2 := 27) dX8_isNumber_22 (by decide) rfl (fun c_22 => ?_) (fun c_22 => ?_)
        · refine xi_iload_n (q := 28) dX8_isNumber_27 rfl rfl ?_
          refine xi_gets (j := 0) (q := 31) dX8_isNumber_28 rfl gs_X8_347 rfl ?_
          refine xi_iload_n (q := 32) dX8_isNumber_31 rfl rfl ?_
          refine xi_roald (w := (11, xs_T0)) (q := 33) dX8_isNumber_32 rfl (xn_ix11 (xn_b1 c_7)) rfl rfl ?_
          refine xi_gets (j := 1) (q := 36) dX8_isNumber_33 rfl gs_X8_350 rfl ?_
          refine xi_iload_n (q := 37) dX8_isNumber_36 rfl rfl ?_
          refine xi_roald (w := (11, xs_T1)) (q := 38) dX8_isNumber_37 rfl (xn_ix11 (xn_b1 c_7)) rfl rfl ?_
          refine xv_cS3 (q := 41) xm_X8_within ln_X8_77 dX8_isNumber_38 ⟨(Nat.le_of_ble_eq_true rfl), (Nat.le_of_ble_eq_true rfl)⟩ (Nat.le_of_ble_eq_true rfl) ⟨rfl, rfl⟩ rfl (Nat.zero_le _) (Nat.zero_le _) ?_
          refine ⟨_, _, _, rfl, ?_⟩
          refine xi_ret ⟨_, rfl, xn_nb, dX8_isNumber_41⟩ (Nat.zero_le _) (Nat.zero_le _) ?_
          exact xv_eqb hp ⟨fun z => (xn_isN w v).mpr ⟨xn_b1 c_7, fun y => by have q := y.2.2; rw [xn_le] at c_22; rw [xn_lt] at q; omega, z⟩, fun z => ((xn_isN w v).mp z).2.2⟩
        · refine xi_iconst (x := 0) (q := 26) dX8_isNumber_25 (by decide) rfl ?_
          refine xi_ret ⟨_, rfl, rfl, dX8_isNumber_26⟩ (Nat.zero_le _) (Nat.zero_le _) ?_
          exact xv_eqb0 hp (fun z => ((xn_isN w v).mp z).2.1 ⟨by first | exact c_13 | exact Decidable.of_not_not c_13, c_17, by rw [xn_le] at c_22; rw [xn_lt]; exact Int.not_le.mp c_22⟩)
  · refine xi_iconst (x := 0) (q := 11) dX8_isNumber_10 (by decide) rfl ?_
    refine xi_ret ⟨_, rfl, rfl, dX8_isNumber_11⟩ (Nat.zero_le _) (Nat.zero_le _) ?_
    exact xv_eqb0 hp (fun z => xn_b0 c_7 ((xn_isN w v).mp z).1)
