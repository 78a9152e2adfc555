def xs_mo (a : Nat → Int32) (dk : Int64) : xv_E := .inr (9, [.int (a 0), .int (a 1), .ref 84, .ref 85, .ref 86, .ref 87, .ref 88, .ref 89, .ref 90, .ref 91, .ref 92, .ref 93, .int (a 2), .int (a 3), .ref 94, .long dk, .ref 95, .ref 96, .ref 97, .ref 98, .ref 99, .int (a 4), .ref 100, .ref 101, .ref 102, .int (a 5), .int (a 6), .int (a 7), .int (a 8), .int (a 9), .int (a 10), .ref 103, .int (a 11)])
theorem xn_c64 {x y : Int32} : (lg_cmp x.toInt64 y.toInt64 < 0 ↔ x < y) ∧ (0 < lg_cmp x.toInt64 y.toInt64 ↔ y < x) := by
  have h1 := lg_cmp_ge x.toInt64 y.toInt64
  have h2 := lg_cmp_le x.toInt64 y.toInt64
  rw [xn_le, Int64.le_iff_toInt_le, Int32.toInt_toInt64, Int32.toInt_toInt64, show (0 : Int32).toInt = 0 from rfl] at h1 h2
  rw [xn_lt, xn_lt, xn_lt, xn_lt, show (0 : Int32).toInt = 0 from rfl]
  omega
theorem xn_inb {v a b : Int32} (y1 : ¬ v < a) (y2 : ¬ b < v) : a ≤ v ∧ v ≤ b := by
  rw [xn_lt] at y1 y2
  rw [xn_le, xn_le]
  omega
def xs_fT (j : Nat) : Int32 := ([10000, 9914, 9659, 9239, 8660, 7934, 7071, 6088, 5000, 3827, 2588, 1305, 0] : List Int32).getD j 0
theorem xn_fold : ∀ j : Fin 48, xs_cT j.1 = (if (if 24 < j.1 then 48 - j.1 else j.1) ≤ 12 then xs_fT (if 24 < j.1 then 48 - j.1 else j.1) else 0 - xs_fT (24 - (if 24 < j.1 then 48 - j.1 else j.1))) := by decide +kernel
theorem xn_ix12 {p j : Nat} (hp : p < 7) (hj : j < 12) : xv_ix (12 * nI p + nI j) 84 (12 * p + j) := by
  rw [show (12 * nI p + nI j : Int32) = nI (12 * p + j) by rw [show (12 * nI p : Int32) = nI (12 * p) from pk_mul 12 p, nI_add]]
  exact xv_ixN (by omega) (by omega)
set_option maxRecDepth 20000 in
set_option maxHeartbeats 2000000 in
/-- in -/
theorem xm_X9_in : xv_K yX9_in mX9_in (fun as h n Post => ∃ (v : Int32) (a : Int32) (b : Int32), as = [.long v.toInt64, .long a.toInt64, .long b.toInt64] ∧ Post (some (.int (if a ≤ v ∧ v ≤ b then 1 else 0))) h n) := by
  refine xv_entry (by decide +kernel) rfl (fun h => absurd h (by decide)) ?_
  rintro X _ h n Post ⟨v, a, b, rfl, hp⟩
  refine ⟨Nat.le_of_ble_eq_true rfl, ?_⟩
  show xv_V X mX9_in Post 0 0 0 [(0, .long v.toInt64), (2, .long a.toInt64), (4, .long b.toInt64)] [] h n
  refine xi_lload_n (q := 1) dX9_in_0 rfl rfl ?_
  refine xi_lload_n (q := 2) dX9_in_1 rfl rfl ?_
  refine xi_lcmp (q := 3) dX9_in_2 rfl ?_
  refine xi_if_lt (q := 6) (q2 := 17) dX9_in_3 (by decide) rfl (fun c_3 => ?_) (fun c_3 => ?_)
  · refine xi_iconst (x := 0) (q := 18) dX9_in_17 (by decide) rfl ?_
    refine xi_ret ⟨_, rfl, rfl, dX9_in_18⟩ (Nat.zero_le _) (Nat.zero_le _) ?_
    exact xv_eqb0 hp (fun z => by have y := (xn_c64.1).mp c_3; rw [xn_lt] at y; rw [xn_le, xn_le] at z; omega)
  · refine xi_lload_n (q := 7) dX9_in_6 rfl rfl ?_
    refine xi_lload (q := 9) dX9_in_7 rfl rfl ?_
    refine xi_lcmp (q := 10) dX9_in_9 rfl ?_
    refine xi_if_gt (q := 13) (q2 := 17) dX9_in_10 (by decide) rfl (fun c_10 => ?_) (fun c_10 => ?_)
    · refine xi_iconst (x := 0) (q := 18) dX9_in_17 (by decide) rfl ?_
      refine xi_ret ⟨_, rfl, rfl, dX9_in_18⟩ (Nat.zero_le _) (Nat.zero_le _) ?_
      exact xv_eqb0 hp (fun z => by have y := (xn_c64.2).mp c_10; rw [xn_lt] at y; rw [xn_le, xn_le] at z; omega)
    · refine xi_iconst (x := 1) (q := 14) dX9_in_13 (by decide) rfl ?_
      refine xi_goto (q := 18) dX9_in_14 (by decide) ?_
      refine xi_ret ⟨_, rfl, rfl, dX9_in_18⟩ (Nat.zero_le _) (Nat.zero_le _) ?_
      exact xv_eqb1 hp (xn_inb (fun y => c_3 (xn_c64.1.mpr y)) (fun y => c_10 (xn_c64.2.mpr y)))

set_option maxRecDepth 20000 in
set_option maxHeartbeats 2000000 in
/-- isSheet -/
theorem xm_X9_isSheet : xv_K yX9_isSheet mX9_isSheet (fun as h n Post => ∃ (v : Int32), as = [.int v] ∧ Post (some (.int (if 0 ≤ v ∧ v ≤ 7 then 1 else 0))) h n) := by
  refine xv_entry (by decide +kernel) rfl (fun h => absurd h (by decide)) ?_
  rintro X _ h n Post ⟨v, rfl, hp⟩
  refine ⟨Nat.le_of_ble_eq_true rfl, ?_⟩
  show xv_V X mX9_isSheet Post 0 0 0 [(0, .int v)] [] h n
  refine xi_iload_n (q := 1) dX9_isSheet_0 rfl rfl ?_
  refine xi_i2l (q := 2) dX9_isSheet_1 rfl ?_
  refine xi_lconst (x := 0) (q := 3) dX9_isSheet_2 (by decide) rfl ?_
  refine xi_ldc2 (q := 6) dX9_isSheet_3 kc_X9_79 rfl ?_
  refine xv_cS3 (q := 9) xm_X9_in ln_X9_81 dX9_isSheet_6 ⟨(Nat.le_of_ble_eq_true rfl), (Nat.le_of_ble_eq_true rfl)⟩ (Nat.le_of_ble_eq_true rfl) ⟨rfl, rfl⟩ rfl (Nat.zero_le _) (Nat.zero_le _) ?_
  refine ⟨v, 0, 7, rfl, ?_⟩
  refine xi_ret ⟨_, rfl, xn_nb, dX9_isSheet_9⟩ (Nat.zero_le _) (Nat.zero_le _) ?_
  exact hp

set_option maxRecDepth 20000 in
set_option maxHeartbeats 2000000 in
/-- isPlace -/
theorem xm_X9_isPlace : xv_K yX9_isPlace mX9_isPlace (fun as h n Post => ∃ (v : Int32), as = [.int v] ∧ Post (some (.int (if 0 ≤ v ∧ v ≤ 5 then 1 else 0))) h n) := by
  refine xv_entry (by decide +kernel) rfl (fun h => absurd h (by decide)) ?_
  rintro X _ h n Post ⟨v, rfl, hp⟩
  refine ⟨Nat.le_of_ble_eq_true rfl, ?_⟩
  show xv_V X mX9_isPlace Post 0 0 0 [(0, .int v)] [] h n
  refine xi_iload_n (q := 1) dX9_isPlace_0 rfl rfl ?_
  refine xi_i2l (q := 2) dX9_isPlace_1 rfl ?_
  refine xi_lconst (x := 0) (q := 3) dX9_isPlace_2 (by decide) rfl ?_
  refine xi_ldc2 (q := 6) dX9_isPlace_3 kc_X9_96 rfl ?_
  refine xv_cS3 (q := 9) xm_X9_in ln_X9_81 dX9_isPlace_6 ⟨(Nat.le_of_ble_eq_true rfl), (Nat.le_of_ble_eq_true rfl)⟩ (Nat.le_of_ble_eq_true rfl) ⟨rfl, rfl⟩ rfl (Nat.zero_le _) (Nat.zero_le _) ?_
  refine ⟨v, 0, 5, rfl, ?_⟩
  refine xi_ret ⟨_, rfl, xn_nb, dX9_isPlace_9⟩ (Nat.zero_le _) (Nat.zero_le _) ?_
  exact hp

set_option maxRecDepth 20000 in
set_option maxHeartbeats 2000000 in
/-- isNotch -/
theorem xm_X9_isNotch : xv_K yX9_isNotch mX9_isNotch (fun as h n Post => ∃ (v : Int32), as = [.int v] ∧ Post (some (.int (if (-6) ≤ v ∧ v ≤ 6 then 1 else 0))) h n) := by
  refine xv_entry (by decide +kernel) rfl (fun h => absurd h (by decide)) ?_
  rintro X _ h n Post ⟨v, rfl, hp⟩
  refine ⟨Nat.le_of_ble_eq_true rfl, ?_⟩
  show xv_V X mX9_isNotch Post 0 0 0 [(0, .int v)] [] h n
  refine xi_iload_n (q := 1) dX9_isNotch_0 rfl rfl ?_
  refine xi_i2l (q := 2) dX9_isNotch_1 rfl ?_
  refine xi_ldc2 (q := 5) dX9_isNotch_2 kc_X9_159 rfl ?_
  refine xi_ldc2 (q := 8) dX9_isNotch_5 kc_X9_161 rfl ?_
  refine xv_cS3 (q := 11) xm_X9_in ln_X9_81 dX9_isNotch_8 ⟨(Nat.le_of_ble_eq_true rfl), (Nat.le_of_ble_eq_true rfl)⟩ (Nat.le_of_ble_eq_true rfl) ⟨rfl, rfl⟩ rfl (Nat.zero_le _) (Nat.zero_le _) ?_
  refine ⟨v, (-6), 6, rfl, ?_⟩
  refine xi_ret ⟨_, rfl, xn_nb, dX9_isNotch_11⟩ (Nat.zero_le _) (Nat.zero_le _) ?_
  exact hp

set_option maxRecDepth 20000 in
set_option maxHeartbeats 2000000 in
/-- round -/
theorem xm_X9_round : xv_K yX9_round mX9_round (fun as h n Post => ∃ (k : Int32), as = [.int k] ∧ Post (some (.int (xs_rnd k))) h n) := by
  refine xv_entry (by decide +kernel) rfl (fun h => absurd h (by decide)) ?_
  rintro X _ h n Post ⟨k, rfl, hp⟩
  refine ⟨Nat.le_of_ble_eq_true rfl, ?_⟩
  show xv_V X mX9_round Post 0 0 0 [(0, .int k)] [] h n
  refine xi_iload_n (q := 1) dX9_round_0 rfl rfl ?_
  refine xi_bipush (x := 48) (q := 3) dX9_round_1 (by decide) rfl ?_
  refine xi_irem (q := 4) dX9_round_3 (by decide) rfl ?_
  refine xi_istore_n (q := 5) dX9_round_4 (Nat.le_of_ble_eq_true rfl) rfl ?_
  refine xi_iload_n (q := 6) dX9_round_5 rfl rfl ?_
  refine xi_if_ge (q := 9) (q2 := 16) dX9_round_6 (by decide) rfl (fun c_6 => ?_) (fun c_6 => ?_)
  · refine xi_iload_n (q := 17) dX9_round_16 rfl rfl ?_
    refine xi_ret ⟨_, rfl, rfl, dX9_round_17⟩ (Nat.zero_le _) (Nat.zero_le _) ?_
    exact xv_eqr hp (by show _ = if xs_rem k 48 < 0 then _ else _; rw [if_neg (fun z => by rw [xn_lt] at z; have y : 0 ≤ xs_rem k 48 := c_6; rw [xn_le] at y; omega)]; rfl)
  · refine xi_iload_n (q := 10) dX9_round_9 rfl rfl ?_
    refine xi_bipush (x := 48) (q := 12) dX9_round_10 (by decide) rfl ?_
    refine xi_iadd (q := 13) dX9_round_12 rfl ?_
    refine xi_goto (q := 17) dX9_round_13 (by decide) ?_
    refine xi_ret ⟨_, rfl, rfl, dX9_round_17⟩ (Nat.zero_le _) (Nat.zero_le _) ?_
    exact xv_eqr hp (by show _ = if xs_rem k 48 < 0 then _ else _; rw [if_pos (by rw [xn_lt]; have y : ¬ 0 ≤ xs_rem k 48 := c_6; rw [xn_le] at y; omega)]; rfl)

def xs_MW (h : xv_H) (fa : Nat → Int32) (dk : Int64) (nu : Nat → Int32) : Prop := h 83 = xs_mo fa dk ∧ h 88 = xs_ia 84 nu ∧ h 93 = xs_ia 13 xs_fT
theorem xn_al {k : Int32} {j : Nat} (hj : j < 48) (ej : xs_rnd k = nI j) : xs_cos k = (if (if 24 < j then 48 - j else j) ≤ 12 then xs_fT (if 24 < j then 48 - j else j) else 0 - xs_fT (24 - (if 24 < j then 48 - j else j))) := by
  have h := xn_fold ⟨j, hj⟩
  unfold xs_cos
  rw [ej, nI_clamp (by omega)]
  exact h
theorem xn_nz4 {r : Int32} (h : xs_ok0 r) (h0 : ¬ r = 0) : ¬ 400000 * r = 0 := fun z => by
  rw [xn_eq, show (0 : Int32).toInt = 0 from rfl] at h0 z
  unfold xs_ok0 at h
  rw [xn_mul (by rw [show (400000 : Int32).toInt = 400000 from rfl]; omega) (by rw [show (400000 : Int32).toInt = 400000 from rfl]; omega), show (400000 : Int32).toInt = 400000 from rfl] at z
  omega
set_option maxRecDepth 20000 in
set_option maxHeartbeats 2000000 in
/-- along -/
theorem xm_X9_along : xv_K yX9_along mX9_along (fun as h n Post => ∃ (fa : Nat → Int32) (dk : Int64) (nu : Nat → Int32) (k : Int32), as = [.ref 83, .int k] ∧ (xs_MW h fa dk nu) ∧ (103 < n) ∧ Post (some (.int (xs_cos k))) h n) := by
  refine xv_entry (by decide +kernel) rfl (fun h => absurd h (by decide)) ?_
  rintro X _ h n Post ⟨fa, dk, nu, k, rfl, hW, h103, hp⟩
  refine ⟨Nat.le_of_ble_eq_true rfl, ?_⟩
  show xv_V X mX9_along Post 0 0 0 [(0, .ref 83), (1, .int k)] [] h n
  refine xi_iload_n (q := 1) dX9_along_0 rfl rfl ?_
  refine xv_cS1 (q := 4) xm_X9_round ln_X9_132 dX9_along_1 ⟨(Nat.le_of_ble_eq_true rfl), (Nat.le_of_ble_eq_true rfl)⟩ (Nat.le_of_ble_eq_true rfl) ⟨rfl, rfl⟩ rfl (Nat.zero_le _) (Nat.zero_le _) ?_
  refine ⟨k, rfl, ?_⟩
  obtain ⟨j, hj, ej⟩ : ∃ j, j < 48 ∧ xs_rnd k = nI j := ⟨_, (xn_rndN k).1, xn_ofI (by have := xn_rnd k; omega)⟩
  rw [ej]
  refine xi_istore_n (q := 5) dX9_along_4 (Nat.le_of_ble_eq_true rfl) rfl ?_
  refine xi_iload_n (q := 6) dX9_along_5 rfl rfl ?_
  refine xi_bipush (x := 24) (q := 8) dX9_along_6 (by decide) rfl ?_
  refine xi_icmp_le (q := 11) (q2 := 18) dX9_along_8 (by decide) rfl (fun c_8 => ?_) (fun c_8 => ?_)
  · have h8 : j ≤ 24 := xn_leN c_8 (by omega) (by omega)
    have e8 : (if 24 < j then 48 - j else j) = j := if_neg (by omega)
    refine xi_iload_n (q := 19) dX9_along_18 rfl rfl ?_
    refine xi_istore_n (q := 20) dX9_along_19 (Nat.le_of_ble_eq_true rfl) rfl ?_
    refine xi_iload_n (q := 21) dX9_along_20 rfl rfl ?_
    refine xi_bipush (x := 12) (q := 23) dX9_along_21 (by decide) rfl ?_
    refine xi_icmp_gt (q := 26) (q2 := 35) dX9_along_23 (by decide) rfl (fun c_23 => ?_) (fun c_23 => ?_)
    · have h9 : 12 < j := (nI_ltI (by omega) (by omega)).mp c_23
      rw [xn_al hj ej, e8, if_neg (by omega)] at hp
      refine xi_aload_n (q := 36) dX9_along_35 rfl rfl ?_
      refine xi_getf (q := 39) dX9_along_36 fl_X9_38 ⟨by omega, hW.1⟩ rfl rfl ?_
      refine xi_bipush (x := 24) (q := 41) dX9_along_39 (by decide) rfl ?_
      refine xi_iload_n (q := 42) dX9_along_41 rfl rfl ?_
      refine xi_isub (q := 43) dX9_along_42 rfl ?_
      refine xi_iald (q := 44) dX9_along_43 ⟨by omega, hW.2.2⟩ (by rw [show (24 - nI (j) : Int32) = nI (24 - (j)) from xn_subN (a := 24) (by omega)]; exact xv_ixN (by omega) (by omega)) rfl ?_
      refine xi_ineg (q := 45) dX9_along_44 rfl ?_
      refine xi_ret ⟨_, rfl, rfl, dX9_along_45⟩ (Nat.zero_le _) (Nat.zero_le _) ?_
      exact xv_eqr hp (by first | rfl | exact (Int32.zero_sub _).symm | simp)
    · have h9 : j ≤ 12 := by
        rcases Nat.lt_or_ge 12 (j) with z | z
        · exact absurd ((nI_ltI (by omega) (by omega)).mpr z) c_23
        · exact z
      rw [xn_al hj ej, e8, if_pos h9] at hp
      refine xi_aload_n (q := 27) dX9_along_26 rfl rfl ?_
      refine xi_getf (q := 30) dX9_along_27 fl_X9_38 ⟨by omega, hW.1⟩ rfl rfl ?_
      refine xi_iload_n (q := 31) dX9_along_30 rfl rfl ?_
      refine xi_iald (q := 32) dX9_along_31 ⟨by omega, hW.2.2⟩ (xv_ixN (by omega) (by omega)) rfl ?_
      refine xi_goto (q := 45) dX9_along_32 (by decide) ?_
      refine xi_ret ⟨_, rfl, rfl, dX9_along_45⟩ (Nat.zero_le _) (Nat.zero_le _) ?_
      exact xv_eqr hp (by first | rfl | exact (Int32.zero_sub _).symm | simp)
  · have h8 : 24 < j := by
      rcases Nat.lt_or_ge 24 j with z | z
      · exact z
      · exact absurd ((nI_leI (by omega) (by omega)).mpr z) c_8
    have e8 : (if 24 < j then 48 - j else j) = 48 - j := if_pos h8
    refine xi_bipush (x := 48) (q := 13) dX9_along_11 (by decide) rfl ?_
    refine xi_iload_n (q := 14) dX9_along_13 rfl rfl ?_
    refine xi_isub (q := 15) dX9_along_14 rfl ?_
    rw [show (48 - nI j : Int32) = nI (48 - j) from xn_subN (a := 48) (by omega)]
    refine xi_goto (q := 19) dX9_along_15 (by decide) ?_
    refine xi_istore_n (q := 20) dX9_along_19 (Nat.le_of_ble_eq_true rfl) rfl ?_
    refine xi_iload_n (q := 21) dX9_along_20 rfl rfl ?_
    refine xi_bipush (x := 12) (q := 23) dX9_along_21 (by decide) rfl ?_
    refine xi_icmp_gt (q := 26) (q2 := 35) dX9_along_23 (by decide) rfl (fun c_23 => ?_) (fun c_23 => ?_)
    · have h9 : 12 < 48 - j := (nI_ltI (by omega) (by omega)).mp c_23
      rw [xn_al hj ej, e8, if_neg (by omega)] at hp
      refine xi_aload_n (q := 36) dX9_along_35 rfl rfl ?_
      refine xi_getf (q := 39) dX9_along_36 fl_X9_38 ⟨by omega, hW.1⟩ rfl rfl ?_
      refine xi_bipush (x := 24) (q := 41) dX9_along_39 (by decide) rfl ?_
      refine xi_iload_n (q := 42) dX9_along_41 rfl rfl ?_
      refine xi_isub (q := 43) dX9_along_42 rfl ?_
      refine xi_iald (q := 44) dX9_along_43 ⟨by omega, hW.2.2⟩ (by rw [show (24 - nI (48 - j) : Int32) = nI (24 - (48 - j)) from xn_subN (a := 24) (by omega)]; exact xv_ixN (by omega) (by omega)) rfl ?_
      refine xi_ineg (q := 45) dX9_along_44 rfl ?_
      refine xi_ret ⟨_, rfl, rfl, dX9_along_45⟩ (Nat.zero_le _) (Nat.zero_le _) ?_
      exact xv_eqr hp (by first | rfl | exact (Int32.zero_sub _).symm | simp)
    · have h9 : 48 - j ≤ 12 := by
        rcases Nat.lt_or_ge 12 (48 - j) with z | z
        · exact absurd ((nI_ltI (by omega) (by omega)).mpr z) c_23
        · exact z
      rw [xn_al hj ej, e8, if_pos h9] at hp
      refine xi_aload_n (q := 27) dX9_along_26 rfl rfl ?_
      refine xi_getf (q := 30) dX9_along_27 fl_X9_38 ⟨by omega, hW.1⟩ rfl rfl ?_
      refine xi_iload_n (q := 31) dX9_along_30 rfl rfl ?_
      refine xi_iald (q := 32) dX9_along_31 ⟨by omega, hW.2.2⟩ (xv_ixN (by omega) (by omega)) rfl ?_
      refine xi_goto (q := 45) dX9_along_32 (by decide) ?_
      refine xi_ret ⟨_, rfl, rfl, dX9_along_45⟩ (Nat.zero_le _) (Nat.zero_le _) ?_
      exact xv_eqr hp (by first | rfl | exact (Int32.zero_sub _).symm | simp)

set_option maxRecDepth 20000 in
set_option maxHeartbeats 2000000 in
/-- across -/
theorem xm_X9_across : xv_K yX9_across mX9_across (fun as h n Post => ∃ (fa : Nat → Int32) (dk : Int64) (nu : Nat → Int32) (k : Int32), as = [.ref 83, .int k] ∧ (xs_MW h fa dk nu) ∧ (103 < n) ∧ Post (some (.int (xs_cos (k - 12)))) h n) := by
  refine xv_entry (by decide +kernel) rfl (fun h => absurd h (by decide)) ?_
  rintro X _ h n Post ⟨fa, dk, nu, k, rfl, hW, h103, hp⟩
  refine ⟨Nat.le_of_ble_eq_true rfl, ?_⟩
  show xv_V X mX9_across Post 0 0 0 [(0, .ref 83), (1, .int k)] [] h n
  refine xi_aload_n (q := 1) dX9_across_0 rfl rfl ?_
  refine xi_iload_n (q := 2) dX9_across_1 rfl rfl ?_
  refine xi_bipush (x := 12) (q := 4) dX9_across_2 (by decide) rfl ?_
  refine xi_isub (q := 5) dX9_across_4 rfl ?_
  refine xv_cV1 (q := 8) xm_X9_along ln_X9_135 dX9_across_5 ⟨by omega, hW.1⟩ rfl ⟨(Nat.le_of_ble_eq_true rfl), (Nat.le_of_ble_eq_true rfl)⟩ (Nat.le_of_ble_eq_true rfl) ⟨rfl, rfl⟩ rfl (Nat.zero_le _) (Nat.zero_le _) ?_
  refine ⟨_, _, _, _, rfl, hW, by omega, ?_⟩
  refine xi_ret ⟨_, rfl, rfl, dX9_across_8⟩ (Nat.zero_le _) (Nat.zero_le _) ?_
  exact hp

set_option maxRecDepth 20000 in
set_option maxHeartbeats 2000000 in
/-- lateOf -/
theorem xm_X9_lateOf : xv_K yX9_lateOf mX9_lateOf (fun as h n Post => ∃ (s : Int32), as = [.int s] ∧ Post (some (.int (xs_late s))) h n) := by
  refine xv_entry (by decide +kernel) rfl (fun h => absurd h (by decide)) ?_
  rintro X _ h n Post ⟨s, rfl, hp⟩
  refine ⟨Nat.le_of_ble_eq_true rfl, ?_⟩
  show xv_V X mX9_lateOf Post 0 0 0 [(0, .int s)] [] h n
  refine xi_iload_n (q := 1) dX9_lateOf_0 rfl rfl ?_
  refine xi_iconst (x := 1) (q := 2) dX9_lateOf_1 (by decide) rfl ?_
  refine xi_icmp_lt (q := 5) (q2 := 15) dX9_lateOf_2 (by decide) rfl (fun c_2 => ?_) (fun c_2 => ?_)
  · refine xi_iload_n (q := 16) dX9_lateOf_15 rfl rfl ?_
    refine xi_iconst (x := 4) (q := 17) dX9_lateOf_16 (by decide) rfl ?_
    refine xi_icmp_lt (q := 20) (q2 := 32) dX9_lateOf_17 (by decide) rfl (fun c_17 => ?_) (fun c_17 => ?_)
    · refine xi_iconst (x := 0) (q := 33) dX9_lateOf_32 (by decide) rfl ?_
      refine xi_ret ⟨_, rfl, rfl, dX9_lateOf_33⟩ (Nat.zero_le _) (Nat.zero_le _) ?_
      exact xv_eqr hp (by unfold xs_late; simp only [xn_lt, xn_le, show (1 : Int32).toInt = 1 from rfl, show (3 : Int32).toInt = 3 from rfl, show (4 : Int32).toInt = 4 from rfl, show (6 : Int32).toInt = 6 from rfl] at *; first | (exfalso; omega) | rw [if_neg (show ¬ (1 ≤ s.toInt ∧ s.toInt ≤ 3) by omega), if_neg (show ¬ (4 ≤ s.toInt ∧ s.toInt ≤ 6) by omega)] | rw [if_neg (show ¬ (1 ≤ s.toInt ∧ s.toInt ≤ 3) by omega), if_pos (show 4 ≤ s.toInt ∧ s.toInt ≤ 6 by omega)] | rw [if_pos (show 1 ≤ s.toInt ∧ s.toInt ≤ 3 by omega)] | omega)
    · refine xi_iload_n (q := 21) dX9_lateOf_20 rfl rfl ?_
      refine xi_bipush (x := 6) (q := 23) dX9_lateOf_21 (by decide) rfl ?_
      refine xi_icmp_gt (q := 26) (q2 := 32) dX9_lateOf_23 (by decide) rfl (fun c_23 => ?_) (fun c_23 => ?_)
      · refine xi_iconst (x := 0) (q := 33) dX9_lateOf_32 (by decide) rfl ?_
        refine xi_ret ⟨_, rfl, rfl, dX9_lateOf_33⟩ (Nat.zero_le _) (Nat.zero_le _) ?_
        exact xv_eqr hp (by unfold xs_late; simp only [xn_lt, xn_le, show (1 : Int32).toInt = 1 from rfl, show (3 : Int32).toInt = 3 from rfl, show (4 : Int32).toInt = 4 from rfl, show (6 : Int32).toInt = 6 from rfl] at *; first | (exfalso; omega) | rw [if_neg (show ¬ (1 ≤ s.toInt ∧ s.toInt ≤ 3) by omega), if_neg (show ¬ (4 ≤ s.toInt ∧ s.toInt ≤ 6) by omega)] | rw [if_neg (show ¬ (1 ≤ s.toInt ∧ s.toInt ≤ 3) by omega), if_pos (show 4 ≤ s.toInt ∧ s.toInt ≤ 6 by omega)] | rw [if_pos (show 1 ≤ s.toInt ∧ s.toInt ≤ 3 by omega)] | omega)
      · refine xi_iload_n (q := 27) dX9_lateOf_26 rfl rfl ?_
        refine xi_iconst (x := 3) (q := 28) dX9_lateOf_27 (by decide) rfl ?_
        refine xi_isub (q := 29) dX9_lateOf_28 rfl ?_
        refine xi_goto (q := 33) dX9_lateOf_29 (by decide) ?_
        refine xi_ret ⟨_, rfl, rfl, dX9_lateOf_33⟩ (Nat.zero_le _) (Nat.zero_le _) ?_
        exact xv_eqr hp (by unfold xs_late; simp only [xn_lt, xn_le, show (1 : Int32).toInt = 1 from rfl, show (3 : Int32).toInt = 3 from rfl, show (4 : Int32).toInt = 4 from rfl, show (6 : Int32).toInt = 6 from rfl] at *; first | (exfalso; omega) | rw [if_neg (show ¬ (1 ≤ s.toInt ∧ s.toInt ≤ 3) by omega), if_neg (show ¬ (4 ≤ s.toInt ∧ s.toInt ≤ 6) by omega)] | rw [if_neg (show ¬ (1 ≤ s.toInt ∧ s.toInt ≤ 3) by omega), if_pos (show 4 ≤ s.toInt ∧ s.toInt ≤ 6 by omega)] | rw [if_pos (show 1 ≤ s.toInt ∧ s.toInt ≤ 3 by omega)] | omega)
  · refine xi_iload_n (q := 6) dX9_lateOf_5 rfl rfl ?_
    refine xi_iconst (x := 3) (q := 7) dX9_lateOf_6 (by decide) rfl ?_
    refine xi_icmp_gt (q := 10) (q2 := 15) dX9_lateOf_7 (by decide) rfl (fun c_7 => ?_) (fun c_7 => ?_)
    · refine xi_iload_n (q := 16) dX9_lateOf_15 rfl rfl ?_
      refine xi_iconst (x := 4) (q := 17) dX9_lateOf_16 (by decide) rfl ?_
      refine xi_icmp_lt (q := 20) (q2 := 32) dX9_lateOf_17 (by decide) rfl (fun c_17 => ?_) (fun c_17 => ?_)
      · refine xi_iconst (x := 0) (q := 33) dX9_lateOf_32 (by decide) rfl ?_
        refine xi_ret ⟨_, rfl, rfl, dX9_lateOf_33⟩ (Nat.zero_le _) (Nat.zero_le _) ?_
        exact xv_eqr hp (by unfold xs_late; simp only [xn_lt, xn_le, show (1 : Int32).toInt = 1 from rfl, show (3 : Int32).toInt = 3 from rfl, show (4 : Int32).toInt = 4 from rfl, show (6 : Int32).toInt = 6 from rfl] at *; first | (exfalso; omega) | rw [if_neg (show ¬ (1 ≤ s.toInt ∧ s.toInt ≤ 3) by omega), if_neg (show ¬ (4 ≤ s.toInt ∧ s.toInt ≤ 6) by omega)] | rw [if_neg (show ¬ (1 ≤ s.toInt ∧ s.toInt ≤ 3) by omega), if_pos (show 4 ≤ s.toInt ∧ s.toInt ≤ 6 by omega)] | rw [if_pos (show 1 ≤ s.toInt ∧ s.toInt ≤ 3 by omega)] | omega)
      · refine xi_iload_n (q := 21) dX9_lateOf_20 rfl rfl ?_
        refine xi_bipush (x := 6) (q := 23) dX9_lateOf_21 (by decide) rfl ?_
        refine xi_icmp_gt (q := 26) (q2 := 32) dX9_lateOf_23 (by decide) rfl (fun c_23 => ?_) (fun c_23 => ?_)
        · refine xi_iconst (x := 0) (q := 33) dX9_lateOf_32 (by decide) rfl ?_
          refine xi_ret ⟨_, rfl, rfl, dX9_lateOf_33⟩ (Nat.zero_le _) (Nat.zero_le _) ?_
          exact xv_eqr hp (by unfold xs_late; simp only [xn_lt, xn_le, show (1 : Int32).toInt = 1 from rfl, show (3 : Int32).toInt = 3 from rfl, show (4 : Int32).toInt = 4 from rfl, show (6 : Int32).toInt = 6 from rfl] at *; first | (exfalso; omega) | rw [if_neg (show ¬ (1 ≤ s.toInt ∧ s.toInt ≤ 3) by omega), if_neg (show ¬ (4 ≤ s.toInt ∧ s.toInt ≤ 6) by omega)] | rw [if_neg (show ¬ (1 ≤ s.toInt ∧ s.toInt ≤ 3) by omega), if_pos (show 4 ≤ s.toInt ∧ s.toInt ≤ 6 by omega)] | rw [if_pos (show 1 ≤ s.toInt ∧ s.toInt ≤ 3 by omega)] | omega)
        · refine xi_iload_n (q := 27) dX9_lateOf_26 rfl rfl ?_
          refine xi_iconst (x := 3) (q := 28) dX9_lateOf_27 (by decide) rfl ?_
          refine xi_isub (q := 29) dX9_lateOf_28 rfl ?_
          refine xi_goto (q := 33) dX9_lateOf_29 (by decide) ?_
          refine xi_ret ⟨_, rfl, rfl, dX9_lateOf_33⟩ (Nat.zero_le _) (Nat.zero_le _) ?_
          exact xv_eqr hp (by unfold xs_late; simp only [xn_lt, xn_le, show (1 : Int32).toInt = 1 from rfl, show (3 : Int32).toInt = 3 from rfl, show (4 : Int32).toInt = 4 from rfl, show (6 : Int32).toInt = 6 from rfl] at *; first | (exfalso; omega) | rw [if_neg (show ¬ (1 ≤ s.toInt ∧ s.toInt ≤ 3) by omega), if_neg (show ¬ (4 ≤ s.toInt ∧ s.toInt ≤ 6) by omega)] | rw [if_neg (show ¬ (1 ≤ s.toInt ∧ s.toInt ≤ 3) by omega), if_pos (show 4 ≤ s.toInt ∧ s.toInt ≤ 6 by omega)] | rw [if_pos (show 1 ≤ s.toInt ∧ s.toInt ≤ 3 by omega)] | omega)
    · refine xi_iload_n (q := 11) dX9_lateOf_10 rfl rfl ?_
      refine xi_ineg (q := 12) dX9_lateOf_11 rfl ?_
      refine xi_goto (q := 33) dX9_lateOf_12 (by decide) ?_
      refine xi_ret ⟨_, rfl, rfl, dX9_lateOf_33⟩ (Nat.zero_le _) (Nat.zero_le _) ?_
      exact xv_eqr hp (by unfold xs_late; simp only [xn_lt, xn_le, show (1 : Int32).toInt = 1 from rfl, show (3 : Int32).toInt = 3 from rfl, show (4 : Int32).toInt = 4 from rfl, show (6 : Int32).toInt = 6 from rfl] at *; first | (exfalso; omega) | rw [if_neg (show ¬ (1 ≤ s.toInt ∧ s.toInt ≤ 3) by omega), if_neg (show ¬ (4 ≤ s.toInt ∧ s.toInt ≤ 6) by omega)] | rw [if_neg (show ¬ (1 ≤ s.toInt ∧ s.toInt ≤ 3) by omega), if_pos (show 4 ≤ s.toInt ∧ s.toInt ≤ 6 by omega)] | rw [if_pos (show 1 ≤ s.toInt ∧ s.toInt ≤ 3 by omega)] | omega)

set_option maxRecDepth 20000 in
set_option maxHeartbeats 2000000 in
/-- leakOf -/
theorem xm_X9_leakOf : xv_K yX9_leakOf mX9_leakOf (fun as h n Post => ∃ (s : Int32), as = [.int s] ∧ Post (some (.int (xs_leak s))) h n) := by
  refine xv_entry (by decide +kernel) rfl (fun h => absurd h (by decide)) ?_
  rintro X _ h n Post ⟨s, rfl, hp⟩
  refine ⟨Nat.le_of_ble_eq_true rfl, ?_⟩
  show xv_V X mX9_leakOf Post 0 0 0 [(0, .int s)] [] h n
  refine xi_iload_n (q := 1) dX9_leakOf_0 rfl rfl ?_
  refine xi_bipush (x := 7) (q := 3) dX9_leakOf_1 (by decide) rfl ?_
  refine xi_icmp_ne (q := 6) (q2 := 10) dX9_leakOf_3 (by decide) rfl (fun c_3 => ?_) (fun c_3 => ?_)
  · refine xi_iload_n (q := 11) dX9_leakOf_10 rfl rfl ?_
    refine xi_bipush (x := 8) (q := 13) dX9_leakOf_11 (by decide) rfl ?_
    refine xi_icmp_ne (q := 16) (q2 := 21) dX9_leakOf_13 (by decide) rfl (fun c_13 => ?_) (fun c_13 => ?_)
    · refine xi_iload_n (q := 22) dX9_leakOf_21 rfl rfl ?_
      refine xi_bipush (x := 9) (q := 24) dX9_leakOf_22 (by decide) rfl ?_
      refine xi_icmp_ne (q := 27) (q2 := 32) dX9_leakOf_24 (by decide) rfl (fun c_24 => ?_) (fun c_24 => ?_)
      · refine xi_iconst (x := 0) (q := 33) dX9_leakOf_32 (by decide) rfl ?_
        refine xi_ret ⟨_, rfl, rfl, dX9_leakOf_33⟩ (Nat.zero_le _) (Nat.zero_le _) ?_
        exact xv_eqr hp (by unfold xs_leak; simp [*])
      · refine xi_bipush (x := 20) (q := 29) dX9_leakOf_27 (by decide) rfl ?_
        refine xi_goto (q := 33) dX9_leakOf_29 (by decide) ?_
        refine xi_ret ⟨_, rfl, rfl, dX9_leakOf_33⟩ (Nat.zero_le _) (Nat.zero_le _) ?_
        exact xv_eqr hp (by unfold xs_leak; simp [*])
    · refine xi_bipush (x := 10) (q := 18) dX9_leakOf_16 (by decide) rfl ?_
      refine xi_goto (q := 33) dX9_leakOf_18 (by decide) ?_
      refine xi_ret ⟨_, rfl, rfl, dX9_leakOf_33⟩ (Nat.zero_le _) (Nat.zero_le _) ?_
      exact xv_eqr hp (by unfold xs_leak; simp [*])
  · refine xi_iconst (x := 5) (q := 7) dX9_leakOf_6 (by decide) rfl ?_
    refine xi_goto (q := 33) dX9_leakOf_7 (by decide) ?_
    refine xi_ret ⟨_, rfl, rfl, dX9_leakOf_33⟩ (Nat.zero_le _) (Nat.zero_le _) ?_
    exact xv_eqr hp (by unfold xs_leak; simp [*])

set_option maxRecDepth 20000 in
set_option maxHeartbeats 2000000 in
/-- chokedOf -/
theorem xm_X9_chokedOf : xv_K yX9_chokedOf mX9_chokedOf (fun as h n Post => ∃ (s : Int32), as = [.int s] ∧ Post (some (.int (xs_chk s))) h n) := by
  refine xv_entry (by decide +kernel) rfl (fun h => absurd h (by decide)) ?_
  rintro X _ h n Post ⟨s, rfl, hp⟩
  refine ⟨Nat.le_of_ble_eq_true rfl, ?_⟩
  show xv_V X mX9_chokedOf Post 0 0 0 [(0, .int s)] [] h n
  refine xi_iload_n (q := 1) dX9_chokedOf_0 rfl rfl ?_
  refine xi_bipush (x := 10) (q := 3) dX9_chokedOf_1 (by decide) rfl ?_
  refine xi_icmp_ne (q := 6) (q2 := 11) dX9_chokedOf_3 (by decide) rfl (fun c_3 => ?_) (fun c_3 => ?_)
  · refine xi_iload_n (q := 12) dX9_chokedOf_11 rfl rfl ?_
    refine xi_bipush (x := 11) (q := 14) dX9_chokedOf_12 (by decide) rfl ?_
    refine xi_icmp_ne (q := 17) (q2 := 22) dX9_chokedOf_14 (by decide) rfl (fun c_14 => ?_) (fun c_14 => ?_)
    · refine xi_iload_n (q := 23) dX9_chokedOf_22 rfl rfl ?_
      refine xi_bipush (x := 12) (q := 25) dX9_chokedOf_23 (by decide) rfl ?_
      refine xi_icmp_ne (q := 28) (q2 := 33) dX9_chokedOf_25 (by decide) rfl (fun c_25 => ?_) (fun c_25 => ?_)
      · refine xi_iconst (x := 0) (q := 34) dX9_chokedOf_33 (by decide) rfl ?_
        refine xi_ret ⟨_, rfl, rfl, dX9_chokedOf_34⟩ (Nat.zero_le _) (Nat.zero_le _) ?_
        exact xv_eqr hp (by unfold xs_chk; simp [*])
      · refine xi_bipush (x := 100) (q := 30) dX9_chokedOf_28 (by decide) rfl ?_
        refine xi_goto (q := 34) dX9_chokedOf_30 (by decide) ?_
        refine xi_ret ⟨_, rfl, rfl, dX9_chokedOf_34⟩ (Nat.zero_le _) (Nat.zero_le _) ?_
        exact xv_eqr hp (by unfold xs_chk; simp [*])
    · refine xi_bipush (x := 50) (q := 19) dX9_chokedOf_17 (by decide) rfl ?_
      refine xi_goto (q := 34) dX9_chokedOf_19 (by decide) ?_
      refine xi_ret ⟨_, rfl, rfl, dX9_chokedOf_34⟩ (Nat.zero_le _) (Nat.zero_le _) ?_
      exact xv_eqr hp (by unfold xs_chk; simp [*])
  · refine xi_bipush (x := 20) (q := 8) dX9_chokedOf_6 (by decide) rfl ?_
    refine xi_goto (q := 34) dX9_chokedOf_8 (by decide) ?_
    refine xi_ret ⟨_, rfl, rfl, dX9_chokedOf_34⟩ (Nat.zero_le _) (Nat.zero_le _) ?_
    exact xv_eqr hp (by unfold xs_chk; simp [*])

set_option maxRecDepth 20000 in
set_option maxHeartbeats 2000000 in
/-- pistonAt -/
theorem xm_X9_pistonAt : xv_K yX9_pistonAt mX9_pistonAt (fun as h n Post => ∃ (fa : Nat → Int32) (dk : Int64) (nu : Nat → Int32) (p : Nat) (k : Int32), as = [.ref 83, .int (nI p), .int k] ∧ (xs_MW h fa dk nu) ∧ (103 < n) ∧ (p < 7) ∧ (xs_ok0 (nu (12 * p + 0))) ∧ Post (some (.int (xs_pis (nu (12 * p + 0)) k))) h n) := by
  refine xv_entry (by decide +kernel) rfl (fun h => absurd h (by decide)) ?_
  rintro X _ h n Post ⟨fa, dk, nu, p, k, rfl, hW, h103, hp7, hr, hp⟩
  refine ⟨Nat.le_of_ble_eq_true rfl, ?_⟩
  show xv_V X mX9_pistonAt Post 0 0 0 [(0, .ref 83), (1, .int (nI p)), (2, .int k)] [] h n
  refine xi_aload_n (q := 1) dX9_pistonAt_0 rfl rfl ?_
  refine xi_getf (q := 4) dX9_pistonAt_1 fl_X9_23 ⟨by omega, hW.1⟩ rfl rfl ?_
  refine xi_bipush (x := 12) (q := 6) dX9_pistonAt_4 (by decide) rfl ?_
  refine xi_iload_n (q := 7) dX9_pistonAt_6 rfl rfl ?_
  refine xi_imul (q := 8) dX9_pistonAt_7 rfl ?_
  refine xi_iconst (x := 0) (q := 9) dX9_pistonAt_8 (by decide) rfl ?_
  refine xi_iadd (q := 10) dX9_pistonAt_9 rfl ?_
  refine xi_iald (q := 11) dX9_pistonAt_10 ⟨by omega, hW.2.1⟩ (xn_ix12 (j := 0) hp7 (by omega)) rfl ?_
  refine xi_istore_n (q := 12) dX9_pistonAt_11 (Nat.le_of_ble_eq_true rfl) rfl ?_
  refine xi_sipush (x := 10000) (q := 15) dX9_pistonAt_12 (by decide) rfl ?_
  refine xi_aload_n (q := 16) dX9_pistonAt_15 rfl rfl ?_
  refine xi_iload_n (q := 17) dX9_pistonAt_16 rfl rfl ?_
  refine xv_cV1 (q := 20) xm_X9_along ln_X9_135 dX9_pistonAt_17 ⟨by omega, hW.1⟩ rfl ⟨(Nat.le_of_ble_eq_true rfl), (Nat.le_of_ble_eq_true rfl)⟩ (Nat.le_of_ble_eq_true rfl) ⟨rfl, rfl⟩ rfl (Nat.zero_le _) (Nat.zero_le _) ?_
  refine ⟨_, _, _, _, rfl, hW, by omega, ?_⟩
  refine xi_isub (q := 21) dX9_pistonAt_20 rfl ?_
  refine xi_bipush (x := 20) (q := 23) dX9_pistonAt_21 (by decide) rfl ?_
  refine xi_idiv (q := 24) dX9_pistonAt_23 (by decide) rfl ?_
  refine xi_iload_n (q := 25) dX9_pistonAt_24 rfl rfl ?_
  refine xi_if_ne (q := 28) (q2 := 32) dX9_pistonAt_25 (by decide) rfl (fun c_25 => ?_) (fun c_25 => ?_)
  · refine xi_aload_n (q := 33) dX9_pistonAt_32 rfl rfl ?_
    refine xi_iload_n (q := 34) dX9_pistonAt_33 rfl rfl ?_
    refine xv_cV1 (q := 37) xm_X9_across ln_X9_138 dX9_pistonAt_34 ⟨by omega, hW.1⟩ rfl ⟨(Nat.le_of_ble_eq_true rfl), (Nat.le_of_ble_eq_true rfl)⟩ (Nat.le_of_ble_eq_true rfl) ⟨rfl, rfl⟩ rfl (Nat.zero_le _) (Nat.zero_le _) ?_
    refine ⟨_, _, _, _, rfl, hW, by omega, ?_⟩
    refine xi_aload_n (q := 38) dX9_pistonAt_37 rfl rfl ?_
    refine xi_iload_n (q := 39) dX9_pistonAt_38 rfl rfl ?_
    refine xv_cV1 (q := 42) xm_X9_across ln_X9_138 dX9_pistonAt_39 ⟨by omega, hW.1⟩ rfl ⟨(Nat.le_of_ble_eq_true rfl), (Nat.le_of_ble_eq_true rfl)⟩ (Nat.le_of_ble_eq_true rfl) ⟨rfl, rfl⟩ rfl (Nat.zero_le _) (Nat.zero_le _) ?_
    refine ⟨_, _, _, _, rfl, hW, by omega, ?_⟩
    refine xi_imul (q := 43) dX9_pistonAt_42 rfl ?_
    refine xi_ldc (q := 45) dX9_pistonAt_43 kc_X9_141 rfl ?_
    refine xi_iload_n (q := 46) dX9_pistonAt_45 rfl rfl ?_
    refine xi_imul (q := 47) dX9_pistonAt_46 rfl ?_
    refine xi_idiv (q := 48) dX9_pistonAt_47 (xn_nz4 hr c_25) rfl ?_
    refine xi_iadd (q := 49) dX9_pistonAt_48 rfl ?_
    refine xi_ret ⟨_, rfl, rfl, dX9_pistonAt_49⟩ (Nat.zero_le _) (Nat.zero_le _) ?_
    exact xv_eqr hp (by unfold xs_pis; rw [if_neg c_25])
  · refine xi_iconst (x := 0) (q := 29) dX9_pistonAt_28 (by decide) rfl ?_
    refine xi_goto (q := 48) dX9_pistonAt_29 (by decide) ?_
    refine xi_iadd (q := 49) dX9_pistonAt_48 rfl ?_
    refine xi_ret ⟨_, rfl, rfl, dX9_pistonAt_49⟩ (Nat.zero_le _) (Nat.zero_le _) ?_
    exact xv_eqr hp (by unfold xs_pis; rw [if_pos c_25])

def xs_nr (nu : Nat → Int32) (p : Nat) : Nat → Int32 := fun j => nu (12 * p + j)
set_option maxRecDepth 20000 in
set_option maxHeartbeats 2000000 in
/-- valveAt -/
theorem xm_X9_valveAt : xv_K yX9_valveAt mX9_valveAt (fun as h n Post => ∃ (fa : Nat → Int32) (dk : Int64) (nu : Nat → Int32) (p : Nat) (m : Int32) (k : Int32), as = [.ref 83, .int (nI p), .int m, .int k] ∧ (xs_MW h fa dk nu) ∧ (103 < n) ∧ (p < 7) ∧ Post (some (.int (xs_val (xs_nr nu p) (nu (12 * p + 11)) m k))) h n) := by
  refine xv_entry (by decide +kernel) rfl (fun h => absurd h (by decide)) ?_
  rintro X _ h n Post ⟨fa, dk, nu, p, m, k, rfl, hW, h103, hp7, hp⟩
  refine ⟨Nat.le_of_ble_eq_true rfl, ?_⟩
  show xv_V X mX9_valveAt Post 0 0 0 [(0, .ref 83), (1, .int (nI p)), (2, .int m), (3, .int k)] [] h n
  refine xi_bipush (x := 12) (q := 2) dX9_valveAt_0 (by decide) rfl ?_
  refine xi_iload_n (q := 3) dX9_valveAt_2 rfl rfl ?_
  refine xi_imul (q := 4) dX9_valveAt_3 rfl ?_
  refine xi_istore (q := 6) dX9_valveAt_4 (Nat.le_of_ble_eq_true rfl) rfl ?_
  refine xi_aload_n (q := 7) dX9_valveAt_6 rfl rfl ?_
  refine xi_iload_n (q := 8) dX9_valveAt_7 rfl rfl ?_
  refine xi_aload_n (q := 9) dX9_valveAt_8 rfl rfl ?_
  refine xi_getf (q := 12) dX9_valveAt_9 fl_X9_23 ⟨by omega, hW.1⟩ rfl rfl ?_
  refine xi_iload (q := 14) dX9_valveAt_12 rfl rfl ?_
  refine xi_iconst (x := 2) (q := 15) dX9_valveAt_14 (by decide) rfl ?_
  refine xi_iadd (q := 16) dX9_valveAt_15 rfl ?_
  refine xi_iald (q := 17) dX9_valveAt_16 ⟨by omega, hW.2.1⟩ (xn_ix12 (j := 2) hp7 (by omega)) rfl ?_
  refine xi_iadd (q := 18) dX9_valveAt_17 rfl ?_
  refine xi_aload_n (q := 19) dX9_valveAt_18 rfl rfl ?_
  refine xi_getf (q := 22) dX9_valveAt_19 fl_X9_23 ⟨by omega, hW.1⟩ rfl rfl ?_
  refine xi_iload (q := 24) dX9_valveAt_22 rfl rfl ?_
  refine xi_bipush (x := 11) (q := 26) dX9_valveAt_24 (by decide) rfl ?_
  refine xi_iadd (q := 27) dX9_valveAt_26 rfl ?_
  refine xi_iald (q := 28) dX9_valveAt_27 ⟨by omega, hW.2.1⟩ (xn_ix12 (j := 11) hp7 (by omega)) rfl ?_
  refine xv_cS1 (q := 31) xm_X9_lateOf ln_X9_142 dX9_valveAt_28 ⟨(Nat.le_of_ble_eq_true rfl), (Nat.le_of_ble_eq_true rfl)⟩ (Nat.le_of_ble_eq_true rfl) ⟨rfl, rfl⟩ rfl (Nat.zero_le _) (Nat.zero_le _) ?_
  refine ⟨_, rfl, ?_⟩
  refine xi_iadd (q := 32) dX9_valveAt_31 rfl ?_
  refine xv_cV1 (q := 35) xm_X9_across ln_X9_138 dX9_valveAt_32 ⟨by omega, hW.1⟩ rfl ⟨(Nat.le_of_ble_eq_true rfl), (Nat.le_of_ble_eq_true rfl)⟩ (Nat.le_of_ble_eq_true rfl) ⟨rfl, rfl⟩ rfl (Nat.zero_le _) (Nat.zero_le _) ?_
  refine ⟨_, _, _, _, rfl, hW, by omega, ?_⟩
  refine xi_istore (q := 37) dX9_valveAt_35 (Nat.le_of_ble_eq_true rfl) rfl ?_
  refine xi_aload_n (q := 38) dX9_valveAt_37 rfl rfl ?_
  refine xi_aload_n (q := 39) dX9_valveAt_38 rfl rfl ?_
  refine xi_getf (q := 42) dX9_valveAt_39 fl_X9_23 ⟨by omega, hW.1⟩ rfl rfl ?_
  refine xi_iload (q := 44) dX9_valveAt_42 rfl rfl ?_
  refine xi_iconst (x := 2) (q := 45) dX9_valveAt_44 (by decide) rfl ?_
  refine xi_iadd (q := 46) dX9_valveAt_45 rfl ?_
  refine xi_iald (q := 47) dX9_valveAt_46 ⟨by omega, hW.2.1⟩ (xn_ix12 (j := 2) hp7 (by omega)) rfl ?_
  refine xi_iload_n (q := 48) dX9_valveAt_47 rfl rfl ?_
  refine xi_isub (q := 49) dX9_valveAt_48 rfl ?_
  refine xv_cV1 (q := 52) xm_X9_across ln_X9_138 dX9_valveAt_49 ⟨by omega, hW.1⟩ rfl ⟨(Nat.le_of_ble_eq_true rfl), (Nat.le_of_ble_eq_true rfl)⟩ (Nat.le_of_ble_eq_true rfl) ⟨rfl, rfl⟩ rfl (Nat.zero_le _) (Nat.zero_le _) ?_
  refine ⟨_, _, _, _, rfl, hW, by omega, ?_⟩
  refine xi_istore (q := 54) dX9_valveAt_52 (Nat.le_of_ble_eq_true rfl) rfl ?_
  refine xi_aload_n (q := 55) dX9_valveAt_54 rfl rfl ?_
  refine xi_getf (q := 58) dX9_valveAt_55 fl_X9_23 ⟨by omega, hW.1⟩ rfl rfl ?_
  refine xi_iload (q := 60) dX9_valveAt_58 rfl rfl ?_
  refine xi_iconst (x := 1) (q := 61) dX9_valveAt_60 (by decide) rfl ?_
  refine xi_iadd (q := 62) dX9_valveAt_61 rfl ?_
  refine xi_iald (q := 63) dX9_valveAt_62 ⟨by omega, hW.2.1⟩ (xn_ix12 (j := 1) hp7 (by omega)) rfl ?_
  refine xi_bipush (x := 6) (q := 65) dX9_valveAt_63 (by decide) rfl ?_
  refine xi_iload_n (q := 66) dX9_valveAt_65 rfl rfl ?_
  refine xi_iadd (q := 67) dX9_valveAt_66 rfl ?_
  refine xi_iload (q := 69) dX9_valveAt_67 rfl rfl ?_
  refine xi_imul (q := 70) dX9_valveAt_69 rfl ?_
  refine xi_bipush (x := 6) (q := 72) dX9_valveAt_70 (by decide) rfl ?_
  refine xi_iload_n (q := 73) dX9_valveAt_72 rfl rfl ?_
  refine xi_isub (q := 74) dX9_valveAt_73 rfl ?_
  refine xi_iload (q := 76) dX9_valveAt_74 rfl rfl ?_
  refine xi_imul (q := 77) dX9_valveAt_76 rfl ?_
  refine xi_iadd (q := 78) dX9_valveAt_77 rfl ?_
  refine xi_imul (q := 79) dX9_valveAt_78 rfl ?_
  refine xi_ldc (q := 81) dX9_valveAt_79 kc_X9_145 rfl ?_
  refine xi_idiv (q := 82) dX9_valveAt_81 (by decide) rfl ?_
  refine xi_aload_n (q := 83) dX9_valveAt_82 rfl rfl ?_
  refine xi_getf (q := 86) dX9_valveAt_83 fl_X9_23 ⟨by omega, hW.1⟩ rfl rfl ?_
  refine xi_iload (q := 88) dX9_valveAt_86 rfl rfl ?_
  refine xi_iconst (x := 3) (q := 89) dX9_valveAt_88 (by decide) rfl ?_
  refine xi_iadd (q := 90) dX9_valveAt_89 rfl ?_
  refine xi_iald (q := 91) dX9_valveAt_90 ⟨by omega, hW.2.1⟩ (xn_ix12 (j := 3) hp7 (by omega)) rfl ?_
  refine xi_iload_n (q := 92) dX9_valveAt_91 rfl rfl ?_
  refine xi_imul (q := 93) dX9_valveAt_92 rfl ?_
  refine xi_bipush (x := 6) (q := 95) dX9_valveAt_93 (by decide) rfl ?_
  refine xi_idiv (q := 96) dX9_valveAt_95 (by decide) rfl ?_
  refine xi_iadd (q := 97) dX9_valveAt_96 rfl ?_
  refine xi_ret ⟨_, rfl, rfl, dX9_valveAt_97⟩ (Nat.zero_le _) (Nat.zero_le _) ?_
  exact hp

