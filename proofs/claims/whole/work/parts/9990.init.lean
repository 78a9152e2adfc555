section
variable {X : Nat × (Nat → Int32)} {M : xv_M} {Post : xv_P} {cells slots pc q : Nat} {lv : List (Nat × Value)} {st : List Value} {h : xv_H} {n : Nat} {a : Nat}
theorem xv_cI {i : Nat} {y : MethodName} {M' : xv_M} {Pre : List Value → xv_H → Nat → xv_P → Prop} (hK : xv_K y M' Pre) (hL : xv_lI M.1 i y M' 0) (hd : decode M.2.1 pc = .ok (.invokespecial i, 3)) (hfit : xv_fit M.2.2.2.2.2 M'.2.2.2.2.2 M'.2.2.1) (hcat : (st.map fun v => v.category).sum ≤ 8) (hcl : cells + M'.2.2.2.2.2.cells ≤ M.2.2.2.2.2.cells) (hsl : slots + M'.2.2.2.2.2.slots ≤ M.2.2.2.2.2.slots) (hq : pc + 3 = q)
    (hpre : Pre [.ref a] h n (fun v h' n' => xv_V X M Post (cells + M'.2.2.2.2.2.cells) (slots + M'.2.2.2.2.2.slots) q lv (xv_pu v st) h' n')) : xv_V X M Post cells slots pc lv (.ref a :: st) h n :=
  xv_callI (as := []) hK hL hd rfl hfit hcat hcl hsl hq hpre
end
theorem xv_mh0 {h : xv_H} {n N K i : Nat} (hi : i < n) : xv_mh h n N K i = h i := by
  unfold xv_mh
  rw [if_neg (by omega), if_neg (by omega)]
theorem xv_mhn {h : xv_H} {n N K : Nat} : xv_mh h n N K n = .inl (.array .int, N, .inr (.inr (.inr (.inr (fun k => if k < N then some (n + 1 + k) else none))))) := if_pos rfl
theorem xv_mhr {h : xv_H} {n N K k : Nat} (hk : k < N) : xv_mh h n N K (n + 1 + k) = .inl (.int, K, .inl (fun _ => 0)) := by
  unfold xv_mh
  rw [if_neg (by omega), if_pos (by omega)]
def xs_z0 : Nat → Int32 := fun _ => 0
def xs_σ0 : xs_Sg := fun _ _ _ => 0
set_option maxRecDepth 20000 in
set_option maxHeartbeats 2000000 in
/-- <init> -/
theorem xm_X0_init : xv_K yX0_init mX0_init (fun as h n Post => ∃ (a : Nat), as = [.ref a] ∧ (a < n) ∧ (h a = .inr (0, [.null, .int 0, .int 0])) ∧ (n < 900) ∧ (∀ h' : xv_H, h' a = .inr (0, [.ref n, .int 0, .int 0]) → h' n = .inl (.int, 11, .inl xs_z0) → (∀ i, i ≠ a → i ≠ n → h' i = h i) → Post none h' (n + 1))) := by
  refine xv_entry (by decide +kernel) rfl (fun _ => rfl) ?_
  rintro X _ h n Post ⟨a, rfl, ha, h0, hn, hp⟩
  refine ⟨Nat.le_of_ble_eq_true rfl, ?_⟩
  show xv_V X mX0_init Post 0 0 0 [(0, .ref a)] [] h n
  refine xi_aload_n (q := 1) dX0_init_0 rfl rfl ?_
  refine xi_objInit (q := 4) dX0_init_1 ln_X0_3 (Nat.le_of_ble_eq_true rfl) (Nat.le_of_ble_eq_true rfl) rfl ?_
  refine xi_aload_n (q := 5) dX0_init_4 rfl rfl ?_
  refine xi_bipush (x := 11) (q := 7) dX0_init_5 (by decide) rfl ?_
  refine xi_newa (q := 9) dX0_init_7 rfl ac_int (fun _ => rfl) (by decide) rfl (Nat.le_of_ble_eq_true rfl) (by omega) (Nat.le_of_ble_eq_true rfl) (Nat.le_of_ble_eq_true rfl) rfl ?_
  refine xi_putf (q := 12) dX0_init_9 fl_X0_9 (xv_keep (by omega) ⟨by omega, h0⟩) (Or.inr ⟨rfl, fun q hq => by cases hq; rfl⟩) (fun _ => rfl) (fun _ => rfl) (Nat.le_of_ble_eq_true rfl) rfl ?_
  refine xi_vret ⟨rfl, dX0_init_12⟩ (Nat.le_of_ble_eq_true rfl) (Nat.le_of_ble_eq_true rfl) ?_
  exact hp _ ((va_up_self _ _ _).trans rfl) ((va_up_ne _ _ (by omega)).trans (va_up_self _ _ _)) (fun i i1 i2 => (va_up_ne _ _ i1).trans (va_up_ne _ _ i2))

set_option maxRecDepth 20000 in
set_option maxHeartbeats 2000000 in
/-- <init> -/
theorem xm_X2_init : xv_K yX2_init mX2_init (fun as h n Post => ∃ (a : Nat), as = [.ref a] ∧ (a < n) ∧ (h a = .inr (2, [.null, .int 0, .int 0, .int 0])) ∧ (n < 900) ∧ (∀ h' : xv_H, h' a = .inr (2, [.ref n, .int 0, .int 0, .int 0]) → h' n = .inl (.int, 48, .inl xs_z0) → (∀ i, i ≠ a → i ≠ n → h' i = h i) → Post none h' (n + 1))) := by
  refine xv_entry (by decide +kernel) rfl (fun _ => rfl) ?_
  rintro X _ h n Post ⟨a, rfl, ha, h0, hn, hp⟩
  refine ⟨Nat.le_of_ble_eq_true rfl, ?_⟩
  show xv_V X mX2_init Post 0 0 0 [(0, .ref a)] [] h n
  refine xi_aload_n (q := 1) dX2_init_0 rfl rfl ?_
  refine xi_objInit (q := 4) dX2_init_1 ln_X2_3 (Nat.le_of_ble_eq_true rfl) (Nat.le_of_ble_eq_true rfl) rfl ?_
  refine xi_aload_n (q := 5) dX2_init_4 rfl rfl ?_
  refine xi_bipush (x := 48) (q := 7) dX2_init_5 (by decide) rfl ?_
  refine xi_newa (q := 9) dX2_init_7 rfl ac_int (fun _ => rfl) (by decide) rfl (Nat.le_of_ble_eq_true rfl) (by omega) (Nat.le_of_ble_eq_true rfl) (Nat.le_of_ble_eq_true rfl) rfl ?_
  refine xi_putf (q := 12) dX2_init_9 fl_X2_9 (xv_keep (by omega) ⟨by omega, h0⟩) (Or.inr ⟨rfl, fun q hq => by cases hq; rfl⟩) (fun _ => rfl) (fun _ => rfl) (Nat.le_of_ble_eq_true rfl) rfl ?_
  refine xi_vret ⟨rfl, dX2_init_12⟩ (Nat.le_of_ble_eq_true rfl) (Nat.le_of_ble_eq_true rfl) ?_
  exact hp _ ((va_up_self _ _ _).trans rfl) ((va_up_ne _ _ (by omega)).trans (va_up_self _ _ _)) (fun i i1 i2 => (va_up_ne _ _ i1).trans (va_up_ne _ _ i2))

set_option maxRecDepth 20000 in
set_option maxHeartbeats 2000000 in
/-- <init> -/
theorem xm_X4_init : xv_K yX4_init mX4_init (fun as h n Post => ∃ (a : Nat), as = [.ref a] ∧ (a < n) ∧ (h a = .inr (4, [.null, .int 0, .int 0])) ∧ (n < 900) ∧ (∀ h' : xv_H, h' a = .inr (4, [.ref n, .int 0, .int 0]) → h' n = .inl (.int, 13, .inl xs_z0) → (∀ i, i ≠ a → i ≠ n → h' i = h i) → Post none h' (n + 1))) := by
  refine xv_entry (by decide +kernel) rfl (fun _ => rfl) ?_
  rintro X _ h n Post ⟨a, rfl, ha, h0, hn, hp⟩
  refine ⟨Nat.le_of_ble_eq_true rfl, ?_⟩
  show xv_V X mX4_init Post 0 0 0 [(0, .ref a)] [] h n
  refine xi_aload_n (q := 1) dX4_init_0 rfl rfl ?_
  refine xi_objInit (q := 4) dX4_init_1 ln_X4_3 (Nat.le_of_ble_eq_true rfl) (Nat.le_of_ble_eq_true rfl) rfl ?_
  refine xi_aload_n (q := 5) dX4_init_4 rfl rfl ?_
  refine xi_bipush (x := 13) (q := 7) dX4_init_5 (by decide) rfl ?_
  refine xi_newa (q := 9) dX4_init_7 rfl ac_int (fun _ => rfl) (by decide) rfl (Nat.le_of_ble_eq_true rfl) (by omega) (Nat.le_of_ble_eq_true rfl) (Nat.le_of_ble_eq_true rfl) rfl ?_
  refine xi_putf (q := 12) dX4_init_9 fl_X4_9 (xv_keep (by omega) ⟨by omega, h0⟩) (Or.inr ⟨rfl, fun q hq => by cases hq; rfl⟩) (fun _ => rfl) (fun _ => rfl) (Nat.le_of_ble_eq_true rfl) rfl ?_
  refine xi_vret ⟨rfl, dX4_init_12⟩ (Nat.le_of_ble_eq_true rfl) (Nat.le_of_ble_eq_true rfl) ?_
  exact hp _ ((va_up_self _ _ _).trans rfl) ((va_up_ne _ _ (by omega)).trans (va_up_self _ _ _)) (fun i i1 i2 => (va_up_ne _ _ i1).trans (va_up_ne _ _ i2))

set_option maxRecDepth 20000 in
set_option maxHeartbeats 2000000 in
/-- <init> -/
theorem xm_X7_init : xv_K yX7_init mX7_init (fun as h n Post => ∃ (a : Nat), as = [.ref a] ∧ (a < n) ∧ (h a = .inr (7, [.null, .int 0, .int 0, .int 0])) ∧ (n < 900) ∧ (∀ h' : xv_H, h' a = .inr (7, [.ref n, .int 0, .int 0, .int 0]) → h' n = .inl (.int, 60, .inl xs_z0) → (∀ i, i ≠ a → i ≠ n → h' i = h i) → Post none h' (n + 1))) := by
  refine xv_entry (by decide +kernel) rfl (fun _ => rfl) ?_
  rintro X _ h n Post ⟨a, rfl, ha, h0, hn, hp⟩
  refine ⟨Nat.le_of_ble_eq_true rfl, ?_⟩
  show xv_V X mX7_init Post 0 0 0 [(0, .ref a)] [] h n
  refine xi_aload_n (q := 1) dX7_init_0 rfl rfl ?_
  refine xi_objInit (q := 4) dX7_init_1 ln_X7_3 (Nat.le_of_ble_eq_true rfl) (Nat.le_of_ble_eq_true rfl) rfl ?_
  refine xi_aload_n (q := 5) dX7_init_4 rfl rfl ?_
  refine xi_bipush (x := 60) (q := 7) dX7_init_5 (by decide) rfl ?_
  refine xi_newa (q := 9) dX7_init_7 rfl ac_int (fun _ => rfl) (by decide) rfl (Nat.le_of_ble_eq_true rfl) (by omega) (Nat.le_of_ble_eq_true rfl) (Nat.le_of_ble_eq_true rfl) rfl ?_
  refine xi_putf (q := 12) dX7_init_9 fl_X7_9 (xv_keep (by omega) ⟨by omega, h0⟩) (Or.inr ⟨rfl, fun q hq => by cases hq; rfl⟩) (fun _ => rfl) (fun _ => rfl) (Nat.le_of_ble_eq_true rfl) rfl ?_
  refine xi_vret ⟨rfl, dX7_init_12⟩ (Nat.le_of_ble_eq_true rfl) (Nat.le_of_ble_eq_true rfl) ?_
  exact hp _ ((va_up_self _ _ _).trans rfl) ((va_up_ne _ _ (by omega)).trans (va_up_self _ _ _)) (fun i i1 i2 => (va_up_ne _ _ i1).trans (va_up_ne _ _ i2))

set_option maxRecDepth 20000 in
set_option maxHeartbeats 2000000 in
/-- <init> -/
theorem xm_X1_init : xv_K yX1_init mX1_init (fun as h n Post => ∃ (a : Nat), as = [.ref a] ∧ Post none h n) := by
  refine xv_entry (by decide +kernel) rfl (fun _ => rfl) ?_
  rintro X _ h n Post ⟨a, rfl, hp⟩
  refine ⟨Nat.le_of_ble_eq_true rfl, ?_⟩
  show xv_V X mX1_init Post 0 0 0 [(0, .ref a)] [] h n
  refine xi_aload_n (q := 1) dX1_init_0 rfl rfl ?_
  refine xi_objInit (q := 4) dX1_init_1 ln_X1_1 (Nat.le_of_ble_eq_true rfl) (Nat.le_of_ble_eq_true rfl) rfl ?_
  refine xi_vret ⟨rfl, dX1_init_4⟩ (Nat.le_of_ble_eq_true rfl) (Nat.le_of_ble_eq_true rfl) ?_
  exact hp

set_option maxRecDepth 20000 in
set_option maxHeartbeats 2000000 in
/-- <init> -/
theorem xm_X3_init : xv_K yX3_init mX3_init (fun as h n Post => ∃ (a : Nat), as = [.ref a] ∧ (a < n) ∧ (h a = .inr (3, [.null, .int 0, .int 0, .int 0])) ∧ (n < 900) ∧ (∀ h' : xv_H, h' a = .inr (3, [.ref n, .int 0, .int 0, .int 0]) → (∀ i, i ≠ a → h' i = xv_mh h n 7 48 i) → Post none h' (n + 1 + 7))) := by
  refine xv_entry (by decide +kernel) rfl (fun _ => rfl) ?_
  rintro X _ h n Post ⟨a, rfl, ha, h0, hn, hp⟩
  refine ⟨Nat.le_of_ble_eq_true rfl, ?_⟩
  show xv_V X mX3_init Post 0 0 0 [(0, .ref a)] [] h n
  refine xi_aload_n (q := 1) dX3_init_0 rfl rfl ?_
  refine xi_objInit (q := 4) dX3_init_1 ln_X3_3 (Nat.le_of_ble_eq_true rfl) (Nat.le_of_ble_eq_true rfl) rfl ?_
  refine xi_aload_n (q := 5) dX3_init_4 rfl rfl ?_
  refine xi_bipush (x := 7) (q := 7) dX3_init_5 (by decide) rfl ?_
  refine xi_bipush (x := 48) (q := 9) dX3_init_7 (by decide) rfl ?_
  refine xi_mna (N := 7) (K := 48) (q := 13) dX3_init_9 mn_X3_9.1 mn_X3_9.2 (by decide) (by decide) rfl rfl (Nat.le_of_ble_eq_true rfl) (Nat.le_of_ble_eq_true rfl) (Nat.le_of_ble_eq_true rfl) (by omega) (Nat.le_of_ble_eq_true rfl) (Nat.le_of_ble_eq_true rfl) rfl ?_
  refine xi_putf (q := 16) dX3_init_13 fl_X3_11 ⟨by omega, (xv_mh0 ha).trans h0⟩ (Or.inr ⟨rfl, fun q hq => by cases hq; rfl⟩) (fun _ => rfl) (fun _ => rfl) (Nat.le_of_ble_eq_true rfl) rfl ?_
  refine xi_vret ⟨rfl, dX3_init_16⟩ (Nat.le_of_ble_eq_true rfl) (Nat.le_of_ble_eq_true rfl) ?_
  exact hp _ ((va_up_self _ _ _).trans rfl) (fun i i1 => va_up_ne _ _ i1)

set_option maxRecDepth 20000 in
set_option maxHeartbeats 2000000 in
/-- <init> -/
theorem xm_X5_init : xv_K yX5_init mX5_init (fun as h n Post => ∃ (a : Nat), as = [.ref a] ∧ (a < n) ∧ (h a = .inr (5, [.null, .null, .null, .null, .long 0, .int 0, .int 0])) ∧ (n < 900) ∧ (∀ h' : xv_H, h' a = .inr (5, [.ref n, .ref (n + 1), .ref (n + 1 + 1), .ref (n + 1 + 1 + 1), .long 0, .int 0, .int 0]) → h' n = .inl (.int, 48, .inl xs_z0) → h' (n + 1) = .inl (.int, 48, .inl xs_z0) → h' (n + 1 + 1) = .inl (.int, 48, .inl xs_z0) → h' (n + 1 + 1 + 1) = .inl (.int, 48, .inl xs_z0) → (∀ i, i ≠ a → i < n → h' i = h i) → Post none h' (n + 1 + 1 + 1 + 1))) := by
  refine xv_entry (by decide +kernel) rfl (fun _ => rfl) ?_
  rintro X _ h n Post ⟨a, rfl, ha, h0, hn, hp⟩
  refine ⟨Nat.le_of_ble_eq_true rfl, ?_⟩
  show xv_V X mX5_init Post 0 0 0 [(0, .ref a)] [] h n
  refine xi_aload_n (q := 1) dX5_init_0 rfl rfl ?_
  refine xi_objInit (q := 4) dX5_init_1 ln_X5_3 (Nat.le_of_ble_eq_true rfl) (Nat.le_of_ble_eq_true rfl) rfl ?_
  refine xi_aload_n (q := 5) dX5_init_4 rfl rfl ?_
  refine xi_bipush (x := 48) (q := 7) dX5_init_5 (by decide) rfl ?_
  refine xi_newa (q := 9) dX5_init_7 rfl ac_int (fun _ => rfl) (by decide) rfl (Nat.le_of_ble_eq_true rfl) (by omega) (Nat.le_of_ble_eq_true rfl) (Nat.le_of_ble_eq_true rfl) rfl ?_
  refine xi_putf (q := 12) dX5_init_9 fl_X5_9 (xv_keep (by omega) ⟨by omega, h0⟩) (Or.inr ⟨rfl, fun q hq => by cases hq; rfl⟩) (fun _ => rfl) (fun _ => rfl) (Nat.le_of_ble_eq_true rfl) rfl ?_
  refine xi_aload_n (q := 13) dX5_init_12 rfl rfl ?_
  refine xi_bipush (x := 48) (q := 15) dX5_init_13 (by decide) rfl ?_
  refine xi_newa (q := 17) dX5_init_15 rfl ac_int (fun _ => rfl) (by decide) rfl (Nat.le_of_ble_eq_true rfl) (by omega) (Nat.le_of_ble_eq_true rfl) (Nat.le_of_ble_eq_true rfl) rfl ?_
  refine xi_putf (q := 20) dX5_init_17 fl_X5_15 (xv_keep (by omega) (xv_self (by omega))) (Or.inr ⟨rfl, fun q hq => by cases hq; rfl⟩) (fun _ => rfl) (fun _ => rfl) (Nat.le_of_ble_eq_true rfl) rfl ?_
  refine xi_aload_n (q := 21) dX5_init_20 rfl rfl ?_
  refine xi_bipush (x := 48) (q := 23) dX5_init_21 (by decide) rfl ?_
  refine xi_newa (q := 25) dX5_init_23 rfl ac_int (fun _ => rfl) (by decide) rfl (Nat.le_of_ble_eq_true rfl) (by omega) (Nat.le_of_ble_eq_true rfl) (Nat.le_of_ble_eq_true rfl) rfl ?_
  refine xi_putf (q := 28) dX5_init_25 fl_X5_18 (xv_keep (by omega) (xv_self (by omega))) (Or.inr ⟨rfl, fun q hq => by cases hq; rfl⟩) (fun _ => rfl) (fun _ => rfl) (Nat.le_of_ble_eq_true rfl) rfl ?_
  refine xi_aload_n (q := 29) dX5_init_28 rfl rfl ?_
  refine xi_bipush (x := 48) (q := 31) dX5_init_29 (by decide) rfl ?_
  refine xi_newa (q := 33) dX5_init_31 rfl ac_int (fun _ => rfl) (by decide) rfl (Nat.le_of_ble_eq_true rfl) (by omega) (Nat.le_of_ble_eq_true rfl) (Nat.le_of_ble_eq_true rfl) rfl ?_
  refine xi_putf (q := 36) dX5_init_33 fl_X5_21 (xv_keep (by omega) (xv_self (by omega))) (Or.inr ⟨rfl, fun q hq => by cases hq; rfl⟩) (fun _ => rfl) (fun _ => rfl) (Nat.le_of_ble_eq_true rfl) rfl ?_
  refine xi_vret ⟨rfl, dX5_init_36⟩ (Nat.le_of_ble_eq_true rfl) (Nat.le_of_ble_eq_true rfl) ?_
  exact hp _ ((va_up_self _ _ _).trans rfl) ((va_up_ne _ _ (by omega)).trans ((va_up_ne _ _ (by omega)).trans ((va_up_ne _ _ (by omega)).trans ((va_up_ne _ _ (by omega)).trans ((va_up_ne _ _ (by omega)).trans ((va_up_ne _ _ (by omega)).trans ((va_up_ne _ _ (by omega)).trans ((va_up_self _ _ _).trans rfl)))))))) ((va_up_ne _ _ (by omega)).trans ((va_up_ne _ _ (by omega)).trans ((va_up_ne _ _ (by omega)).trans ((va_up_ne _ _ (by omega)).trans ((va_up_ne _ _ (by omega)).trans ((va_up_self _ _ _).trans rfl)))))) ((va_up_ne _ _ (by omega)).trans ((va_up_ne _ _ (by omega)).trans ((va_up_ne _ _ (by omega)).trans ((va_up_self _ _ _).trans rfl)))) ((va_up_ne _ _ (by omega)).trans ((va_up_self _ _ _).trans rfl)) (fun i i1 i2 => ((va_up_ne _ _ (by omega)).trans ((va_up_ne _ _ (by omega)).trans ((va_up_ne _ _ (by omega)).trans ((va_up_ne _ _ (by omega)).trans ((va_up_ne _ _ (by omega)).trans ((va_up_ne _ _ (by omega)).trans ((va_up_ne _ _ (by omega)).trans ((va_up_ne _ _ (by omega)).trans (Eq.refl _))))))))))

set_option maxRecDepth 20000 in
set_option maxHeartbeats 2000000 in
/-- <init> -/
theorem xm_X6_init : xv_K yX6_init mX6_init (fun as h n Post => ∃ (a : Nat), as = [.ref a] ∧ (a < n) ∧ (h a = .inr (6, [.null, .null, .null, .null, .null, .int 0, .int 0])) ∧ (n < 900) ∧ (∀ h' : xv_H, h' a = .inr (6, [.ref n, .ref (n + 1), .ref (n + 1 + 1), .ref (n + 1 + 1 + 1), .ref (n + 1 + 1 + 1 + 1 + 11), .int 0, .int 0]) → h' n = .inl (.int, 24, .inl xs_z0) → h' (n + 1) = .inl (.int, 24, .inl xs_z0) → h' (n + 1 + 1) = .inl (.int, 30, .inl xs_z0) → h' (n + 1 + 1 + 1) = .inl (.array .int, 11, .inr (.inr (.inr (.inr (fun k => if k < 11 then some (n + 1 + 1 + 1 + 1 + k) else none))))) → (∀ k, k < 11 → h' (n + 1 + 1 + 1 + 1 + k) = .inl (.int, 1001, .inl xs_z0)) → h' (n + 1 + 1 + 1 + 1 + 11) = .inl (.int, 40, .inl xs_z0) → (∀ i, i ≠ a → i < n → h' i = h i) → Post none h' (n + 1 + 1 + 1 + 1 + 11 + 1))) := by
  refine xv_entry (by decide +kernel) rfl (fun _ => rfl) ?_
  rintro X _ h n Post ⟨a, rfl, ha, h0, hn, hp⟩
  refine ⟨Nat.le_of_ble_eq_true rfl, ?_⟩
  show xv_V X mX6_init Post 0 0 0 [(0, .ref a)] [] h n
  refine xi_aload_n (q := 1) dX6_init_0 rfl rfl ?_
  refine xi_objInit (q := 4) dX6_init_1 ln_X6_3 (Nat.le_of_ble_eq_true rfl) (Nat.le_of_ble_eq_true rfl) rfl ?_
  refine xi_aload_n (q := 5) dX6_init_4 rfl rfl ?_
  refine xi_bipush (x := 24) (q := 7) dX6_init_5 (by decide) rfl ?_
  refine xi_newa (q := 9) dX6_init_7 rfl ac_int (fun _ => rfl) (by decide) rfl (Nat.le_of_ble_eq_true rfl) (by omega) (Nat.le_of_ble_eq_true rfl) (Nat.le_of_ble_eq_true rfl) rfl ?_
  refine xi_putf (q := 12) dX6_init_9 fl_X6_9 (xv_keep (by omega) ⟨by omega, h0⟩) (Or.inr ⟨rfl, fun q hq => by cases hq; rfl⟩) (fun _ => rfl) (fun _ => rfl) (Nat.le_of_ble_eq_true rfl) rfl ?_
  refine xi_aload_n (q := 13) dX6_init_12 rfl rfl ?_
  refine xi_bipush (x := 24) (q := 15) dX6_init_13 (by decide) rfl ?_
  refine xi_newa (q := 17) dX6_init_15 rfl ac_int (fun _ => rfl) (by decide) rfl (Nat.le_of_ble_eq_true rfl) (by omega) (Nat.le_of_ble_eq_true rfl) (Nat.le_of_ble_eq_true rfl) rfl ?_
  refine xi_putf (q := 20) dX6_init_17 fl_X6_15 (xv_keep (by omega) (xv_self (by omega))) (Or.inr ⟨rfl, fun q hq => by cases hq; rfl⟩) (fun _ => rfl) (fun _ => rfl) (Nat.le_of_ble_eq_true rfl) rfl ?_
  refine xi_aload_n (q := 21) dX6_init_20 rfl rfl ?_
  refine xi_bipush (x := 30) (q := 23) dX6_init_21 (by decide) rfl ?_
  refine xi_newa (q := 25) dX6_init_23 rfl ac_int (fun _ => rfl) (by decide) rfl (Nat.le_of_ble_eq_true rfl) (by omega) (Nat.le_of_ble_eq_true rfl) (Nat.le_of_ble_eq_true rfl) rfl ?_
  refine xi_putf (q := 28) dX6_init_25 fl_X6_18 (xv_keep (by omega) (xv_self (by omega))) (Or.inr ⟨rfl, fun q hq => by cases hq; rfl⟩) (fun _ => rfl) (fun _ => rfl) (Nat.le_of_ble_eq_true rfl) rfl ?_
  refine xi_aload_n (q := 29) dX6_init_28 rfl rfl ?_
  refine xi_bipush (x := 11) (q := 31) dX6_init_29 (by decide) rfl ?_
  refine xi_sipush (x := 1001) (q := 34) dX6_init_31 (by decide) rfl ?_
  refine xi_mna (N := 11) (K := 1001) (q := 38) dX6_init_34 mn_X6_21.1 mn_X6_21.2 (by decide) (by decide) rfl rfl (Nat.le_of_ble_eq_true rfl) (Nat.le_of_ble_eq_true rfl) (Nat.le_of_ble_eq_true rfl) (by omega) (Nat.le_of_ble_eq_true rfl) (Nat.le_of_ble_eq_true rfl) rfl ?_
  refine xi_putf (q := 41) dX6_init_38 fl_X6_23 ⟨by omega, (xv_mh0 (by omega)).trans ((va_up_self _ _ _).trans rfl)⟩ (Or.inr ⟨rfl, fun q hq => by cases hq; rfl⟩) (fun _ => rfl) (fun _ => rfl) (Nat.le_of_ble_eq_true rfl) rfl ?_
  refine xi_aload_n (q := 42) dX6_init_41 rfl rfl ?_
  refine xi_bipush (x := 40) (q := 44) dX6_init_42 (by decide) rfl ?_
  refine xi_newa (q := 46) dX6_init_44 rfl ac_int (fun _ => rfl) (by decide) rfl (Nat.le_of_ble_eq_true rfl) (by omega) (Nat.le_of_ble_eq_true rfl) (Nat.le_of_ble_eq_true rfl) rfl ?_
  refine xi_putf (q := 49) dX6_init_46 fl_X6_26 (xv_keep (by omega) (xv_self (by omega))) (Or.inr ⟨rfl, fun q hq => by cases hq; rfl⟩) (fun _ => rfl) (fun _ => rfl) (Nat.le_of_ble_eq_true rfl) rfl ?_
  refine xi_vret ⟨rfl, dX6_init_49⟩ (Nat.le_of_ble_eq_true rfl) (Nat.le_of_ble_eq_true rfl) ?_
  exact hp _ ((va_up_self _ _ _).trans rfl) ((va_up_ne _ _ (by omega)).trans ((va_up_ne _ _ (by omega)).trans ((va_up_ne _ _ (by omega)).trans ((xv_mh0 (by omega)).trans ((va_up_ne _ _ (by omega)).trans ((va_up_ne _ _ (by omega)).trans ((va_up_ne _ _ (by omega)).trans ((va_up_ne _ _ (by omega)).trans ((va_up_ne _ _ (by omega)).trans ((va_up_self _ _ _).trans rfl)))))))))) ((va_up_ne _ _ (by omega)).trans ((va_up_ne _ _ (by omega)).trans ((va_up_ne _ _ (by omega)).trans ((xv_mh0 (by omega)).trans ((va_up_ne _ _ (by omega)).trans ((va_up_ne _ _ (by omega)).trans ((va_up_ne _ _ (by omega)).trans ((va_up_self _ _ _).trans rfl)))))))) ((va_up_ne _ _ (by omega)).trans ((va_up_ne _ _ (by omega)).trans ((va_up_ne _ _ (by omega)).trans ((xv_mh0 (by omega)).trans ((va_up_ne _ _ (by omega)).trans ((va_up_self _ _ _).trans rfl)))))) ((va_up_ne _ _ (by omega)).trans ((va_up_ne _ _ (by omega)).trans ((va_up_ne _ _ (by omega)).trans xv_mhn))) (fun k hk => ((va_up_ne _ _ (by omega)).trans ((va_up_ne _ _ (by omega)).trans ((va_up_ne _ _ (by omega)).trans (xv_mhr hk))))) ((va_up_ne _ _ (by omega)).trans (va_up_self _ _ _)) (fun i i1 i2 => ((va_up_ne _ _ (by omega)).trans ((va_up_ne _ _ (by omega)).trans ((va_up_ne _ _ (by omega)).trans ((xv_mh0 (by omega)).trans ((va_up_ne _ _ (by omega)).trans ((va_up_ne _ _ (by omega)).trans ((va_up_ne _ _ (by omega)).trans ((va_up_ne _ _ (by omega)).trans ((va_up_ne _ _ (by omega)).trans ((va_up_ne _ _ (by omega)).trans (Eq.refl _))))))))))))

