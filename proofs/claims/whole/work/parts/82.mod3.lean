theorem xn_disA {a b : Int32} (h : a = -1000000 ∨ b = -1000000) : xs_dis a b = 24 := by
  unfold xs_dis
  rw [if_pos h, if_neg (by decide)]
theorem xn_disB {a b : Int32} (h : ¬ (a = -1000000 ∨ b = -1000000)) (h2 : xs_rnd (b - a - 24) ≤ 24) : xs_dis a b = xs_rnd (b - a - 24) := by
  unfold xs_dis
  rw [if_neg h, if_neg (xn_nlt h2)]
theorem xn_disC {a b : Int32} (h : ¬ (a = -1000000 ∨ b = -1000000)) (h2 : ¬ xs_rnd (b - a - 24) ≤ 24) : xs_dis a b = 48 - xs_rnd (b - a - 24) := by
  unfold xs_dis
  rw [if_neg h, if_pos (xn_ltn h2)]
set_option maxRecDepth 20000 in
set_option maxHeartbeats 2000000 in
/-- unlike -/
theorem xm_X9_unlike : xv_K yX9_unlike mX9_unlike (fun as h n Post => ∃ (fa : Nat → Int32) (dk : Int64) (nu : Nat → Int32) (p : Nat), as = [.ref 83, .int (nI p)] ∧ (xs_MW h fa dk nu) ∧ (103 < n) ∧ (p < 7) ∧ Post (some (.int (xs_unl (xs_nr nu p) (nu (12 * p + 11))))) h n) := by
  refine xv_entry (by decide +kernel) rfl (fun h => absurd h (by decide)) ?_
  rintro X _ h n Post ⟨fa, dk, nu, p, rfl, hW, h103, hp7, hp⟩
  refine ⟨Nat.le_of_ble_eq_true rfl, ?_⟩
  show xv_V X mX9_unlike Post 0 0 0 [(0, .ref 83), (1, .int (nI p))] [] h n
  have L4 : ∀ (d k : Nat), k + d = 6 → xv_V X mX9_unlike Post 0 0 4 [(0, .ref 83), (1, .int (nI p)), (2, .int (xs_ps (fun j => xs_un1 (xs_nr nu p) (nu (12 * p + 11)) (nI (j + 1))) k)), (3, .int (nI (k + 1)))] [] h n := by
    intro d
    induction d using Nat.strongRecOn with
    | _ d ih =>
      intro k hk
      refine xi_iload_n (q := 5) dX9_unlike_4 rfl rfl ?_
      refine xi_bipush (x := 7) (q := 7) dX9_unlike_5 (by decide) rfl ?_
      refine xi_icmp_ge (q := 10) (q2 := 88) dX9_unlike_7 (by decide) rfl (fun c_7 => ?_) (fun c_7 => ?_)
      · have hk2 : k = 6 := by have z : 7 ≤ k + 1 := xn_leN c_7 (by omega) (by omega); omega
        subst hk2
        refine xi_iload_n (q := 89) dX9_unlike_88 rfl rfl ?_
        refine xi_ret ⟨_, rfl, rfl, dX9_unlike_89⟩ (Nat.zero_le _) (Nat.zero_le _) ?_
        exact hp
      · have hk2 : k + 1 < 7 := xn_nleN c_7 (by omega) (by omega)
        refine xi_aload_n (q := 11) dX9_unlike_10 rfl rfl ?_
        refine xi_iload_n (q := 12) dX9_unlike_11 rfl rfl ?_
        refine xi_iload_n (q := 13) dX9_unlike_12 rfl rfl ?_
        refine xi_iconst (x := 0) (q := 14) dX9_unlike_13 (by decide) rfl ?_
        refine xi_iconst (x := 1) (q := 15) dX9_unlike_14 (by decide) rfl ?_
        refine xv_cV4 (q := 18) xm_X9_eventOf ln_X9_176 dX9_unlike_15 ⟨by omega, hW.1⟩ rfl ⟨(Nat.le_of_ble_eq_true rfl), (Nat.le_of_ble_eq_true rfl)⟩ (Nat.le_of_ble_eq_true rfl) ⟨rfl, rfl⟩ rfl (Nat.zero_le _) (Nat.zero_le _) ?_
        refine ⟨_, _, _, p, nI (k + 1), 0, 1, rfl, hW, h103, hp7, ?_⟩
        refine xi_istore (q := 20) dX9_unlike_18 (Nat.le_of_ble_eq_true rfl) rfl ?_
        refine xi_aload_n (q := 21) dX9_unlike_20 rfl rfl ?_
        refine xi_iload_n (q := 22) dX9_unlike_21 rfl rfl ?_
        refine xi_iload_n (q := 23) dX9_unlike_22 rfl rfl ?_
        refine xi_iconst (x := 1) (q := 24) dX9_unlike_23 (by decide) rfl ?_
        refine xi_iconst (x := 1) (q := 25) dX9_unlike_24 (by decide) rfl ?_
        refine xv_cV4 (q := 28) xm_X9_eventOf ln_X9_176 dX9_unlike_25 ⟨by omega, hW.1⟩ rfl ⟨(Nat.le_of_ble_eq_true rfl), (Nat.le_of_ble_eq_true rfl)⟩ (Nat.le_of_ble_eq_true rfl) ⟨rfl, rfl⟩ rfl (Nat.zero_le _) (Nat.zero_le _) ?_
        refine ⟨_, _, _, p, nI (k + 1), 1, 1, rfl, hW, h103, hp7, ?_⟩
        refine xi_istore (q := 30) dX9_unlike_28 (Nat.le_of_ble_eq_true rfl) rfl ?_
        refine xi_iload (q := 32) dX9_unlike_30 rfl rfl ?_
        refine xi_ldc (q := 34) dX9_unlike_32 kc_X9_158 rfl ?_
        refine xi_icmp_eq (q := 37) (q2 := 44) dX9_unlike_34 (by decide) rfl (fun c_34 => ?_) (fun c_34 => ?_)
        · refine xi_bipush (x := 24) (q := 46) dX9_unlike_44 (by decide) rfl ?_
          refine xi_goto (q := 60) dX9_unlike_46 (by decide) ?_
          refine xi_istore (q := 62) dX9_unlike_60 (Nat.le_of_ble_eq_true rfl) rfl ?_
          refine xi_iload_n (q := 63) dX9_unlike_62 rfl rfl ?_
          refine xi_iload (q := 65) dX9_unlike_63 rfl rfl ?_
          refine xi_bipush (x := 24) (q := 67) dX9_unlike_65 (by decide) rfl ?_
          refine xi_icmp_le (q := 70) (q2 := 78) dX9_unlike_67 (by decide) rfl (fun c_67 => ?_) (fun c_67 => ?_)
          · refine xi_iload (q := 80) dX9_unlike_78 rfl rfl ?_
            refine xi_iadd (q := 81) dX9_unlike_80 rfl ?_
            refine xi_istore_n (q := 82) dX9_unlike_81 (Nat.le_of_ble_eq_true rfl) rfl ?_
            refine xi_iinc (y := nI ((k + 1) + 1)) (q := 85) dX9_unlike_82 rfl (xn_inc (k + 1)) (Nat.le_of_ble_eq_true rfl) rfl ?_
            refine xi_goto (q := 4) dX9_unlike_85 (by decide) ?_
            rw [xs_psS (fun j => xs_un1 (xs_nr nu p) (nu (12 * p + 11)) (nI (j + 1))) k (xn_disA (Or.inl (by first | exact c_34 | exact Decidable.of_not_not c_34)))]
            refine xv_weakS (lv' := [(0, .ref 83), (1, .int (nI p)), (2, .int (xs_ps (fun j => xs_un1 (xs_nr nu p) (nu (12 * p + 11)) (nI (j + 1))) (k + 1))), (3, .int (nI (k + 1 + 1)))]) ⟨rfl, rfl, rfl, rfl, trivial⟩ ?_
            exact ih (d - 1) (by omega) (k + 1) (by omega)
          · refine xi_bipush (x := 48) (q := 72) dX9_unlike_70 (by decide) rfl ?_
            refine xi_iload (q := 74) dX9_unlike_72 rfl rfl ?_
            refine xi_isub (q := 75) dX9_unlike_74 rfl ?_
            refine xi_goto (q := 80) dX9_unlike_75 (by decide) ?_
            refine xi_iadd (q := 81) dX9_unlike_80 rfl ?_
            refine xi_istore_n (q := 82) dX9_unlike_81 (Nat.le_of_ble_eq_true rfl) rfl ?_
            refine xi_iinc (y := nI ((k + 1) + 1)) (q := 85) dX9_unlike_82 rfl (xn_inc (k + 1)) (Nat.le_of_ble_eq_true rfl) rfl ?_
            refine xi_goto (q := 4) dX9_unlike_85 (by decide) ?_
            exact absurd (by decide) c_67
        · refine xi_iload (q := 39) dX9_unlike_37 rfl rfl ?_
          refine xi_ldc (q := 41) dX9_unlike_39 kc_X9_158 rfl ?_
          refine xi_icmp_ne (q := 44) (q2 := 49) dX9_unlike_41 (by decide) rfl (fun c_41 => ?_) (fun c_41 => ?_)
          · refine xi_iload (q := 51) dX9_unlike_49 rfl rfl ?_
            refine xi_iload (q := 53) dX9_unlike_51 rfl rfl ?_
            refine xi_isub (q := 54) dX9_unlike_53 rfl ?_
            refine xi_bipush (x := 24) (q := 56) dX9_unlike_54 (by decide) rfl ?_
            refine xi_isub (q := 57) dX9_unlike_56 rfl ?_
            refine xv_cS1 (q := 60) xm_X9_round ln_X9_132 dX9_unlike_57 ⟨(Nat.le_of_ble_eq_true rfl), (Nat.le_of_ble_eq_true rfl)⟩ (Nat.le_of_ble_eq_true rfl) ⟨rfl, rfl⟩ rfl (Nat.zero_le _) (Nat.zero_le _) ?_
            refine ⟨_, rfl, ?_⟩
            refine xi_istore (q := 62) dX9_unlike_60 (Nat.le_of_ble_eq_true rfl) rfl ?_
            refine xi_iload_n (q := 63) dX9_unlike_62 rfl rfl ?_
            refine xi_iload (q := 65) dX9_unlike_63 rfl rfl ?_
            refine xi_bipush (x := 24) (q := 67) dX9_unlike_65 (by decide) rfl ?_
            refine xi_icmp_le (q := 70) (q2 := 78) dX9_unlike_67 (by decide) rfl (fun c_67 => ?_) (fun c_67 => ?_)
            · refine xi_iload (q := 80) dX9_unlike_78 rfl rfl ?_
              refine xi_iadd (q := 81) dX9_unlike_80 rfl ?_
              refine xi_istore_n (q := 82) dX9_unlike_81 (Nat.le_of_ble_eq_true rfl) rfl ?_
              refine xi_iinc (y := nI ((k + 1) + 1)) (q := 85) dX9_unlike_82 rfl (xn_inc (k + 1)) (Nat.le_of_ble_eq_true rfl) rfl ?_
              refine xi_goto (q := 4) dX9_unlike_85 (by decide) ?_
              rw [xs_psS (fun j => xs_un1 (xs_nr nu p) (nu (12 * p + 11)) (nI (j + 1))) k (xn_disB (fun z => z.elim c_34 c_41) c_67)]
              refine xv_weakS (lv' := [(0, .ref 83), (1, .int (nI p)), (2, .int (xs_ps (fun j => xs_un1 (xs_nr nu p) (nu (12 * p + 11)) (nI (j + 1))) (k + 1))), (3, .int (nI (k + 1 + 1)))]) ⟨rfl, rfl, rfl, rfl, trivial⟩ ?_
              exact ih (d - 1) (by omega) (k + 1) (by omega)
            · refine xi_bipush (x := 48) (q := 72) dX9_unlike_70 (by decide) rfl ?_
              refine xi_iload (q := 74) dX9_unlike_72 rfl rfl ?_
              refine xi_isub (q := 75) dX9_unlike_74 rfl ?_
              refine xi_goto (q := 80) dX9_unlike_75 (by decide) ?_
              refine xi_iadd (q := 81) dX9_unlike_80 rfl ?_
              refine xi_istore_n (q := 82) dX9_unlike_81 (Nat.le_of_ble_eq_true rfl) rfl ?_
              refine xi_iinc (y := nI ((k + 1) + 1)) (q := 85) dX9_unlike_82 rfl (xn_inc (k + 1)) (Nat.le_of_ble_eq_true rfl) rfl ?_
              refine xi_goto (q := 4) dX9_unlike_85 (by decide) ?_
              rw [xs_psS (fun j => xs_un1 (xs_nr nu p) (nu (12 * p + 11)) (nI (j + 1))) k (xn_disC (fun z => z.elim c_34 c_41) c_67)]
              refine xv_weakS (lv' := [(0, .ref 83), (1, .int (nI p)), (2, .int (xs_ps (fun j => xs_un1 (xs_nr nu p) (nu (12 * p + 11)) (nI (j + 1))) (k + 1))), (3, .int (nI (k + 1 + 1)))]) ⟨rfl, rfl, rfl, rfl, trivial⟩ ?_
              exact ih (d - 1) (by omega) (k + 1) (by omega)
          · refine xi_bipush (x := 24) (q := 46) dX9_unlike_44 (by decide) rfl ?_
            refine xi_goto (q := 60) dX9_unlike_46 (by decide) ?_
            refine xi_istore (q := 62) dX9_unlike_60 (Nat.le_of_ble_eq_true rfl) rfl ?_
            refine xi_iload_n (q := 63) dX9_unlike_62 rfl rfl ?_
            refine xi_iload (q := 65) dX9_unlike_63 rfl rfl ?_
            refine xi_bipush (x := 24) (q := 67) dX9_unlike_65 (by decide) rfl ?_
            refine xi_icmp_le (q := 70) (q2 := 78) dX9_unlike_67 (by decide) rfl (fun c_67 => ?_) (fun c_67 => ?_)
            · refine xi_iload (q := 80) dX9_unlike_78 rfl rfl ?_
              refine xi_iadd (q := 81) dX9_unlike_80 rfl ?_
              refine xi_istore_n (q := 82) dX9_unlike_81 (Nat.le_of_ble_eq_true rfl) rfl ?_
              refine xi_iinc (y := nI ((k + 1) + 1)) (q := 85) dX9_unlike_82 rfl (xn_inc (k + 1)) (Nat.le_of_ble_eq_true rfl) rfl ?_
              refine xi_goto (q := 4) dX9_unlike_85 (by decide) ?_
              rw [xs_psS (fun j => xs_un1 (xs_nr nu p) (nu (12 * p + 11)) (nI (j + 1))) k (xn_disA (Or.inr (by first | exact c_41 | exact Decidable.of_not_not c_41)))]
              refine xv_weakS (lv' := [(0, .ref 83), (1, .int (nI p)), (2, .int (xs_ps (fun j => xs_un1 (xs_nr nu p) (nu (12 * p + 11)) (nI (j + 1))) (k + 1))), (3, .int (nI (k + 1 + 1)))]) ⟨rfl, rfl, rfl, rfl, trivial⟩ ?_
              exact ih (d - 1) (by omega) (k + 1) (by omega)
            · refine xi_bipush (x := 48) (q := 72) dX9_unlike_70 (by decide) rfl ?_
              refine xi_iload (q := 74) dX9_unlike_72 rfl rfl ?_
              refine xi_isub (q := 75) dX9_unlike_74 rfl ?_
              refine xi_goto (q := 80) dX9_unlike_75 (by decide) ?_
              refine xi_iadd (q := 81) dX9_unlike_80 rfl ?_
              refine xi_istore_n (q := 82) dX9_unlike_81 (Nat.le_of_ble_eq_true rfl) rfl ?_
              refine xi_iinc (y := nI ((k + 1) + 1)) (q := 85) dX9_unlike_82 rfl (xn_inc (k + 1)) (Nat.le_of_ble_eq_true rfl) rfl ?_
              refine xi_goto (q := 4) dX9_unlike_85 (by decide) ?_
              exact absurd (by decide) c_67
  refine xi_iconst (x := 0) (q := 1) dX9_unlike_0 (by decide) rfl ?_
  refine xi_istore_n (q := 2) dX9_unlike_1 (Nat.le_of_ble_eq_true rfl) rfl ?_
  refine xi_iconst (x := 1) (q := 3) dX9_unlike_2 (by decide) rfl ?_
  refine xi_istore_n (q := 4) dX9_unlike_3 (Nat.le_of_ble_eq_true rfl) rfl ?_
  refine xv_weakS (lv' := [(0, .ref 83), (1, .int (nI p)), (2, .int (xs_ps (fun j => xs_un1 (xs_nr nu p) (nu (12 * p + 11)) (nI (j + 1))) 0)), (3, .int (nI (0 + 1)))]) ⟨rfl, rfl, rfl, rfl, trivial⟩ ?_
  exact L4 6 0 (by omega)

set_option maxRecDepth 20000 in
set_option maxHeartbeats 2000000 in
/-- leadOf -/
theorem xm_X9_leadOf : xv_K yX9_leadOf mX9_leadOf (fun as h n Post => ∃ (fa : Nat → Int32) (dk : Int64) (nu : Nat → Int32) (p : Nat), as = [.ref 83, .int (nI p)] ∧ (xs_MW h fa dk nu) ∧ (103 < n) ∧ (p < 7) ∧ Post (some (.int (xs_led (xs_nr nu p) (nu (12 * p + 11))))) h n) := by
  refine xv_entry (by decide +kernel) rfl (fun h => absurd h (by decide)) ?_
  rintro X _ h n Post ⟨fa, dk, nu, p, rfl, hW, h103, hp7, hp⟩
  refine ⟨Nat.le_of_ble_eq_true rfl, ?_⟩
  show xv_V X mX9_leadOf Post 0 0 0 [(0, .ref 83), (1, .int (nI p))] [] h n
  refine xi_aload_n (q := 1) dX9_leadOf_0 rfl rfl ?_
  refine xi_iload_n (q := 2) dX9_leadOf_1 rfl rfl ?_
  refine xi_bipush (x := 6) (q := 4) dX9_leadOf_2 (by decide) rfl ?_
  refine xi_iconst (x := 0) (q := 5) dX9_leadOf_4 (by decide) rfl ?_
  refine xi_iconst (x := 0) (q := 6) dX9_leadOf_5 (by decide) rfl ?_
  refine xi_iconst (x := 0) (q := 7) dX9_leadOf_6 (by decide) rfl ?_
  refine xv_cV5 (q := 10) xm_X9_openAt ln_X9_154 dX9_leadOf_7 ⟨by omega, hW.1⟩ rfl ⟨(Nat.le_of_ble_eq_true rfl), (Nat.le_of_ble_eq_true rfl)⟩ (Nat.le_of_ble_eq_true rfl) ⟨rfl, rfl⟩ rfl (Nat.zero_le _) (Nat.zero_le _) ?_
  refine ⟨_, _, _, p, 6, 0, 0, 0, rfl, hW, h103, hp7, ?_⟩
  refine xi_ret ⟨_, rfl, rfl, dX9_leadOf_10⟩ (Nat.zero_le _) (Nat.zero_le _) ?_
  exact hp

theorem xn_ix12v {p j : Nat} (hp : p < 7) (hj : j < 12) : xv_ix (12 * nI p + nI j) 84 (12 * p + j) := xn_ix12 hp hj
/-- row q of the numbers becomes row p -/
def xs_lik (nu : Nat → Int32) (q p : Nat) : Nat → Int32 := fun i => if 12 * q ≤ i ∧ i < 12 * q + 12 then nu (12 * p + (i - 12 * q)) else nu i
theorem xn_lik {nu g : Nat → Int32} {q p k : Nat} (hq : q < 7) (hp : p < 7) (hk : k < 12) (hg : ∀ i, i < 84 → g i = if 12 * q ≤ i ∧ i < 12 * q + k then nu (12 * p + (i - 12 * q)) else nu i) : ∀ i, i < 84 → upd g (12 * q + k) (g (12 * p + k)) i = if 12 * q ≤ i ∧ i < 12 * q + (k + 1) then nu (12 * p + (i - 12 * q)) else nu i := by
  intro i hi
  by_cases z : i = 12 * q + k
  · rw [z, pk_us, hg (12 * p + k) (by omega), if_neg (by omega), if_pos (by omega), show 12 * q + k - 12 * q = k by omega]
  · rw [pk_un z, hg i hi]
    by_cases y : 12 * q ≤ i ∧ i < 12 * q + k
    · rw [if_pos y, if_pos (by omega)]
    · rw [if_neg y, if_neg (by omega)]
set_option maxRecDepth 20000 in
set_option maxHeartbeats 2000000 in
/-- like -/
theorem xm_X9_like : xv_K yX9_like mX9_like (fun as h n Post => ∃ (fa : Nat → Int32) (dk : Int64) (nu : Nat → Int32) (q : Nat) (p : Nat), as = [.ref 83, .int (nI q), .int (nI p)] ∧ (xs_MW h fa dk nu) ∧ (103 < n) ∧ (q < 7) ∧ (p < 7) ∧ (∀ h' : xv_H, h' 88 = xs_ia 84 (xs_lik nu q p) → (∀ i, i ≠ 88 → h' i = h i) → Post none h' n)) := by
  refine xv_entry (by decide +kernel) rfl (fun h => absurd h (by decide)) ?_
  rintro X _ h n Post ⟨fa, dk, nu, q, p, rfl, hW, h103, hq7, hp7, hp⟩
  refine ⟨Nat.le_of_ble_eq_true rfl, ?_⟩
  show xv_V X mX9_like Post 0 0 0 [(0, .ref 83), (1, .int (nI q)), (2, .int (nI p))] [] h n
  have L2 : ∀ (d k : Nat) (hh : xv_H) (g : Nat → Int32), k + d = 12 → hh 83 = xs_mo fa dk → hh 88 = xs_ia 84 g → (∀ i, i < 84 → g i = (fun i => if 12 * q ≤ i ∧ i < 12 * q + k then nu (12 * p + (i - 12 * q)) else nu i) i) → (∀ i, i ≠ 88 → hh i = h i) → xv_V X mX9_like Post 0 0 2 [(0, .ref 83), (1, .int (nI q)), (2, .int (nI p)), (3, .int (nI k))] [] hh n := by
    intro d
    induction d using Nat.strongRecOn with
    | _ d ih =>
      intro k hh g hk hm hn hg hf0
      refine xi_iload_n (q := 3) dX9_like_2 rfl rfl ?_
      refine xi_bipush (x := 12) (q := 5) dX9_like_3 (by decide) rfl ?_
      refine xi_icmp_ge (q := 8) (q2 := 36) dX9_like_5 (by decide) rfl (fun c_5 => ?_) (fun c_5 => ?_)
      · have hk2 : k = 12 := by have z : 12 ≤ k := xn_leN c_5 (by omega) (by omega); omega
        subst hk2
        refine xv_norm (h' := va_up hh 88 (.inl (.int, 84, .inl (xs_lik nu q p)))) (xv_nr hn rfl (fun i hi => hg i hi)) ?_
        refine xi_vret ⟨rfl, dX9_like_36⟩ (Nat.zero_le _) (Nat.zero_le _) ?_
        exact hp _ (va_up_self _ _ _) (fun i hi => (va_up_ne _ _ hi).trans (hf0 i hi))
      · have hk2 : k < 12 := xn_nleN c_5 (by omega) (by omega)
        refine xi_aload_n (q := 9) dX9_like_8 rfl rfl ?_
        refine xi_getf (q := 12) dX9_like_9 fl_X9_23 ⟨by omega, hm⟩ rfl rfl ?_
        refine xi_bipush (x := 12) (q := 14) dX9_like_12 (by decide) rfl ?_
        refine xi_iload_n (q := 15) dX9_like_14 rfl rfl ?_
        refine xi_imul (q := 16) dX9_like_15 rfl ?_
        refine xi_iload_n (q := 17) dX9_like_16 rfl rfl ?_
        refine xi_iadd (q := 18) dX9_like_17 rfl ?_
        refine xi_aload_n (q := 19) dX9_like_18 rfl rfl ?_
        refine xi_getf (q := 22) dX9_like_19 fl_X9_23 ⟨by omega, hm⟩ rfl rfl ?_
        refine xi_bipush (x := 12) (q := 24) dX9_like_22 (by decide) rfl ?_
        refine xi_iload_n (q := 25) dX9_like_24 rfl rfl ?_
        refine xi_imul (q := 26) dX9_like_25 rfl ?_
        refine xi_iload_n (q := 27) dX9_like_26 rfl rfl ?_
        refine xi_iadd (q := 28) dX9_like_27 rfl ?_
        refine xi_iald (q := 29) dX9_like_28 ⟨by omega, hn⟩ (xn_ix12 hp7 hk2) rfl ?_
        refine xi_iast (q := 30) dX9_like_29 ⟨by omega, hn⟩ (xn_ix12 hq7 hk2) rfl ?_
        refine xi_iinc (y := nI (k + 1)) (q := 33) dX9_like_30 rfl (xn_inc k) (Nat.le_of_ble_eq_true rfl) rfl ?_
        refine xi_goto (q := 2) dX9_like_33 (by decide) ?_
        refine xv_weakS (lv' := [(0, .ref 83), (1, .int (nI q)), (2, .int (nI p)), (3, .int (nI (k + 1)))]) ⟨rfl, rfl, rfl, rfl, trivial⟩ ?_
        exact ih (d - 1) (by omega) (k + 1) _ (upd g (12 * q + k) (g (12 * p + k))) (by omega) ((va_up_ne _ _ (by omega)).trans hm) (va_up_self _ _ _) (xn_lik hq7 hp7 hk2 hg) (fun i hi => (va_up_ne _ _ hi).trans (hf0 i hi))
  refine xi_iconst (x := 0) (q := 1) dX9_like_0 (by decide) rfl ?_
  refine xi_istore_n (q := 2) dX9_like_1 (Nat.le_of_ble_eq_true rfl) rfl ?_
  refine xv_weakS (lv' := [(0, .ref 83), (1, .int (nI q)), (2, .int (nI p)), (3, .int (nI 0))]) ⟨rfl, rfl, rfl, rfl, trivial⟩ ?_
  exact L2 12 0 h nu (by omega) hW.1 hW.2.1 (fun i hi => (if_neg (by omega)).symm) (fun _ _ => rfl)

