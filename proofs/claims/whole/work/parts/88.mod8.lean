theorem xn_ixM {a p k m : Nat} (h : a * p + k < m) (hm : m < 2147483648) : xv_ix (nI a * nI p + nI k) m (a * p + k) := by
  rw [pk_mul, nI_add]
  exact xv_ixN h hm
theorem xn_ap0 {ci g : Nat → Int32} {k : Nat} (h0 : -1 ≤ (ci k).toInt) (h : ¬ 0 ≤ ci k) : xs_ap1 ci g k = 0 := by
  unfold xs_ap1
  rw [if_pos (by rw [xn_le, show (0 : Int32).toInt = 0 from rfl] at h; rw [xn_eq, show (-1 : Int32).toInt = -1 from rfl]; omega)]
theorem xn_ap1 {ci g : Nat → Int32} {k : Nat} (h : 0 ≤ ci k) : xs_ap1 ci g k = xs_abs (g k - ci k) := by
  unfold xs_ap1
  rw [if_neg (fun z => by rw [z] at h; exact absurd h (by decide))]
theorem xn_xb0 {b : Bool} (h : xs_b b = 0) : b = false := by
  cases b
  · rfl
  · exact absurd h (by decide)
theorem xn_xb1 {b : Bool} (h : ¬ xs_b b = 0) : b = true := by
  cases b
  · exact absurd rfl h
  · rfl
def xs_wl (tr : Nat → Int32) (m : Nat) : List Int32 → Nat → Int32
  | [] => tr
  | b :: L => xs_wl (upd tr m b) (m + 1) L
set_option maxRecDepth 20000 in
set_option maxHeartbeats 2000000 in
/-- misfitOf -/
theorem xm_X9_misfitOf : xv_K yX9_misfitOf mX9_misfitOf (fun as h n Post => ∃ (fa : Nat → Int32) (dk : Int64) (nu : Nat → Int32) (p : Nat) (s : Int32) (f : Nat → Int32) (ci : Nat → Int32) (m : Int32) (b : Int32) (kn : Nat → Int32) (kb : Nat → Int32) (kp : Nat → Int32) (r0 : Nat → Int32), as = [.ref 83, .int (nI p), .int s] ∧ (xs_MW h fa dk nu) ∧ (103 < n) ∧ (p < 6) ∧ (xs_ok f) ∧ (∀ j, j < 11 → nu (12 * p + j) = f j) ∧ (∀ k, k < 48 → kp (48 * p + k) = ci k ∧ -1 ≤ (ci k).toInt) ∧ (kn p = m) ∧ (kb p = b) ∧ (h 90 = xs_ia 6 kn) ∧ (h 91 = xs_ia 6 kb) ∧ (h 92 = xs_ia 288 kp) ∧ (h 94 = xs_ia 48 r0) ∧ (∀ (h' : xv_H) (dk' : Int64) (nu' r' : Nat → Int32), h' 83 = xs_mo fa dk' → h' 88 = xs_ia 84 nu' → (∀ x, x < 72 → nu' x = nu x) → h' 94 = xs_ia 48 r' → (∀ i, i ≠ 83 → i ≠ 88 → i ≠ 94 → h' i = h i) → Post (some (.int (xs_mis f ci m b s))) h' n)) := by
  refine xv_entry (by decide +kernel) rfl (fun h => absurd h (by decide)) ?_
  rintro X _ h n Post ⟨fa, dk, nu, p, s, f, ci, m, b, kn, kb, kp, r0, rfl, hW, h103, hp6, hok, hf0, hci, hkn, hkb, hKN, hKB, hkp, hpr, hp⟩
  refine ⟨Nat.le_of_ble_eq_true rfl, ?_⟩
  show xv_V X mX9_misfitOf Post 0 0 0 [(0, .ref 83), (1, .int (nI p)), (2, .int s)] [] h n
  refine xi_aload_n (q := 1) dX9_misfitOf_0 rfl rfl ?_
  refine xi_bipush (x := 6) (q := 3) dX9_misfitOf_1 (by decide) rfl ?_
  refine xi_iload_n (q := 4) dX9_misfitOf_3 rfl rfl ?_
  refine xv_cV2 (q := 7) xm_X9_like ln_X9_128 dX9_misfitOf_4 ⟨by omega, hW.1⟩ rfl ⟨(Nat.le_of_ble_eq_true rfl), (Nat.le_of_ble_eq_true rfl)⟩ (Nat.le_of_ble_eq_true rfl) ⟨rfl, rfl⟩ rfl (Nat.zero_le _) (Nat.zero_le _) ?_
  refine ⟨fa, dk, nu, 6, p, rfl, hW, h103, by omega, by omega, fun h8 q1 q2 => ?_⟩
  refine xi_aload_n (q := 8) dX9_misfitOf_7 rfl rfl ?_
  refine xi_getf (q := 11) dX9_misfitOf_8 fl_X9_23 ⟨by omega, (q2 83 (by omega)).trans hW.1⟩ rfl rfl ?_
  refine xi_bipush (x := 83) (q := 13) dX9_misfitOf_11 (by decide) rfl ?_
  refine xi_iload_n (q := 14) dX9_misfitOf_13 rfl rfl ?_
  refine xi_iast (q := 15) dX9_misfitOf_14 ⟨by omega, q1⟩ ⟨xv_ink (by decide), (by decide : (83 : Int32).toNatClampNeg = 83)⟩ rfl ?_
  refine xi_aload_n (q := 16) dX9_misfitOf_15 rfl rfl ?_
  refine xi_bipush (x := 6) (q := 18) dX9_misfitOf_16 (by decide) rfl ?_
  refine xi_aload_n (q := 19) dX9_misfitOf_18 rfl rfl ?_
  refine xi_getf (q := 22) dX9_misfitOf_19 fl_X9_29 (xv_keep (by omega) ⟨by omega, (q2 83 (by omega)).trans hW.1⟩) rfl rfl ?_
  refine xi_iload_n (q := 23) dX9_misfitOf_22 rfl rfl ?_
  refine xi_iald (q := 24) dX9_misfitOf_23 (xv_keep (by omega) ⟨by omega, (q2 90 (by omega)).trans hKN⟩) (xv_ixN (by omega) (by omega)) rfl ?_
  refine xi_aload_n (q := 25) dX9_misfitOf_24 rfl rfl ?_
  refine xi_getf (q := 28) dX9_misfitOf_25 fl_X9_32 (xv_keep (by omega) ⟨by omega, (q2 83 (by omega)).trans hW.1⟩) rfl rfl ?_
  refine xi_iload_n (q := 29) dX9_misfitOf_28 rfl rfl ?_
  refine xi_iald (q := 30) dX9_misfitOf_29 (xv_keep (by omega) ⟨by omega, (q2 91 (by omega)).trans hKB⟩) (xv_ixN (by omega) (by omega)) rfl ?_
  refine xi_iconst (x := 4) (q := 31) dX9_misfitOf_30 (by decide) rfl ?_
  refine xi_iconst (x := 0) (q := 32) dX9_misfitOf_31 (by decide) rfl ?_
  refine xv_cV5 (q := 35) xm_X9_draw ln_X9_215 dX9_misfitOf_32 (xv_keep (by omega) ⟨by omega, (q2 83 (by omega)).trans hW.1⟩) rfl ⟨(Nat.le_of_ble_eq_true rfl), (Nat.le_of_ble_eq_true rfl)⟩ (Nat.le_of_ble_eq_true rfl) ⟨rfl, rfl⟩ rfl (Nat.zero_le _) (Nat.zero_le _) ?_
  have w6 : xs_MW (va_up h8 88 (.inl (.int, 84, .inl (upd (xs_lik nu 6 p) 83 s)))) fa dk (upd (xs_lik nu 6 p) 83 s) := ⟨(va_up_ne _ _ (by omega)).trans ((q2 83 (by omega)).trans hW.1), va_up_self _ _ _, (va_up_ne _ _ (by omega)).trans ((q2 93 (by omega)).trans hW.2.2)⟩
  have e6 : ∀ j, j < 11 → xs_nr (upd (xs_lik nu 6 p) 83 s) 6 j = f j := fun j hj => by
    rw [← hf0 j hj]
    show upd (xs_lik nu 6 p) 83 s (12 * 6 + j) = nu (12 * p + j)
    rw [pk_un (by omega)]
    unfold xs_lik
    rw [if_pos (by omega), show 12 * p + (12 * 6 + j - 12 * 6) = 12 * p + j by omega]
  rw [hkn, hkb]
  refine ⟨fa, dk, _, 6, m, b, 4, 0, r0, rfl, w6, h103, by omega, (xc_ok _).mp (by rw [xs_cte e6]; exact (xc_ok _).mpr hok), (va_up_ne _ _ (by omega)).trans ((q2 94 (by omega)).trans hpr), fun h9 u1 u2 u3 => ?_⟩
  have eG : (fun k => xs_cd (xs_nr (upd (xs_lik nu 6 p) 83 s) 6) ((upd (xs_lik nu 6 p) 83 s) (12 * 6 + 11)) m (b * 4 / 4) 0 k) = (fun k => xs_cd f s m (b * 4 / 4) 0 k) := by
    funext k
    rw [← xc_cd (xs_nr (upd (xs_lik nu 6 p) 83 s) 6), xs_cte e6, xc_cd, show (upd (xs_lik nu 6 p) 83 s) (12 * 6 + 11) = s from pk_us]
  rw [eG] at u2
  have hF : ∀ i, i ≠ 83 → i ≠ 88 → i ≠ 94 → h9 i = h i := fun i i1 i2 i3 => (u3 i i1 i3).trans ((va_up_ne _ _ i2).trans (q2 i i2))
  have e88 : h9 88 = xs_ia 84 (upd (xs_lik nu 6 p) 83 s) := (u3 88 (by omega) (by omega)).trans (va_up_self _ _ _)
  refine xi_iconst (x := 0) (q := 36) dX9_misfitOf_35 (by decide) rfl ?_
  refine xi_istore_n (q := 37) dX9_misfitOf_36 (Nat.le_of_ble_eq_true rfl) rfl ?_
  refine xi_iconst (x := 0) (q := 38) dX9_misfitOf_37 (by decide) rfl ?_
  refine xi_istore (q := 40) dX9_misfitOf_38 (Nat.le_of_ble_eq_true rfl) rfl ?_
  refine xv_weakS (lv' := [(0, .ref 83), (1, .int (nI p)), (2, .int s), (3, .int (xs_ps (xs_ap1 ci (fun k => xs_cd f s m (b * 4 / 4) 0 k)) 0)), (4, .int (nI 0))]) ⟨rfl, rfl, rfl, rfl, rfl, trivial⟩ ?_
  have L40 : ∀ (d k : Nat), k + d = 48 → xv_V X mX9_misfitOf Post 0 0 40 [(0, .ref 83), (1, .int (nI p)), (2, .int s), (3, .int (xs_ps (xs_ap1 ci (fun k => xs_cd f s m (b * 4 / 4) 0 k)) k)), (4, .int (nI k))] [] h9 n := by
    intro d
    induction d using Nat.strongRecOn with
    | _ d ih =>
      intro k hk
      refine xi_iload (q := 42) dX9_misfitOf_40 rfl rfl ?_
      refine xi_bipush (x := 48) (q := 44) dX9_misfitOf_42 (by decide) rfl ?_
      refine xi_icmp_ge (q := 47) (q2 := 92) dX9_misfitOf_44 (by decide) rfl (fun c_44 => ?_) (fun c_44 => ?_)
      · have hk2 : k = 48 := by have z : 48 ≤ k := xn_leN c_44 (by omega) (by omega); omega
        subst hk2
        refine xi_iload_n (q := 93) dX9_misfitOf_92 rfl rfl ?_
        refine xi_ret ⟨_, rfl, rfl, dX9_misfitOf_93⟩ (Nat.zero_le _) (Nat.zero_le _) ?_
        exact hp h9 _ (upd (xs_lik nu 6 p) 83 s) _ u1 e88 (fun x hx => (pk_un (by omega)).trans (if_neg (by omega))) u2 hF
      · have hk2 : k < 48 := xn_nleN c_44 (by omega) (by omega)
        refine xi_aload_n (q := 48) dX9_misfitOf_47 rfl rfl ?_
        refine xi_getf (q := 51) dX9_misfitOf_48 fl_X9_35 ⟨by omega, u1⟩ rfl rfl ?_
        refine xi_bipush (x := 48) (q := 53) dX9_misfitOf_51 (by decide) rfl ?_
        refine xi_iload_n (q := 54) dX9_misfitOf_53 rfl rfl ?_
        refine xi_imul (q := 55) dX9_misfitOf_54 rfl ?_
        refine xi_iload (q := 57) dX9_misfitOf_55 rfl rfl ?_
        refine xi_iadd (q := 58) dX9_misfitOf_57 rfl ?_
        refine xi_iald (q := 59) dX9_misfitOf_58 ⟨by omega, (hF 92 (by omega) (by omega) (by omega)).trans hkp⟩ (xn_ixM (a := 48) (p := p) (k := k) (by omega) (by omega)) rfl ?_
        rw [(hci k hk2).1]
        refine xi_istore (q := 61) dX9_misfitOf_59 (Nat.le_of_ble_eq_true rfl) rfl ?_
        refine xi_iload_n (q := 62) dX9_misfitOf_61 rfl rfl ?_
        refine xi_iload (q := 64) dX9_misfitOf_62 rfl rfl ?_
        refine xi_if_ge (q := 67) (q2 := 71) dX9_misfitOf_64 (by decide) rfl (fun c_64 => ?_) (fun c_64 => ?_)
        · refine xi_aload_n (q := 72) dX9_misfitOf_71 rfl rfl ?_
          refine xi_getf (q := 75) dX9_misfitOf_72 fl_X9_41 ⟨by omega, u1⟩ rfl rfl ?_
          refine xi_iload (q := 77) dX9_misfitOf_75 rfl rfl ?_
          refine xi_iald (q := 78) dX9_misfitOf_77 ⟨by omega, u2⟩ (xv_ixN hk2 (by omega)) rfl ?_
          refine xi_iload (q := 80) dX9_misfitOf_78 rfl rfl ?_
          refine xi_isub (q := 81) dX9_misfitOf_80 rfl ?_
          refine xv_cS1 (q := 84) xm_X9_size ln_X9_234 dX9_misfitOf_81 ⟨(Nat.le_of_ble_eq_true rfl), (Nat.le_of_ble_eq_true rfl)⟩ (Nat.le_of_ble_eq_true rfl) ⟨rfl, rfl⟩ rfl (Nat.zero_le _) (Nat.zero_le _) ?_
          refine ⟨_, rfl, ?_⟩
          refine xi_iadd (q := 85) dX9_misfitOf_84 rfl ?_
          refine xi_istore_n (q := 86) dX9_misfitOf_85 (Nat.le_of_ble_eq_true rfl) rfl ?_
          refine xi_iinc (y := nI (k + 1)) (q := 89) dX9_misfitOf_86 rfl (xn_inc k) (Nat.le_of_ble_eq_true rfl) rfl ?_
          refine xi_goto (q := 40) dX9_misfitOf_89 (by decide) ?_
          rw [xs_psS (xs_ap1 ci (fun k => xs_cd f s m (b * 4 / 4) 0 k)) k (xn_ap1 c_64)]
          refine xv_weakS (lv' := [(0, .ref 83), (1, .int (nI p)), (2, .int s), (3, .int (xs_ps (xs_ap1 ci (fun k => xs_cd f s m (b * 4 / 4) 0 k)) (k + 1))), (4, .int (nI (k + 1)))]) ⟨rfl, rfl, rfl, rfl, rfl, trivial⟩ ?_
          exact ih (d - 1) (by omega) (k + 1) (by omega)
        · refine xi_iconst (x := 0) (q := 68) dX9_misfitOf_67 (by decide) rfl ?_
          refine xi_goto (q := 84) dX9_misfitOf_68 (by decide) ?_
          refine xi_iadd (q := 85) dX9_misfitOf_84 rfl ?_
          refine xi_istore_n (q := 86) dX9_misfitOf_85 (Nat.le_of_ble_eq_true rfl) rfl ?_
          refine xi_iinc (y := nI (k + 1)) (q := 89) dX9_misfitOf_86 rfl (xn_inc k) (Nat.le_of_ble_eq_true rfl) rfl ?_
          refine xi_goto (q := 40) dX9_misfitOf_89 (by decide) ?_
          rw [xs_psS (xs_ap1 ci (fun k => xs_cd f s m (b * 4 / 4) 0 k)) k (xn_ap0 (hci k hk2).2 c_64)]
          refine xv_weakS (lv' := [(0, .ref 83), (1, .int (nI p)), (2, .int s), (3, .int (xs_ps (xs_ap1 ci (fun k => xs_cd f s m (b * 4 / 4) 0 k)) (k + 1))), (4, .int (nI (k + 1)))]) ⟨rfl, rfl, rfl, rfl, rfl, trivial⟩ ?_
          exact ih (d - 1) (by omega) (k + 1) (by omega)
  exact L40 48 0 (by omega)

set_option maxRecDepth 20000 in
set_option maxHeartbeats 2000000 in
/-- isCard -/
theorem xm_X9_isCard : xv_K yX9_isCard mX9_isCard (fun as h n Post => ∃ (fa : Nat → Int32) (dk : Int64) (it : Nat → Int32) (s : Nat) (i : Nat) (g : Nat → Int32), as = [.ref 83, .int (nI s), .int (nI i)] ∧ (h 83 = xs_mo fa dk) ∧ (103 < n) ∧ (h 86 = xs_ia 480 it) ∧ (s < 8) ∧ (i + 48 ≤ 60) ∧ (∀ t, t < 48 → it (60 * s + i + t) = g t) ∧ Post (some (.int (if xs_all (fun t => decide (-1 ≤ g t) && decide (g t ≤ 5000)) 48 = true then 1 else 0))) h n) := by
  refine xv_entry (by decide +kernel) rfl (fun h => absurd h (by decide)) ?_
  rintro X _ h n Post ⟨fa, dk, it, s, i, g, rfl, hm, h103, hit, hs8, hi60, hg, hp⟩
  refine ⟨Nat.le_of_ble_eq_true rfl, ?_⟩
  show xv_V X mX9_isCard Post 0 0 0 [(0, .ref 83), (1, .int (nI s)), (2, .int (nI i))] [] h n
  have L5 : ∀ (d k : Nat), k + d = 48 → xv_V X mX9_isCard Post 0 0 5 [(0, .ref 83), (1, .int (nI s)), (2, .int (nI i)), (3, .int (xs_b (xs_all (fun t => decide (-1 ≤ g t) && decide (g t ≤ 5000)) k))), (4, .int (nI k))] [] h n := by
    intro d
    induction d using Nat.strongRecOn with
    | _ d ih =>
      intro k hk
      refine xi_iload (q := 7) dX9_isCard_5 rfl rfl ?_
      refine xi_bipush (x := 48) (q := 9) dX9_isCard_7 (by decide) rfl ?_
      refine xi_icmp_ge (q := 12) (q2 := 55) dX9_isCard_9 (by decide) rfl (fun c_9 => ?_) (fun c_9 => ?_)
      · have hk2 : k = 48 := by have z : 48 ≤ k := xn_leN c_9 (by omega) (by omega); omega
        subst hk2
        refine xi_iload_n (q := 56) dX9_isCard_55 rfl rfl ?_
        refine xi_ret ⟨_, rfl, xn_nb, dX9_isCard_56⟩ (Nat.zero_le _) (Nat.zero_le _) ?_
        exact xv_eqr hp rfl
      · have hk2 : k < 48 := xn_nleN c_9 (by omega) (by omega)
        refine xi_iload_n (q := 13) dX9_isCard_12 rfl rfl ?_
        refine xi_if_eq (q := 16) (q2 := 47) dX9_isCard_13 (by decide) rfl (fun c_13 => ?_) (fun c_13 => ?_)
        · refine xi_iconst (x := 0) (q := 48) dX9_isCard_47 (by decide) rfl ?_
          refine xi_istore_n (q := 49) dX9_isCard_48 (Nat.le_of_ble_eq_true rfl) rfl ?_
          refine xi_iinc (y := nI (k + 1)) (q := 52) dX9_isCard_49 rfl (xn_inc k) (Nat.le_of_ble_eq_true rfl) rfl ?_
          refine xi_goto (q := 5) dX9_isCard_52 (by decide) ?_
          refine xv_weakS (lv' := [(0, .ref 83), (1, .int (nI s)), (2, .int (nI i)), (3, .int 0), (4, .int (nI (k + 1)))]) ⟨rfl, rfl, rfl, rfl, rfl, trivial⟩ ?_
          have Q := ih (d - 1) (by omega) (k + 1) (by omega)
          rw [show xs_b (xs_all (fun t => decide (-1 ≤ g t) && decide (g t ≤ 5000)) (k + 1)) = 0 from by show xs_b (xs_all (fun t => decide (-1 ≤ g t) && decide (g t ≤ 5000)) k && (decide (-1 ≤ g k) && decide (g k ≤ 5000))) = 0; rw [xn_xb0 c_13]; rfl] at Q
          exact Q
        · refine xi_aload_n (q := 17) dX9_isCard_16 rfl rfl ?_
          refine xi_getf (q := 20) dX9_isCard_17 fl_X9_16 ⟨by omega, hm⟩ rfl rfl ?_
          refine xi_bipush (x := 60) (q := 22) dX9_isCard_20 (by decide) rfl ?_
          refine xi_iload_n (q := 23) dX9_isCard_22 rfl rfl ?_
          refine xi_imul (q := 24) dX9_isCard_23 rfl ?_
          refine xi_iload_n (q := 25) dX9_isCard_24 rfl rfl ?_
          refine xi_iadd (q := 26) dX9_isCard_25 rfl ?_
          refine xi_iload (q := 28) dX9_isCard_26 rfl rfl ?_
          refine xi_iadd (q := 29) dX9_isCard_28 rfl ?_
          refine xi_iald (q := 30) dX9_isCard_29 ⟨by omega, hit⟩ (by rw [show (60 * nI s + nI i + nI k : Int32) = nI (60 * s + i + k) by rw [show (60 * nI s : Int32) = nI (60 * s) from pk_mul 60 s, nI_add, nI_add]]; exact xv_ixN (by omega) (by omega)) rfl ?_
          rw [hg k hk2]
          refine xi_i2l (q := 31) dX9_isCard_30 rfl ?_
          refine xi_ldc2 (q := 34) dX9_isCard_31 kc_X9_225 rfl ?_
          refine xi_ldc2 (q := 37) dX9_isCard_34 kc_X9_227 rfl ?_
          refine xv_cS3 (q := 40) xm_X9_in ln_X9_81 dX9_isCard_37 ⟨(Nat.le_of_ble_eq_true rfl), (Nat.le_of_ble_eq_true rfl)⟩ (Nat.le_of_ble_eq_true rfl) ⟨rfl, rfl⟩ rfl (Nat.zero_le _) (Nat.zero_le _) ?_
          refine ⟨g k, -1, 5000, rfl, ?_⟩
          refine xi_if_eq (q := 43) (q2 := 47) dX9_isCard_40 (by decide) rfl (fun c_40 => ?_) (fun c_40 => ?_)
          · refine xi_iconst (x := 0) (q := 48) dX9_isCard_47 (by decide) rfl ?_
            refine xi_istore_n (q := 49) dX9_isCard_48 (Nat.le_of_ble_eq_true rfl) rfl ?_
            refine xi_iinc (y := nI (k + 1)) (q := 52) dX9_isCard_49 rfl (xn_inc k) (Nat.le_of_ble_eq_true rfl) rfl ?_
            refine xi_goto (q := 5) dX9_isCard_52 (by decide) ?_
            refine xv_weakS (lv' := [(0, .ref 83), (1, .int (nI s)), (2, .int (nI i)), (3, .int 0), (4, .int (nI (k + 1)))]) ⟨rfl, rfl, rfl, rfl, rfl, trivial⟩ ?_
            have Q := ih (d - 1) (by omega) (k + 1) (by omega)
            rw [show xs_b (xs_all (fun t => decide (-1 ≤ g t) && decide (g t ≤ 5000)) (k + 1)) = 0 from by show xs_b (xs_all (fun t => decide (-1 ≤ g t) && decide (g t ≤ 5000)) k && (decide (-1 ≤ g k) && decide (g k ≤ 5000))) = 0; rw [show (decide (-1 ≤ g k) && decide (g k ≤ 5000)) = false from by rw [← Bool.not_eq_true, Bool.and_eq_true, decide_eq_true_eq, decide_eq_true_eq]; exact xn_b0 c_40, Bool.and_false]; rfl] at Q
            exact Q
          · refine xi_iconst (x := 1) (q := 44) dX9_isCard_43 (by decide) rfl ?_
            refine xi_goto (q := 48) dX9_isCard_44 (by decide) ?_
            refine xi_istore_n (q := 49) dX9_isCard_48 (Nat.le_of_ble_eq_true rfl) rfl ?_
            refine xi_iinc (y := nI (k + 1)) (q := 52) dX9_isCard_49 rfl (xn_inc k) (Nat.le_of_ble_eq_true rfl) rfl ?_
            refine xi_goto (q := 5) dX9_isCard_52 (by decide) ?_
            refine xv_weakS (lv' := [(0, .ref 83), (1, .int (nI s)), (2, .int (nI i)), (3, .int 1), (4, .int (nI (k + 1)))]) ⟨rfl, rfl, rfl, rfl, rfl, trivial⟩ ?_
            have Q := ih (d - 1) (by omega) (k + 1) (by omega)
            rw [show xs_b (xs_all (fun t => decide (-1 ≤ g t) && decide (g t ≤ 5000)) (k + 1)) = 1 from by show xs_b (xs_all (fun t => decide (-1 ≤ g t) && decide (g t ≤ 5000)) k && (decide (-1 ≤ g k) && decide (g k ≤ 5000))) = 1; rw [xn_xb1 c_13, show (decide (-1 ≤ g k) && decide (g k ≤ 5000)) = true from by rw [Bool.and_eq_true, decide_eq_true_eq, decide_eq_true_eq]; exact xn_b1 c_40]; rfl] at Q
            exact Q
  refine xi_iconst (x := 1) (q := 1) dX9_isCard_0 (by decide) rfl ?_
  refine xi_istore_n (q := 2) dX9_isCard_1 (Nat.le_of_ble_eq_true rfl) rfl ?_
  refine xi_iconst (x := 0) (q := 3) dX9_isCard_2 (by decide) rfl ?_
  refine xi_istore (q := 5) dX9_isCard_3 (Nat.le_of_ble_eq_true rfl) rfl ?_
  refine xv_weakS (lv' := [(0, .ref 83), (1, .int (nI s)), (2, .int (nI i)), (3, .int 1), (4, .int (nI 0))]) ⟨rfl, rfl, rfl, rfl, rfl, trivial⟩ ?_
  exact L5 48 0 (by omega)

set_option maxRecDepth 20000 in
set_option maxHeartbeats 2000000 in
/-- began -/
theorem xm_X9_began : xv_K yX9_began mX9_began (fun as h n Post => ∃ (fa : Nat → Int32) (dk : Int64) (tr : Nat → Int32) (m : Nat) (b : Int32), as = [.ref 83, .int b] ∧ (h 83 = xs_mo fa dk) ∧ (103 < n) ∧ (h 103 = xs_ia 16 tr) ∧ (fa 11 = nI m) ∧ (m < 16) ∧ (∀ h' : xv_H, h' 83 = xs_mo (upd fa 11 (nI (m + 1))) dk → h' 103 = xs_ia 16 (upd tr m b) → (∀ i, i ≠ 83 → i ≠ 103 → h' i = h i) → Post none h' n)) := by
  refine xv_entry (by decide +kernel) rfl (fun h => absurd h (by decide)) ?_
  rintro X _ h n Post ⟨fa, dk, tr, m, b, rfl, hm, h103, htr, h11, hm16, hp⟩
  refine ⟨Nat.le_of_ble_eq_true rfl, ?_⟩
  show xv_V X mX9_began Post 0 0 0 [(0, .ref 83), (1, .int b)] [] h n
  refine xi_aload_n (q := 1) dX9_began_0 rfl rfl ?_
  refine xi_getf (q := 4) dX9_began_1 fl_X9_271 ⟨by omega, hm⟩ rfl rfl ?_
  refine xi_bipush (x := 16) (q := 6) dX9_began_4 (by decide) rfl ?_
  refine xi_icmp_ge (q := 9) (q2 := 29) dX9_began_6 (by decide) rfl (fun c_6 => ?_) (fun c_6 => ?_)
  · rw [h11] at c_6
    exact absurd (show 16 ≤ m from xn_leN c_6 (by omega) (by omega)) (by omega)
  · skip
    refine xi_aload_n (q := 10) dX9_began_9 rfl rfl ?_
    refine xi_getf (q := 13) dX9_began_10 fl_X9_68 ⟨by omega, hm⟩ rfl rfl ?_
    refine xi_aload_n (q := 14) dX9_began_13 rfl rfl ?_
    refine xi_getf (q := 17) dX9_began_14 fl_X9_271 ⟨by omega, hm⟩ rfl rfl ?_
    refine xi_iload_n (q := 18) dX9_began_17 rfl rfl ?_
    refine xi_iast (q := 19) dX9_began_18 ⟨by omega, htr⟩ (by rw [h11]; exact xv_ixN (by omega) (by omega)) rfl ?_
    refine xi_aload_n (q := 20) dX9_began_19 rfl rfl ?_
    refine xi_dup (q := 21) dX9_began_20 rfl rfl ?_
    refine xi_getf (q := 24) dX9_began_21 fl_X9_271 (xv_keep (by omega) ⟨by omega, hm⟩) rfl rfl ?_
    refine xi_iconst (x := 1) (q := 25) dX9_began_24 (by decide) rfl ?_
    refine xi_iadd (q := 26) dX9_began_25 rfl ?_
    refine xi_putf (q := 29) dX9_began_26 fl_X9_271 (xv_keep (by omega) ⟨by omega, hm⟩) (Or.inl rfl) (fun _ => rfl) (fun _ => rfl) (Nat.le_of_ble_eq_true rfl) rfl ?_
    refine xi_vret ⟨rfl, dX9_began_29⟩ (Nat.zero_le _) (Nat.zero_le _) ?_
    exact hp _ ((va_up_self _ _ _).trans (by rw [show nI (m + 1) = fa 11 + 1 from by rw [h11, nI_1]]; rfl)) ((va_up_ne _ _ (by omega)).trans (va_up_self _ _ _)) (fun i i1 i2 => (va_up_ne _ _ i1).trans (va_up_ne _ _ i2))

set_option maxRecDepth 20000 in
set_option maxHeartbeats 2000000 in
/-- sickWorth -/
theorem xm_X9_sickWorth3 : xv_K yX9_sickWorth mX9_sickWorth (fun as h n Post => ∃ (fa : Nat → Int32) (dk : Int64) (nu : Nat → Int32) (p : Nat) (tr : Nat → Int32) (m : Nat), as = [.ref 83, .int (nI p), .int 3] ∧ (xs_MW h fa dk nu) ∧ (103 < n) ∧ (p < 7) ∧ (h 103 = xs_ia 16 tr) ∧ (fa 11 = nI m) ∧ (m + 2 ≤ 16) ∧ (∀ h' : xv_H, h' 83 = xs_mo (upd fa 11 (nI (m + 2))) dk → h' 103 = xs_ia 16 (xs_wl tr m [13, 10]) → (∀ i, i ≠ 83 → i ≠ 103 → h' i = h i) → Post (some (.int (nu (12 * p + 1) - nu (12 * p + 11)))) h' n)) := by
  refine xv_entry (by decide +kernel) rfl (fun h => absurd h (by decide)) ?_
  rintro X _ h n Post ⟨fa, dk, nu, p, tr, m, rfl, hW, h103, hp7, htr, h11, hm10, hp⟩
  refine ⟨Nat.le_of_ble_eq_true rfl, ?_⟩
  show xv_V X mX9_sickWorth Post 0 0 0 [(0, .ref 83), (1, .int (nI p)), (2, .int 3)] [] h n
  refine xi_iload_n (q := 1) dX9_sickWorth_0 rfl rfl ?_
  refine xi_iconst (x := 4) (q := 2) dX9_sickWorth_1 (by decide) rfl ?_
  refine xi_icmp_ne (q := 5) (q2 := 11) dX9_sickWorth_2 (by decide) rfl (fun c_2 => ?_) (fun c_2 => ?_)
  · skip
    refine xi_aload_n (q := 12) dX9_sickWorth_11 rfl rfl ?_
    refine xi_bipush (x := 13) (q := 14) dX9_sickWorth_12 (by decide) rfl ?_
    refine xv_cV1 (q := 17) xm_X9_began ln_X9_274 dX9_sickWorth_14 ⟨by omega, hW.1⟩ rfl ⟨(Nat.le_of_ble_eq_true rfl), (Nat.le_of_ble_eq_true rfl)⟩ (Nat.le_of_ble_eq_true rfl) ⟨rfl, rfl⟩ rfl (Nat.zero_le _) (Nat.zero_le _) ?_
    refine ⟨fa, dk, tr, m, 13, rfl, hW.1, h103, htr, h11, by omega, fun h1 a1 b1 f1 => ?_⟩
    refine xi_aload_n (q := 18) dX9_sickWorth_17 rfl rfl ?_
    refine xi_bipush (x := 10) (q := 20) dX9_sickWorth_18 (by decide) rfl ?_
    refine xv_cV1 (q := 23) xm_X9_began ln_X9_274 dX9_sickWorth_20 ⟨by omega, a1⟩ rfl ⟨(Nat.le_of_ble_eq_true rfl), (Nat.le_of_ble_eq_true rfl)⟩ (Nat.le_of_ble_eq_true rfl) ⟨rfl, rfl⟩ rfl (Nat.zero_le _) (Nat.zero_le _) ?_
    refine ⟨(upd fa 11 (nI (m + 1))), dk, (upd tr m 13), (m + 1), 10, rfl, a1, h103, b1, pk_us, by omega, fun h2 a2 b2 f2 => ?_⟩
    refine xi_aload_n (q := 24) dX9_sickWorth_23 rfl rfl ?_
    refine xi_getf (q := 27) dX9_sickWorth_24 fl_X9_23 ⟨by omega, a2⟩ rfl rfl ?_
    refine xi_bipush (x := 12) (q := 29) dX9_sickWorth_27 (by decide) rfl ?_
    refine xi_iload_n (q := 30) dX9_sickWorth_29 rfl rfl ?_
    refine xi_imul (q := 31) dX9_sickWorth_30 rfl ?_
    refine xi_iconst (x := 1) (q := 32) dX9_sickWorth_31 (by decide) rfl ?_
    refine xi_iadd (q := 33) dX9_sickWorth_32 rfl ?_
    refine xi_iald (q := 34) dX9_sickWorth_33 ⟨by omega, ((f2 88 (by omega) (by omega)).trans ((f1 88 (by omega) (by omega)).trans ((Eq.refl _)))).trans hW.2.1⟩ (xn_ix12 (j := 1) hp7 (by omega)) rfl ?_
    refine xi_aload_n (q := 35) dX9_sickWorth_34 rfl rfl ?_
    refine xi_getf (q := 38) dX9_sickWorth_35 fl_X9_23 ⟨by omega, a2⟩ rfl rfl ?_
    refine xi_bipush (x := 12) (q := 40) dX9_sickWorth_38 (by decide) rfl ?_
    refine xi_iload_n (q := 41) dX9_sickWorth_40 rfl rfl ?_
    refine xi_imul (q := 42) dX9_sickWorth_41 rfl ?_
    refine xi_bipush (x := 11) (q := 44) dX9_sickWorth_42 (by decide) rfl ?_
    refine xi_iadd (q := 45) dX9_sickWorth_44 rfl ?_
    refine xi_iald (q := 46) dX9_sickWorth_45 ⟨by omega, ((f2 88 (by omega) (by omega)).trans ((f1 88 (by omega) (by omega)).trans ((Eq.refl _)))).trans hW.2.1⟩ (xn_ix12 (j := 11) hp7 (by omega)) rfl ?_
    refine xi_isub (q := 47) dX9_sickWorth_46 rfl ?_
    refine xi_istore_n (q := 48) dX9_sickWorth_47 (Nat.le_of_ble_eq_true rfl) rfl ?_
    refine xi_iload_n (q := 49) dX9_sickWorth_48 rfl rfl ?_
    refine xi_iconst (x := 4) (q := 50) dX9_sickWorth_49 (by decide) rfl ?_
    refine xi_icmp_ne (q := 53) (q2 := 59) dX9_sickWorth_50 (by decide) rfl (fun c_50 => ?_) (fun c_50 => ?_)
    · skip
      refine xi_iload_n (q := 60) dX9_sickWorth_59 rfl rfl ?_
      refine xi_ret ⟨_, rfl, rfl, dX9_sickWorth_60⟩ (Nat.zero_le _) (Nat.zero_le _) ?_
      exact hp _ (a2.trans rfl) b2 (fun i i1 i2 => (f2 i i1 i2).trans ((f1 i i1 i2).trans ((Eq.refl _))))
    · first | exact absurd c_50 (by decide) | exact absurd (by decide) c_50
  · first | exact absurd c_2 (by decide) | exact absurd (by decide) c_2

set_option maxRecDepth 20000 in
set_option maxHeartbeats 2000000 in
/-- sickWorth -/
theorem xm_X9_sickWorth4 : xv_K yX9_sickWorth mX9_sickWorth (fun as h n Post => ∃ (fa : Nat → Int32) (dk : Int64) (nu : Nat → Int32) (p : Nat) (tr : Nat → Int32) (m : Nat), as = [.ref 83, .int (nI p), .int 4] ∧ (xs_MW h fa dk nu) ∧ (103 < n) ∧ (p < 7) ∧ (h 103 = xs_ia 16 tr) ∧ (fa 11 = nI m) ∧ (m + 3 ≤ 16) ∧ (∀ h' : xv_H, h' 83 = xs_mo (upd fa 11 (nI (m + 3))) dk → h' 103 = xs_ia 16 (xs_wl tr m [14, 13, 10]) → (∀ i, i ≠ 83 → i ≠ 103 → h' i = h i) → Post (some (.int (2 * (nu (12 * p + 1) - nu (12 * p + 11))))) h' n)) := by
  refine xv_entry (by decide +kernel) rfl (fun h => absurd h (by decide)) ?_
  rintro X _ h n Post ⟨fa, dk, nu, p, tr, m, rfl, hW, h103, hp7, htr, h11, hm10, hp⟩
  refine ⟨Nat.le_of_ble_eq_true rfl, ?_⟩
  show xv_V X mX9_sickWorth Post 0 0 0 [(0, .ref 83), (1, .int (nI p)), (2, .int 4)] [] h n
  refine xi_iload_n (q := 1) dX9_sickWorth_0 rfl rfl ?_
  refine xi_iconst (x := 4) (q := 2) dX9_sickWorth_1 (by decide) rfl ?_
  refine xi_icmp_ne (q := 5) (q2 := 11) dX9_sickWorth_2 (by decide) rfl (fun c_2 => ?_) (fun c_2 => ?_)
  · first | exact absurd c_2 (by decide) | exact absurd (by decide) c_2
  · skip
    refine xi_aload_n (q := 6) dX9_sickWorth_5 rfl rfl ?_
    refine xi_bipush (x := 14) (q := 8) dX9_sickWorth_6 (by decide) rfl ?_
    refine xv_cV1 (q := 11) xm_X9_began ln_X9_274 dX9_sickWorth_8 ⟨by omega, hW.1⟩ rfl ⟨(Nat.le_of_ble_eq_true rfl), (Nat.le_of_ble_eq_true rfl)⟩ (Nat.le_of_ble_eq_true rfl) ⟨rfl, rfl⟩ rfl (Nat.zero_le _) (Nat.zero_le _) ?_
    refine ⟨fa, dk, tr, m, 14, rfl, hW.1, h103, htr, h11, by omega, fun h1 a1 b1 f1 => ?_⟩
    refine xi_aload_n (q := 12) dX9_sickWorth_11 rfl rfl ?_
    refine xi_bipush (x := 13) (q := 14) dX9_sickWorth_12 (by decide) rfl ?_
    refine xv_cV1 (q := 17) xm_X9_began ln_X9_274 dX9_sickWorth_14 ⟨by omega, a1⟩ rfl ⟨(Nat.le_of_ble_eq_true rfl), (Nat.le_of_ble_eq_true rfl)⟩ (Nat.le_of_ble_eq_true rfl) ⟨rfl, rfl⟩ rfl (Nat.zero_le _) (Nat.zero_le _) ?_
    refine ⟨(upd fa 11 (nI (m + 1))), dk, (upd tr m 14), (m + 1), 13, rfl, a1, h103, b1, pk_us, by omega, fun h2 a2 b2 f2 => ?_⟩
    refine xi_aload_n (q := 18) dX9_sickWorth_17 rfl rfl ?_
    refine xi_bipush (x := 10) (q := 20) dX9_sickWorth_18 (by decide) rfl ?_
    refine xv_cV1 (q := 23) xm_X9_began ln_X9_274 dX9_sickWorth_20 ⟨by omega, a2⟩ rfl ⟨(Nat.le_of_ble_eq_true rfl), (Nat.le_of_ble_eq_true rfl)⟩ (Nat.le_of_ble_eq_true rfl) ⟨rfl, rfl⟩ rfl (Nat.zero_le _) (Nat.zero_le _) ?_
    refine ⟨(upd (upd fa 11 (nI (m + 1))) 11 (nI ((m + 1) + 1))), dk, (upd (upd tr m 14) (m + 1) 13), ((m + 1) + 1), 10, rfl, a2, h103, b2, pk_us, by omega, fun h3 a3 b3 f3 => ?_⟩
    refine xi_aload_n (q := 24) dX9_sickWorth_23 rfl rfl ?_
    refine xi_getf (q := 27) dX9_sickWorth_24 fl_X9_23 ⟨by omega, a3⟩ rfl rfl ?_
    refine xi_bipush (x := 12) (q := 29) dX9_sickWorth_27 (by decide) rfl ?_
    refine xi_iload_n (q := 30) dX9_sickWorth_29 rfl rfl ?_
    refine xi_imul (q := 31) dX9_sickWorth_30 rfl ?_
    refine xi_iconst (x := 1) (q := 32) dX9_sickWorth_31 (by decide) rfl ?_
    refine xi_iadd (q := 33) dX9_sickWorth_32 rfl ?_
    refine xi_iald (q := 34) dX9_sickWorth_33 ⟨by omega, ((f3 88 (by omega) (by omega)).trans ((f2 88 (by omega) (by omega)).trans ((f1 88 (by omega) (by omega)).trans ((Eq.refl _))))).trans hW.2.1⟩ (xn_ix12 (j := 1) hp7 (by omega)) rfl ?_
    refine xi_aload_n (q := 35) dX9_sickWorth_34 rfl rfl ?_
    refine xi_getf (q := 38) dX9_sickWorth_35 fl_X9_23 ⟨by omega, a3⟩ rfl rfl ?_
    refine xi_bipush (x := 12) (q := 40) dX9_sickWorth_38 (by decide) rfl ?_
    refine xi_iload_n (q := 41) dX9_sickWorth_40 rfl rfl ?_
    refine xi_imul (q := 42) dX9_sickWorth_41 rfl ?_
    refine xi_bipush (x := 11) (q := 44) dX9_sickWorth_42 (by decide) rfl ?_
    refine xi_iadd (q := 45) dX9_sickWorth_44 rfl ?_
    refine xi_iald (q := 46) dX9_sickWorth_45 ⟨by omega, ((f3 88 (by omega) (by omega)).trans ((f2 88 (by omega) (by omega)).trans ((f1 88 (by omega) (by omega)).trans ((Eq.refl _))))).trans hW.2.1⟩ (xn_ix12 (j := 11) hp7 (by omega)) rfl ?_
    refine xi_isub (q := 47) dX9_sickWorth_46 rfl ?_
    refine xi_istore_n (q := 48) dX9_sickWorth_47 (Nat.le_of_ble_eq_true rfl) rfl ?_
    refine xi_iload_n (q := 49) dX9_sickWorth_48 rfl rfl ?_
    refine xi_iconst (x := 4) (q := 50) dX9_sickWorth_49 (by decide) rfl ?_
    refine xi_icmp_ne (q := 53) (q2 := 59) dX9_sickWorth_50 (by decide) rfl (fun c_50 => ?_) (fun c_50 => ?_)
    · first | exact absurd c_50 (by decide) | exact absurd (by decide) c_50
    · skip
      refine xi_iconst (x := 2) (q := 54) dX9_sickWorth_53 (by decide) rfl ?_
      refine xi_iload_n (q := 55) dX9_sickWorth_54 rfl rfl ?_
      refine xi_imul (q := 56) dX9_sickWorth_55 rfl ?_
      refine xi_goto (q := 60) dX9_sickWorth_56 (by decide) ?_
      refine xi_ret ⟨_, rfl, rfl, dX9_sickWorth_60⟩ (Nat.zero_le _) (Nat.zero_le _) ?_
      exact hp _ (a3.trans rfl) b3 (fun i i1 i2 => (f3 i i1 i2).trans ((f2 i i1 i2).trans ((f1 i i1 i2).trans ((Eq.refl _)))))

set_option maxRecDepth 20000 in
set_option maxHeartbeats 2000000 in
/-- marked -/
theorem xm_X9_marked1 : xv_K yX9_marked mX9_marked (fun as h n Post => ∃ (fa : Nat → Int32) (dk : Int64) (nu : Nat → Int32) (p : Nat) (tr : Nat → Int32) (m : Nat), as = [.ref 83, .int (nI p), .int 1] ∧ (xs_MW h fa dk nu) ∧ (103 < n) ∧ (p < 7) ∧ (h 103 = xs_ia 16 tr) ∧ (fa 11 = nI m) ∧ (m + 1 ≤ 16) ∧ (∀ h' : xv_H, h' 83 = xs_mo (upd fa 11 (nI (m + 1))) dk → h' 103 = xs_ia 16 (xs_wl tr m [20]) → (∀ i, i ≠ 83 → i ≠ 103 → h' i = h i) → Post (some (.int (nu (12 * p + 4) + 0))) h' n)) := by
  refine xv_entry (by decide +kernel) rfl (fun h => absurd h (by decide)) ?_
  rintro X _ h n Post ⟨fa, dk, nu, p, tr, m, rfl, hW, h103, hp7, htr, h11, hm10, hp⟩
  refine ⟨Nat.le_of_ble_eq_true rfl, ?_⟩
  show xv_V X mX9_marked Post 0 0 0 [(0, .ref 83), (1, .int (nI p)), (2, .int 1)] [] h n
  refine xi_iload_n (q := 1) dX9_marked_0 rfl rfl ?_
  refine xi_iconst (x := 4) (q := 2) dX9_marked_1 (by decide) rfl ?_
  refine xi_icmp_ne (q := 5) (q2 := 11) dX9_marked_2 (by decide) rfl (fun c_2 => ?_) (fun c_2 => ?_)
  · skip
    refine xi_iload_n (q := 12) dX9_marked_11 rfl rfl ?_
    refine xi_iconst (x := 3) (q := 13) dX9_marked_12 (by decide) rfl ?_
    refine xv_cS2 (q := 16) xm_X9_isOf ln_X9_268 dX9_marked_13 ⟨(Nat.le_of_ble_eq_true rfl), (Nat.le_of_ble_eq_true rfl)⟩ (Nat.le_of_ble_eq_true rfl) ⟨rfl, rfl⟩ rfl (Nat.zero_le _) (Nat.zero_le _) ?_
    refine ⟨_, _, rfl, ?_⟩
    refine xi_if_eq (q := 19) (q2 := 25) dX9_marked_16 (by decide) rfl (fun c_16 => ?_) (fun c_16 => ?_)
    · skip
      refine xi_iload_n (q := 26) dX9_marked_25 rfl rfl ?_
      refine xi_iconst (x := 2) (q := 27) dX9_marked_26 (by decide) rfl ?_
      refine xi_icmp_ne (q := 30) (q2 := 36) dX9_marked_27 (by decide) rfl (fun c_27 => ?_) (fun c_27 => ?_)
      · skip
        refine xi_aload_n (q := 37) dX9_marked_36 rfl rfl ?_
        refine xi_bipush (x := 20) (q := 39) dX9_marked_37 (by decide) rfl ?_
        refine xv_cV1 (q := 42) xm_X9_began ln_X9_274 dX9_marked_39 ⟨by omega, hW.1⟩ rfl ⟨(Nat.le_of_ble_eq_true rfl), (Nat.le_of_ble_eq_true rfl)⟩ (Nat.le_of_ble_eq_true rfl) ⟨rfl, rfl⟩ rfl (Nat.zero_le _) (Nat.zero_le _) ?_
        refine ⟨fa, dk, tr, m, 20, rfl, hW.1, h103, htr, h11, by omega, fun h1 a1 b1 f1 => ?_⟩
        refine xi_aload_n (q := 43) dX9_marked_42 rfl rfl ?_
        refine xi_getf (q := 46) dX9_marked_43 fl_X9_23 ⟨by omega, a1⟩ rfl rfl ?_
        refine xi_bipush (x := 12) (q := 48) dX9_marked_46 (by decide) rfl ?_
        refine xi_iload_n (q := 49) dX9_marked_48 rfl rfl ?_
        refine xi_imul (q := 50) dX9_marked_49 rfl ?_
        refine xi_iconst (x := 4) (q := 51) dX9_marked_50 (by decide) rfl ?_
        refine xi_iadd (q := 52) dX9_marked_51 rfl ?_
        refine xi_iald (q := 53) dX9_marked_52 ⟨by omega, ((f1 88 (by omega) (by omega)).trans ((Eq.refl _))).trans hW.2.1⟩ (xn_ix12 (j := 4) hp7 (by omega)) rfl ?_
        refine xi_iload_n (q := 54) dX9_marked_53 rfl rfl ?_
        refine xi_iconst (x := 2) (q := 55) dX9_marked_54 (by decide) rfl ?_
        refine xi_icmp_ne (q := 58) (q2 := 63) dX9_marked_55 (by decide) rfl (fun c_55 => ?_) (fun c_55 => ?_)
        · skip
          refine xi_iload_n (q := 64) dX9_marked_63 rfl rfl ?_
          refine xi_iconst (x := 3) (q := 65) dX9_marked_64 (by decide) rfl ?_
          refine xv_cS2 (q := 68) xm_X9_isOf ln_X9_268 dX9_marked_65 ⟨(Nat.le_of_ble_eq_true rfl), (Nat.le_of_ble_eq_true rfl)⟩ (Nat.le_of_ble_eq_true rfl) ⟨rfl, rfl⟩ rfl (Nat.zero_le _) (Nat.zero_le _) ?_
          refine ⟨_, _, rfl, ?_⟩
          refine xi_if_eq (q := 71) (q2 := 80) dX9_marked_68 (by decide) rfl (fun c_68 => ?_) (fun c_68 => ?_)
          · skip
            refine xi_iconst (x := 0) (q := 81) dX9_marked_80 (by decide) rfl ?_
            refine xi_iadd (q := 82) dX9_marked_81 rfl ?_
            refine xi_istore_n (q := 83) dX9_marked_82 (Nat.le_of_ble_eq_true rfl) rfl ?_
            refine xi_iload_n (q := 84) dX9_marked_83 rfl rfl ?_
            refine xi_iconst (x := 4) (q := 85) dX9_marked_84 (by decide) rfl ?_
            refine xi_icmp_ne (q := 88) (q2 := 96) dX9_marked_85 (by decide) rfl (fun c_85 => ?_) (fun c_85 => ?_)
            · skip
              refine xi_iload_n (q := 97) dX9_marked_96 rfl rfl ?_
              refine xi_ret ⟨_, rfl, rfl, dX9_marked_97⟩ (Nat.zero_le _) (Nat.zero_le _) ?_
              exact hp _ (a1.trans rfl) b1 (fun i i1 i2 => (f1 i i1 i2).trans ((Eq.refl _)))
            · first | exact absurd c_85 (by decide) | exact absurd (by decide) c_85
          · first | exact absurd c_68 (by decide) | exact absurd (by decide) c_68
        · first | exact absurd c_55 (by decide) | exact absurd (by decide) c_55
      · first | exact absurd c_27 (by decide) | exact absurd (by decide) c_27
    · first | exact absurd c_16 (by decide) | exact absurd (by decide) c_16
  · first | exact absurd c_2 (by decide) | exact absurd (by decide) c_2

set_option maxRecDepth 20000 in
set_option maxHeartbeats 2000000 in
/-- marked -/
theorem xm_X9_marked2 : xv_K yX9_marked mX9_marked (fun as h n Post => ∃ (fa : Nat → Int32) (dk : Int64) (nu : Nat → Int32) (p : Nat) (tr : Nat → Int32) (m : Nat), as = [.ref 83, .int (nI p), .int 2] ∧ (xs_MW h fa dk nu) ∧ (103 < n) ∧ (p < 7) ∧ (h 103 = xs_ia 16 tr) ∧ (fa 11 = nI m) ∧ (m + 2 ≤ 16) ∧ (∀ h' : xv_H, h' 83 = xs_mo (upd fa 11 (nI (m + 2))) dk → h' 103 = xs_ia 16 (xs_wl tr m [21, 20]) → (∀ i, i ≠ 83 → i ≠ 103 → h' i = h i) → Post (some (.int (nu (12 * p + 4) + 100))) h' n)) := by
  refine xv_entry (by decide +kernel) rfl (fun h => absurd h (by decide)) ?_
  rintro X _ h n Post ⟨fa, dk, nu, p, tr, m, rfl, hW, h103, hp7, htr, h11, hm10, hp⟩
  refine ⟨Nat.le_of_ble_eq_true rfl, ?_⟩
  show xv_V X mX9_marked Post 0 0 0 [(0, .ref 83), (1, .int (nI p)), (2, .int 2)] [] h n
  refine xi_iload_n (q := 1) dX9_marked_0 rfl rfl ?_
  refine xi_iconst (x := 4) (q := 2) dX9_marked_1 (by decide) rfl ?_
  refine xi_icmp_ne (q := 5) (q2 := 11) dX9_marked_2 (by decide) rfl (fun c_2 => ?_) (fun c_2 => ?_)
  · skip
    refine xi_iload_n (q := 12) dX9_marked_11 rfl rfl ?_
    refine xi_iconst (x := 3) (q := 13) dX9_marked_12 (by decide) rfl ?_
    refine xv_cS2 (q := 16) xm_X9_isOf ln_X9_268 dX9_marked_13 ⟨(Nat.le_of_ble_eq_true rfl), (Nat.le_of_ble_eq_true rfl)⟩ (Nat.le_of_ble_eq_true rfl) ⟨rfl, rfl⟩ rfl (Nat.zero_le _) (Nat.zero_le _) ?_
    refine ⟨_, _, rfl, ?_⟩
    refine xi_if_eq (q := 19) (q2 := 25) dX9_marked_16 (by decide) rfl (fun c_16 => ?_) (fun c_16 => ?_)
    · skip
      refine xi_iload_n (q := 26) dX9_marked_25 rfl rfl ?_
      refine xi_iconst (x := 2) (q := 27) dX9_marked_26 (by decide) rfl ?_
      refine xi_icmp_ne (q := 30) (q2 := 36) dX9_marked_27 (by decide) rfl (fun c_27 => ?_) (fun c_27 => ?_)
      · first | exact absurd c_27 (by decide) | exact absurd (by decide) c_27
      · skip
        refine xi_aload_n (q := 31) dX9_marked_30 rfl rfl ?_
        refine xi_bipush (x := 21) (q := 33) dX9_marked_31 (by decide) rfl ?_
        refine xv_cV1 (q := 36) xm_X9_began ln_X9_274 dX9_marked_33 ⟨by omega, hW.1⟩ rfl ⟨(Nat.le_of_ble_eq_true rfl), (Nat.le_of_ble_eq_true rfl)⟩ (Nat.le_of_ble_eq_true rfl) ⟨rfl, rfl⟩ rfl (Nat.zero_le _) (Nat.zero_le _) ?_
        refine ⟨fa, dk, tr, m, 21, rfl, hW.1, h103, htr, h11, by omega, fun h1 a1 b1 f1 => ?_⟩
        refine xi_aload_n (q := 37) dX9_marked_36 rfl rfl ?_
        refine xi_bipush (x := 20) (q := 39) dX9_marked_37 (by decide) rfl ?_
        refine xv_cV1 (q := 42) xm_X9_began ln_X9_274 dX9_marked_39 ⟨by omega, a1⟩ rfl ⟨(Nat.le_of_ble_eq_true rfl), (Nat.le_of_ble_eq_true rfl)⟩ (Nat.le_of_ble_eq_true rfl) ⟨rfl, rfl⟩ rfl (Nat.zero_le _) (Nat.zero_le _) ?_
        refine ⟨(upd fa 11 (nI (m + 1))), dk, (upd tr m 21), (m + 1), 20, rfl, a1, h103, b1, pk_us, by omega, fun h2 a2 b2 f2 => ?_⟩
        refine xi_aload_n (q := 43) dX9_marked_42 rfl rfl ?_
        refine xi_getf (q := 46) dX9_marked_43 fl_X9_23 ⟨by omega, a2⟩ rfl rfl ?_
        refine xi_bipush (x := 12) (q := 48) dX9_marked_46 (by decide) rfl ?_
        refine xi_iload_n (q := 49) dX9_marked_48 rfl rfl ?_
        refine xi_imul (q := 50) dX9_marked_49 rfl ?_
        refine xi_iconst (x := 4) (q := 51) dX9_marked_50 (by decide) rfl ?_
        refine xi_iadd (q := 52) dX9_marked_51 rfl ?_
        refine xi_iald (q := 53) dX9_marked_52 ⟨by omega, ((f2 88 (by omega) (by omega)).trans ((f1 88 (by omega) (by omega)).trans ((Eq.refl _)))).trans hW.2.1⟩ (xn_ix12 (j := 4) hp7 (by omega)) rfl ?_
        refine xi_iload_n (q := 54) dX9_marked_53 rfl rfl ?_
        refine xi_iconst (x := 2) (q := 55) dX9_marked_54 (by decide) rfl ?_
        refine xi_icmp_ne (q := 58) (q2 := 63) dX9_marked_55 (by decide) rfl (fun c_55 => ?_) (fun c_55 => ?_)
        · first | exact absurd c_55 (by decide) | exact absurd (by decide) c_55
        · skip
          refine xi_bipush (x := 100) (q := 60) dX9_marked_58 (by decide) rfl ?_
          refine xi_goto (q := 81) dX9_marked_60 (by decide) ?_
          refine xi_iadd (q := 82) dX9_marked_81 rfl ?_
          refine xi_istore_n (q := 83) dX9_marked_82 (Nat.le_of_ble_eq_true rfl) rfl ?_
          refine xi_iload_n (q := 84) dX9_marked_83 rfl rfl ?_
          refine xi_iconst (x := 4) (q := 85) dX9_marked_84 (by decide) rfl ?_
          refine xi_icmp_ne (q := 88) (q2 := 96) dX9_marked_85 (by decide) rfl (fun c_85 => ?_) (fun c_85 => ?_)
          · skip
            refine xi_iload_n (q := 97) dX9_marked_96 rfl rfl ?_
            refine xi_ret ⟨_, rfl, rfl, dX9_marked_97⟩ (Nat.zero_le _) (Nat.zero_le _) ?_
            exact hp _ (a2.trans rfl) b2 (fun i i1 i2 => (f2 i i1 i2).trans ((f1 i i1 i2).trans ((Eq.refl _))))
          · first | exact absurd c_85 (by decide) | exact absurd (by decide) c_85
    · first | exact absurd c_16 (by decide) | exact absurd (by decide) c_16
  · first | exact absurd c_2 (by decide) | exact absurd (by decide) c_2

set_option maxRecDepth 20000 in
set_option maxHeartbeats 2000000 in
/-- marked -/
theorem xm_X9_marked3 : xv_K yX9_marked mX9_marked (fun as h n Post => ∃ (fa : Nat → Int32) (dk : Int64) (nu : Nat → Int32) (p : Nat) (tr : Nat → Int32) (m : Nat), as = [.ref 83, .int (nI p), .int 3] ∧ (xs_MW h fa dk nu) ∧ (103 < n) ∧ (p < 7) ∧ (h 103 = xs_ia 16 tr) ∧ (fa 11 = nI m) ∧ (m + 4 ≤ 16) ∧ (∀ h' : xv_H, h' 83 = xs_mo (upd fa 11 (nI (m + 4))) dk → h' 103 = xs_ia 16 (xs_wl tr m [22, 20, 13, 10]) → (∀ i, i ≠ 83 → i ≠ 103 → h' i = h i) → Post (some (.int (nu (12 * p + 4) + (nu (12 * p + 1) - nu (12 * p + 11))))) h' n)) := by
  refine xv_entry (by decide +kernel) rfl (fun h => absurd h (by decide)) ?_
  rintro X _ h n Post ⟨fa, dk, nu, p, tr, m, rfl, hW, h103, hp7, htr, h11, hm10, hp⟩
  refine ⟨Nat.le_of_ble_eq_true rfl, ?_⟩
  show xv_V X mX9_marked Post 0 0 0 [(0, .ref 83), (1, .int (nI p)), (2, .int 3)] [] h n
  refine xi_iload_n (q := 1) dX9_marked_0 rfl rfl ?_
  refine xi_iconst (x := 4) (q := 2) dX9_marked_1 (by decide) rfl ?_
  refine xi_icmp_ne (q := 5) (q2 := 11) dX9_marked_2 (by decide) rfl (fun c_2 => ?_) (fun c_2 => ?_)
  · skip
    refine xi_iload_n (q := 12) dX9_marked_11 rfl rfl ?_
    refine xi_iconst (x := 3) (q := 13) dX9_marked_12 (by decide) rfl ?_
    refine xv_cS2 (q := 16) xm_X9_isOf ln_X9_268 dX9_marked_13 ⟨(Nat.le_of_ble_eq_true rfl), (Nat.le_of_ble_eq_true rfl)⟩ (Nat.le_of_ble_eq_true rfl) ⟨rfl, rfl⟩ rfl (Nat.zero_le _) (Nat.zero_le _) ?_
    refine ⟨_, _, rfl, ?_⟩
    refine xi_if_eq (q := 19) (q2 := 25) dX9_marked_16 (by decide) rfl (fun c_16 => ?_) (fun c_16 => ?_)
    · first | exact absurd c_16 (by decide) | exact absurd (by decide) c_16
    · skip
      refine xi_aload_n (q := 20) dX9_marked_19 rfl rfl ?_
      refine xi_bipush (x := 22) (q := 22) dX9_marked_20 (by decide) rfl ?_
      refine xv_cV1 (q := 25) xm_X9_began ln_X9_274 dX9_marked_22 ⟨by omega, hW.1⟩ rfl ⟨(Nat.le_of_ble_eq_true rfl), (Nat.le_of_ble_eq_true rfl)⟩ (Nat.le_of_ble_eq_true rfl) ⟨rfl, rfl⟩ rfl (Nat.zero_le _) (Nat.zero_le _) ?_
      refine ⟨fa, dk, tr, m, 22, rfl, hW.1, h103, htr, h11, by omega, fun h1 a1 b1 f1 => ?_⟩
      refine xi_iload_n (q := 26) dX9_marked_25 rfl rfl ?_
      refine xi_iconst (x := 2) (q := 27) dX9_marked_26 (by decide) rfl ?_
      refine xi_icmp_ne (q := 30) (q2 := 36) dX9_marked_27 (by decide) rfl (fun c_27 => ?_) (fun c_27 => ?_)
      · skip
        refine xi_aload_n (q := 37) dX9_marked_36 rfl rfl ?_
        refine xi_bipush (x := 20) (q := 39) dX9_marked_37 (by decide) rfl ?_
        refine xv_cV1 (q := 42) xm_X9_began ln_X9_274 dX9_marked_39 ⟨by omega, a1⟩ rfl ⟨(Nat.le_of_ble_eq_true rfl), (Nat.le_of_ble_eq_true rfl)⟩ (Nat.le_of_ble_eq_true rfl) ⟨rfl, rfl⟩ rfl (Nat.zero_le _) (Nat.zero_le _) ?_
        refine ⟨(upd fa 11 (nI (m + 1))), dk, (upd tr m 22), (m + 1), 20, rfl, a1, h103, b1, pk_us, by omega, fun h2 a2 b2 f2 => ?_⟩
        refine xi_aload_n (q := 43) dX9_marked_42 rfl rfl ?_
        refine xi_getf (q := 46) dX9_marked_43 fl_X9_23 ⟨by omega, a2⟩ rfl rfl ?_
        refine xi_bipush (x := 12) (q := 48) dX9_marked_46 (by decide) rfl ?_
        refine xi_iload_n (q := 49) dX9_marked_48 rfl rfl ?_
        refine xi_imul (q := 50) dX9_marked_49 rfl ?_
        refine xi_iconst (x := 4) (q := 51) dX9_marked_50 (by decide) rfl ?_
        refine xi_iadd (q := 52) dX9_marked_51 rfl ?_
        refine xi_iald (q := 53) dX9_marked_52 ⟨by omega, ((f2 88 (by omega) (by omega)).trans ((f1 88 (by omega) (by omega)).trans ((Eq.refl _)))).trans hW.2.1⟩ (xn_ix12 (j := 4) hp7 (by omega)) rfl ?_
        refine xi_iload_n (q := 54) dX9_marked_53 rfl rfl ?_
        refine xi_iconst (x := 2) (q := 55) dX9_marked_54 (by decide) rfl ?_
        refine xi_icmp_ne (q := 58) (q2 := 63) dX9_marked_55 (by decide) rfl (fun c_55 => ?_) (fun c_55 => ?_)
        · skip
          refine xi_iload_n (q := 64) dX9_marked_63 rfl rfl ?_
          refine xi_iconst (x := 3) (q := 65) dX9_marked_64 (by decide) rfl ?_
          refine xv_cS2 (q := 68) xm_X9_isOf ln_X9_268 dX9_marked_65 ⟨(Nat.le_of_ble_eq_true rfl), (Nat.le_of_ble_eq_true rfl)⟩ (Nat.le_of_ble_eq_true rfl) ⟨rfl, rfl⟩ rfl (Nat.zero_le _) (Nat.zero_le _) ?_
          refine ⟨_, _, rfl, ?_⟩
          refine xi_if_eq (q := 71) (q2 := 80) dX9_marked_68 (by decide) rfl (fun c_68 => ?_) (fun c_68 => ?_)
          · first | exact absurd c_68 (by decide) | exact absurd (by decide) c_68
          · skip
            refine xi_aload_n (q := 72) dX9_marked_71 rfl rfl ?_
            refine xi_iload_n (q := 73) dX9_marked_72 rfl rfl ?_
            refine xi_iload_n (q := 74) dX9_marked_73 rfl rfl ?_
            refine xv_cV2 (q := 77) xm_X9_sickWorth3 ln_X9_278 dX9_marked_74 ⟨by omega, a2⟩ rfl ⟨(Nat.le_of_ble_eq_true rfl), (Nat.le_of_ble_eq_true rfl)⟩ (Nat.le_of_ble_eq_true rfl) ⟨rfl, rfl⟩ rfl (Nat.zero_le _) (Nat.zero_le _) ?_
            refine ⟨(upd (upd fa 11 (nI (m + 1))) 11 (nI ((m + 1) + 1))), dk, nu, p, (upd (upd tr m 22) (m + 1) 20), ((m + 1) + 1), rfl, ⟨a2, ((f2 88 (by omega) (by omega)).trans ((f1 88 (by omega) (by omega)).trans ((Eq.refl _)))).trans hW.2.1, ((f2 93 (by omega) (by omega)).trans ((f1 93 (by omega) (by omega)).trans ((Eq.refl _)))).trans hW.2.2⟩, h103, hp7, b2, pk_us, by omega, fun h3 a3 b3 f3 => ?_⟩
            refine xi_goto (q := 81) dX9_marked_77 (by decide) ?_
            refine xi_iadd (q := 82) dX9_marked_81 rfl ?_
            refine xi_istore_n (q := 83) dX9_marked_82 (Nat.le_of_ble_eq_true rfl) rfl ?_
            refine xi_iload_n (q := 84) dX9_marked_83 rfl rfl ?_
            refine xi_iconst (x := 4) (q := 85) dX9_marked_84 (by decide) rfl ?_
            refine xi_icmp_ne (q := 88) (q2 := 96) dX9_marked_85 (by decide) rfl (fun c_85 => ?_) (fun c_85 => ?_)
            · skip
              refine xi_iload_n (q := 97) dX9_marked_96 rfl rfl ?_
              refine xi_ret ⟨_, rfl, rfl, dX9_marked_97⟩ (Nat.zero_le _) (Nat.zero_le _) ?_
              exact hp _ (a3.trans rfl) b3 (fun i i1 i2 => (f3 i i1 i2).trans ((f2 i i1 i2).trans ((f1 i i1 i2).trans ((Eq.refl _)))))
            · first | exact absurd c_85 (by decide) | exact absurd (by decide) c_85
        · first | exact absurd c_55 (by decide) | exact absurd (by decide) c_55
      · first | exact absurd c_27 (by decide) | exact absurd (by decide) c_27
  · first | exact absurd c_2 (by decide) | exact absurd (by decide) c_2

set_option maxRecDepth 20000 in
set_option maxHeartbeats 2000000 in
/-- marked -/
theorem xm_X9_marked4 : xv_K yX9_marked mX9_marked (fun as h n Post => ∃ (fa : Nat → Int32) (dk : Int64) (nu : Nat → Int32) (p : Nat) (tr : Nat → Int32) (m : Nat), as = [.ref 83, .int (nI p), .int 4] ∧ (xs_MW h fa dk nu) ∧ (103 < n) ∧ (p < 7) ∧ (h 103 = xs_ia 16 tr) ∧ (fa 11 = nI m) ∧ (m + 6 ≤ 16) ∧ (∀ h' : xv_H, h' 83 = xs_mo (upd fa 11 (nI (m + 6))) dk → h' 103 = xs_ia 16 (xs_wl tr m [23, 22, 20, 14, 13, 10]) → (∀ i, i ≠ 83 → i ≠ 103 → h' i = h i) → Post (some (.int (nu (12 * p + 4) + 2 * (nu (12 * p + 1) - nu (12 * p + 11)) - 1000))) h' n)) := by
  refine xv_entry (by decide +kernel) rfl (fun h => absurd h (by decide)) ?_
  rintro X _ h n Post ⟨fa, dk, nu, p, tr, m, rfl, hW, h103, hp7, htr, h11, hm10, hp⟩
  refine ⟨Nat.le_of_ble_eq_true rfl, ?_⟩
  show xv_V X mX9_marked Post 0 0 0 [(0, .ref 83), (1, .int (nI p)), (2, .int 4)] [] h n
  refine xi_iload_n (q := 1) dX9_marked_0 rfl rfl ?_
  refine xi_iconst (x := 4) (q := 2) dX9_marked_1 (by decide) rfl ?_
  refine xi_icmp_ne (q := 5) (q2 := 11) dX9_marked_2 (by decide) rfl (fun c_2 => ?_) (fun c_2 => ?_)
  · first | exact absurd c_2 (by decide) | exact absurd (by decide) c_2
  · skip
    refine xi_aload_n (q := 6) dX9_marked_5 rfl rfl ?_
    refine xi_bipush (x := 23) (q := 8) dX9_marked_6 (by decide) rfl ?_
    refine xv_cV1 (q := 11) xm_X9_began ln_X9_274 dX9_marked_8 ⟨by omega, hW.1⟩ rfl ⟨(Nat.le_of_ble_eq_true rfl), (Nat.le_of_ble_eq_true rfl)⟩ (Nat.le_of_ble_eq_true rfl) ⟨rfl, rfl⟩ rfl (Nat.zero_le _) (Nat.zero_le _) ?_
    refine ⟨fa, dk, tr, m, 23, rfl, hW.1, h103, htr, h11, by omega, fun h1 a1 b1 f1 => ?_⟩
    refine xi_iload_n (q := 12) dX9_marked_11 rfl rfl ?_
    refine xi_iconst (x := 3) (q := 13) dX9_marked_12 (by decide) rfl ?_
    refine xv_cS2 (q := 16) xm_X9_isOf ln_X9_268 dX9_marked_13 ⟨(Nat.le_of_ble_eq_true rfl), (Nat.le_of_ble_eq_true rfl)⟩ (Nat.le_of_ble_eq_true rfl) ⟨rfl, rfl⟩ rfl (Nat.zero_le _) (Nat.zero_le _) ?_
    refine ⟨_, _, rfl, ?_⟩
    refine xi_if_eq (q := 19) (q2 := 25) dX9_marked_16 (by decide) rfl (fun c_16 => ?_) (fun c_16 => ?_)
    · first | exact absurd c_16 (by decide) | exact absurd (by decide) c_16
    · skip
      refine xi_aload_n (q := 20) dX9_marked_19 rfl rfl ?_
      refine xi_bipush (x := 22) (q := 22) dX9_marked_20 (by decide) rfl ?_
      refine xv_cV1 (q := 25) xm_X9_began ln_X9_274 dX9_marked_22 ⟨by omega, a1⟩ rfl ⟨(Nat.le_of_ble_eq_true rfl), (Nat.le_of_ble_eq_true rfl)⟩ (Nat.le_of_ble_eq_true rfl) ⟨rfl, rfl⟩ rfl (Nat.zero_le _) (Nat.zero_le _) ?_
      refine ⟨(upd fa 11 (nI (m + 1))), dk, (upd tr m 23), (m + 1), 22, rfl, a1, h103, b1, pk_us, by omega, fun h2 a2 b2 f2 => ?_⟩
      refine xi_iload_n (q := 26) dX9_marked_25 rfl rfl ?_
      refine xi_iconst (x := 2) (q := 27) dX9_marked_26 (by decide) rfl ?_
      refine xi_icmp_ne (q := 30) (q2 := 36) dX9_marked_27 (by decide) rfl (fun c_27 => ?_) (fun c_27 => ?_)
      · skip
        refine xi_aload_n (q := 37) dX9_marked_36 rfl rfl ?_
        refine xi_bipush (x := 20) (q := 39) dX9_marked_37 (by decide) rfl ?_
        refine xv_cV1 (q := 42) xm_X9_began ln_X9_274 dX9_marked_39 ⟨by omega, a2⟩ rfl ⟨(Nat.le_of_ble_eq_true rfl), (Nat.le_of_ble_eq_true rfl)⟩ (Nat.le_of_ble_eq_true rfl) ⟨rfl, rfl⟩ rfl (Nat.zero_le _) (Nat.zero_le _) ?_
        refine ⟨(upd (upd fa 11 (nI (m + 1))) 11 (nI ((m + 1) + 1))), dk, (upd (upd tr m 23) (m + 1) 22), ((m + 1) + 1), 20, rfl, a2, h103, b2, pk_us, by omega, fun h3 a3 b3 f3 => ?_⟩
        refine xi_aload_n (q := 43) dX9_marked_42 rfl rfl ?_
        refine xi_getf (q := 46) dX9_marked_43 fl_X9_23 ⟨by omega, a3⟩ rfl rfl ?_
        refine xi_bipush (x := 12) (q := 48) dX9_marked_46 (by decide) rfl ?_
        refine xi_iload_n (q := 49) dX9_marked_48 rfl rfl ?_
        refine xi_imul (q := 50) dX9_marked_49 rfl ?_
        refine xi_iconst (x := 4) (q := 51) dX9_marked_50 (by decide) rfl ?_
        refine xi_iadd (q := 52) dX9_marked_51 rfl ?_
        refine xi_iald (q := 53) dX9_marked_52 ⟨by omega, ((f3 88 (by omega) (by omega)).trans ((f2 88 (by omega) (by omega)).trans ((f1 88 (by omega) (by omega)).trans ((Eq.refl _))))).trans hW.2.1⟩ (xn_ix12 (j := 4) hp7 (by omega)) rfl ?_
        refine xi_iload_n (q := 54) dX9_marked_53 rfl rfl ?_
        refine xi_iconst (x := 2) (q := 55) dX9_marked_54 (by decide) rfl ?_
        refine xi_icmp_ne (q := 58) (q2 := 63) dX9_marked_55 (by decide) rfl (fun c_55 => ?_) (fun c_55 => ?_)
        · skip
          refine xi_iload_n (q := 64) dX9_marked_63 rfl rfl ?_
          refine xi_iconst (x := 3) (q := 65) dX9_marked_64 (by decide) rfl ?_
          refine xv_cS2 (q := 68) xm_X9_isOf ln_X9_268 dX9_marked_65 ⟨(Nat.le_of_ble_eq_true rfl), (Nat.le_of_ble_eq_true rfl)⟩ (Nat.le_of_ble_eq_true rfl) ⟨rfl, rfl⟩ rfl (Nat.zero_le _) (Nat.zero_le _) ?_
          refine ⟨_, _, rfl, ?_⟩
          refine xi_if_eq (q := 71) (q2 := 80) dX9_marked_68 (by decide) rfl (fun c_68 => ?_) (fun c_68 => ?_)
          · first | exact absurd c_68 (by decide) | exact absurd (by decide) c_68
          · skip
            refine xi_aload_n (q := 72) dX9_marked_71 rfl rfl ?_
            refine xi_iload_n (q := 73) dX9_marked_72 rfl rfl ?_
            refine xi_iload_n (q := 74) dX9_marked_73 rfl rfl ?_
            refine xv_cV2 (q := 77) xm_X9_sickWorth4 ln_X9_278 dX9_marked_74 ⟨by omega, a3⟩ rfl ⟨(Nat.le_of_ble_eq_true rfl), (Nat.le_of_ble_eq_true rfl)⟩ (Nat.le_of_ble_eq_true rfl) ⟨rfl, rfl⟩ rfl (Nat.zero_le _) (Nat.zero_le _) ?_
            refine ⟨(upd (upd (upd fa 11 (nI (m + 1))) 11 (nI ((m + 1) + 1))) 11 (nI (((m + 1) + 1) + 1))), dk, nu, p, (upd (upd (upd tr m 23) (m + 1) 22) ((m + 1) + 1) 20), (((m + 1) + 1) + 1), rfl, ⟨a3, ((f3 88 (by omega) (by omega)).trans ((f2 88 (by omega) (by omega)).trans ((f1 88 (by omega) (by omega)).trans ((Eq.refl _))))).trans hW.2.1, ((f3 93 (by omega) (by omega)).trans ((f2 93 (by omega) (by omega)).trans ((f1 93 (by omega) (by omega)).trans ((Eq.refl _))))).trans hW.2.2⟩, h103, hp7, b3, pk_us, by omega, fun h4 a4 b4 f4 => ?_⟩
            refine xi_goto (q := 81) dX9_marked_77 (by decide) ?_
            refine xi_iadd (q := 82) dX9_marked_81 rfl ?_
            refine xi_istore_n (q := 83) dX9_marked_82 (Nat.le_of_ble_eq_true rfl) rfl ?_
            refine xi_iload_n (q := 84) dX9_marked_83 rfl rfl ?_
            refine xi_iconst (x := 4) (q := 85) dX9_marked_84 (by decide) rfl ?_
            refine xi_icmp_ne (q := 88) (q2 := 96) dX9_marked_85 (by decide) rfl (fun c_85 => ?_) (fun c_85 => ?_)
            · first | exact absurd c_85 (by decide) | exact absurd (by decide) c_85
            · skip
              refine xi_iload_n (q := 89) dX9_marked_88 rfl rfl ?_
              refine xi_sipush (x := 1000) (q := 92) dX9_marked_89 (by decide) rfl ?_
              refine xi_isub (q := 93) dX9_marked_92 rfl ?_
              refine xi_goto (q := 97) dX9_marked_93 (by decide) ?_
              refine xi_ret ⟨_, rfl, rfl, dX9_marked_97⟩ (Nat.zero_le _) (Nat.zero_le _) ?_
              exact hp _ (a4.trans rfl) b4 (fun i i1 i2 => (f4 i i1 i2).trans ((f3 i i1 i2).trans ((f2 i i1 i2).trans ((f1 i i1 i2).trans ((Eq.refl _))))))
        · first | exact absurd c_55 (by decide) | exact absurd (by decide) c_55
      · first | exact absurd c_27 (by decide) | exact absurd (by decide) c_27

set_option maxRecDepth 20000 in
set_option maxHeartbeats 2000000 in
/-- worth -/
theorem xm_X9_worth1 : xv_K yX9_worth mX9_worth (fun as h n Post => ∃ (fa : Nat → Int32) (dk : Int64) (nu : Nat → Int32) (p : Nat) (tr : Nat → Int32) (m : Nat), as = [.ref 83, .int (nI p), .int 1] ∧ (xs_MW h fa dk nu) ∧ (103 < n) ∧ (p < 7) ∧ (h 103 = xs_ia 16 tr) ∧ (fa 11 = nI m) ∧ (m + 2 ≤ 16) ∧ (∀ h' : xv_H, h' 83 = xs_mo (upd fa 11 (nI (m + 2))) dk → h' 103 = xs_ia 16 (xs_wl tr m [11, 10]) → (∀ i, i ≠ 83 → i ≠ 103 → h' i = h i) → Post (some (.int (nu (12 * p + 1) + xs_led (xs_nr nu p) (nu (12 * p + 11))))) h' n)) := by
  refine xv_entry (by decide +kernel) rfl (fun h => absurd h (by decide)) ?_
  rintro X _ h n Post ⟨fa, dk, nu, p, tr, m, rfl, hW, h103, hp7, htr, h11, hm10, hp⟩
  refine ⟨Nat.le_of_ble_eq_true rfl, ?_⟩
  show xv_V X mX9_worth Post 0 0 0 [(0, .ref 83), (1, .int (nI p)), (2, .int 1)] [] h n
  refine xi_iload_n (q := 1) dX9_worth_0 rfl rfl ?_
  refine xi_iconst (x := 3) (q := 2) dX9_worth_1 (by decide) rfl ?_
  refine xv_cS2 (q := 5) xm_X9_isOf ln_X9_268 dX9_worth_2 ⟨(Nat.le_of_ble_eq_true rfl), (Nat.le_of_ble_eq_true rfl)⟩ (Nat.le_of_ble_eq_true rfl) ⟨rfl, rfl⟩ rfl (Nat.zero_le _) (Nat.zero_le _) ?_
  refine ⟨_, _, rfl, ?_⟩
  refine xi_if_eq (q := 8) (q2 := 15) dX9_worth_5 (by decide) rfl (fun c_5 => ?_) (fun c_5 => ?_)
  · skip
    refine xi_iload_n (q := 16) dX9_worth_15 rfl rfl ?_
    refine xi_iconst (x := 2) (q := 17) dX9_worth_16 (by decide) rfl ?_
    refine xi_icmp_ne (q := 20) (q2 := 26) dX9_worth_17 (by decide) rfl (fun c_17 => ?_) (fun c_17 => ?_)
    · skip
      refine xi_aload_n (q := 27) dX9_worth_26 rfl rfl ?_
      refine xi_bipush (x := 11) (q := 29) dX9_worth_27 (by decide) rfl ?_
      refine xv_cV1 (q := 32) xm_X9_began ln_X9_274 dX9_worth_29 ⟨by omega, hW.1⟩ rfl ⟨(Nat.le_of_ble_eq_true rfl), (Nat.le_of_ble_eq_true rfl)⟩ (Nat.le_of_ble_eq_true rfl) ⟨rfl, rfl⟩ rfl (Nat.zero_le _) (Nat.zero_le _) ?_
      refine ⟨fa, dk, tr, m, 11, rfl, hW.1, h103, htr, h11, by omega, fun h1 a1 b1 f1 => ?_⟩
      refine xi_aload_n (q := 33) dX9_worth_32 rfl rfl ?_
      refine xi_bipush (x := 10) (q := 35) dX9_worth_33 (by decide) rfl ?_
      refine xv_cV1 (q := 38) xm_X9_began ln_X9_274 dX9_worth_35 ⟨by omega, a1⟩ rfl ⟨(Nat.le_of_ble_eq_true rfl), (Nat.le_of_ble_eq_true rfl)⟩ (Nat.le_of_ble_eq_true rfl) ⟨rfl, rfl⟩ rfl (Nat.zero_le _) (Nat.zero_le _) ?_
      refine ⟨(upd fa 11 (nI (m + 1))), dk, (upd tr m 11), (m + 1), 10, rfl, a1, h103, b1, pk_us, by omega, fun h2 a2 b2 f2 => ?_⟩
      refine xi_aload_n (q := 39) dX9_worth_38 rfl rfl ?_
      refine xi_getf (q := 42) dX9_worth_39 fl_X9_23 ⟨by omega, a2⟩ rfl rfl ?_
      refine xi_bipush (x := 12) (q := 44) dX9_worth_42 (by decide) rfl ?_
      refine xi_iload_n (q := 45) dX9_worth_44 rfl rfl ?_
      refine xi_imul (q := 46) dX9_worth_45 rfl ?_
      refine xi_iconst (x := 1) (q := 47) dX9_worth_46 (by decide) rfl ?_
      refine xi_iadd (q := 48) dX9_worth_47 rfl ?_
      refine xi_iald (q := 49) dX9_worth_48 ⟨by omega, ((f2 88 (by omega) (by omega)).trans ((f1 88 (by omega) (by omega)).trans ((Eq.refl _)))).trans hW.2.1⟩ (xn_ix12 (j := 1) hp7 (by omega)) rfl ?_
      refine xi_aload_n (q := 50) dX9_worth_49 rfl rfl ?_
      refine xi_iload_n (q := 51) dX9_worth_50 rfl rfl ?_
      refine xv_cV1 (q := 54) xm_X9_leadOf ln_X9_182 dX9_worth_51 ⟨by omega, a2⟩ rfl ⟨(Nat.le_of_ble_eq_true rfl), (Nat.le_of_ble_eq_true rfl)⟩ (Nat.le_of_ble_eq_true rfl) ⟨rfl, rfl⟩ rfl (Nat.zero_le _) (Nat.zero_le _) ?_
      refine ⟨(upd (upd fa 11 (nI (m + 1))) 11 (nI ((m + 1) + 1))), dk, nu, p, rfl, ⟨a2, ((f2 88 (by omega) (by omega)).trans ((f1 88 (by omega) (by omega)).trans ((Eq.refl _)))).trans hW.2.1, ((f2 93 (by omega) (by omega)).trans ((f1 93 (by omega) (by omega)).trans ((Eq.refl _)))).trans hW.2.2⟩, h103, hp7, ?_⟩
      refine xi_iadd (q := 55) dX9_worth_54 rfl ?_
      refine xi_istore_n (q := 56) dX9_worth_55 (Nat.le_of_ble_eq_true rfl) rfl ?_
      refine xi_iload_n (q := 57) dX9_worth_56 rfl rfl ?_
      refine xi_iconst (x := 2) (q := 58) dX9_worth_57 (by decide) rfl ?_
      refine xi_icmp_ne (q := 61) (q2 := 72) dX9_worth_58 (by decide) rfl (fun c_58 => ?_) (fun c_58 => ?_)
      · skip
        refine xi_iload_n (q := 73) dX9_worth_72 rfl rfl ?_
        refine xi_ret ⟨_, rfl, rfl, dX9_worth_73⟩ (Nat.zero_le _) (Nat.zero_le _) ?_
        exact hp _ (a2.trans rfl) b2 (fun i i1 i2 => (f2 i i1 i2).trans ((f1 i i1 i2).trans ((Eq.refl _))))
      · first | exact absurd c_58 (by decide) | exact absurd (by decide) c_58
    · first | exact absurd c_17 (by decide) | exact absurd (by decide) c_17
  · first | exact absurd c_5 (by decide) | exact absurd (by decide) c_5

set_option maxRecDepth 20000 in
set_option maxHeartbeats 2000000 in
/-- worth -/
theorem xm_X9_worth2 : xv_K yX9_worth mX9_worth (fun as h n Post => ∃ (fa : Nat → Int32) (dk : Int64) (nu : Nat → Int32) (p : Nat) (tr : Nat → Int32) (m : Nat), as = [.ref 83, .int (nI p), .int 2] ∧ (xs_MW h fa dk nu) ∧ (103 < n) ∧ (p < 7) ∧ (h 103 = xs_ia 16 tr) ∧ (fa 11 = nI m) ∧ (m + 5 ≤ 16) ∧ (∀ h' : xv_H, h' 83 = xs_mo (upd fa 11 (nI (m + 5))) dk → h' 103 = xs_ia 16 (xs_wl tr m [12, 11, 10, 21, 20]) → (∀ i, i ≠ 83 → i ≠ 103 → h' i = h i) → Post (some (.int (nu (12 * p + 1) + xs_led (xs_nr nu p) (nu (12 * p + 11)) + (nu (12 * p + 4) + 100)))) h' n)) := by
  refine xv_entry (by decide +kernel) rfl (fun h => absurd h (by decide)) ?_
  rintro X _ h n Post ⟨fa, dk, nu, p, tr, m, rfl, hW, h103, hp7, htr, h11, hm10, hp⟩
  refine ⟨Nat.le_of_ble_eq_true rfl, ?_⟩
  show xv_V X mX9_worth Post 0 0 0 [(0, .ref 83), (1, .int (nI p)), (2, .int 2)] [] h n
  refine xi_iload_n (q := 1) dX9_worth_0 rfl rfl ?_
  refine xi_iconst (x := 3) (q := 2) dX9_worth_1 (by decide) rfl ?_
  refine xv_cS2 (q := 5) xm_X9_isOf ln_X9_268 dX9_worth_2 ⟨(Nat.le_of_ble_eq_true rfl), (Nat.le_of_ble_eq_true rfl)⟩ (Nat.le_of_ble_eq_true rfl) ⟨rfl, rfl⟩ rfl (Nat.zero_le _) (Nat.zero_le _) ?_
  refine ⟨_, _, rfl, ?_⟩
  refine xi_if_eq (q := 8) (q2 := 15) dX9_worth_5 (by decide) rfl (fun c_5 => ?_) (fun c_5 => ?_)
  · skip
    refine xi_iload_n (q := 16) dX9_worth_15 rfl rfl ?_
    refine xi_iconst (x := 2) (q := 17) dX9_worth_16 (by decide) rfl ?_
    refine xi_icmp_ne (q := 20) (q2 := 26) dX9_worth_17 (by decide) rfl (fun c_17 => ?_) (fun c_17 => ?_)
    · first | exact absurd c_17 (by decide) | exact absurd (by decide) c_17
    · skip
      refine xi_aload_n (q := 21) dX9_worth_20 rfl rfl ?_
      refine xi_bipush (x := 12) (q := 23) dX9_worth_21 (by decide) rfl ?_
      refine xv_cV1 (q := 26) xm_X9_began ln_X9_274 dX9_worth_23 ⟨by omega, hW.1⟩ rfl ⟨(Nat.le_of_ble_eq_true rfl), (Nat.le_of_ble_eq_true rfl)⟩ (Nat.le_of_ble_eq_true rfl) ⟨rfl, rfl⟩ rfl (Nat.zero_le _) (Nat.zero_le _) ?_
      refine ⟨fa, dk, tr, m, 12, rfl, hW.1, h103, htr, h11, by omega, fun h1 a1 b1 f1 => ?_⟩
      refine xi_aload_n (q := 27) dX9_worth_26 rfl rfl ?_
      refine xi_bipush (x := 11) (q := 29) dX9_worth_27 (by decide) rfl ?_
      refine xv_cV1 (q := 32) xm_X9_began ln_X9_274 dX9_worth_29 ⟨by omega, a1⟩ rfl ⟨(Nat.le_of_ble_eq_true rfl), (Nat.le_of_ble_eq_true rfl)⟩ (Nat.le_of_ble_eq_true rfl) ⟨rfl, rfl⟩ rfl (Nat.zero_le _) (Nat.zero_le _) ?_
      refine ⟨(upd fa 11 (nI (m + 1))), dk, (upd tr m 12), (m + 1), 11, rfl, a1, h103, b1, pk_us, by omega, fun h2 a2 b2 f2 => ?_⟩
      refine xi_aload_n (q := 33) dX9_worth_32 rfl rfl ?_
      refine xi_bipush (x := 10) (q := 35) dX9_worth_33 (by decide) rfl ?_
      refine xv_cV1 (q := 38) xm_X9_began ln_X9_274 dX9_worth_35 ⟨by omega, a2⟩ rfl ⟨(Nat.le_of_ble_eq_true rfl), (Nat.le_of_ble_eq_true rfl)⟩ (Nat.le_of_ble_eq_true rfl) ⟨rfl, rfl⟩ rfl (Nat.zero_le _) (Nat.zero_le _) ?_
      refine ⟨(upd (upd fa 11 (nI (m + 1))) 11 (nI ((m + 1) + 1))), dk, (upd (upd tr m 12) (m + 1) 11), ((m + 1) + 1), 10, rfl, a2, h103, b2, pk_us, by omega, fun h3 a3 b3 f3 => ?_⟩
      refine xi_aload_n (q := 39) dX9_worth_38 rfl rfl ?_
      refine xi_getf (q := 42) dX9_worth_39 fl_X9_23 ⟨by omega, a3⟩ rfl rfl ?_
      refine xi_bipush (x := 12) (q := 44) dX9_worth_42 (by decide) rfl ?_
      refine xi_iload_n (q := 45) dX9_worth_44 rfl rfl ?_
      refine xi_imul (q := 46) dX9_worth_45 rfl ?_
      refine xi_iconst (x := 1) (q := 47) dX9_worth_46 (by decide) rfl ?_
      refine xi_iadd (q := 48) dX9_worth_47 rfl ?_
      refine xi_iald (q := 49) dX9_worth_48 ⟨by omega, ((f3 88 (by omega) (by omega)).trans ((f2 88 (by omega) (by omega)).trans ((f1 88 (by omega) (by omega)).trans ((Eq.refl _))))).trans hW.2.1⟩ (xn_ix12 (j := 1) hp7 (by omega)) rfl ?_
      refine xi_aload_n (q := 50) dX9_worth_49 rfl rfl ?_
      refine xi_iload_n (q := 51) dX9_worth_50 rfl rfl ?_
      refine xv_cV1 (q := 54) xm_X9_leadOf ln_X9_182 dX9_worth_51 ⟨by omega, a3⟩ rfl ⟨(Nat.le_of_ble_eq_true rfl), (Nat.le_of_ble_eq_true rfl)⟩ (Nat.le_of_ble_eq_true rfl) ⟨rfl, rfl⟩ rfl (Nat.zero_le _) (Nat.zero_le _) ?_
      refine ⟨(upd (upd (upd fa 11 (nI (m + 1))) 11 (nI ((m + 1) + 1))) 11 (nI (((m + 1) + 1) + 1))), dk, nu, p, rfl, ⟨a3, ((f3 88 (by omega) (by omega)).trans ((f2 88 (by omega) (by omega)).trans ((f1 88 (by omega) (by omega)).trans ((Eq.refl _))))).trans hW.2.1, ((f3 93 (by omega) (by omega)).trans ((f2 93 (by omega) (by omega)).trans ((f1 93 (by omega) (by omega)).trans ((Eq.refl _))))).trans hW.2.2⟩, h103, hp7, ?_⟩
      refine xi_iadd (q := 55) dX9_worth_54 rfl ?_
      refine xi_istore_n (q := 56) dX9_worth_55 (Nat.le_of_ble_eq_true rfl) rfl ?_
      refine xi_iload_n (q := 57) dX9_worth_56 rfl rfl ?_
      refine xi_iconst (x := 2) (q := 58) dX9_worth_57 (by decide) rfl ?_
      refine xi_icmp_ne (q := 61) (q2 := 72) dX9_worth_58 (by decide) rfl (fun c_58 => ?_) (fun c_58 => ?_)
      · first | exact absurd c_58 (by decide) | exact absurd (by decide) c_58
      · skip
        refine xi_iload_n (q := 62) dX9_worth_61 rfl rfl ?_
        refine xi_aload_n (q := 63) dX9_worth_62 rfl rfl ?_
        refine xi_iload_n (q := 64) dX9_worth_63 rfl rfl ?_
        refine xi_iload_n (q := 65) dX9_worth_64 rfl rfl ?_
        refine xv_cV2 (q := 68) xm_X9_marked2 ln_X9_281 dX9_worth_65 ⟨by omega, a3⟩ rfl ⟨(Nat.le_of_ble_eq_true rfl), (Nat.le_of_ble_eq_true rfl)⟩ (Nat.le_of_ble_eq_true rfl) ⟨rfl, rfl⟩ rfl (Nat.zero_le _) (Nat.zero_le _) ?_
        refine ⟨(upd (upd (upd fa 11 (nI (m + 1))) 11 (nI ((m + 1) + 1))) 11 (nI (((m + 1) + 1) + 1))), dk, nu, p, (upd (upd (upd tr m 12) (m + 1) 11) ((m + 1) + 1) 10), (((m + 1) + 1) + 1), rfl, ⟨a3, ((f3 88 (by omega) (by omega)).trans ((f2 88 (by omega) (by omega)).trans ((f1 88 (by omega) (by omega)).trans ((Eq.refl _))))).trans hW.2.1, ((f3 93 (by omega) (by omega)).trans ((f2 93 (by omega) (by omega)).trans ((f1 93 (by omega) (by omega)).trans ((Eq.refl _))))).trans hW.2.2⟩, h103, hp7, b3, pk_us, by omega, fun h4 a4 b4 f4 => ?_⟩
        refine xi_iadd (q := 69) dX9_worth_68 rfl ?_
        refine xi_goto (q := 73) dX9_worth_69 (by decide) ?_
        refine xi_ret ⟨_, rfl, rfl, dX9_worth_73⟩ (Nat.zero_le _) (Nat.zero_le _) ?_
        exact hp _ (a4.trans rfl) b4 (fun i i1 i2 => (f4 i i1 i2).trans ((f3 i i1 i2).trans ((f2 i i1 i2).trans ((f1 i i1 i2).trans ((Eq.refl _))))))
  · first | exact absurd c_5 (by decide) | exact absurd (by decide) c_5

set_option maxRecDepth 20000 in
set_option maxHeartbeats 2000000 in
/-- worth -/
theorem xm_X9_worth3 : xv_K yX9_worth mX9_worth (fun as h n Post => ∃ (fa : Nat → Int32) (dk : Int64) (nu : Nat → Int32) (p : Nat) (tr : Nat → Int32) (m : Nat), as = [.ref 83, .int (nI p), .int 3] ∧ (xs_MW h fa dk nu) ∧ (103 < n) ∧ (p < 7) ∧ (h 103 = xs_ia 16 tr) ∧ (fa 11 = nI m) ∧ (m + 2 ≤ 16) ∧ (∀ h' : xv_H, h' 83 = xs_mo (upd fa 11 (nI (m + 2))) dk → h' 103 = xs_ia 16 (xs_wl tr m [13, 10]) → (∀ i, i ≠ 83 → i ≠ 103 → h' i = h i) → Post (some (.int (nu (12 * p + 1) - nu (12 * p + 11)))) h' n)) := by
  refine xv_entry (by decide +kernel) rfl (fun h => absurd h (by decide)) ?_
  rintro X _ h n Post ⟨fa, dk, nu, p, tr, m, rfl, hW, h103, hp7, htr, h11, hm10, hp⟩
  refine ⟨Nat.le_of_ble_eq_true rfl, ?_⟩
  show xv_V X mX9_worth Post 0 0 0 [(0, .ref 83), (1, .int (nI p)), (2, .int 3)] [] h n
  refine xi_iload_n (q := 1) dX9_worth_0 rfl rfl ?_
  refine xi_iconst (x := 3) (q := 2) dX9_worth_1 (by decide) rfl ?_
  refine xv_cS2 (q := 5) xm_X9_isOf ln_X9_268 dX9_worth_2 ⟨(Nat.le_of_ble_eq_true rfl), (Nat.le_of_ble_eq_true rfl)⟩ (Nat.le_of_ble_eq_true rfl) ⟨rfl, rfl⟩ rfl (Nat.zero_le _) (Nat.zero_le _) ?_
  refine ⟨_, _, rfl, ?_⟩
  refine xi_if_eq (q := 8) (q2 := 15) dX9_worth_5 (by decide) rfl (fun c_5 => ?_) (fun c_5 => ?_)
  · first | exact absurd c_5 (by decide) | exact absurd (by decide) c_5
  · skip
    refine xi_aload_n (q := 9) dX9_worth_8 rfl rfl ?_
    refine xi_iload_n (q := 10) dX9_worth_9 rfl rfl ?_
    refine xi_iload_n (q := 11) dX9_worth_10 rfl rfl ?_
    refine xv_cV2 (q := 14) xm_X9_sickWorth3 ln_X9_278 dX9_worth_11 ⟨by omega, hW.1⟩ rfl ⟨(Nat.le_of_ble_eq_true rfl), (Nat.le_of_ble_eq_true rfl)⟩ (Nat.le_of_ble_eq_true rfl) ⟨rfl, rfl⟩ rfl (Nat.zero_le _) (Nat.zero_le _) ?_
    refine ⟨fa, dk, nu, p, tr, m, rfl, ⟨hW.1, ((Eq.refl _)).trans hW.2.1, ((Eq.refl _)).trans hW.2.2⟩, h103, hp7, htr, h11, by omega, fun h1 a1 b1 f1 => ?_⟩
    refine xi_ret ⟨_, rfl, rfl, dX9_worth_14⟩ (Nat.zero_le _) (Nat.zero_le _) ?_
    exact hp _ (a1.trans rfl) b1 (fun i i1 i2 => (f1 i i1 i2).trans ((Eq.refl _)))

set_option maxRecDepth 20000 in
set_option maxHeartbeats 2000000 in
/-- worth -/
theorem xm_X9_worth4 : xv_K yX9_worth mX9_worth (fun as h n Post => ∃ (fa : Nat → Int32) (dk : Int64) (nu : Nat → Int32) (p : Nat) (tr : Nat → Int32) (m : Nat), as = [.ref 83, .int (nI p), .int 4] ∧ (xs_MW h fa dk nu) ∧ (103 < n) ∧ (p < 7) ∧ (h 103 = xs_ia 16 tr) ∧ (fa 11 = nI m) ∧ (m + 3 ≤ 16) ∧ (∀ h' : xv_H, h' 83 = xs_mo (upd fa 11 (nI (m + 3))) dk → h' 103 = xs_ia 16 (xs_wl tr m [14, 13, 10]) → (∀ i, i ≠ 83 → i ≠ 103 → h' i = h i) → Post (some (.int (2 * (nu (12 * p + 1) - nu (12 * p + 11))))) h' n)) := by
  refine xv_entry (by decide +kernel) rfl (fun h => absurd h (by decide)) ?_
  rintro X _ h n Post ⟨fa, dk, nu, p, tr, m, rfl, hW, h103, hp7, htr, h11, hm10, hp⟩
  refine ⟨Nat.le_of_ble_eq_true rfl, ?_⟩
  show xv_V X mX9_worth Post 0 0 0 [(0, .ref 83), (1, .int (nI p)), (2, .int 4)] [] h n
  refine xi_iload_n (q := 1) dX9_worth_0 rfl rfl ?_
  refine xi_iconst (x := 3) (q := 2) dX9_worth_1 (by decide) rfl ?_
  refine xv_cS2 (q := 5) xm_X9_isOf ln_X9_268 dX9_worth_2 ⟨(Nat.le_of_ble_eq_true rfl), (Nat.le_of_ble_eq_true rfl)⟩ (Nat.le_of_ble_eq_true rfl) ⟨rfl, rfl⟩ rfl (Nat.zero_le _) (Nat.zero_le _) ?_
  refine ⟨_, _, rfl, ?_⟩
  refine xi_if_eq (q := 8) (q2 := 15) dX9_worth_5 (by decide) rfl (fun c_5 => ?_) (fun c_5 => ?_)
  · first | exact absurd c_5 (by decide) | exact absurd (by decide) c_5
  · skip
    refine xi_aload_n (q := 9) dX9_worth_8 rfl rfl ?_
    refine xi_iload_n (q := 10) dX9_worth_9 rfl rfl ?_
    refine xi_iload_n (q := 11) dX9_worth_10 rfl rfl ?_
    refine xv_cV2 (q := 14) xm_X9_sickWorth4 ln_X9_278 dX9_worth_11 ⟨by omega, hW.1⟩ rfl ⟨(Nat.le_of_ble_eq_true rfl), (Nat.le_of_ble_eq_true rfl)⟩ (Nat.le_of_ble_eq_true rfl) ⟨rfl, rfl⟩ rfl (Nat.zero_le _) (Nat.zero_le _) ?_
    refine ⟨fa, dk, nu, p, tr, m, rfl, ⟨hW.1, ((Eq.refl _)).trans hW.2.1, ((Eq.refl _)).trans hW.2.2⟩, h103, hp7, htr, h11, by omega, fun h1 a1 b1 f1 => ?_⟩
    refine xi_ret ⟨_, rfl, rfl, dX9_worth_14⟩ (Nat.zero_le _) (Nat.zero_le _) ?_
    exact hp _ (a1.trans rfl) b1 (fun i i1 i2 => (f1 i i1 i2).trans ((Eq.refl _)))

