set_option maxRecDepth 20000 in
set_option maxHeartbeats 2000000 in
/-- settle -/
theorem xm_X9_settle : xv_K yX9_settle mX9_settle (fun as h n Post => ∃ (fa : Nat → Int32) (dk : Int64) (nu : Nat → Int32) (p : Nat), as = [.ref 83, .int (nI p)] ∧ (xs_MW h fa dk nu) ∧ (103 < n) ∧ (p < 6) ∧ (∀ (h' : xv_H) (nu' : Nat → Int32), h' 83 = xs_mo (upd (upd fa 2 (xs_set (xs_nr nu p) (nu (12 * p + 11))).2.1) 3 (xs_set (xs_nr nu p) (nu (12 * p + 11))).2.2) dk → h' 88 = xs_ia 84 nu' → (∀ x, x < 72 → nu' x = nu x) → (∀ x, x ≠ 83 → x ≠ 88 → h' x = h x) → Post (some (.int (xs_set (xs_nr nu p) (nu (12 * p + 11))).1)) h' n)) := by
  refine xv_entry (by decide +kernel) rfl (fun h => absurd h (by decide)) ?_
  rintro X _ h n Post ⟨fa, dk, nu, p, rfl, hW, h103, hp7, hp⟩
  refine ⟨Nat.le_of_ble_eq_true rfl, ?_⟩
  show xv_V X mX9_settle Post 0 0 0 [(0, .ref 83), (1, .int (nI p))] [] h n
  obtain ⟨f, hf⟩ : ∃ f : Nat → Int32, f = xs_nr nu p := ⟨_, rfl⟩
  obtain ⟨s, hs⟩ : ∃ s : Int32, s = nu (12 * p + 11) := ⟨_, rfl⟩
  have L12 : ∀ (d i : Nat) (hh : xv_H) (t : Int32 × Int32 × Int32) (b2 b3 : Int32) (g : Nat → Int32), i + d = 12 → hh 83 = xs_mo (upd (upd fa 2 b2) 3 b3) dk → (t.1 = -1000000 ∨ (b2 = t.2.1 ∧ b3 = t.2.2)) → hh 88 = xs_ia 84 g → hh 93 = xs_ia 13 xs_fT → (∀ x, x < 12 → x ≠ 2 → x ≠ 3 → g (72 + x) = nu (12 * p + x)) → (∀ x, x < 72 → g x = nu x) → (∀ x, x ≠ 83 → x ≠ 88 → hh x = h x) → t = xs_sou (fun a g => xs_unl (xs_ag f a g) s) i → xv_V X mX9_settle Post 0 0 12 [(0, .ref 83), (1, .int (nI p)), (2, .int t.1), (3, .int (nI i))] [] hh n := by
    intro d
    induction d using Nat.strongRecOn with
    | _ d ih =>
      intro i hh t b2 b3 g hid hm hb hn hfa hg1 hg2 hf0 ht
      have L22 : i < 12 → ∀ (e j : Nat) (hh : xv_H) (t : Int32 × Int32 × Int32) (b2 b3 : Int32) (g : Nat → Int32), j + e = 41 → hh 83 = xs_mo (upd (upd fa 2 b2) 3 b3) dk → (t.1 = -1000000 ∨ (b2 = t.2.1 ∧ b3 = t.2.2)) → hh 88 = xs_ia 84 g → hh 93 = xs_ia 13 xs_fT → (∀ x, x < 12 → x ≠ 2 → x ≠ 3 → g (72 + x) = nu (12 * p + x)) → (∀ x, x < 72 → g x = nu x) → (∀ x, x ≠ 83 → x ≠ 88 → hh x = h x) → t = xs_sin (fun a g => xs_unl (xs_ag f a g) s) (nI i) j (xs_sou (fun a g => xs_unl (xs_ag f a g) s) i) → xv_V X mX9_settle Post 0 0 22 [(0, .ref 83), (1, .int (nI p)), (2, .int t.1), (3, .int (nI i)), (4, .int (nI j - 20))] [] hh n := by
        intro hi2 e
        induction e using Nat.strongRecOn with
        | _ e ih2 =>
          intro j hh t b2 b3 g hje hm hb hn hfa hg1 hg2 hf0 ht
          refine xi_iload (q := 24) dX9_settle_22 rfl rfl ?_
          refine xi_bipush (x := 21) (q := 26) dX9_settle_24 (by decide) rfl ?_
          refine xi_icmp_ge (q := 29) (q2 := 86) dX9_settle_26 (by decide) rfl (fun c_26 => ?_) (fun c_26 => ?_)
          · have hj2 : j = 41 := by
              have z : 21 ≤ nI j - 20 := c_26
              rw [xn_le, xn_hj j (by omega), show (21 : Int32).toInt = 21 from rfl] at z
              omega
            subst hj2
            refine xi_iinc (y := nI (i + 1)) (q := 89) dX9_settle_86 rfl (xn_inc i) (Nat.le_of_ble_eq_true rfl) rfl ?_
            refine xi_goto (q := 12) dX9_settle_89 (by decide) ?_
            refine xv_weakS (lv' := [(0, .ref 83), (1, .int (nI p)), (2, .int t.1), (3, .int (nI (i + 1)))]) ⟨rfl, rfl, rfl, rfl, trivial⟩ ?_
            exact ih (d - 1) (by omega) (i + 1) hh t b2 b3 g (by omega) hm hb hn hfa hg1 hg2 hf0 ht
          · have hj2 : j < 41 := by
              have z : ¬ 21 ≤ nI j - 20 := c_26
              rw [xn_le, xn_hj j (by omega), show (21 : Int32).toInt = 21 from rfl] at z
              omega
            refine xi_aload_n (q := 30) dX9_settle_29 rfl rfl ?_
            refine xi_getf (q := 33) dX9_settle_30 fl_X9_23 ⟨by omega, hm⟩ rfl rfl ?_
            refine xi_bipush (x := 74) (q := 35) dX9_settle_33 (by decide) rfl ?_
            refine xi_iload_n (q := 36) dX9_settle_35 rfl rfl ?_
            refine xi_iast (q := 37) dX9_settle_36 ⟨by omega, hn⟩ ⟨xv_ink (by decide), (by decide : (74 : Int32).toNatClampNeg = 74)⟩ rfl ?_
            refine xi_aload_n (q := 38) dX9_settle_37 rfl rfl ?_
            refine xi_getf (q := 41) dX9_settle_38 fl_X9_23 (xv_keep (by omega) ⟨by omega, hm⟩) rfl rfl ?_
            refine xi_bipush (x := 75) (q := 43) dX9_settle_41 (by decide) rfl ?_
            refine xi_iload (q := 45) dX9_settle_43 rfl rfl ?_
            refine xi_iast (q := 46) dX9_settle_45 (xv_self (by omega)) ⟨xv_ink (by decide), (by decide : (75 : Int32).toNatClampNeg = 75)⟩ rfl ?_
            refine xi_aload_n (q := 47) dX9_settle_46 rfl rfl ?_
            refine xi_bipush (x := 6) (q := 49) dX9_settle_47 (by decide) rfl ?_
            refine xv_cV1 (q := 52) xm_X9_unlike ln_X9_179 dX9_settle_49 (xv_keep (by omega) (xv_keep (by omega) ⟨by omega, hm⟩)) rfl ⟨(Nat.le_of_ble_eq_true rfl), (Nat.le_of_ble_eq_true rfl)⟩ (Nat.le_of_ble_eq_true rfl) ⟨rfl, rfl⟩ rfl (Nat.zero_le _) (Nat.zero_le _) ?_
            refine ⟨_, _, (upd (upd g 74 (nI i)) 75 (nI j - 20)), 6, rfl, ⟨(va_up_ne _ _ (by omega)).trans ((va_up_ne _ _ (by omega)).trans hm), va_up_self _ _ _, (va_up_ne _ _ (by omega)).trans ((va_up_ne _ _ (by omega)).trans hfa)⟩, by omega, by omega, ?_⟩
            have eU : xs_unl (xs_nr (upd (upd g 74 (nI i)) 75 (nI j - 20)) 6) ((upd (upd g 74 (nI i)) 75 (nI j - 20)) (12 * 6 + 11)) = (fun a g => xs_unl (xs_ag f a g) s) (nI i) (nI j - 20) := by
              show _ = xs_unl (xs_ag f (nI i) (nI j - 20)) s
              rw [← xc_unl (xs_nr (upd (upd g 74 (nI i)) 75 (nI j - 20)) 6), ← xc_unl (xs_ag f (nI i) (nI j - 20)), xs_cte (g := xs_ag f (nI i) (nI j - 20)) (fun x hx => ?_), pk_un (by omega), pk_un (by omega), show (12 * 6 + 11) = 72 + 11 from rfl, hg1 11 (by omega) (by omega) (by omega), hs]
              show (upd (upd g 74 (nI i)) 75 (nI j - 20)) (12 * 6 + x) = xs_ag f (nI i) (nI j - 20) x
              unfold xs_ag
              by_cases z3 : x = 3
              · rw [z3, pk_us, pk_us]
              · rw [pk_un (by omega), pk_un z3]
                by_cases z2 : x = 2
                · rw [z2, pk_us, pk_us]
                · rw [pk_un (by omega), pk_un z2, show 12 * 6 + x = 72 + x by omega, hg1 x (by omega) z2 z3, hf]
                  rfl
            obtain ⟨V, hV⟩ : ∃ V, V = (fun a g => xs_unl (xs_ag f a g) s) (nI i) (nI j - 20) := ⟨_, rfl⟩
            rw [show xs_unl (xs_nr _ 6) _ = V from eU.trans hV.symm]
            refine xi_istore (q := 54) dX9_settle_52 (Nat.le_of_ble_eq_true rfl) rfl ?_
            refine xi_iload_n (q := 55) dX9_settle_54 rfl rfl ?_
            refine xi_ldc (q := 57) dX9_settle_55 kc_X9_158 rfl ?_
            refine xi_icmp_eq (q := 60) (q2 := 66) dX9_settle_57 (by decide) rfl (fun c_57 => ?_) (fun c_57 => ?_)
            · refine xi_iload (q := 68) dX9_settle_66 rfl rfl ?_
              refine xi_istore_n (q := 69) dX9_settle_68 (Nat.le_of_ble_eq_true rfl) rfl ?_
              refine xi_aload_n (q := 70) dX9_settle_69 rfl rfl ?_
              refine xi_iload_n (q := 71) dX9_settle_70 rfl rfl ?_
              refine xi_putf (q := 74) dX9_settle_71 fl_X9_185 (xv_keep (by omega) (xv_keep (by omega) ⟨by omega, hm⟩)) (Or.inl rfl) (fun _ => rfl) (fun _ => rfl) (Nat.le_of_ble_eq_true rfl) rfl ?_
              refine xi_aload_n (q := 75) dX9_settle_74 rfl rfl ?_
              refine xi_iload (q := 77) dX9_settle_75 rfl rfl ?_
              refine xi_putf (q := 80) dX9_settle_77 fl_X9_188 (xv_self (by omega)) (Or.inl rfl) (fun _ => rfl) (fun _ => rfl) (Nat.le_of_ble_eq_true rfl) rfl ?_
              refine xi_iinc (q := 83) dX9_settle_80 rfl rfl (Nat.le_of_ble_eq_true rfl) rfl ?_
              rw [xn_hinc]
              refine xi_goto (q := 22) dX9_settle_83 (by decide) ?_
              refine xv_weakS (lv' := [(0, .ref 83), (1, .int (nI p)), (2, .int ((V, nI i, nI j - 20) : Int32 × Int32 × Int32).1), (3, .int (nI i)), (4, .int (nI (j + 1) - 20))]) ⟨rfl, rfl, rfl, rfl, rfl, trivial⟩ ?_
              exact ih2 (e - 1) (by omega) (j + 1) _ ((V, nI i, nI j - 20) : Int32 × Int32 × Int32) (nI i) (nI j - 20) (upd (upd g 74 (nI i)) 75 (nI j - 20)) (by omega) ((va_up_self _ _ _).trans rfl) (Or.inr ⟨rfl, rfl⟩) ((va_up_ne _ _ (by omega)).trans ((va_up_ne _ _ (by omega)).trans (va_up_self _ _ _))) ((va_up_ne _ _ (by omega)).trans ((va_up_ne _ _ (by omega)).trans ((va_up_ne _ _ (by omega)).trans ((va_up_ne _ _ (by omega)).trans hfa)))) (fun x x1 x2 x3 => by rw [pk_un (by omega), pk_un (by omega)]; exact hg1 x x1 x2 x3) (fun x x1 => by rw [pk_un (by omega), pk_un (by omega)]; exact hg2 x x1) (fun x x1 x2 => (va_up_ne _ _ x1).trans ((va_up_ne _ _ x1).trans ((va_up_ne _ _ x2).trans ((va_up_ne _ _ x2).trans (hf0 x x1 x2))))) (by
                show _ = xs_sst (fun a g => xs_unl (xs_ag f a g) s) (nI i) (nI j - 20) (xs_sin (fun a g => xs_unl (xs_ag f a g) s) (nI i) j (xs_sou (fun a g => xs_unl (xs_ag f a g) s) i))
                rw [← ht]
                unfold xs_sst
                rw [← hV]
                exact (if_pos (Or.inl c_57)).symm)
            · refine xi_iload (q := 62) dX9_settle_60 rfl rfl ?_
              refine xi_iload_n (q := 63) dX9_settle_62 rfl rfl ?_
              refine xi_icmp_ge (q := 66) (q2 := 80) dX9_settle_63 (by decide) rfl (fun c_63 => ?_) (fun c_63 => ?_)
              · refine xi_iinc (q := 83) dX9_settle_80 rfl rfl (Nat.le_of_ble_eq_true rfl) rfl ?_
                rw [xn_hinc]
                refine xi_goto (q := 22) dX9_settle_83 (by decide) ?_
                refine xv_weakS (lv' := [(0, .ref 83), (1, .int (nI p)), (2, .int t.1), (3, .int (nI i)), (4, .int (nI (j + 1) - 20))]) ⟨rfl, rfl, rfl, rfl, rfl, trivial⟩ ?_
                exact ih2 (e - 1) (by omega) (j + 1) _ t b2 b3 (upd (upd g 74 (nI i)) 75 (nI j - 20)) (by omega) ((va_up_ne _ _ (by omega)).trans ((va_up_ne _ _ (by omega)).trans hm)) hb (va_up_self _ _ _) ((va_up_ne _ _ (by omega)).trans ((va_up_ne _ _ (by omega)).trans hfa)) (fun x x1 x2 x3 => by rw [pk_un (by omega), pk_un (by omega)]; exact hg1 x x1 x2 x3) (fun x x1 => by rw [pk_un (by omega), pk_un (by omega)]; exact hg2 x x1) (fun x x1 x2 => (va_up_ne _ _ x2).trans ((va_up_ne _ _ x2).trans (hf0 x x1 x2))) (by
                  show _ = xs_sst (fun a g => xs_unl (xs_ag f a g) s) (nI i) (nI j - 20) (xs_sin (fun a g => xs_unl (xs_ag f a g) s) (nI i) j (xs_sou (fun a g => xs_unl (xs_ag f a g) s) i))
                  rw [← ht]
                  unfold xs_sst
                  rw [← hV]
                  exact (if_neg (fun z => z.elim c_57 (fun y => by rw [xn_lt] at y; rw [xn_le] at c_63; omega))).symm)
              · refine xi_iload (q := 68) dX9_settle_66 rfl rfl ?_
                refine xi_istore_n (q := 69) dX9_settle_68 (Nat.le_of_ble_eq_true rfl) rfl ?_
                refine xi_aload_n (q := 70) dX9_settle_69 rfl rfl ?_
                refine xi_iload_n (q := 71) dX9_settle_70 rfl rfl ?_
                refine xi_putf (q := 74) dX9_settle_71 fl_X9_185 (xv_keep (by omega) (xv_keep (by omega) ⟨by omega, hm⟩)) (Or.inl rfl) (fun _ => rfl) (fun _ => rfl) (Nat.le_of_ble_eq_true rfl) rfl ?_
                refine xi_aload_n (q := 75) dX9_settle_74 rfl rfl ?_
                refine xi_iload (q := 77) dX9_settle_75 rfl rfl ?_
                refine xi_putf (q := 80) dX9_settle_77 fl_X9_188 (xv_self (by omega)) (Or.inl rfl) (fun _ => rfl) (fun _ => rfl) (Nat.le_of_ble_eq_true rfl) rfl ?_
                refine xi_iinc (q := 83) dX9_settle_80 rfl rfl (Nat.le_of_ble_eq_true rfl) rfl ?_
                rw [xn_hinc]
                refine xi_goto (q := 22) dX9_settle_83 (by decide) ?_
                refine xv_weakS (lv' := [(0, .ref 83), (1, .int (nI p)), (2, .int ((V, nI i, nI j - 20) : Int32 × Int32 × Int32).1), (3, .int (nI i)), (4, .int (nI (j + 1) - 20))]) ⟨rfl, rfl, rfl, rfl, rfl, trivial⟩ ?_
                exact ih2 (e - 1) (by omega) (j + 1) _ ((V, nI i, nI j - 20) : Int32 × Int32 × Int32) (nI i) (nI j - 20) (upd (upd g 74 (nI i)) 75 (nI j - 20)) (by omega) ((va_up_self _ _ _).trans rfl) (Or.inr ⟨rfl, rfl⟩) ((va_up_ne _ _ (by omega)).trans ((va_up_ne _ _ (by omega)).trans (va_up_self _ _ _))) ((va_up_ne _ _ (by omega)).trans ((va_up_ne _ _ (by omega)).trans ((va_up_ne _ _ (by omega)).trans ((va_up_ne _ _ (by omega)).trans hfa)))) (fun x x1 x2 x3 => by rw [pk_un (by omega), pk_un (by omega)]; exact hg1 x x1 x2 x3) (fun x x1 => by rw [pk_un (by omega), pk_un (by omega)]; exact hg2 x x1) (fun x x1 x2 => (va_up_ne _ _ x1).trans ((va_up_ne _ _ x1).trans ((va_up_ne _ _ x2).trans ((va_up_ne _ _ x2).trans (hf0 x x1 x2))))) (by
                  show _ = xs_sst (fun a g => xs_unl (xs_ag f a g) s) (nI i) (nI j - 20) (xs_sin (fun a g => xs_unl (xs_ag f a g) s) (nI i) j (xs_sou (fun a g => xs_unl (xs_ag f a g) s) i))
                  rw [← ht]
                  unfold xs_sst
                  rw [← hV]
                  exact (if_pos (Or.inr (by rw [xn_lt]; rw [xn_le] at c_63; omega))).symm)
      refine xi_iload_n (q := 13) dX9_settle_12 rfl rfl ?_
      refine xi_bipush (x := 12) (q := 15) dX9_settle_13 (by decide) rfl ?_
      refine xi_icmp_ge (q := 18) (q2 := 92) dX9_settle_15 (by decide) rfl (fun c_15 => ?_) (fun c_15 => ?_)
      · have hi2 : i = 12 := by have z : 12 ≤ i := xn_leN c_15 (by omega) (by omega); omega
        subst hi2
        refine xi_iload_n (q := 93) dX9_settle_92 rfl rfl ?_
        refine xi_ret ⟨_, rfl, rfl, dX9_settle_93⟩ (Nat.zero_le _) (Nat.zero_le _) ?_
        have hne : ¬ t.1 = -1000000 := by rw [ht]; exact xn_sou1 (fun a g => (xn_unlb _ _).1) 11
        obtain ⟨hb1, hb2⟩ := hb.resolve_left hne
        subst hb1; subst hb2
        have hZ : xs_set (xs_nr nu p) (nu (12 * p + 11)) = t := by rw [ht, hf, hs]; rfl
        rw [hZ] at hp
        exact hp hh g hm hn hg2 hf0
      · have hi2 : i < 12 := xn_nleN c_15 (by omega) (by omega)
        refine xi_bipush (x := (-20)) (q := 20) dX9_settle_18 (by decide) rfl ?_
        refine xi_istore (q := 22) dX9_settle_20 (Nat.le_of_ble_eq_true rfl) rfl ?_
        refine xv_weakS (lv' := [(0, .ref 83), (1, .int (nI p)), (2, .int t.1), (3, .int (nI i)), (4, .int (nI 0 - 20))]) ⟨rfl, rfl, rfl, rfl, rfl, trivial⟩ ?_
        exact L22 hi2 41 0 hh t b2 b3 g (by omega) hm hb hn hfa hg1 hg2 hf0 ht
  refine xi_aload_n (q := 1) dX9_settle_0 rfl rfl ?_
  refine xi_bipush (x := 6) (q := 3) dX9_settle_1 (by decide) rfl ?_
  refine xi_iload_n (q := 4) dX9_settle_3 rfl rfl ?_
  refine xv_cV2 (q := 7) xm_X9_like ln_X9_128 dX9_settle_4 ⟨by omega, hW.1⟩ rfl ⟨(Nat.le_of_ble_eq_true rfl), (Nat.le_of_ble_eq_true rfl)⟩ (Nat.le_of_ble_eq_true rfl) ⟨rfl, rfl⟩ rfl (Nat.zero_le _) (Nat.zero_le _) ?_
  refine ⟨_, _, _, 6, p, rfl, hW, h103, by omega, by omega, fun h8 q1 q2 => ?_⟩
  refine xi_ldc (q := 9) dX9_settle_7 kc_X9_158 rfl ?_
  refine xi_istore_n (q := 10) dX9_settle_9 (Nat.le_of_ble_eq_true rfl) rfl ?_
  refine xi_iconst (x := 0) (q := 11) dX9_settle_10 (by decide) rfl ?_
  refine xi_istore_n (q := 12) dX9_settle_11 (Nat.le_of_ble_eq_true rfl) rfl ?_
  refine xv_weakS (lv' := [(0, .ref 83), (1, .int (nI p)), (2, .int ((-1000000, 0, 0) : Int32 × Int32 × Int32).1), (3, .int (nI 0))]) ⟨rfl, rfl, rfl, rfl, trivial⟩ ?_
  exact L12 12 0 h8 (-1000000, 0, 0) (fa 2) (fa 3) (xs_lik nu 6 p) (by omega) ((q2 _ (by omega)).trans hW.1) (Or.inl rfl) q1 ((q2 _ (by omega)).trans hW.2.2) (fun x x1 x2 x3 => by
    unfold xs_lik
    rw [if_pos (by omega), show 72 + x - 12 * 6 = x by omega]) (fun x x1 => if_neg (by omega)) (fun x x1 x2 => q2 x x2) rfl

