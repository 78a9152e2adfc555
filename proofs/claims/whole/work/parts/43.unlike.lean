set_option maxRecDepth 20000 in
set_option maxHeartbeats 2000000 in
/-- firstEvent -/
theorem xm_X3_firstEvent : xv_K yX3_firstEvent mX3_firstEvent (fun as h n Post => ∃ (ga : Int32) (gg : Int32) (gl : Int32) (w : Nat → Nat → Int32) (e : Nat) (f : Nat → Int32) (s : Int32) (t : Int32) (m : Int32) (d : Int32) (q : Int32), as = [.ref 8, .ref e, .int m, .int d, .int q] ∧ (e + 1 < n) ∧ (h e = .inr (0, [.ref (e + 1), .int s, .int t])) ∧ (h (e + 1) = .inl (.int, 11, .inl f)) ∧ (xs_G h ga gg gl w) ∧ (16 < n) ∧ (e + 1 < 8 ∨ 16 < e) ∧ (0 ≤ (f 2).toInt ∧ (f 2).toInt ≤ 11) ∧ (d = 0 ∨ d = 1) ∧ (q = 0 ∨ q = 1 ∨ q = 2 ∨ q = 3) ∧ (∀ (h' : xv_H) (w' : Nat → Nat → Int32), xs_G h' ga gg gl w' → (∀ i, i < 8 ∨ 16 < i → h' i = h i) → Post (some (.int (xs_evt f s m d q))) h' n)) := by
  refine xv_entry (by decide +kernel) rfl (fun h => absurd h (by decide)) ?_
  rintro X _ h n Post ⟨ga, gg, gl, w, e, f, s, t, m, d, q, rfl, hn, hE, hN, hG, h8n, he, h2b, hd, hw, hp⟩
  refine ⟨Nat.le_of_ble_eq_true rfl, ?_⟩
  show xv_V X mX3_firstEvent Post 0 0 0 [(0, .ref 8), (1, .ref e), (2, .int m), (3, .int d), (4, .int q)] [] h n
  refine xi_aload_n (q := 1) dX3_firstEvent_0 rfl rfl ?_
  refine xi_aload_n (q := 2) dX3_firstEvent_1 rfl rfl ?_
  refine xi_iload_n (q := 3) dX3_firstEvent_2 rfl rfl ?_
  refine xi_aload_n (q := 4) dX3_firstEvent_3 rfl rfl ?_
  refine xi_getf (q := 7) dX3_firstEvent_4 fl_X3_11 ⟨by omega, hG.1⟩ rfl rfl ?_
  refine xi_iconst (x := 0) (q := 8) dX3_firstEvent_7 (by decide) rfl ?_
  refine xi_aald (q := 9) dX3_firstEvent_8 ⟨by omega, hG.2.1⟩ rfl ⟨xv_ink (by decide), (by decide : (0 : Int32).toNatClampNeg = 0)⟩ (xs_Gi (k := 0) (by omega)) rfl ?_
  refine xv_cV3 (q := 12) xm_X3_fillSwing ln_X3_16 dX3_firstEvent_9 ⟨by omega, hG.1⟩ rfl ⟨(Nat.le_of_ble_eq_true rfl), (Nat.le_of_ble_eq_true rfl)⟩ (Nat.le_of_ble_eq_true rfl) ⟨rfl, rfl⟩ rfl (Nat.zero_le _) (Nat.zero_le _) ?_
  refine ⟨ga, gg, gl, e, f, s, t, m, 10 + 0, w 0, rfl, hG.1, hn, hE, hN, by omega, by omega, by omega, by omega, hG.2.2 0 (by omega), fun h2 q1 q2 => ?_⟩
  have hG2 := xs_Gr hG (k := 0) (by omega) q1 q2
  refine xi_aload_n (q := 13) dX3_firstEvent_12 rfl rfl ?_
  refine xi_aload_n (q := 14) dX3_firstEvent_13 rfl rfl ?_
  refine xi_getf (q := 17) dX3_firstEvent_14 fl_X3_11 ⟨by omega, hG2.1⟩ rfl rfl ?_
  refine xi_iconst (x := 0) (q := 18) dX3_firstEvent_17 (by decide) rfl ?_
  refine xi_aald (q := 19) dX3_firstEvent_18 ⟨by omega, hG2.2.1⟩ rfl ⟨xv_ink (by decide), (by decide : (0 : Int32).toNatClampNeg = 0)⟩ (xs_Gi (k := 0) (by omega)) rfl ?_
  refine xi_aload_n (q := 20) dX3_firstEvent_19 rfl rfl ?_
  refine xi_iload_n (q := 21) dX3_firstEvent_20 rfl rfl ?_
  refine xi_iload_n (q := 22) dX3_firstEvent_21 rfl rfl ?_
  refine xi_iload (q := 24) dX3_firstEvent_22 rfl rfl ?_
  refine xv_cV5 (q := 27) xm_X3_firstEventOn ln_X3_20 dX3_firstEvent_24 ⟨by omega, hG2.1⟩ rfl ⟨(Nat.le_of_ble_eq_true rfl), (Nat.le_of_ble_eq_true rfl)⟩ (Nat.le_of_ble_eq_true rfl) ⟨rfl, rfl⟩ rfl (Nat.zero_le _) (Nat.zero_le _) ?_
  refine ⟨10 + 0, e, f, s, t, m, d, q, rfl, hn, (q2 e (by omega)).trans hE, (q2 (e + 1) (by omega)).trans hN, by omega, q1, h2b, hd, hw, ?_⟩
  refine xi_ret ⟨_, rfl, rfl, dX3_firstEvent_27⟩ (Nat.zero_le _) (Nat.zero_le _) ?_
  exact hp h2 _ hG2 (fun i hi => q2 i (by omega))

theorem xn_psb {f : Nat → Int32} (hf : ∀ j, 0 ≤ (f j).toInt ∧ (f j).toInt ≤ 24) : ∀ k : Nat, k ≤ 100 → 0 ≤ (xs_ps f k).toInt ∧ (xs_ps f k).toInt ≤ 24 * k
  | 0, _ => by
    show 0 ≤ (0 : Int32).toInt ∧ (0 : Int32).toInt ≤ 24 * ((0 : Nat) : Int)
    decide
  | k + 1, hk => by
    have h1 := xn_psb hf k (by omega)
    have h2 := hf k
    have h3 : (xs_ps f k + f k).toInt = (xs_ps f k).toInt + (f k).toInt := xn_add (by omega) (by omega)
    show 0 ≤ (xs_ps f k + f k).toInt ∧ (xs_ps f k + f k).toInt ≤ 24 * ((k + 1 : Nat) : Int)
    rw [h3]
    omega
theorem xn_psm {f : Nat → Int32} (hf : ∀ j, 0 ≤ (f j).toInt ∧ (f j).toInt ≤ 24) {a : Nat} : ∀ b : Nat, a ≤ b → b ≤ 100 → (xs_ps f a).toInt ≤ (xs_ps f b).toInt
  | 0, h, _ => by rw [show a = 0 by omega]; exact Int.le_refl _
  | b + 1, h, hb => by
    by_cases hab : a = b + 1
    · rw [hab]; exact Int.le_refl _
    · have h1 := xn_psm hf b (show a ≤ b by omega) (by omega)
      have h4 := xn_psb hf b (by omega)
      have h2 := hf b
      have h3 : (xs_ps f b + f b).toInt = (xs_ps f b).toInt + (f b).toInt := xn_add (by omega) (by omega)
      show _ ≤ (xs_ps f b + f b).toInt
      rw [h3]
      omega
theorem xn_unlb (f : Nat → Int32) (s : Int32) : 0 ≤ (xs_unl f s).toInt ∧ (xs_unl f s).toInt ≤ 144 := by
  have := xn_psb (f := fun j => xs_un1 f s (nI (j + 1))) (fun j => xn_disb _ _) 6 (by omega)
  exact this

set_option maxRecDepth 20000 in
set_option maxHeartbeats 2000000 in
/-- unlikeBelow -/
theorem xm_X3_unlikeBelow : xv_K yX3_unlikeBelow mX3_unlikeBelow (fun as h n Post => ∃ (ga : Int32) (gg : Int32) (gl : Int32) (w : Nat → Nat → Int32) (e : Nat) (f : Nat → Int32) (s : Int32) (t : Int32) (en : Int32), as = [.ref 8, .ref e, .int en] ∧ (e + 1 < n) ∧ (h e = .inr (0, [.ref (e + 1), .int s, .int t])) ∧ (h (e + 1) = .inl (.int, 11, .inl f)) ∧ (xs_G h ga gg gl w) ∧ (16 < n) ∧ (e + 1 < 8 ∨ 16 < e) ∧ (0 ≤ (f 2).toInt ∧ (f 2).toInt ≤ 11) ∧ (∀ k, 1 ≤ k → k < 7 → w k = fun j => xs_swi f s (nI k) (nI j)) ∧ (∀ r : Int32, (r < en ↔ xs_unl f s < en) → (r < en → r = xs_unl f s) → Post (some (.int r)) h n)) := by
  refine xv_entry (by decide +kernel) rfl (fun h => absurd h (by decide)) ?_
  rintro X _ h n Post ⟨ga, gg, gl, w, e, f, s, t, en, rfl, hn, hE, hN, hG, h8n, he, h2, hw, hp⟩
  refine ⟨Nat.le_of_ble_eq_true rfl, ?_⟩
  show xv_V X mX3_unlikeBelow Post 0 0 0 [(0, .ref 8), (1, .ref e), (2, .int en)] [] h n
  have L5 : ∀ (d k : Nat), k + d = 6 → xv_V X mX3_unlikeBelow Post 0 0 5 [(0, .ref 8), (1, .ref e), (2, .int en), (3, .int (xs_ps (fun j => xs_un1 f s (nI (j + 1))) k)), (4, .int (nI (k + 1)))] [] h n := by
    intro d
    induction d using Nat.strongRecOn with
    | _ d ih =>
      intro k hk
      refine xi_iload (q := 7) dX3_unlikeBelow_5 rfl rfl ?_
      refine xi_aload_n (q := 8) dX3_unlikeBelow_7 rfl rfl ?_
      refine xi_getf (q := 11) dX3_unlikeBelow_8 fl_X3_11 ⟨by omega, hG.1⟩ rfl rfl ?_
      refine xi_alen (v := nI 7) (q := 12) dX3_unlikeBelow_11 ⟨by omega, hG.2.1⟩ rfl rfl ?_
      refine xi_icmp_ge (q := 15) (q2 := 91) dX3_unlikeBelow_12 (by decide) rfl (fun c_12 => ?_) (fun c_12 => ?_)
      · have hk2 : k = 6 := by have z := xn_leN c_12 (by omega) (by omega); omega
        refine xi_iload_n (q := 92) dX3_unlikeBelow_91 rfl rfl ?_
        refine xi_ret ⟨_, rfl, rfl, dX3_unlikeBelow_92⟩ (Nat.zero_le _) (Nat.zero_le _) ?_
        subst hk2; exact hp _ Iff.rfl (fun _ => rfl)
      · have hk2 : k + 1 < 7 := xn_nleN c_12 (by omega) (by omega)
        refine xi_iload_n (q := 16) dX3_unlikeBelow_15 rfl rfl ?_
        refine xi_iload_n (q := 17) dX3_unlikeBelow_16 rfl rfl ?_
        refine xi_icmp_ge (q := 20) (q2 := 91) dX3_unlikeBelow_17 (by decide) rfl (fun c_17 => ?_) (fun c_17 => ?_)
        · refine xi_iload_n (q := 92) dX3_unlikeBelow_91 rfl rfl ?_
          refine xi_ret ⟨_, rfl, rfl, dX3_unlikeBelow_92⟩ (Nat.zero_le _) (Nat.zero_le _) ?_
          have hu := xn_psm (f := fun j => xs_un1 f s (nI (j + 1))) (fun j => xn_disb _ _) (a := k) 6 (by omega) (by omega)
          have hu2 : (xs_ps (fun j => xs_un1 f s (nI (j + 1))) 6) = xs_unl f s := rfl
          rw [hu2] at hu
          rw [xn_le] at c_17
          exact hp _ ⟨fun z => absurd z (by rw [xn_lt]; omega), fun z => absurd z (by rw [xn_lt]; omega)⟩ (fun z => absurd z (by rw [xn_lt]; omega))
        · refine xi_aload_n (q := 21) dX3_unlikeBelow_20 rfl rfl ?_
          refine xi_aload_n (q := 22) dX3_unlikeBelow_21 rfl rfl ?_
          refine xi_getf (q := 25) dX3_unlikeBelow_22 fl_X3_11 ⟨by omega, hG.1⟩ rfl rfl ?_
          refine xi_iload (q := 27) dX3_unlikeBelow_25 rfl rfl ?_
          refine xi_aald (q := 28) dX3_unlikeBelow_27 ⟨by omega, hG.2.1⟩ rfl (xv_ixN hk2 (by omega)) (xs_Gi hk2) rfl ?_
          refine xi_aload_n (q := 29) dX3_unlikeBelow_28 rfl rfl ?_
          refine xi_iload (q := 31) dX3_unlikeBelow_29 rfl rfl ?_
          refine xi_iconst (x := 0) (q := 32) dX3_unlikeBelow_31 (by decide) rfl ?_
          refine xi_iconst (x := 1) (q := 33) dX3_unlikeBelow_32 (by decide) rfl ?_
          refine xv_cV5 (q := 36) xm_X3_firstEventOn ln_X3_20 dX3_unlikeBelow_33 ⟨by omega, hG.1⟩ rfl ⟨(Nat.le_of_ble_eq_true rfl), (Nat.le_of_ble_eq_true rfl)⟩ (Nat.le_of_ble_eq_true rfl) ⟨rfl, rfl⟩ rfl (Nat.zero_le _) (Nat.zero_le _) ?_
          refine ⟨10 + (k + 1), e, f, s, t, nI (k + 1), 0, 1, rfl, hn, hE, hN, by omega, (hG.2.2 (k + 1) hk2).trans (by rw [hw (k + 1) (by omega) hk2]), h2, by decide, by decide, ?_⟩
          refine xi_istore (q := 38) dX3_unlikeBelow_36 (Nat.le_of_ble_eq_true rfl) rfl ?_
          refine xi_aload_n (q := 39) dX3_unlikeBelow_38 rfl rfl ?_
          refine xi_aload_n (q := 40) dX3_unlikeBelow_39 rfl rfl ?_
          refine xi_getf (q := 43) dX3_unlikeBelow_40 fl_X3_11 ⟨by omega, hG.1⟩ rfl rfl ?_
          refine xi_iload (q := 45) dX3_unlikeBelow_43 rfl rfl ?_
          refine xi_aald (q := 46) dX3_unlikeBelow_45 ⟨by omega, hG.2.1⟩ rfl (xv_ixN hk2 (by omega)) (xs_Gi hk2) rfl ?_
          refine xi_aload_n (q := 47) dX3_unlikeBelow_46 rfl rfl ?_
          refine xi_iload (q := 49) dX3_unlikeBelow_47 rfl rfl ?_
          refine xi_iconst (x := 1) (q := 50) dX3_unlikeBelow_49 (by decide) rfl ?_
          refine xi_iconst (x := 1) (q := 51) dX3_unlikeBelow_50 (by decide) rfl ?_
          refine xv_cV5 (q := 54) xm_X3_firstEventOn ln_X3_20 dX3_unlikeBelow_51 ⟨by omega, hG.1⟩ rfl ⟨(Nat.le_of_ble_eq_true rfl), (Nat.le_of_ble_eq_true rfl)⟩ (Nat.le_of_ble_eq_true rfl) ⟨rfl, rfl⟩ rfl (Nat.zero_le _) (Nat.zero_le _) ?_
          refine ⟨10 + (k + 1), e, f, s, t, nI (k + 1), 1, 1, rfl, hn, hE, hN, by omega, (hG.2.2 (k + 1) hk2).trans (by rw [hw (k + 1) (by omega) hk2]), h2, by decide, by decide, ?_⟩
          refine xi_istore (q := 56) dX3_unlikeBelow_54 (Nat.le_of_ble_eq_true rfl) rfl ?_
          have J83 : ∀ x : Int32, x = xs_un1 f s (nI (k + 1)) → xv_V X mX3_unlikeBelow Post 0 0 83 [(0, .ref 8), (1, .ref e), (2, .int en), (3, .int (xs_ps (fun j => xs_un1 f s (nI (j + 1))) k)), (4, .int (nI (k + 1)))] [.int x, .int (xs_ps (fun j => xs_un1 f s (nI (j + 1))) k)] h n := by
            intro x hx
            subst hx
            refine xi_iadd (q := 84) dX3_unlikeBelow_83 rfl ?_
            refine xi_istore_n (q := 85) dX3_unlikeBelow_84 (Nat.le_of_ble_eq_true rfl) rfl ?_
            refine xi_iinc (y := nI ((k + 1) + 1)) (q := 88) dX3_unlikeBelow_85 rfl (xn_inc (k + 1)) (Nat.le_of_ble_eq_true rfl) rfl ?_
            refine xi_goto (q := 5) dX3_unlikeBelow_88 (by decide) ?_
            refine xv_weakS (lv' := [(0, .ref 8), (1, .ref e), (2, .int en), (3, .int (xs_ps (fun j => xs_un1 f s (nI (j + 1))) (k + 1))), (4, .int (nI (k + 1 + 1)))]) ⟨rfl, rfl, rfl, rfl, rfl, trivial⟩ ?_
            exact ih (d - 1) (by omega) (k + 1) (by omega)
          refine xi_iload_n (q := 57) dX3_unlikeBelow_56 rfl rfl ?_
          refine xi_iload (q := 59) dX3_unlikeBelow_57 rfl rfl ?_
          refine xi_ldc (q := 61) dX3_unlikeBelow_59 kc_X3_64 rfl ?_
          refine xi_icmp_eq (q := 64) (q2 := 71) dX3_unlikeBelow_61 (by decide) rfl (fun c_61 => ?_) (fun c_61 => ?_)
          · refine xi_bipush (x := 24) (q := 73) dX3_unlikeBelow_71 (by decide) rfl ?_
            refine xi_goto (q := 83) dX3_unlikeBelow_73 (by decide) ?_
            refine xv_weakS (lv' := [(0, .ref 8), (1, .ref e), (2, .int en), (3, .int (xs_ps (fun j => xs_un1 f s (nI (j + 1))) k)), (4, .int (nI (k + 1)))]) ⟨rfl, rfl, rfl, rfl, rfl, trivial⟩ ?_
            exact J83 _ (by unfold xs_un1 xs_dis; rw [if_pos (Or.inl c_61)]; rfl)
          · refine xi_iload (q := 66) dX3_unlikeBelow_64 rfl rfl ?_
            refine xi_ldc (q := 68) dX3_unlikeBelow_66 kc_X3_64 rfl ?_
            refine xi_icmp_ne (q := 71) (q2 := 76) dX3_unlikeBelow_68 (by decide) rfl (fun c_68 => ?_) (fun c_68 => ?_)
            · refine xi_iload (q := 78) dX3_unlikeBelow_76 rfl rfl ?_
              refine xi_iload (q := 80) dX3_unlikeBelow_78 rfl rfl ?_
              refine xv_cS2 (q := 83) xm_X3_offHalfTurn ln_X3_65 dX3_unlikeBelow_80 ⟨(Nat.le_of_ble_eq_true rfl), (Nat.le_of_ble_eq_true rfl)⟩ (Nat.le_of_ble_eq_true rfl) ⟨rfl, rfl⟩ rfl (Nat.zero_le _) (Nat.zero_le _) ?_
              refine ⟨_, _, rfl, c_61, by first | exact c_68 | exact Decidable.of_not_not c_68, ?_⟩
              refine xv_weakS (lv' := [(0, .ref 8), (1, .ref e), (2, .int en), (3, .int (xs_ps (fun j => xs_un1 f s (nI (j + 1))) k)), (4, .int (nI (k + 1)))]) ⟨rfl, rfl, rfl, rfl, rfl, trivial⟩ ?_
              exact J83 _ rfl
            · refine xi_bipush (x := 24) (q := 73) dX3_unlikeBelow_71 (by decide) rfl ?_
              refine xi_goto (q := 83) dX3_unlikeBelow_73 (by decide) ?_
              refine xv_weakS (lv' := [(0, .ref 8), (1, .ref e), (2, .int en), (3, .int (xs_ps (fun j => xs_un1 f s (nI (j + 1))) k)), (4, .int (nI (k + 1)))]) ⟨rfl, rfl, rfl, rfl, rfl, trivial⟩ ?_
              exact J83 _ (by unfold xs_un1 xs_dis; rw [if_pos (Or.inr c_68)]; rfl)
  refine xi_iconst (x := 0) (q := 1) dX3_unlikeBelow_0 (by decide) rfl ?_
  refine xi_istore_n (q := 2) dX3_unlikeBelow_1 (Nat.le_of_ble_eq_true rfl) rfl ?_
  refine xi_iconst (x := 1) (q := 3) dX3_unlikeBelow_2 (by decide) rfl ?_
  refine xi_istore (q := 5) dX3_unlikeBelow_3 (Nat.le_of_ble_eq_true rfl) rfl ?_
  refine xv_weakS (lv' := [(0, .ref 8), (1, .ref e), (2, .int en), (3, .int (xs_ps (fun j => xs_un1 f s (nI (j + 1))) 0)), (4, .int (nI (0 + 1)))]) ⟨rfl, rfl, rfl, rfl, rfl, trivial⟩ ?_
  exact L5 6 0 (by omega)

set_option maxRecDepth 20000 in
set_option maxHeartbeats 2000000 in
/-- unlike -/
theorem xm_X3_unlike : xv_K yX3_unlike mX3_unlike (fun as h n Post => ∃ (ga : Int32) (gg : Int32) (gl : Int32) (w : Nat → Nat → Int32) (e : Nat) (f : Nat → Int32) (s : Int32) (t : Int32), as = [.ref 8, .ref e] ∧ (e + 1 < n) ∧ (h e = .inr (0, [.ref (e + 1), .int s, .int t])) ∧ (h (e + 1) = .inl (.int, 11, .inl f)) ∧ (xs_G h ga gg gl w) ∧ (16 < n) ∧ (e + 1 < 8 ∨ 16 < e) ∧ (0 ≤ (f 2).toInt ∧ (f 2).toInt ≤ 11) ∧ (∀ (h' : xv_H) (w' : Nat → Nat → Int32), xs_G h' ga gg gl w' → (∀ i, i < 8 ∨ 16 < i → h' i = h i) → Post (some (.int (xs_unl f s))) h' n)) := by
  refine xv_entry (by decide +kernel) rfl (fun h => absurd h (by decide)) ?_
  rintro X _ h n Post ⟨ga, gg, gl, w, e, f, s, t, rfl, hn, hE, hN, hG, h8n, he, h2b, hp⟩
  refine ⟨Nat.le_of_ble_eq_true rfl, ?_⟩
  show xv_V X mX3_unlike Post 0 0 0 [(0, .ref 8), (1, .ref e)] [] h n
  refine xi_aload_n (q := 1) dX3_unlike_0 rfl rfl ?_
  refine xi_aload_n (q := 2) dX3_unlike_1 rfl rfl ?_
  refine xv_cV1 (q := 5) xm_X3_fillSwings ln_X3_24 dX3_unlike_2 ⟨by omega, hG.1⟩ rfl ⟨(Nat.le_of_ble_eq_true rfl), (Nat.le_of_ble_eq_true rfl)⟩ (Nat.le_of_ble_eq_true rfl) ⟨rfl, rfl⟩ rfl (Nat.zero_le _) (Nat.zero_le _) ?_
  refine ⟨ga, gg, gl, w, e, f, s, t, rfl, hn, hE, hN, hG, h8n, he, fun h2 hG2 q2 => ?_⟩
  refine xi_aload_n (q := 6) dX3_unlike_5 rfl rfl ?_
  refine xi_aload_n (q := 7) dX3_unlike_6 rfl rfl ?_
  refine xi_ldc (q := 9) dX3_unlike_7 kc_X3_30 rfl ?_
  refine xv_cV2 (q := 12) xm_X3_unlikeBelow ln_X3_31 dX3_unlike_9 ⟨by omega, hG2.1⟩ rfl ⟨(Nat.le_of_ble_eq_true rfl), (Nat.le_of_ble_eq_true rfl)⟩ (Nat.le_of_ble_eq_true rfl) ⟨rfl, rfl⟩ rfl (Nat.zero_le _) (Nat.zero_le _) ?_
  refine ⟨ga, gg, gl, _, e, f, s, t, _, rfl, hn, (q2 e (by omega)).trans hE, (q2 (e + 1) (by omega)).trans hN, hG2, h8n, he, h2b, fun k k1 k2 => if_neg (by omega), fun r r1 r2 => ?_⟩
  have hr : r = xs_unl f s := r2 (r1.mpr (by have z := xn_unlb f s; rw [xn_lt, show (2147483647 : Int32).toInt = 2147483647 from rfl]; omega))
  subst hr
  refine xi_ret ⟨_, rfl, rfl, dX3_unlike_12⟩ (Nat.zero_le _) (Nat.zero_le _) ?_
  exact hp h2 _ hG2 q2

set_option maxRecDepth 20000 in
set_option maxHeartbeats 2000000 in
/-- resemble -/
theorem xm_X0_resemble : xv_K yX0_resemble mX0_resemble (fun as h n Post => ∃ (a : Nat) (g : Nat → Int32) (s0 : Int32) (t0 : Int32) (e : Nat) (f : Nat → Int32) (s : Int32) (t : Int32), as = [.ref a, .ref e] ∧ (a + 1 < n) ∧ (h a = .inr (0, [.ref (a + 1), .int s0, .int t0])) ∧ (h (a + 1) = .inl (.int, 11, .inl g)) ∧ (e + 1 < n) ∧ (h e = .inr (0, [.ref (e + 1), .int s, .int t])) ∧ (h (e + 1) = .inl (.int, 11, .inl f)) ∧ (e ≠ a + 1) ∧ (∀ h' : xv_H, h' a = .inr (0, [.ref (a + 1), .int s, .int 1]) → h' (a + 1) = .inl (.int, 11, .inl f) → (∀ i, i ≠ a → i ≠ a + 1 → h' i = h i) → Post none h' n)) := by
  refine xv_entry (by decide +kernel) rfl (fun h => absurd h (by decide)) ?_
  rintro X _ h n Post ⟨a, g, s0, t0, e, f, s, t, rfl, han, ha, hna, hn, hE, hN, hae, hp⟩
  refine ⟨Nat.le_of_ble_eq_true rfl, ?_⟩
  show xv_V X mX0_resemble Post 0 0 0 [(0, .ref a), (1, .ref e)] [] h n
  refine xi_aload_n (q := 1) dX0_resemble_0 rfl rfl ?_
  refine xi_getf (q := 4) dX0_resemble_1 fl_X0_9 ⟨by omega, hE⟩ rfl rfl ?_
  refine xi_iconst (x := 0) (q := 5) dX0_resemble_4 (by decide) rfl ?_
  refine xi_aload_n (q := 6) dX0_resemble_5 rfl rfl ?_
  refine xi_getf (q := 9) dX0_resemble_6 fl_X0_9 ⟨by omega, ha⟩ rfl rfl ?_
  refine xi_iconst (x := 0) (q := 10) dX0_resemble_9 (by decide) rfl ?_
  refine xi_bipush (x := 11) (q := 12) dX0_resemble_10 (by decide) rfl ?_
  refine xi_copy (q := 15) dX0_resemble_12 ln_X0_29 (Nat.le_of_ble_eq_true rfl) (Nat.le_of_ble_eq_true rfl) ⟨hn, hN⟩ ⟨han, hna⟩ (by decide) (by decide) (by decide) (by decide) (by decide) rfl ?_
  refine xv_norm (h' := va_up h (a + 1) (.inl (.int, 11, .inl f))) (xv_nr (va_up_self _ _ _) (bx_uu _ _ _ _).symm (fun j hj => ?_)) ?_
  · exact (pk_cpy_in (Nat.zero_le _) (by show j < 0 + 11; omega)).trans (by show f (0 + (j - 0)) = f j; rw [Nat.zero_add, Nat.sub_zero])
  refine xi_aload_n (q := 16) dX0_resemble_15 rfl rfl ?_
  refine xi_aload_n (q := 17) dX0_resemble_16 rfl rfl ?_
  refine xi_getf (q := 20) dX0_resemble_17 fl_X0_21 (xv_keep (by omega) ⟨by omega, hE⟩) rfl rfl ?_
  refine xi_putf (q := 23) dX0_resemble_20 fl_X0_21 (xv_keep (by omega) ⟨by omega, ha⟩) (Or.inl rfl) (fun _ => rfl) (fun _ => rfl) (Nat.le_of_ble_eq_true rfl) rfl ?_
  refine xi_aload_n (q := 24) dX0_resemble_23 rfl rfl ?_
  refine xi_iconst (x := 1) (q := 25) dX0_resemble_24 (by decide) rfl ?_
  refine xi_putf (q := 28) dX0_resemble_25 fl_X0_25 (xv_self (by omega)) (Or.inl rfl) (fun _ => rfl) (fun _ => rfl) (Nat.le_of_ble_eq_true rfl) rfl ?_
  refine xi_vret ⟨rfl, dX0_resemble_28⟩ (Nat.zero_le _) (Nat.zero_le _) ?_
  refine hp _ ?_ ?_ ?_
  · rw [bx_uu, va_up_self]; rfl
  · rw [bx_uu, va_up_ne _ _ (by omega), va_up_self]
  · intro i h1 h2; rw [bx_uu, va_up_ne _ _ h1, va_up_ne _ _ h2]
