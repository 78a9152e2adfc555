def xs_c0 (σ : xs_Sg) (k : Nat) : Int32 := if σ 0 k 0 = 0 then 0 else 1
def xs_c6 (σ : xs_Sg) (k : Nat) : Int32 := if σ 7 k 0 = 0 then 0 else 1
def xs_ck (σ : xs_Sg) (w : Int32) (k : Nat) : Int32 := if σ 6 k 0 = 0 then 0 else if xs_bel (xs_tk (σ 4 k) (σ 5 k 0)) w = true then 1 else 0
theorem xs_psS (f : Nat → Int32) (k : Nat) {x : Int32} (h : f k = x) : xs_ps f k + x = xs_ps f (k + 1) := by rw [← h]; rfl
set_option maxRecDepth 20000 in
set_option maxHeartbeats 2000000 in
/-- countSheets -/
theorem xm_X8_countSheets : xv_K yX8_countSheets mX8_countSheets (fun as h n Post => ∃ (σ : xs_Sg), as = [.ref 0] ∧ (xs_S h σ) ∧ (83 ≤ n) ∧ Post (some (.int (xs_ps (xs_c0 σ) 8))) h n) := by
  refine xv_entry (by decide +kernel) rfl (fun h => absurd h (by decide)) ?_
  rintro X _ h n Post ⟨σ, rfl, hS, h83, hp⟩
  refine ⟨Nat.le_of_ble_eq_true rfl, ?_⟩
  show xv_V X mX8_countSheets Post 0 0 0 [(0, .ref 0)] [] h n
  have L4 : ∀ (d k : Nat), k + d = 8 → xv_V X mX8_countSheets Post 0 0 4 [(0, .ref 0), (1, .int (xs_ps (xs_c0 σ) k)), (2, .int (nI k))] [] h n := by
    intro d
    induction d using Nat.strongRecOn with
    | _ d ih =>
      intro k hkd
      refine xi_iload_n (q := 5) dX8_countSheets_4 rfl rfl ?_
      refine xi_bipush (x := 8) (q := 7) dX8_countSheets_5 (by decide) rfl ?_
      refine xi_icmp_ge (q := 10) (q2 := 32) dX8_countSheets_7 (by decide) rfl (fun c_7 => ?_) (fun c_7 => ?_)
      · have hk2 : k = 8 := by have z : 8 ≤ k := xn_leN c_7 (by omega) (by omega); omega
        subst hk2
        refine xi_iload_n (q := 33) dX8_countSheets_32 rfl rfl ?_
        refine xi_ret ⟨_, rfl, rfl, dX8_countSheets_33⟩ (Nat.zero_le _) (Nat.zero_le _) ?_
        exact hp
      · have hk : k < 8 := xn_nleN c_7 (by omega) (by omega)
        refine xi_iload_n (q := 11) dX8_countSheets_10 rfl rfl ?_
        refine xi_aload_n (q := 12) dX8_countSheets_11 rfl rfl ?_
        refine xi_iload_n (q := 13) dX8_countSheets_12 rfl rfl ?_
        refine xv_cV1 (q := 16) xm_X8_sheetAt ln_X8_93 dX8_countSheets_13 ⟨by omega, hS.1.1⟩ rfl ⟨(Nat.le_of_ble_eq_true rfl), (Nat.le_of_ble_eq_true rfl)⟩ (Nat.le_of_ble_eq_true rfl) ⟨rfl, rfl⟩ rfl (Nat.zero_le _) (Nat.zero_le _) ?_
        refine ⟨σ, k, rfl, hS, by omega, hk, fun hE => ?_, fun hE => ?_⟩
        · skip
          refine xi_ifnull_r (q := 19) dX8_countSheets_16 rfl ?_
          refine xi_iconst (x := 1) (q := 20) dX8_countSheets_19 (by decide) rfl ?_
          refine xi_goto (q := 24) dX8_countSheets_20 (by decide) ?_
          refine xi_iadd (q := 25) dX8_countSheets_24 rfl ?_
          refine xi_istore_n (q := 26) dX8_countSheets_25 (Nat.le_of_ble_eq_true rfl) rfl ?_
          refine xi_iinc (y := nI (k + 1)) (q := 29) dX8_countSheets_26 rfl (xn_inc k) (Nat.le_of_ble_eq_true rfl) rfl ?_
          refine xi_goto (q := 4) dX8_countSheets_29 (by decide) ?_
          rw [xs_psS (xs_c0 σ) k (if_neg hE)]
          refine xv_weakS (lv' := [(0, .ref 0), (1, .int (xs_ps (xs_c0 σ) (k + 1))), (2, .int (nI (k + 1)))]) ⟨rfl, rfl, rfl, trivial⟩ ?_
          exact ih (d - 1) (by omega) (k + 1) (by omega)
        · skip
          refine xi_ifnull_n (q := 23) dX8_countSheets_16 (by decide) ?_
          refine xi_iconst (x := 0) (q := 24) dX8_countSheets_23 (by decide) rfl ?_
          refine xi_iadd (q := 25) dX8_countSheets_24 rfl ?_
          refine xi_istore_n (q := 26) dX8_countSheets_25 (Nat.le_of_ble_eq_true rfl) rfl ?_
          refine xi_iinc (y := nI (k + 1)) (q := 29) dX8_countSheets_26 rfl (xn_inc k) (Nat.le_of_ble_eq_true rfl) rfl ?_
          refine xi_goto (q := 4) dX8_countSheets_29 (by decide) ?_
          rw [xs_psS (xs_c0 σ) k (if_pos hE)]
          refine xv_weakS (lv' := [(0, .ref 0), (1, .int (xs_ps (xs_c0 σ) (k + 1))), (2, .int (nI (k + 1)))]) ⟨rfl, rfl, rfl, trivial⟩ ?_
          exact ih (d - 1) (by omega) (k + 1) (by omega)
  refine xi_iconst (x := 0) (q := 1) dX8_countSheets_0 (by decide) rfl ?_
  refine xi_istore_n (q := 2) dX8_countSheets_1 (Nat.le_of_ble_eq_true rfl) rfl ?_
  refine xi_iconst (x := 0) (q := 3) dX8_countSheets_2 (by decide) rfl ?_
  refine xi_istore_n (q := 4) dX8_countSheets_3 (Nat.le_of_ble_eq_true rfl) rfl ?_
  refine xv_weakS (lv' := [(0, .ref 0), (1, .int (xs_ps (xs_c0 σ) 0)), (2, .int (nI 0))]) ⟨rfl, rfl, rfl, trivial⟩ ?_
  exact L4 8 0 (by omega)

set_option maxRecDepth 20000 in
set_option maxHeartbeats 2000000 in
/-- countFoundCards -/
theorem xm_X8_countFoundCards : xv_K yX8_countFoundCards mX8_countFoundCards (fun as h n Post => ∃ (σ : xs_Sg), as = [.ref 0] ∧ (xs_S h σ) ∧ (83 ≤ n) ∧ Post (some (.int (xs_ps (xs_c6 σ) 6))) h n) := by
  refine xv_entry (by decide +kernel) rfl (fun h => absurd h (by decide)) ?_
  rintro X _ h n Post ⟨σ, rfl, hS, h83, hp⟩
  refine ⟨Nat.le_of_ble_eq_true rfl, ?_⟩
  show xv_V X mX8_countFoundCards Post 0 0 0 [(0, .ref 0)] [] h n
  have L4 : ∀ (d k : Nat), k + d = 6 → xv_V X mX8_countFoundCards Post 0 0 4 [(0, .ref 0), (1, .int (xs_ps (xs_c6 σ) k)), (2, .int (nI k))] [] h n := by
    intro d
    induction d using Nat.strongRecOn with
    | _ d ih =>
      intro k hkd
      refine xi_iload_n (q := 5) dX8_countFoundCards_4 rfl rfl ?_
      refine xi_bipush (x := 6) (q := 7) dX8_countFoundCards_5 (by decide) rfl ?_
      refine xi_icmp_ge (q := 10) (q2 := 36) dX8_countFoundCards_7 (by decide) rfl (fun c_7 => ?_) (fun c_7 => ?_)
      · have hk2 : k = 6 := by have z : 6 ≤ k := xn_leN c_7 (by omega) (by omega); omega
        subst hk2
        refine xi_iload_n (q := 37) dX8_countFoundCards_36 rfl rfl ?_
        refine xi_ret ⟨_, rfl, rfl, dX8_countFoundCards_37⟩ (Nat.zero_le _) (Nat.zero_le _) ?_
        exact hp
      · have hk : k < 6 := xn_nleN c_7 (by omega) (by omega)
        refine xi_iload_n (q := 11) dX8_countFoundCards_10 rfl rfl ?_
        refine xi_aload_n (q := 12) dX8_countFoundCards_11 rfl rfl ?_
        refine xi_getf (q := 15) dX8_countFoundCards_12 fl_X8_23 ⟨by omega, hS.1.1⟩ rfl rfl ?_
        refine xi_iload_n (q := 16) dX8_countFoundCards_15 rfl rfl ?_
        refine xi_aald (q := 17) dX8_countFoundCards_16 ⟨by omega, hS.1.2.2.2⟩ rfl (xv_ixN hk (by omega)) (xs_ai hk) rfl ?_
        refine xi_getf (q := 20) dX8_countFoundCards_17 fl_X8_139 ⟨by omega, (hS.2.2.2.1 k hk).1⟩ rfl rfl ?_
        refine xi_if_eq (q := 23) (q2 := 27) dX8_countFoundCards_20 (by decide) rfl (fun c_20 => ?_) (fun c_20 => ?_)
        · refine xi_iconst (x := 0) (q := 28) dX8_countFoundCards_27 (by decide) rfl ?_
          refine xi_iadd (q := 29) dX8_countFoundCards_28 rfl ?_
          refine xi_istore_n (q := 30) dX8_countFoundCards_29 (Nat.le_of_ble_eq_true rfl) rfl ?_
          refine xi_iinc (y := nI (k + 1)) (q := 33) dX8_countFoundCards_30 rfl (xn_inc k) (Nat.le_of_ble_eq_true rfl) rfl ?_
          refine xi_goto (q := 4) dX8_countFoundCards_33 (by decide) ?_
          rw [xs_psS (xs_c6 σ) k (if_pos c_20)]
          refine xv_weakS (lv' := [(0, .ref 0), (1, .int (xs_ps (xs_c6 σ) (k + 1))), (2, .int (nI (k + 1)))]) ⟨rfl, rfl, rfl, trivial⟩ ?_
          exact ih (d - 1) (by omega) (k + 1) (by omega)
        · refine xi_iconst (x := 1) (q := 24) dX8_countFoundCards_23 (by decide) rfl ?_
          refine xi_goto (q := 28) dX8_countFoundCards_24 (by decide) ?_
          refine xi_iadd (q := 29) dX8_countFoundCards_28 rfl ?_
          refine xi_istore_n (q := 30) dX8_countFoundCards_29 (Nat.le_of_ble_eq_true rfl) rfl ?_
          refine xi_iinc (y := nI (k + 1)) (q := 33) dX8_countFoundCards_30 rfl (xn_inc k) (Nat.le_of_ble_eq_true rfl) rfl ?_
          refine xi_goto (q := 4) dX8_countFoundCards_33 (by decide) ?_
          rw [xs_psS (xs_c6 σ) k (if_neg c_20)]
          refine xv_weakS (lv' := [(0, .ref 0), (1, .int (xs_ps (xs_c6 σ) (k + 1))), (2, .int (nI (k + 1)))]) ⟨rfl, rfl, rfl, trivial⟩ ?_
          exact ih (d - 1) (by omega) (k + 1) (by omega)
  refine xi_iconst (x := 0) (q := 1) dX8_countFoundCards_0 (by decide) rfl ?_
  refine xi_istore_n (q := 2) dX8_countFoundCards_1 (Nat.le_of_ble_eq_true rfl) rfl ?_
  refine xi_iconst (x := 0) (q := 3) dX8_countFoundCards_2 (by decide) rfl ?_
  refine xi_istore_n (q := 4) dX8_countFoundCards_3 (Nat.le_of_ble_eq_true rfl) rfl ?_
  refine xv_weakS (lv' := [(0, .ref 0), (1, .int (xs_ps (xs_c6 σ) 0)), (2, .int (nI 0))]) ⟨rfl, rfl, rfl, trivial⟩ ?_
  exact L4 6 0 (by omega)

set_option maxRecDepth 20000 in
set_option maxHeartbeats 2000000 in
/-- countEngines -/
theorem xm_X8_countEngines : xv_K yX8_countEngines mX8_countEngines (fun as h n Post => ∃ (σ : xs_Sg) (w : Int32), as = [.ref 0, .int w] ∧ (xs_S h σ) ∧ (83 ≤ n) ∧ (xs_V σ) ∧ (∀ h' : xv_H, xs_S h' σ → (∀ i, 83 ≤ i → h' i = h i) → Post (some (.int (xs_ps (xs_ck σ w) 6))) h' n)) := by
  refine xv_entry (by decide +kernel) rfl (fun h => absurd h (by decide)) ?_
  rintro X _ h n Post ⟨σ, w, rfl, hS, h83, hV, hp⟩
  refine ⟨Nat.le_of_ble_eq_true rfl, ?_⟩
  show xv_V X mX8_countEngines Post 0 0 0 [(0, .ref 0), (1, .int w)] [] h n
  have L4 : ∀ (d k : Nat) (hh : xv_H), k + d = 6 → xs_S hh σ → (∀ i, 83 ≤ i → hh i = h i) → xv_V X mX8_countEngines Post 0 0 4 [(0, .ref 0), (1, .int w), (2, .int (xs_ps (xs_ck σ w) k)), (3, .int (nI k))] [] hh n := by
    intro d
    induction d using Nat.strongRecOn with
    | _ d ih =>
      intro k hh hkd hW hf0
      refine xi_iload_n (q := 5) dX8_countEngines_4 rfl rfl ?_
      refine xi_bipush (x := 6) (q := 7) dX8_countEngines_5 (by decide) rfl ?_
      refine xi_icmp_ge (q := 10) (q2 := 48) dX8_countEngines_7 (by decide) rfl (fun c_7 => ?_) (fun c_7 => ?_)
      · have hk2 : k = 6 := by have z : 6 ≤ k := xn_leN c_7 (by omega) (by omega); omega
        subst hk2
        refine xi_iload_n (q := 49) dX8_countEngines_48 rfl rfl ?_
        refine xi_ret ⟨_, rfl, rfl, dX8_countEngines_49⟩ (Nat.zero_le _) (Nat.zero_le _) ?_
        exact hp hh hW hf0
      · have hk : k < 6 := xn_nleN c_7 (by omega) (by omega)
        refine xi_aload_n (q := 11) dX8_countEngines_10 rfl rfl ?_
        refine xi_iload_n (q := 12) dX8_countEngines_11 rfl rfl ?_
        refine xv_cV1 (q := 15) xm_X8_engineAt ln_X8_142 dX8_countEngines_12 ⟨by omega, hW.1.1⟩ rfl ⟨(Nat.le_of_ble_eq_true rfl), (Nat.le_of_ble_eq_true rfl)⟩ (Nat.le_of_ble_eq_true rfl) ⟨rfl, rfl⟩ rfl (Nat.zero_le _) (Nat.zero_le _) ?_
        refine ⟨σ, k, rfl, hW, by omega, hk, fun hE => ?_, fun hE => ?_⟩
        · skip
          refine xi_astore (q := 17) dX8_countEngines_15 (Nat.le_of_ble_eq_true rfl) rfl ?_
          refine xi_aload (q := 19) dX8_countEngines_17 rfl rfl ?_
          refine xi_ifnull_r (q := 22) dX8_countEngines_19 rfl ?_
          refine xi_iload_n (q := 23) dX8_countEngines_22 rfl rfl ?_
          refine xi_if_eq (q := 26) (q2 := 39) dX8_countEngines_23 (by decide) rfl (fun c_23 => ?_) (fun c_23 => ?_)
          · refine xi_iinc (q := 42) dX8_countEngines_39 rfl rfl (Nat.le_of_ble_eq_true rfl) rfl ?_
            refine xi_iinc (y := nI (k + 1)) (q := 45) dX8_countEngines_42 rfl (xn_inc k) (Nat.le_of_ble_eq_true rfl) rfl ?_
            refine xi_goto (q := 4) dX8_countEngines_45 (by decide) ?_
            rw [show xs_ps (xs_ck σ w) k + Int32.ofInt 1 = xs_ps (xs_ck σ w) k + 1 from rfl, xs_psS (xs_ck σ w) k (x := 1) ((if_neg hE).trans (if_pos (by rw [c_23]; rfl)))]
            refine xv_weakS (lv' := [(0, .ref 0), (1, .int w), (2, .int (xs_ps (xs_ck σ w) (k + 1))), (3, .int (nI (k + 1)))]) ⟨rfl, rfl, rfl, rfl, trivial⟩ ?_
            exact ih (d - 1) (by omega) (k + 1) hh (by omega) hW hf0
          · refine xi_aload_n (q := 27) dX8_countEngines_26 rfl rfl ?_
            refine xi_aload (q := 29) dX8_countEngines_27 rfl rfl ?_
            refine xv_cV1 (q := 32) xm_X8_toldKind ln_X8_319 dX8_countEngines_29 ⟨by omega, hW.1.1⟩ rfl ⟨(Nat.le_of_ble_eq_true rfl), (Nat.le_of_ble_eq_true rfl)⟩ (Nat.le_of_ble_eq_true rfl) ⟨rfl, rfl⟩ rfl (Nat.zero_le _) (Nat.zero_le _) ?_
            refine ⟨σ, k, rfl, hW, by omega, hV, hk, hE, fun h9 S9 q2 => ?_⟩
            refine xi_iload_n (q := 33) dX8_countEngines_32 rfl rfl ?_
            refine xv_cS2 (q := 36) xm_X8_belongs ln_X8_322 dX8_countEngines_33 ⟨(Nat.le_of_ble_eq_true rfl), (Nat.le_of_ble_eq_true rfl)⟩ (Nat.le_of_ble_eq_true rfl) ⟨rfl, rfl⟩ rfl (Nat.zero_le _) (Nat.zero_le _) ?_
            refine ⟨_, _, rfl, ?_⟩
            refine xi_if_eq (q := 39) (q2 := 42) dX8_countEngines_36 (by decide) rfl (fun c_36 => ?_) (fun c_36 => ?_)
            · refine xi_iinc (y := nI (k + 1)) (q := 45) dX8_countEngines_42 rfl (xn_inc k) (Nat.le_of_ble_eq_true rfl) rfl ?_
              refine xi_goto (q := 4) dX8_countEngines_45 (by decide) ?_
              rw [show xs_ps (xs_ck σ w) k = xs_ps (xs_ck σ w) k + 0 from (Int32.add_zero _).symm, xs_psS (xs_ck σ w) k (x := 0) ((if_neg hE).trans (if_neg (xn_b0 c_36)))]
              refine xv_weakS (lv' := [(0, .ref 0), (1, .int w), (2, .int (xs_ps (xs_ck σ w) (k + 1))), (3, .int (nI (k + 1)))]) ⟨rfl, rfl, rfl, rfl, trivial⟩ ?_
              exact ih (d - 1) (by omega) (k + 1) h9 (by omega) S9 (fun i hi => (q2 i hi).trans (hf0 i hi))
            · refine xi_iinc (q := 42) dX8_countEngines_39 rfl rfl (Nat.le_of_ble_eq_true rfl) rfl ?_
              refine xi_iinc (y := nI (k + 1)) (q := 45) dX8_countEngines_42 rfl (xn_inc k) (Nat.le_of_ble_eq_true rfl) rfl ?_
              refine xi_goto (q := 4) dX8_countEngines_45 (by decide) ?_
              rw [show xs_ps (xs_ck σ w) k + Int32.ofInt 1 = xs_ps (xs_ck σ w) k + 1 from rfl, xs_psS (xs_ck σ w) k (x := 1) ((if_neg hE).trans (if_pos (xn_b1 c_36)))]
              refine xv_weakS (lv' := [(0, .ref 0), (1, .int w), (2, .int (xs_ps (xs_ck σ w) (k + 1))), (3, .int (nI (k + 1)))]) ⟨rfl, rfl, rfl, rfl, trivial⟩ ?_
              exact ih (d - 1) (by omega) (k + 1) h9 (by omega) S9 (fun i hi => (q2 i hi).trans (hf0 i hi))
        · skip
          refine xi_astoreN (q := 17) dX8_countEngines_15 (Nat.le_of_ble_eq_true rfl) rfl ?_
          refine xi_aloadN (q := 19) dX8_countEngines_17 rfl rfl ?_
          refine xi_ifnull_n (q := 42) dX8_countEngines_19 (by decide) ?_
          refine xi_iinc (y := nI (k + 1)) (q := 45) dX8_countEngines_42 rfl (xn_inc k) (Nat.le_of_ble_eq_true rfl) rfl ?_
          refine xi_goto (q := 4) dX8_countEngines_45 (by decide) ?_
          rw [show xs_ps (xs_ck σ w) k = xs_ps (xs_ck σ w) k + 0 from (Int32.add_zero _).symm, xs_psS (xs_ck σ w) k (x := 0) (if_pos hE)]
          refine xv_weakS (lv' := [(0, .ref 0), (1, .int w), (2, .int (xs_ps (xs_ck σ w) (k + 1))), (3, .int (nI (k + 1)))]) ⟨rfl, rfl, rfl, rfl, trivial⟩ ?_
          exact ih (d - 1) (by omega) (k + 1) hh (by omega) hW hf0
  refine xi_iconst (x := 0) (q := 1) dX8_countEngines_0 (by decide) rfl ?_
  refine xi_istore_n (q := 2) dX8_countEngines_1 (Nat.le_of_ble_eq_true rfl) rfl ?_
  refine xi_iconst (x := 0) (q := 3) dX8_countEngines_2 (by decide) rfl ?_
  refine xi_istore_n (q := 4) dX8_countEngines_3 (Nat.le_of_ble_eq_true rfl) rfl ?_
  refine xv_weakS (lv' := [(0, .ref 0), (1, .int w), (2, .int (xs_ps (xs_ck σ w) 0)), (3, .int (nI 0))]) ⟨rfl, rfl, rfl, rfl, trivial⟩ ?_
  exact L4 6 0 h (by omega) hS (fun _ _ => rfl)

def xs_count (σ : xs_Sg) (w : Int32) : Int32 × xs_Sg := (if xs_i w 0 7 = true then (if w = 0 then xs_ps (xs_c0 σ) 8 else if w = 6 then xs_ps (xs_c6 σ) 6 else if w = 7 then σ 11 0 0 else xs_ps (xs_ck σ (w - 1)) 6) else -1000001, σ)
theorem xn_g07 {v : Int32} (g : xs_i v 0 7 = true) : v = 0 ∨ v = 1 ∨ v = 2 ∨ v = 3 ∨ v = 4 ∨ v = 5 ∨ v = 6 ∨ v = 7 := by
  have h := xn_gI g
  rw [show (0 : Int32).toInt = 0 from rfl, show (7 : Int32).toInt = 7 from rfl] at h
  rw [xn_eq, xn_eq, xn_eq, xn_eq, xn_eq, xn_eq, xn_eq, xn_eq, show (0 : Int32).toInt = 0 from rfl, show (1 : Int32).toInt = 1 from rfl, show (2 : Int32).toInt = 2 from rfl, show (3 : Int32).toInt = 3 from rfl, show (4 : Int32).toInt = 4 from rfl, show (5 : Int32).toInt = 5 from rfl, show (6 : Int32).toInt = 6 from rfl, show (7 : Int32).toInt = 7 from rfl]
  omega
set_option maxRecDepth 20000 in
set_option maxHeartbeats 2000000 in
/-- count -/
theorem xm_X8_count : xv_K yX8_count mX8_count (fun as h n Post => ∃ (σ : xs_Sg) (w : Int32), as = [.ref 0, .int w] ∧ (xs_S h σ) ∧ (83 ≤ n) ∧ (xs_V σ) ∧ xs_D h n Post (xs_count σ w)) := by
  refine xv_entry (by decide +kernel) rfl (fun h => absurd h (by decide)) ?_
  rintro X _ h n Post ⟨σ, w, rfl, hS, h83, hV, hp⟩
  refine ⟨Nat.le_of_ble_eq_true rfl, ?_⟩
  show xv_V X mX8_count Post 0 0 0 [(0, .ref 0), (1, .int w)] [] h n
  refine xi_iload_n (q := 1) dX8_count_0 rfl rfl ?_
  refine xi_iconst (x := 0) (q := 2) dX8_count_1 (by decide) rfl ?_
  refine xi_bipush (x := 7) (q := 4) dX8_count_2 (by decide) rfl ?_
  refine xv_cS3 (q := 7) xm_X8_within ln_X8_77 dX8_count_4 ⟨(Nat.le_of_ble_eq_true rfl), (Nat.le_of_ble_eq_true rfl)⟩ (Nat.le_of_ble_eq_true rfl) ⟨rfl, rfl⟩ rfl (Nat.zero_le _) (Nat.zero_le _) ?_
  refine ⟨_, _, _, rfl, ?_⟩
  refine xi_if_ne (q := 10) (q2 := 13) dX8_count_7 (by decide) rfl (fun c_7 => ?_) (fun c_7 => ?_)
  · have g_7 : xs_i w 0 7 = true := decide_eq_true (xn_b1 c_7)
    rcases xn_g07 g_7 with rfl | rfl | rfl | rfl | rfl | rfl | rfl | rfl
    · refine xi_iload_n (q := 14) dX8_count_13 rfl rfl ?_
      refine xi_tableIn (q := 56) dX8_count_14 (by decide) (by decide) rfl (by decide) ?_
      refine xi_aload_n (q := 57) dX8_count_56 rfl rfl ?_
      refine xv_cV0 (q := 60) xm_X8_countSheets ln_X8_335 dX8_count_57 ⟨by omega, hS.1.1⟩ rfl ⟨(Nat.le_of_ble_eq_true rfl), (Nat.le_of_ble_eq_true rfl)⟩ (Nat.le_of_ble_eq_true rfl) ⟨rfl, rfl⟩ rfl (Nat.zero_le _) (Nat.zero_le _) ?_
      refine ⟨σ, rfl, hS, by omega, ?_⟩
      refine xi_ret ⟨_, rfl, rfl, dX8_count_60⟩ (Nat.zero_le _) (Nat.zero_le _) ?_
      exact xs_fin (x := xs_ps (xs_c0 σ) 8) hp (by unfold xs_count; rw [if_pos g_7]; rfl) _ hS (fun _ _ => rfl)
    · refine xi_iload_n (q := 14) dX8_count_13 rfl rfl ?_
      refine xi_tableIn (q := 61) dX8_count_14 (by decide) (by decide) rfl (by decide) ?_
      refine xi_aload_n (q := 62) dX8_count_61 rfl rfl ?_
      refine xi_iconst (x := 0) (q := 63) dX8_count_62 (by decide) rfl ?_
      refine xv_cV1 (q := 66) xm_X8_countEngines ln_X8_338 dX8_count_63 ⟨by omega, hS.1.1⟩ rfl ⟨(Nat.le_of_ble_eq_true rfl), (Nat.le_of_ble_eq_true rfl)⟩ (Nat.le_of_ble_eq_true rfl) ⟨rfl, rfl⟩ rfl (Nat.zero_le _) (Nat.zero_le _) ?_
      refine ⟨σ, 0, rfl, hS, by omega, hV, fun h9 S9 q2 => ?_⟩
      refine xi_ret ⟨_, rfl, rfl, dX8_count_66⟩ (Nat.zero_le _) (Nat.zero_le _) ?_
      exact xs_fin (x := xs_ps (xs_ck σ 0) 6) hp (by unfold xs_count; rw [if_pos g_7]; rfl) _ S9 q2
    · refine xi_iload_n (q := 14) dX8_count_13 rfl rfl ?_
      refine xi_tableIn (q := 67) dX8_count_14 (by decide) (by decide) rfl (by decide) ?_
      refine xi_aload_n (q := 68) dX8_count_67 rfl rfl ?_
      refine xi_iconst (x := 1) (q := 69) dX8_count_68 (by decide) rfl ?_
      refine xv_cV1 (q := 72) xm_X8_countEngines ln_X8_338 dX8_count_69 ⟨by omega, hS.1.1⟩ rfl ⟨(Nat.le_of_ble_eq_true rfl), (Nat.le_of_ble_eq_true rfl)⟩ (Nat.le_of_ble_eq_true rfl) ⟨rfl, rfl⟩ rfl (Nat.zero_le _) (Nat.zero_le _) ?_
      refine ⟨σ, 1, rfl, hS, by omega, hV, fun h9 S9 q2 => ?_⟩
      refine xi_ret ⟨_, rfl, rfl, dX8_count_72⟩ (Nat.zero_le _) (Nat.zero_le _) ?_
      exact xs_fin (x := xs_ps (xs_ck σ 1) 6) hp (by unfold xs_count; rw [if_pos g_7]; rfl) _ S9 q2
    · refine xi_iload_n (q := 14) dX8_count_13 rfl rfl ?_
      refine xi_tableIn (q := 73) dX8_count_14 (by decide) (by decide) rfl (by decide) ?_
      refine xi_aload_n (q := 74) dX8_count_73 rfl rfl ?_
      refine xi_iconst (x := 2) (q := 75) dX8_count_74 (by decide) rfl ?_
      refine xv_cV1 (q := 78) xm_X8_countEngines ln_X8_338 dX8_count_75 ⟨by omega, hS.1.1⟩ rfl ⟨(Nat.le_of_ble_eq_true rfl), (Nat.le_of_ble_eq_true rfl)⟩ (Nat.le_of_ble_eq_true rfl) ⟨rfl, rfl⟩ rfl (Nat.zero_le _) (Nat.zero_le _) ?_
      refine ⟨σ, 2, rfl, hS, by omega, hV, fun h9 S9 q2 => ?_⟩
      refine xi_ret ⟨_, rfl, rfl, dX8_count_78⟩ (Nat.zero_le _) (Nat.zero_le _) ?_
      exact xs_fin (x := xs_ps (xs_ck σ 2) 6) hp (by unfold xs_count; rw [if_pos g_7]; rfl) _ S9 q2
    · refine xi_iload_n (q := 14) dX8_count_13 rfl rfl ?_
      refine xi_tableIn (q := 79) dX8_count_14 (by decide) (by decide) rfl (by decide) ?_
      refine xi_aload_n (q := 80) dX8_count_79 rfl rfl ?_
      refine xi_iconst (x := 3) (q := 81) dX8_count_80 (by decide) rfl ?_
      refine xv_cV1 (q := 84) xm_X8_countEngines ln_X8_338 dX8_count_81 ⟨by omega, hS.1.1⟩ rfl ⟨(Nat.le_of_ble_eq_true rfl), (Nat.le_of_ble_eq_true rfl)⟩ (Nat.le_of_ble_eq_true rfl) ⟨rfl, rfl⟩ rfl (Nat.zero_le _) (Nat.zero_le _) ?_
      refine ⟨σ, 3, rfl, hS, by omega, hV, fun h9 S9 q2 => ?_⟩
      refine xi_ret ⟨_, rfl, rfl, dX8_count_84⟩ (Nat.zero_le _) (Nat.zero_le _) ?_
      exact xs_fin (x := xs_ps (xs_ck σ 3) 6) hp (by unfold xs_count; rw [if_pos g_7]; rfl) _ S9 q2
    · refine xi_iload_n (q := 14) dX8_count_13 rfl rfl ?_
      refine xi_tableIn (q := 85) dX8_count_14 (by decide) (by decide) rfl (by decide) ?_
      refine xi_aload_n (q := 86) dX8_count_85 rfl rfl ?_
      refine xi_iconst (x := 4) (q := 87) dX8_count_86 (by decide) rfl ?_
      refine xv_cV1 (q := 90) xm_X8_countEngines ln_X8_338 dX8_count_87 ⟨by omega, hS.1.1⟩ rfl ⟨(Nat.le_of_ble_eq_true rfl), (Nat.le_of_ble_eq_true rfl)⟩ (Nat.le_of_ble_eq_true rfl) ⟨rfl, rfl⟩ rfl (Nat.zero_le _) (Nat.zero_le _) ?_
      refine ⟨σ, 4, rfl, hS, by omega, hV, fun h9 S9 q2 => ?_⟩
      refine xi_ret ⟨_, rfl, rfl, dX8_count_90⟩ (Nat.zero_le _) (Nat.zero_le _) ?_
      exact xs_fin (x := xs_ps (xs_ck σ 4) 6) hp (by unfold xs_count; rw [if_pos g_7]; rfl) _ S9 q2
    · refine xi_iload_n (q := 14) dX8_count_13 rfl rfl ?_
      refine xi_tableIn (q := 91) dX8_count_14 (by decide) (by decide) rfl (by decide) ?_
      refine xi_aload_n (q := 92) dX8_count_91 rfl rfl ?_
      refine xv_cV0 (q := 95) xm_X8_countFoundCards ln_X8_341 dX8_count_92 ⟨by omega, hS.1.1⟩ rfl ⟨(Nat.le_of_ble_eq_true rfl), (Nat.le_of_ble_eq_true rfl)⟩ (Nat.le_of_ble_eq_true rfl) ⟨rfl, rfl⟩ rfl (Nat.zero_le _) (Nat.zero_le _) ?_
      refine ⟨σ, rfl, hS, by omega, ?_⟩
      refine xi_ret ⟨_, rfl, rfl, dX8_count_95⟩ (Nat.zero_le _) (Nat.zero_le _) ?_
      exact xs_fin (x := xs_ps (xs_c6 σ) 6) hp (by unfold xs_count; rw [if_pos g_7]; rfl) _ hS (fun _ _ => rfl)
    · obtain ⟨st_, wo_, dr_, ro_, lc_, hL⟩ := hS.2.2.2.2.2.2.2.2.2.2
      refine xi_iload_n (q := 14) dX8_count_13 rfl rfl ?_
      refine xi_tableOut (q := 96) dX8_count_14 (by decide) (by decide) ?_
      refine xi_aload_n (q := 97) dX8_count_96 rfl rfl ?_
      refine xi_getf (q := 100) dX8_count_97 fl_X8_61 ⟨by omega, hS.1.1⟩ rfl rfl ?_
      refine xi_getf (q := 103) dX8_count_100 fl_X8_288 ⟨by omega, hL.1⟩ rfl rfl ?_
      refine xi_ret ⟨_, rfl, rfl, dX8_count_103⟩ (Nat.zero_le _) (Nat.zero_le _) ?_
      exact xs_fin (x := σ 11 0 0) hp (by unfold xs_count; rw [if_pos g_7]; rfl) _ hS (fun _ _ => rfl)
  · have g_7 : xs_i w 0 7 = false := decide_eq_false (xn_b0 c_7)
    refine xi_ldc (q := 12) dX8_count_10 kc_X8_81 rfl ?_
    refine xi_ret ⟨_, rfl, rfl, dX8_count_12⟩ (Nat.zero_le _) (Nat.zero_le _) ?_
    exact xs_fin hp (by simp only [xs_count, xs_onE, xs_onP, xs_fn, xs_an, Bool.not_false, Bool.not_true, Bool.true_or, Bool.false_or, Bool.and_true, Bool.true_and, Bool.and_false, Bool.false_and, Bool.false_eq_true, if_true, if_false, ↓reduceIte, g_7]) _ hS (fun i hi => rfl)

