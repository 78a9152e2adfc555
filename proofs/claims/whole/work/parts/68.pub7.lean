abbrev xs_3 := Int32 × Int32 × Int32
def xs_nst (v p m : Int32) (t : xs_3) : xs_3 := if t.1 = -1000000 ∨ v < t.2.2 then (p, m, v) else t
def xs_nin (A : Int32 → Int32) (p : Int32) : Nat → xs_3 → xs_3
  | 0, t => t
  | k + 1, t => xs_nst (A (nI k - 6)) p (nI k - 6) (xs_nin A p k t)
def xs_nou (σ : xs_Sg) (A : Nat → Int32 → Int32) : Nat → xs_3
  | 0 => (-1000000, -1000000, -1000000)
  | k + 1 => if σ 6 k 0 = 0 then xs_nou σ A k else xs_nin (A k) (nI k) 13 (xs_nou σ A k)
def xs_apt (σ : xs_Sg) (B : Int32) (ci : Nat → Int32) (k : Nat) (m : Int32) : Int32 := xs_ps (xs_ap1 ci (fun j => xs_cd (σ 4 k) (σ 5 k 0) m (B * 4 / 4) 0 j)) 48
def xs_sel3 (w : Int32) (t : xs_3) : Int32 := if w = 0 then t.1 else if w = 1 then t.2.1 else t.2.2
theorem xn_s6 (k : Nat) : nI k - 6 + Int32.ofInt 1 = nI (k + 1) - 6 := by
  rw [← nI_1 k, Int32.sub_eq_add_neg, Int32.sub_eq_add_neg, Int32.add_assoc, Int32.add_assoc]
  rfl
theorem xn_s6i {k : Nat} (h : k ≤ 100) : (nI k - 6).toInt = (k : Int) - 6 := by
  rw [xn_sub (by rw [xn_NI (by omega), show (6 : Int32).toInt = 6 from rfl]; omega) (by rw [xn_NI (by omega), show (6 : Int32).toInt = 6 from rfl]; omega), xn_NI (by omega)]
  rfl
set_option maxRecDepth 20000 in
set_option maxHeartbeats 2000000 in
/-- nearest -/
theorem xm_X8_nearest : xv_K yX8_nearest mX8_nearest (fun as h n Post => ∃ (σ : xs_Sg) (B : Int32) (w : Int32) (ci : Nat → Int32) (c1 : Int32) (c2 : Int32) (c3 : Int32), as = [.ref 0, .int B, .int w] ∧ (xs_S h σ) ∧ (83 ≤ n) ∧ (xs_V σ) ∧ (0 ≤ B.toInt ∧ B.toInt ≤ 2000) ∧ (h 6 = .inr (2, [.ref 7, .int c1, .int c2, .int c3]) ∧ h 7 = .inl (.int, 48, .inl ci)) ∧ (∀ h' : xv_H, xs_S h' σ → (∀ i, 83 ≤ i → h' i = h i) → Post (some (.int (xs_sel3 w (xs_nou σ (xs_apt σ B ci) 6)))) h' n)) := by
  refine xv_entry (by decide +kernel) rfl (fun h => absurd h (by decide)) ?_
  rintro X _ h n Post ⟨σ, B, w, ci, c1, c2, c3, rfl, hS, h83, hV, hB, hC, hp⟩
  refine ⟨Nat.le_of_ble_eq_true rfl, ?_⟩
  show xv_V X mX8_nearest Post 0 0 0 [(0, .ref 0), (1, .int B), (2, .int w)] [] h n
  have L17 : ∀ (d k : Nat) (hh : xv_H) (t : xs_3), k + d = 6 → xs_S hh σ → hh 6 = .inr (2, [.ref 7, .int c1, .int c2, .int c3]) ∧ hh 7 = .inl (.int, 48, .inl ci) → (∀ i, 83 ≤ i → hh i = h i) → t = xs_nou σ (xs_apt σ B ci) k → xv_V X mX8_nearest Post 0 0 17 [(0, .ref 0), (1, .int B), (2, .int w), (3, .int t.1), (4, .int t.2.1), (5, .int t.2.2), (6, .int (nI k))] [] hh n := by
    intro d
    induction d using Nat.strongRecOn with
    | _ d ih =>
      intro k hh t hkd hW hC hf0 ht
      refine xi_iload (q := 19) dX8_nearest_17 rfl rfl ?_
      refine xi_bipush (x := 6) (q := 21) dX8_nearest_19 (by decide) rfl ?_
      refine xi_icmp_ge (q := 24) (q2 := 115) dX8_nearest_21 (by decide) rfl (fun c_21 => ?_) (fun c_21 => ?_)
      · have hk2 : k = 6 := by have z : 6 ≤ k := xn_leN c_21 (by omega) (by omega); omega
        subst hk2
        refine xi_iload_n (q := 116) dX8_nearest_115 rfl rfl ?_
        refine xi_if_ne (q := 119) (q2 := 121) dX8_nearest_116 (by decide) rfl (fun c_116 => ?_) (fun c_116 => ?_)
        · refine xi_iload_n (q := 122) dX8_nearest_121 rfl rfl ?_
          refine xi_iconst (x := 1) (q := 123) dX8_nearest_122 (by decide) rfl ?_
          refine xi_icmp_ne (q := 126) (q2 := 131) dX8_nearest_123 (by decide) rfl (fun c_123 => ?_) (fun c_123 => ?_)
          · refine xi_iload (q := 133) dX8_nearest_131 rfl rfl ?_
            refine xi_ret ⟨_, rfl, rfl, dX8_nearest_133⟩ (Nat.zero_le _) (Nat.zero_le _) ?_
            exact xs_tkr hp (by rw [← ht]; unfold xs_sel3; rw [if_neg c_116, if_neg c_123]) hW hf0
          · refine xi_iload (q := 128) dX8_nearest_126 rfl rfl ?_
            refine xi_goto (q := 133) dX8_nearest_128 (by decide) ?_
            refine xi_ret ⟨_, rfl, rfl, dX8_nearest_133⟩ (Nat.zero_le _) (Nat.zero_le _) ?_
            exact xs_tkr hp (by rw [← ht]; unfold xs_sel3; rw [if_neg c_116, if_pos c_123]) hW hf0
        · refine xi_iload_n (q := 120) dX8_nearest_119 rfl rfl ?_
          refine xi_ret ⟨_, rfl, rfl, dX8_nearest_120⟩ (Nat.zero_le _) (Nat.zero_le _) ?_
          exact xs_tkr hp (by rw [← ht]; unfold xs_sel3; rw [if_pos c_116]) hW hf0
      · have hk : k < 6 := xn_nleN c_21 (by omega) (by omega)
        refine xi_aload_n (q := 25) dX8_nearest_24 rfl rfl ?_
        refine xi_iload (q := 27) dX8_nearest_25 rfl rfl ?_
        refine xv_cV1 (q := 30) xm_X8_engineAt ln_X8_142 dX8_nearest_27 ⟨by omega, hW.1.1⟩ rfl ⟨(Nat.le_of_ble_eq_true rfl), (Nat.le_of_ble_eq_true rfl)⟩ (Nat.le_of_ble_eq_true rfl) ⟨rfl, rfl⟩ rfl (Nat.zero_le _) (Nat.zero_le _) ?_
        refine ⟨σ, k, rfl, hW, by omega, hk, fun hE => ?_, fun hE => ?_⟩
        · skip
          refine xi_astore (q := 32) dX8_nearest_30 (Nat.le_of_ble_eq_true rfl) rfl ?_
          refine xi_bipush (x := (-6)) (q := 34) dX8_nearest_32 (by decide) rfl ?_
          refine xi_istore (q := 36) dX8_nearest_34 (Nat.le_of_ble_eq_true rfl) rfl ?_
          refine xv_weakS (lv' := [(0, .ref 0), (1, .int B), (2, .int w), (3, .int t.1), (4, .int t.2.1), (5, .int t.2.2), (6, .int (nI k)), (7, .ref (59 + 2 * k)), (8, .int (nI 0 - 6))]) ⟨rfl, rfl, rfl, rfl, rfl, rfl, rfl, rfl, rfl, trivial⟩ ?_
          have J36 : ∀ (e j : Nat) (hh : xv_H) (t : xs_3), j + e = 13 → xs_S hh σ → hh 6 = .inr (2, [.ref 7, .int c1, .int c2, .int c3]) ∧ hh 7 = .inl (.int, 48, .inl ci) → (∀ i, 83 ≤ i → hh i = h i) → t = xs_nin (xs_apt σ B ci k) (nI k) j (xs_nou σ (xs_apt σ B ci) k) → xv_V X mX8_nearest Post 0 0 36 [(0, .ref 0), (1, .int B), (2, .int w), (3, .int t.1), (4, .int t.2.1), (5, .int t.2.2), (6, .int (nI k)), (7, .ref (59 + 2 * k)), (8, .int (nI j - 6))] [] hh n := by
            intro e
            induction e using Nat.strongRecOn with
            | _ e ih2 =>
              intro j hh t hj hW hC hf0 ht
              refine xi_aload (q := 38) dX8_nearest_36 rfl rfl ?_
              refine xi_ifnull_r (q := 41) dX8_nearest_38 rfl ?_
              refine xi_iload (q := 43) dX8_nearest_41 rfl rfl ?_
              refine xi_bipush (x := 6) (q := 45) dX8_nearest_43 (by decide) rfl ?_
              refine xi_icmp_gt (q := 48) (q2 := 109) dX8_nearest_45 (by decide) rfl (fun c_45 => ?_) (fun c_45 => ?_)
              · have hj2 : j = 13 := by
                  rw [xn_lt, xn_s6i (by omega), show (6 : Int32).toInt = 6 from rfl] at c_45
                  omega
                refine xi_iinc (y := nI (k + 1)) (q := 112) dX8_nearest_109 rfl (xn_inc k) (Nat.le_of_ble_eq_true rfl) rfl ?_
                refine xi_goto (q := 17) dX8_nearest_112 (by decide) ?_
                refine xv_weakS (lv' := [(0, .ref 0), (1, .int B), (2, .int w), (3, .int t.1), (4, .int t.2.1), (5, .int t.2.2), (6, .int (nI (k + 1)))]) ⟨rfl, rfl, rfl, rfl, rfl, rfl, rfl, trivial⟩ ?_
                subst hj2
                exact ih (d - 1) (by omega) (k + 1) hh t (by omega) hW hC hf0 (by rw [ht]; exact (if_neg hE).symm)
              · have hj2 : j < 13 := by
                  rw [xn_lt, xn_s6i (by omega), show (6 : Int32).toInt = 6 from rfl] at c_45
                  omega
                obtain ⟨dn_, wk_, dk_, r1_, r2_, r3_, r4_, hP_⟩ := hW.2.2.2.2.2.2.2.2.1
                refine xi_aload_n (q := 49) dX8_nearest_48 rfl rfl ?_
                skip
                refine xi_getf (q := 52) dX8_nearest_49 fl_X8_47 ⟨by omega, hW.1.1⟩ rfl rfl ?_
                refine xi_aload (q := 54) dX8_nearest_52 rfl rfl ?_
                refine xi_iload (q := 56) dX8_nearest_54 rfl rfl ?_
                refine xi_iload_n (q := 57) dX8_nearest_56 rfl rfl ?_
                refine xi_iconst (x := 4) (q := 58) dX8_nearest_57 (by decide) rfl ?_
                refine xi_iconst (x := 0) (q := 59) dX8_nearest_58 (by decide) rfl ?_
                refine xv_cV5 (q := 62) xm_X5_draw ln_X8_210 dX8_nearest_59 ⟨by omega, hP_.1⟩ rfl ⟨(Nat.le_of_ble_eq_true rfl), (Nat.le_of_ble_eq_true rfl)⟩ (Nat.le_of_ble_eq_true rfl) ⟨rfl, rfl⟩ rfl (Nat.zero_le _) (Nat.zero_le _) ?_
                refine ⟨_, _, _, _, _, _, _, 59 + 2 * k, _, _, _, nI j - 6, B, 4, 0, rfl, by omega, (hW.2.2.1 k (by omega)).1, (hW.2.2.1 k (by omega)).2, hP_, by omega, by omega, (hV.2.2.2.1 k hk hE).1, Or.inl rfl, hB, by decide, fun h9 q1 q2 => ?_⟩
                have S9 := xs_St4 hW ⟨_, _, _, _, _, _, _, q1⟩ q2
                refine xi_aload_n (q := 63) dX8_nearest_62 rfl rfl ?_
                refine xi_getf (q := 66) dX8_nearest_63 fl_X8_33 ⟨by omega, S9.1.1⟩ rfl rfl ?_
                refine xi_aload_n (q := 67) dX8_nearest_66 rfl rfl ?_
                refine xi_getf (q := 70) dX8_nearest_67 fl_X8_47 ⟨by omega, S9.1.1⟩ rfl rfl ?_
                refine xi_getf (q := 73) dX8_nearest_70 fl_X8_214 ⟨by omega, q1.1⟩ rfl rfl ?_
                refine xv_cV1 (q := 76) xm_X2_apart ln_X8_357 dX8_nearest_73 ⟨by omega, (q2 6 (by omega)).trans hC.1⟩ rfl ⟨(Nat.le_of_ble_eq_true rfl), (Nat.le_of_ble_eq_true rfl)⟩ (Nat.le_of_ble_eq_true rfl) ⟨rfl, rfl⟩ rfl (Nat.zero_le _) (Nat.zero_le _) ?_
                refine ⟨6, _, _, _, ci, 21, _, rfl, by omega, (q2 6 (by omega)).trans hC.1, (q2 7 (by omega)).trans hC.2, by omega, q1.2.2.2.2, ?_⟩
                obtain ⟨V, hV0⟩ : ∃ V, V = xs_apt σ B ci k (nI j - 6) := ⟨_, rfl⟩
                rw [show xs_ps (xs_ap1 ci _) 48 = V from hV0.symm]
                refine xi_istore (q := 78) dX8_nearest_76 (Nat.le_of_ble_eq_true rfl) rfl ?_
                refine xi_iload_n (q := 79) dX8_nearest_78 rfl rfl ?_
                refine xi_ldcw (q := 82) dX8_nearest_79 kc_X8_293 rfl ?_
                refine xi_icmp_eq (q := 85) (q2 := 92) dX8_nearest_82 (by decide) rfl (fun c_82 => ?_) (fun c_82 => ?_)
                · refine xi_iload (q := 94) dX8_nearest_92 rfl rfl ?_
                  refine xi_istore_n (q := 95) dX8_nearest_94 (Nat.le_of_ble_eq_true rfl) rfl ?_
                  refine xi_iload (q := 97) dX8_nearest_95 rfl rfl ?_
                  refine xi_istore (q := 99) dX8_nearest_97 (Nat.le_of_ble_eq_true rfl) rfl ?_
                  refine xi_iload (q := 101) dX8_nearest_99 rfl rfl ?_
                  refine xi_istore (q := 103) dX8_nearest_101 (Nat.le_of_ble_eq_true rfl) rfl ?_
                  refine xi_iinc (q := 106) dX8_nearest_103 rfl rfl (Nat.le_of_ble_eq_true rfl) rfl ?_
                  rw [xn_s6]
                  refine xi_goto (q := 36) dX8_nearest_106 (by decide) ?_
                  refine xv_weakS (lv' := [(0, .ref 0), (1, .int B), (2, .int w), (3, .int (nI k, nI j - 6, V).1), (4, .int (nI k, nI j - 6, V).2.1), (5, .int (nI k, nI j - 6, V).2.2), (6, .int (nI k)), (7, .ref (59 + 2 * k)), (8, .int (nI (j + 1) - 6))]) ⟨rfl, rfl, rfl, rfl, rfl, rfl, rfl, rfl, rfl, trivial⟩ ?_
                  exact ih2 (e - 1) (by omega) (j + 1) h9 _ (by omega) S9 ⟨(q2 6 (by omega)).trans hC.1, (q2 7 (by omega)).trans hC.2⟩ (fun i hi => (q2 i (by omega)).trans (hf0 i hi)) (by
                    show _ = xs_nst (xs_apt σ B ci k (nI j - 6)) (nI k) (nI j - 6) (xs_nin (xs_apt σ B ci k) (nI k) j (xs_nou σ (xs_apt σ B ci) k))
                    rw [← ht, ← hV0]
                    unfold xs_nst
                    rw [if_pos (Or.inl c_82)])
                · refine xi_iload (q := 87) dX8_nearest_85 rfl rfl ?_
                  refine xi_iload (q := 89) dX8_nearest_87 rfl rfl ?_
                  refine xi_icmp_ge (q := 92) (q2 := 103) dX8_nearest_89 (by decide) rfl (fun c_89 => ?_) (fun c_89 => ?_)
                  · refine xi_iinc (q := 106) dX8_nearest_103 rfl rfl (Nat.le_of_ble_eq_true rfl) rfl ?_
                    rw [xn_s6]
                    refine xi_goto (q := 36) dX8_nearest_106 (by decide) ?_
                    refine xv_weakS (lv' := [(0, .ref 0), (1, .int B), (2, .int w), (3, .int t.1), (4, .int t.2.1), (5, .int t.2.2), (6, .int (nI k)), (7, .ref (59 + 2 * k)), (8, .int (nI (j + 1) - 6))]) ⟨rfl, rfl, rfl, rfl, rfl, rfl, rfl, rfl, rfl, trivial⟩ ?_
                    exact ih2 (e - 1) (by omega) (j + 1) h9 _ (by omega) S9 ⟨(q2 6 (by omega)).trans hC.1, (q2 7 (by omega)).trans hC.2⟩ (fun i hi => (q2 i (by omega)).trans (hf0 i hi)) (by
                      show _ = xs_nst (xs_apt σ B ci k (nI j - 6)) (nI k) (nI j - 6) (xs_nin (xs_apt σ B ci k) (nI k) j (xs_nou σ (xs_apt σ B ci) k))
                      rw [← ht, ← hV0]
                      unfold xs_nst
                      rw [if_neg (fun z => z.elim c_82 (fun y => by rw [xn_lt] at y; rw [xn_le] at c_89; omega))])
                  · refine xi_iload (q := 94) dX8_nearest_92 rfl rfl ?_
                    refine xi_istore_n (q := 95) dX8_nearest_94 (Nat.le_of_ble_eq_true rfl) rfl ?_
                    refine xi_iload (q := 97) dX8_nearest_95 rfl rfl ?_
                    refine xi_istore (q := 99) dX8_nearest_97 (Nat.le_of_ble_eq_true rfl) rfl ?_
                    refine xi_iload (q := 101) dX8_nearest_99 rfl rfl ?_
                    refine xi_istore (q := 103) dX8_nearest_101 (Nat.le_of_ble_eq_true rfl) rfl ?_
                    refine xi_iinc (q := 106) dX8_nearest_103 rfl rfl (Nat.le_of_ble_eq_true rfl) rfl ?_
                    rw [xn_s6]
                    refine xi_goto (q := 36) dX8_nearest_106 (by decide) ?_
                    refine xv_weakS (lv' := [(0, .ref 0), (1, .int B), (2, .int w), (3, .int (nI k, nI j - 6, V).1), (4, .int (nI k, nI j - 6, V).2.1), (5, .int (nI k, nI j - 6, V).2.2), (6, .int (nI k)), (7, .ref (59 + 2 * k)), (8, .int (nI (j + 1) - 6))]) ⟨rfl, rfl, rfl, rfl, rfl, rfl, rfl, rfl, rfl, trivial⟩ ?_
                    exact ih2 (e - 1) (by omega) (j + 1) h9 _ (by omega) S9 ⟨(q2 6 (by omega)).trans hC.1, (q2 7 (by omega)).trans hC.2⟩ (fun i hi => (q2 i (by omega)).trans (hf0 i hi)) (by
                      show _ = xs_nst (xs_apt σ B ci k (nI j - 6)) (nI k) (nI j - 6) (xs_nin (xs_apt σ B ci k) (nI k) j (xs_nou σ (xs_apt σ B ci) k))
                      rw [← ht, ← hV0]
                      unfold xs_nst
                      rw [if_pos (Or.inr (by rw [xn_lt]; rw [xn_le] at c_89; omega))])
          exact J36 13 0 hh t (by omega) hW hC hf0 ht
        · skip
          refine xi_astoreN (q := 32) dX8_nearest_30 (Nat.le_of_ble_eq_true rfl) rfl ?_
          refine xi_bipush (x := (-6)) (q := 34) dX8_nearest_32 (by decide) rfl ?_
          refine xi_istore (q := 36) dX8_nearest_34 (Nat.le_of_ble_eq_true rfl) rfl ?_
          refine xi_aloadN (q := 38) dX8_nearest_36 rfl rfl ?_
          refine xi_ifnull_n (q := 109) dX8_nearest_38 (by decide) ?_
          refine xi_iinc (y := nI (k + 1)) (q := 112) dX8_nearest_109 rfl (xn_inc k) (Nat.le_of_ble_eq_true rfl) rfl ?_
          refine xi_goto (q := 17) dX8_nearest_112 (by decide) ?_
          refine xv_weakS (lv' := [(0, .ref 0), (1, .int B), (2, .int w), (3, .int t.1), (4, .int t.2.1), (5, .int t.2.2), (6, .int (nI (k + 1)))]) ⟨rfl, rfl, rfl, rfl, rfl, rfl, rfl, trivial⟩ ?_
          exact ih (d - 1) (by omega) (k + 1) hh t (by omega) hW hC hf0 (by rw [ht]; exact (if_pos hE).symm)
  refine xi_ldcw (q := 3) dX8_nearest_0 kc_X8_293 rfl ?_
  refine xi_istore_n (q := 4) dX8_nearest_3 (Nat.le_of_ble_eq_true rfl) rfl ?_
  refine xi_ldcw (q := 7) dX8_nearest_4 kc_X8_293 rfl ?_
  refine xi_istore (q := 9) dX8_nearest_7 (Nat.le_of_ble_eq_true rfl) rfl ?_
  refine xi_ldcw (q := 12) dX8_nearest_9 kc_X8_293 rfl ?_
  refine xi_istore (q := 14) dX8_nearest_12 (Nat.le_of_ble_eq_true rfl) rfl ?_
  refine xi_iconst (x := 0) (q := 15) dX8_nearest_14 (by decide) rfl ?_
  refine xi_istore (q := 17) dX8_nearest_15 (Nat.le_of_ble_eq_true rfl) rfl ?_
  refine xv_weakS (lv' := [(0, .ref 0), (1, .int B), (2, .int w), (3, .int ((-1000000, -1000000, -1000000) : xs_3).1), (4, .int ((-1000000, -1000000, -1000000) : xs_3).2.1), (5, .int ((-1000000, -1000000, -1000000) : xs_3).2.2), (6, .int (nI 0))]) ⟨rfl, rfl, rfl, rfl, rfl, rfl, rfl, trivial⟩ ?_
  exact L17 6 0 h _ (by omega) hS hC (fun _ _ => rfl) rfl

