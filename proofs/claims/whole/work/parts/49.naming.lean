def xs_mis (f ci : Nat → Int32) (m bo s : Int32) : Int32 := xs_ps (xs_ap1 ci (fun k => xs_cd f s m (bo * 4 / 4) 0 k)) 48
def xs_bst (g : Nat → Int32) : Nat → Nat
  | 0 => 0
  | k + 1 => if g k < g (xs_bst g k) then k else xs_bst g k
def xs_db1 (g : Nat → Int32) (b l q : Int32) (k : Nat) : Int32 := if nI k = b then 0 else if g k ≤ l + q then 1 else 0
theorem xn_updl {g G : Nat → Int32} {k : Nat} {v : Int32} (hg : ∀ j, j < k → g j = G j) (e : v = G k) : ∀ j, j < k + 1 → upd g k v j = G j := fun j hj => by
  by_cases e0 : j = k
  · rw [e0, pk_us, e]
  · rw [pk_un e0]; exact hg j (by omega)
theorem xn_bstb (g : Nat → Int32) : ∀ k, 0 < k → xs_bst g k < k
  | k + 1, _ => by
    show (if g k < g (xs_bst g k) then k else xs_bst g k) < k + 1
    split
    · omega
    · by_cases h : k = 0
      · subst h; exact Nat.zero_lt_one
      · have := xn_bstb g k (by omega); omega

set_option maxRecDepth 20000 in
set_option maxHeartbeats 2000000 in
/-- misfitBy -/
theorem xm_X4_misfitBy : xv_K yX4_misfitBy mX4_misfitBy (fun as h n Post => ∃ (c0 : Nat) (kp : Int32) (nt : Int32) (bo : Int32) (ci : Nat → Int32) (e : Nat) (f : Nat → Int32) (s : Int32) (t : Int32) (s2 : Int32) (dn : Int64) (wk : Int32) (dk : Int32) (r1 : Nat → Int32) (r2 : Nat → Int32) (r3 : Nat → Int32) (r4 : Nat → Int32), as = [.ref 22, .ref c0, .ref e, .int s2, .ref 17] ∧ (e + 1 < n) ∧ (h e = .inr (0, [.ref (e + 1), .int s, .int t])) ∧ (h (e + 1) = .inl (.int, 11, .inl f)) ∧ (c0 + 1 < n) ∧ (h c0 = .inr (2, [.ref (c0 + 1), .int kp, .int nt, .int bo])) ∧ (h (c0 + 1) = .inl (.int, 48, .inl ci)) ∧ (xs_PC h dn wk dk r1 r2 r3 r4) ∧ (21 < n) ∧ (e + 1 < 17) ∧ ((c0 + 1 < 17 ∨ 21 < c0) ∧ c0 ≠ e ∧ c0 + 1 ≠ e) ∧ (xs_ok f) ∧ (0 ≤ bo.toInt ∧ bo.toInt ≤ 2000) ∧ (∀ (h' : xv_H) (dn' : Int64) (q1 q2 q3 q4 : Nat → Int32), xs_PC h' dn' wk dk q1 q2 q3 q4 → h' e = .inr (0, [.ref (e + 1), .int s2, .int t]) → (∀ i, i < 17 ∨ 21 < i → i ≠ e → h' i = h i) → Post (some (.int (xs_mis f ci nt bo s2))) h' n)) := by
  refine xv_entry (by decide +kernel) rfl (fun h => absurd h (by decide)) ?_
  rintro X _ h n Post ⟨c0, kp, nt, bo, ci, e, f, s, t, s2, dn, wk, dk, r1, r2, r3, r4, rfl, hn, hE, hNe, hc, hC, hN, hP, h21, he, hce, hok, hbo, hp⟩
  refine ⟨Nat.le_of_ble_eq_true rfl, ?_⟩
  show xv_V X mX4_misfitBy Post 0 0 0 [(0, .ref 22), (1, .ref c0), (2, .ref e), (3, .int s2), (4, .ref 17)] [] h n
  refine xi_aload_n (q := 1) dX4_misfitBy_0 rfl rfl ?_
  refine xi_iload_n (q := 2) dX4_misfitBy_1 rfl rfl ?_
  refine xi_putf (q := 5) dX4_misfitBy_2 fl_X4_15 ⟨by omega, hE⟩ (Or.inl rfl) (fun _ => rfl) (fun _ => rfl) (Nat.le_of_ble_eq_true rfl) rfl ?_
  refine xi_aload (q := 7) dX4_misfitBy_5 rfl rfl ?_
  refine xi_aload_n (q := 8) dX4_misfitBy_7 rfl rfl ?_
  refine xi_aload_n (q := 9) dX4_misfitBy_8 rfl rfl ?_
  refine xi_getf (q := 12) dX4_misfitBy_9 fl_X4_21 (xv_keep (by omega) ⟨by omega, hC⟩) rfl rfl ?_
  refine xi_aload_n (q := 13) dX4_misfitBy_12 rfl rfl ?_
  refine xi_getf (q := 16) dX4_misfitBy_13 fl_X4_26 (xv_keep (by omega) ⟨by omega, hC⟩) rfl rfl ?_
  refine xi_iconst (x := 4) (q := 17) dX4_misfitBy_16 (by decide) rfl ?_
  refine xi_iconst (x := 0) (q := 18) dX4_misfitBy_17 (by decide) rfl ?_
  refine xv_cV5 (q := 21) xm_X5_draw ln_X4_29 dX4_misfitBy_18 (xv_keep (by omega) ⟨by omega, hP.1⟩) rfl ⟨(Nat.le_of_ble_eq_true rfl), (Nat.le_of_ble_eq_true rfl)⟩ (Nat.le_of_ble_eq_true rfl) ⟨rfl, rfl⟩ rfl (Nat.zero_le _) (Nat.zero_le _) ?_
  refine ⟨dn, wk, dk, r1, r2, r3, r4, e, f, s2, t, _, _, _, _, rfl, hn, va_up_self _ _ _, (va_up_ne _ _ (by omega)).trans hNe, ⟨(va_up_ne _ _ (by omega)).trans hP.1, (va_up_ne _ _ (by omega)).trans hP.2.1, (va_up_ne _ _ (by omega)).trans hP.2.2.1, (va_up_ne _ _ (by omega)).trans hP.2.2.2.1, (va_up_ne _ _ (by omega)).trans hP.2.2.2.2⟩, h21, by omega, hok, Or.inl rfl, hbo, by decide, fun h2 q1 q2 => ?_⟩
  refine xi_aload_n (q := 22) dX4_misfitBy_21 rfl rfl ?_
  refine xi_aload (q := 24) dX4_misfitBy_22 rfl rfl ?_
  refine xi_getf (q := 27) dX4_misfitBy_24 fl_X4_35 ⟨by omega, q1.1⟩ rfl rfl ?_
  refine xv_cV1 (q := 30) xm_X2_apart ln_X4_38 dX4_misfitBy_27 ⟨by omega, (q2 c0 (by omega)).trans ((va_up_ne _ _ (by omega)).trans hC)⟩ rfl ⟨(Nat.le_of_ble_eq_true rfl), (Nat.le_of_ble_eq_true rfl)⟩ (Nat.le_of_ble_eq_true rfl) ⟨rfl, rfl⟩ rfl (Nat.zero_le _) (Nat.zero_le _) ?_
  refine ⟨c0, kp, nt, bo, ci, 21, _, rfl, hc, (q2 c0 (by omega)).trans ((va_up_ne _ _ (by omega)).trans hC), (q2 (c0 + 1) (by omega)).trans ((va_up_ne _ _ (by omega)).trans hN), by omega, q1.2.2.2.2, ?_⟩
  refine xi_ret ⟨_, rfl, rfl, dX4_misfitBy_30⟩ (Nat.zero_le _) (Nat.zero_le _) ?_
  exact hp h2 _ _ _ _ _ q1 ((q2 e (by omega)).trans (va_up_self _ _ _)) (fun i hi hie => (q2 i hi).trans (va_up_ne _ _ hie))

set_option maxRecDepth 20000 in
set_option maxHeartbeats 2000000 in
/-- seek -/
theorem xm_X4_seek : xv_K yX4_seek mX4_seek (fun as h n Post => ∃ (c0 : Nat) (kp : Int32) (nt : Int32) (bo : Int32) (ci : Nat → Int32) (e : Nat) (f : Nat → Int32) (s : Int32) (t : Int32) (dn : Int64) (wk : Int32) (dk : Int32) (r1 : Nat → Int32) (r2 : Nat → Int32) (r3 : Nat → Int32) (r4 : Nat → Int32) (g0 : Nat → Int32) (nb : Int32) (nl : Int32), as = [.ref 22, .ref c0, .ref e, .ref 17] ∧ (e + 1 < n) ∧ (h e = .inr (0, [.ref (e + 1), .int s, .int t])) ∧ (h (e + 1) = .inl (.int, 11, .inl f)) ∧ (c0 + 1 < n) ∧ (h c0 = .inr (2, [.ref (c0 + 1), .int kp, .int nt, .int bo])) ∧ (h (c0 + 1) = .inl (.int, 48, .inl ci)) ∧ (xs_PC h dn wk dk r1 r2 r3 r4) ∧ (21 < n) ∧ (e + 1 < 17) ∧ ((c0 + 1 < 17 ∨ 21 < c0) ∧ c0 ≠ e ∧ c0 + 1 ≠ e) ∧ (xs_ok f) ∧ (0 ≤ bo.toInt ∧ bo.toInt ≤ 2000) ∧ (h 22 = .inr (4, [.ref 23, .int nb, .int nl])) ∧ (h 23 = .inl (.int, 13, .inl g0)) ∧ (23 < n) ∧ (c0 + 1 < 22 ∨ 23 < c0) ∧ (∀ (h' : xv_H) (dn' : Int64) (q1 q2 q3 q4 : Nat → Int32) (s' : Int32), xs_PC h' dn' wk dk q1 q2 q3 q4 → h' e = .inr (0, [.ref (e + 1), .int s', .int t]) → h' 22 = .inr (4, [.ref 23, .int (nI (xs_bst (fun k => xs_mis f ci nt bo (nI k)) 13)), .int ((fun k => xs_mis f ci nt bo (nI k)) (xs_bst (fun k => xs_mis f ci nt bo (nI k)) 13))]) → h' 23 = .inl (.int, 13, .inl (fun k => xs_mis f ci nt bo (nI k))) → (∀ i, i < 17 ∨ 21 < i → i < 22 ∨ 23 < i → i ≠ e → h' i = h i) → Post none h' n)) := by
  refine xv_entry (by decide +kernel) rfl (fun h => absurd h (by decide)) ?_
  rintro X _ h n Post ⟨c0, kp, nt, bo, ci, e, f, s, t, dn, wk, dk, r1, r2, r3, r4, g0, nb, nl, rfl, hn, hE, hNe, hc, hC, hN, hP, h21, he, hce, hok, hbo, h22, h23, h23n, hc2, hp⟩
  refine ⟨Nat.le_of_ble_eq_true rfl, ?_⟩
  show xv_V X mX4_seek Post 0 0 0 [(0, .ref 22), (1, .ref c0), (2, .ref e), (3, .ref 17)] [] h n
  obtain ⟨G, hG⟩ : ∃ G : Nat → Int32, G = (fun k => xs_mis f ci nt bo (nI k)) := ⟨_, rfl⟩
  have L3 : ∀ (d k : Nat) (hh : xv_H) (dn : Int64) (r1 r2 r3 r4 : Nat → Int32) (sT : Int32) (g : Nat → Int32) (nb nl : Int32), k + d = 13 → xs_PC hh dn wk dk r1 r2 r3 r4 → hh e = .inr (0, [.ref (e + 1), .int sT, .int t]) → hh 22 = .inr (4, [.ref 23, .int nb, .int nl]) → hh 23 = .inl (.int, 13, .inl g) → (∀ j, j < k → g j = G j) → (∀ i, i < 17 ∨ 21 < i → i < 22 ∨ 23 < i → i ≠ e → hh i = h i) → (0 < k → nb = nI (xs_bst G k) ∧ nl = G (xs_bst G k)) → xv_V X mX4_seek Post 0 0 3 [(0, .ref 22), (1, .ref c0), (2, .ref e), (3, .ref 17), (4, .int (nI k))] [] hh n := by
    intro d
    induction d using Nat.strongRecOn with
    | _ d ih =>
      intro k hh dn r1 r2 r3 r4 sT g nb nl hk hQ hT h22 h23 hg hf0 hbl
      refine xi_iload (q := 5) dX4_seek_3 rfl rfl ?_
      refine xi_bipush (x := 13) (q := 7) dX4_seek_5 (by decide) rfl ?_
      refine xi_icmp_ge (q := 10) (q2 := 68) dX4_seek_7 (by decide) rfl (fun c_7 => ?_) (fun c_7 => ?_)
      · have hk2 : k = 13 := by have z : 13 ≤ k := xn_leN c_7 (by omega) (by omega); omega
        subst hk2
        have hb := hbl (by omega)
        refine xv_norm (h' := va_up hh 23 (.inl (.int, 13, .inl G))) (xv_nr h23 rfl (fun j hj => hg j hj)) ?_
        refine xi_vret ⟨rfl, dX4_seek_68⟩ (Nat.zero_le _) (Nat.zero_le _) ?_
        subst hG
        exact hp _ _ _ _ _ _ _ ⟨(va_up_ne _ _ (by omega)).trans hQ.1, (va_up_ne _ _ (by omega)).trans hQ.2.1, (va_up_ne _ _ (by omega)).trans hQ.2.2.1, (va_up_ne _ _ (by omega)).trans hQ.2.2.2.1, (va_up_ne _ _ (by omega)).trans hQ.2.2.2.2⟩ ((va_up_ne _ _ (by omega)).trans hT) (by rw [va_up_ne _ _ (by omega), h22, hb.1, hb.2]) (va_up_self _ _ _) (fun i i1 i2 i3 => (va_up_ne _ _ (by omega)).trans (hf0 i i1 i2 i3))
      · have hk2 : k < 13 := xn_nleN c_7 (by omega) (by omega)
        refine xi_aload_n (q := 11) dX4_seek_10 rfl rfl ?_
        refine xi_getf (q := 14) dX4_seek_11 fl_X4_9 ⟨by omega, h22⟩ rfl rfl ?_
        refine xi_iload (q := 16) dX4_seek_14 rfl rfl ?_
        refine xi_aload_n (q := 17) dX4_seek_16 rfl rfl ?_
        refine xi_aload_n (q := 18) dX4_seek_17 rfl rfl ?_
        refine xi_aload_n (q := 19) dX4_seek_18 rfl rfl ?_
        refine xi_iload (q := 21) dX4_seek_19 rfl rfl ?_
        refine xi_aload_n (q := 22) dX4_seek_21 rfl rfl ?_
        refine xv_cV4 (q := 25) xm_X4_misfitBy ln_X4_42 dX4_seek_22 ⟨by omega, h22⟩ rfl ⟨(Nat.le_of_ble_eq_true rfl), (Nat.le_of_ble_eq_true rfl)⟩ (Nat.le_of_ble_eq_true rfl) ⟨rfl, rfl⟩ rfl (Nat.zero_le _) (Nat.zero_le _) ?_
        refine ⟨c0, kp, nt, bo, ci, e, f, sT, t, nI k, dn, wk, dk, r1, r2, r3, r4, rfl, hn, hT, (hf0 (e + 1) (by omega) (by omega) (by omega)).trans hNe, hc, (hf0 c0 (by omega) (by omega) (by omega)).trans hC, (hf0 (c0 + 1) (by omega) (by omega) (by omega)).trans hN, hQ, h21, he, hce, hok, hbo, fun h2 dn2 a1 a2 a3 a4 q1 q2 q3 => ?_⟩
        rw [show xs_mis f ci nt bo (nI k) = G k by rw [hG]]
        refine xi_iast (q := 26) dX4_seek_25 ⟨by omega, (q3 23 (by omega) (by omega)).trans h23⟩ (xv_ixN hk2 (by omega)) rfl ?_
        refine xi_iload (q := 28) dX4_seek_26 rfl rfl ?_
        refine xi_if_eq (q := 31) (q2 := 45) dX4_seek_28 (by decide) rfl (fun c_28 => ?_) (fun c_28 => ?_)
        · refine xi_aload_n (q := 46) dX4_seek_45 rfl rfl ?_
          refine xi_iload (q := 48) dX4_seek_46 rfl rfl ?_
          refine xi_putf (q := 51) dX4_seek_48 fl_X4_49 (xv_keep (by omega) ⟨by omega, (q3 22 (by omega) (by omega)).trans h22⟩) (Or.inl rfl) (fun _ => rfl) (fun _ => rfl) (Nat.le_of_ble_eq_true rfl) rfl ?_
          refine xi_aload_n (q := 52) dX4_seek_51 rfl rfl ?_
          refine xi_aload_n (q := 53) dX4_seek_52 rfl rfl ?_
          refine xi_getf (q := 56) dX4_seek_53 fl_X4_9 (xv_self (by omega)) rfl rfl ?_
          refine xi_iload (q := 58) dX4_seek_56 rfl rfl ?_
          refine xi_iald (q := 59) dX4_seek_58 (xv_keep (by omega) (xv_self (by omega))) (xv_ixN hk2 (by omega)) rfl ?_
          refine xi_putf (q := 62) dX4_seek_59 fl_X4_46 (xv_self (by omega)) (Or.inl rfl) (fun _ => rfl) (fun _ => rfl) (Nat.le_of_ble_eq_true rfl) rfl ?_
          refine xi_iinc (y := nI (k + 1)) (q := 65) dX4_seek_62 rfl (xn_inc k) (Nat.le_of_ble_eq_true rfl) rfl ?_
          refine xi_goto (q := 3) dX4_seek_65 (by decide) ?_
          refine xv_weakS (lv' := [(0, .ref 22), (1, .ref c0), (2, .ref e), (3, .ref 17), (4, .int (nI (k + 1)))]) ⟨rfl, rfl, rfl, rfl, rfl, trivial⟩ ?_
          rw [bx_uu]
          exact ih (d - 1) (by omega) (k + 1) _ _ _ _ _ _ _ _ (nI k) _ (by omega) ⟨by rw [va_up_ne _ _ (by omega), va_up_ne _ _ (by omega)]; exact q1.1, by rw [va_up_ne _ _ (by omega), va_up_ne _ _ (by omega)]; exact q1.2.1, by rw [va_up_ne _ _ (by omega), va_up_ne _ _ (by omega)]; exact q1.2.2.1, by rw [va_up_ne _ _ (by omega), va_up_ne _ _ (by omega)]; exact q1.2.2.2.1, by rw [va_up_ne _ _ (by omega), va_up_ne _ _ (by omega)]; exact q1.2.2.2.2⟩ (by rw [va_up_ne _ _ (by omega), va_up_ne _ _ (by omega)]; exact q2) (va_up_self _ _ _) (by rw [va_up_ne _ _ (by omega)]; exact va_up_self _ _ _) (xn_updl hg rfl) (fun i i1 i2 i3 => by rw [va_up_ne _ _ (by omega), va_up_ne _ _ (by omega)]; exact (q3 i i1 i3).trans (hf0 i i1 i2 i3)) (fun _ => by
            have hk0 : k = 0 := by
              have z : nI k = nI 0 := c_28
              rw [nI_eq (by omega) (by omega)] at z
              exact z
            subst hk0
            have hz := xn_bstb G (0 + 1) (by omega)
            have hz0 : xs_bst G (0 + 1) = 0 := by omega
            rw [pk_us, hz0]
            exact ⟨rfl, rfl⟩)
        · refine xi_aload_n (q := 32) dX4_seek_31 rfl rfl ?_
          refine xi_getf (q := 35) dX4_seek_32 fl_X4_9 (xv_keep (by omega) ⟨by omega, (q3 22 (by omega) (by omega)).trans h22⟩) rfl rfl ?_
          refine xi_iload (q := 37) dX4_seek_35 rfl rfl ?_
          refine xi_iald (q := 38) dX4_seek_37 (xv_self (by omega)) (xv_ixN hk2 (by omega)) rfl ?_
          refine xi_aload_n (q := 39) dX4_seek_38 rfl rfl ?_
          refine xi_getf (q := 42) dX4_seek_39 fl_X4_46 (xv_keep (by omega) ⟨by omega, (q3 22 (by omega) (by omega)).trans h22⟩) rfl rfl ?_
          refine xi_icmp_ge (q := 45) (q2 := 62) dX4_seek_42 (by decide) rfl (fun c_42 => ?_) (fun c_42 => ?_)
          · refine xi_iinc (y := nI (k + 1)) (q := 65) dX4_seek_62 rfl (xn_inc k) (Nat.le_of_ble_eq_true rfl) rfl ?_
            refine xi_goto (q := 3) dX4_seek_65 (by decide) ?_
            refine xv_weakS (lv' := [(0, .ref 22), (1, .ref c0), (2, .ref e), (3, .ref 17), (4, .int (nI (k + 1)))]) ⟨rfl, rfl, rfl, rfl, rfl, trivial⟩ ?_
            exact ih (d - 1) (by omega) (k + 1) _ _ _ _ _ _ _ _ nb nl (by omega) ⟨(va_up_ne _ _ (by omega)).trans q1.1, (va_up_ne _ _ (by omega)).trans q1.2.1, (va_up_ne _ _ (by omega)).trans q1.2.2.1, (va_up_ne _ _ (by omega)).trans q1.2.2.2.1, (va_up_ne _ _ (by omega)).trans q1.2.2.2.2⟩ ((va_up_ne _ _ (by omega)).trans q2) ((va_up_ne _ _ (by omega)).trans ((q3 22 (by omega) (by omega)).trans h22)) (va_up_self _ _ _) (xn_updl hg rfl) (fun i i1 i2 i3 => (va_up_ne _ _ (by omega)).trans ((q3 i i1 i3).trans (hf0 i i1 i2 i3))) (fun _ => by
              have hk0 : 0 < k := by
                rcases Nat.eq_zero_or_pos k with z | z
                · exact absurd (show nI k = 0 by rw [z]; rfl) c_28
                · exact z
              have := hbl hk0
              have hlt := xn_bstb G k hk0
              show nb = nI (if G k < G (xs_bst G k) then k else xs_bst G k) ∧ nl = G (if G k < G (xs_bst G k) then k else xs_bst G k)
              rw [pk_us] at c_42
              have c2 : ¬ G k < G (xs_bst G k) := fun z => by rw [xn_lt] at z; rw [this.2, xn_le] at c_42; omega
              rw [if_neg c2]
              exact this)
          · refine xi_aload_n (q := 46) dX4_seek_45 rfl rfl ?_
            refine xi_iload (q := 48) dX4_seek_46 rfl rfl ?_
            refine xi_putf (q := 51) dX4_seek_48 fl_X4_49 (xv_keep (by omega) ⟨by omega, (q3 22 (by omega) (by omega)).trans h22⟩) (Or.inl rfl) (fun _ => rfl) (fun _ => rfl) (Nat.le_of_ble_eq_true rfl) rfl ?_
            refine xi_aload_n (q := 52) dX4_seek_51 rfl rfl ?_
            refine xi_aload_n (q := 53) dX4_seek_52 rfl rfl ?_
            refine xi_getf (q := 56) dX4_seek_53 fl_X4_9 (xv_self (by omega)) rfl rfl ?_
            refine xi_iload (q := 58) dX4_seek_56 rfl rfl ?_
            refine xi_iald (q := 59) dX4_seek_58 (xv_keep (by omega) (xv_self (by omega))) (xv_ixN hk2 (by omega)) rfl ?_
            refine xi_putf (q := 62) dX4_seek_59 fl_X4_46 (xv_self (by omega)) (Or.inl rfl) (fun _ => rfl) (fun _ => rfl) (Nat.le_of_ble_eq_true rfl) rfl ?_
            refine xi_iinc (y := nI (k + 1)) (q := 65) dX4_seek_62 rfl (xn_inc k) (Nat.le_of_ble_eq_true rfl) rfl ?_
            refine xi_goto (q := 3) dX4_seek_65 (by decide) ?_
            refine xv_weakS (lv' := [(0, .ref 22), (1, .ref c0), (2, .ref e), (3, .ref 17), (4, .int (nI (k + 1)))]) ⟨rfl, rfl, rfl, rfl, rfl, trivial⟩ ?_
            rw [bx_uu]
            exact ih (d - 1) (by omega) (k + 1) _ _ _ _ _ _ _ _ (nI k) _ (by omega) ⟨by rw [va_up_ne _ _ (by omega), va_up_ne _ _ (by omega)]; exact q1.1, by rw [va_up_ne _ _ (by omega), va_up_ne _ _ (by omega)]; exact q1.2.1, by rw [va_up_ne _ _ (by omega), va_up_ne _ _ (by omega)]; exact q1.2.2.1, by rw [va_up_ne _ _ (by omega), va_up_ne _ _ (by omega)]; exact q1.2.2.2.1, by rw [va_up_ne _ _ (by omega), va_up_ne _ _ (by omega)]; exact q1.2.2.2.2⟩ (by rw [va_up_ne _ _ (by omega), va_up_ne _ _ (by omega)]; exact q2) (va_up_self _ _ _) (by rw [va_up_ne _ _ (by omega)]; exact va_up_self _ _ _) (xn_updl hg rfl) (fun i i1 i2 i3 => by rw [va_up_ne _ _ (by omega), va_up_ne _ _ (by omega)]; exact (q3 i i1 i3).trans (hf0 i i1 i2 i3)) (fun _ => by
              have hk0 : 0 < k := by
                rcases Nat.eq_zero_or_pos k with z | z
                · exact absurd (show nI k = 0 by rw [z]; rfl) c_28
                · exact z
              have := hbl hk0
              rw [pk_us] at c_42
              have c2 : G k < G (xs_bst G k) := by rw [xn_lt]; rw [this.2, xn_le] at c_42; omega
              show nI k = nI (if G k < G (xs_bst G k) then k else xs_bst G k) ∧ _ = G (if G k < G (xs_bst G k) then k else xs_bst G k)
              rw [if_pos c2, pk_us]
              exact ⟨rfl, rfl⟩)
  refine xi_iconst (x := 0) (q := 1) dX4_seek_0 (by decide) rfl ?_
  refine xi_istore (q := 3) dX4_seek_1 (Nat.le_of_ble_eq_true rfl) rfl ?_
  refine xv_weakS (lv' := [(0, .ref 22), (1, .ref c0), (2, .ref e), (3, .ref 17), (4, .int (nI 0))]) ⟨rfl, rfl, rfl, rfl, rfl, trivial⟩ ?_
  exact L3 13 0 h dn r1 r2 r3 r4 s g0 nb nl (by omega) hP hE h22 h23 (fun j hj => absurd hj (Nat.not_lt_zero j)) (fun _ _ _ _ => rfl) (fun z => absurd z (by omega))

set_option maxRecDepth 20000 in
set_option maxHeartbeats 2000000 in
/-- doubt -/
theorem xm_X4_doubt : xv_K yX4_doubt mX4_doubt (fun as h n Post => ∃ (q : Int32) (nb : Int32) (nl : Int32) (g : Nat → Int32), as = [.ref 22, .int q] ∧ (h 22 = .inr (4, [.ref 23, .int nb, .int nl])) ∧ (h 23 = .inl (.int, 13, .inl g)) ∧ (23 < n) ∧ Post (some (.int (xs_ps (xs_db1 g nb nl q) 13))) h n) := by
  refine xv_entry (by decide +kernel) rfl (fun h => absurd h (by decide)) ?_
  rintro X _ h n Post ⟨q, nb, nl, g, rfl, h22, h23, h23n, hp⟩
  refine ⟨Nat.le_of_ble_eq_true rfl, ?_⟩
  show xv_V X mX4_doubt Post 0 0 0 [(0, .ref 22), (1, .int q)] [] h n
  have L4 : ∀ (d k : Nat), k + d = 13 → xv_V X mX4_doubt Post 0 0 4 [(0, .ref 22), (1, .int q), (2, .int (xs_ps (xs_db1 g nb nl q) k)), (3, .int (nI k))] [] h n := by
    intro d
    induction d using Nat.strongRecOn with
    | _ d ih =>
      intro k hk
      refine xi_iload_n (q := 5) dX4_doubt_4 rfl rfl ?_
      refine xi_bipush (x := 13) (q := 7) dX4_doubt_5 (by decide) rfl ?_
      refine xi_icmp_ge (q := 10) (q2 := 42) dX4_doubt_7 (by decide) rfl (fun c_7 => ?_) (fun c_7 => ?_)
      · have hk2 : k = 13 := by have z : 13 ≤ k := xn_leN c_7 (by omega) (by omega); omega
        subst hk2
        refine xi_iload_n (q := 43) dX4_doubt_42 rfl rfl ?_
        refine xi_ret ⟨_, rfl, rfl, dX4_doubt_43⟩ (Nat.zero_le _) (Nat.zero_le _) ?_
        exact hp
      · have hk2 : k < 13 := xn_nleN c_7 (by omega) (by omega)
        refine xi_iload_n (q := 11) dX4_doubt_10 rfl rfl ?_
        refine xi_aload_n (q := 12) dX4_doubt_11 rfl rfl ?_
        refine xi_getf (q := 15) dX4_doubt_12 fl_X4_49 ⟨by omega, h22⟩ rfl rfl ?_
        refine xi_icmp_eq (q := 18) (q2 := 36) dX4_doubt_15 (by decide) rfl (fun c_15 => ?_) (fun c_15 => ?_)
        · refine xi_iinc (y := nI (k + 1)) (q := 39) dX4_doubt_36 rfl (xn_inc k) (Nat.le_of_ble_eq_true rfl) rfl ?_
          refine xi_goto (q := 4) dX4_doubt_39 (by decide) ?_
          have e2 : xs_ps (xs_db1 g nb nl q) (k + 1) = xs_ps (xs_db1 g nb nl q) k := by show _ + xs_db1 g nb nl q k = _; unfold xs_db1; rw [if_pos c_15, Int32.add_zero]
          refine xv_weakS (lv' := [(0, .ref 22), (1, .int q), (2, .int (xs_ps (xs_db1 g nb nl q) k)), (3, .int (nI (k + 1)))]) ⟨rfl, rfl, rfl, rfl, trivial⟩ ?_
          rw [← e2]
          exact ih (d - 1) (by omega) (k + 1) (by omega)
        · refine xi_aload_n (q := 19) dX4_doubt_18 rfl rfl ?_
          refine xi_getf (q := 22) dX4_doubt_19 fl_X4_9 ⟨by omega, h22⟩ rfl rfl ?_
          refine xi_iload_n (q := 23) dX4_doubt_22 rfl rfl ?_
          refine xi_iald (q := 24) dX4_doubt_23 ⟨by omega, h23⟩ (xv_ixN hk2 (by omega)) rfl ?_
          refine xi_aload_n (q := 25) dX4_doubt_24 rfl rfl ?_
          refine xi_getf (q := 28) dX4_doubt_25 fl_X4_46 ⟨by omega, h22⟩ rfl rfl ?_
          refine xi_iload_n (q := 29) dX4_doubt_28 rfl rfl ?_
          refine xi_iadd (q := 30) dX4_doubt_29 rfl ?_
          refine xi_icmp_gt (q := 33) (q2 := 36) dX4_doubt_30 (by decide) rfl (fun c_30 => ?_) (fun c_30 => ?_)
          · refine xi_iinc (y := nI (k + 1)) (q := 39) dX4_doubt_36 rfl (xn_inc k) (Nat.le_of_ble_eq_true rfl) rfl ?_
            refine xi_goto (q := 4) dX4_doubt_39 (by decide) ?_
            have e2 : xs_ps (xs_db1 g nb nl q) (k + 1) = xs_ps (xs_db1 g nb nl q) k := by show _ + xs_db1 g nb nl q k = _; unfold xs_db1; rw [if_neg c_15, if_neg (fun z => by rw [xn_le] at z; rw [xn_lt] at c_30; omega), Int32.add_zero]
            refine xv_weakS (lv' := [(0, .ref 22), (1, .int q), (2, .int (xs_ps (xs_db1 g nb nl q) k)), (3, .int (nI (k + 1)))]) ⟨rfl, rfl, rfl, rfl, trivial⟩ ?_
            rw [← e2]
            exact ih (d - 1) (by omega) (k + 1) (by omega)
          · refine xi_iinc (q := 36) dX4_doubt_33 rfl rfl (Nat.le_of_ble_eq_true rfl) rfl ?_
            refine xi_iinc (y := nI (k + 1)) (q := 39) dX4_doubt_36 rfl (xn_inc k) (Nat.le_of_ble_eq_true rfl) rfl ?_
            refine xi_goto (q := 4) dX4_doubt_39 (by decide) ?_
            have e2 : xs_ps (xs_db1 g nb nl q) (k + 1) = xs_ps (xs_db1 g nb nl q) k + 1 := by show _ + xs_db1 g nb nl q k = _; unfold xs_db1; rw [if_neg c_15, if_pos (by rw [xn_le]; rw [xn_lt] at c_30; omega)]
            refine xv_weakS (lv' := [(0, .ref 22), (1, .int q), (2, .int (xs_ps (xs_db1 g nb nl q) k + 1)), (3, .int (nI (k + 1)))]) ⟨rfl, rfl, rfl, rfl, trivial⟩ ?_
            rw [← e2]
            exact ih (d - 1) (by omega) (k + 1) (by omega)
  refine xi_iconst (x := 0) (q := 1) dX4_doubt_0 (by decide) rfl ?_
  refine xi_istore_n (q := 2) dX4_doubt_1 (Nat.le_of_ble_eq_true rfl) rfl ?_
  refine xi_iconst (x := 0) (q := 3) dX4_doubt_2 (by decide) rfl ?_
  refine xi_istore_n (q := 4) dX4_doubt_3 (Nat.le_of_ble_eq_true rfl) rfl ?_
  refine xv_weakS (lv' := [(0, .ref 22), (1, .int q), (2, .int (xs_ps (xs_db1 g nb nl q) 0)), (3, .int (nI 0))]) ⟨rfl, rfl, rfl, rfl, trivial⟩ ?_
  exact L4 13 0 (by omega)

def xs_min (x y : Int32) : Int32 := if y < x then y else x
def xs_max (x y : Int32) : Int32 := if x < y then y else x

set_option maxRecDepth 20000 in
set_option maxHeartbeats 2000000 in
/-- burn -/
theorem xm_X1_burn : xv_K yX1_burn mX1_burn (fun as h n Post => ∃ (ga : Int32) (hp0 : Int32) (bu : Int32) (dr : Int32) (bl : Int32) (mi : Int32), as = [.ref 41] ∧ (h 41 = .inr (1, [.int ga, .int hp0, .int bu, .int dr, .int bl, .int mi])) ∧ (41 < n) ∧ (∀ h' : xv_H, h' 41 = .inr (1, [.int (ga + 5 * xs_min hp0 20), .int (hp0 - xs_min hp0 20), .int (bu + xs_min hp0 20), .int dr, .int bl, .int (mi + 1)]) → (∀ i, i ≠ 41 → h' i = h i) → Post none h' n)) := by
  refine xv_entry (by decide +kernel) rfl (fun h => absurd h (by decide)) ?_
  rintro X _ h n Post ⟨ga, hp0, bu, dr, bl, mi, rfl, hF, h41, hp⟩
  refine ⟨Nat.le_of_ble_eq_true rfl, ?_⟩
  show xv_V X mX1_burn Post 0 0 0 [(0, .ref 41)] [] h n
  refine xi_aload_n (q := 1) dX1_burn_0 rfl rfl ?_
  refine xi_getf (q := 4) dX1_burn_1 fl_X1_7 ⟨by omega, hF⟩ rfl rfl ?_
  refine xi_bipush (x := 20) (q := 6) dX1_burn_4 (by decide) rfl ?_
  refine xi_mmin (q := 9) dX1_burn_6 ln_X1_13 (Nat.le_of_ble_eq_true rfl) (Nat.le_of_ble_eq_true rfl) (Nat.zero_le _) (Nat.zero_le _) rfl ?_
  refine xi_istore_n (q := 10) dX1_burn_9 (Nat.le_of_ble_eq_true rfl) rfl ?_
  refine xi_aload_n (q := 11) dX1_burn_10 rfl rfl ?_
  refine xi_dup (q := 12) dX1_burn_11 rfl rfl ?_
  refine xi_getf (q := 15) dX1_burn_12 fl_X1_7 ⟨by omega, hF⟩ rfl rfl ?_
  refine xi_iload_n (q := 16) dX1_burn_15 rfl rfl ?_
  refine xi_isub (q := 17) dX1_burn_16 rfl ?_
  refine xi_putf (q := 20) dX1_burn_17 fl_X1_7 ⟨by omega, hF⟩ (Or.inl rfl) (fun _ => rfl) (fun _ => rfl) (Nat.le_of_ble_eq_true rfl) rfl ?_
  refine xi_aload_n (q := 21) dX1_burn_20 rfl rfl ?_
  refine xi_dup (q := 22) dX1_burn_21 rfl rfl ?_
  refine xi_getf (q := 25) dX1_burn_22 fl_X1_19 (xv_self (by omega)) rfl rfl ?_
  refine xi_iload_n (q := 26) dX1_burn_25 rfl rfl ?_
  refine xi_iadd (q := 27) dX1_burn_26 rfl ?_
  refine xi_putf (q := 30) dX1_burn_27 fl_X1_19 (xv_self (by omega)) (Or.inl rfl) (fun _ => rfl) (fun _ => rfl) (Nat.le_of_ble_eq_true rfl) rfl ?_
  refine xi_aload_n (q := 31) dX1_burn_30 rfl rfl ?_
  refine xi_dup (q := 32) dX1_burn_31 rfl rfl ?_
  refine xi_getf (q := 35) dX1_burn_32 fl_X1_22 (xv_self (by omega)) rfl rfl ?_
  refine xi_iconst (x := 5) (q := 36) dX1_burn_35 (by decide) rfl ?_
  refine xi_iload_n (q := 37) dX1_burn_36 rfl rfl ?_
  refine xi_imul (q := 38) dX1_burn_37 rfl ?_
  refine xi_iadd (q := 39) dX1_burn_38 rfl ?_
  refine xi_putf (q := 42) dX1_burn_39 fl_X1_22 (xv_self (by omega)) (Or.inl rfl) (fun _ => rfl) (fun _ => rfl) (Nat.le_of_ble_eq_true rfl) rfl ?_
  refine xi_aload_n (q := 43) dX1_burn_42 rfl rfl ?_
  refine xi_dup (q := 44) dX1_burn_43 rfl rfl ?_
  refine xi_getf (q := 47) dX1_burn_44 fl_X1_25 (xv_self (by omega)) rfl rfl ?_
  refine xi_iconst (x := 1) (q := 48) dX1_burn_47 (by decide) rfl ?_
  refine xi_iadd (q := 49) dX1_burn_48 rfl ?_
  refine xi_putf (q := 52) dX1_burn_49 fl_X1_25 (xv_self (by omega)) (Or.inl rfl) (fun _ => rfl) (fun _ => rfl) (Nat.le_of_ble_eq_true rfl) rfl ?_
  refine xi_vret ⟨rfl, dX1_burn_52⟩ (Nat.zero_le _) (Nat.zero_le _) ?_
  refine hp _ ?_ (fun i hi => ?_)
  · rw [bx_uu, bx_uu, bx_uu]; rw [va_up_self]; rfl
  · rw [bx_uu, bx_uu, bx_uu]; exact va_up_ne _ _ hi

set_option maxRecDepth 20000 in
set_option maxHeartbeats 2000000 in
/-- give -/
theorem xm_X1_give : xv_K yX1_give mX1_give (fun as h n Post => ∃ (ga : Int32) (hp0 : Int32) (bu : Int32) (dr : Int32) (bl : Int32) (mi : Int32) (w : Int32), as = [.ref 41, .int w] ∧ (h 41 = .inr (1, [.int ga, .int hp0, .int bu, .int dr, .int bl, .int mi])) ∧ (41 < n) ∧ (∀ h' : xv_H, h' 41 = .inr (1, [.int (ga - xs_min ga w), .int hp0, .int bu, .int (dr + xs_min ga w), .int bl, .int mi]) → (∀ i, i ≠ 41 → h' i = h i) → Post none h' n)) := by
  refine xv_entry (by decide +kernel) rfl (fun h => absurd h (by decide)) ?_
  rintro X _ h n Post ⟨ga, hp0, bu, dr, bl, mi, w, rfl, hF, h41, hp⟩
  refine ⟨Nat.le_of_ble_eq_true rfl, ?_⟩
  show xv_V X mX1_give Post 0 0 0 [(0, .ref 41), (1, .int w)] [] h n
  refine xi_aload_n (q := 1) dX1_give_0 rfl rfl ?_
  refine xi_getf (q := 4) dX1_give_1 fl_X1_22 ⟨by omega, hF⟩ rfl rfl ?_
  refine xi_iload_n (q := 5) dX1_give_4 rfl rfl ?_
  refine xi_mmin (q := 8) dX1_give_5 ln_X1_13 (Nat.le_of_ble_eq_true rfl) (Nat.le_of_ble_eq_true rfl) (Nat.zero_le _) (Nat.zero_le _) rfl ?_
  refine xi_istore_n (q := 9) dX1_give_8 (Nat.le_of_ble_eq_true rfl) rfl ?_
  refine xi_aload_n (q := 10) dX1_give_9 rfl rfl ?_
  refine xi_dup (q := 11) dX1_give_10 rfl rfl ?_
  refine xi_getf (q := 14) dX1_give_11 fl_X1_22 ⟨by omega, hF⟩ rfl rfl ?_
  refine xi_iload_n (q := 15) dX1_give_14 rfl rfl ?_
  refine xi_isub (q := 16) dX1_give_15 rfl ?_
  refine xi_putf (q := 19) dX1_give_16 fl_X1_22 ⟨by omega, hF⟩ (Or.inl rfl) (fun _ => rfl) (fun _ => rfl) (Nat.le_of_ble_eq_true rfl) rfl ?_
  refine xi_aload_n (q := 20) dX1_give_19 rfl rfl ?_
  refine xi_dup (q := 21) dX1_give_20 rfl rfl ?_
  refine xi_getf (q := 24) dX1_give_21 fl_X1_28 (xv_self (by omega)) rfl rfl ?_
  refine xi_iload_n (q := 25) dX1_give_24 rfl rfl ?_
  refine xi_iadd (q := 26) dX1_give_25 rfl ?_
  refine xi_putf (q := 29) dX1_give_26 fl_X1_28 (xv_self (by omega)) (Or.inl rfl) (fun _ => rfl) (fun _ => rfl) (Nat.le_of_ble_eq_true rfl) rfl ?_
  refine xi_vret ⟨rfl, dX1_give_29⟩ (Nat.zero_le _) (Nat.zero_le _) ?_
  refine hp _ ?_ (fun i hi => ?_)
  · rw [bx_uu]; rw [va_up_self]; rfl
  · rw [bx_uu]; exact va_up_ne _ _ hi

set_option maxRecDepth 20000 in
set_option maxHeartbeats 2000000 in
/-- blow -/
theorem xm_X1_blow : xv_K yX1_blow mX1_blow (fun as h n Post => ∃ (ga : Int32) (hp0 : Int32) (bu : Int32) (dr : Int32) (bl : Int32) (mi : Int32), as = [.ref 41] ∧ (h 41 = .inr (1, [.int ga, .int hp0, .int bu, .int dr, .int bl, .int mi])) ∧ (41 < n) ∧ (∀ h' : xv_H, h' 41 = .inr (1, [.int (ga - xs_max 0 (ga - 1500)), .int hp0, .int bu, .int dr, .int (bl + xs_max 0 (ga - 1500)), .int mi]) → (∀ i, i ≠ 41 → h' i = h i) → Post none h' n)) := by
  refine xv_entry (by decide +kernel) rfl (fun h => absurd h (by decide)) ?_
  rintro X _ h n Post ⟨ga, hp0, bu, dr, bl, mi, rfl, hF, h41, hp⟩
  refine ⟨Nat.le_of_ble_eq_true rfl, ?_⟩
  show xv_V X mX1_blow Post 0 0 0 [(0, .ref 41)] [] h n
  refine xi_iconst (x := 0) (q := 1) dX1_blow_0 (by decide) rfl ?_
  refine xi_aload_n (q := 2) dX1_blow_1 rfl rfl ?_
  refine xi_getf (q := 5) dX1_blow_2 fl_X1_22 ⟨by omega, hF⟩ rfl rfl ?_
  refine xi_sipush (x := 1500) (q := 8) dX1_blow_5 (by decide) rfl ?_
  refine xi_isub (q := 9) dX1_blow_8 rfl ?_
  refine xi_mmax (q := 12) dX1_blow_9 ln_X1_31 (Nat.le_of_ble_eq_true rfl) (Nat.le_of_ble_eq_true rfl) (Nat.zero_le _) (Nat.zero_le _) rfl ?_
  refine xi_istore_n (q := 13) dX1_blow_12 (Nat.le_of_ble_eq_true rfl) rfl ?_
  refine xi_aload_n (q := 14) dX1_blow_13 rfl rfl ?_
  refine xi_dup (q := 15) dX1_blow_14 rfl rfl ?_
  refine xi_getf (q := 18) dX1_blow_15 fl_X1_22 ⟨by omega, hF⟩ rfl rfl ?_
  refine xi_iload_n (q := 19) dX1_blow_18 rfl rfl ?_
  refine xi_isub (q := 20) dX1_blow_19 rfl ?_
  refine xi_putf (q := 23) dX1_blow_20 fl_X1_22 ⟨by omega, hF⟩ (Or.inl rfl) (fun _ => rfl) (fun _ => rfl) (Nat.le_of_ble_eq_true rfl) rfl ?_
  refine xi_aload_n (q := 24) dX1_blow_23 rfl rfl ?_
  refine xi_dup (q := 25) dX1_blow_24 rfl rfl ?_
  refine xi_getf (q := 28) dX1_blow_25 fl_X1_34 (xv_self (by omega)) rfl rfl ?_
  refine xi_iload_n (q := 29) dX1_blow_28 rfl rfl ?_
  refine xi_iadd (q := 30) dX1_blow_29 rfl ?_
  refine xi_putf (q := 33) dX1_blow_30 fl_X1_34 (xv_self (by omega)) (Or.inl rfl) (fun _ => rfl) (fun _ => rfl) (Nat.le_of_ble_eq_true rfl) rfl ?_
  refine xi_vret ⟨rfl, dX1_blow_33⟩ (Nat.zero_le _) (Nat.zero_le _) ?_
  refine hp _ ?_ (fun i hi => ?_)
  · rw [bx_uu]; rw [va_up_self]; rfl
  · rw [bx_uu]; exact va_up_ne _ _ hi

set_option maxRecDepth 20000 in
set_option maxHeartbeats 2000000 in
/-- told -/
theorem xm_X1_told : xv_K yX1_told mX1_told (fun as h n Post => ∃ (ga : Int32) (hp0 : Int32) (bu : Int32) (dr : Int32) (bl : Int32) (mi : Int32) (w : Int32), as = [.ref 41, .int w] ∧ (h 41 = .inr (1, [.int ga, .int hp0, .int bu, .int dr, .int bl, .int mi])) ∧ (41 < n) ∧ (w = 0 ∨ w = 1 ∨ w = 2 ∨ w = 3 ∨ w = 4 ∨ w = 5) ∧ Post (some (.int (if w = 0 then ga else if w = 1 then hp0 else if w = 2 then bu else if w = 3 then dr else if w = 4 then bl else mi))) h n) := by
  refine xv_entry (by decide +kernel) rfl (fun h => absurd h (by decide)) ?_
  rintro X _ h n Post ⟨ga, hp0, bu, dr, bl, mi, w, rfl, hF, h41, hw, hp⟩
  refine ⟨Nat.le_of_ble_eq_true rfl, ?_⟩
  show xv_V X mX1_told Post 0 0 0 [(0, .ref 41), (1, .int w)] [] h n
  rcases hw with rfl | rfl | rfl | rfl | rfl | rfl
  · refine xi_iload_n (q := 1) dX1_told_0 rfl rfl ?_
    refine xi_tableIn (q := 36) dX1_told_1 (by decide) (by decide) rfl (by decide) ?_
    refine xi_aload_n (q := 37) dX1_told_36 rfl rfl ?_
    refine xi_getf (q := 40) dX1_told_37 fl_X1_22 ⟨by omega, hF⟩ rfl rfl ?_
    refine xi_ret ⟨_, rfl, rfl, dX1_told_40⟩ (Nat.zero_le _) (Nat.zero_le _) ?_
    exact hp
  · refine xi_iload_n (q := 1) dX1_told_0 rfl rfl ?_
    refine xi_tableIn (q := 41) dX1_told_1 (by decide) (by decide) rfl (by decide) ?_
    refine xi_aload_n (q := 42) dX1_told_41 rfl rfl ?_
    refine xi_getf (q := 45) dX1_told_42 fl_X1_7 ⟨by omega, hF⟩ rfl rfl ?_
    refine xi_ret ⟨_, rfl, rfl, dX1_told_45⟩ (Nat.zero_le _) (Nat.zero_le _) ?_
    exact hp
  · refine xi_iload_n (q := 1) dX1_told_0 rfl rfl ?_
    refine xi_tableIn (q := 46) dX1_told_1 (by decide) (by decide) rfl (by decide) ?_
    refine xi_aload_n (q := 47) dX1_told_46 rfl rfl ?_
    refine xi_getf (q := 50) dX1_told_47 fl_X1_19 ⟨by omega, hF⟩ rfl rfl ?_
    refine xi_ret ⟨_, rfl, rfl, dX1_told_50⟩ (Nat.zero_le _) (Nat.zero_le _) ?_
    exact hp
  · refine xi_iload_n (q := 1) dX1_told_0 rfl rfl ?_
    refine xi_tableIn (q := 51) dX1_told_1 (by decide) (by decide) rfl (by decide) ?_
    refine xi_aload_n (q := 52) dX1_told_51 rfl rfl ?_
    refine xi_getf (q := 55) dX1_told_52 fl_X1_28 ⟨by omega, hF⟩ rfl rfl ?_
    refine xi_ret ⟨_, rfl, rfl, dX1_told_55⟩ (Nat.zero_le _) (Nat.zero_le _) ?_
    exact hp
  · refine xi_iload_n (q := 1) dX1_told_0 rfl rfl ?_
    refine xi_tableIn (q := 56) dX1_told_1 (by decide) (by decide) rfl (by decide) ?_
    refine xi_aload_n (q := 57) dX1_told_56 rfl rfl ?_
    refine xi_getf (q := 60) dX1_told_57 fl_X1_34 ⟨by omega, hF⟩ rfl rfl ?_
    refine xi_ret ⟨_, rfl, rfl, dX1_told_60⟩ (Nat.zero_le _) (Nat.zero_le _) ?_
    exact hp
  · refine xi_iload_n (q := 1) dX1_told_0 rfl rfl ?_
    refine xi_tableOut (q := 61) dX1_told_1 (by decide) (by decide) ?_
    refine xi_aload_n (q := 62) dX1_told_61 rfl rfl ?_
    refine xi_getf (q := 65) dX1_told_62 fl_X1_25 ⟨by omega, hF⟩ rfl rfl ?_
    refine xi_ret ⟨_, rfl, rfl, dX1_told_65⟩ (Nat.zero_le _) (Nat.zero_le _) ?_
    exact hp

