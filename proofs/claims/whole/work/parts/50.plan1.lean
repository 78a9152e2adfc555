def xs_PL (h : xv_H) (st ks : Int32) (wo dr ro : Nat → Int32) (lc : Nat → Nat → Int32) (ke : Nat → Int32) : Prop := h 24 = .inr (6, [.ref 25, .ref 26, .ref 27, .ref 28, .ref 40, .int st, .int ks]) ∧ h 25 = .inl (.int, 24, .inl wo) ∧ h 26 = .inl (.int, 24, .inl dr) ∧ h 27 = .inl (.int, 30, .inl ro) ∧ h 28 = .inl (.array .int, 11, .inr (.inr (.inr (.inr (fun k => if k < 11 then some (29 + k) else none))))) ∧ (∀ k, k < 11 → h (29 + k) = .inl (.int, 1001, .inl (lc k))) ∧ h 40 = .inl (.int, 40, .inl ke)
theorem xs_PLi {k : Nat} (hk : k < 11) : va_rf ((fun k => if k < 11 then some (29 + k) else none) k) = .ref (29 + k) := by
  show va_rf (if k < 11 then some (29 + k) else none) = _
  rw [if_pos hk]
  rfl
theorem xs_PLk {h h' : xv_H} {st ks : Int32} {wo dr ro : Nat → Int32} {lc : Nat → Nat → Int32} {ke : Nat → Int32} (hL : xs_PL h st ks wo dr ro lc ke) (hf : ∀ i, 24 ≤ i → i ≤ 40 → h' i = h i) : xs_PL h' st ks wo dr ro lc ke := ⟨(hf 24 (by omega) (by omega)).trans hL.1, (hf 25 (by omega) (by omega)).trans hL.2.1, (hf 26 (by omega) (by omega)).trans hL.2.2.1, (hf 27 (by omega) (by omega)).trans hL.2.2.2.1, (hf 28 (by omega) (by omega)).trans hL.2.2.2.2.1, fun k hk => (hf _ (by omega) (by omega)).trans (hL.2.2.2.2.2.1 k hk), (hf 40 (by omega) (by omega)).trans hL.2.2.2.2.2.2⟩
theorem xs_PL0 {h : xv_H} {st ks : Int32} {wo dr ro : Nat → Int32} {lc : Nat → Nat → Int32} {ke : Nat → Int32} (hL : xs_PL h st ks wo dr ro lc ke) (s2 k2 : Int32) : xs_PL (va_up h 24 (.inr (6, [.ref 25, .ref 26, .ref 27, .ref 28, .ref 40, .int s2, .int k2]))) s2 k2 wo dr ro lc ke := ⟨va_up_self _ _ _, (va_up_ne _ _ (by omega)).trans hL.2.1, (va_up_ne _ _ (by omega)).trans hL.2.2.1, (va_up_ne _ _ (by omega)).trans hL.2.2.2.1, (va_up_ne _ _ (by omega)).trans hL.2.2.2.2.1, fun k hk => (va_up_ne _ _ (by omega)).trans (hL.2.2.2.2.2.1 k hk), (va_up_ne _ _ (by omega)).trans hL.2.2.2.2.2.2⟩
theorem xs_PL1 {h : xv_H} {st ks : Int32} {wo dr ro : Nat → Int32} {lc : Nat → Nat → Int32} {ke : Nat → Int32} (hL : xs_PL h st ks wo dr ro lc ke) (g : Nat → Int32) : xs_PL (va_up h 25 (.inl (.int, 24, .inl g))) st ks g dr ro lc ke := ⟨(va_up_ne _ _ (by omega)).trans hL.1, va_up_self _ _ _, (va_up_ne _ _ (by omega)).trans hL.2.2.1, (va_up_ne _ _ (by omega)).trans hL.2.2.2.1, (va_up_ne _ _ (by omega)).trans hL.2.2.2.2.1, fun k hk => (va_up_ne _ _ (by omega)).trans (hL.2.2.2.2.2.1 k hk), (va_up_ne _ _ (by omega)).trans hL.2.2.2.2.2.2⟩
theorem xs_PL2 {h : xv_H} {st ks : Int32} {wo dr ro : Nat → Int32} {lc : Nat → Nat → Int32} {ke : Nat → Int32} (hL : xs_PL h st ks wo dr ro lc ke) (g : Nat → Int32) : xs_PL (va_up h 26 (.inl (.int, 24, .inl g))) st ks wo g ro lc ke := ⟨(va_up_ne _ _ (by omega)).trans hL.1, (va_up_ne _ _ (by omega)).trans hL.2.1, va_up_self _ _ _, (va_up_ne _ _ (by omega)).trans hL.2.2.2.1, (va_up_ne _ _ (by omega)).trans hL.2.2.2.2.1, fun k hk => (va_up_ne _ _ (by omega)).trans (hL.2.2.2.2.2.1 k hk), (va_up_ne _ _ (by omega)).trans hL.2.2.2.2.2.2⟩
theorem xs_PL3 {h : xv_H} {st ks : Int32} {wo dr ro : Nat → Int32} {lc : Nat → Nat → Int32} {ke : Nat → Int32} (hL : xs_PL h st ks wo dr ro lc ke) (g : Nat → Int32) : xs_PL (va_up h 27 (.inl (.int, 30, .inl g))) st ks wo dr g lc ke := ⟨(va_up_ne _ _ (by omega)).trans hL.1, (va_up_ne _ _ (by omega)).trans hL.2.1, (va_up_ne _ _ (by omega)).trans hL.2.2.1, va_up_self _ _ _, (va_up_ne _ _ (by omega)).trans hL.2.2.2.2.1, fun k hk => (va_up_ne _ _ (by omega)).trans (hL.2.2.2.2.2.1 k hk), (va_up_ne _ _ (by omega)).trans hL.2.2.2.2.2.2⟩
theorem xs_PL5 {h : xv_H} {st ks : Int32} {wo dr ro : Nat → Int32} {lc : Nat → Nat → Int32} {ke : Nat → Int32} (hL : xs_PL h st ks wo dr ro lc ke) {k0 : Nat} (hk0 : k0 < 11) {h' : xv_H} {g : Nat → Int32} (e : h' (29 + k0) = .inl (.int, 1001, .inl g)) (hf : ∀ i, i ≠ 29 + k0 → h' i = h i) : xs_PL h' st ks wo dr ro (fun k => if k = k0 then g else lc k) ke := ⟨(hf _ (by omega)).trans hL.1, (hf _ (by omega)).trans hL.2.1, (hf _ (by omega)).trans hL.2.2.1, (hf _ (by omega)).trans hL.2.2.2.1, (hf _ (by omega)).trans hL.2.2.2.2.1, fun k hk => by
  show h' (29 + k) = .inl (.int, 1001, .inl (if k = k0 then g else lc k))
  by_cases z : k = k0
  · rw [if_pos z, z, e]
  · rw [if_neg z, hf _ (by omega), hL.2.2.2.2.2.1 k hk], (hf _ (by omega)).trans hL.2.2.2.2.2.2⟩
theorem xs_PL6 {h : xv_H} {st ks : Int32} {wo dr ro : Nat → Int32} {lc : Nat → Nat → Int32} {ke : Nat → Int32} (hL : xs_PL h st ks wo dr ro lc ke) (g : Nat → Int32) : xs_PL (va_up h 40 (.inl (.int, 40, .inl g))) st ks wo dr ro lc g := ⟨(va_up_ne _ _ (by omega)).trans hL.1, (va_up_ne _ _ (by omega)).trans hL.2.1, (va_up_ne _ _ (by omega)).trans hL.2.2.1, (va_up_ne _ _ (by omega)).trans hL.2.2.2.1, (va_up_ne _ _ (by omega)).trans hL.2.2.2.2.1, fun k hk => (va_up_ne _ _ (by omega)).trans (hL.2.2.2.2.2.1 k hk), va_up_self _ _ _⟩
def xs_sp (w l : Int32) : Int32 := if (w - l) / 10 < 60 then (w - l) / 10 else 60
def xs_Mn (sp mi st : Int32) : Nat := if sp < 1 then 0 else 60 * mi.toNatClampNeg / sp.toNatClampNeg + (if 0 < 60 * mi.toNatClampNeg % sp.toNatClampNeg then 1 else 0) + 3 * st.toNatClampNeg
def xs_Cn (dk mi : Int32) : Nat := dk.toNatClampNeg * mi.toNatClampNeg / 100
def xs_M (wo ro : Nat → Int32) (s c : Nat) : Nat := xs_Mn (xs_sp (wo c) (ro (3 * s + 1))) (ro (3 * s)) (ro (3 * s + 2))
def xs_C (dr ro : Nat → Int32) (s c : Nat) : Nat := xs_Cn (dr c) (ro (3 * s))
def xs_rv (ro : Nat → Int32) (s : Nat) : Prop := (1 ≤ (ro (3 * s)).toInt ∧ (ro (3 * s)).toInt ≤ 50) ∧ (0 ≤ (ro (3 * s + 1)).toInt ∧ (ro (3 * s + 1)).toInt ≤ 2000) ∧ (0 ≤ (ro (3 * s + 2)).toInt ∧ (ro (3 * s + 2)).toInt ≤ 1)
theorem xn_ofI {x : Int32} (h : 0 ≤ x.toInt) : x = nI x.toNatClampNeg := by
  have hb := xn_b x
  rw [xn_eq]
  show x.toInt = (nI x.toInt.toNat).toInt
  rw [xn_NI (by omega)]
  omega
theorem xn_ix3 {s m j : Nat} (hs : 3 * s + j < m) (hm : m < 2147483648) : xv_ix (3 * nI s + nI j) m (3 * s + j) := by
  rw [show (3 * nI s + nI j : Int32) = nI (3 * s + j) by rw [show (3 * nI s : Int32) = nI (3 * s) from pk_mul 3 s, nI_add]]
  exact xv_ixN hs hm
theorem xn_ix30 {s m : Nat} (hs : 3 * s < m) (hm : m < 2147483648) : xv_ix (3 * nI s) m (3 * s) := by
  rw [show (3 * nI s : Int32) = nI (3 * s) from pk_mul 3 s]
  exact xv_ixN hs hm
theorem xn_spb {w l : Int32} (h : ¬ xs_sp w l < 1) : 1 ≤ (xs_sp w l).toInt ∧ (xs_sp w l).toInt ≤ 60 := by
  rw [xn_lt, show (1 : Int32).toInt = 1 from rfl] at h
  refine ⟨by omega, ?_⟩
  unfold xs_sp
  by_cases z : (w - l) / 10 < 60
  · rw [if_pos z]
    rw [xn_lt, show (60 : Int32).toInt = 60 from rfl] at z
    omega
  · rw [if_neg z]
    decide
theorem xn_Mb {sp mi st : Int32} (hm : 0 ≤ mi.toInt ∧ mi.toInt ≤ 50) (hs : 0 ≤ st.toInt ∧ st.toInt ≤ 1) : xs_Mn sp mi st ≤ 4000 := by
  unfold xs_Mn
  split
  · omega
  · have h1 : 60 * mi.toNatClampNeg / sp.toNatClampNeg ≤ 60 * mi.toNatClampNeg := Nat.div_le_self _ _
    have h2 : mi.toNatClampNeg ≤ 50 := by show mi.toInt.toNat ≤ 50; omega
    have h3 : st.toNatClampNeg ≤ 1 := by show st.toInt.toNat ≤ 1; omega
    split <;> omega
theorem xn_Cb {dk mi : Int32} (hd : 0 ≤ dk.toInt ∧ dk.toInt ≤ 1000000) (hm : 0 ≤ mi.toInt ∧ mi.toInt ≤ 50) : xs_Cn dk mi ≤ 500000 := by
  unfold xs_Cn
  have h2 : mi.toNatClampNeg ≤ 50 := by show mi.toInt.toNat ≤ 50; omega
  have h3 : dk.toNatClampNeg ≤ 1000000 := by show dk.toInt.toNat ≤ 1000000; omega
  have := Nat.mul_le_mul h3 h2
  omega
theorem xn_Ce {dk mi : Int32} (hd : 0 ≤ dk.toInt ∧ dk.toInt ≤ 1000000) (hm : 0 ≤ mi.toInt ∧ mi.toInt ≤ 50) : dk * mi / 100 = nI (xs_Cn dk mi) := by
  have h2 : mi.toNatClampNeg ≤ 50 := by show mi.toInt.toNat ≤ 50; omega
  have h3 : dk.toNatClampNeg ≤ 1000000 := by show dk.toInt.toNat ≤ 1000000; omega
  have := Nat.mul_le_mul h3 h2
  conv => lhs; rw [xn_ofI hd.1, xn_ofI hm.1]
  rw [pk_mul, show (100 : Int32) = nI 100 from rfl, pk_div (by omega) (by omega) (by omega)]
  rfl

theorem xn_las {wo ro : Nat → Int32} {s c : Nat} {x y : Int32} (hrv : xs_rv ro s) (c1 : ¬ xs_sp (wo c) (ro (3 * s + 1)) < 1)
    (hx : (60 * ro (3 * s) - 60 * ro (3 * s) / xs_sp (wo c) (ro (3 * s + 1)) * xs_sp (wo c) (ro (3 * s + 1)) ≤ 0 ∧ x = 60 * ro (3 * s) / xs_sp (wo c) (ro (3 * s + 1)) + 0) ∨ (¬ 60 * ro (3 * s) - 60 * ro (3 * s) / xs_sp (wo c) (ro (3 * s + 1)) * xs_sp (wo c) (ro (3 * s + 1)) ≤ 0 ∧ x = 60 * ro (3 * s) / xs_sp (wo c) (ro (3 * s + 1)) + 1))
    (hy : (ro (3 * s + 2) = 1 ∧ y = x + 3) ∨ (¬ ro (3 * s + 2) = 1 ∧ y = x)) : y = nI (xs_M wo ro s c) := by
  have hb := xn_spb c1
  unfold xs_M xs_Mn
  rw [if_neg c1]
  generalize xs_sp (wo c) (ro (3 * s + 1)) = sp at hb hx
  obtain ⟨⟨m0, m1⟩, -, s0, s1⟩ := hrv
  have e1 := xn_ofI (x := ro (3 * s)) (by omega)
  have e2 := xn_ofI (x := sp) (by omega)
  have q1 : (ro (3 * s)).toNatClampNeg ≤ 50 := by show (ro (3 * s)).toInt.toNat ≤ 50; omega
  have q2 : 1 ≤ sp.toNatClampNeg ∧ sp.toNatClampNeg ≤ 60 := by show 1 ≤ sp.toInt.toNat ∧ sp.toInt.toNat ≤ 60; omega
  generalize (ro (3 * s)).toNatClampNeg = mi at e1 q1
  generalize sp.toNatClampNeg = p at e2 q2
  rw [e1, e2, show (60 * nI mi : Int32) = nI (60 * mi) from pk_mul 60 mi, xn_remN (by omega) (by omega) (by omega), pk_div (by omega) (by omega) (by omega)] at hx
  have hst : (ro (3 * s + 2)).toNatClampNeg = if ro (3 * s + 2) = 1 then 1 else 0 := by
    show (ro (3 * s + 2)).toInt.toNat = _
    by_cases z : ro (3 * s + 2) = 1
    · rw [if_pos z, z]; rfl
    · rw [if_neg z]
      rw [xn_eq, show (1 : Int32).toInt = 1 from rfl] at z
      omega
  have hx2 : x = nI (60 * mi / p + if 0 < 60 * mi % p then 1 else 0) := by
    have hmod : 60 * mi % p < p := Nat.mod_lt _ (by omega)
    have hr : (nI (60 * mi % p)).toInt = (60 * mi % p : Nat) := xn_NI (by omega)
    rcases hx with ⟨h1, h2⟩ | ⟨h1, h2⟩
    · rw [xn_le, hr, show (0 : Int32).toInt = 0 from rfl] at h1
      rw [h2, if_neg (by omega), Int32.add_zero, Nat.add_zero]
    · rw [xn_le, hr, show (0 : Int32).toInt = 0 from rfl] at h1
      rw [h2, if_pos (by omega), nI_1]
  rw [hst]
  rcases hy with ⟨h1, h2⟩ | ⟨h1, h2⟩
  · rw [h2, if_pos h1, hx2, show (3 : Int32) = nI 3 from rfl, nI_add]
  · rw [h2, if_neg h1, hx2, Nat.mul_zero, Nat.add_zero]

set_option maxRecDepth 20000 in
set_option maxHeartbeats 2000000 in
/-- lasting -/
theorem xm_X6_lasting : xv_K yX6_lasting mX6_lasting (fun as h n Post => ∃ (st : Int32) (ks : Int32) (wo : Nat → Int32) (dr : Nat → Int32) (ro : Nat → Int32) (lc : Nat → Nat → Int32) (ke : Nat → Int32) (s : Nat) (c : Nat), as = [.ref 24, .int (nI s), .int (nI c)] ∧ (xs_PL h st ks wo dr ro lc ke) ∧ (40 < n) ∧ (s < 10) ∧ (c < 24) ∧ (xs_rv ro s) ∧ Post (some (.int (nI (xs_M wo ro s c)))) h n) := by
  refine xv_entry (by decide +kernel) rfl (fun h => absurd h (by decide)) ?_
  rintro X _ h n Post ⟨st, ks, wo, dr, ro, lc, ke, s, c, rfl, hL, h40, hs, hc, hrv, hp⟩
  refine ⟨Nat.le_of_ble_eq_true rfl, ?_⟩
  show xv_V X mX6_lasting Post 0 0 0 [(0, .ref 24), (1, .int (nI s)), (2, .int (nI c))] [] h n
  refine xi_iconst (x := 3) (q := 1) dX6_lasting_0 (by decide) rfl ?_
  refine xi_iload_n (q := 2) dX6_lasting_1 rfl rfl ?_
  refine xi_imul (q := 3) dX6_lasting_2 rfl ?_
  refine xi_istore_n (q := 4) dX6_lasting_3 (Nat.le_of_ble_eq_true rfl) rfl ?_
  refine xi_bipush (x := 60) (q := 6) dX6_lasting_4 (by decide) rfl ?_
  refine xi_aload_n (q := 7) dX6_lasting_6 rfl rfl ?_
  refine xi_getf (q := 10) dX6_lasting_7 fl_X6_9 ⟨by omega, hL.1⟩ rfl rfl ?_
  refine xi_iload_n (q := 11) dX6_lasting_10 rfl rfl ?_
  refine xi_iald (q := 12) dX6_lasting_11 ⟨by omega, hL.2.1⟩ (xv_ixN hc (by omega)) rfl ?_
  refine xi_aload_n (q := 13) dX6_lasting_12 rfl rfl ?_
  refine xi_getf (q := 16) dX6_lasting_13 fl_X6_18 ⟨by omega, hL.1⟩ rfl rfl ?_
  refine xi_iload_n (q := 17) dX6_lasting_16 rfl rfl ?_
  refine xi_iconst (x := 1) (q := 18) dX6_lasting_17 (by decide) rfl ?_
  refine xi_iadd (q := 19) dX6_lasting_18 rfl ?_
  refine xi_iald (q := 20) dX6_lasting_19 ⟨by omega, hL.2.2.2.1⟩ (xn_ix3 (j := 1) (by omega) (by omega)) rfl ?_
  refine xi_isub (q := 21) dX6_lasting_20 rfl ?_
  refine xi_bipush (x := 10) (q := 23) dX6_lasting_21 (by decide) rfl ?_
  refine xi_idiv (q := 24) dX6_lasting_23 (by decide) rfl ?_
  refine xi_mmin (q := 27) dX6_lasting_24 ln_X6_29 (Nat.le_of_ble_eq_true rfl) (Nat.le_of_ble_eq_true rfl) (Nat.zero_le _) (Nat.zero_le _) rfl ?_
  refine xi_istore (q := 29) dX6_lasting_27 (Nat.le_of_ble_eq_true rfl) rfl ?_
  refine xi_iload (q := 31) dX6_lasting_29 rfl rfl ?_
  refine xi_iconst (x := 1) (q := 32) dX6_lasting_31 (by decide) rfl ?_
  refine xi_icmp_ge (q := 35) (q2 := 37) dX6_lasting_32 (by decide) rfl (fun c_32 => ?_) (fun c_32 => ?_)
  · have c3 : 1 ≤ xs_sp (wo c) (ro (3 * s + 1)) := c_32
    have c1 : ¬ xs_sp (wo c) (ro (3 * s + 1)) < 1 := fun z => by rw [xn_lt] at z; rw [xn_le] at c3; omega
    have hb := xn_spb c1
    have hnz : ¬ xs_sp (wo c) (ro (3 * s + 1)) = 0 := fun z => by rw [z] at hb; exact absurd hb.1 (by decide)
    refine xi_bipush (x := 60) (q := 39) dX6_lasting_37 (by decide) rfl ?_
    refine xi_aload_n (q := 40) dX6_lasting_39 rfl rfl ?_
    refine xi_getf (q := 43) dX6_lasting_40 fl_X6_18 ⟨by omega, hL.1⟩ rfl rfl ?_
    refine xi_iload_n (q := 44) dX6_lasting_43 rfl rfl ?_
    refine xi_iald (q := 45) dX6_lasting_44 ⟨by omega, hL.2.2.2.1⟩ (xn_ix30 (by omega) (by omega)) rfl ?_
    refine xi_imul (q := 46) dX6_lasting_45 rfl ?_
    refine xi_istore (q := 48) dX6_lasting_46 (Nat.le_of_ble_eq_true rfl) rfl ?_
    refine xi_iload (q := 50) dX6_lasting_48 rfl rfl ?_
    refine xi_iload (q := 52) dX6_lasting_50 rfl rfl ?_
    refine xi_idiv (q := 53) dX6_lasting_52 hnz rfl ?_
    refine xi_iload (q := 55) dX6_lasting_53 rfl rfl ?_
    refine xi_iload (q := 57) dX6_lasting_55 rfl rfl ?_
    refine xi_irem (q := 58) dX6_lasting_57 hnz rfl ?_
    refine xi_if_le (q := 61) (q2 := 65) dX6_lasting_58 (by decide) rfl (fun c_58 => ?_) (fun c_58 => ?_)
    · refine xi_iconst (x := 0) (q := 66) dX6_lasting_65 (by decide) rfl ?_
      refine xi_iadd (q := 67) dX6_lasting_66 rfl ?_
      refine xi_istore (q := 69) dX6_lasting_67 (Nat.le_of_ble_eq_true rfl) rfl ?_
      refine xi_aload_n (q := 70) dX6_lasting_69 rfl rfl ?_
      refine xi_getf (q := 73) dX6_lasting_70 fl_X6_18 ⟨by omega, hL.1⟩ rfl rfl ?_
      refine xi_iload_n (q := 74) dX6_lasting_73 rfl rfl ?_
      refine xi_iconst (x := 2) (q := 75) dX6_lasting_74 (by decide) rfl ?_
      refine xi_iadd (q := 76) dX6_lasting_75 rfl ?_
      refine xi_iald (q := 77) dX6_lasting_76 ⟨by omega, hL.2.2.2.1⟩ (xn_ix3 (j := 2) (by omega) (by omega)) rfl ?_
      refine xi_iconst (x := 1) (q := 78) dX6_lasting_77 (by decide) rfl ?_
      refine xi_icmp_ne (q := 81) (q2 := 88) dX6_lasting_78 (by decide) rfl (fun c_78 => ?_) (fun c_78 => ?_)
      · refine xi_iload (q := 90) dX6_lasting_88 rfl rfl ?_
        refine xi_ret ⟨_, rfl, rfl, dX6_lasting_90⟩ (Nat.zero_le _) (Nat.zero_le _) ?_
        exact xv_eqr hp ((xn_las hrv c1 (Or.inl ⟨c_58, rfl⟩) (Or.inr ⟨c_78, rfl⟩)))
      · refine xi_iload (q := 83) dX6_lasting_81 rfl rfl ?_
        refine xi_iconst (x := 3) (q := 84) dX6_lasting_83 (by decide) rfl ?_
        refine xi_iadd (q := 85) dX6_lasting_84 rfl ?_
        refine xi_goto (q := 90) dX6_lasting_85 (by decide) ?_
        refine xi_ret ⟨_, rfl, rfl, dX6_lasting_90⟩ (Nat.zero_le _) (Nat.zero_le _) ?_
        exact xv_eqr hp ((xn_las hrv c1 (Or.inl ⟨c_58, rfl⟩) (Or.inl ⟨c_78, rfl⟩)))
    · refine xi_iconst (x := 1) (q := 62) dX6_lasting_61 (by decide) rfl ?_
      refine xi_goto (q := 66) dX6_lasting_62 (by decide) ?_
      refine xi_iadd (q := 67) dX6_lasting_66 rfl ?_
      refine xi_istore (q := 69) dX6_lasting_67 (Nat.le_of_ble_eq_true rfl) rfl ?_
      refine xi_aload_n (q := 70) dX6_lasting_69 rfl rfl ?_
      refine xi_getf (q := 73) dX6_lasting_70 fl_X6_18 ⟨by omega, hL.1⟩ rfl rfl ?_
      refine xi_iload_n (q := 74) dX6_lasting_73 rfl rfl ?_
      refine xi_iconst (x := 2) (q := 75) dX6_lasting_74 (by decide) rfl ?_
      refine xi_iadd (q := 76) dX6_lasting_75 rfl ?_
      refine xi_iald (q := 77) dX6_lasting_76 ⟨by omega, hL.2.2.2.1⟩ (xn_ix3 (j := 2) (by omega) (by omega)) rfl ?_
      refine xi_iconst (x := 1) (q := 78) dX6_lasting_77 (by decide) rfl ?_
      refine xi_icmp_ne (q := 81) (q2 := 88) dX6_lasting_78 (by decide) rfl (fun c_78 => ?_) (fun c_78 => ?_)
      · refine xi_iload (q := 90) dX6_lasting_88 rfl rfl ?_
        refine xi_ret ⟨_, rfl, rfl, dX6_lasting_90⟩ (Nat.zero_le _) (Nat.zero_le _) ?_
        exact xv_eqr hp ((xn_las hrv c1 (Or.inr ⟨c_58, rfl⟩) (Or.inr ⟨c_78, rfl⟩)))
      · refine xi_iload (q := 83) dX6_lasting_81 rfl rfl ?_
        refine xi_iconst (x := 3) (q := 84) dX6_lasting_83 (by decide) rfl ?_
        refine xi_iadd (q := 85) dX6_lasting_84 rfl ?_
        refine xi_goto (q := 90) dX6_lasting_85 (by decide) ?_
        refine xi_ret ⟨_, rfl, rfl, dX6_lasting_90⟩ (Nat.zero_le _) (Nat.zero_le _) ?_
        exact xv_eqr hp ((xn_las hrv c1 (Or.inr ⟨c_58, rfl⟩) (Or.inl ⟨c_78, rfl⟩)))
  · have c3 : ¬ 1 ≤ xs_sp (wo c) (ro (3 * s + 1)) := c_32
    have c1 : xs_sp (wo c) (ro (3 * s + 1)) < 1 := by rw [xn_lt]; rw [xn_le] at c3; omega
    refine xi_iconst (x := 0) (q := 36) dX6_lasting_35 (by decide) rfl ?_
    refine xi_ret ⟨_, rfl, rfl, dX6_lasting_36⟩ (Nat.zero_le _) (Nat.zero_le _) ?_
    exact xv_eqr hp (by unfold xs_M xs_Mn; rw [if_pos c1]; rfl)

set_option maxRecDepth 20000 in
set_option maxHeartbeats 2000000 in
/-- burning -/
theorem xm_X6_burning : xv_K yX6_burning mX6_burning (fun as h n Post => ∃ (st : Int32) (ks : Int32) (wo : Nat → Int32) (dr : Nat → Int32) (ro : Nat → Int32) (lc : Nat → Nat → Int32) (ke : Nat → Int32) (s : Nat) (c : Nat), as = [.ref 24, .int (nI s), .int (nI c)] ∧ (xs_PL h st ks wo dr ro lc ke) ∧ (40 < n) ∧ (s < 10) ∧ (c < 24) ∧ (xs_rv ro s) ∧ (0 ≤ (dr c).toInt ∧ (dr c).toInt ≤ 1000000) ∧ Post (some (.int (nI (xs_C dr ro s c)))) h n) := by
  refine xv_entry (by decide +kernel) rfl (fun h => absurd h (by decide)) ?_
  rintro X _ h n Post ⟨st, ks, wo, dr, ro, lc, ke, s, c, rfl, hL, h40, hs, hc, hrv, hdc, hp⟩
  refine ⟨Nat.le_of_ble_eq_true rfl, ?_⟩
  show xv_V X mX6_burning Post 0 0 0 [(0, .ref 24), (1, .int (nI s)), (2, .int (nI c))] [] h n
  refine xi_aload_n (q := 1) dX6_burning_0 rfl rfl ?_
  refine xi_getf (q := 4) dX6_burning_1 fl_X6_15 ⟨by omega, hL.1⟩ rfl rfl ?_
  refine xi_iload_n (q := 5) dX6_burning_4 rfl rfl ?_
  refine xi_iald (q := 6) dX6_burning_5 ⟨by omega, hL.2.2.1⟩ (xv_ixN hc (by omega)) rfl ?_
  refine xi_aload_n (q := 7) dX6_burning_6 rfl rfl ?_
  refine xi_getf (q := 10) dX6_burning_7 fl_X6_18 ⟨by omega, hL.1⟩ rfl rfl ?_
  refine xi_iconst (x := 3) (q := 11) dX6_burning_10 (by decide) rfl ?_
  refine xi_iload_n (q := 12) dX6_burning_11 rfl rfl ?_
  refine xi_imul (q := 13) dX6_burning_12 rfl ?_
  refine xi_iald (q := 14) dX6_burning_13 ⟨by omega, hL.2.2.2.1⟩ (xn_ix30 (by omega) (by omega)) rfl ?_
  refine xi_imul (q := 15) dX6_burning_14 rfl ?_
  refine xi_bipush (x := 100) (q := 17) dX6_burning_15 (by decide) rfl ?_
  refine xi_idiv (q := 18) dX6_burning_17 (by decide) rfl ?_
  refine xi_ret ⟨_, rfl, rfl, dX6_burning_18⟩ (Nat.zero_le _) (Nat.zero_le _) ?_
  exact xv_eqr hp (xn_Ce hdc ⟨by have := hrv.1; omega, hrv.1.2⟩)

set_option maxRecDepth 20000 in
set_option maxHeartbeats 2000000 in
/-- notchOf -/
theorem xm_X6_notchOf : xv_K yX6_notchOf mX6_notchOf (fun as h n Post => ∃ (c : Nat), as = [.int (nI c)] ∧ (c < 24) ∧ Post (some (.int (nI (1 + c / 4)))) h n) := by
  refine xv_entry (by decide +kernel) rfl (fun h => absurd h (by decide)) ?_
  rintro X _ h n Post ⟨c, rfl, hc, hp⟩
  refine ⟨Nat.le_of_ble_eq_true rfl, ?_⟩
  show xv_V X mX6_notchOf Post 0 0 0 [(0, .int (nI c))] [] h n
  refine xi_iconst (x := 1) (q := 1) dX6_notchOf_0 (by decide) rfl ?_
  refine xi_iload_n (q := 2) dX6_notchOf_1 rfl rfl ?_
  refine xi_iconst (x := 4) (q := 3) dX6_notchOf_2 (by decide) rfl ?_
  refine xi_idiv (q := 4) dX6_notchOf_3 (by decide) rfl ?_
  refine xi_iadd (q := 5) dX6_notchOf_4 rfl ?_
  refine xi_ret ⟨_, rfl, rfl, dX6_notchOf_5⟩ (Nat.zero_le _) (Nat.zero_le _) ?_
  exact xv_eqr hp (by rw [show (4 : Int32) = nI 4 from rfl, pk_div (by omega) (by omega) (by omega), show (1 : Int32) = nI 1 from rfl, nI_add])

set_option maxRecDepth 20000 in
set_option maxHeartbeats 2000000 in
/-- regulatorOf -/
theorem xm_X6_regulatorOf : xv_K yX6_regulatorOf mX6_regulatorOf (fun as h n Post => ∃ (c : Nat), as = [.int (nI c)] ∧ (c < 24) ∧ Post (some (.int (nI (1 + c % 4)))) h n) := by
  refine xv_entry (by decide +kernel) rfl (fun h => absurd h (by decide)) ?_
  rintro X _ h n Post ⟨c, rfl, hc, hp⟩
  refine ⟨Nat.le_of_ble_eq_true rfl, ?_⟩
  show xv_V X mX6_regulatorOf Post 0 0 0 [(0, .int (nI c))] [] h n
  refine xi_iconst (x := 1) (q := 1) dX6_regulatorOf_0 (by decide) rfl ?_
  refine xi_iload_n (q := 2) dX6_regulatorOf_1 rfl rfl ?_
  refine xi_iconst (x := 4) (q := 3) dX6_regulatorOf_2 (by decide) rfl ?_
  refine xi_irem (q := 4) dX6_regulatorOf_3 (by decide) rfl ?_
  refine xi_iadd (q := 5) dX6_regulatorOf_4 rfl ?_
  refine xi_ret ⟨_, rfl, rfl, dX6_regulatorOf_5⟩ (Nat.zero_le _) (Nat.zero_le _) ?_
  exact xv_eqr hp (by rw [show (4 : Int32) = nI 4 from rfl, xn_remN (by omega) (by omega) (by omega), show (1 : Int32) = nI 1 from rfl, nI_add])

set_option maxRecDepth 20000 in
set_option maxHeartbeats 2000000 in
/-- tryOut -/
theorem xm_X6_tryOut : xv_K yX6_tryOut mX6_tryOut (fun as h n Post => ∃ (st : Int32) (ks : Int32) (wo : Nat → Int32) (dr : Nat → Int32) (ro : Nat → Int32) (lc : Nat → Nat → Int32) (ke : Nat → Int32) (dn : Int64) (wk : Int32) (dk : Int32) (r1 : Nat → Int32) (r2 : Nat → Int32) (r3 : Nat → Int32) (r4 : Nat → Int32) (e : Nat) (f : Nat → Int32) (s : Int32) (t : Int32) (b : Int32), as = [.ref 24, .ref e, .int b, .ref 17] ∧ (e + 1 < n) ∧ (h e = .inr (0, [.ref (e + 1), .int s, .int t])) ∧ (h (e + 1) = .inl (.int, 11, .inl f)) ∧ (xs_PC h dn wk dk r1 r2 r3 r4) ∧ (21 < n) ∧ (xs_PL h st ks wo dr ro lc ke) ∧ (40 < n) ∧ (e + 1 < 17 ∨ 40 < e) ∧ (xs_ok f) ∧ (0 ≤ b.toInt ∧ b.toInt ≤ 2000) ∧ (∀ (h' : xv_H) (dn' : Int64) (wk' dk' : Int32) (q1 q2 q3 q4 : Nat → Int32), xs_PC h' dn' wk' dk' q1 q2 q3 q4 → xs_PL h' st ks (fun c => xs_wrk f s (nI (1 + c / 4)) (b * nI (1 + c % 4) / 4)) (fun c => xs_drk f s (nI (1 + c / 4)) (b * nI (1 + c % 4) / 4)) ro lc ke → (∀ i, i < 17 ∨ 21 < i → i < 24 ∨ 40 < i → h' i = h i) → Post none h' n)) := by
  refine xv_entry (by decide +kernel) rfl (fun h => absurd h (by decide)) ?_
  rintro X _ h n Post ⟨st, ks, wo, dr, ro, lc, ke, dn, wk, dk, r1, r2, r3, r4, e, f, s, t, b, rfl, hn, hE, hN, hP, h21, hL, h40, he, hok, hb, hp⟩
  refine ⟨Nat.le_of_ble_eq_true rfl, ?_⟩
  show xv_V X mX6_tryOut Post 0 0 0 [(0, .ref 24), (1, .ref e), (2, .int b), (3, .ref 17)] [] h n
  obtain ⟨WW, hWW⟩ : ∃ W : Nat → Int32, W = (fun c => xs_wrk f s (nI (1 + c / 4)) (b * nI (1 + c % 4) / 4)) := ⟨_, rfl⟩
  obtain ⟨DD, hDD⟩ : ∃ D : Nat → Int32, D = (fun c => xs_drk f s (nI (1 + c / 4)) (b * nI (1 + c % 4) / 4)) := ⟨_, rfl⟩
  have L3 : ∀ (d k : Nat) (hh : xv_H) (dn : Int64) (wk dk : Int32) (r1 r2 r3 r4 wo dr : Nat → Int32), k + d = 24 → xs_PC hh dn wk dk r1 r2 r3 r4 → xs_PL hh st ks wo dr ro lc ke → (∀ j, j < k → wo j = WW j) → (∀ j, j < k → dr j = DD j) → (∀ i, i < 17 ∨ 21 < i → i < 24 ∨ 40 < i → hh i = h i) → xv_V X mX6_tryOut Post 0 0 3 [(0, .ref 24), (1, .ref e), (2, .int b), (3, .ref 17), (4, .int (nI k))] [] hh n := by
    intro d
    induction d using Nat.strongRecOn with
    | _ d ih =>
      intro k hh dn wk dk r1 r2 r3 r4 wo dr hk hQ hL2 hw hd2 hf0
      refine xi_iload (q := 5) dX6_tryOut_3 rfl rfl ?_
      refine xi_bipush (x := 24) (q := 7) dX6_tryOut_5 (by decide) rfl ?_
      refine xi_icmp_ge (q := 10) (q2 := 54) dX6_tryOut_7 (by decide) rfl (fun c_7 => ?_) (fun c_7 => ?_)
      · have hk2 : k = 24 := by have z : 24 ≤ k := xn_leN c_7 (by omega) (by omega); omega
        subst hk2
        refine xv_norm (h' := va_up hh 25 (.inl (.int, 24, .inl WW))) (xv_nr hL2.2.1 rfl hw) ?_
        refine xv_norm (h' := va_up (va_up hh 25 (.inl (.int, 24, .inl WW))) 26 (.inl (.int, 24, .inl DD))) (xv_nr ((va_up_ne _ _ (by omega)).trans hL2.2.2.1) rfl hd2) ?_
        subst hWW; subst hDD
        refine xi_vret ⟨rfl, dX6_tryOut_54⟩ (Nat.zero_le _) (Nat.zero_le _) ?_
        exact hp _ _ _ _ _ _ _ _ ⟨by rw [va_up_ne _ _ (by omega), va_up_ne _ _ (by omega)]; exact hQ.1, by rw [va_up_ne _ _ (by omega), va_up_ne _ _ (by omega)]; exact hQ.2.1, by rw [va_up_ne _ _ (by omega), va_up_ne _ _ (by omega)]; exact hQ.2.2.1, by rw [va_up_ne _ _ (by omega), va_up_ne _ _ (by omega)]; exact hQ.2.2.2.1, by rw [va_up_ne _ _ (by omega), va_up_ne _ _ (by omega)]; exact hQ.2.2.2.2⟩ (xs_PL2 (xs_PL1 hL2 _) _) (fun i i1 i2 => by rw [va_up_ne _ _ (by omega), va_up_ne _ _ (by omega)]; exact hf0 i i1 i2)
      · have hk2 : k < 24 := xn_nleN c_7 (by omega) (by omega)
        refine xi_aload_n (q := 11) dX6_tryOut_10 rfl rfl ?_
        refine xi_aload_n (q := 12) dX6_tryOut_11 rfl rfl ?_
        refine xi_iload (q := 14) dX6_tryOut_12 rfl rfl ?_
        refine xv_cS1 (q := 17) xm_X6_notchOf ln_X6_52 dX6_tryOut_14 ⟨(Nat.le_of_ble_eq_true rfl), (Nat.le_of_ble_eq_true rfl)⟩ (Nat.le_of_ble_eq_true rfl) ⟨rfl, rfl⟩ rfl (Nat.zero_le _) (Nat.zero_le _) ?_
        refine ⟨k, rfl, hk2, ?_⟩
        refine xi_iload_n (q := 18) dX6_tryOut_17 rfl rfl ?_
        refine xi_iload (q := 20) dX6_tryOut_18 rfl rfl ?_
        refine xv_cS1 (q := 23) xm_X6_regulatorOf ln_X6_55 dX6_tryOut_20 ⟨(Nat.le_of_ble_eq_true rfl), (Nat.le_of_ble_eq_true rfl)⟩ (Nat.le_of_ble_eq_true rfl) ⟨rfl, rfl⟩ rfl (Nat.zero_le _) (Nat.zero_le _) ?_
        refine ⟨k, rfl, hk2, ?_⟩
        refine xv_cV4 (q := 26) xm_X5_measure ln_X6_58 dX6_tryOut_23 ⟨by omega, hQ.1⟩ rfl ⟨(Nat.le_of_ble_eq_true rfl), (Nat.le_of_ble_eq_true rfl)⟩ (Nat.le_of_ble_eq_true rfl) ⟨rfl, rfl⟩ rfl (Nat.zero_le _) (Nat.zero_le _) ?_
        refine ⟨dn, wk, dk, r1, r2, r3, r4, e, f, s, t, _, b, _, rfl, hn, (hf0 e (by omega) (by omega)).trans hE, (hf0 (e + 1) (by omega) (by omega)).trans hN, hQ, by omega, by omega, hok, hb, (by rw [xn_NI (by omega)]; omega), fun h2 dn2 a1 a2 a3 a4 q1 q2 => ?_⟩
        have hL3 := xs_PLk hL2 (fun i i1 i2 => q2 i (by omega))
        rw [show xs_wrk f s (nI (1 + k / 4)) (b * nI (1 + k % 4) / 4) = WW k by rw [hWW], show xs_drk f s (nI (1 + k / 4)) (b * nI (1 + k % 4) / 4) = DD k by rw [hDD]] at q1
        refine xi_aload_n (q := 27) dX6_tryOut_26 rfl rfl ?_
        refine xi_getf (q := 30) dX6_tryOut_27 fl_X6_9 ⟨by omega, hL3.1⟩ rfl rfl ?_
        refine xi_iload (q := 32) dX6_tryOut_30 rfl rfl ?_
        refine xi_aload_n (q := 33) dX6_tryOut_32 rfl rfl ?_
        refine xi_getf (q := 36) dX6_tryOut_33 fl_X6_64 ⟨by omega, q1.1⟩ rfl rfl ?_
        refine xi_iast (q := 37) dX6_tryOut_36 ⟨by omega, hL3.2.1⟩ (xv_ixN hk2 (by omega)) rfl ?_
        refine xi_aload_n (q := 38) dX6_tryOut_37 rfl rfl ?_
        refine xi_getf (q := 41) dX6_tryOut_38 fl_X6_15 (xv_keep (by omega) ⟨by omega, hL3.1⟩) rfl rfl ?_
        refine xi_iload (q := 43) dX6_tryOut_41 rfl rfl ?_
        refine xi_aload_n (q := 44) dX6_tryOut_43 rfl rfl ?_
        refine xi_getf (q := 47) dX6_tryOut_44 fl_X6_67 (xv_keep (by omega) ⟨by omega, q1.1⟩) rfl rfl ?_
        refine xi_iast (q := 48) dX6_tryOut_47 (xv_keep (by omega) ⟨by omega, hL3.2.2.1⟩) (xv_ixN hk2 (by omega)) rfl ?_
        refine xi_iinc (y := nI (k + 1)) (q := 51) dX6_tryOut_48 rfl (xn_inc k) (Nat.le_of_ble_eq_true rfl) rfl ?_
        refine xi_goto (q := 3) dX6_tryOut_51 (by decide) ?_
        refine xv_weakS (lv' := [(0, .ref 24), (1, .ref e), (2, .int b), (3, .ref 17), (4, .int (nI (k + 1)))]) ⟨rfl, rfl, rfl, rfl, rfl, trivial⟩ ?_
        exact ih (d - 1) (by omega) (k + 1) _ _ _ _ _ _ _ _ _ _ (by omega) ⟨by rw [va_up_ne _ _ (by omega), va_up_ne _ _ (by omega)]; exact q1.1, by rw [va_up_ne _ _ (by omega), va_up_ne _ _ (by omega)]; exact q1.2.1, by rw [va_up_ne _ _ (by omega), va_up_ne _ _ (by omega)]; exact q1.2.2.1, by rw [va_up_ne _ _ (by omega), va_up_ne _ _ (by omega)]; exact q1.2.2.2.1, by rw [va_up_ne _ _ (by omega), va_up_ne _ _ (by omega)]; exact q1.2.2.2.2⟩ (xs_PL2 (xs_PL1 hL3 _) _) (xn_updl hw rfl) (xn_updl hd2 rfl) (fun i i1 i2 => by rw [va_up_ne _ _ (by omega), va_up_ne _ _ (by omega)]; exact (q2 i i1).trans (hf0 i i1 i2))
  refine xi_iconst (x := 0) (q := 1) dX6_tryOut_0 (by decide) rfl ?_
  refine xi_istore (q := 3) dX6_tryOut_1 (Nat.le_of_ble_eq_true rfl) rfl ?_
  refine xv_weakS (lv' := [(0, .ref 24), (1, .ref e), (2, .int b), (3, .ref 17), (4, .int (nI 0))]) ⟨rfl, rfl, rfl, rfl, rfl, trivial⟩ ?_
  exact L3 24 0 h dn wk dk r1 r2 r3 r4 wo dr (by omega) hP hL (fun j hj => absurd hj (Nat.not_lt_zero j)) (fun j hj => absurd hj (Nat.not_lt_zero j)) (fun _ _ _ => rfl)
