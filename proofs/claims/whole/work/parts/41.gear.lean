theorem xv_upid {h : xv_H} {a : Nat} {c : xv_E} (e : h a = c) : va_up h a c = h := by
  funext i
  by_cases hi : i = a
  · rw [hi, va_up_self, e]
  · rw [va_up_ne _ _ hi]
theorem xv_nr {h h' : xv_H} {n a : Nat} {ty : FieldType} {m : Nat} {f g : Nat → Int32} (e : h a = .inl (ty, m, .inl f)) (e' : h' = va_up h a (.inl (ty, m, .inl g))) (hfg : ∀ j, j < m → f j = g j) : ∀ i, i < n → xv_sim (h i) (h' i) := by
  intro i _
  by_cases hi : i = a
  · subst hi
    rw [e', va_up_self, e]
    exact Or.inr (Or.inl ⟨ty, m, f, g, rfl, rfl, hfg⟩)
  · rw [e', va_up_ne _ _ hi]
    exact Or.inl rfl
theorem xn_leN {a b : Nat} (h : nI a ≤ nI b) (ha : a < 2147483648) (hb : b < 2147483648) : a ≤ b := (nI_leI ha hb).mp h
theorem xn_nleN {a b : Nat} (h : ¬ nI a ≤ nI b) (ha : a < 2147483648) (hb : b < 2147483648) : b < a := Nat.lt_of_not_le fun z => h ((nI_leI ha hb).mpr z)
theorem xn_msb (y : Int32) : 0 ≤ y ↔ y.toBitVec.msb = false := by
  rw [xn_le, show (0 : Int32).toInt = 0 from rfl, BitVec.msb_eq_toInt]
  show 0 ≤ y.toBitVec.toInt ↔ _
  rw [decide_eq_false_iff_not]
  omega
theorem xn_x48 (x : Int32) : 0 ≤ x ^^^ 48 ↔ 0 ≤ x := by
  rw [xn_msb, xn_msb, Int32.toBitVec_xor, BitVec.msb_xor, show (48 : Int32).toBitVec.msb = false from by decide, Bool.xor_false]
theorem xn_rs {x : Int32} : (0 ≤ x → 0 ≤ xs_rem x 48) ∧ (¬ 0 ≤ x → xs_rem x 48 ≤ 0) := by
  have h1 : (xs_rem x 48).toInt = x.toInt.tmod 48 := xn_rem (by decide) (by decide)
  rw [xn_le, xn_le, xn_le, h1, show (0 : Int32).toInt = 0 from rfl]
  constructor
  · intro h
    exact Int.tmod_nonneg _ h
  · intro h
    have := Int.tmod_nonneg 48 (show 0 ≤ -x.toInt by omega)
    rw [Int.neg_tmod] at this
    omega

set_option maxRecDepth 20000 in
set_option maxHeartbeats 2000000 in
/-- fill -/
theorem xm_J7_fill_53178 : xv_K yJ7_fill_53178 mJ7_fill_53178 (fun as h n Post => ∃ (a : Nat) (v : Int32) (m : Nat) (g : Nat → Int32), as = [.ref a, .int v] ∧ (a < n) ∧ (m < 2147483648) ∧ (h a = .inl (.int, m, .inl g)) ∧ (∀ h' : xv_H, h' a = .inl (.int, m, .inl fun _ => v) → (∀ i, i ≠ a → h' i = h i) → Post none h' n)) := by
  refine xv_entry (by decide +kernel) rfl (fun h => absurd h (by decide)) ?_
  rintro X _ h n Post ⟨a, v, m, g, rfl, ha, hm, hg, hp⟩
  refine ⟨Nat.le_of_ble_eq_true rfl, ?_⟩
  show xv_V X mJ7_fill_53178 Post 0 0 0 [(0, .ref a), (1, .int v)] [] h n
  have L5 : ∀ (d k : Nat) (g2 : Nat → Int32), k + d = m → (∀ j, j < k → g2 j = v) → xv_V X mJ7_fill_53178 Post 0 0 5 [(0, .ref a), (1, .int v), (2, .int (nI k)), (3, .int (nI m))] [] (va_up h a (.inl (.int, m, .inl g2))) n := by
    intro d
    induction d using Nat.strongRecOn with
    | _ d ih =>
      intro k g2 hk hg2
      refine xi_iload_n (q := 6) dJ7_fill_53178_5 rfl rfl ?_
      refine xi_iload_n (q := 7) dJ7_fill_53178_6 rfl rfl ?_
      refine xi_icmp_ge (q := 10) (q2 := 20) dJ7_fill_53178_7 (by decide) rfl (fun c_7 => ?_) (fun c_7 => ?_)
      · have hk2 : m ≤ k := xn_leN c_7 hm (by omega)
        refine xv_norm (h' := va_up h a (.inl (.int, m, .inl fun _ => v))) (xv_nr (va_up_self _ _ _) (bx_uu _ _ _ _).symm (fun j hj => hg2 j (by omega))) ?_
        refine xi_vret ⟨rfl, dJ7_fill_53178_20⟩ (Nat.zero_le _) (Nat.zero_le _) ?_
        exact hp _ (va_up_self _ _ _) (fun i hi => va_up_ne _ _ hi)
      · have hk2 : k < m := xn_nleN c_7 hm (by omega)
        refine xi_aload_n (q := 11) dJ7_fill_53178_10 rfl rfl ?_
        refine xi_iload_n (q := 12) dJ7_fill_53178_11 rfl rfl ?_
        refine xi_iload_n (q := 13) dJ7_fill_53178_12 rfl rfl ?_
        refine xi_iast (q := 14) dJ7_fill_53178_13 (xv_self ha) (xv_ixN hk2 hm) rfl ?_
        refine xi_iinc (y := nI (k + 1)) (q := 17) dJ7_fill_53178_14 rfl (xn_inc k) (Nat.le_of_ble_eq_true rfl) rfl ?_
        refine xi_goto (q := 5) dJ7_fill_53178_17 (by decide) ?_
        rw [bx_uu]
        refine xv_weakS (lv' := [(0, .ref a), (1, .int v), (2, .int (nI (k + 1))), (3, .int (nI m))]) ⟨rfl, rfl, rfl, rfl, trivial⟩ ?_
        exact ih (d - 1) (by omega) (k + 1) (upd g2 k v) (by omega) (fun j hj => by
          by_cases hjk : j = k
          · rw [hjk, pk_us]
          · rw [pk_un hjk]; exact hg2 j (by omega))
  refine xi_iconst (x := 0) (q := 1) dJ7_fill_53178_0 (by decide) rfl ?_
  refine xi_istore_n (q := 2) dJ7_fill_53178_1 (Nat.le_of_ble_eq_true rfl) rfl ?_
  refine xi_aload_n (q := 3) dJ7_fill_53178_2 rfl rfl ?_
  refine xi_alen (v := nI m) (q := 4) dJ7_fill_53178_3 ⟨ha, hg⟩ rfl rfl ?_
  refine xi_istore_n (q := 5) dJ7_fill_53178_4 (Nat.le_of_ble_eq_true rfl) rfl ?_
  refine xv_weakS (lv' := [(0, .ref a), (1, .int v), (2, .int (nI 0)), (3, .int (nI m))]) ⟨rfl, rfl, rfl, rfl, trivial⟩ ?_
  have h5 := L5 m 0 g (by omega) (fun j hj => absurd hj (Nat.not_lt_zero j))
  rw [xv_upid hg] at h5
  exact h5

set_option maxRecDepth 20000 in
set_option maxHeartbeats 2000000 in
/-- floorMod -/
theorem xm_J9_floorMod_7cf53 : xv_K yJ9_floorMod_7cf53 mJ9_floorMod_7cf53 (fun as h n Post => ∃ (x : Int32), as = [.int x, .int 48] ∧ Post (some (.int (xs_rnd x))) h n) := by
  refine xv_entry (by decide +kernel) rfl (fun h => absurd h (by decide)) ?_
  rintro X _ h n Post ⟨x, rfl, hp⟩
  refine ⟨Nat.le_of_ble_eq_true rfl, ?_⟩
  show xv_V X mJ9_floorMod_7cf53 Post 0 0 0 [(0, .int x), (1, .int 48)] [] h n
  refine xi_iload_n (q := 1) dJ9_floorMod_7cf53_0 rfl rfl ?_
  refine xi_iload_n (q := 2) dJ9_floorMod_7cf53_1 rfl rfl ?_
  refine xi_irem (q := 3) dJ9_floorMod_7cf53_2 (by decide) rfl ?_
  refine xi_istore_n (q := 4) dJ9_floorMod_7cf53_3 (Nat.le_of_ble_eq_true rfl) rfl ?_
  refine xi_iload_n (q := 5) dJ9_floorMod_7cf53_4 rfl rfl ?_
  refine xi_iload_n (q := 6) dJ9_floorMod_7cf53_5 rfl rfl ?_
  refine xi_ixor (q := 7) dJ9_floorMod_7cf53_6 rfl ?_
  refine xi_if_ge (q := 10) (q2 := 18) dJ9_floorMod_7cf53_7 (by decide) rfl (fun c_7 => ?_) (fun c_7 => ?_)
  · refine xi_iload_n (q := 19) dJ9_floorMod_7cf53_18 rfl rfl ?_
    refine xi_ret ⟨_, rfl, rfl, dJ9_floorMod_7cf53_19⟩ (Nat.zero_le _) (Nat.zero_le _) ?_
    exact xv_eqr hp (by unfold xs_rnd; rw [if_neg (fun w => by rw [xn_lt] at w; have z := xn_rs (x := x).1 ((xn_x48 x).mp c_7); rw [xn_le] at z; omega)]; rfl)
  · refine xi_iload_n (q := 11) dJ9_floorMod_7cf53_10 rfl rfl ?_
    refine xi_if_eq (q := 14) (q2 := 18) dJ9_floorMod_7cf53_11 (by decide) rfl (fun c_11 => ?_) (fun c_11 => ?_)
    · refine xi_iload_n (q := 19) dJ9_floorMod_7cf53_18 rfl rfl ?_
      refine xi_ret ⟨_, rfl, rfl, dJ9_floorMod_7cf53_19⟩ (Nat.zero_le _) (Nat.zero_le _) ?_
      exact xv_eqr hp (by unfold xs_rnd; rw [show xs_rem x 48 = 0 from c_11, c_11]; rfl)
    · refine xi_iload_n (q := 15) dJ9_floorMod_7cf53_14 rfl rfl ?_
      refine xi_iload_n (q := 16) dJ9_floorMod_7cf53_15 rfl rfl ?_
      refine xi_iadd (q := 17) dJ9_floorMod_7cf53_16 rfl ?_
      refine xi_ret ⟨_, rfl, rfl, dJ9_floorMod_7cf53_17⟩ (Nat.zero_le _) (Nat.zero_le _) ?_
      exact xv_eqr hp (by unfold xs_rnd; rw [if_pos (by rw [xn_lt]; have z := xn_rs (x := x).2 (fun w => c_7 ((xn_x48 x).mpr w)); rw [xn_le] at z; have z2 : ¬ (xs_rem x 48).toInt = (0 : Int32).toInt := fun w => c_11 (Int32.toInt_inj.mp w); omega)]; rfl)

theorem xn_dis {a b : Int32} (ha : ¬ a = -1000000) (hb : ¬ b = -1000000) : (if 48 - xs_rnd (b - a - 24) < xs_rnd (b - a - 24) then 48 - xs_rnd (b - a - 24) else xs_rnd (b - a - 24)) = xs_dis a b := by
  unfold xs_dis
  have h1 : ¬ (a = -1000000 ∨ b = -1000000) := fun z => z.elim ha hb
  rw [if_neg h1]
  have h2 := xn_rnd (b - a - 24)
  generalize xs_rnd (b - a - 24) = f at h2
  have h3 : (48 - f).toInt = 48 - f.toInt := xn_sub (by rw [show (48 : Int32).toInt = 48 from rfl]; omega) (by rw [show (48 : Int32).toInt = 48 from rfl]; omega)
  by_cases h : 24 < f
  · rw [if_pos h, if_pos (by rw [xn_lt] at h ⊢; rw [h3]; rw [show (24 : Int32).toInt = 24 from rfl] at h; omega)]
  · rw [if_neg h, if_neg (fun w => by rw [xn_lt] at h w; rw [h3] at w; rw [show (24 : Int32).toInt = 24 from rfl] at h; omega)]
theorem xn_disb (a b : Int32) : 0 ≤ (xs_dis a b).toInt ∧ (xs_dis a b).toInt ≤ 24 := by
  unfold xs_dis
  by_cases h1 : a = -1000000 ∨ b = -1000000
  · rw [if_pos h1]
    decide
  · rw [if_neg h1]
    have h2 := xn_rnd (b - a - 24)
    generalize xs_rnd (b - a - 24) = f at h2
    have h3 : (48 - f).toInt = 48 - f.toInt := xn_sub (by rw [show (48 : Int32).toInt = 48 from rfl]; omega) (by rw [show (48 : Int32).toInt = 48 from rfl]; omega)
    by_cases h : 24 < f
    · rw [if_pos h, h3]
      rw [xn_lt, show (24 : Int32).toInt = 24 from rfl] at h
      omega
    · rw [if_neg h]
      rw [xn_lt, show (24 : Int32).toInt = 24 from rfl] at h
      omega

set_option maxRecDepth 20000 in
set_option maxHeartbeats 2000000 in
/-- offHalfTurn -/
theorem xm_X3_offHalfTurn : xv_K yX3_offHalfTurn mX3_offHalfTurn (fun as h n Post => ∃ (a : Int32) (b : Int32), as = [.int a, .int b] ∧ (¬ a = -1000000) ∧ (¬ b = -1000000) ∧ Post (some (.int (xs_dis a b))) h n) := by
  refine xv_entry (by decide +kernel) rfl (fun h => absurd h (by decide)) ?_
  rintro X _ h n Post ⟨a, b, rfl, ha, hb, hp⟩
  refine ⟨Nat.le_of_ble_eq_true rfl, ?_⟩
  show xv_V X mX3_offHalfTurn Post 0 0 0 [(0, .int a), (1, .int b)] [] h n
  refine xi_iload_n (q := 1) dX3_offHalfTurn_0 rfl rfl ?_
  refine xi_iload_n (q := 2) dX3_offHalfTurn_1 rfl rfl ?_
  refine xi_isub (q := 3) dX3_offHalfTurn_2 rfl ?_
  refine xi_bipush (x := 24) (q := 5) dX3_offHalfTurn_3 (by decide) rfl ?_
  refine xi_isub (q := 6) dX3_offHalfTurn_5 rfl ?_
  refine xi_bipush (x := 48) (q := 8) dX3_offHalfTurn_6 (by decide) rfl ?_
  refine xv_cS2 (q := 11) xm_J9_floorMod_7cf53 ln_X3_68 dX3_offHalfTurn_8 ⟨(Nat.le_of_ble_eq_true rfl), (Nat.le_of_ble_eq_true rfl)⟩ (Nat.le_of_ble_eq_true rfl) ⟨rfl, rfl⟩ rfl (Nat.zero_le _) (Nat.zero_le _) ?_
  refine ⟨_, rfl, ?_⟩
  refine xi_istore_n (q := 12) dX3_offHalfTurn_11 (Nat.le_of_ble_eq_true rfl) rfl ?_
  refine xi_iload_n (q := 13) dX3_offHalfTurn_12 rfl rfl ?_
  refine xi_bipush (x := 48) (q := 15) dX3_offHalfTurn_13 (by decide) rfl ?_
  refine xi_iload_n (q := 16) dX3_offHalfTurn_15 rfl rfl ?_
  refine xi_isub (q := 17) dX3_offHalfTurn_16 rfl ?_
  refine xi_mmin (q := 20) dX3_offHalfTurn_17 ln_X3_73 (Nat.le_of_ble_eq_true rfl) (Nat.le_of_ble_eq_true rfl) (Nat.zero_le _) (Nat.zero_le _) rfl ?_
  refine xi_ret ⟨_, rfl, rfl, dX3_offHalfTurn_20⟩ (Nat.zero_le _) (Nat.zero_le _) ?_
  exact xv_eqr hp (xn_dis ha hb)

def xs_G (h : xv_H) (a g l : Int32) (w : Nat → Nat → Int32) : Prop := h 8 = .inr (3, [.ref 9, .int a, .int g, .int l]) ∧ h 9 = .inl (.array .int, 7, .inr (.inr (.inr (.inr (fun k => if k < 7 then some (10 + k) else none))))) ∧ ∀ k, k < 7 → h (10 + k) = .inl (.int, 48, .inl (w k))
theorem xs_Gr {h : xv_H} {a g l : Int32} {w : Nat → Nat → Int32} (hG : xs_G h a g l w) {h' : xv_H} {k : Nat} (hk : k < 7) {r : Nat → Int32} (e : h' (10 + k) = .inl (.int, 48, .inl r)) (hf : ∀ i, i ≠ 10 + k → h' i = h i) : xs_G h' a g l (fun i => if i = k then r else w i) := by
  refine ⟨(hf 8 (by omega)).trans hG.1, (hf 9 (by omega)).trans hG.2.1, fun i hi => ?_⟩
  show h' (10 + i) = .inl (.int, 48, .inl (if i = k then r else w i))
  by_cases h1 : i = k
  · rw [if_pos h1, h1, e]
  · rw [if_neg h1, hf _ (by omega), hG.2.2 i hi]
theorem xs_Gi {k : Nat} (hk : k < 7) : va_rf ((fun k => if k < 7 then some (10 + k) else none) k) = .ref (10 + k) := by
  show va_rf (if k < 7 then some (10 + k) else none) = _
  rw [if_pos hk]
  rfl

set_option maxRecDepth 20000 in
set_option maxHeartbeats 2000000 in
/-- fillSwing -/
theorem xm_X3_fillSwing : xv_K yX3_fillSwing mX3_fillSwing (fun as h n Post => ∃ (ga : Int32) (gg : Int32) (gl : Int32) (e : Nat) (f : Nat → Int32) (s : Int32) (t : Int32) (m : Int32) (r : Nat) (g : Nat → Int32), as = [.ref 8, .ref e, .int m, .ref r] ∧ (h 8 = .inr (3, [.ref 9, .int ga, .int gg, .int gl])) ∧ (e + 1 < n) ∧ (h e = .inr (0, [.ref (e + 1), .int s, .int t])) ∧ (h (e + 1) = .inl (.int, 11, .inl f)) ∧ (r < n) ∧ (8 < n) ∧ (r ≠ 8) ∧ (r ≠ e ∧ r ≠ e + 1) ∧ (h r = .inl (.int, 48, .inl g)) ∧ (∀ h' : xv_H, h' r = .inl (.int, 48, .inl fun j => xs_swi f s m (nI j)) → (∀ i, i ≠ r → h' i = h i) → Post none h' n)) := by
  refine xv_entry (by decide +kernel) rfl (fun h => absurd h (by decide)) ?_
  rintro X _ h n Post ⟨ga, gg, gl, e, f, s, t, m, r, g, rfl, h8, hn, hE, hN, hr, h8n, hr8, hre, hg, hp⟩
  refine ⟨Nat.le_of_ble_eq_true rfl, ?_⟩
  show xv_V X mX3_fillSwing Post 0 0 0 [(0, .ref 8), (1, .ref e), (2, .int m), (3, .ref r)] [] h n
  have L3 : ∀ (d k : Nat) (g2 : Nat → Int32), k + d = 48 → (∀ j, j < k → g2 j = xs_swi f s m (nI j)) → xv_V X mX3_fillSwing Post 0 0 3 [(0, .ref 8), (1, .ref e), (2, .int m), (3, .ref r), (4, .int (nI k))] [] (va_up h r (.inl (.int, 48, .inl g2))) n := by
    intro d
    induction d using Nat.strongRecOn with
    | _ d ih =>
      intro k g2 hk hg2
      refine xi_iload (q := 5) dX3_fillSwing_3 rfl rfl ?_
      refine xi_aload_n (q := 6) dX3_fillSwing_5 rfl rfl ?_
      refine xi_alen (v := nI 48) (q := 7) dX3_fillSwing_6 (xv_self hr) rfl rfl ?_
      refine xi_icmp_ge (q := 10) (q2 := 27) dX3_fillSwing_7 (by decide) rfl (fun c_7 => ?_) (fun c_7 => ?_)
      · have hk2 : 48 ≤ k := xn_leN c_7 (by omega) (by omega)
        refine xv_norm (h' := va_up h r (.inl (.int, 48, .inl fun j => xs_swi f s m (nI j)))) (xv_nr (va_up_self _ _ _) (bx_uu _ _ _ _).symm (fun j hj => hg2 j (by omega))) ?_
        refine xi_vret ⟨rfl, dX3_fillSwing_27⟩ (Nat.zero_le _) (Nat.zero_le _) ?_
        exact hp _ (va_up_self _ _ _) (fun i hi => va_up_ne _ _ hi)
      · have hk2 : k < 48 := xn_nleN c_7 (by omega) (by omega)
        refine xi_aload_n (q := 11) dX3_fillSwing_10 rfl rfl ?_
        refine xi_iload (q := 13) dX3_fillSwing_11 rfl rfl ?_
        refine xi_aload_n (q := 14) dX3_fillSwing_13 rfl rfl ?_
        refine xi_iload_n (q := 15) dX3_fillSwing_14 rfl rfl ?_
        refine xi_iload (q := 17) dX3_fillSwing_15 rfl rfl ?_
        refine xv_cV2 (q := 20) xm_X0_swing ln_X3_60 dX3_fillSwing_17 ⟨by omega, (va_up_ne _ _ (by omega)).trans hE⟩ rfl ⟨(Nat.le_of_ble_eq_true rfl), (Nat.le_of_ble_eq_true rfl)⟩ (Nat.le_of_ble_eq_true rfl) ⟨rfl, rfl⟩ rfl (Nat.zero_le _) (Nat.zero_le _) ?_
        refine ⟨e, f, s, t, _, _, rfl, hn, (va_up_ne _ _ (by omega)).trans hE, (va_up_ne _ _ (by omega)).trans hN, ?_⟩
        refine xi_iast (q := 21) dX3_fillSwing_20 (xv_self hr) (xv_ixN hk2 (by omega)) rfl ?_
        refine xi_iinc (y := nI (k + 1)) (q := 24) dX3_fillSwing_21 rfl (xn_inc k) (Nat.le_of_ble_eq_true rfl) rfl ?_
        refine xi_goto (q := 3) dX3_fillSwing_24 (by decide) ?_
        rw [bx_uu]
        refine xv_weakS (lv' := [(0, .ref 8), (1, .ref e), (2, .int m), (3, .ref r), (4, .int (nI (k + 1)))]) ⟨rfl, rfl, rfl, rfl, rfl, trivial⟩ ?_
        exact ih (d - 1) (by omega) (k + 1) (upd g2 k (xs_swi f s m (nI k))) (by omega) (fun j hj => by
          by_cases hjk : j = k
          · rw [hjk, pk_us]
          · rw [pk_un hjk]; exact hg2 j (by omega))
  refine xi_iconst (x := 0) (q := 1) dX3_fillSwing_0 (by decide) rfl ?_
  refine xi_istore (q := 3) dX3_fillSwing_1 (Nat.le_of_ble_eq_true rfl) rfl ?_
  refine xv_weakS (lv' := [(0, .ref 8), (1, .ref e), (2, .int m), (3, .ref r), (4, .int (nI 0))]) ⟨rfl, rfl, rfl, rfl, rfl, trivial⟩ ?_
  have h5 := L3 48 0 g (by omega) (fun j hj => absurd hj (Nat.not_lt_zero j))
  rw [xv_upid hg] at h5
  exact h5

set_option maxRecDepth 20000 in
set_option maxHeartbeats 2000000 in
/-- fillSwings -/
theorem xm_X3_fillSwings : xv_K yX3_fillSwings mX3_fillSwings (fun as h n Post => ∃ (ga : Int32) (gg : Int32) (gl : Int32) (w : Nat → Nat → Int32) (e : Nat) (f : Nat → Int32) (s : Int32) (t : Int32), as = [.ref 8, .ref e] ∧ (e + 1 < n) ∧ (h e = .inr (0, [.ref (e + 1), .int s, .int t])) ∧ (h (e + 1) = .inl (.int, 11, .inl f)) ∧ (xs_G h ga gg gl w) ∧ (16 < n) ∧ (e + 1 < 8 ∨ 16 < e) ∧ (∀ h' : xv_H, xs_G h' ga gg gl (fun k => if k = 0 then w 0 else fun j => xs_swi f s (nI k) (nI j)) → (∀ i, i < 8 ∨ 16 < i → h' i = h i) → Post none h' n)) := by
  refine xv_entry (by decide +kernel) rfl (fun h => absurd h (by decide)) ?_
  rintro X _ h n Post ⟨ga, gg, gl, w, e, f, s, t, rfl, hn, hE, hN, hG0, h8n, he, hp⟩
  refine ⟨Nat.le_of_ble_eq_true rfl, ?_⟩
  show xv_V X mX3_fillSwings Post 0 0 0 [(0, .ref 8), (1, .ref e)] [] h n
  have L2 : ∀ (d k : Nat) (hh : xv_H) (w2 : Nat → Nat → Int32), k + d = 7 → 1 ≤ k → xs_G hh ga gg gl w2 → (∀ i, i < 8 ∨ 16 < i → hh i = h i) → (∀ i, 1 ≤ i → i < k → w2 i = fun j => xs_swi f s (nI i) (nI j)) → w2 0 = w 0 → xv_V X mX3_fillSwings Post 0 0 2 [(0, .ref 8), (1, .ref e), (2, .int (nI k))] [] hh n := by
    intro d
    induction d using Nat.strongRecOn with
    | _ d ih =>
      intro k hh w2 hk hk1 hG hf hw hw0
      refine xi_iload_n (q := 3) dX3_fillSwings_2 rfl rfl ?_
      refine xi_aload_n (q := 4) dX3_fillSwings_3 rfl rfl ?_
      refine xi_getf (q := 7) dX3_fillSwings_4 fl_X3_11 ⟨by omega, hG.1⟩ rfl rfl ?_
      refine xi_alen (v := nI 7) (q := 8) dX3_fillSwings_7 ⟨by omega, hG.2.1⟩ rfl rfl ?_
      refine xi_icmp_ge (q := 11) (q2 := 29) dX3_fillSwings_8 (by decide) rfl (fun c_8 => ?_) (fun c_8 => ?_)
      · have hk2 : 7 ≤ k := xn_leN c_8 (by omega) (by omega)
        refine xi_vret ⟨rfl, dX3_fillSwings_29⟩ (Nat.zero_le _) (Nat.zero_le _) ?_
        exact hp hh (by
          have hk7 : k = 7 := by omega
          refine ⟨hG.1, hG.2.1, fun i hi => ?_⟩
          rw [hG.2.2 i hi]
          show _ = Sum.inl (FieldType.int, 48, Sum.inl (if i = 0 then w 0 else fun j => xs_swi f s (nI i) (nI j)))
          by_cases hi0 : i = 0
          · rw [if_pos hi0, hi0, hw0]
          · rw [if_neg hi0, hw i (by omega) (by omega)]) hf
      · have hk2 : k < 7 := xn_nleN c_8 (by omega) (by omega)
        refine xi_aload_n (q := 12) dX3_fillSwings_11 rfl rfl ?_
        refine xi_aload_n (q := 13) dX3_fillSwings_12 rfl rfl ?_
        refine xi_iload_n (q := 14) dX3_fillSwings_13 rfl rfl ?_
        refine xi_aload_n (q := 15) dX3_fillSwings_14 rfl rfl ?_
        refine xi_getf (q := 18) dX3_fillSwings_15 fl_X3_11 ⟨by omega, hG.1⟩ rfl rfl ?_
        refine xi_iload_n (q := 19) dX3_fillSwings_18 rfl rfl ?_
        refine xi_aald (q := 20) dX3_fillSwings_19 ⟨by omega, hG.2.1⟩ rfl (xv_ixN hk2 (by omega)) (xs_Gi hk2) rfl ?_
        refine xv_cV3 (q := 23) xm_X3_fillSwing ln_X3_16 dX3_fillSwings_20 ⟨by omega, hG.1⟩ rfl ⟨(Nat.le_of_ble_eq_true rfl), (Nat.le_of_ble_eq_true rfl)⟩ (Nat.le_of_ble_eq_true rfl) ⟨rfl, rfl⟩ rfl (Nat.zero_le _) (Nat.zero_le _) ?_
        refine ⟨ga, gg, gl, e, f, s, t, nI k, 10 + k, w2 k, rfl, hG.1, hn, (hf e (by omega)).trans hE, (hf (e + 1) (by omega)).trans hN, by omega, by omega, by omega, by omega, hG.2.2 k hk2, fun h2 q1 q2 => ?_⟩
        refine xi_iinc (y := nI (k + 1)) (q := 26) dX3_fillSwings_23 rfl (xn_inc k) (Nat.le_of_ble_eq_true rfl) rfl ?_
        refine xi_goto (q := 2) dX3_fillSwings_26 (by decide) ?_
        refine xv_weakS (lv' := [(0, .ref 8), (1, .ref e), (2, .int (nI (k + 1)))]) ⟨rfl, rfl, rfl, trivial⟩ ?_
        exact ih (d - 1) (by omega) (k + 1) h2 _ (by omega) (by omega) (xs_Gr hG hk2 q1 q2) (fun i hi => (q2 i (by omega)).trans (hf i hi)) (fun i h1 h2 => by
          show (if i = k then _ else w2 i) = _
          by_cases hik : i = k
          · rw [if_pos hik, hik]
          · rw [if_neg hik]; exact hw i h1 (by omega)) (by show (if 0 = k then _ else w2 0) = _; rw [if_neg (by omega)]; exact hw0)
  refine xi_iconst (x := 1) (q := 1) dX3_fillSwings_0 (by decide) rfl ?_
  refine xi_istore_n (q := 2) dX3_fillSwings_1 (Nat.le_of_ble_eq_true rfl) rfl ?_
  refine xv_weakS (lv' := [(0, .ref 8), (1, .ref e), (2, .int (nI 1))]) ⟨rfl, rfl, rfl, trivial⟩ ?_
  exact L2 6 1 h w (by omega) (by omega) hG0 (fun _ _ => rfl) (fun i h1 h2 => absurd h1 (by omega)) rfl
