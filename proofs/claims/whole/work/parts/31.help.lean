theorem xv_self {h : xv_H} {n a : Nat} {c : xv_E} (ha : a < n) : a < n ∧ va_up h a c a = c := ⟨ha, va_up_self h a c⟩
theorem xv_keep {h : xv_H} {n x a : Nat} {c e : xv_E} (hne : x ≠ a) (hx : x < n ∧ h x = e) : x < n ∧ va_up h a c x = e := ⟨hx.1, (va_up_ne h c hne).trans hx.2⟩
theorem xv_ixN {k m : Nat} (h : k < m) (hm : m < 2147483648) : xv_ix (nI k) m k := ⟨vp_in_nI h hm, nI_clamp (by omega)⟩
theorem xn_inc (k : Nat) : nI k + Int32.ofInt 1 = nI (k + 1) := nI_1 k
theorem xn_dec (k : Nat) : nI (k + 1) + Int32.ofInt (-1) = nI k := pk_m1 k
theorem xn_NI {k : Nat} (h : k < 2147483648) : (nI k).toInt = k := nI_toInt h
def xv_sub (lv : List (Nat × Value)) : List (Nat × Value) → Prop
  | [] => True
  | x :: r => xv_get lv x.1 = some x.2 ∧ xv_sub lv r
theorem xv_subm {lv : List (Nat × Value)} : ∀ {lv' : List (Nat × Value)}, xv_sub lv lv' → ∀ x ∈ lv', xv_get lv x.1 = some x.2
  | [], _, x, hx => by cases hx
  | y :: r, h, x, hx => by
    rcases List.mem_cons.mp hx with e | e
    · rw [e]; exact h.1
    · exact xv_subm h.2 x e
/-- two cells that hold the same within their lengths -/
def xv_sim (e e' : xv_E) : Prop := e = e' ∨ (∃ ty m f g, e = .inl (ty, m, .inl f) ∧ e' = .inl (ty, m, .inl g) ∧ ∀ j, j < m → f j = g j) ∨ ∃ ty m f g, e = .inl (ty, m, .inr (.inr (.inr (.inr f)))) ∧ e' = .inl (ty, m, .inr (.inr (.inr (.inr g)))) ∧ (∀ j, j < m → f j = g j) ∧ ∀ j, m ≤ j → g j = none
theorem xv_arrc {c : ClassId} {m : Nat} {f g : Nat → Value} (h : ∀ j, j < m → f j = g j) : arrV c m f = arrV c m g := by
  unfold arrV
  congr 2
  funext i
  exact h i.1 i.2
theorem xv_ink {i : Int32} {N : Nat} (h : (decide (0 ≤ i.toInt) && decide (i.toInt < N)) = true) : vp_in i N := by
  rw [Bool.and_eq_true, decide_eq_true_eq, decide_eq_true_eq] at h
  exact vp_in_iff.mpr h
section XW
variable {X : Nat × (Nat → Int32)} {M : xv_M} {Post : xv_P} {cells slots pc q : Nat} {lv lv' : List (Nat × Value)} {st : List Value} {h : xv_H} {n : Nat} {a : Nat}
theorem xv_weakS (hl : xv_sub lv lv') (k : xv_V X M Post cells slots pc lv' st h n) : xv_V X M Post cells slots pc lv st h n := xv_weak (xv_subm hl) k
theorem xv_norm {h' : xv_H} (hs : ∀ i, i < n → xv_sim (h i) (h' i)) (k : xv_V X M Post cells slots pc lv st h' n) : xv_V X M Post cells slots pc lv st h n := by
  intro p l e s m args below meth c D A ad0 n0 Qf C ad H locs ls Q
  obtain ⟨hn, cA, hP, hD, ht, hve⟩ := Q.2.2.1
  have hat : ∀ i, i < n → va_at D xv_cl (ad i, xv_c ad (cA i) (h' i)) H := fun i hi => by
    have h0 := hP i _ (xv_wget hi)
    rcases hs i hi with e | ⟨ty, m, f, g, e1, e2, e3⟩ | ⟨ty, m, f, g, e1, e2, e3, e4⟩
    · rw [← e]; exact h0
    · rw [e1] at h0
      rw [e2]
      show H[ad i]? = some (vp_cell (cA i) (m, .inl g))
      rw [show vp_cell (cA i) (m, .inl g) = vp_cell (cA i) (m, .inl f) from by rw [vp_cell_i, vp_cell_i]; exact xv_arrc (fun j hj => by rw [e3 j hj])]
      exact h0
    · rw [e1] at h0
      rw [e2]
      show H[ad i]? = some (vp_cell (cA i) (m, .inr (.inr (.inr (.inr (fun k => (g k).map ad))))))
      rw [show vp_cell (cA i) (m, .inr (.inr (.inr (.inr (fun k => (g k).map ad))))) = vp_cell (cA i) (m, .inr (.inr (.inr (.inr (fun k => (f k).map ad))))) from by rw [vp_cell_q, vp_cell_q]; exact xv_arrc (fun j hj => by rw [e3 j hj])]
      exact h0
  refine k p l e s m args below meth c D A ad0 n0 Qf C ad H locs ls ⟨Q.1, Q.2.1, ⟨hn, cA, fun k q hk => ?_, ⟨fun i j p q hi hj hpq => ?_, fun k q hk => ?_⟩, fun i hi ty x he => ?_, fun i hi => ?_⟩, Q.2.2.2.1, Q.2.2.2.2.1, Q.2.2.2.2.2.1, Q.2.2.2.2.2.2⟩
  · obtain ⟨hk1, rfl⟩ := xv_wlt hk
    exact hat k hk1
  · obtain ⟨hi1, rfl⟩ := xv_wlt hi
    obtain ⟨hj1, rfl⟩ := xv_wlt hj
    exact hD.1 i j _ _ (xv_wget hi1) (xv_wget hj1) hpq
  · obtain ⟨hk1, rfl⟩ := xv_wlt hk
    exact hD.2 k (ad k, xv_c ad (cA k) (h k)) (xv_wget hk1)
  · rcases hs i hi with e | ⟨ty', m, f, g, e1, e2, e3⟩ | ⟨ty', m, f, g, e1, e2, e3, e4⟩
    · exact ht i hi ty x (e.trans he)
    · rw [e2] at he
      cases he
      exact ht i hi _ _ e1
    · rw [e2] at he
      cases he
      exact ht i hi _ _ e1
  · have h0 := hve i hi
    rcases hs i hi with e | ⟨ty', m, f, g, e1, e2, e3⟩ | ⟨ty', m, f, g, e1, e2, e3, e4⟩
    · rw [← e]; exact h0
    · rw [e2]; trivial
    · rw [e1] at h0
      rw [e2]
      intro k b hb
      by_cases hk : k < m
      · exact h0 k b (by rw [e3 k hk]; exact hb)
      · rw [e4 k (by omega)] at hb
        cases hb
theorem xi_ixor {x y : Int32} (hd : decode M.2.1 pc = .ok (.ixor, 1)) (hq : pc + 1 = q) (k : xv_V X M Post cells slots q lv (.int (x ^^^ y) :: st) h n) : xv_V X M Post cells slots pc lv (.int y :: .int x :: st) h n := by
  subst hq
  exact xv_step k (fun _ _ _ _ _ _ _ _ _ _ _ _ _ _ e b _ _ _ _ _ w => lv_ixor e b hd w) (fun _ z => xv_cons trivial (xv_tl (xv_tl z)))
theorem xv_cV0 {i ci : Nat} {fs : List Value} {y : MethodName} {M' : xv_M} {Pre : List Value → xv_H → Nat → xv_P → Prop} (hK : xv_K y M' Pre) (hL : xv_lV M.1 i y M' 0) (hd : decode M.2.1 pc = .ok (.invokevirtual i, 3)) (hh : a < n ∧ h a = .inr (ci, fs)) (hci : (xv_cl[ci]?).map (·.1) = some M'.1) (hfit : xv_fit M.2.2.2.2.2 M'.2.2.2.2.2 M'.2.2.1) (hcat : (st.map fun v => v.category).sum ≤ 8) (hz : M'.2.2.2.2.2.cells = 0 ∧ M'.2.2.2.2.2.slots = 0) (hq : pc + 3 = q)
    (hc : cells ≤ M.2.2.2.2.2.cells) (hs : slots ≤ M.2.2.2.2.2.slots) (hpre : Pre [.ref a] h n (fun v h' n' => xv_V X M Post cells slots q lv (xv_pu v st) h' n')) : xv_V X M Post cells slots pc lv (.ref a :: st) h n :=
  xv_callV (as := []) hK hL hd rfl hh hci hfit hcat (by rw [hz.1]; exact hc) (by rw [hz.2]; exact hs) hq (by rw [hz.1, hz.2]; exact hpre)
theorem xv_cS0 {i : Nat} {y : MethodName} {M' : xv_M} {Pre : List Value → xv_H → Nat → xv_P → Prop} (hK : xv_K y M' Pre) (hL : xv_lS M.1 i y M' 0) (hd : decode M.2.1 pc = .ok (.invokestatic i, 3)) (hfit : xv_fit M.2.2.2.2.2 M'.2.2.2.2.2 M'.2.2.1) (hcat : (st.map fun v => v.category).sum ≤ 8) (hz : M'.2.2.2.2.2.cells = 0 ∧ M'.2.2.2.2.2.slots = 0) (hq : pc + 3 = q)
    (hc : cells ≤ M.2.2.2.2.2.cells) (hs : slots ≤ M.2.2.2.2.2.slots) (hpre : Pre [] h n (fun v h' n' => xv_V X M Post cells slots q lv (xv_pu v st) h' n')) : xv_V X M Post cells slots pc lv (st) h n :=
  xv_callS (as := []) hK hL hd rfl hfit hcat (by rw [hz.1]; exact hc) (by rw [hz.2]; exact hs) hq (by rw [hz.1, hz.2]; exact hpre)
theorem xv_cV1 {i ci : Nat} {fs : List Value} {y : MethodName} {M' : xv_M} {Pre : List Value → xv_H → Nat → xv_P → Prop} {v1 : Value} (hK : xv_K y M' Pre) (hL : xv_lV M.1 i y M' 1) (hd : decode M.2.1 pc = .ok (.invokevirtual i, 3)) (hh : a < n ∧ h a = .inr (ci, fs)) (hci : (xv_cl[ci]?).map (·.1) = some M'.1) (hfit : xv_fit M.2.2.2.2.2 M'.2.2.2.2.2 M'.2.2.1) (hcat : (st.map fun v => v.category).sum ≤ 8) (hz : M'.2.2.2.2.2.cells = 0 ∧ M'.2.2.2.2.2.slots = 0) (hq : pc + 3 = q)
    (hc : cells ≤ M.2.2.2.2.2.cells) (hs : slots ≤ M.2.2.2.2.2.slots) (hpre : Pre (.ref a :: [v1]) h n (fun v h' n' => xv_V X M Post cells slots q lv (xv_pu v st) h' n')) : xv_V X M Post cells slots pc lv (v1 :: .ref a :: st) h n :=
  xv_callV (as := [v1]) hK hL hd rfl hh hci hfit hcat (by rw [hz.1]; exact hc) (by rw [hz.2]; exact hs) hq (by rw [hz.1, hz.2]; exact hpre)
theorem xv_cS1 {i : Nat} {y : MethodName} {M' : xv_M} {Pre : List Value → xv_H → Nat → xv_P → Prop} {v1 : Value} (hK : xv_K y M' Pre) (hL : xv_lS M.1 i y M' 1) (hd : decode M.2.1 pc = .ok (.invokestatic i, 3)) (hfit : xv_fit M.2.2.2.2.2 M'.2.2.2.2.2 M'.2.2.1) (hcat : (st.map fun v => v.category).sum ≤ 8) (hz : M'.2.2.2.2.2.cells = 0 ∧ M'.2.2.2.2.2.slots = 0) (hq : pc + 3 = q)
    (hc : cells ≤ M.2.2.2.2.2.cells) (hs : slots ≤ M.2.2.2.2.2.slots) (hpre : Pre [v1] h n (fun v h' n' => xv_V X M Post cells slots q lv (xv_pu v st) h' n')) : xv_V X M Post cells slots pc lv (v1 :: st) h n :=
  xv_callS (as := [v1]) hK hL hd rfl hfit hcat (by rw [hz.1]; exact hc) (by rw [hz.2]; exact hs) hq (by rw [hz.1, hz.2]; exact hpre)
theorem xv_cV2 {i ci : Nat} {fs : List Value} {y : MethodName} {M' : xv_M} {Pre : List Value → xv_H → Nat → xv_P → Prop} {v1 v2 : Value} (hK : xv_K y M' Pre) (hL : xv_lV M.1 i y M' 2) (hd : decode M.2.1 pc = .ok (.invokevirtual i, 3)) (hh : a < n ∧ h a = .inr (ci, fs)) (hci : (xv_cl[ci]?).map (·.1) = some M'.1) (hfit : xv_fit M.2.2.2.2.2 M'.2.2.2.2.2 M'.2.2.1) (hcat : (st.map fun v => v.category).sum ≤ 8) (hz : M'.2.2.2.2.2.cells = 0 ∧ M'.2.2.2.2.2.slots = 0) (hq : pc + 3 = q)
    (hc : cells ≤ M.2.2.2.2.2.cells) (hs : slots ≤ M.2.2.2.2.2.slots) (hpre : Pre (.ref a :: [v1, v2]) h n (fun v h' n' => xv_V X M Post cells slots q lv (xv_pu v st) h' n')) : xv_V X M Post cells slots pc lv (v2 :: v1 :: .ref a :: st) h n :=
  xv_callV (as := [v1, v2]) hK hL hd rfl hh hci hfit hcat (by rw [hz.1]; exact hc) (by rw [hz.2]; exact hs) hq (by rw [hz.1, hz.2]; exact hpre)
theorem xv_cS2 {i : Nat} {y : MethodName} {M' : xv_M} {Pre : List Value → xv_H → Nat → xv_P → Prop} {v1 v2 : Value} (hK : xv_K y M' Pre) (hL : xv_lS M.1 i y M' 2) (hd : decode M.2.1 pc = .ok (.invokestatic i, 3)) (hfit : xv_fit M.2.2.2.2.2 M'.2.2.2.2.2 M'.2.2.1) (hcat : (st.map fun v => v.category).sum ≤ 8) (hz : M'.2.2.2.2.2.cells = 0 ∧ M'.2.2.2.2.2.slots = 0) (hq : pc + 3 = q)
    (hc : cells ≤ M.2.2.2.2.2.cells) (hs : slots ≤ M.2.2.2.2.2.slots) (hpre : Pre [v1, v2] h n (fun v h' n' => xv_V X M Post cells slots q lv (xv_pu v st) h' n')) : xv_V X M Post cells slots pc lv (v2 :: v1 :: st) h n :=
  xv_callS (as := [v1, v2]) hK hL hd rfl hfit hcat (by rw [hz.1]; exact hc) (by rw [hz.2]; exact hs) hq (by rw [hz.1, hz.2]; exact hpre)
theorem xv_cV3 {i ci : Nat} {fs : List Value} {y : MethodName} {M' : xv_M} {Pre : List Value → xv_H → Nat → xv_P → Prop} {v1 v2 v3 : Value} (hK : xv_K y M' Pre) (hL : xv_lV M.1 i y M' 3) (hd : decode M.2.1 pc = .ok (.invokevirtual i, 3)) (hh : a < n ∧ h a = .inr (ci, fs)) (hci : (xv_cl[ci]?).map (·.1) = some M'.1) (hfit : xv_fit M.2.2.2.2.2 M'.2.2.2.2.2 M'.2.2.1) (hcat : (st.map fun v => v.category).sum ≤ 8) (hz : M'.2.2.2.2.2.cells = 0 ∧ M'.2.2.2.2.2.slots = 0) (hq : pc + 3 = q)
    (hc : cells ≤ M.2.2.2.2.2.cells) (hs : slots ≤ M.2.2.2.2.2.slots) (hpre : Pre (.ref a :: [v1, v2, v3]) h n (fun v h' n' => xv_V X M Post cells slots q lv (xv_pu v st) h' n')) : xv_V X M Post cells slots pc lv (v3 :: v2 :: v1 :: .ref a :: st) h n :=
  xv_callV (as := [v1, v2, v3]) hK hL hd rfl hh hci hfit hcat (by rw [hz.1]; exact hc) (by rw [hz.2]; exact hs) hq (by rw [hz.1, hz.2]; exact hpre)
theorem xv_cS3 {i : Nat} {y : MethodName} {M' : xv_M} {Pre : List Value → xv_H → Nat → xv_P → Prop} {v1 v2 v3 : Value} (hK : xv_K y M' Pre) (hL : xv_lS M.1 i y M' 3) (hd : decode M.2.1 pc = .ok (.invokestatic i, 3)) (hfit : xv_fit M.2.2.2.2.2 M'.2.2.2.2.2 M'.2.2.1) (hcat : (st.map fun v => v.category).sum ≤ 8) (hz : M'.2.2.2.2.2.cells = 0 ∧ M'.2.2.2.2.2.slots = 0) (hq : pc + 3 = q)
    (hc : cells ≤ M.2.2.2.2.2.cells) (hs : slots ≤ M.2.2.2.2.2.slots) (hpre : Pre [v1, v2, v3] h n (fun v h' n' => xv_V X M Post cells slots q lv (xv_pu v st) h' n')) : xv_V X M Post cells slots pc lv (v3 :: v2 :: v1 :: st) h n :=
  xv_callS (as := [v1, v2, v3]) hK hL hd rfl hfit hcat (by rw [hz.1]; exact hc) (by rw [hz.2]; exact hs) hq (by rw [hz.1, hz.2]; exact hpre)
theorem xv_cV4 {i ci : Nat} {fs : List Value} {y : MethodName} {M' : xv_M} {Pre : List Value → xv_H → Nat → xv_P → Prop} {v1 v2 v3 v4 : Value} (hK : xv_K y M' Pre) (hL : xv_lV M.1 i y M' 4) (hd : decode M.2.1 pc = .ok (.invokevirtual i, 3)) (hh : a < n ∧ h a = .inr (ci, fs)) (hci : (xv_cl[ci]?).map (·.1) = some M'.1) (hfit : xv_fit M.2.2.2.2.2 M'.2.2.2.2.2 M'.2.2.1) (hcat : (st.map fun v => v.category).sum ≤ 8) (hz : M'.2.2.2.2.2.cells = 0 ∧ M'.2.2.2.2.2.slots = 0) (hq : pc + 3 = q)
    (hc : cells ≤ M.2.2.2.2.2.cells) (hs : slots ≤ M.2.2.2.2.2.slots) (hpre : Pre (.ref a :: [v1, v2, v3, v4]) h n (fun v h' n' => xv_V X M Post cells slots q lv (xv_pu v st) h' n')) : xv_V X M Post cells slots pc lv (v4 :: v3 :: v2 :: v1 :: .ref a :: st) h n :=
  xv_callV (as := [v1, v2, v3, v4]) hK hL hd rfl hh hci hfit hcat (by rw [hz.1]; exact hc) (by rw [hz.2]; exact hs) hq (by rw [hz.1, hz.2]; exact hpre)
theorem xv_cS4 {i : Nat} {y : MethodName} {M' : xv_M} {Pre : List Value → xv_H → Nat → xv_P → Prop} {v1 v2 v3 v4 : Value} (hK : xv_K y M' Pre) (hL : xv_lS M.1 i y M' 4) (hd : decode M.2.1 pc = .ok (.invokestatic i, 3)) (hfit : xv_fit M.2.2.2.2.2 M'.2.2.2.2.2 M'.2.2.1) (hcat : (st.map fun v => v.category).sum ≤ 8) (hz : M'.2.2.2.2.2.cells = 0 ∧ M'.2.2.2.2.2.slots = 0) (hq : pc + 3 = q)
    (hc : cells ≤ M.2.2.2.2.2.cells) (hs : slots ≤ M.2.2.2.2.2.slots) (hpre : Pre [v1, v2, v3, v4] h n (fun v h' n' => xv_V X M Post cells slots q lv (xv_pu v st) h' n')) : xv_V X M Post cells slots pc lv (v4 :: v3 :: v2 :: v1 :: st) h n :=
  xv_callS (as := [v1, v2, v3, v4]) hK hL hd rfl hfit hcat (by rw [hz.1]; exact hc) (by rw [hz.2]; exact hs) hq (by rw [hz.1, hz.2]; exact hpre)
theorem xv_cV5 {i ci : Nat} {fs : List Value} {y : MethodName} {M' : xv_M} {Pre : List Value → xv_H → Nat → xv_P → Prop} {v1 v2 v3 v4 v5 : Value} (hK : xv_K y M' Pre) (hL : xv_lV M.1 i y M' 5) (hd : decode M.2.1 pc = .ok (.invokevirtual i, 3)) (hh : a < n ∧ h a = .inr (ci, fs)) (hci : (xv_cl[ci]?).map (·.1) = some M'.1) (hfit : xv_fit M.2.2.2.2.2 M'.2.2.2.2.2 M'.2.2.1) (hcat : (st.map fun v => v.category).sum ≤ 8) (hz : M'.2.2.2.2.2.cells = 0 ∧ M'.2.2.2.2.2.slots = 0) (hq : pc + 3 = q)
    (hc : cells ≤ M.2.2.2.2.2.cells) (hs : slots ≤ M.2.2.2.2.2.slots) (hpre : Pre (.ref a :: [v1, v2, v3, v4, v5]) h n (fun v h' n' => xv_V X M Post cells slots q lv (xv_pu v st) h' n')) : xv_V X M Post cells slots pc lv (v5 :: v4 :: v3 :: v2 :: v1 :: .ref a :: st) h n :=
  xv_callV (as := [v1, v2, v3, v4, v5]) hK hL hd rfl hh hci hfit hcat (by rw [hz.1]; exact hc) (by rw [hz.2]; exact hs) hq (by rw [hz.1, hz.2]; exact hpre)
theorem xv_cS5 {i : Nat} {y : MethodName} {M' : xv_M} {Pre : List Value → xv_H → Nat → xv_P → Prop} {v1 v2 v3 v4 v5 : Value} (hK : xv_K y M' Pre) (hL : xv_lS M.1 i y M' 5) (hd : decode M.2.1 pc = .ok (.invokestatic i, 3)) (hfit : xv_fit M.2.2.2.2.2 M'.2.2.2.2.2 M'.2.2.1) (hcat : (st.map fun v => v.category).sum ≤ 8) (hz : M'.2.2.2.2.2.cells = 0 ∧ M'.2.2.2.2.2.slots = 0) (hq : pc + 3 = q)
    (hc : cells ≤ M.2.2.2.2.2.cells) (hs : slots ≤ M.2.2.2.2.2.slots) (hpre : Pre [v1, v2, v3, v4, v5] h n (fun v h' n' => xv_V X M Post cells slots q lv (xv_pu v st) h' n')) : xv_V X M Post cells slots pc lv (v5 :: v4 :: v3 :: v2 :: v1 :: st) h n :=
  xv_callS (as := [v1, v2, v3, v4, v5]) hK hL hd rfl hfit hcat (by rw [hz.1]; exact hc) (by rw [hz.2]; exact hs) hq (by rw [hz.1, hz.2]; exact hpre)
theorem xv_cV6 {i ci : Nat} {fs : List Value} {y : MethodName} {M' : xv_M} {Pre : List Value → xv_H → Nat → xv_P → Prop} {v1 v2 v3 v4 v5 v6 : Value} (hK : xv_K y M' Pre) (hL : xv_lV M.1 i y M' 6) (hd : decode M.2.1 pc = .ok (.invokevirtual i, 3)) (hh : a < n ∧ h a = .inr (ci, fs)) (hci : (xv_cl[ci]?).map (·.1) = some M'.1) (hfit : xv_fit M.2.2.2.2.2 M'.2.2.2.2.2 M'.2.2.1) (hcat : (st.map fun v => v.category).sum ≤ 8) (hz : M'.2.2.2.2.2.cells = 0 ∧ M'.2.2.2.2.2.slots = 0) (hq : pc + 3 = q)
    (hc : cells ≤ M.2.2.2.2.2.cells) (hs : slots ≤ M.2.2.2.2.2.slots) (hpre : Pre (.ref a :: [v1, v2, v3, v4, v5, v6]) h n (fun v h' n' => xv_V X M Post cells slots q lv (xv_pu v st) h' n')) : xv_V X M Post cells slots pc lv (v6 :: v5 :: v4 :: v3 :: v2 :: v1 :: .ref a :: st) h n :=
  xv_callV (as := [v1, v2, v3, v4, v5, v6]) hK hL hd rfl hh hci hfit hcat (by rw [hz.1]; exact hc) (by rw [hz.2]; exact hs) hq (by rw [hz.1, hz.2]; exact hpre)
theorem xv_cS6 {i : Nat} {y : MethodName} {M' : xv_M} {Pre : List Value → xv_H → Nat → xv_P → Prop} {v1 v2 v3 v4 v5 v6 : Value} (hK : xv_K y M' Pre) (hL : xv_lS M.1 i y M' 6) (hd : decode M.2.1 pc = .ok (.invokestatic i, 3)) (hfit : xv_fit M.2.2.2.2.2 M'.2.2.2.2.2 M'.2.2.1) (hcat : (st.map fun v => v.category).sum ≤ 8) (hz : M'.2.2.2.2.2.cells = 0 ∧ M'.2.2.2.2.2.slots = 0) (hq : pc + 3 = q)
    (hc : cells ≤ M.2.2.2.2.2.cells) (hs : slots ≤ M.2.2.2.2.2.slots) (hpre : Pre [v1, v2, v3, v4, v5, v6] h n (fun v h' n' => xv_V X M Post cells slots q lv (xv_pu v st) h' n')) : xv_V X M Post cells slots pc lv (v6 :: v5 :: v4 :: v3 :: v2 :: v1 :: st) h n :=
  xv_callS (as := [v1, v2, v3, v4, v5, v6]) hK hL hd rfl hfit hcat (by rw [hz.1]; exact hc) (by rw [hz.2]; exact hs) hq (by rw [hz.1, hz.2]; exact hpre)
theorem xv_cS7 {i : Nat} {y : MethodName} {M' : xv_M} {Pre : List Value → xv_H → Nat → xv_P → Prop} {v1 v2 v3 v4 v5 v6 v7 : Value} (hK : xv_K y M' Pre) (hL : xv_lS M.1 i y M' 7) (hd : decode M.2.1 pc = .ok (.invokestatic i, 3)) (hfit : xv_fit M.2.2.2.2.2 M'.2.2.2.2.2 M'.2.2.1) (hcat : (st.map fun v => v.category).sum ≤ 8) (hz : M'.2.2.2.2.2.cells = 0 ∧ M'.2.2.2.2.2.slots = 0) (hq : pc + 3 = q)
    (hc : cells ≤ M.2.2.2.2.2.cells) (hs : slots ≤ M.2.2.2.2.2.slots) (hpre : Pre [v1, v2, v3, v4, v5, v6, v7] h n (fun v h' n' => xv_V X M Post cells slots q lv (xv_pu v st) h' n')) : xv_V X M Post cells slots pc lv (v7 :: v6 :: v5 :: v4 :: v3 :: v2 :: v1 :: st) h n :=
  xv_callS (as := [v1, v2, v3, v4, v5, v6, v7]) hK hL hd rfl hfit hcat (by rw [hz.1]; exact hc) (by rw [hz.2]; exact hs) hq (by rw [hz.1, hz.2]; exact hpre)
end XW
