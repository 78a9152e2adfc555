def xs_en2 (o : Option Nat) : Int32 := match o with
  | none => -1000000
  | some v => nI v
theorem xn_nN {v : Nat} (h : v < 2147483648) : ¬ nI v = -1000000 := fun z => by
  rw [xn_eq, xn_NI h, show (-1000000 : Int32).toInt = -1000000 from rfl] at z
  omega
theorem xn_en2 {o : Option Nat} (h : xs_bd 500000000 o) : xs_en2 o = -1000000 ↔ o = none := by
  cases o with
  | none => exact ⟨fun _ => rfl, fun _ => rfl⟩
  | some v =>
    have hv := h v rfl
    exact ⟨fun z => absurd z (xn_nN (v := v) (by omega)), fun z => by cases z⟩
def xs_mm (m : Nat) : Int32 := if m = 0 then -1000000 else nI m
theorem xn_mm1 {m : Nat} (h : ¬ m = 0) : xs_mm m = nI m := if_neg h
theorem xn_mm {m : Nat} (h : m ≤ 4000) : xs_mm m = -1000000 ↔ m = 0 := by
  unfold xs_mm
  by_cases z : m = 0
  · rw [if_pos z]
    exact ⟨fun _ => z, fun _ => rfl⟩
  · rw [if_neg z]
    exact ⟨fun y => absurd y (xn_nN (by omega)), fun y => absurd y z⟩
theorem xn_spA {w l : Int32} : ((w - l) / 10 ≤ 60 → (w - l) / 10 = xs_sp w l) ∧ (¬ (w - l) / 10 ≤ 60 → 60 = xs_sp w l) := by
  unfold xs_sp
  generalize (w - l) / 10 = x
  refine ⟨fun h => ?_, fun h => ?_⟩
  · by_cases z : x < 60
    · rw [if_pos z]
    · rw [if_neg z, xn_eq]
      rw [xn_le] at h
      rw [xn_lt] at z
      omega
  · rw [if_neg (fun z => h (by rw [xn_le]; rw [xn_lt] at z; omega))]
theorem xn_ceil {x p : Nat} (hp : 0 < p) : (x + p - 1) / p = x / p + (if 0 < x % p then 1 else 0) := by
  have h1 := Nat.div_add_mod x p
  have h2 := Nat.mod_lt x hp
  obtain ⟨q, hq⟩ : ∃ q, q = x / p := ⟨_, rfl⟩
  obtain ⟨r, hr⟩ : ∃ r, r = x % p := ⟨_, rfl⟩
  rw [← hq, ← hr] at h1 ⊢
  rw [← hr] at h2
  have h3 : p * q = q * p := Nat.mul_comm _ _
  by_cases z : 0 < r
  · rw [if_pos z]
    refine Nat.div_eq_of_lt_le ?_ ?_
    · rw [Nat.add_mul, Nat.one_mul]; omega
    · rw [Nat.add_mul, Nat.add_mul, Nat.one_mul]; omega
  · rw [if_neg z]
    refine Nat.div_eq_of_lt_le ?_ ?_
    · rw [Nat.add_zero]; omega
    · rw [Nat.add_zero, Nat.add_mul, Nat.one_mul]; omega
theorem xn_Mq {w l mi st : Int32} (h : ¬ xs_sp w l < 1) (hm : 1 ≤ mi.toInt ∧ mi.toInt ≤ 50) (hs : 0 ≤ st.toInt ∧ st.toInt ≤ 1) : (60 * mi + xs_sp w l - 1) / xs_sp w l + 3 * st = xs_mm (xs_Mn (xs_sp w l) mi st) := by
  have hb := xn_spb h
  unfold xs_Mn
  rw [if_neg h]
  generalize xs_sp w l = sp at hb
  have e1 := xn_ofI (x := mi) (by omega)
  have e2 := xn_ofI (x := sp) (by omega)
  have e3 := xn_ofI (x := st) (by omega)
  have q1 : 1 ≤ mi.toNatClampNeg ∧ mi.toNatClampNeg ≤ 50 := by show 1 ≤ mi.toInt.toNat ∧ mi.toInt.toNat ≤ 50; omega
  have q2 : 1 ≤ sp.toNatClampNeg ∧ sp.toNatClampNeg ≤ 60 := by show 1 ≤ sp.toInt.toNat ∧ sp.toInt.toNat ≤ 60; omega
  have q3 : st.toNatClampNeg ≤ 1 := by show st.toInt.toNat ≤ 1; omega
  generalize mi.toNatClampNeg = a at e1 q1
  generalize sp.toNatClampNeg = p at e2 q2
  generalize st.toNatClampNeg = e at e3 q3
  rw [e1, e2, e3, show (60 * nI a : Int32) = nI (60 * a) from pk_mul 60 a, nI_add, show (nI (60 * a + p) - 1 : Int32) = nI (60 * a + p - 1) from xn_subN (b := 1) (by omega), pk_div (by omega) (by omega) (by omega), show (3 * nI e : Int32) = nI (3 * e) from pk_mul 3 e, nI_add, xn_ceil (by omega)]
  have h60 : 1 ≤ 60 * a / p + (if 0 < 60 * a % p then 1 else 0) := by
    by_cases z : 0 < 60 * a % p
    · rw [if_pos z]; exact Nat.le_add_left 1 _
    · rw [if_neg z, Nat.add_zero]
      have h1 := Nat.div_add_mod (60 * a) p
      rcases Nat.eq_zero_or_pos (60 * a / p) with y | y
      · rw [y, Nat.mul_zero] at h1; omega
      · exact y
  rw [xn_mm1 (by omega)]
theorem xn_Mz {w l mi st : Int32} (h : xs_sp w l < 1) : xs_mm (xs_Mn (xs_sp w l) mi st) = -1000000 := by
  unfold xs_Mn
  rw [if_pos h]
  rfl
theorem xn_st0 {f : Nat → Option Nat} {c : Nat} (h : f c = none) : xs_en2 (xs_mn f c) = xs_en2 (xs_mn f (c + 1)) := by
  show _ = xs_en2 (xs_omin (xs_mn f c) (f c))
  rw [h, xn_omn]
theorem xn_st1 {f : Nat → Option Nat} {c v : Nat} (hb : xs_bd 500000000 (xs_mn f c)) (hv : v ≤ 500000000) (h : f c = some v) (hn : xs_en2 (xs_mn f c) = -1000000 ∨ ¬ xs_en2 (xs_mn f c) ≤ nI v) : nI v = xs_en2 (xs_mn f (c + 1)) := by
  show _ = xs_en2 (xs_omin (xs_mn f c) (f c))
  rw [h]
  cases ha : xs_mn f c with
  | none => rfl
  | some a =>
    have h1 := hb a ha
    rw [ha] at hn
    have h2 : ¬ nI a ≤ nI v := hn.resolve_left (xn_nN (v := a) (by omega))
    show nI v = nI (if v < a then v else a)
    rw [if_pos (Nat.lt_of_not_le fun z => h2 ((nI_leI (by omega) (by omega)).mpr z))]
theorem xn_st3 {f : Nat → Option Nat} {c v : Nat} (hb : xs_bd 500000000 (xs_mn f c)) (hv : v ≤ 500000000) (h : f c = some v) (hn : ¬ xs_en2 (xs_mn f c) = -1000000) (hle : xs_en2 (xs_mn f c) ≤ nI v) : xs_en2 (xs_mn f c) = xs_en2 (xs_mn f (c + 1)) := by
  show _ = xs_en2 (xs_omin (xs_mn f c) (f c))
  rw [h]
  cases ha : xs_mn f c with
  | none =>
    rw [ha] at hn
    exact absurd rfl hn
  | some a =>
    have h1 := hb a ha
    rw [ha] at hle
    show nI a = nI (if v < a then v else a)
    rw [if_neg (fun z => by have := (nI_leI (by omega) (by omega)).mp (show nI a ≤ nI v from hle); omega)]
def xs_lc (f : Nat → Option Nat) (v : Nat) : Nat → Int32
  | 0 => -1000000
  | j + 1 => if f (23 - j) = some v then nI (23 - j) else xs_lc f v j
theorem xn_lc {f : Nat → Option Nat} {v : Nat} : ∀ j, j ≤ 24 → (∃ c, 24 - j ≤ c ∧ c < 24 ∧ f c = some v) → xs_lc f v j = nI (xs_fc f v j (24 - j))
  | 0, _, ⟨c, h1, h2, _⟩ => absurd h2 (by omega)
  | j + 1, hj, ⟨c, h1, h2, h3⟩ => by
    rw [show 24 - (j + 1) = 23 - j by omega]
    show (if f (23 - j) = some v then nI (23 - j) else xs_lc f v j) = nI (if f (23 - j) = some v then 23 - j else xs_fc f v j (23 - j + 1))
    by_cases z : f (23 - j) = some v
    · rw [if_pos z, if_pos z]
    · rw [if_neg z, if_neg z, show 23 - j + 1 = 24 - j by omega]
      refine xn_lc j (by omega) ⟨c, ?_, h2, h3⟩
      rcases Nat.lt_or_ge c (24 - j) with y | y
      · exact absurd (show f (23 - j) = some v by rw [show 23 - j = c by omega]; exact h3) z
      · exact y
theorem xn_candS {M C : Nat → Nat} {On : Nat → Option Nat} {t c v : Nat} (h : xs_cand M C On t c = some v) : ¬ M c = 0 ∧ M c ≤ t ∧ ∃ u, On (t - M c) = some u ∧ C c + u = v := by
  unfold xs_cand at h
  by_cases z : ¬ M c = 0 ∧ M c ≤ t
  · rw [if_pos z] at h
    obtain ⟨u, h1, h2⟩ := Option.map_eq_some_iff.mp h
    exact ⟨z.1, z.2, u, h1, h2⟩
  · rw [if_neg z] at h
    cases h
theorem xn_dvN {c : Nat} (h : c < 24) : 1 + nI c / 4 = nI (1 + c / 4) ∧ 1 + xs_rem (nI c) 4 = nI (1 + c % 4) ∧ 1 + (nI c - nI c / 4 * 4) = nI (1 + c % 4) := by
  have e1 : nI c / 4 = nI (c / 4) := pk_div (d := 4) (by omega) (by omega) (by omega)
  have e2 : nI c - nI c / 4 * 4 = nI (c % 4) := pk_rem (d := 4) (by omega) (by omega) (by omega)
  refine ⟨?_, ?_, ?_⟩
  · rw [e1]; exact nI_add 1 _
  · show 1 + (nI c - nI c / 4 * 4) = _
    rw [e2]; exact nI_add 1 _
  · rw [e2]; exact nI_add 1 _
theorem xn_dn1 {a r : Nat} : nI a - nI r + Int32.ofInt (-1) = nI a - nI (r + 1) := by
  rw [← nI_1 r, Int32.sub_eq_add_neg, Int32.sub_eq_add_neg, Int32.neg_add, Int32.sub_eq_add_neg, ← Int32.add_assoc]
  rfl
theorem xn_dnlt {a r : Nat} (ha : a ≤ 1000) (hr : r ≤ 1000) : nI a - nI r < 0 ↔ a < r := by
  rw [xn_lt, xn_sub (by rw [xn_NI (by omega), xn_NI (by omega)]; omega) (by rw [xn_NI (by omega), xn_NI (by omega)]; omega), xn_NI (by omega), xn_NI (by omega), show (0 : Int32).toInt = 0 from rfl]
  omega
