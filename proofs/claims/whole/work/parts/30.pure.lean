/-! PURE ROWS: Int32 by Int -/
theorem xn_b (x : Int32) : -2147483648 ≤ x.toInt ∧ x.toInt < 2147483648 := ⟨x.le_toInt, x.toInt_lt⟩
theorem xn_add {a b : Int32} (h1 : -2147483648 ≤ a.toInt + b.toInt) (h2 : a.toInt + b.toInt < 2147483648) : (a + b).toInt = a.toInt + b.toInt := by
  rw [Int32.toInt_add]
  exact Int.bmod_eq_of_le (by omega) (by omega)
theorem xn_sub {a b : Int32} (h1 : -2147483648 ≤ a.toInt - b.toInt) (h2 : a.toInt - b.toInt < 2147483648) : (a - b).toInt = a.toInt - b.toInt := by
  rw [Int32.toInt_sub]
  exact Int.bmod_eq_of_le (by omega) (by omega)
theorem xn_mul {a b : Int32} (h1 : -2147483648 ≤ a.toInt * b.toInt) (h2 : a.toInt * b.toInt < 2147483648) : (a * b).toInt = a.toInt * b.toInt := by
  rw [Int32.toInt_mul]
  exact Int.bmod_eq_of_le (by omega) (by omega)
theorem xn_neg {a : Int32} (h : a.toInt ≠ -2147483648) : (-a).toInt = -a.toInt := by
  have := xn_b a
  rw [Int32.toInt_neg]
  exact Int.bmod_eq_of_le (by omega) (by omega)
theorem xn_div {a b : Int32} (h : b ≠ -1) : (a / b).toInt = a.toInt.tdiv b.toInt := Int32.toInt_div_of_ne_right a b h
theorem xn_lt (a b : Int32) : a < b ↔ a.toInt < b.toInt := Int32.lt_iff_toInt_lt
theorem xn_le (a b : Int32) : a ≤ b ↔ a.toInt ≤ b.toInt := Int32.le_iff_toInt_le
theorem xn_eq (a b : Int32) : a = b ↔ a.toInt = b.toInt := Int32.toInt_inj.symm
def xs_rem (x d : Int32) : Int32 := x - x / d * d
theorem xn_rem {x d : Int32} (h0 : d.toInt ≠ 0) (h : d ≠ -1) : (xs_rem x d).toInt = x.toInt.tmod d.toInt := by
  have hb := xn_b x
  have h1 := xn_div (a := x) h
  have h2 : (x / d).toInt * d.toInt = x.toInt - x.toInt.tmod d.toInt := by
    have := Int.tdiv_mul_add_tmod x.toInt d.toInt
    rw [h1]
    omega
  have h3 : (x.toInt.tmod d.toInt).natAbs ≤ x.toInt.natAbs := by
    rw [Int.natAbs_tmod]
    exact Nat.mod_le _ _
  have h4 : 0 ≤ x.toInt → 0 ≤ x.toInt.tmod d.toInt := fun z => Int.tmod_nonneg _ z
  have h5 : x.toInt ≤ 0 → x.toInt.tmod d.toInt ≤ 0 := fun z => by
    have := Int.tmod_nonneg d.toInt (show 0 ≤ -x.toInt by omega)
    rw [Int.neg_tmod] at this
    omega
  have h6 : ((x / d) * d).toInt = x.toInt - x.toInt.tmod d.toInt := by
    rw [xn_mul (by rw [h2]; omega) (by rw [h2]; omega), h2]
  unfold xs_rem
  rw [xn_sub (by rw [h6]; omega) (by rw [h6]; omega), h6]
  omega
def xs_cT (j : Nat) : Int32 := ([10000, 9914, 9659, 9239, 8660, 7934, 7071, 6088, 5000, 3827, 2588, 1305, 0, -1305, -2588, -3827, -5000, -6088, -7071, -7934, -8660, -9239, -9659, -9914, -10000, -9914, -9659, -9239, -8660, -7934, -7071, -6088, -5000, -3827, -2588, -1305, 0, 1305, 2588, 3827, 5000, 6088, 7071, 7934, 8660, 9239, 9659, 9914] : List Int32).getD j 0
def xs_rnd (k : Int32) : Int32 := if xs_rem k 48 < 0 then xs_rem k 48 + 48 else xs_rem k 48
def xs_cos (k : Int32) : Int32 := xs_cT (xs_rnd k).toNatClampNeg
theorem xn_rnd (k : Int32) : (xs_rnd k).toInt = k.toInt % 48 := by
  have h1 : (xs_rem k 48).toInt = k.toInt.tmod 48 := xn_rem (by decide) (by decide)
  have h48 : (48 : Int32).toInt = 48 := by decide
  have h0 : (0 : Int32).toInt = 0 := by decide
  have h2 := Int.tmod_lt_of_pos k.toInt (show (0 : Int) < 48 by decide)
  have h3 : -48 < k.toInt.tmod 48 := by
    have := Int.lt_tmod_of_pos k.toInt (show (0 : Int) < 48 by decide)
    omega
  have h4 : k.toInt.tmod 48 = k.toInt % 48 ∨ k.toInt.tmod 48 = k.toInt % 48 - 48 := by
    rw [Int.tmod_eq_emod]
    split
    · left; omega
    · right; simp
  unfold xs_rnd
  by_cases h : xs_rem k 48 < 0
  · rw [if_pos h]
    rw [xn_lt, h1, h0] at h
    rw [xn_add (by omega) (by omega), h1, h48]
    omega
  · rw [if_neg h]
    rw [xn_lt, h1, h0] at h
    rw [h1]
    omega
theorem xn_rndN (k : Int32) : (xs_rnd k).toNatClampNeg < 48 ∧ ((xs_rnd k).toNatClampNeg : Int) = k.toInt % 48 := by
  have := xn_rnd k
  show (xs_rnd k).toInt.toNat < 48 ∧ ((xs_rnd k).toInt.toNat : Int) = _
  omega
theorem xn_rndin (k : Int32) : vp_in (xs_rnd k) 48 := vp_in_iff.mpr (by have := xn_rnd k; omega)
theorem xn_cos {a b : Int32} (h : a.toInt % 48 = b.toInt % 48) : xs_cos a = xs_cos b := by
  have h1 := (xn_rndN a).2
  have h2 := (xn_rndN b).2
  unfold xs_cos
  rw [show (xs_rnd a).toNatClampNeg = (xs_rnd b).toNatClampNeg by omega]
theorem xn_cT (j : Nat) : -10000 ≤ (xs_cT j).toInt ∧ (xs_cT j).toInt ≤ 10000 := by
  by_cases h : j < 48
  · have : ∀ j : Fin 48, -10000 ≤ (xs_cT j.1).toInt ∧ (xs_cT j.1).toInt ≤ 10000 := by decide +kernel
    exact this ⟨j, h⟩
  · unfold xs_cT
    rw [List.getD_eq_getElem?_getD, List.getElem?_eq_none (by show 48 ≤ j; omega)]
    decide
theorem xn_cosb (k : Int32) : -10000 ≤ (xs_cos k).toInt ∧ (xs_cos k).toInt ≤ 10000 := xn_cT _
def xs_late (s : Int32) : Int32 := if 1 ≤ s ∧ s ≤ 3 then -s else if 4 ≤ s ∧ s ≤ 6 then s - 3 else 0
def xs_leak (s : Int32) : Int32 := if s = 7 then 5 else if s = 8 then 10 else if s = 9 then 20 else 0
def xs_chk (s : Int32) : Int32 := if s = 10 then 20 else if s = 11 then 50 else if s = 12 then 100 else 0
def xs_pis (r k : Int32) : Int32 := (10000 - xs_cos k) / 20 + if r = 0 then 0 else xs_cos (k - 12) * xs_cos (k - 12) / (400000 * r)
def xs_swi (n : Nat → Int32) (s notch k : Int32) : Int32 := n 1 * ((6 + notch) * xs_cos (k + n 2 + xs_late s - 12) + (6 - notch) * xs_cos (n 2 - k - 12)) / 120000
def xs_hng (n : Nat → Int32) (notch : Int32) : Int32 := n 3 * notch / 6
def xs_val (n : Nat → Int32) (s notch k : Int32) : Int32 := xs_swi n s notch k + xs_hng n notch
def xs_far (n : Nat → Int32) (v ed what : Int32) : Int32 := if what = 0 then (if ed = 0 then v else -v) - n 4 else (if ed = 0 then -v else v) - n 5
def xs_cl (p f : Int32) : Int32 := if (if f < p then f else p) < 0 then 0 else if f < p then f else p
def xs_by (n : Nat → Int32) (v ed what : Int32) : Int32 := xs_cl (n 6) (xs_far n v ed what)
def xs_opn (n : Nat → Int32) (s notch ed k what : Int32) : Int32 := xs_by n (xs_val n s notch k) ed what
def xs_find (f : Nat → Bool) : Nat → Nat → Int32
  | 0, _ => -1000000
  | d + 1, i => if f i = true then nI i else xs_find f d (i + 1)
def xs_isop (n : Nat → Int32) (s notch ed what k : Int32) : Bool := decide (0 < xs_opn n s notch ed k (what / 2))
def xs_eat (n : Nat → Int32) (s notch ed what : Int32) (j : Nat) : Bool := (xs_isop n s notch ed what (nI j) == decide (xs_rem what 2 = 0)) && !(xs_isop n s notch ed what (nI j - 1) == decide (xs_rem what 2 = 0))
def xs_evt (n : Nat → Int32) (s notch ed what : Int32) : Int32 := xs_find (xs_eat n s notch ed what) 48 0
def xs_dis (a b : Int32) : Int32 := if 24 < (if a = -1000000 ∨ b = -1000000 then 24 else xs_rnd (b - a - 24)) then 48 - (if a = -1000000 ∨ b = -1000000 then 24 else xs_rnd (b - a - 24)) else if a = -1000000 ∨ b = -1000000 then 24 else xs_rnd (b - a - 24)
def xs_ps (f : Nat → Int32) : Nat → Int32
  | 0 => 0
  | k + 1 => xs_ps f k + f k
def xs_psL (f : Nat → Int64) : Nat → Int64
  | 0 => 0
  | k + 1 => xs_psL f k + f k
def xs_un1 (n : Nat → Int32) (s notch : Int32) : Int32 := xs_dis (xs_evt n s notch 0 1) (xs_evt n s notch 1 1)
def xs_unl (n : Nat → Int32) (s : Int32) : Int32 := xs_ps (fun j => xs_un1 n s (nI (j + 1))) 6
def xs_led (n : Nat → Int32) (s : Int32) : Int32 := xs_opn n s 6 0 0 0
def xs_sst (U : Int32 → Int32 → Int32) (a g : Int32) (t : Int32 × Int32 × Int32) : Int32 × Int32 × Int32 := if t.1 = -1000000 ∨ U a g < t.1 then (U a g, a, g) else t
def xs_sin (U : Int32 → Int32 → Int32) (a : Int32) : Nat → Int32 × Int32 × Int32 → Int32 × Int32 × Int32
  | 0, t => t
  | j + 1, t => xs_sst U a (nI j - 20) (xs_sin U a j t)
def xs_sou (U : Int32 → Int32 → Int32) : Nat → Int32 × Int32 × Int32
  | 0 => (-1000000, 0, 0)
  | i + 1 => xs_sin U (nI i) 41 (xs_sou U i)
def xs_ag (n : Nat → Int32) (a g : Int32) : Nat → Int32 := upd (upd n 2 a) 3 g
def xs_set (n : Nat → Int32) (s : Int32) : Int32 × Int32 × Int32 := xs_sou (fun a g => xs_unl (xs_ag n a g) s) 12
def xs_rom (n : Nat → Int32) (ed k : Int32) : Int32 := n 7 + if ed = 0 then xs_pis (n 0) k else 1000 - xs_pis (n 0) k
def xs_v1 (n : Nat → Int32) (ed k v : Int32) : Int32 := v * xs_rom n ed (k - 1) / xs_rom n ed k
def xs_co (n : Nat → Int32) (s notch B ed k v : Int32) : Int32 := (B - xs_v1 n ed k v) * xs_opn n s notch ed k 0 / (xs_opn n s notch ed k 0 + n 8 + xs_chk s)
def xs_v2 (n : Nat → Int32) (s notch B ed k v : Int32) : Int32 := xs_v1 n ed k v + xs_co n s notch B ed k v
def xs_v3 (n : Nat → Int32) (s notch B ed k v : Int32) : Int32 := xs_v2 n s notch B ed k v + (n 10 - xs_v2 n s notch B ed k v) * xs_opn n s notch ed k 1 / (xs_opn n s notch ed k 1 + n 9)
def xs_v4 (n : Nat → Int32) (s notch B ed k v : Int32) : Int32 := xs_v3 n s notch B ed k v + (B - xs_v3 n s notch B ed k v) * xs_leak s / 200
def xs_pr (n : Nat → Int32) (s notch B ed : Int32) : Nat → Int32
  | 0 => n 10
  | j + 1 => xs_v4 n s notch B ed (nI (j + 1)) (xs_pr n s notch B ed j)
def xs_cd (n : Nat → Int32) (s notch B ed : Int32) (k : Nat) : Int32 := xs_pr n s notch B ed (96 + k)
def xs_cm (n : Nat → Int32) (s notch B ed : Int32) (k : Nat) : Int32 := xs_co n s notch B ed (nI (96 + k)) (xs_pr n s notch B ed (95 + k))
def xs_dr1 (n : Nat → Int32) (s notch B ed : Int32) (k : Nat) : Int64 := if 0 < xs_cm n s notch B ed k then (xs_cm n s notch B ed k).toInt64 * (xs_rom n ed (nI (96 + k))).toInt64 else 0
def xs_dr (n : Nat → Int32) (s notch B ed : Int32) : Int64 := xs_psL (xs_dr1 n s notch B ed) 48
def xs_wk1 (n : Nat → Int32) (s notch B ed : Int32) (k : Nat) : Int64 := (xs_cd n s notch B ed k + xs_cd n s notch B ed ((k + 1) % 48)).toInt64 * (if ed = 0 then xs_pis (n 0) (nI (k + 1)) - xs_pis (n 0) (nI k) else -(xs_pis (n 0) (nI (k + 1)) - xs_pis (n 0) (nI k))).toInt64
def xs_wrk (n : Nat → Int32) (s notch B : Int32) : Int32 := ((xs_psL (xs_wk1 n s notch B 0) 48 + xs_psL (xs_wk1 n s notch B 1) 48) / 2000).toInt32
def xs_drk (n : Nat → Int32) (s notch B : Int32) : Int32 := ((xs_dr n s notch B 0 + xs_dr n s notch B 1) / 1000).toInt32
