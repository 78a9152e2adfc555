/-! PURE ROWS: what stands behind the piston stays within -/
def xs_ok (f : Nat → Int32) : Prop := ((f 0).toInt = 0 ∨ (4 ≤ (f 0).toInt ∧ (f 0).toInt ≤ 20)) ∧ (10 ≤ (f 1).toInt ∧ (f 1).toInt ≤ 200) ∧ (0 ≤ (f 2).toInt ∧ (f 2).toInt ≤ 11) ∧ (-20 ≤ (f 3).toInt ∧ (f 3).toInt ≤ 20) ∧ (0 ≤ (f 4).toInt ∧ (f 4).toInt ≤ 100) ∧ (-20 ≤ (f 5).toInt ∧ (f 5).toInt ≤ 50) ∧ (1 ≤ (f 6).toInt ∧ (f 6).toInt ≤ 100) ∧ (20 ≤ (f 7).toInt ∧ (f 7).toInt ≤ 200) ∧ (1 ≤ (f 8).toInt ∧ (f 8).toInt ≤ 100) ∧ (1 ≤ (f 9).toInt ∧ (f 9).toInt ≤ 100) ∧ (0 ≤ (f 10).toInt ∧ (f 10).toInt ≤ 500)
def xs_ok0 (r : Int32) : Prop := r.toInt = 0 ∨ (4 ≤ r.toInt ∧ r.toInt ≤ 20)
def xs_pisT (r : Int32) (j : Nat) : Int32 := (10000 - xs_cT j) / 20 + if r = 0 then 0 else xs_cT ((j + 36) % 48) * xs_cT ((j + 36) % 48) / (400000 * r)
theorem xn_pisT : ∀ q : Fin 21, ∀ j : Fin 48, (q.1 = 0 ∨ 4 ≤ q.1) → 0 ≤ (xs_pisT (nI q.1) j.1).toInt ∧ (xs_pisT (nI q.1) j.1).toInt ≤ 1000 := by decide +kernel
theorem xn_12 {k : Int32} (hk : -2000 ≤ k.toInt ∧ k.toInt ≤ 2000) : (k - 12).toInt = k.toInt - 12 := by
  have h12 : (12 : Int32).toInt = 12 := rfl
  rw [xn_sub (by rw [h12]; omega) (by rw [h12]; omega), h12]
theorem xn_pisE {r k : Int32} (hk : -2000 ≤ k.toInt ∧ k.toInt ≤ 2000) : xs_pis r k = xs_pisT r (xs_rnd k).toNatClampNeg := by
  unfold xs_pis xs_pisT
  have h1 := xn_rndN k
  have h2 : xs_cos (k - 12) = xs_cT (((xs_rnd k).toNatClampNeg + 36) % 48) := by
    have h3 := (xn_rndN (k - 12)).2
    rw [xn_12 hk] at h3
    show xs_cT (xs_rnd (k - 12)).toNatClampNeg = _
    rw [show (xs_rnd (k - 12)).toNatClampNeg = ((xs_rnd k).toNatClampNeg + 36) % 48 by omega]
  rw [h2]
  rfl
theorem xn_pisb {r k : Int32} (hr : xs_ok0 r) (hk : -2000 ≤ k.toInt ∧ k.toInt ≤ 2000) : 0 ≤ (xs_pis r k).toInt ∧ (xs_pis r k).toInt ≤ 1000 := by
  rw [xn_pisE hk]
  have hj := (xn_rndN k).1
  obtain ⟨q, hq, rfl⟩ := xn_i0 r 21 (by rw [xn_lt, show (0 : Int32).toInt = 0 from rfl]; unfold xs_ok0 at hr; omega) (by unfold xs_ok0 at hr; omega)
  unfold xs_ok0 at hr
  rw [xn_NI (by omega)] at hr
  exact xn_pisT ⟨q, hq⟩ ⟨_, hj⟩ (by show q = 0 ∨ 4 ≤ q; omega)
theorem xn_pisP {r a b : Int32} (ha : -2000 ≤ a.toInt ∧ a.toInt ≤ 2000) (hb : -2000 ≤ b.toInt ∧ b.toInt ≤ 2000) (h : a.toInt % 48 = b.toInt % 48) : xs_pis r a = xs_pis r b := by
  unfold xs_pis
  rw [xn_cos (a := a) (b := b) h, xn_cos (a := a - 12) (b := b - 12) (by rw [xn_12 ha, xn_12 hb]; omega)]
theorem xn_romb {f : Nat → Int32} {d k : Int32} (hf : xs_ok f) (hk : -2000 ≤ k.toInt ∧ k.toInt ≤ 2000) : 20 ≤ (xs_rom f d k).toInt ∧ (xs_rom f d k).toInt ≤ 1200 := by
  have h1 := xn_pisb (r := f 0) hf.1 hk
  have h7 := hf.2.2.2.2.2.2.2.1
  unfold xs_rom
  by_cases hd : d = 0
  · rw [if_pos hd, xn_add (by omega) (by omega)]
    omega
  · rw [if_neg hd]
    have h2 : (1000 - xs_pis (f 0) k).toInt = 1000 - (xs_pis (f 0) k).toInt := by
      rw [xn_sub (by rw [show (1000 : Int32).toInt = 1000 from rfl]; omega) (by rw [show (1000 : Int32).toInt = 1000 from rfl]; omega)]
      rfl
    rw [xn_add (by omega) (by omega), h2]
    omega
theorem xn_romP {f : Nat → Int32} {d a b : Int32} (ha : -2000 ≤ a.toInt ∧ a.toInt ≤ 2000) (hb : -2000 ≤ b.toInt ∧ b.toInt ≤ 2000) (h : a.toInt % 48 = b.toInt % 48) : xs_rom f d a = xs_rom f d b := by
  unfold xs_rom
  rw [xn_pisP ha hb h]
theorem xn_clb {p x : Int32} (hp : 0 ≤ p.toInt) : 0 ≤ (xs_cl p x).toInt ∧ (xs_cl p x).toInt ≤ p.toInt := by
  unfold xs_cl
  by_cases h : x < p
  · rw [if_pos h]
    rw [xn_lt] at h
    by_cases h0 : x < 0
    · rw [if_pos h0]; exact ⟨by decide, hp⟩
    · rw [if_neg h0]
      rw [xn_lt, show (0 : Int32).toInt = 0 from rfl] at h0
      omega
  · rw [if_neg h, if_neg (by rw [xn_lt, show (0 : Int32).toInt = 0 from rfl]; omega)]
    omega
theorem xn_opb {f : Nat → Int32} {s m d k w : Int32} (hf : xs_ok f) : 0 ≤ (xs_opn f s m d k w).toInt ∧ (xs_opn f s m d k w).toInt ≤ 100 := by
  have h6 := hf.2.2.2.2.2.2.1
  have := xn_clb (p := f 6) (x := xs_far f (xs_val f s m k) d w) (by omega)
  show 0 ≤ (xs_cl (f 6) (xs_far f (xs_val f s m k) d w)).toInt ∧ (xs_cl (f 6) (xs_far f (xs_val f s m k) d w)).toInt ≤ 100
  omega
theorem xn_opP {f : Nat → Int32} {s m d w a b : Int32} (h2 : 0 ≤ (f 2).toInt ∧ (f 2).toInt ≤ 11) (ha : -2000 ≤ a.toInt ∧ a.toInt ≤ 2000) (hb : -2000 ≤ b.toInt ∧ b.toInt ≤ 2000) (h : a.toInt % 48 = b.toInt % 48) : xs_opn f s m d a w = xs_opn f s m d b w := by
  unfold xs_opn xs_val
  rw [xn_swi h2 ha hb h]
theorem xn_leakb (s : Int32) : 0 ≤ (xs_leak s).toInt ∧ (xs_leak s).toInt ≤ 20 := by
  unfold xs_leak
  split
  · decide
  · split
    · decide
    · split <;> decide
theorem xn_chkb (s : Int32) : 0 ≤ (xs_chk s).toInt ∧ (xs_chk s).toInt ≤ 100 := by
  unfold xs_chk
  split
  · decide
  · split
    · decide
    · split <;> decide
/-- a share of a difference -/
theorem xn_sh {D o c : Int} (ho : 0 ≤ o) (hc : 0 < c) (hoc : o ≤ c) : (0 ≤ D → 0 ≤ (D * o).tdiv c ∧ (D * o).tdiv c ≤ D) ∧ (D ≤ 0 → D ≤ (D * o).tdiv c ∧ (D * o).tdiv c ≤ 0) := by
  have key : ∀ D : Int, 0 ≤ D → 0 ≤ (D * o).tdiv c ∧ (D * o).tdiv c ≤ D := fun D hD => by
    have h1 : 0 ≤ D * o := Int.mul_nonneg hD ho
    refine ⟨Int.tdiv_nonneg h1 (by omega), ?_⟩
    rw [Int.tdiv_eq_ediv_of_nonneg h1]
    have h2 : D * o ≤ D * c := Int.mul_le_mul_of_nonneg_left hoc hD
    have h3 := Int.ediv_le_ediv hc h2
    rwa [Int.mul_ediv_cancel _ (by omega)] at h3
  refine ⟨key D, fun hD => ?_⟩
  have h := key (-D) (by omega)
  rw [Int.neg_mul, Int.neg_tdiv] at h
  omega
/-- an amount goes a part of its way to a goal -/
theorem xn_way {p B o c : Int32} (hp : 0 ≤ p.toInt ∧ p.toInt ≤ 120000) (hB : 0 ≤ B.toInt ∧ B.toInt ≤ 2000) (ho : 0 ≤ o.toInt ∧ o.toInt ≤ 300) (hc : 0 < c.toInt ∧ c.toInt ≤ 1000) (hoc : o.toInt ≤ c.toInt) :
    ((B - p) * o / c).toInt = ((B.toInt - p.toInt) * o.toInt).tdiv c.toInt ∧ (p + (B - p) * o / c).toInt = p.toInt + ((B.toInt - p.toInt) * o.toInt).tdiv c.toInt ∧
    (p.toInt ≤ B.toInt → 0 ≤ ((B - p) * o / c).toInt ∧ p.toInt + ((B - p) * o / c).toInt ≤ B.toInt) ∧ (B.toInt ≤ p.toInt → ((B - p) * o / c).toInt ≤ 0 ∧ B.toInt ≤ p.toInt + ((B - p) * o / c).toInt) := by
  have h1 : (B - p).toInt = B.toInt - p.toInt := xn_sub (by omega) (by omega)
  have hb1 : -120000 ≤ B.toInt - p.toInt ∧ B.toInt - p.toInt ≤ 2000 := by omega
  have hm1 : (B.toInt - p.toInt) * o.toInt ≤ 2000 * 300 := by
    by_cases z : 0 ≤ B.toInt - p.toInt
    · exact Int.mul_le_mul hb1.2 ho.2 ho.1 (by omega)
    · have : (B.toInt - p.toInt) * o.toInt ≤ 0 := Int.mul_nonpos_of_nonpos_of_nonneg (by omega) ho.1
      omega
  have hm2 : -(120000 * 300) ≤ (B.toInt - p.toInt) * o.toInt := by
    have : (-(B.toInt - p.toInt)) * o.toInt ≤ 120000 * 300 := by
      by_cases z : 0 ≤ -(B.toInt - p.toInt)
      · exact Int.mul_le_mul (by omega) ho.2 ho.1 (by omega)
      · have : (-(B.toInt - p.toInt)) * o.toInt ≤ 0 := Int.mul_nonpos_of_nonpos_of_nonneg (by omega) ho.1
        omega
    rw [Int.neg_mul] at this
    omega
  have h2 : ((B - p) * o).toInt = (B.toInt - p.toInt) * o.toInt := by rw [xn_mul (by rw [h1]; omega) (by rw [h1]; omega), h1]
  have hcm : c ≠ -1 := fun e => by rw [e] at hc; exact absurd hc.1 (by decide)
  have h3 : ((B - p) * o / c).toInt = ((B.toInt - p.toInt) * o.toInt).tdiv c.toInt := by rw [xn_div hcm, h2]
  have h4 := xn_sh (D := B.toInt - p.toInt) ho.1 hc.1 hoc
  have h5 : -120000 ≤ ((B.toInt - p.toInt) * o.toInt).tdiv c.toInt ∧ ((B.toInt - p.toInt) * o.toInt).tdiv c.toInt ≤ 2000 := by
    by_cases z : 0 ≤ B.toInt - p.toInt
    · have := h4.1 z; omega
    · have := h4.2 (by omega); omega
  refine ⟨h3, ?_, fun z => ?_, fun z => ?_⟩
  · rw [xn_add (by rw [h3]; omega) (by rw [h3]; omega), h3]
  · rw [h3]
    have := h4.1 (by omega)
    omega
  · rw [h3]
    have := h4.2 (by omega)
    omega
def xs_in (W p : Int) : Prop := 0 ≤ p ∧ p * W ≤ 2400000
theorem xn_in {W p : Int} (hW : 20 ≤ W) (h : xs_in W p) : 0 ≤ p ∧ p ≤ 120000 := by
  refine ⟨h.1, ?_⟩
  have : p * 20 ≤ p * W := Int.mul_le_mul_of_nonneg_left hW h.1
  have := h.2
  omega
theorem xn_inw {W p q B : Int} (hW : 20 ≤ W ∧ W ≤ 1200) (hp : xs_in W p) (hB : 0 ≤ B ∧ B ≤ 2000) (h1 : p ≤ B → p ≤ q ∧ q ≤ B) (h2 : B ≤ p → B ≤ q ∧ q ≤ p) : xs_in W q := by
  have hBW : B * W ≤ 2000 * 1200 := Int.mul_le_mul hB.2 hW.2 (by omega) (by omega)
  by_cases z : p ≤ B
  · have := h1 z
    refine ⟨by have := hp.1; omega, ?_⟩
    have : q * W ≤ B * W := Int.mul_le_mul_of_nonneg_right this.2 (by omega)
    omega
  · have := h2 (by omega)
    refine ⟨by omega, ?_⟩
    have : q * W ≤ p * W := Int.mul_le_mul_of_nonneg_right this.2 (by omega)
    have := hp.2
    omega
theorem xn_step {f : Nat → Int32} {s m B d k v : Int32} (hf : xs_ok f) (hk : 0 ≤ k.toInt ∧ k.toInt ≤ 1000) (hB : 0 ≤ B.toInt ∧ B.toInt ≤ 2000) (hv : xs_in (xs_rom f d (k - 1)).toInt v.toInt) :
    xs_in (xs_rom f d k).toInt (xs_v4 f s m B d k v).toInt ∧ (xs_co f s m B d k v).toInt ≤ 2000 := by
  have hk1 : (k - 1).toInt = k.toInt - 1 := by
    rw [xn_sub (by rw [show (1 : Int32).toInt = 1 from rfl]; omega) (by rw [show (1 : Int32).toInt = 1 from rfl]; omega)]
    rfl
  have hR := xn_romb (d := d) (k := k) hf (by omega)
  have hR0 := xn_romb (d := d) (k := k - 1) hf (by omega)
  have hv0 := xn_in hR0.1 hv
  have hne : xs_rom f d k ≠ -1 := fun e => by rw [e] at hR; exact absurd hR.1 (by decide)
  have hm0 : 0 ≤ v.toInt * (xs_rom f d (k - 1)).toInt := Int.mul_nonneg hv0.1 (by omega)
  have e1 : (xs_v1 f d k v).toInt = (v.toInt * (xs_rom f d (k - 1)).toInt).tdiv (xs_rom f d k).toInt := by
    have := hv.2
    unfold xs_v1
    rw [xn_div hne, xn_mul (by omega) (by omega)]
  have i1 : xs_in (xs_rom f d k).toInt (xs_v1 f d k v).toInt := by
    rw [e1]
    refine ⟨Int.tdiv_nonneg hm0 (by omega), ?_⟩
    rw [Int.tdiv_eq_ediv_of_nonneg hm0]
    have := Int.ediv_mul_le (v.toInt * (xs_rom f d (k - 1)).toInt) (show (xs_rom f d k).toInt ≠ 0 by omega)
    have := hv.2
    omega
  have b1 := xn_in hR.1 i1
  have ho := xn_opb (s := s) (m := m) (d := d) (k := k) (w := 0) hf
  have hx := xn_opb (s := s) (m := m) (d := d) (k := k) (w := 1) hf
  have h8 := hf.2.2.2.2.2.2.2.2.1
  have h9 := hf.2.2.2.2.2.2.2.2.2.1
  have h10 := hf.2.2.2.2.2.2.2.2.2.2
  have hch := xn_chkb s
  have hlk := xn_leakb s
  have c1 : (xs_opn f s m d k 0 + f 8).toInt = (xs_opn f s m d k 0).toInt + (f 8).toInt := xn_add (by omega) (by omega)
  have c2 : (xs_opn f s m d k 0 + f 8 + xs_chk s).toInt = (xs_opn f s m d k 0).toInt + (f 8).toInt + (xs_chk s).toInt := by rw [xn_add (by omega) (by omega), c1]
  have c3 : (xs_opn f s m d k 1 + f 9).toInt = (xs_opn f s m d k 1).toInt + (f 9).toInt := xn_add (by omega) (by omega)
  obtain ⟨w1, w2, w3, w4⟩ := xn_way (p := xs_v1 f d k v) (B := B) (o := xs_opn f s m d k 0) (c := xs_opn f s m d k 0 + f 8 + xs_chk s) b1 hB (by omega) (by omega) (by omega)
  have i2 : xs_in (xs_rom f d k).toInt (xs_v2 f s m B d k v).toInt := by
    refine xn_inw hR i1 hB (fun z => ?_) (fun z => ?_)
    · have := w3 z
      show _ ≤ (xs_v1 f d k v + (B - xs_v1 f d k v) * xs_opn f s m d k 0 / (xs_opn f s m d k 0 + f 8 + xs_chk s)).toInt ∧ (xs_v1 f d k v + (B - xs_v1 f d k v) * xs_opn f s m d k 0 / (xs_opn f s m d k 0 + f 8 + xs_chk s)).toInt ≤ _
      rw [w2, ← w1]
      omega
    · have := w4 z
      show _ ≤ (xs_v1 f d k v + (B - xs_v1 f d k v) * xs_opn f s m d k 0 / (xs_opn f s m d k 0 + f 8 + xs_chk s)).toInt ∧ (xs_v1 f d k v + (B - xs_v1 f d k v) * xs_opn f s m d k 0 / (xs_opn f s m d k 0 + f 8 + xs_chk s)).toInt ≤ _
      rw [w2, ← w1]
      omega
  have b2 := xn_in hR.1 i2
  obtain ⟨x1, x2, x3, x4⟩ := xn_way (p := xs_v2 f s m B d k v) (B := f 10) (o := xs_opn f s m d k 1) (c := xs_opn f s m d k 1 + f 9) b2 (by omega) (by omega) (by omega) (by omega)
  have i3 : xs_in (xs_rom f d k).toInt (xs_v3 f s m B d k v).toInt := by
    refine xn_inw hR i2 (show 0 ≤ (f 10).toInt ∧ (f 10).toInt ≤ 2000 by omega) (fun z => ?_) (fun z => ?_)
    · have := x3 z
      show _ ≤ (xs_v2 f s m B d k v + (f 10 - xs_v2 f s m B d k v) * xs_opn f s m d k 1 / (xs_opn f s m d k 1 + f 9)).toInt ∧ (xs_v2 f s m B d k v + (f 10 - xs_v2 f s m B d k v) * xs_opn f s m d k 1 / (xs_opn f s m d k 1 + f 9)).toInt ≤ _
      rw [x2, ← x1]
      omega
    · have := x4 z
      show _ ≤ (xs_v2 f s m B d k v + (f 10 - xs_v2 f s m B d k v) * xs_opn f s m d k 1 / (xs_opn f s m d k 1 + f 9)).toInt ∧ (xs_v2 f s m B d k v + (f 10 - xs_v2 f s m B d k v) * xs_opn f s m d k 1 / (xs_opn f s m d k 1 + f 9)).toInt ≤ _
      rw [x2, ← x1]
      omega
  have b3 := xn_in hR.1 i3
  have h200 : (200 : Int32).toInt = 200 := rfl
  obtain ⟨y1, y2, y3, y4⟩ := xn_way (p := xs_v3 f s m B d k v) (B := B) (o := xs_leak s) (c := 200) b3 hB (by omega) (by omega) (by omega)
  refine ⟨xn_inw hR i3 hB (fun z => ?_) (fun z => ?_), ?_⟩
  · have := y3 z
    show _ ≤ (xs_v3 f s m B d k v + (B - xs_v3 f s m B d k v) * xs_leak s / 200).toInt ∧ (xs_v3 f s m B d k v + (B - xs_v3 f s m B d k v) * xs_leak s / 200).toInt ≤ _
    rw [y2, ← y1]
    omega
  · have := y4 z
    show _ ≤ (xs_v3 f s m B d k v + (B - xs_v3 f s m B d k v) * xs_leak s / 200).toInt ∧ (xs_v3 f s m B d k v + (B - xs_v3 f s m B d k v) * xs_leak s / 200).toInt ≤ _
    rw [y2, ← y1]
    omega
  · show ((B - xs_v1 f d k v) * xs_opn f s m d k 0 / (xs_opn f s m d k 0 + f 8 + xs_chk s)).toInt ≤ 2000
    by_cases z : (xs_v1 f d k v).toInt ≤ B.toInt
    · have := w3 z; omega
    · have := w4 (by omega); omega
theorem xn_pr {f : Nat → Int32} {s m B d : Int32} (hf : xs_ok f) (hB : 0 ≤ B.toInt ∧ B.toInt ≤ 2000) : ∀ j : Nat, j ≤ 200 → xs_in (xs_rom f d (nI j)).toInt (xs_pr f s m B d j).toInt
  | 0, _ => by
    have h10 := hf.2.2.2.2.2.2.2.2.2.2
    have hR := xn_romb (d := d) (k := nI 0) hf (by decide)
    refine ⟨h10.1, ?_⟩
    show (f 10).toInt * _ ≤ _
    have : (f 10).toInt * (xs_rom f d (nI 0)).toInt ≤ 500 * 1200 := Int.mul_le_mul h10.2 hR.2 (by omega) (by omega)
    omega
  | j + 1, hj => by
    have ih := xn_pr hf hB j (by omega) (s := s) (m := m) (d := d)
    have hk : (nI (j + 1)).toInt = (j + 1 : Nat) := xn_NI (by omega)
    rw [← nI_pred j] at ih
    exact (xn_step hf (by omega) hB ih).1
theorem xn_prb {f : Nat → Int32} {s m B d : Int32} (hf : xs_ok f) (hB : 0 ≤ B.toInt ∧ B.toInt ≤ 2000) (j : Nat) (hj : j ≤ 200) : 0 ≤ (xs_pr f s m B d j).toInt ∧ (xs_pr f s m B d j).toInt ≤ 120000 := by
  have hk : (nI j).toInt = (j : Nat) := xn_NI (by omega)
  exact xn_in (xn_romb (d := d) (k := nI j) hf (by omega)).1 (xn_pr hf hB j hj)
