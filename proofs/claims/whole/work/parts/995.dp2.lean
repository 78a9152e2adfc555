def xs_cx (M C : Nat → Nat → Nat) (n k t : Nat) : Nat := xs_fc (xs_cand (M k) (C k) (xs_bc M C n (n - (k + 1))) t) ((xs_bc M C n (n - k) t).getD 0) 24 0
def xs_tt (M C : Nat → Nat → Nat) (n l : Nat) : Nat → Nat
  | 0 => l
  | k + 1 => xs_tt M C n l k - M k (xs_cx M C n k (xs_tt M C n l k))
def xs_kE (M C : Nat → Nat → Nat) (n l : Nat) (ke : Nat → Int32) : Nat → Nat → Int32
  | 0 => ke
  | k + 1 => xs_kp (xs_kE M C n l ke k) k (xs_cx M C n k (xs_tt M C n l k)) (M k) (C k)
theorem xn_kE {M C : Nat → Nat → Nat} {n l : Nat} {ke : Nat → Int32} : ∀ k, k ≤ n → xs_kk M C n n l ke = xs_kk M C n (n - k) (xs_tt M C n l k) (xs_kE M C n l ke k)
  | 0, _ => rfl
  | k + 1, hk => by
    rw [xn_kE k (by omega)]
    obtain ⟨r, hr⟩ : ∃ r, n - k = r + 1 := ⟨n - k - 1, by omega⟩
    have e1 : n - (k + 1) = r := by omega
    have e2 : n - (r + 1) = k := by omega
    show xs_kk M C n (n - k) _ _ = xs_kk M C n (n - (k + 1)) (xs_tt M C n l k - M k (xs_cx M C n k (xs_tt M C n l k))) (xs_kp (xs_kE M C n l ke k) k (xs_cx M C n k (xs_tt M C n l k)) (M k) (C k))
    have e3 : xs_cx M C n k (xs_tt M C n l k) = xs_fc (xs_cand (M (n - (r + 1))) (C (n - (r + 1))) (xs_bc M C n r) (xs_tt M C n l k)) ((xs_bc M C n (r + 1) (xs_tt M C n l k)).getD 0) 24 0 := by
      unfold xs_cx
      rw [e1, e2, hr]
    rw [e3, hr, e1]
    show xs_kk M C n r (_ - M (n - (r + 1)) _) (xs_kp _ (n - (r + 1)) _ (M (n - (r + 1))) (C (n - (r + 1)))) = _
    rw [e2]
theorem xn_cx {M C : Nat → Nat → Nat} {n k t v : Nat} (hk : k < n) (h : xs_bc M C n (n - k) t = some v) : xs_cand (M k) (C k) (xs_bc M C n (n - (k + 1))) t (xs_cx M C n k t) = some v ∧ xs_cx M C n k t < 24 ∧ xs_cx M C n k t = xs_fc (xs_cand (M k) (C k) (xs_bc M C n (n - (k + 1))) t) v 24 0 ∧ ∃ c, 24 - 24 ≤ c ∧ c < 24 ∧ xs_cand (M k) (C k) (xs_bc M C n (n - (k + 1))) t c = some v := by
  obtain ⟨r, hr⟩ : ∃ r, n - k = r + 1 := ⟨n - k - 1, by omega⟩
  have e1 : n - (k + 1) = r := by omega
  have e2 : n - (r + 1) = k := by omega
  have h2 : xs_mn (xs_cand (M (n - (r + 1))) (C (n - (r + 1))) (xs_bc M C n r) t) 24 = some v := by rw [hr] at h; exact h
  rw [e2] at h2
  obtain ⟨c, hc, hc2⟩ := xn_mne 24 h2
  have e3 : xs_cx M C n k t = xs_fc (xs_cand (M k) (C k) (xs_bc M C n r) t) v 24 0 := by
    unfold xs_cx
    rw [h, e1]
    rfl
  have h3 := xn_fc (f := xs_cand (M k) (C k) (xs_bc M C n r) t) (v := v) 24 0 ⟨c, by omega, by omega, hc2⟩
  rw [e1, e3]
  exact ⟨h3.1, by omega, rfl, c, by omega, hc, hc2⟩
theorem xn_tt {M C : Nat → Nat → Nat} {n l v0 : Nat} (h0 : xs_bc M C n n l = some v0) : ∀ k, k ≤ n → (∃ v, xs_bc M C n (n - k) (xs_tt M C n l k) = some v) ∧ xs_tt M C n l k ≤ l
  | 0, _ => ⟨⟨v0, h0⟩, Nat.le_refl _⟩
  | k + 1, hk => by
    obtain ⟨⟨v, hv⟩, hl⟩ := xn_tt h0 k (by omega)
    have h1 := xn_cx (by omega) hv
    obtain ⟨m0, m1, u, hu, -⟩ := xn_candS h1.1
    exact ⟨⟨u, hu⟩, Nat.le_trans (Nat.sub_le _ _) hl⟩
theorem xn_kEr {M C : Nat → Nat → Nat} {n l : Nat} {ke : Nat → Int32} : ∀ k i, i < k → xs_kE M C n l ke k (4 * i) = nI (1 + xs_cx M C n i (xs_tt M C n l i) / 4) ∧ xs_kE M C n l ke k (4 * i + 1) = nI (1 + xs_cx M C n i (xs_tt M C n l i) % 4) ∧ xs_kE M C n l ke k (4 * i + 2) = nI (M i (xs_cx M C n i (xs_tt M C n l i))) ∧ xs_kE M C n l ke k (4 * i + 3) = nI (C i (xs_cx M C n i (xs_tt M C n l i)))
  | k + 1, i, hi => by
    show xs_kp (xs_kE M C n l ke k) k (xs_cx M C n k (xs_tt M C n l k)) (M k) (C k) (4 * i) = _ ∧ xs_kp (xs_kE M C n l ke k) k (xs_cx M C n k (xs_tt M C n l k)) (M k) (C k) (4 * i + 1) = _ ∧ xs_kp (xs_kE M C n l ke k) k (xs_cx M C n k (xs_tt M C n l k)) (M k) (C k) (4 * i + 2) = _ ∧ xs_kp (xs_kE M C n l ke k) k (xs_cx M C n k (xs_tt M C n l k)) (M k) (C k) (4 * i + 3) = _
    unfold xs_kp
    by_cases z : i = k
    · rw [z]
      refine ⟨?_, ?_, ?_, pk_us⟩
      · rw [pk_un (by omega), pk_un (by omega), pk_un (by omega), pk_us]
      · rw [pk_un (by omega), pk_un (by omega), pk_us]
      · rw [pk_un (by omega), pk_us]
    · rw [pk_un (by omega), pk_un (by omega), pk_un (by omega), pk_un (by omega), pk_un (by omega), pk_un (by omega), pk_un (by omega), pk_un (by omega), pk_un (by omega), pk_un (by omega), pk_un (by omega), pk_un (by omega), pk_un (by omega), pk_un (by omega), pk_un (by omega), pk_un (by omega)]
      exact xn_kEr k i (by omega)
theorem xs_Rpl {C C' : Nat → Nat → Int32} {σ : xs_Sg} {ks : Int32} {ke : Nat → Int32} (H : xs_MRa σ C) (e4 : C' 83 4 = ks) (ep : ∀ i : Nat, (i : Int) < ks.toInt → i < 10 → (0 ≤ (C' 100 i).toInt ∧ (C' 100 i).toInt < 24) ∧ ke (4 * i) = 1 + C' 100 i / 4 ∧ ke (4 * i + 1) = 1 + xs_rem (C' 100 i) 4 ∧ ke (4 * i + 2) = C' 101 i ∧ ke (4 * i + 3) = C' 102 i) (e : ∀ j, 4 < j → C' 83 j = C 83 j) (h88 : ∀ x, x < 72 → C' 88 x = C 88 x) (ho : ∀ i, 84 ≤ i → i ≠ 88 → i < 94 ∨ 102 < i → C' i = C i) : xs_MRa (xs_pl σ ks ke) C' := by
  have hs : ∀ f o, f ≠ 11 → f ≠ 12 → xs_pl σ ks ke f o = σ f o := fun f o h1 h2 => (xs_pto (by omega)).trans (xs_pto (by omega))
  refine ⟨xs_MRsk H.1 (fun f o h1 => hs f o (by omega) (by omega)) (ho _ (by omega) (by omega) (by omega)) (ho _ (by omega) (by omega) (by omega)) (ho _ (by omega) (by omega) (by omega)), xs_MRek H.2.1 (fun f o h1 h2 => hs f o (by omega) (by omega)) (ho _ (by omega) (by omega) (by omega)) h88, xs_MRck H.2.2.1 (fun f o h1 h2 => hs f o (by omega) (by omega)) (ho _ (by omega) (by omega) (by omega)) (ho _ (by omega) (by omega) (by omega)) (ho _ (by omega) (by omega) (by omega)) (ho _ (by omega) (by omega) (by omega)), xs_MRfk H.2.2.2.1 (fun f o h1 h2 => hs f o (by omega) (by omega)) e (ho _ (by omega) (by omega) (by omega)), ?_⟩
  unfold xs_MRp
  rw [show xs_pl σ ks ke 11 0 = (fun _ => ks) from (xs_pto (by omega)).trans (xs_pts _ _ _ _), show xs_pl σ ks ke 12 0 = ke from xs_pts _ _ _ _]
  exact ⟨e4, ep⟩
def xs_bv (M C : Nat → Nat) (On : Nat → Option Nat) (r t c : Nat) : Int32 := if r = 0 then 0 else xs_en2 (xs_mn (xs_cand M C On t) c)
theorem xn_bv24 {M C : Nat → Nat → Nat} {n r t c : Nat} (hr : r ≤ n) (hc : c = 24 ∨ r = 0) : xs_bv (M (n - r)) (C (n - r)) (xs_bc M C n (r - 1)) r t c = xs_en2 (xs_bc M C n r t) := by
  unfold xs_bv
  cases r with
  | zero => rw [if_pos rfl]; rfl
  | succ r =>
    rw [if_neg (by omega), hc.resolve_right (by omega)]
    rfl
