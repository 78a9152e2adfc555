/-- what holds of the state from call to call -/
def xs_VV (σ : xs_Sg) : Prop := (xs_V σ ∧ xs_vF σ) ∧ (σ 13 0 1).toInt ≤ 10000
section
variable {σ σ' : xs_Sg}
theorem xs_Vk (H : xs_VV σ) (h : ∀ f o, f ≠ 12 → f ≠ 15 → f ≠ 16 → σ' f o = σ f o) : xs_VV σ' := by
  unfold xs_VV xs_vF xs_V
  have e0 := fun k => h 0 k (by omega) (by omega) (by omega)
  have e1 := fun k => h 1 k (by omega) (by omega) (by omega)
  have e2 := fun k => h 2 k (by omega) (by omega) (by omega)
  have e4 := fun k => h 4 k (by omega) (by omega) (by omega)
  have e5 := fun k => h 5 k (by omega) (by omega) (by omega)
  have e6 := fun k => h 6 k (by omega) (by omega) (by omega)
  have e7 := fun k => h 7 k (by omega) (by omega) (by omega)
  have e8 := fun k => h 8 k (by omega) (by omega) (by omega)
  have e9 := fun k => h 9 k (by omega) (by omega) (by omega)
  have e10 := fun k => h 10 k (by omega) (by omega) (by omega)
  have e11 := fun k => h 11 k (by omega) (by omega) (by omega)
  have e13 := fun k => h 13 k (by omega) (by omega) (by omega)
  have e14 := fun k => h 14 k (by omega) (by omega) (by omega)
  simp only [e0, e1, e2, e4, e5, e6, e7, e8, e9, e10, e11, e13, e14]
  exact H
theorem xs_Vfd {x : Int32} (H : xs_VV σ) : xs_VV (xs_fd σ x) := xs_Vk H (fun f o _ _ h => xs_pto (by omega))
theorem xs_Vsh {j : Nat} {t l z : Int32} {it : Nat → Int32} (H : xs_VV σ) (ht : t = 0 ∨ t = 1) (hb : ¬ t = 0 → (0 ≤ z.toInt ∧ z.toInt ≤ 60) ∧ (l = 0 ∨ l = 1 ∨ l = 2)) : xs_VV (xs_sh σ j t l z it) := by
  have ho : ∀ f o, (o ≠ j ∨ 3 < f) → xs_sh σ j t l z it f o = σ f o := fun f o h => xs_sho σ j t l z it (by omega)
  have q := xs_shs σ j t l z it
  obtain ⟨⟨⟨a, b, c, d, e, f, g, h, i⟩, j1, j2⟩, k1⟩ := H
  refine ⟨⟨⟨fun k hk => ?_, fun k hk => ?_, fun k hk => ?_, fun k hk => ?_, fun k hk => ?_, fun k hk => ?_, ?_, ?_, ?_⟩, ?_, ?_⟩, ?_⟩
  · by_cases y : k = j
    · rw [y, q.1]; exact ht
    · rw [ho 0 k (Or.inl y)]; exact a k hk
  · by_cases y : k = j
    · rw [y, q.1, q.2.1, q.2.2.1]; exact hb
    · rw [ho 0 k (Or.inl y), ho 1 k (Or.inl y), ho 2 k (Or.inl y)]; exact b k hk
  · rw [ho 6 k (by omega)]; exact c k hk
  · rw [ho 6 k (by omega), ho 5 k (by omega), ho 4 k (by omega)]; exact d k hk
  · rw [ho 7 k (by omega)]; exact e k hk
  · rw [ho 7 k (by omega), ho 6 k (by omega), ho 8 k (by omega), ho 9 k (by omega), ho 10 k (by omega)]; exact f k hk
  · rw [ho 11 0 (by omega)]; exact g
  · rw [ho 14 0 (by omega)]; exact h
  · rw [ho 13 0 (by omega)]; exact i
  · rw [ho 13 0 (by omega)]; exact j1
  · rw [ho 13 0 (by omega)]; exact j2
  · rw [ho 13 0 (by omega)]; exact k1
theorem xs_Ven {j : Nat} {nf : Nat → Int32} {s t : Int32} (H : xs_VV σ) (ht : t = 0 ∨ t = 1) (hn : ¬ t = 0) (hb : xs_ok nf ∧ 0 ≤ s.toInt ∧ s.toInt ≤ 12) : xs_VV (xs_en σ j nf s t) := by
  have ho : ∀ f o, (o ≠ j ∨ (f < 4 ∨ 6 < f)) → xs_en σ j nf s t f o = σ f o := fun f o h => xs_eno σ j s t nf (by omega)
  have q := xs_ens σ j s t nf
  obtain ⟨⟨⟨a, b, c, d, e, f, g, h, i⟩, j1, j2⟩, k1⟩ := H
  refine ⟨⟨⟨fun k hk => ?_, fun k hk => ?_, fun k hk => ?_, fun k hk => ?_, fun k hk => ?_, fun k hk => ?_, ?_, ?_, ?_⟩, ?_, ?_⟩, ?_⟩
  · rw [ho 0 k (by omega)]; exact a k hk
  · rw [ho 0 k (by omega), ho 1 k (by omega), ho 2 k (by omega)]; exact b k hk
  · by_cases y : k = j
    · rw [y, q.2.1]; exact ht
    · rw [ho 6 k (Or.inl y)]; exact c k hk
  · by_cases y : k = j
    · rw [y, q.1, q.2.1, q.2.2]; exact fun _ => hb
    · rw [ho 6 k (Or.inl y), ho 5 k (Or.inl y), ho 4 k (Or.inl y)]; exact d k hk
  · rw [ho 7 k (by omega)]; exact e k hk
  · rw [ho 7 k (by omega), ho 8 k (by omega), ho 9 k (by omega), ho 10 k (by omega)]
    by_cases y : k = j
    · rw [y, q.2.1]; exact fun z => ⟨hn, (f j (y ▸ hk) z).2⟩
    · rw [ho 6 k (Or.inl y)]; exact f k hk
  · rw [ho 11 0 (by omega)]; exact g
  · rw [ho 14 0 (by omega)]; exact h
  · rw [ho 13 0 (by omega)]; exact i
  · rw [ho 13 0 (by omega)]; exact j1
  · rw [ho 13 0 (by omega)]; exact j2
  · rw [ho 13 0 (by omega)]; exact k1
theorem xs_Vec {j : Nat} {nf : Nat → Int32} {s t nt bo : Int32} {ci : Nat → Int32} (H : xs_VV σ) (ht : t = 0 ∨ t = 1) (hb : ¬ t = 0 → xs_ok nf ∧ 0 ≤ s.toInt ∧ s.toInt ≤ 12) : xs_VV (xs_ca (xs_en σ j nf s t) j 0 nt bo ci) := by
  have ho : ∀ f o, (o ≠ j ∨ (f < 4 ∨ 10 < f)) → xs_ca (xs_en σ j nf s t) j 0 nt bo ci f o = σ f o := fun f o h => (xs_cao _ j 0 nt bo ci (by omega)).trans (xs_eno σ j s t nf (by omega))
  have hm : ∀ f, f < 7 → xs_ca (xs_en σ j nf s t) j 0 nt bo ci f j = xs_en σ j nf s t f j := fun f h => xs_cao _ j 0 nt bo ci (by omega)
  have q := xs_ens σ j s t nf
  have q2 := xs_cas (xs_en σ j nf s t) j 0 nt bo ci
  obtain ⟨⟨⟨a, b, c, d, e, f, g, h, i⟩, j1, j2⟩, k1⟩ := H
  refine ⟨⟨⟨fun k hk => ?_, fun k hk => ?_, fun k hk => ?_, fun k hk => ?_, fun k hk => ?_, fun k hk => ?_, ?_, ?_, ?_⟩, ?_, ?_⟩, ?_⟩
  · rw [ho 0 k (by omega)]; exact a k hk
  · rw [ho 0 k (by omega), ho 1 k (by omega), ho 2 k (by omega)]; exact b k hk
  · by_cases y : k = j
    · rw [y, hm 6 (by omega), q.2.1]; exact ht
    · rw [ho 6 k (Or.inl y)]; exact c k hk
  · by_cases y : k = j
    · rw [y, hm 6 (by omega), hm 5 (by omega), hm 4 (by omega), q.1, q.2.1, q.2.2]; exact hb
    · rw [ho 6 k (Or.inl y), ho 5 k (Or.inl y), ho 4 k (Or.inl y)]; exact d k hk
  · by_cases y : k = j
    · rw [y, q2.1]; exact Or.inl rfl
    · rw [ho 7 k (Or.inl y)]; exact e k hk
  · by_cases y : k = j
    · rw [y, q2.1]; exact fun z => absurd rfl z
    · rw [ho 7 k (Or.inl y), ho 6 k (Or.inl y), ho 8 k (Or.inl y), ho 9 k (Or.inl y), ho 10 k (Or.inl y)]; exact f k hk
  · rw [ho 11 0 (by omega)]; exact g
  · rw [ho 14 0 (by omega)]; exact h
  · rw [ho 13 0 (by omega)]; exact i
  · rw [ho 13 0 (by omega)]; exact j1
  · rw [ho 13 0 (by omega)]; exact j2
  · rw [ho 13 0 (by omega)]; exact k1
theorem xs_Vca {j : Nat} {nt bo : Int32} {ci : Nat → Int32} (H : xs_VV σ) (hb : ¬ σ 6 j 0 = 0 ∧ (-6 ≤ nt.toInt ∧ nt.toInt ≤ 6) ∧ (0 ≤ bo.toInt ∧ bo.toInt ≤ 2000) ∧ ∀ k, k < 48 → -1 ≤ (ci k).toInt ∧ (ci k).toInt ≤ 5000) : xs_VV (xs_ca σ j 1 nt bo ci) := by
  have ho : ∀ f o, (o ≠ j ∨ (f < 7 ∨ 10 < f)) → xs_ca σ j 1 nt bo ci f o = σ f o := fun f o h => xs_cao _ j 1 nt bo ci (by omega)
  have q2 := xs_cas σ j 1 nt bo ci
  obtain ⟨⟨⟨a, b, c, d, e, f, g, h, i⟩, j1, j2⟩, k1⟩ := H
  refine ⟨⟨⟨fun k hk => ?_, fun k hk => ?_, fun k hk => ?_, fun k hk => ?_, fun k hk => ?_, fun k hk => ?_, ?_, ?_, ?_⟩, ?_, ?_⟩, ?_⟩
  · rw [ho 0 k (by omega)]; exact a k hk
  · rw [ho 0 k (by omega), ho 1 k (by omega), ho 2 k (by omega)]; exact b k hk
  · rw [ho 6 k (by omega)]; exact c k hk
  · rw [ho 6 k (by omega), ho 5 k (by omega), ho 4 k (by omega)]; exact d k hk
  · by_cases y : k = j
    · rw [y, q2.1]; exact Or.inr rfl
    · rw [ho 7 k (Or.inl y)]; exact e k hk
  · by_cases y : k = j
    · rw [y, q2.2.1, q2.2.2.1, q2.2.2.2, ho 6 j (by omega)]; exact fun _ => hb
    · rw [ho 7 k (Or.inl y), ho 6 k (Or.inl y), ho 8 k (Or.inl y), ho 9 k (Or.inl y), ho 10 k (Or.inl y)]; exact f k hk
  · rw [ho 11 0 (by omega)]; exact g
  · rw [ho 14 0 (by omega)]; exact h
  · rw [ho 13 0 (by omega)]; exact i
  · rw [ho 13 0 (by omega)]; exact j1
  · rw [ho 13 0 (by omega)]; exact j2
  · rw [ho 13 0 (by omega)]; exact k1
theorem xs_Vfi {g : Nat → Int32} (H : xs_VV σ) (h0 : 0 ≤ (g 0).toInt ∧ (g 0).toInt ≤ 1500) (h1 : 0 ≤ (g 1).toInt ∧ (g 1).toInt ≤ 10000) : xs_VV (xs_fi σ g) := by
  have ho : ∀ f o, f ≠ 13 → xs_fi σ g f o = σ f o := fun f o h => xs_pto (by omega)
  have e13 : xs_fi σ g 13 0 = g := xs_pts _ _ _ _
  obtain ⟨⟨⟨a, b, c, d, e, f, g, h, i⟩, j1, j2⟩, k1⟩ := H
  refine ⟨⟨⟨fun k hk => ?_, fun k hk => ?_, fun k hk => ?_, fun k hk => ?_, fun k hk => ?_, fun k hk => ?_, ?_, ?_, ?_⟩, ?_, ?_⟩, ?_⟩
  · rw [ho 0 k (by omega)]; exact a k hk
  · rw [ho 0 k (by omega), ho 1 k (by omega), ho 2 k (by omega)]; exact b k hk
  · rw [ho 6 k (by omega)]; exact c k hk
  · rw [ho 6 k (by omega), ho 5 k (by omega), ho 4 k (by omega)]; exact d k hk
  · rw [ho 7 k (by omega)]; exact e k hk
  · rw [ho 7 k (by omega), ho 6 k (by omega), ho 8 k (by omega), ho 9 k (by omega), ho 10 k (by omega)]; exact f k hk
  · rw [ho 11 0 (by omega)]; exact g
  · rw [ho 14 0 (by omega)]; exact h
  · rw [e13]; exact h0.1
  · rw [e13]; exact h0
  · rw [e13]; exact h1.1
  · rw [e13]; exact h1.2
theorem xs_Vpl {N : Nat} {ke : Nat → Int32} (H : xs_VV σ) (hN : N ≤ 10) : xs_VV (xs_pl σ (nI N) ke) := by
  have ho : ∀ f o, f ≠ 11 → f ≠ 12 → xs_pl σ (nI N) ke f o = σ f o := fun f o h1 h2 => (xs_pto (by omega)).trans (xs_pto (by omega))
  have e11 : xs_pl σ (nI N) ke 11 0 = fun _ => nI N := (xs_pto (by omega)).trans (xs_pts _ _ _ _)
  obtain ⟨⟨⟨a, b, c, d, e, f, g, h, i⟩, j1, j2⟩, k1⟩ := H
  refine ⟨⟨⟨fun k hk => ?_, fun k hk => ?_, fun k hk => ?_, fun k hk => ?_, fun k hk => ?_, fun k hk => ?_, ?_, ?_, ?_⟩, ?_, ?_⟩, ?_⟩
  · rw [ho 0 k (by omega) (by omega)]; exact a k hk
  · rw [ho 0 k (by omega) (by omega), ho 1 k (by omega) (by omega), ho 2 k (by omega) (by omega)]; exact b k hk
  · rw [ho 6 k (by omega) (by omega)]; exact c k hk
  · rw [ho 6 k (by omega) (by omega), ho 5 k (by omega) (by omega), ho 4 k (by omega) (by omega)]; exact d k hk
  · rw [ho 7 k (by omega) (by omega)]; exact e k hk
  · rw [ho 7 k (by omega) (by omega), ho 6 k (by omega) (by omega), ho 8 k (by omega) (by omega), ho 9 k (by omega) (by omega), ho 10 k (by omega) (by omega)]; exact f k hk
  · rw [e11]; exact ⟨N, hN, rfl⟩
  · rw [ho 14 0 (by omega) (by omega)]; exact h
  · rw [ho 13 0 (by omega) (by omega)]; exact i
  · rw [ho 13 0 (by omega) (by omega)]; exact j1
  · rw [ho 13 0 (by omega) (by omega)]; exact j2
  · rw [ho 13 0 (by omega) (by omega)]; exact k1
theorem xs_VVtn {N : Nat} (H : xs_VV σ) (hN : N ≤ 16) : xs_VV (xs_tn σ (nI N)) := by
  have ho : ∀ f o, f ≠ 14 → xs_tn σ (nI N) f o = σ f o := fun f o h1 => xs_pto (by omega)
  have e14 : xs_tn σ (nI N) 14 0 = fun _ => nI N := xs_pts _ _ _ _
  obtain ⟨⟨⟨a, b, c, d, e, f, g, h, i⟩, j1, j2⟩, k1⟩ := H
  refine ⟨⟨⟨fun k hk => ?_, fun k hk => ?_, fun k hk => ?_, fun k hk => ?_, fun k hk => ?_, fun k hk => ?_, ?_, ?_, ?_⟩, ?_, ?_⟩, ?_⟩
  · rw [ho 0 k (by omega)]; exact a k hk
  · rw [ho 0 k (by omega), ho 1 k (by omega), ho 2 k (by omega)]; exact b k hk
  · rw [ho 6 k (by omega)]; exact c k hk
  · rw [ho 6 k (by omega), ho 5 k (by omega), ho 4 k (by omega)]; exact d k hk
  · rw [ho 7 k (by omega)]; exact e k hk
  · rw [ho 7 k (by omega), ho 6 k (by omega), ho 8 k (by omega), ho 9 k (by omega), ho 10 k (by omega)]; exact f k hk
  · rw [ho 11 0 (by omega)]; exact g
  · rw [e14]; exact ⟨N, hN, rfl⟩
  · rw [ho 13 0 (by omega)]; exact i
  · rw [ho 13 0 (by omega)]; exact j1
  · rw [ho 13 0 (by omega)]; exact j2
  · rw [ho 13 0 (by omega)]; exact k1
theorem xs_VlvL : ∀ {L : List Int32} {σ : xs_Sg} {m : Nat}, xs_VV σ → m + L.length ≤ 16 → xs_VV (xs_lvL σ m L)
  | [], _, _, H, _ => H
  | b :: L, σ, m, H, h => by
    rw [List.length_cons] at h
    exact xs_VlvL (L := L) (m := m + 1) (xs_VVtn (xs_Vk (σ' := xs_tr σ (upd (σ 15 0) m b)) H (fun f o _ h _ => xs_pto (by omega))) (by omega)) (by omega)
theorem xn_cl6 {p : Int32} {m : Nat} (hm : m < 2147483648) (h : xs_i p 0 (nI m) = true) : p.toNatClampNeg ≤ m := by
  obtain ⟨k, hk, e⟩ := xn_pk (m := m) hm (xn_gi h)
  rw [e, nI_clamp (by omega)]
  exact hk
theorem xs_VonE {p : Int32} {g : Bool} {r : Nat → Int32 × xs_Sg} (H : xs_VV σ) (h : ∀ j, j < 6 → ¬ σ 6 j 0 = 0 → g = true → xs_VV (r j).2) : xs_VV (xs_onE σ p g r).2 := by
  unfold xs_onE
  by_cases z : (xs_i p 0 5 && g) = true
  · rw [if_pos z]
    rw [Bool.and_eq_true] at z
    by_cases y : σ 6 p.toNatClampNeg 0 = 0
    · rw [if_pos y]; exact xs_Vfd H
    · rw [if_neg y]; exact h _ (by have := xn_cl6 (m := 5) (by omega) z.1; omega) y z.2
  · rw [if_neg z]; exact H
theorem xs_VonP {p : Int32} {g : Bool} {r : Nat → Int32 × xs_Sg} (H : xs_VV σ) (h : ∀ j, j < 8 → ¬ σ 0 j 0 = 0 → g = true → xs_VV (r j).2) : xs_VV (xs_onP σ p g r).2 := by
  unfold xs_onP
  by_cases z : (xs_i p 0 7 && g) = true
  · rw [if_pos z]
    rw [Bool.and_eq_true] at z
    by_cases y : σ 0 p.toNatClampNeg 0 = 0
    · rw [if_pos y]; exact xs_Vfd H
    · rw [if_neg y]; exact h _ (by have := xn_cl6 (m := 7) (by omega) z.1; omega) y z.2
  · rw [if_neg z]; exact H
end
