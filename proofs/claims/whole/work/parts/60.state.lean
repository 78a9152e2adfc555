abbrev xs_Sg := Nat → Nat → Nat → Int32
def xs_pt (σ : xs_Sg) (f o : Nat) (g : Nat → Int32) : xs_Sg := fun f' o' => if f' = f ∧ o' = o then g else σ f' o'
theorem xs_pts (σ : xs_Sg) (f o : Nat) (g : Nat → Int32) : xs_pt σ f o g f o = g := if_pos ⟨rfl, rfl⟩
theorem xs_pto {σ : xs_Sg} {f o f' o' : Nat} {g : Nat → Int32} (h : ¬ (f' = f ∧ o' = o)) : xs_pt σ f o g f' o' = σ f' o' := if_neg h
def xs_fd (σ : xs_Sg) (b : Int32) : xs_Sg := xs_pt σ 16 0 fun _ => b
def xs_tn (σ : xs_Sg) (b : Int32) : xs_Sg := xs_pt σ 14 0 fun _ => b
def xs_tr (σ : xs_Sg) (g : Nat → Int32) : xs_Sg := xs_pt σ 15 0 g
def xs_sh (σ : xs_Sg) (k : Nat) (t l z : Int32) (it : Nat → Int32) : xs_Sg := xs_pt (xs_pt (xs_pt (xs_pt σ 0 k fun _ => t) 1 k fun _ => l) 2 k fun _ => z) 3 k it
def xs_en (σ : xs_Sg) (k : Nat) (f : Nat → Int32) (s t : Int32) : xs_Sg := xs_pt (xs_pt (xs_pt σ 4 k f) 5 k fun _ => s) 6 k fun _ => t
def xs_ca (σ : xs_Sg) (k : Nat) (kp nt bo : Int32) (ci : Nat → Int32) : xs_Sg := xs_pt (xs_pt (xs_pt (xs_pt σ 7 k fun _ => kp) 8 k fun _ => nt) 9 k fun _ => bo) 10 k ci
def xs_fi (σ : xs_Sg) (g : Nat → Int32) : xs_Sg := xs_pt σ 13 0 g
def xs_pl (σ : xs_Sg) (ks : Int32) (ke : Nat → Int32) : xs_Sg := xs_pt (xs_pt σ 11 0 fun _ => ks) 12 0 ke
def xs_t1 (h : xv_H) : Prop := ∃ (f : Nat → Int32) (s t : Int32), h 4 = .inr (0, [.ref 5, .int s, .int t]) ∧ h 5 = .inl (.int, 11, .inl f)
def xs_t2 (h : xv_H) : Prop := ∃ (f : Nat → Int32) (s t u : Int32), h 6 = .inr (2, [.ref 7, .int s, .int t, .int u]) ∧ h 7 = .inl (.int, 48, .inl f)
def xs_t3 (h : xv_H) : Prop := ∃ (ga gg gl : Int32) (w : Nat → Nat → Int32), xs_G h ga gg gl w
def xs_t4 (h : xv_H) : Prop := ∃ (dn : Int64) (wk dk : Int32) (r1 r2 r3 r4 : Nat → Int32), xs_PC h dn wk dk r1 r2 r3 r4
def xs_t5 (h : xv_H) : Prop := ∃ (nb nl : Int32) (g : Nat → Int32), h 22 = .inr (4, [.ref 23, .int nb, .int nl]) ∧ h 23 = .inl (.int, 13, .inl g)
def xs_t6 (h : xv_H) (ks : Int32) (ke : Nat → Int32) : Prop := ∃ (st : Int32) (wo dr ro : Nat → Int32) (lc : Nat → Nat → Int32), xs_PL h st ks wo dr ro lc ke
theorem xs_t1k {h h' : xv_H} (H : xs_t1 h) (hf : ∀ i, 4 ≤ i → i ≤ 5 → h' i = h i) : xs_t1 h' := by
  obtain ⟨f, s, t, a, b⟩ := H
  exact ⟨f, s, t, (hf 4 (by omega) (by omega)).trans a, (hf 5 (by omega) (by omega)).trans b⟩
theorem xs_t2k {h h' : xv_H} (H : xs_t2 h) (hf : ∀ i, 6 ≤ i → i ≤ 7 → h' i = h i) : xs_t2 h' := by
  obtain ⟨f, s, t, u, a, b⟩ := H
  exact ⟨f, s, t, u, (hf 6 (by omega) (by omega)).trans a, (hf 7 (by omega) (by omega)).trans b⟩
theorem xs_t3k {h h' : xv_H} (H : xs_t3 h) (hf : ∀ i, 8 ≤ i → i ≤ 16 → h' i = h i) : xs_t3 h' := by
  obtain ⟨ga, gg, gl, w, a, b, c⟩ := H
  exact ⟨ga, gg, gl, w, (hf 8 (by omega) (by omega)).trans a, (hf 9 (by omega) (by omega)).trans b, fun k hk => (hf _ (by omega) (by omega)).trans (c k hk)⟩
theorem xs_t4k {h h' : xv_H} (H : xs_t4 h) (hf : ∀ i, 17 ≤ i → i ≤ 21 → h' i = h i) : xs_t4 h' := by
  obtain ⟨dn, wk, dk, r1, r2, r3, r4, a, b, c, d, e⟩ := H
  exact ⟨dn, wk, dk, r1, r2, r3, r4, (hf _ (by omega) (by omega)).trans a, (hf _ (by omega) (by omega)).trans b, (hf _ (by omega) (by omega)).trans c, (hf _ (by omega) (by omega)).trans d, (hf _ (by omega) (by omega)).trans e⟩
theorem xs_t5k {h h' : xv_H} (H : xs_t5 h) (hf : ∀ i, 22 ≤ i → i ≤ 23 → h' i = h i) : xs_t5 h' := by
  obtain ⟨nb, nl, g, a, b⟩ := H
  exact ⟨nb, nl, g, (hf _ (by omega) (by omega)).trans a, (hf _ (by omega) (by omega)).trans b⟩
theorem xs_t6k {h h' : xv_H} {ks : Int32} {ke : Nat → Int32} (H : xs_t6 h ks ke) (hf : ∀ i, 24 ≤ i → i ≤ 40 → h' i = h i) : xs_t6 h' ks ke := by
  obtain ⟨st, wo, dr, ro, lc, a⟩ := H
  exact ⟨st, wo, dr, ro, lc, xs_PLk a hf⟩

/-- the class's world -/
def xs_rt (a b : Int32) : xv_E := .inr (8, [.ref 1, .ref 2, .ref 3, .ref 4, .ref 6, .ref 8, .ref 17, .ref 22, .ref 24, .ref 41, .ref 42, .int a, .int b])
def xs_as : xv_E := .inl (.object "ValveShop$Sheet", 8, .inr (.inr (.inr (.inr (fun k => if k < 8 then some (43 + 2 * k) else none)))))
def xs_ae : xv_E := .inl (.object "ValveShop$Engine", 6, .inr (.inr (.inr (.inr (fun k => if k < 6 then some (59 + 2 * k) else none)))))
def xs_ac : xv_E := .inl (.object "ValveShop$FoundCard", 6, .inr (.inr (.inr (.inr (fun k => if k < 6 then some (71 + 2 * k) else none)))))
def xs_cs (k : Nat) (t l z : Int32) : xv_E := .inr (7, [.ref (43 + 2 * k + 1), .int t, .int l, .int z])
def xs_ce (k : Nat) (s t : Int32) : xv_E := .inr (0, [.ref (59 + 2 * k + 1), .int s, .int t])
def xs_cc (k : Nat) (kp nt bo : Int32) : xv_E := .inr (2, [.ref (71 + 2 * k + 1), .int kp, .int nt, .int bo])
def xs_cf (g : Nat → Int32) : xv_E := .inr (1, [.int (g 0), .int (g 1), .int (g 2), .int (g 3), .int (g 4), .int (g 5)])
def xs_ia (m : Nat) (g : Nat → Int32) : xv_E := .inl (.int, m, .inl g)
def xs_S (h : xv_H) (σ : xs_Sg) : Prop :=
  (h 0 = xs_rt (σ 14 0 0) (σ 16 0 0) ∧ h 1 = xs_as ∧ h 2 = xs_ae ∧ h 3 = xs_ac) ∧
  (∀ k, k < 8 → h (43 + 2 * k) = xs_cs k (σ 0 k 0) (σ 1 k 0) (σ 2 k 0) ∧ h (43 + 2 * k + 1) = xs_ia 60 (σ 3 k)) ∧
  (∀ k, k < 6 → h (59 + 2 * k) = xs_ce k (σ 5 k 0) (σ 6 k 0) ∧ h (59 + 2 * k + 1) = xs_ia 11 (σ 4 k)) ∧
  (∀ k, k < 6 → h (71 + 2 * k) = xs_cc k (σ 7 k 0) (σ 8 k 0) (σ 9 k 0) ∧ h (71 + 2 * k + 1) = xs_ia 48 (σ 10 k)) ∧
  (h 41 = xs_cf (σ 13 0) ∧ h 42 = xs_ia 16 (σ 15 0)) ∧
  (xs_t1 h ∧ xs_t2 h ∧ xs_t3 h ∧ xs_t4 h ∧ xs_t5 h ∧ xs_t6 h (σ 11 0 0) (σ 12 0))
section
variable {h h' : xv_H} {σ : xs_Sg}
theorem xs_Sc (hS : xs_S h σ) (hf : ∀ i, i < 4 ∨ 40 < i → i < 83 → h' i = h i) (T : xs_t1 h' ∧ xs_t2 h' ∧ xs_t3 h' ∧ xs_t4 h' ∧ xs_t5 h' ∧ xs_t6 h' (σ 11 0 0) (σ 12 0)) : xs_S h' σ := by
  obtain ⟨⟨a0, a1, a2, a3⟩, b, c, d, ⟨e1, e2⟩, -⟩ := hS
  refine ⟨⟨(hf _ (by omega) (by omega)).trans a0, (hf _ (by omega) (by omega)).trans a1, (hf _ (by omega) (by omega)).trans a2, (hf _ (by omega) (by omega)).trans a3⟩, fun k hk => ⟨(hf _ (by omega) (by omega)).trans (b k hk).1, (hf _ (by omega) (by omega)).trans (b k hk).2⟩, fun k hk => ⟨(hf _ (by omega) (by omega)).trans (c k hk).1, (hf _ (by omega) (by omega)).trans (c k hk).2⟩, fun k hk => ⟨(hf _ (by omega) (by omega)).trans (d k hk).1, (hf _ (by omega) (by omega)).trans (d k hk).2⟩, ⟨(hf _ (by omega) (by omega)).trans e1, (hf _ (by omega) (by omega)).trans e2⟩, T⟩
theorem xs_T6 (hS : xs_S h σ) : xs_t1 h ∧ xs_t2 h ∧ xs_t3 h ∧ xs_t4 h ∧ xs_t5 h ∧ xs_t6 h (σ 11 0 0) (σ 12 0) := hS.2.2.2.2.2
theorem xs_Tk {ks : Int32} {ke : Nat → Int32} (H : xs_t1 h ∧ xs_t2 h ∧ xs_t3 h ∧ xs_t4 h ∧ xs_t5 h ∧ xs_t6 h ks ke) (hf : ∀ i, 4 ≤ i → i ≤ 40 → h' i = h i) : xs_t1 h' ∧ xs_t2 h' ∧ xs_t3 h' ∧ xs_t4 h' ∧ xs_t5 h' ∧ xs_t6 h' ks ke :=
  ⟨xs_t1k H.1 (fun i _ _ => hf i (by omega) (by omega)), xs_t2k H.2.1 (fun i _ _ => hf i (by omega) (by omega)), xs_t3k H.2.2.1 (fun i _ _ => hf i (by omega) (by omega)), xs_t4k H.2.2.2.1 (fun i _ _ => hf i (by omega) (by omega)), xs_t5k H.2.2.2.2.1 (fun i _ _ => hf i (by omega) (by omega)), xs_t6k H.2.2.2.2.2 (fun i _ _ => hf i (by omega) (by omega))⟩
theorem xs_Sk (hS : xs_S h σ) (hf : ∀ i, i < 83 → h' i = h i) : xs_S h' σ := xs_Sc hS (fun i _ h2 => hf i h2) (xs_Tk (xs_T6 hS) (fun i _ _ => hf i (by omega)))
theorem xs_St1 (hS : xs_S h σ) (T : xs_t1 h') (hf : ∀ i, i < 4 ∨ 5 < i → h' i = h i) : xs_S h' σ :=
  have H := xs_T6 hS
  xs_Sc hS (fun i _ _ => hf i (by omega)) ⟨T, xs_t2k H.2.1 (fun i _ _ => hf i (by omega)), xs_t3k H.2.2.1 (fun i _ _ => hf i (by omega)), xs_t4k H.2.2.2.1 (fun i _ _ => hf i (by omega)), xs_t5k H.2.2.2.2.1 (fun i _ _ => hf i (by omega)), xs_t6k H.2.2.2.2.2 (fun i _ _ => hf i (by omega))⟩
theorem xs_St2 (hS : xs_S h σ) (T : xs_t2 h') (hf : ∀ i, i < 6 ∨ 7 < i → h' i = h i) : xs_S h' σ :=
  have H := xs_T6 hS
  xs_Sc hS (fun i _ _ => hf i (by omega)) ⟨xs_t1k H.1 (fun i _ _ => hf i (by omega)), T, xs_t3k H.2.2.1 (fun i _ _ => hf i (by omega)), xs_t4k H.2.2.2.1 (fun i _ _ => hf i (by omega)), xs_t5k H.2.2.2.2.1 (fun i _ _ => hf i (by omega)), xs_t6k H.2.2.2.2.2 (fun i _ _ => hf i (by omega))⟩
theorem xs_St3 (hS : xs_S h σ) (T : xs_t3 h') (hf : ∀ i, i < 8 ∨ 16 < i → h' i = h i) : xs_S h' σ :=
  have H := xs_T6 hS
  xs_Sc hS (fun i _ _ => hf i (by omega)) ⟨xs_t1k H.1 (fun i _ _ => hf i (by omega)), xs_t2k H.2.1 (fun i _ _ => hf i (by omega)), T, xs_t4k H.2.2.2.1 (fun i _ _ => hf i (by omega)), xs_t5k H.2.2.2.2.1 (fun i _ _ => hf i (by omega)), xs_t6k H.2.2.2.2.2 (fun i _ _ => hf i (by omega))⟩
theorem xs_St4 (hS : xs_S h σ) (T : xs_t4 h') (hf : ∀ i, i < 17 ∨ 21 < i → h' i = h i) : xs_S h' σ :=
  have H := xs_T6 hS
  xs_Sc hS (fun i _ _ => hf i (by omega)) ⟨xs_t1k H.1 (fun i _ _ => hf i (by omega)), xs_t2k H.2.1 (fun i _ _ => hf i (by omega)), xs_t3k H.2.2.1 (fun i _ _ => hf i (by omega)), T, xs_t5k H.2.2.2.2.1 (fun i _ _ => hf i (by omega)), xs_t6k H.2.2.2.2.2 (fun i _ _ => hf i (by omega))⟩
theorem xs_St5 (hS : xs_S h σ) (T : xs_t5 h') (hf : ∀ i, i < 22 ∨ 23 < i → h' i = h i) : xs_S h' σ :=
  have H := xs_T6 hS
  xs_Sc hS (fun i _ _ => hf i (by omega)) ⟨xs_t1k H.1 (fun i _ _ => hf i (by omega)), xs_t2k H.2.1 (fun i _ _ => hf i (by omega)), xs_t3k H.2.2.1 (fun i _ _ => hf i (by omega)), xs_t4k H.2.2.2.1 (fun i _ _ => hf i (by omega)), T, xs_t6k H.2.2.2.2.2 (fun i _ _ => hf i (by omega))⟩
theorem xs_St6 (hS : xs_S h σ) (T : xs_t6 h' (σ 11 0 0) (σ 12 0)) (hf : ∀ i, i < 24 ∨ 40 < i → h' i = h i) : xs_S h' σ :=
  have H := xs_T6 hS
  xs_Sc hS (fun i _ _ => hf i (by omega)) ⟨xs_t1k H.1 (fun i _ _ => hf i (by omega)), xs_t2k H.2.1 (fun i _ _ => hf i (by omega)), xs_t3k H.2.2.1 (fun i _ _ => hf i (by omega)), xs_t4k H.2.2.2.1 (fun i _ _ => hf i (by omega)), xs_t5k H.2.2.2.2.1 (fun i _ _ => hf i (by omega)), T⟩
theorem xs_Sfd {x : Int32} (hS : xs_S h σ) (e : h' 0 = xs_rt (σ 14 0 0) x) (hf : ∀ i, i ≠ 0 → h' i = h i) : xs_S h' (xs_fd σ x) := by
  obtain ⟨⟨a0, a1, a2, a3⟩, b, c, d, ⟨e1, e2⟩, H⟩ := hS
  exact ⟨⟨e, (hf _ (by omega)).trans a1, (hf _ (by omega)).trans a2, (hf _ (by omega)).trans a3⟩, fun k hk => ⟨(hf _ (by omega)).trans (b k hk).1, (hf _ (by omega)).trans (b k hk).2⟩, fun k hk => ⟨(hf _ (by omega)).trans (c k hk).1, (hf _ (by omega)).trans (c k hk).2⟩, fun k hk => ⟨(hf _ (by omega)).trans (d k hk).1, (hf _ (by omega)).trans (d k hk).2⟩, ⟨(hf _ (by omega)).trans e1, (hf _ (by omega)).trans e2⟩, xs_Tk H (fun i _ _ => hf i (by omega))⟩
theorem xs_Stn {x : Int32} (hS : xs_S h σ) (e : h' 0 = xs_rt x (σ 16 0 0)) (hf : ∀ i, i ≠ 0 → h' i = h i) : xs_S h' (xs_tn σ x) := by
  obtain ⟨⟨a0, a1, a2, a3⟩, b, c, d, ⟨e1, e2⟩, H⟩ := hS
  exact ⟨⟨e, (hf _ (by omega)).trans a1, (hf _ (by omega)).trans a2, (hf _ (by omega)).trans a3⟩, fun k hk => ⟨(hf _ (by omega)).trans (b k hk).1, (hf _ (by omega)).trans (b k hk).2⟩, fun k hk => ⟨(hf _ (by omega)).trans (c k hk).1, (hf _ (by omega)).trans (c k hk).2⟩, fun k hk => ⟨(hf _ (by omega)).trans (d k hk).1, (hf _ (by omega)).trans (d k hk).2⟩, ⟨(hf _ (by omega)).trans e1, (hf _ (by omega)).trans e2⟩, xs_Tk H (fun i _ _ => hf i (by omega))⟩
theorem xs_Str {g : Nat → Int32} (hS : xs_S h σ) (e : h' 42 = xs_ia 16 g) (hf : ∀ i, i ≠ 42 → h' i = h i) : xs_S h' (xs_tr σ g) := by
  obtain ⟨⟨a0, a1, a2, a3⟩, b, c, d, ⟨e1, e2⟩, H⟩ := hS
  exact ⟨⟨(hf _ (by omega)).trans a0, (hf _ (by omega)).trans a1, (hf _ (by omega)).trans a2, (hf _ (by omega)).trans a3⟩, fun k hk => ⟨(hf _ (by omega)).trans (b k hk).1, (hf _ (by omega)).trans (b k hk).2⟩, fun k hk => ⟨(hf _ (by omega)).trans (c k hk).1, (hf _ (by omega)).trans (c k hk).2⟩, fun k hk => ⟨(hf _ (by omega)).trans (d k hk).1, (hf _ (by omega)).trans (d k hk).2⟩, ⟨(hf _ (by omega)).trans e1, e⟩, xs_Tk H (fun i _ _ => hf i (by omega))⟩
theorem xs_Sfi {g : Nat → Int32} (hS : xs_S h σ) (e : h' 41 = xs_cf g) (hf : ∀ i, i ≠ 41 → h' i = h i) : xs_S h' (xs_fi σ g) := by
  obtain ⟨⟨a0, a1, a2, a3⟩, b, c, d, ⟨e1, e2⟩, H⟩ := hS
  exact ⟨⟨(hf _ (by omega)).trans a0, (hf _ (by omega)).trans a1, (hf _ (by omega)).trans a2, (hf _ (by omega)).trans a3⟩, fun k hk => ⟨(hf _ (by omega)).trans (b k hk).1, (hf _ (by omega)).trans (b k hk).2⟩, fun k hk => ⟨(hf _ (by omega)).trans (c k hk).1, (hf _ (by omega)).trans (c k hk).2⟩, fun k hk => ⟨(hf _ (by omega)).trans (d k hk).1, (hf _ (by omega)).trans (d k hk).2⟩, ⟨e, (hf _ (by omega)).trans e2⟩, xs_Tk H (fun i _ _ => hf i (by omega))⟩
theorem xs_Spl {ks : Int32} {ke : Nat → Int32} (hS : xs_S h σ) (e : xs_t6 h' ks ke) (hf : ∀ i, i < 24 ∨ 40 < i → h' i = h i) : xs_S h' (xs_pl σ ks ke) := by
  obtain ⟨⟨a0, a1, a2, a3⟩, b, c, d, ⟨e1, e2⟩, H⟩ := hS
  exact ⟨⟨(hf _ (by omega)).trans a0, (hf _ (by omega)).trans a1, (hf _ (by omega)).trans a2, (hf _ (by omega)).trans a3⟩, fun k hk => ⟨(hf _ (by omega)).trans (b k hk).1, (hf _ (by omega)).trans (b k hk).2⟩, fun k hk => ⟨(hf _ (by omega)).trans (c k hk).1, (hf _ (by omega)).trans (c k hk).2⟩, fun k hk => ⟨(hf _ (by omega)).trans (d k hk).1, (hf _ (by omega)).trans (d k hk).2⟩, ⟨(hf _ (by omega)).trans e1, (hf _ (by omega)).trans e2⟩, ⟨xs_t1k H.1 (fun i _ _ => hf i (by omega)), xs_t2k H.2.1 (fun i _ _ => hf i (by omega)), xs_t3k H.2.2.1 (fun i _ _ => hf i (by omega)), xs_t4k H.2.2.2.1 (fun i _ _ => hf i (by omega)), xs_t5k H.2.2.2.2.1 (fun i _ _ => hf i (by omega)), e⟩⟩
theorem xs_shs (σ : xs_Sg) (j : Nat) (t l z : Int32) (it : Nat → Int32) : (xs_sh σ j t l z it) 0 j = (fun _ => t) ∧ (xs_sh σ j t l z it) 1 j = (fun _ => l) ∧ (xs_sh σ j t l z it) 2 j = (fun _ => z) ∧ (xs_sh σ j t l z it) 3 j = (it) := by
  unfold xs_sh
  refine ⟨?_, ?_, ?_, ?_⟩
  all_goals simp [xs_pt]
theorem xs_sho (σ : xs_Sg) (j : Nat) (t l z : Int32) (it : Nat → Int32) {fe o : Nat} (ho : o ≠ j ∨ (fe ≠ 0 ∧ fe ≠ 1 ∧ fe ≠ 2 ∧ fe ≠ 3)) : (xs_sh σ j t l z it) fe o = σ fe o := by
  unfold xs_sh
  rw [xs_pto (by omega), xs_pto (by omega), xs_pto (by omega), xs_pto (by omega)]
theorem xs_Ssh {j : Nat} (hj : j < 8) {t l z : Int32} {it : Nat → Int32} (hS : xs_S h σ) (e3 : h' (43 + 2 * j) = xs_cs j t l z) (e4 : h' (43 + 2 * j + 1) = xs_ia 60 it) (hf : ∀ i, i ≠ 43 + 2 * j → i ≠ 43 + 2 * j + 1 → h' i = h i) : xs_S h' (xs_sh σ j t l z it) := by
  obtain ⟨⟨a0, a1, a2, a3⟩, b, c, d, ⟨e1, e2⟩, H⟩ := hS
  exact ⟨⟨(hf _ (by omega) (by omega)).trans a0, (hf _ (by omega) (by omega)).trans a1, (hf _ (by omega) (by omega)).trans a2, (hf _ (by omega) (by omega)).trans a3⟩, fun k hk => by
    by_cases hz : k = j
    · subst hz
      have q := xs_shs σ k t l z it
      rw [q.1, q.2.1, q.2.2.1, q.2.2.2]
      exact ⟨e3, e4⟩
    · rw [xs_sho (fe := 0) σ j t l z it (Or.inl hz), xs_sho (fe := 1) σ j t l z it (Or.inl hz), xs_sho (fe := 2) σ j t l z it (Or.inl hz), xs_sho (fe := 3) σ j t l z it (Or.inl hz)]
      exact ⟨(hf _ (by omega) (by omega)).trans (b k hk).1, (hf _ (by omega) (by omega)).trans (b k hk).2⟩, fun k hk => ⟨(hf _ (by omega) (by omega)).trans (c k hk).1, (hf _ (by omega) (by omega)).trans (c k hk).2⟩, fun k hk => ⟨(hf _ (by omega) (by omega)).trans (d k hk).1, (hf _ (by omega) (by omega)).trans (d k hk).2⟩, ⟨(hf _ (by omega) (by omega)).trans e1, (hf _ (by omega) (by omega)).trans e2⟩, xs_Tk H (fun i _ _ => hf i (by omega) (by omega))⟩
theorem xs_ens (σ : xs_Sg) (j : Nat) (s t : Int32) (nf : Nat → Int32) : (xs_en σ j nf s t) 5 j = (fun _ => s) ∧ (xs_en σ j nf s t) 6 j = (fun _ => t) ∧ (xs_en σ j nf s t) 4 j = (nf) := by
  unfold xs_en
  refine ⟨?_, ?_, ?_⟩
  all_goals simp [xs_pt]
theorem xs_eno (σ : xs_Sg) (j : Nat) (s t : Int32) (nf : Nat → Int32) {fe o : Nat} (ho : o ≠ j ∨ (fe ≠ 5 ∧ fe ≠ 6 ∧ fe ≠ 4)) : (xs_en σ j nf s t) fe o = σ fe o := by
  unfold xs_en
  rw [xs_pto (by omega), xs_pto (by omega), xs_pto (by omega)]
theorem xs_Sen {j : Nat} (hj : j < 6) {s t : Int32} {nf : Nat → Int32} (hS : xs_S h σ) (e3 : h' (59 + 2 * j) = xs_ce j s t) (e4 : h' (59 + 2 * j + 1) = xs_ia 11 nf) (hf : ∀ i, i ≠ 59 + 2 * j → i ≠ 59 + 2 * j + 1 → h' i = h i) : xs_S h' (xs_en σ j nf s t) := by
  obtain ⟨⟨a0, a1, a2, a3⟩, b, c, d, ⟨e1, e2⟩, H⟩ := hS
  exact ⟨⟨(hf _ (by omega) (by omega)).trans a0, (hf _ (by omega) (by omega)).trans a1, (hf _ (by omega) (by omega)).trans a2, (hf _ (by omega) (by omega)).trans a3⟩, fun k hk => ⟨(hf _ (by omega) (by omega)).trans (b k hk).1, (hf _ (by omega) (by omega)).trans (b k hk).2⟩, fun k hk => by
    by_cases hz : k = j
    · subst hz
      have q := xs_ens σ k s t nf
      rw [q.1, q.2.1, q.2.2]
      exact ⟨e3, e4⟩
    · rw [xs_eno (fe := 5) σ j s t nf (Or.inl hz), xs_eno (fe := 6) σ j s t nf (Or.inl hz), xs_eno (fe := 4) σ j s t nf (Or.inl hz)]
      exact ⟨(hf _ (by omega) (by omega)).trans (c k hk).1, (hf _ (by omega) (by omega)).trans (c k hk).2⟩, fun k hk => ⟨(hf _ (by omega) (by omega)).trans (d k hk).1, (hf _ (by omega) (by omega)).trans (d k hk).2⟩, ⟨(hf _ (by omega) (by omega)).trans e1, (hf _ (by omega) (by omega)).trans e2⟩, xs_Tk H (fun i _ _ => hf i (by omega) (by omega))⟩
theorem xs_cas (σ : xs_Sg) (j : Nat) (kp nt bo : Int32) (ci : Nat → Int32) : (xs_ca σ j kp nt bo ci) 7 j = (fun _ => kp) ∧ (xs_ca σ j kp nt bo ci) 8 j = (fun _ => nt) ∧ (xs_ca σ j kp nt bo ci) 9 j = (fun _ => bo) ∧ (xs_ca σ j kp nt bo ci) 10 j = (ci) := by
  unfold xs_ca
  refine ⟨?_, ?_, ?_, ?_⟩
  all_goals simp [xs_pt]
theorem xs_cao (σ : xs_Sg) (j : Nat) (kp nt bo : Int32) (ci : Nat → Int32) {fe o : Nat} (ho : o ≠ j ∨ (fe ≠ 7 ∧ fe ≠ 8 ∧ fe ≠ 9 ∧ fe ≠ 10)) : (xs_ca σ j kp nt bo ci) fe o = σ fe o := by
  unfold xs_ca
  rw [xs_pto (by omega), xs_pto (by omega), xs_pto (by omega), xs_pto (by omega)]
theorem xs_Sca {j : Nat} (hj : j < 6) {kp nt bo : Int32} {ci : Nat → Int32} (hS : xs_S h σ) (e3 : h' (71 + 2 * j) = xs_cc j kp nt bo) (e4 : h' (71 + 2 * j + 1) = xs_ia 48 ci) (hf : ∀ i, i ≠ 71 + 2 * j → i ≠ 71 + 2 * j + 1 → h' i = h i) : xs_S h' (xs_ca σ j kp nt bo ci) := by
  obtain ⟨⟨a0, a1, a2, a3⟩, b, c, d, ⟨e1, e2⟩, H⟩ := hS
  exact ⟨⟨(hf _ (by omega) (by omega)).trans a0, (hf _ (by omega) (by omega)).trans a1, (hf _ (by omega) (by omega)).trans a2, (hf _ (by omega) (by omega)).trans a3⟩, fun k hk => ⟨(hf _ (by omega) (by omega)).trans (b k hk).1, (hf _ (by omega) (by omega)).trans (b k hk).2⟩, fun k hk => ⟨(hf _ (by omega) (by omega)).trans (c k hk).1, (hf _ (by omega) (by omega)).trans (c k hk).2⟩, fun k hk => by
    by_cases hz : k = j
    · subst hz
      have q := xs_cas σ k kp nt bo ci
      rw [q.1, q.2.1, q.2.2.1, q.2.2.2]
      exact ⟨e3, e4⟩
    · rw [xs_cao (fe := 7) σ j kp nt bo ci (Or.inl hz), xs_cao (fe := 8) σ j kp nt bo ci (Or.inl hz), xs_cao (fe := 9) σ j kp nt bo ci (Or.inl hz), xs_cao (fe := 10) σ j kp nt bo ci (Or.inl hz)]
      exact ⟨(hf _ (by omega) (by omega)).trans (d k hk).1, (hf _ (by omega) (by omega)).trans (d k hk).2⟩, ⟨(hf _ (by omega) (by omega)).trans e1, (hf _ (by omega) (by omega)).trans e2⟩, xs_Tk H (fun i _ _ => hf i (by omega) (by omega))⟩
end
