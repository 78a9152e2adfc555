def xs_cand (M C : Nat → Nat) (On : Nat → Option Nat) (t c : Nat) : Option Nat := if ¬ M c = 0 ∧ M c ≤ t then (On (t - M c)).map (fun v => C c + v) else none
def xs_omin : Option Nat → Option Nat → Option Nat
  | none, y => y
  | some a, none => some a
  | some a, some b => some (if b < a then b else a)
def xs_mn (f : Nat → Option Nat) : Nat → Option Nat
  | 0 => none
  | k + 1 => xs_omin (xs_mn f k) (f k)
def xs_bc (M C : Nat → Nat → Nat) (n : Nat) : Nat → Nat → Option Nat
  | 0, _ => some 0
  | r + 1, t => xs_mn (xs_cand (M (n - (r + 1))) (C (n - (r + 1))) (xs_bc M C n r) t) 24
def xs_enc (o : Option Nat) : Int32 := match o with
  | none => 1000000000
  | some v => nI v
def xs_bd (K : Nat) (o : Option Nat) : Prop := ∀ v, o = some v → v ≤ K
theorem xn_bdo {K : Nat} {a b : Option Nat} (ha : xs_bd K a) (hb : xs_bd K b) : xs_bd K (xs_omin a b) := by
  intro v hv
  match a, b with
  | none, b => exact hb v hv
  | some a, none => exact ha v hv
  | some a, some b =>
    have e : (if b < a then b else a) = v := Option.some.inj hv
    have h1 := ha a rfl
    have h2 := hb b rfl
    split at e <;> omega
theorem xn_bdm {K : Nat} {f : Nat → Option Nat} (hf : ∀ c, c < 24 → xs_bd K (f c)) : ∀ k, k ≤ 24 → xs_bd K (xs_mn f k)
  | 0, _ => fun v hv => by cases hv
  | k + 1, hk => xn_bdo (xn_bdm hf k (by omega)) (hf k (by omega))
theorem xn_bdc {K : Nat} {M C : Nat → Nat} {On : Nat → Option Nat} {t c : Nat} (hC : C c ≤ 500000) (hO : ∀ t, xs_bd K (On t)) : xs_bd (K + 500000) (xs_cand M C On t c) := by
  intro v hv
  unfold xs_cand at hv
  split at hv
  · obtain ⟨w, hw, rfl⟩ := Option.map_eq_some_iff.mp hv
    have := hO _ w hw
    omega
  · cases hv
theorem xn_bdb {M C : Nat → Nat → Nat} {n : Nat} (hC : ∀ s c, s < n → c < 24 → C s c ≤ 500000) : ∀ r t, r ≤ n → xs_bd (r * 500000) (xs_bc M C n r t)
  | 0, t, _ => fun v hv => by
    have e : 0 = v := Option.some.inj hv
    omega
  | r + 1, t, hr => by
    have h := xn_bdm (K := r * 500000 + 500000) (f := xs_cand (M (n - (r + 1))) (C (n - (r + 1))) (xs_bc M C n r) t) (fun c hc => xn_bdc (hC _ c (by omega) hc) (fun t => xn_bdb hC r t (by omega))) 24 (Nat.le_refl _)
    intro v hv
    have := h v hv
    omega
theorem xn_enc {o : Option Nat} (h : xs_bd 500000000 o) : xs_enc o = 1000000000 ↔ o = none := by
  cases o with
  | none => exact ⟨fun _ => rfl, fun _ => rfl⟩
  | some v =>
    have hv := h v rfl
    constructor
    · intro e
      have e2 : nI v = nI 1000000000 := e
      rw [nI_eq (by omega) (by omega)] at e2
      omega
    · intro e
      cases e
theorem xn_omin {a : Option Nat} {b : Nat} (ha : xs_bd 500000000 a) (hb : b ≤ 500000000) : (if nI b < xs_enc a then nI b else xs_enc a) = xs_enc (xs_omin a (some b)) := by
  cases a with
  | none =>
    show (if nI b < nI 1000000000 then nI b else _) = nI b
    rw [if_pos ((nI_ltI (by omega) (by omega)).mpr (by omega))]
  | some a =>
    have h1 := ha a rfl
    show (if nI b < nI a then nI b else nI a) = nI (if b < a then b else a)
    by_cases z : b < a
    · rw [if_pos z, if_pos ((nI_ltI (by omega) (by omega)).mpr z)]
    · rw [if_neg z, if_neg (fun y => z ((nI_ltI (by omega) (by omega)).mp y))]
def xs_fc (f : Nat → Option Nat) (v : Nat) : Nat → Nat → Nat
  | 0, i => i
  | d + 1, i => if f i = some v then i else xs_fc f v d (i + 1)
theorem xn_fc {f : Nat → Option Nat} {v : Nat} : ∀ (d i : Nat), (∃ c, i ≤ c ∧ c < i + d ∧ f c = some v) → f (xs_fc f v d i) = some v ∧ i ≤ xs_fc f v d i ∧ xs_fc f v d i < i + d
  | 0, i, ⟨c, h1, h2, _⟩ => absurd h2 (by omega)
  | d + 1, i, ⟨c, h1, h2, h3⟩ => by
    show f (if f i = some v then i else xs_fc f v d (i + 1)) = some v ∧ i ≤ (if f i = some v then i else xs_fc f v d (i + 1)) ∧ (if f i = some v then i else xs_fc f v d (i + 1)) < i + (d + 1)
    by_cases z : f i = some v
    · rw [if_pos z]
      exact ⟨z, by omega, by omega⟩
    · rw [if_neg z]
      have := xn_fc d (i + 1) ⟨c, by
        rcases Nat.lt_or_ge i c with y | y
        · omega
        · exact absurd (show f i = some v by rw [show i = c by omega]; exact h3) z, by omega, h3⟩
      exact ⟨this.1, by omega, by omega⟩
theorem xn_mne {f : Nat → Option Nat} {v : Nat} : ∀ k, xs_mn f k = some v → ∃ c, c < k ∧ f c = some v
  | k + 1, h => by
    have h2 : xs_omin (xs_mn f k) (f k) = some v := h
    cases ha : xs_mn f k with
    | none =>
      rw [ha] at h2
      exact ⟨k, by omega, h2⟩
    | some a =>
      rw [ha] at h2
      cases hb : f k with
      | none =>
        rw [hb] at h2
        obtain ⟨c, hc, e⟩ := xn_mne k (ha.trans h2)
        exact ⟨c, by omega, e⟩
      | some b =>
        rw [hb] at h2
        have h3 : (if b < a then b else a) = v := Option.some.inj h2
        by_cases z : b < a
        · rw [if_pos z] at h3
          exact ⟨k, by omega, by rw [hb, h3]⟩
        · rw [if_neg z] at h3
          obtain ⟨c, hc, e⟩ := xn_mne k (ha.trans (by rw [h3]))
          exact ⟨c, by omega, e⟩
def xs_rvb (it : Nat → Int32) (p : Nat) : Bool := (decide (1 ≤ it p) && decide (it p ≤ 50)) && ((decide (0 ≤ it (p + 1)) && decide (it (p + 1) ≤ 2000)) && (decide (0 ≤ it (p + 2)) && decide (it (p + 2) ≤ 1)))
theorem xn_rvb {it ro : Nat → Int32} {a s : Nat} (h : xs_rvb it (a + 3 * s) = true) (e : ∀ j, j < 3 → ro (3 * s + j) = it (a + 3 * s + j)) : xs_rv ro s := by
  unfold xs_rvb at h
  simp only [Bool.and_eq_true, decide_eq_true_eq, xn_le, show (1 : Int32).toInt = 1 from rfl, show (0 : Int32).toInt = 0 from rfl, show (50 : Int32).toInt = 50 from rfl, show (2000 : Int32).toInt = 2000 from rfl] at h
  unfold xs_rv
  rw [show 3 * s = 3 * s + 0 from rfl, e 0 (by omega), show 3 * s + 0 + 1 = 3 * s + 1 from rfl, e 1 (by omega), show 3 * s + 0 + 2 = 3 * s + 2 from rfl, e 2 (by omega)]
  exact h

set_option maxRecDepth 20000 in
set_option maxHeartbeats 2000000 in
/-- takesRoad -/
theorem xm_X6_takesRoad : xv_K yX6_takesRoad mX6_takesRoad (fun as h n Post => ∃ (st : Int32) (ks : Int32) (wo : Nat → Int32) (dr : Nat → Int32) (ro : Nat → Int32) (lc : Nat → Nat → Int32) (ke : Nat → Int32) (s0 : Nat) (th : Int32) (la : Int32) (sz : Int32) (it : Nat → Int32) (a : Nat) (N : Nat), as = [.ref 24, .ref s0, .int (nI a), .int (nI N)] ∧ (xs_PL h st ks wo dr ro lc ke) ∧ (40 < n) ∧ (s0 + 1 < n) ∧ (h s0 = .inr (7, [.ref (s0 + 1), .int th, .int la, .int sz])) ∧ (h (s0 + 1) = .inl (.int, 60, .inl it)) ∧ (1 ≤ N ∧ N ≤ 10) ∧ (a + 3 * N ≤ 60) ∧ (s0 + 1 < 24 ∨ 40 < s0) ∧ (∀ (h' : xv_H) (st' : Int32) (ro' : Nat → Int32) (r : Int32), xs_PL h' st' ks wo dr ro' lc ke → (∀ i, i < 24 ∨ 40 < i → h' i = h i) → r = (if xs_all (fun s => xs_rvb it (a + 3 * s)) N = true then 1 else 0) → (xs_all (fun s => xs_rvb it (a + 3 * s)) N = true → st' = nI N ∧ ∀ j, j < 3 * N → ro' j = it (a + j)) → Post (some (.int r)) h' n)) := by
  refine xv_entry (by decide +kernel) rfl (fun h => absurd h (by decide)) ?_
  rintro X _ h n Post ⟨st, ks, wo, dr, ro, lc, ke, s0, th, la, sz, it, a, N, rfl, hL, h40, hs, hS, hI, hN, haN, hs0, hp⟩
  refine ⟨Nat.le_of_ble_eq_true rfl, ?_⟩
  show xv_V X mX6_takesRoad Post 0 0 0 [(0, .ref 24), (1, .ref s0), (2, .int (nI a)), (3, .int (nI N))] [] h n
  have L17 : ∀ (d s : Nat) (hh : xv_H) (g : Nat → Int32), s + d = N → xs_PL hh (nI N) ks wo dr g lc ke → xs_all (fun s => xs_rvb it (a + 3 * s)) s = true → (∀ j, j < 3 * s → g j = it (a + j)) → (∀ i, i < 24 ∨ 40 < i → hh i = h i) → xv_V X mX6_takesRoad Post 0 0 17 [(0, .ref 24), (1, .ref s0), (2, .int (nI a)), (3, .int (nI N)), (4, .int (nI s))] [] hh n := by
    intro d
    induction d using Nat.strongRecOn with
    | _ d ih =>
      intro s hh g hsd hQ hall hg hf0
      refine xi_iload (q := 19) dX6_takesRoad_17 rfl rfl ?_
      refine xi_aload_n (q := 20) dX6_takesRoad_19 rfl rfl ?_
      refine xi_getf (q := 23) dX6_takesRoad_20 fl_X6_38 ⟨by omega, hQ.1⟩ rfl rfl ?_
      refine xi_icmp_ge (q := 26) (q2 := 145) dX6_takesRoad_23 (by decide) rfl (fun c_23 => ?_) (fun c_23 => ?_)
      · have hsN : s = N := by have z : N ≤ s := xn_leN c_23 (by omega) (by omega); omega
        subst hsN
        refine xi_iconst (x := 1) (q := 146) dX6_takesRoad_145 (by decide) rfl ?_
        refine xi_ret ⟨_, rfl, rfl, dX6_takesRoad_146⟩ (Nat.zero_le _) (Nat.zero_le _) ?_
        exact hp _ _ _ _ hQ hf0 (by rw [hall]; rfl) (fun _ => ⟨rfl, hg⟩)
      · have hsN : s < N := xn_nleN c_23 (by omega) (by omega)
        have r0 : (upd (upd (upd g (3 * s) (it (a + 3 * s))) (3 * s + 1) (it (a + 3 * s + 1))) (3 * s + 2) (it (a + 3 * s + 2))) (3 * s) = it (a + 3 * s) := by rw [pk_un (by omega), pk_un (by omega), pk_us]
        have r1 : (upd (upd (upd g (3 * s) (it (a + 3 * s))) (3 * s + 1) (it (a + 3 * s + 1))) (3 * s + 2) (it (a + 3 * s + 2))) (3 * s + 1) = it (a + 3 * s + 1) := by rw [pk_un (by omega), pk_us]
        have r2 : (upd (upd (upd g (3 * s) (it (a + 3 * s))) (3 * s + 1) (it (a + 3 * s + 1))) (3 * s + 2) (it (a + 3 * s + 2))) (3 * s + 2) = it (a + 3 * s + 2) := pk_us
        refine xi_iconst (x := 3) (q := 27) dX6_takesRoad_26 (by decide) rfl ?_
        refine xi_iload (q := 29) dX6_takesRoad_27 rfl rfl ?_
        refine xi_imul (q := 30) dX6_takesRoad_29 rfl ?_
        refine xi_istore (q := 32) dX6_takesRoad_30 (Nat.le_of_ble_eq_true rfl) rfl ?_
        refine xi_aload_n (q := 33) dX6_takesRoad_32 rfl rfl ?_
        refine xi_getf (q := 36) dX6_takesRoad_33 fl_X6_18 ⟨by omega, hQ.1⟩ rfl rfl ?_
        refine xi_iload (q := 38) dX6_takesRoad_36 rfl rfl ?_
        refine xi_aload_n (q := 39) dX6_takesRoad_38 rfl rfl ?_
        refine xi_iload_n (q := 40) dX6_takesRoad_39 rfl rfl ?_
        refine xi_iload (q := 42) dX6_takesRoad_40 rfl rfl ?_
        refine xi_iadd (q := 43) dX6_takesRoad_42 rfl ?_
        refine xv_cV1 (q := 46) xm_X7_read ln_X6_42 dX6_takesRoad_43 ⟨by omega, (hf0 s0 (by omega)).trans hS⟩ rfl ⟨(Nat.le_of_ble_eq_true rfl), (Nat.le_of_ble_eq_true rfl)⟩ (Nat.le_of_ble_eq_true rfl) ⟨rfl, rfl⟩ rfl (Nat.zero_le _) (Nat.zero_le _) ?_
        refine ⟨s0, th, la, sz, it, _, a + 3 * s, rfl, hs, (hf0 s0 (by omega)).trans hS, (hf0 (s0 + 1) (by omega)).trans hI, (by rw [show (nI a + 3 * nI s : Int32) = nI (a + 3 * s) by rw [show (3 * nI s : Int32) = nI (3 * s) from pk_mul 3 s, nI_add]]; exact xv_ixN (by omega) (by omega)), ?_⟩
        refine xi_iast (q := 47) dX6_takesRoad_46 ⟨by omega, hQ.2.2.2.1⟩ (xn_ix30 (by omega) (by omega)) rfl ?_
        refine xi_aload_n (q := 48) dX6_takesRoad_47 rfl rfl ?_
        refine xi_getf (q := 51) dX6_takesRoad_48 fl_X6_18 (xv_keep (by omega) ⟨by omega, hQ.1⟩) rfl rfl ?_
        refine xi_iload (q := 53) dX6_takesRoad_51 rfl rfl ?_
        refine xi_iconst (x := 1) (q := 54) dX6_takesRoad_53 (by decide) rfl ?_
        refine xi_iadd (q := 55) dX6_takesRoad_54 rfl ?_
        refine xi_aload_n (q := 56) dX6_takesRoad_55 rfl rfl ?_
        refine xi_iload_n (q := 57) dX6_takesRoad_56 rfl rfl ?_
        refine xi_iload (q := 59) dX6_takesRoad_57 rfl rfl ?_
        refine xi_iadd (q := 60) dX6_takesRoad_59 rfl ?_
        refine xi_iconst (x := 1) (q := 61) dX6_takesRoad_60 (by decide) rfl ?_
        refine xi_iadd (q := 62) dX6_takesRoad_61 rfl ?_
        refine xv_cV1 (q := 65) xm_X7_read ln_X6_42 dX6_takesRoad_62 (xv_keep (by omega) ⟨by omega, (hf0 s0 (by omega)).trans hS⟩) rfl ⟨(Nat.le_of_ble_eq_true rfl), (Nat.le_of_ble_eq_true rfl)⟩ (Nat.le_of_ble_eq_true rfl) ⟨rfl, rfl⟩ rfl (Nat.zero_le _) (Nat.zero_le _) ?_
        refine ⟨s0, th, la, sz, it, _, a + 3 * s + 1, rfl, hs, (va_up_ne _ _ (by omega)).trans ((hf0 s0 (by omega)).trans hS), (va_up_ne _ _ (by omega)).trans ((hf0 (s0 + 1) (by omega)).trans hI), (by rw [show (nI a + 3 * nI s + 1 : Int32) = nI (a + 3 * s + 1) by rw [show (3 * nI s : Int32) = nI (3 * s) from pk_mul 3 s, nI_add, show (1 : Int32) = nI 1 from rfl, nI_add]]; exact xv_ixN (by omega) (by omega)), ?_⟩
        refine xi_iast (q := 66) dX6_takesRoad_65 (xv_self (by omega)) (xn_ix3 (j := 1) (by omega) (by omega)) rfl ?_
        refine xi_aload_n (q := 67) dX6_takesRoad_66 rfl rfl ?_
        refine xi_getf (q := 70) dX6_takesRoad_67 fl_X6_18 (xv_keep (by omega) (xv_keep (by omega) ⟨by omega, hQ.1⟩)) rfl rfl ?_
        refine xi_iload (q := 72) dX6_takesRoad_70 rfl rfl ?_
        refine xi_iconst (x := 2) (q := 73) dX6_takesRoad_72 (by decide) rfl ?_
        refine xi_iadd (q := 74) dX6_takesRoad_73 rfl ?_
        refine xi_aload_n (q := 75) dX6_takesRoad_74 rfl rfl ?_
        refine xi_iload_n (q := 76) dX6_takesRoad_75 rfl rfl ?_
        refine xi_iload (q := 78) dX6_takesRoad_76 rfl rfl ?_
        refine xi_iadd (q := 79) dX6_takesRoad_78 rfl ?_
        refine xi_iconst (x := 2) (q := 80) dX6_takesRoad_79 (by decide) rfl ?_
        refine xi_iadd (q := 81) dX6_takesRoad_80 rfl ?_
        refine xv_cV1 (q := 84) xm_X7_read ln_X6_42 dX6_takesRoad_81 (xv_keep (by omega) (xv_keep (by omega) ⟨by omega, (hf0 s0 (by omega)).trans hS⟩)) rfl ⟨(Nat.le_of_ble_eq_true rfl), (Nat.le_of_ble_eq_true rfl)⟩ (Nat.le_of_ble_eq_true rfl) ⟨rfl, rfl⟩ rfl (Nat.zero_le _) (Nat.zero_le _) ?_
        refine ⟨s0, th, la, sz, it, _, a + 3 * s + 2, rfl, hs, (va_up_ne _ _ (by omega)).trans ((va_up_ne _ _ (by omega)).trans ((hf0 s0 (by omega)).trans hS)), (va_up_ne _ _ (by omega)).trans ((va_up_ne _ _ (by omega)).trans ((hf0 (s0 + 1) (by omega)).trans hI)), (by rw [show (nI a + 3 * nI s + 2 : Int32) = nI (a + 3 * s + 2) by rw [show (3 * nI s : Int32) = nI (3 * s) from pk_mul 3 s, nI_add, show (2 : Int32) = nI 2 from rfl, nI_add]]; exact xv_ixN (by omega) (by omega)), ?_⟩
        refine xi_iast (q := 85) dX6_takesRoad_84 (xv_self (by omega)) (xn_ix3 (j := 2) (by omega) (by omega)) rfl ?_
        refine xi_aload_n (q := 86) dX6_takesRoad_85 rfl rfl ?_
        refine xi_getf (q := 89) dX6_takesRoad_86 fl_X6_18 (xv_keep (by omega) (xv_keep (by omega) (xv_keep (by omega) ⟨by omega, hQ.1⟩))) rfl rfl ?_
        refine xi_iload (q := 91) dX6_takesRoad_89 rfl rfl ?_
        refine xi_iald (q := 92) dX6_takesRoad_91 (xv_self (by omega)) (xn_ix30 (by omega) (by omega)) rfl ?_
        rw [r0]
        refine xi_iconst (x := 1) (q := 93) dX6_takesRoad_92 (by decide) rfl ?_
        refine xi_bipush (x := 50) (q := 95) dX6_takesRoad_93 (by decide) rfl ?_
        refine xv_cS3 (q := 98) xm_X8_within ln_X6_48 dX6_takesRoad_95 ⟨(Nat.le_of_ble_eq_true rfl), (Nat.le_of_ble_eq_true rfl)⟩ (Nat.le_of_ble_eq_true rfl) ⟨rfl, rfl⟩ rfl (Nat.zero_le _) (Nat.zero_le _) ?_
        refine ⟨_, _, _, rfl, ?_⟩
        refine xi_if_eq (q := 101) (q2 := 137) dX6_takesRoad_98 (by decide) rfl (fun c_98 => ?_) (fun c_98 => ?_)
        · refine xi_iconst (x := 0) (q := 138) dX6_takesRoad_137 (by decide) rfl ?_
          refine xi_ret ⟨_, rfl, rfl, dX6_takesRoad_138⟩ (Nat.zero_le _) (Nat.zero_le _) ?_
          have hbad : xs_all (fun s => xs_rvb it (a + 3 * s)) N = false := xn_allF (i := s) (by
            cases hz : xs_rvb it (a + 3 * s) with
            | false => rfl
            | true =>
              unfold xs_rvb at hz
              simp only [Bool.and_eq_true, decide_eq_true_eq] at hz
              exact absurd hz.1 (xn_b0 (by first | exact c_98 | exact Decidable.of_not_not c_98))) hsN
          rw [bx_uu, bx_uu]
          exact hp _ _ _ _ (xs_PL3 hQ _) (fun i hi => (va_up_ne _ _ (by omega)).trans (hf0 i hi)) (by rw [hbad]; rfl) (fun z => by rw [hbad] at z; cases z)
        · refine xi_aload_n (q := 102) dX6_takesRoad_101 rfl rfl ?_
          refine xi_getf (q := 105) dX6_takesRoad_102 fl_X6_18 (xv_keep (by omega) (xv_keep (by omega) (xv_keep (by omega) ⟨by omega, hQ.1⟩))) rfl rfl ?_
          refine xi_iload (q := 107) dX6_takesRoad_105 rfl rfl ?_
          refine xi_iconst (x := 1) (q := 108) dX6_takesRoad_107 (by decide) rfl ?_
          refine xi_iadd (q := 109) dX6_takesRoad_108 rfl ?_
          refine xi_iald (q := 110) dX6_takesRoad_109 (xv_self (by omega)) (xn_ix3 (j := 1) (by omega) (by omega)) rfl ?_
          rw [r1]
          refine xi_iconst (x := 0) (q := 111) dX6_takesRoad_110 (by decide) rfl ?_
          refine xi_sipush (x := 2000) (q := 114) dX6_takesRoad_111 (by decide) rfl ?_
          refine xv_cS3 (q := 117) xm_X8_within ln_X6_48 dX6_takesRoad_114 ⟨(Nat.le_of_ble_eq_true rfl), (Nat.le_of_ble_eq_true rfl)⟩ (Nat.le_of_ble_eq_true rfl) ⟨rfl, rfl⟩ rfl (Nat.zero_le _) (Nat.zero_le _) ?_
          refine ⟨_, _, _, rfl, ?_⟩
          refine xi_if_eq (q := 120) (q2 := 137) dX6_takesRoad_117 (by decide) rfl (fun c_117 => ?_) (fun c_117 => ?_)
          · refine xi_iconst (x := 0) (q := 138) dX6_takesRoad_137 (by decide) rfl ?_
            refine xi_ret ⟨_, rfl, rfl, dX6_takesRoad_138⟩ (Nat.zero_le _) (Nat.zero_le _) ?_
            have hbad : xs_all (fun s => xs_rvb it (a + 3 * s)) N = false := xn_allF (i := s) (by
              cases hz : xs_rvb it (a + 3 * s) with
              | false => rfl
              | true =>
                unfold xs_rvb at hz
                simp only [Bool.and_eq_true, decide_eq_true_eq] at hz
                exact absurd hz.2.1 (xn_b0 (by first | exact c_117 | exact Decidable.of_not_not c_117))) hsN
            rw [bx_uu, bx_uu]
            exact hp _ _ _ _ (xs_PL3 hQ _) (fun i hi => (va_up_ne _ _ (by omega)).trans (hf0 i hi)) (by rw [hbad]; rfl) (fun z => by rw [hbad] at z; cases z)
          · refine xi_aload_n (q := 121) dX6_takesRoad_120 rfl rfl ?_
            refine xi_getf (q := 124) dX6_takesRoad_121 fl_X6_18 (xv_keep (by omega) (xv_keep (by omega) (xv_keep (by omega) ⟨by omega, hQ.1⟩))) rfl rfl ?_
            refine xi_iload (q := 126) dX6_takesRoad_124 rfl rfl ?_
            refine xi_iconst (x := 2) (q := 127) dX6_takesRoad_126 (by decide) rfl ?_
            refine xi_iadd (q := 128) dX6_takesRoad_127 rfl ?_
            refine xi_iald (q := 129) dX6_takesRoad_128 (xv_self (by omega)) (xn_ix3 (j := 2) (by omega) (by omega)) rfl ?_
            rw [r2]
            refine xi_iconst (x := 0) (q := 130) dX6_takesRoad_129 (by decide) rfl ?_
            refine xi_iconst (x := 1) (q := 131) dX6_takesRoad_130 (by decide) rfl ?_
            refine xv_cS3 (q := 134) xm_X8_within ln_X6_48 dX6_takesRoad_131 ⟨(Nat.le_of_ble_eq_true rfl), (Nat.le_of_ble_eq_true rfl)⟩ (Nat.le_of_ble_eq_true rfl) ⟨rfl, rfl⟩ rfl (Nat.zero_le _) (Nat.zero_le _) ?_
            refine ⟨_, _, _, rfl, ?_⟩
            refine xi_if_ne (q := 137) (q2 := 139) dX6_takesRoad_134 (by decide) rfl (fun c_134 => ?_) (fun c_134 => ?_)
            · refine xi_iinc (y := nI (s + 1)) (q := 142) dX6_takesRoad_139 rfl (xn_inc s) (Nat.le_of_ble_eq_true rfl) rfl ?_
              refine xi_goto (q := 17) dX6_takesRoad_142 (by decide) ?_
              refine xv_weakS (lv' := [(0, .ref 24), (1, .ref s0), (2, .int (nI a)), (3, .int (nI N)), (4, .int (nI (s + 1)))]) ⟨rfl, rfl, rfl, rfl, rfl, trivial⟩ ?_
              rw [bx_uu, bx_uu]
              exact ih (d - 1) (by omega) (s + 1) _ _ (by omega) (xs_PL3 hQ _) (by
                show (xs_all (fun s => xs_rvb it (a + 3 * s)) s && xs_rvb it (a + 3 * s)) = true
                rw [hall, Bool.true_and]
                unfold xs_rvb
                have y0 := xn_b1 c_98
                have y1 := xn_b1 c_117
                have y2 := xn_b1 c_134
                simp only [Bool.and_eq_true, decide_eq_true_eq]
                exact ⟨y0, y1, y2⟩) (fun j hj => by
                by_cases z0 : j = 3 * s
                · rw [z0]; exact r0
                · by_cases z1 : j = 3 * s + 1
                  · rw [z1]; exact r1
                  · by_cases z2 : j = 3 * s + 2
                    · rw [z2]; exact r2
                    · rw [pk_un z2, pk_un z1, pk_un z0]; exact hg j (by omega)) (fun i hi => (va_up_ne _ _ (by omega)).trans (hf0 i hi))
            · refine xi_iconst (x := 0) (q := 138) dX6_takesRoad_137 (by decide) rfl ?_
              refine xi_ret ⟨_, rfl, rfl, dX6_takesRoad_138⟩ (Nat.zero_le _) (Nat.zero_le _) ?_
              have hbad : xs_all (fun s => xs_rvb it (a + 3 * s)) N = false := xn_allF (i := s) (by
                cases hz : xs_rvb it (a + 3 * s) with
                | false => rfl
                | true =>
                  unfold xs_rvb at hz
                  simp only [Bool.and_eq_true, decide_eq_true_eq] at hz
                  exact absurd hz.2.2 (xn_b0 (by first | exact c_134 | exact Decidable.of_not_not c_134))) hsN
              rw [bx_uu, bx_uu]
              exact hp _ _ _ _ (xs_PL3 hQ _) (fun i hi => (va_up_ne _ _ (by omega)).trans (hf0 i hi)) (by rw [hbad]; rfl) (fun z => by rw [hbad] at z; cases z)
  refine xi_aload_n (q := 1) dX6_takesRoad_0 rfl rfl ?_
  refine xi_iconst (x := 0) (q := 2) dX6_takesRoad_1 (by decide) rfl ?_
  refine xi_iload_n (q := 3) dX6_takesRoad_2 rfl rfl ?_
  refine xi_bipush (x := 10) (q := 5) dX6_takesRoad_3 (by decide) rfl ?_
  refine xi_mmin (q := 8) dX6_takesRoad_5 ln_X6_29 (Nat.le_of_ble_eq_true rfl) (Nat.le_of_ble_eq_true rfl) (Nat.zero_le _) (Nat.zero_le _) rfl ?_
  refine xi_mmax (q := 11) dX6_takesRoad_8 ln_X6_35 (Nat.le_of_ble_eq_true rfl) (Nat.le_of_ble_eq_true rfl) (Nat.zero_le _) (Nat.zero_le _) rfl ?_
  rw [show (if 10 < nI N then 10 else nI N : Int32) = nI N from if_neg (fun z => by rw [xn_lt, xn_NI (by omega), show (10 : Int32).toInt = 10 from rfl] at z; omega), show (if 0 < nI N then nI N else 0 : Int32) = nI N from if_pos (by rw [xn_lt, xn_NI (by omega), show (0 : Int32).toInt = 0 from rfl]; omega)]
  refine xi_putf (q := 14) dX6_takesRoad_11 fl_X6_38 ⟨by omega, hL.1⟩ (Or.inl rfl) (fun _ => rfl) (fun _ => rfl) (Nat.le_of_ble_eq_true rfl) rfl ?_
  refine xi_iconst (x := 0) (q := 15) dX6_takesRoad_14 (by decide) rfl ?_
  refine xi_istore (q := 17) dX6_takesRoad_15 (Nat.le_of_ble_eq_true rfl) rfl ?_
  refine xv_weakS (lv' := [(0, .ref 24), (1, .ref s0), (2, .int (nI a)), (3, .int (nI N)), (4, .int (nI 0))]) ⟨rfl, rfl, rfl, rfl, rfl, trivial⟩ ?_
  exact L17 N 0 _ ro (by omega) (xs_PL0 hL (nI N) ks) rfl (fun j hj => absurd hj (by omega)) (fun i hi => va_up_ne _ _ (by omega))
