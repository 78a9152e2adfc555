theorem xn_psc {f g : Nat → Int32} : ∀ {k : Nat}, (∀ j, j < k → f j = g j) → xs_ps f k = xs_ps g k
  | 0, _ => rfl
  | k + 1, h => by
    show xs_ps f k + f k = xs_ps g k + g k
    rw [xn_psc (fun j hj => h j (by omega)), h k (by omega)]
theorem xn_psB {f : Nat → Int32} (hf : ∀ j, j < 48 → 0 ≤ (f j).toInt ∧ (f j).toInt ≤ 125000) : ∀ k : Nat, k ≤ 48 → 0 ≤ (xs_ps f k).toInt ∧ (xs_ps f k).toInt ≤ 125000 * k
  | 0, _ => by
    show 0 ≤ (0 : Int32).toInt ∧ (0 : Int32).toInt ≤ 125000 * ((0 : Nat) : Int)
    decide
  | k + 1, hk => by
    have h1 := xn_psB hf k (by omega)
    have h2 := hf k (by omega)
    have h3 : (xs_ps f k + f k).toInt = (xs_ps f k).toInt + (f k).toInt := xn_add (by omega) (by omega)
    show 0 ≤ (xs_ps f k + f k).toInt ∧ (xs_ps f k + f k).toInt ≤ 125000 * ((k + 1 : Nat) : Int)
    rw [h3]
    omega
theorem xn_absb {x : Int32} {K : Int} (h : -K ≤ x.toInt ∧ x.toInt ≤ K) (hK : K < 2147483647) : 0 ≤ (xs_abs x).toInt ∧ (xs_abs x).toInt ≤ K := by
  unfold xs_abs
  by_cases z : 0 ≤ x
  · rw [if_pos z]
    rw [xn_le, show (0 : Int32).toInt = 0 from rfl] at z
    omega
  · rw [if_neg z]
    rw [xn_le, show (0 : Int32).toInt = 0 from rfl] at z
    rw [xn_sub (by rw [show (0 : Int32).toInt = 0 from rfl]; omega) (by rw [show (0 : Int32).toInt = 0 from rfl]; omega), show (0 : Int32).toInt = 0 from rfl]
    omega
theorem xn_abss {a b : Int32} (ha : 0 ≤ a.toInt ∧ a.toInt ≤ 120000) (hb : 0 ≤ b.toInt ∧ b.toInt ≤ 120000) : xs_abs (a - b) = xs_abs (b - a) := by
  have h1 : (a - b).toInt = a.toInt - b.toInt := xn_sub (by omega) (by omega)
  have h2 : (b - a).toInt = b.toInt - a.toInt := xn_sub (by omega) (by omega)
  have h3 : (0 - (a - b)).toInt = 0 - (a - b).toInt := xn_sub (by rw [show (0 : Int32).toInt = 0 from rfl]; omega) (by rw [show (0 : Int32).toInt = 0 from rfl]; omega)
  have h4 : (0 - (b - a)).toInt = 0 - (b - a).toInt := xn_sub (by rw [show (0 : Int32).toInt = 0 from rfl]; omega) (by rw [show (0 : Int32).toInt = 0 from rfl]; omega)
  unfold xs_abs
  by_cases z : 0 ≤ a - b
  · by_cases y : 0 ≤ b - a
    · rw [if_pos z, if_pos y, xn_eq]
      rw [xn_le, show (0 : Int32).toInt = 0 from rfl] at z y
      omega
    · rw [if_pos z, if_neg y, xn_eq]
      omega
  · by_cases y : 0 ≤ b - a
    · rw [if_neg z, if_pos y, xn_eq]
      omega
    · rw [if_neg z, if_neg y, xn_eq]
      rw [xn_le, show (0 : Int32).toInt = 0 from rfl] at z y
      omega
theorem xn_cdb {f : Nat → Int32} {s m b d : Int32} (hf : xs_ok f) (hb : 0 ≤ b.toInt ∧ b.toInt ≤ 2000) {k : Nat} (hk : k < 48) : 0 ≤ (xs_cd f s m (b * 4 / 4) d k).toInt ∧ (xs_cd f s m (b * 4 / 4) d k).toInt ≤ 120000 := xn_prb hf (xn_B (r := 4) hb (by decide)) (96 + k) (by omega)
theorem xn_misb {f ci : Nat → Int32} {m b s : Int32} (hf : xs_ok f) (hb : 0 ≤ b.toInt ∧ b.toInt ≤ 2000) (hc : ∀ k, k < 48 → -1 ≤ (ci k).toInt ∧ (ci k).toInt ≤ 5000) : 0 ≤ (xs_mis f ci m b s).toInt ∧ (xs_mis f ci m b s).toInt ≤ 6000000 := by
  have h := xn_psB (f := xs_ap1 ci (fun k => xs_cd f s m (b * 4 / 4) 0 k)) (fun j hj => by
    unfold xs_ap1
    split
    · decide
    · have h1 := xn_cdb (s := s) (m := m) (d := 0) hf hb hj
      have h2 := hc j hj
      have h3 : (xs_cd f s m (b * 4 / 4) 0 j - ci j).toInt = (xs_cd f s m (b * 4 / 4) 0 j).toInt - (ci j).toInt := xn_sub (by omega) (by omega)
      show 0 ≤ (xs_abs (xs_cd f s m (b * 4 / 4) 0 j - ci j)).toInt ∧ (xs_abs (xs_cd f s m (b * 4 / 4) 0 j - ci j)).toInt ≤ 125000
      exact xn_absb (K := 125000) (by omega) (by omega)) 48 (by omega)
  unfold xs_mis
  omega
def xs_dbL (g : Nat → Int32) (b : Nat) (q : Int32) (k : Nat) : Int32 := if nI k = nI b then 0 else if (g k).toInt64 ≤ (g b).toInt64 + q.toInt64 then 1 else 0
theorem xn_dbL0 {g : Nat → Int32} {b : Nat} {q : Int32} {k : Nat} (h : nI k = nI b ∨ 0 < lg_cmp (g k).toInt64 ((g b).toInt64 + q.toInt64)) : xs_dbL g b q k = 0 := by
  unfold xs_dbL
  by_cases z : nI k = nI b
  · rw [if_pos z]
  · rw [if_neg z, if_neg (fun y => ?_)]
    have h1 := (lg_cmp_gt _ _).mp (h.resolve_left z)
    rw [Int64.lt_iff_toInt_lt] at h1
    rw [Int64.le_iff_toInt_le] at y
    omega
theorem xn_dbL1 {g : Nat → Int32} {b : Nat} {q : Int32} {k : Nat} (h : ¬ nI k = nI b) (h2 : ¬ 0 < lg_cmp (g k).toInt64 ((g b).toInt64 + q.toInt64)) : xs_dbL g b q k = 1 := by
  unfold xs_dbL
  rw [if_neg h, if_pos]
  rw [Int64.le_iff_toInt_le]
  rw [lg_cmp_gt, Int64.lt_iff_toInt_lt] at h2
  omega
theorem xn_dbE {g : Nat → Int32} {b : Nat} {q : Int32} (hq : 0 ≤ q.toInt ∧ q.toInt ≤ 100000) (hg : 0 ≤ (g b).toInt ∧ (g b).toInt ≤ 6000000) (k : Nat) : xs_dbL g b q k = xs_db1 g (nI b) (g b) q k := by
  have h1 : ((g b).toInt64 + q.toInt64).toInt = (g b).toInt + q.toInt := by
    rw [Int64.toInt_add, Int32.toInt_toInt64, Int32.toInt_toInt64]
    exact Int.bmod_eq_of_le (by omega) (by omega)
  have h2 : (g b + q).toInt = (g b).toInt + q.toInt := xn_add (by omega) (by omega)
  unfold xs_dbL xs_db1
  have h3 : (g k).toInt64 ≤ (g b).toInt64 + q.toInt64 ↔ g k ≤ g b + q := by rw [Int64.le_iff_toInt_le, xn_le, h1, h2, Int32.toInt_toInt64]
  by_cases z : g k ≤ g b + q
  · rw [if_pos (h3.mpr z), if_pos z]
  · rw [if_neg (fun y => z (h3.mp y)), if_neg z]
theorem xn_bstk (g : Nat → Int32) (k : Nat) : xs_bst g k = 0 ∨ xs_bst g k < k := by
  cases k with
  | zero => exact Or.inl rfl
  | succ k => exact Or.inr (xn_bstb g (k + 1) (by omega))
set_option maxRecDepth 20000 in
set_option maxHeartbeats 2000000 in
/-- named -/
theorem xm_X9_named : xv_K yX9_named mX9_named (fun as h n Post => ∃ (σ : xs_Sg) (p : Int32) (w : Int32) (q : Int32), as = [.ref 83, .int p, .int w, .int q] ∧ (xs_Mo h σ) ∧ (103 < n) ∧ (xs_V σ) ∧ xs_DM h n Post (xs_named σ p w q)) := by
  refine xv_entry (by decide +kernel) rfl (fun h => absurd h (by decide)) ?_
  rintro X _ h n Post ⟨σ, p, w, q, rfl, ⟨C, dk, hM, hR⟩, h103, hV, hp⟩
  refine ⟨Nat.le_of_ble_eq_true rfl, ?_⟩
  show xv_V X mX9_named Post 0 0 0 [(0, .ref 83), (1, .int p), (2, .int w), (3, .int q)] [] h n
  refine xi_aload_n (q := 1) dX9_named_0 rfl rfl ?_
  refine xi_iconst (x := 0) (q := 2) dX9_named_1 (by decide) rfl ?_
  refine xi_putf (q := 5) dX9_named_2 fl_X9_71 ⟨by omega, (xs_M83 hM)⟩ (Or.inl rfl) (fun _ => rfl) (fun _ => rfl) (Nat.le_of_ble_eq_true rfl) rfl ?_
  refine xi_iload_n (q := 6) dX9_named_5 rfl rfl ?_
  refine xv_cS1 (q := 9) xm_X9_isPlace ln_X9_116 dX9_named_6 ⟨(Nat.le_of_ble_eq_true rfl), (Nat.le_of_ble_eq_true rfl)⟩ (Nat.le_of_ble_eq_true rfl) ⟨rfl, rfl⟩ rfl (Nat.zero_le _) (Nat.zero_le _) ?_
  refine ⟨_, rfl, ?_⟩
  refine xi_if_eq (q := 12) (q2 := 41) dX9_named_9 (by decide) rfl (fun c_9 => ?_) (fun c_9 => ?_)
  · have g_9 : xs_i p 0 5 = false := decide_eq_false (xn_b0 c_9)
    refine xi_ldc (q := 43) dX9_named_41 kc_X9_91 rfl ?_
    refine xi_ret ⟨_, rfl, rfl, dX9_named_43⟩ (Nat.zero_le _) (Nat.zero_le _) ?_
    exact xs_finM (σ' := σ) hp (by simp only [xs_named, xs_onE, xs_onP, xs_fn, xs_an, Bool.not_false, Bool.not_true, Bool.true_or, Bool.false_or, Bool.and_true, Bool.true_and, Bool.and_false, Bool.false_and, Bool.false_eq_true, if_true, if_false, ↓reduceIte, g_9] <;> rfl) _ (xs_Mx (σ' := σ) hM hR (fa := (upd (C 83) 0 0)) ((va_up_self _ _ _).trans rfl) (fun j hj => (pk_un (by omega)).trans (rfl)) ((va_up_ne _ _ (by omega)).trans (xs_M88 hM)) (fun _ _ => rfl) ((va_up_ne _ _ (by omega)).trans (xs_M94 hM)) ((va_up_ne _ _ (by omega)).trans (xs_M95 hM)) ((va_up_ne _ _ (by omega)).trans (xs_M96 hM)) ((va_up_ne _ _ (by omega)).trans (xs_M97 hM)) ((va_up_ne _ _ (by omega)).trans (xs_M98 hM)) ((va_up_ne _ _ (by omega)).trans (xs_M99 hM)) (fun i i1 i2 i3 i4 => ((va_up_ne _ _ (by omega)).trans (Eq.refl _))) (fun _ _ _ => rfl) hR.2) (fun i hi => ((va_up_ne _ _ (by omega)).trans (Eq.refl _)))
  · have g_9 : xs_i p 0 5 = true := decide_eq_true (xn_b1 c_9)
    obtain ⟨kp, hkp, rfl⟩ := xn_pk (m := 5) (by omega) (xn_b1 c_9)
    refine xi_iload_n (q := 13) dX9_named_12 rfl rfl ?_
    refine xi_i2l (q := 14) dX9_named_13 rfl ?_
    refine xi_lconst (x := 0) (q := 15) dX9_named_14 (by decide) rfl ?_
    refine xi_ldc2 (q := 18) dX9_named_15 kc_X9_89 rfl ?_
    refine xv_cS3 (q := 21) xm_X9_in ln_X9_81 dX9_named_18 ⟨(Nat.le_of_ble_eq_true rfl), (Nat.le_of_ble_eq_true rfl)⟩ (Nat.le_of_ble_eq_true rfl) ⟨rfl, rfl⟩ rfl (Nat.zero_le _) (Nat.zero_le _) ?_
    refine ⟨w, 0, 2, rfl, ?_⟩
    refine xi_if_eq (q := 24) (q2 := 41) dX9_named_21 (by decide) rfl (fun c_21 => ?_) (fun c_21 => ?_)
    · have g_21 : xs_i w 0 2 = false := decide_eq_false (xn_b0 c_21)
      refine xi_ldc (q := 43) dX9_named_41 kc_X9_91 rfl ?_
      refine xi_ret ⟨_, rfl, rfl, dX9_named_43⟩ (Nat.zero_le _) (Nat.zero_le _) ?_
      exact xs_finM (σ' := σ) hp (by simp only [xs_named, xs_onE, xs_onP, xs_fn, xs_an, Bool.not_false, Bool.not_true, Bool.true_or, Bool.false_or, Bool.and_true, Bool.true_and, Bool.and_false, Bool.false_and, Bool.false_eq_true, if_true, if_false, ↓reduceIte, g_9, g_21, xs_kk0 (k := kp) (by omega)] <;> rfl) _ (xs_Mx (σ' := σ) hM hR (fa := (upd (C 83) 0 0)) ((va_up_self _ _ _).trans rfl) (fun j hj => (pk_un (by omega)).trans (rfl)) ((va_up_ne _ _ (by omega)).trans (xs_M88 hM)) (fun _ _ => rfl) ((va_up_ne _ _ (by omega)).trans (xs_M94 hM)) ((va_up_ne _ _ (by omega)).trans (xs_M95 hM)) ((va_up_ne _ _ (by omega)).trans (xs_M96 hM)) ((va_up_ne _ _ (by omega)).trans (xs_M97 hM)) ((va_up_ne _ _ (by omega)).trans (xs_M98 hM)) ((va_up_ne _ _ (by omega)).trans (xs_M99 hM)) (fun i i1 i2 i3 i4 => ((va_up_ne _ _ (by omega)).trans (Eq.refl _))) (fun _ _ _ => rfl) hR.2) (fun i hi => ((va_up_ne _ _ (by omega)).trans (Eq.refl _)))
    · have g_21 : xs_i w 0 2 = true := decide_eq_true (xn_b1 c_21)
      refine xi_iload_n (q := 25) dX9_named_24 rfl rfl ?_
      refine xi_iconst (x := 2) (q := 26) dX9_named_25 (by decide) rfl ?_
      refine xi_icmp_ne (q := 29) (q2 := 44) dX9_named_26 (by decide) rfl (fun c_26 => ?_) (fun c_26 => ?_)
      · have w26 : ¬ w = 2 := c_26
        refine xi_aload_n (q := 45) dX9_named_44 rfl rfl ?_
        refine xi_getf (q := 48) dX9_named_45 fl_X9_26 (xv_self (by omega)) rfl rfl ?_
        refine xi_iload_n (q := 49) dX9_named_48 rfl rfl ?_
        refine xi_zald (q := 50) dX9_named_49 (xv_keep (by omega) ⟨by omega, (xs_M89 hM)⟩) (xv_ixN (by omega) (by omega)) rfl ?_
        refine xi_if_ne (q := 53) (q2 := 56) dX9_named_50 (by decide) rfl (fun c_50 => ?_) (fun c_50 => ?_)
        · have y50 : ¬ σ 7 kp 0 = 0 := fun e => c_50 ((hR.1.2.2.1 kp (by omega)).1.trans e)
          refine xi_aload_n (q := 57) dX9_named_56 rfl rfl ?_
          refine xi_iconst (x := 0) (q := 58) dX9_named_57 (by decide) rfl ?_
          refine xi_putf (q := 61) dX9_named_58 fl_X9_75 (xv_self (by omega)) (Or.inl rfl) (fun _ => rfl) (fun _ => rfl) (Nat.le_of_ble_eq_true rfl) rfl ?_
          obtain ⟨G, hG⟩ : ∃ G : Nat → Int32, G = xs_mf σ kp := ⟨_, rfl⟩
          refine xi_iconst (x := 0) (q := 62) dX9_named_61 (by decide) rfl ?_
          refine xi_istore (q := 64) dX9_named_62 (Nat.le_of_ble_eq_true rfl) rfl ?_
          refine xi_iconst (x := 0) (q := 65) dX9_named_64 (by decide) rfl ?_
          refine xi_istore (q := 67) dX9_named_65 (Nat.le_of_ble_eq_true rfl) rfl ?_
          refine xv_weakS (lv' := [(0, .ref 83), (1, .int (nI kp)), (2, .int w), (3, .int q), (4, .int (nI (xs_bst G 0))), (5, .int (nI 0))]) ⟨rfl, rfl, rfl, rfl, rfl, rfl, trivial⟩ ?_
          refine xv_lpH (lv := fun k => [(0, .ref 83), (1, .int (nI kp)), (2, .int w), (3, .int q), (4, .int (nI (xs_bst G k))), (5, .int (nI k))]) (I := fun k hI => ∃ (dI : Int64) (nu : Nat → Int32) (g94 : Nat → Int32) (g95 : Nat → Int32), hI 83 = xs_mo (upd (upd (C 83) 0 0) 1 0) dI ∧ hI 88 = xs_ia 84 nu ∧ (∀ x, x < 72 → nu x = C 88 x) ∧ hI 94 = xs_ia 48 g94 ∧ hI 95 = xs_ia 13 g95 ∧ (∀ j, j < k → g95 j = G j) ∧ ∀ i, i ≠ 83 → i ≠ 88 → i ≠ 94 → i ≠ 95 → hI i = h i) (N := 13) (fun k h67 hk I67 ih67 => ?_) 0 _ (by omega) ⟨_, _, _, _, ((va_up_self _ _ _).trans rfl), ((va_up_ne _ _ (by omega)).trans ((va_up_ne _ _ (by omega)).trans (xs_M88 hM))), (fun _ _ => rfl), ((va_up_ne _ _ (by omega)).trans ((va_up_ne _ _ (by omega)).trans (xs_M94 hM))), ((va_up_ne _ _ (by omega)).trans ((va_up_ne _ _ (by omega)).trans (xs_M95 hM))), (fun j hj => absurd hj (by omega)), fun i _ _ _ _ => ((va_up_ne _ _ (by omega)).trans ((va_up_ne _ _ (by omega)).trans (Eq.refl _)))⟩
          show xv_V X mX9_named Post 0 0 67 [(0, .ref 83), (1, .int (nI kp)), (2, .int w), (3, .int q), (4, .int (nI (xs_bst G k))), (5, .int (nI k))] [] h67 n
          obtain ⟨d67, n67, g94_67, g95_67, p83_67, p88_67, e88_67, p94_67, p95_67, x67, F67⟩ := I67
          refine xi_iload (q := 69) dX9_named_67 rfl rfl ?_
          refine xi_bipush (x := 13) (q := 71) dX9_named_69 (by decide) rfl ?_
          refine xi_icmp_ge (q := 74) (q2 := 120) dX9_named_71 (by decide) rfl (fun c_71 => ?_) (fun c_71 => ?_)
          · have hk2 : k = 13 := by have z : 13 ≤ k := xn_leN c_71 (by omega) (by omega); omega
            subst hk2
            refine xi_iconst (x := 0) (q := 121) dX9_named_120 (by decide) rfl ?_
            refine xi_istore (q := 123) dX9_named_121 (Nat.le_of_ble_eq_true rfl) rfl ?_
            refine xi_iconst (x := 0) (q := 124) dX9_named_123 (by decide) rfl ?_
            refine xi_istore (q := 126) dX9_named_124 (Nat.le_of_ble_eq_true rfl) rfl ?_
            refine xv_weakS (lv' := [(0, .ref 83), (2, .int w), (3, .int q), (4, .int (nI (xs_bst G 13))), (5, .int (xs_ps (xs_dbL G (xs_bst G 13) q) 0)), (6, .int (nI 0))]) ⟨rfl, rfl, rfl, rfl, rfl, rfl, trivial⟩ ?_
            refine xv_lp (lv := fun k => [(0, .ref 83), (2, .int w), (3, .int q), (4, .int (nI (xs_bst G 13))), (5, .int (xs_ps (xs_dbL G (xs_bst G 13) q) k)), (6, .int (nI k))]) (N := 13) (k0 := 0) (by omega) (fun k hk ih126 => ?_)
            show xv_V X mX9_named Post 0 0 126 [(0, .ref 83), (2, .int w), (3, .int q), (4, .int (nI (xs_bst G 13))), (5, .int (xs_ps (xs_dbL G (xs_bst G 13) q) k)), (6, .int (nI k))] [] _ n
            refine xi_iload (q := 128) dX9_named_126 rfl rfl ?_
            refine xi_bipush (x := 13) (q := 130) dX9_named_128 (by decide) rfl ?_
            refine xi_icmp_ge (q := 133) (q2 := 179) dX9_named_130 (by decide) rfl (fun c_130 => ?_) (fun c_130 => ?_)
            · have hk2 : k = 13 := by have z : 13 ≤ k := xn_leN c_130 (by omega) (by omega); omega
              subst hk2
              refine xi_iload_n (q := 180) dX9_named_179 rfl rfl ?_
              refine xi_if_ne (q := 183) (q2 := 188) dX9_named_180 (by decide) rfl (fun c_180 => ?_) (fun c_180 => ?_)
              · skip
                refine xi_iload_n (q := 189) dX9_named_188 rfl rfl ?_
                refine xi_iconst (x := 1) (q := 190) dX9_named_189 (by decide) rfl ?_
                refine xi_icmp_ne (q := 193) (q2 := 203) dX9_named_190 (by decide) rfl (fun c_190 => ?_) (fun c_190 => ?_)
                · exact absurd (xn_g02 g_21) (fun z => z.elim c_180 (fun z => z.elim c_190 w26))
                · skip
                  refine xi_aload_n (q := 194) dX9_named_193 rfl rfl ?_
                  refine xi_getf (q := 197) dX9_named_194 fl_X9_44 ⟨by omega, p83_67⟩ rfl rfl ?_
                  refine xi_iload (q := 199) dX9_named_197 rfl rfl ?_
                  refine xi_iald (q := 200) dX9_named_199 ⟨by omega, p95_67⟩ (xv_ixN (k := xs_bst G 13) (by have z := xn_bstb G 13 (by omega); omega) (by omega)) rfl ?_
                  rw [x67 _ (xn_bstb G 13 (by omega))]
                  refine xi_goto (q := 205) dX9_named_200 (by decide) ?_
                  refine xi_ret ⟨_, rfl, rfl, dX9_named_205⟩ (Nat.zero_le _) (Nat.zero_le _) ?_
                  exact xs_finM (σ' := (xs_fd σ 0)) hp (by rw [hG]; simp only [xs_named, xs_onE, xs_onP, xs_fn, xs_an, Bool.not_false, Bool.not_true, Bool.true_or, Bool.false_or, Bool.and_true, Bool.true_and, Bool.and_false, Bool.false_and, Bool.false_eq_true, if_true, if_false, ↓reduceIte, g_9, g_21, decide_eq_false w26, eq_false y50, eq_false (show ¬ w = 0 from c_180), eq_true (show w = 1 from by first | exact c_190 | exact Decidable.of_not_not c_190), xs_kk0 (k := kp) (by omega)] <;> rfl) _ (xs_Mx (σ' := (xs_fd σ 0)) hM hR (fa := (upd (upd (C 83) 0 0) 1 0)) p83_67 (fun j hj => (pk_un (by omega)).trans ((pk_un (by omega)).trans (rfl))) p88_67 e88_67 p94_67 p95_67 ((F67 96 (by omega) (by omega) (by omega) (by omega)).trans (xs_M96 hM)) ((F67 97 (by omega) (by omega) (by omega) (by omega)).trans (xs_M97 hM)) ((F67 98 (by omega) (by omega) (by omega) (by omega)).trans (xs_M98 hM)) ((F67 99 (by omega) (by omega) (by omega) (by omega)).trans (xs_M99 hM)) (fun i i1 i2 i3 i4 => (F67 i (by omega) (by omega) (by omega) (by omega))) xs_fdo rfl) (fun i hi => (F67 i (by omega) (by omega) (by omega) (by omega)))
              · skip
                refine xi_iload (q := 185) dX9_named_183 rfl rfl ?_
                refine xi_goto (q := 205) dX9_named_185 (by decide) ?_
                refine xi_ret ⟨_, rfl, rfl, dX9_named_205⟩ (Nat.zero_le _) (Nat.zero_le _) ?_
                exact xs_finM (σ' := (xs_fd σ 0)) hp (by rw [hG]; simp only [xs_named, xs_onE, xs_onP, xs_fn, xs_an, Bool.not_false, Bool.not_true, Bool.true_or, Bool.false_or, Bool.and_true, Bool.true_and, Bool.and_false, Bool.false_and, Bool.false_eq_true, if_true, if_false, ↓reduceIte, g_9, g_21, decide_eq_false w26, eq_false y50, eq_true (show w = 0 from by first | exact c_180 | exact Decidable.of_not_not c_180), xs_kk0 (k := kp) (by omega)] <;> rfl) _ (xs_Mx (σ' := (xs_fd σ 0)) hM hR (fa := (upd (upd (C 83) 0 0) 1 0)) p83_67 (fun j hj => (pk_un (by omega)).trans ((pk_un (by omega)).trans (rfl))) p88_67 e88_67 p94_67 p95_67 ((F67 96 (by omega) (by omega) (by omega) (by omega)).trans (xs_M96 hM)) ((F67 97 (by omega) (by omega) (by omega) (by omega)).trans (xs_M97 hM)) ((F67 98 (by omega) (by omega) (by omega) (by omega)).trans (xs_M98 hM)) ((F67 99 (by omega) (by omega) (by omega) (by omega)).trans (xs_M99 hM)) (fun i i1 i2 i3 i4 => (F67 i (by omega) (by omega) (by omega) (by omega))) xs_fdo rfl) (fun i hi => (F67 i (by omega) (by omega) (by omega) (by omega)))
            · have hk2 : k < 13 := xn_nleN c_130 (by omega) (by omega)
              refine xi_iload (q := 135) dX9_named_133 rfl rfl ?_
              refine xi_iload (q := 137) dX9_named_135 rfl rfl ?_
              refine xi_iload (q := 139) dX9_named_137 rfl rfl ?_
              refine xi_icmp_eq (q := 142) (q2 := 169) dX9_named_139 (by decide) rfl (fun c_139 => ?_) (fun c_139 => ?_)
              · skip
                refine xi_iconst (x := 0) (q := 170) dX9_named_169 (by decide) rfl ?_
                refine xi_iadd (q := 171) dX9_named_170 rfl ?_
                refine xi_istore (q := 173) dX9_named_171 (Nat.le_of_ble_eq_true rfl) rfl ?_
                refine xi_iinc (y := nI (k + 1)) (q := 176) dX9_named_173 rfl (xn_inc k) (Nat.le_of_ble_eq_true rfl) rfl ?_
                refine xi_goto (q := 126) dX9_named_176 (by decide) ?_
                rw [xs_psS (xs_dbL G (xs_bst G 13) q) k (xn_dbL0 (Or.inl c_139))]
                refine xv_weakS (lv' := [(0, .ref 83), (2, .int w), (3, .int q), (4, .int (nI (xs_bst G 13))), (5, .int (xs_ps (xs_dbL G (xs_bst G 13) q) (k + 1))), (6, .int (nI (k + 1)))]) ⟨rfl, rfl, rfl, rfl, rfl, rfl, trivial⟩ ?_
                exact ih126 (by omega)
              · skip
                refine xi_aload_n (q := 143) dX9_named_142 rfl rfl ?_
                refine xi_getf (q := 146) dX9_named_143 fl_X9_44 ⟨by omega, p83_67⟩ rfl rfl ?_
                refine xi_iload (q := 148) dX9_named_146 rfl rfl ?_
                refine xi_iald (q := 149) dX9_named_148 ⟨by omega, p95_67⟩ (xv_ixN hk2 (by omega)) rfl ?_
                rw [x67 k hk2]
                refine xi_i2l (q := 150) dX9_named_149 rfl ?_
                refine xi_aload_n (q := 151) dX9_named_150 rfl rfl ?_
                refine xi_getf (q := 154) dX9_named_151 fl_X9_44 ⟨by omega, p83_67⟩ rfl rfl ?_
                refine xi_iload (q := 156) dX9_named_154 rfl rfl ?_
                refine xi_iald (q := 157) dX9_named_156 ⟨by omega, p95_67⟩ (xv_ixN (k := xs_bst G 13) (by have z := xn_bstb G 13 (by omega); omega) (by omega)) rfl ?_
                rw [x67 _ (xn_bstb G 13 (by omega))]
                refine xi_i2l (q := 158) dX9_named_157 rfl ?_
                refine xi_iload_n (q := 159) dX9_named_158 rfl rfl ?_
                refine xi_i2l (q := 160) dX9_named_159 rfl ?_
                refine xi_ladd (q := 161) dX9_named_160 rfl ?_
                refine xi_lcmp (q := 162) dX9_named_161 rfl ?_
                refine xi_if_gt (q := 165) (q2 := 169) dX9_named_162 (by decide) rfl (fun c_162 => ?_) (fun c_162 => ?_)
                · skip
                  refine xi_iconst (x := 0) (q := 170) dX9_named_169 (by decide) rfl ?_
                  refine xi_iadd (q := 171) dX9_named_170 rfl ?_
                  refine xi_istore (q := 173) dX9_named_171 (Nat.le_of_ble_eq_true rfl) rfl ?_
                  refine xi_iinc (y := nI (k + 1)) (q := 176) dX9_named_173 rfl (xn_inc k) (Nat.le_of_ble_eq_true rfl) rfl ?_
                  refine xi_goto (q := 126) dX9_named_176 (by decide) ?_
                  rw [xs_psS (xs_dbL G (xs_bst G 13) q) k (xn_dbL0 (Or.inr c_162))]
                  refine xv_weakS (lv' := [(0, .ref 83), (2, .int w), (3, .int q), (4, .int (nI (xs_bst G 13))), (5, .int (xs_ps (xs_dbL G (xs_bst G 13) q) (k + 1))), (6, .int (nI (k + 1)))]) ⟨rfl, rfl, rfl, rfl, rfl, rfl, trivial⟩ ?_
                  exact ih126 (by omega)
                · skip
                  refine xi_iconst (x := 1) (q := 166) dX9_named_165 (by decide) rfl ?_
                  refine xi_goto (q := 170) dX9_named_166 (by decide) ?_
                  refine xi_iadd (q := 171) dX9_named_170 rfl ?_
                  refine xi_istore (q := 173) dX9_named_171 (Nat.le_of_ble_eq_true rfl) rfl ?_
                  refine xi_iinc (y := nI (k + 1)) (q := 176) dX9_named_173 rfl (xn_inc k) (Nat.le_of_ble_eq_true rfl) rfl ?_
                  refine xi_goto (q := 126) dX9_named_176 (by decide) ?_
                  rw [xs_psS (xs_dbL G (xs_bst G 13) q) k (xn_dbL1 c_139 c_162)]
                  refine xv_weakS (lv' := [(0, .ref 83), (2, .int w), (3, .int q), (4, .int (nI (xs_bst G 13))), (5, .int (xs_ps (xs_dbL G (xs_bst G 13) q) (k + 1))), (6, .int (nI (k + 1)))]) ⟨rfl, rfl, rfl, rfl, rfl, rfl, trivial⟩ ?_
                  exact ih126 (by omega)
          · have hk2 : k < 13 := xn_nleN c_71 (by omega) (by omega)
            refine xi_aload_n (q := 75) dX9_named_74 rfl rfl ?_
            refine xi_getf (q := 78) dX9_named_75 fl_X9_44 ⟨by omega, p83_67⟩ rfl rfl ?_
            refine xi_iload (q := 80) dX9_named_78 rfl rfl ?_
            refine xi_aload_n (q := 81) dX9_named_80 rfl rfl ?_
            refine xi_iload_n (q := 82) dX9_named_81 rfl rfl ?_
            refine xi_iload (q := 84) dX9_named_82 rfl rfl ?_
            refine xv_cV2 (q := 87) xm_X9_misfitOf ln_X9_238 dX9_named_84 ⟨by omega, p83_67⟩ rfl ⟨(Nat.le_of_ble_eq_true rfl), (Nat.le_of_ble_eq_true rfl)⟩ (Nat.le_of_ble_eq_true rfl) ⟨rfl, rfl⟩ rfl (Nat.zero_le _) (Nat.zero_le _) ?_
            have v84 := hV.2.2.2.2.2.1 kp (by omega) y50
            refine ⟨(upd (upd (C 83) 0 0) 1 0), d67, n67, kp, (nI k), σ 4 kp, σ 10 kp, σ 8 kp 0, σ 9 kp 0, C 90, C 91, C 92, _, rfl, ⟨p83_67, p88_67, ((F67 93 (by omega) (by omega) (by omega) (by omega)).trans (xs_M93 hM))⟩, by omega, by omega, (hV.2.2.2.1 kp (by omega) v84.1).1, fun j hj => ((e88_67) _ (by omega)).trans (xs_hq hR (by omega) j hj), fun j hj => ⟨(hR.1.2.2.1 kp (by omega)).2.2.2 j hj, (v84.2.2.2 j hj).1⟩, (hR.1.2.2.1 kp (by omega)).2.1, (hR.1.2.2.1 kp (by omega)).2.2.1, ((F67 90 (by omega) (by omega) (by omega) (by omega)).trans (xs_M90 hM)), ((F67 91 (by omega) (by omega) (by omega) (by omega)).trans (xs_M91 hM)), ((F67 92 (by omega) (by omega) (by omega) (by omega)).trans (xs_M92 hM)), p94_67, fun h84 d84 n84 r84 p84 q84 e84 u84 f84 => ?_⟩
            have Fh84 : ∀ i, i ≠ 83 → i ≠ 88 → i ≠ 94 → i ≠ 95 → h84 i = h i := fun i j83 j88 j94 j95 => (f84 i (by omega) (by omega) (by omega)).trans (F67 i (by omega) (by omega) (by omega) (by omega))
            rw [show xs_mis (σ 4 kp) (σ 10 kp) (σ 8 kp 0) (σ 9 kp 0) (nI k) = G k from by rw [hG]; rfl]
            have hb := xn_bstk G k
            have eB : upd g95_67 k (G k) (xs_bst G k) = G (xs_bst G k) := by
              by_cases z : xs_bst G k = k
              · rw [z, pk_us]
              · rw [pk_un z]; exact x67 _ (by omega)
            refine xi_iast (q := 88) dX9_named_87 ⟨by omega, ((f84 95 (by omega) (by omega) (by omega)).trans p95_67)⟩ (xv_ixN hk2 (by omega)) rfl ?_
            refine xi_aload_n (q := 89) dX9_named_88 rfl rfl ?_
            refine xi_getf (q := 92) dX9_named_89 fl_X9_44 (xv_keep (by omega) ⟨by omega, p84⟩) rfl rfl ?_
            refine xi_iload (q := 94) dX9_named_92 rfl rfl ?_
            refine xi_iald (q := 95) dX9_named_94 (xv_self (by omega)) (xv_ixN hk2 (by omega)) rfl ?_
            rw [show upd g95_67 k (G k) k = G k from pk_us]
            refine xi_aload_n (q := 96) dX9_named_95 rfl rfl ?_
            refine xi_getf (q := 99) dX9_named_96 fl_X9_44 (xv_keep (by omega) ⟨by omega, p84⟩) rfl rfl ?_
            refine xi_iload (q := 101) dX9_named_99 rfl rfl ?_
            refine xi_iald (q := 102) dX9_named_101 (xv_self (by omega)) (xv_ixN (by omega) (by omega)) rfl ?_
            rw [eB]
            refine xi_icmp_ge (q := 105) (q2 := 110) dX9_named_102 (by decide) rfl (fun c_102 => ?_) (fun c_102 => ?_)
            · skip
              refine xi_iload (q := 112) dX9_named_110 rfl rfl ?_
              refine xi_istore (q := 114) dX9_named_112 (Nat.le_of_ble_eq_true rfl) rfl ?_
              refine xi_iinc (y := nI (k + 1)) (q := 117) dX9_named_114 rfl (xn_inc k) (Nat.le_of_ble_eq_true rfl) rfl ?_
              refine xi_goto (q := 67) dX9_named_117 (by decide) ?_
              refine xv_weakS (lv' := [(0, .ref 83), (1, .int (nI kp)), (2, .int w), (3, .int q), (4, .int (nI (xs_bst G k))), (5, .int (nI (k + 1)))]) ⟨rfl, rfl, rfl, rfl, rfl, rfl, trivial⟩ ?_
              have Q := ih67 _ (by omega) ⟨_, _, _, _, ((va_up_ne _ _ (by omega)).trans p84), ((va_up_ne _ _ (by omega)).trans q84), (fun x hx => (e84 x hx).trans ((e88_67) x hx)), ((va_up_ne _ _ (by omega)).trans u84), ((va_up_self _ _ _).trans rfl), (xn_updl x67 rfl), fun i _ _ _ _ => ((va_up_ne _ _ (by omega)).trans (Fh84 i (by omega) (by omega) (by omega) (by omega)))⟩
              rw [show xs_bst G (k + 1) = xs_bst G k from by show (if G k < G (xs_bst G k) then k else xs_bst G k) = xs_bst G k; rw [if_neg (xn_nlt c_102)]] at Q
              exact Q
            · skip
              refine xi_iload (q := 107) dX9_named_105 rfl rfl ?_
              refine xi_goto (q := 112) dX9_named_107 (by decide) ?_
              refine xi_istore (q := 114) dX9_named_112 (Nat.le_of_ble_eq_true rfl) rfl ?_
              refine xi_iinc (y := nI (k + 1)) (q := 117) dX9_named_114 rfl (xn_inc k) (Nat.le_of_ble_eq_true rfl) rfl ?_
              refine xi_goto (q := 67) dX9_named_117 (by decide) ?_
              refine xv_weakS (lv' := [(0, .ref 83), (1, .int (nI kp)), (2, .int w), (3, .int q), (4, .int (nI (k))), (5, .int (nI (k + 1)))]) ⟨rfl, rfl, rfl, rfl, rfl, rfl, trivial⟩ ?_
              have Q := ih67 _ (by omega) ⟨_, _, _, _, ((va_up_ne _ _ (by omega)).trans p84), ((va_up_ne _ _ (by omega)).trans q84), (fun x hx => (e84 x hx).trans ((e88_67) x hx)), ((va_up_ne _ _ (by omega)).trans u84), ((va_up_self _ _ _).trans rfl), (xn_updl x67 rfl), fun i _ _ _ _ => ((va_up_ne _ _ (by omega)).trans (Fh84 i (by omega) (by omega) (by omega) (by omega)))⟩
              rw [show xs_bst G (k + 1) = k from by show (if G k < G (xs_bst G k) then k else xs_bst G k) = k; rw [if_pos (xn_ltn c_102)]] at Q
              exact Q
        · have y50 : σ 7 kp 0 = 0 := (hR.1.2.2.1 kp (by omega)).1.symm.trans (by first | exact c_50 | exact Decidable.of_not_not c_50)
          refine xi_ldc (q := 55) dX9_named_53 kc_X9_237 rfl ?_
          refine xi_ret ⟨_, rfl, rfl, dX9_named_55⟩ (Nat.zero_le _) (Nat.zero_le _) ?_
          exact xs_finM (σ' := σ) hp (by simp only [xs_named, xs_onE, xs_onP, xs_fn, xs_an, Bool.not_false, Bool.not_true, Bool.true_or, Bool.false_or, Bool.and_true, Bool.true_and, Bool.and_false, Bool.false_and, Bool.false_eq_true, if_true, if_false, ↓reduceIte, g_9, g_21, decide_eq_false w26, eq_true y50, xs_kk0 (k := kp) (by omega)] <;> rfl) _ (xs_Mx (σ' := σ) hM hR (fa := (upd (C 83) 0 0)) ((va_up_self _ _ _).trans rfl) (fun j hj => (pk_un (by omega)).trans (rfl)) ((va_up_ne _ _ (by omega)).trans (xs_M88 hM)) (fun _ _ => rfl) ((va_up_ne _ _ (by omega)).trans (xs_M94 hM)) ((va_up_ne _ _ (by omega)).trans (xs_M95 hM)) ((va_up_ne _ _ (by omega)).trans (xs_M96 hM)) ((va_up_ne _ _ (by omega)).trans (xs_M97 hM)) ((va_up_ne _ _ (by omega)).trans (xs_M98 hM)) ((va_up_ne _ _ (by omega)).trans (xs_M99 hM)) (fun i i1 i2 i3 i4 => ((va_up_ne _ _ (by omega)).trans (Eq.refl _))) (fun _ _ _ => rfl) hR.2) (fun i hi => ((va_up_ne _ _ (by omega)).trans (Eq.refl _)))
      · have w26 : w = 2 := by first | exact c_26 | exact Decidable.of_not_not c_26
        refine xi_iload_n (q := 30) dX9_named_29 rfl rfl ?_
        refine xi_i2l (q := 31) dX9_named_30 rfl ?_
        refine xi_lconst (x := 0) (q := 32) dX9_named_31 (by decide) rfl ?_
        refine xi_ldc2 (q := 35) dX9_named_32 kc_X9_241 rfl ?_
        refine xv_cS3 (q := 38) xm_X9_in ln_X9_81 dX9_named_35 ⟨(Nat.le_of_ble_eq_true rfl), (Nat.le_of_ble_eq_true rfl)⟩ (Nat.le_of_ble_eq_true rfl) ⟨rfl, rfl⟩ rfl (Nat.zero_le _) (Nat.zero_le _) ?_
        refine ⟨q, 0, 100000, rfl, ?_⟩
        refine xi_if_ne (q := 41) (q2 := 44) dX9_named_38 (by decide) rfl (fun c_38 => ?_) (fun c_38 => ?_)
        · have g_38 : xs_i q 0 100000 = true := decide_eq_true (xn_b1 c_38)
          refine xi_aload_n (q := 45) dX9_named_44 rfl rfl ?_
          refine xi_getf (q := 48) dX9_named_45 fl_X9_26 (xv_self (by omega)) rfl rfl ?_
          refine xi_iload_n (q := 49) dX9_named_48 rfl rfl ?_
          refine xi_zald (q := 50) dX9_named_49 (xv_keep (by omega) ⟨by omega, (xs_M89 hM)⟩) (xv_ixN (by omega) (by omega)) rfl ?_
          refine xi_if_ne (q := 53) (q2 := 56) dX9_named_50 (by decide) rfl (fun c_50 => ?_) (fun c_50 => ?_)
          · have y50 : ¬ σ 7 kp 0 = 0 := fun e => c_50 ((hR.1.2.2.1 kp (by omega)).1.trans e)
            refine xi_aload_n (q := 57) dX9_named_56 rfl rfl ?_
            refine xi_iconst (x := 0) (q := 58) dX9_named_57 (by decide) rfl ?_
            refine xi_putf (q := 61) dX9_named_58 fl_X9_75 (xv_self (by omega)) (Or.inl rfl) (fun _ => rfl) (fun _ => rfl) (Nat.le_of_ble_eq_true rfl) rfl ?_
            obtain ⟨G, hG⟩ : ∃ G : Nat → Int32, G = xs_mf σ kp := ⟨_, rfl⟩
            refine xi_iconst (x := 0) (q := 62) dX9_named_61 (by decide) rfl ?_
            refine xi_istore (q := 64) dX9_named_62 (Nat.le_of_ble_eq_true rfl) rfl ?_
            refine xi_iconst (x := 0) (q := 65) dX9_named_64 (by decide) rfl ?_
            refine xi_istore (q := 67) dX9_named_65 (Nat.le_of_ble_eq_true rfl) rfl ?_
            refine xv_weakS (lv' := [(0, .ref 83), (1, .int (nI kp)), (2, .int w), (3, .int q), (4, .int (nI (xs_bst G 0))), (5, .int (nI 0))]) ⟨rfl, rfl, rfl, rfl, rfl, rfl, trivial⟩ ?_
            refine xv_lpH (lv := fun k => [(0, .ref 83), (1, .int (nI kp)), (2, .int w), (3, .int q), (4, .int (nI (xs_bst G k))), (5, .int (nI k))]) (I := fun k hI => ∃ (dI : Int64) (nu : Nat → Int32) (g94 : Nat → Int32) (g95 : Nat → Int32), hI 83 = xs_mo (upd (upd (C 83) 0 0) 1 0) dI ∧ hI 88 = xs_ia 84 nu ∧ (∀ x, x < 72 → nu x = C 88 x) ∧ hI 94 = xs_ia 48 g94 ∧ hI 95 = xs_ia 13 g95 ∧ (∀ j, j < k → g95 j = G j) ∧ ∀ i, i ≠ 83 → i ≠ 88 → i ≠ 94 → i ≠ 95 → hI i = h i) (N := 13) (fun k h67 hk I67 ih67 => ?_) 0 _ (by omega) ⟨_, _, _, _, ((va_up_self _ _ _).trans rfl), ((va_up_ne _ _ (by omega)).trans ((va_up_ne _ _ (by omega)).trans (xs_M88 hM))), (fun _ _ => rfl), ((va_up_ne _ _ (by omega)).trans ((va_up_ne _ _ (by omega)).trans (xs_M94 hM))), ((va_up_ne _ _ (by omega)).trans ((va_up_ne _ _ (by omega)).trans (xs_M95 hM))), (fun j hj => absurd hj (by omega)), fun i _ _ _ _ => ((va_up_ne _ _ (by omega)).trans ((va_up_ne _ _ (by omega)).trans (Eq.refl _)))⟩
            show xv_V X mX9_named Post 0 0 67 [(0, .ref 83), (1, .int (nI kp)), (2, .int w), (3, .int q), (4, .int (nI (xs_bst G k))), (5, .int (nI k))] [] h67 n
            obtain ⟨d67, n67, g94_67, g95_67, p83_67, p88_67, e88_67, p94_67, p95_67, x67, F67⟩ := I67
            refine xi_iload (q := 69) dX9_named_67 rfl rfl ?_
            refine xi_bipush (x := 13) (q := 71) dX9_named_69 (by decide) rfl ?_
            refine xi_icmp_ge (q := 74) (q2 := 120) dX9_named_71 (by decide) rfl (fun c_71 => ?_) (fun c_71 => ?_)
            · have hk2 : k = 13 := by have z : 13 ≤ k := xn_leN c_71 (by omega) (by omega); omega
              subst hk2
              refine xi_iconst (x := 0) (q := 121) dX9_named_120 (by decide) rfl ?_
              refine xi_istore (q := 123) dX9_named_121 (Nat.le_of_ble_eq_true rfl) rfl ?_
              refine xi_iconst (x := 0) (q := 124) dX9_named_123 (by decide) rfl ?_
              refine xi_istore (q := 126) dX9_named_124 (Nat.le_of_ble_eq_true rfl) rfl ?_
              refine xv_weakS (lv' := [(0, .ref 83), (2, .int w), (3, .int q), (4, .int (nI (xs_bst G 13))), (5, .int (xs_ps (xs_dbL G (xs_bst G 13) q) 0)), (6, .int (nI 0))]) ⟨rfl, rfl, rfl, rfl, rfl, rfl, trivial⟩ ?_
              refine xv_lp (lv := fun k => [(0, .ref 83), (2, .int w), (3, .int q), (4, .int (nI (xs_bst G 13))), (5, .int (xs_ps (xs_dbL G (xs_bst G 13) q) k)), (6, .int (nI k))]) (N := 13) (k0 := 0) (by omega) (fun k hk ih126 => ?_)
              show xv_V X mX9_named Post 0 0 126 [(0, .ref 83), (2, .int w), (3, .int q), (4, .int (nI (xs_bst G 13))), (5, .int (xs_ps (xs_dbL G (xs_bst G 13) q) k)), (6, .int (nI k))] [] _ n
              refine xi_iload (q := 128) dX9_named_126 rfl rfl ?_
              refine xi_bipush (x := 13) (q := 130) dX9_named_128 (by decide) rfl ?_
              refine xi_icmp_ge (q := 133) (q2 := 179) dX9_named_130 (by decide) rfl (fun c_130 => ?_) (fun c_130 => ?_)
              · have hk2 : k = 13 := by have z : 13 ≤ k := xn_leN c_130 (by omega) (by omega); omega
                subst hk2
                refine xi_iload_n (q := 180) dX9_named_179 rfl rfl ?_
                refine xi_if_ne (q := 183) (q2 := 188) dX9_named_180 (by decide) rfl (fun c_180 => ?_) (fun c_180 => ?_)
                · skip
                  refine xi_iload_n (q := 189) dX9_named_188 rfl rfl ?_
                  refine xi_iconst (x := 1) (q := 190) dX9_named_189 (by decide) rfl ?_
                  refine xi_icmp_ne (q := 193) (q2 := 203) dX9_named_190 (by decide) rfl (fun c_190 => ?_) (fun c_190 => ?_)
                  · have v1 := hV.2.2.2.2.2.1 kp (by omega) y50
                    refine xi_iload (q := 205) dX9_named_203 rfl rfl ?_
                    refine xi_ret ⟨_, rfl, rfl, dX9_named_205⟩ (Nat.zero_le _) (Nat.zero_le _) ?_
                    exact xs_finM (σ' := (xs_fd σ 0)) hp (by rw [xn_psc (fun j _ => xn_dbE (b := xs_bst G 13) (by have z := xn_gI g_38; exact z) (by rw [hG]; exact xn_misb (hV.2.2.2.1 kp (by omega) v1.1).1 v1.2.2.1 v1.2.2.2) j), hG]; simp only [xs_named, xs_onE, xs_onP, xs_fn, xs_an, Bool.not_false, Bool.not_true, Bool.true_or, Bool.false_or, Bool.and_true, Bool.true_and, Bool.and_false, Bool.false_and, Bool.false_eq_true, if_true, if_false, ↓reduceIte, g_9, g_21, decide_eq_true w26, g_38, eq_false y50, eq_false (show ¬ w = 0 from c_180), c_190, xs_kk0 (k := kp) (by omega)] <;> rfl) _ (xs_Mx (σ' := (xs_fd σ 0)) hM hR (fa := (upd (upd (C 83) 0 0) 1 0)) p83_67 (fun j hj => (pk_un (by omega)).trans ((pk_un (by omega)).trans (rfl))) p88_67 e88_67 p94_67 p95_67 ((F67 96 (by omega) (by omega) (by omega) (by omega)).trans (xs_M96 hM)) ((F67 97 (by omega) (by omega) (by omega) (by omega)).trans (xs_M97 hM)) ((F67 98 (by omega) (by omega) (by omega) (by omega)).trans (xs_M98 hM)) ((F67 99 (by omega) (by omega) (by omega) (by omega)).trans (xs_M99 hM)) (fun i i1 i2 i3 i4 => (F67 i (by omega) (by omega) (by omega) (by omega))) xs_fdo rfl) (fun i hi => (F67 i (by omega) (by omega) (by omega) (by omega)))
                  · skip
                    refine xi_aload_n (q := 194) dX9_named_193 rfl rfl ?_
                    refine xi_getf (q := 197) dX9_named_194 fl_X9_44 ⟨by omega, p83_67⟩ rfl rfl ?_
                    refine xi_iload (q := 199) dX9_named_197 rfl rfl ?_
                    refine xi_iald (q := 200) dX9_named_199 ⟨by omega, p95_67⟩ (xv_ixN (k := xs_bst G 13) (by have z := xn_bstb G 13 (by omega); omega) (by omega)) rfl ?_
                    rw [x67 _ (xn_bstb G 13 (by omega))]
                    refine xi_goto (q := 205) dX9_named_200 (by decide) ?_
                    refine xi_ret ⟨_, rfl, rfl, dX9_named_205⟩ (Nat.zero_le _) (Nat.zero_le _) ?_
                    exact xs_finM (σ' := (xs_fd σ 0)) hp (by rw [hG]; simp only [xs_named, xs_onE, xs_onP, xs_fn, xs_an, Bool.not_false, Bool.not_true, Bool.true_or, Bool.false_or, Bool.and_true, Bool.true_and, Bool.and_false, Bool.false_and, Bool.false_eq_true, if_true, if_false, ↓reduceIte, g_9, g_21, decide_eq_true w26, g_38, eq_false y50, eq_false (show ¬ w = 0 from c_180), eq_true (show w = 1 from by first | exact c_190 | exact Decidable.of_not_not c_190), xs_kk0 (k := kp) (by omega)] <;> rfl) _ (xs_Mx (σ' := (xs_fd σ 0)) hM hR (fa := (upd (upd (C 83) 0 0) 1 0)) p83_67 (fun j hj => (pk_un (by omega)).trans ((pk_un (by omega)).trans (rfl))) p88_67 e88_67 p94_67 p95_67 ((F67 96 (by omega) (by omega) (by omega) (by omega)).trans (xs_M96 hM)) ((F67 97 (by omega) (by omega) (by omega) (by omega)).trans (xs_M97 hM)) ((F67 98 (by omega) (by omega) (by omega) (by omega)).trans (xs_M98 hM)) ((F67 99 (by omega) (by omega) (by omega) (by omega)).trans (xs_M99 hM)) (fun i i1 i2 i3 i4 => (F67 i (by omega) (by omega) (by omega) (by omega))) xs_fdo rfl) (fun i hi => (F67 i (by omega) (by omega) (by omega) (by omega)))
                · skip
                  refine xi_iload (q := 185) dX9_named_183 rfl rfl ?_
                  refine xi_goto (q := 205) dX9_named_185 (by decide) ?_
                  refine xi_ret ⟨_, rfl, rfl, dX9_named_205⟩ (Nat.zero_le _) (Nat.zero_le _) ?_
                  exact xs_finM (σ' := (xs_fd σ 0)) hp (by rw [hG]; simp only [xs_named, xs_onE, xs_onP, xs_fn, xs_an, Bool.not_false, Bool.not_true, Bool.true_or, Bool.false_or, Bool.and_true, Bool.true_and, Bool.and_false, Bool.false_and, Bool.false_eq_true, if_true, if_false, ↓reduceIte, g_9, g_21, decide_eq_true w26, g_38, eq_false y50, eq_true (show w = 0 from by first | exact c_180 | exact Decidable.of_not_not c_180), xs_kk0 (k := kp) (by omega)] <;> rfl) _ (xs_Mx (σ' := (xs_fd σ 0)) hM hR (fa := (upd (upd (C 83) 0 0) 1 0)) p83_67 (fun j hj => (pk_un (by omega)).trans ((pk_un (by omega)).trans (rfl))) p88_67 e88_67 p94_67 p95_67 ((F67 96 (by omega) (by omega) (by omega) (by omega)).trans (xs_M96 hM)) ((F67 97 (by omega) (by omega) (by omega) (by omega)).trans (xs_M97 hM)) ((F67 98 (by omega) (by omega) (by omega) (by omega)).trans (xs_M98 hM)) ((F67 99 (by omega) (by omega) (by omega) (by omega)).trans (xs_M99 hM)) (fun i i1 i2 i3 i4 => (F67 i (by omega) (by omega) (by omega) (by omega))) xs_fdo rfl) (fun i hi => (F67 i (by omega) (by omega) (by omega) (by omega)))
              · have hk2 : k < 13 := xn_nleN c_130 (by omega) (by omega)
                refine xi_iload (q := 135) dX9_named_133 rfl rfl ?_
                refine xi_iload (q := 137) dX9_named_135 rfl rfl ?_
                refine xi_iload (q := 139) dX9_named_137 rfl rfl ?_
                refine xi_icmp_eq (q := 142) (q2 := 169) dX9_named_139 (by decide) rfl (fun c_139 => ?_) (fun c_139 => ?_)
                · skip
                  refine xi_iconst (x := 0) (q := 170) dX9_named_169 (by decide) rfl ?_
                  refine xi_iadd (q := 171) dX9_named_170 rfl ?_
                  refine xi_istore (q := 173) dX9_named_171 (Nat.le_of_ble_eq_true rfl) rfl ?_
                  refine xi_iinc (y := nI (k + 1)) (q := 176) dX9_named_173 rfl (xn_inc k) (Nat.le_of_ble_eq_true rfl) rfl ?_
                  refine xi_goto (q := 126) dX9_named_176 (by decide) ?_
                  rw [xs_psS (xs_dbL G (xs_bst G 13) q) k (xn_dbL0 (Or.inl c_139))]
                  refine xv_weakS (lv' := [(0, .ref 83), (2, .int w), (3, .int q), (4, .int (nI (xs_bst G 13))), (5, .int (xs_ps (xs_dbL G (xs_bst G 13) q) (k + 1))), (6, .int (nI (k + 1)))]) ⟨rfl, rfl, rfl, rfl, rfl, rfl, trivial⟩ ?_
                  exact ih126 (by omega)
                · skip
                  refine xi_aload_n (q := 143) dX9_named_142 rfl rfl ?_
                  refine xi_getf (q := 146) dX9_named_143 fl_X9_44 ⟨by omega, p83_67⟩ rfl rfl ?_
                  refine xi_iload (q := 148) dX9_named_146 rfl rfl ?_
                  refine xi_iald (q := 149) dX9_named_148 ⟨by omega, p95_67⟩ (xv_ixN hk2 (by omega)) rfl ?_
                  rw [x67 k hk2]
                  refine xi_i2l (q := 150) dX9_named_149 rfl ?_
                  refine xi_aload_n (q := 151) dX9_named_150 rfl rfl ?_
                  refine xi_getf (q := 154) dX9_named_151 fl_X9_44 ⟨by omega, p83_67⟩ rfl rfl ?_
                  refine xi_iload (q := 156) dX9_named_154 rfl rfl ?_
                  refine xi_iald (q := 157) dX9_named_156 ⟨by omega, p95_67⟩ (xv_ixN (k := xs_bst G 13) (by have z := xn_bstb G 13 (by omega); omega) (by omega)) rfl ?_
                  rw [x67 _ (xn_bstb G 13 (by omega))]
                  refine xi_i2l (q := 158) dX9_named_157 rfl ?_
                  refine xi_iload_n (q := 159) dX9_named_158 rfl rfl ?_
                  refine xi_i2l (q := 160) dX9_named_159 rfl ?_
                  refine xi_ladd (q := 161) dX9_named_160 rfl ?_
                  refine xi_lcmp (q := 162) dX9_named_161 rfl ?_
                  refine xi_if_gt (q := 165) (q2 := 169) dX9_named_162 (by decide) rfl (fun c_162 => ?_) (fun c_162 => ?_)
                  · skip
                    refine xi_iconst (x := 0) (q := 170) dX9_named_169 (by decide) rfl ?_
                    refine xi_iadd (q := 171) dX9_named_170 rfl ?_
                    refine xi_istore (q := 173) dX9_named_171 (Nat.le_of_ble_eq_true rfl) rfl ?_
                    refine xi_iinc (y := nI (k + 1)) (q := 176) dX9_named_173 rfl (xn_inc k) (Nat.le_of_ble_eq_true rfl) rfl ?_
                    refine xi_goto (q := 126) dX9_named_176 (by decide) ?_
                    rw [xs_psS (xs_dbL G (xs_bst G 13) q) k (xn_dbL0 (Or.inr c_162))]
                    refine xv_weakS (lv' := [(0, .ref 83), (2, .int w), (3, .int q), (4, .int (nI (xs_bst G 13))), (5, .int (xs_ps (xs_dbL G (xs_bst G 13) q) (k + 1))), (6, .int (nI (k + 1)))]) ⟨rfl, rfl, rfl, rfl, rfl, rfl, trivial⟩ ?_
                    exact ih126 (by omega)
                  · skip
                    refine xi_iconst (x := 1) (q := 166) dX9_named_165 (by decide) rfl ?_
                    refine xi_goto (q := 170) dX9_named_166 (by decide) ?_
                    refine xi_iadd (q := 171) dX9_named_170 rfl ?_
                    refine xi_istore (q := 173) dX9_named_171 (Nat.le_of_ble_eq_true rfl) rfl ?_
                    refine xi_iinc (y := nI (k + 1)) (q := 176) dX9_named_173 rfl (xn_inc k) (Nat.le_of_ble_eq_true rfl) rfl ?_
                    refine xi_goto (q := 126) dX9_named_176 (by decide) ?_
                    rw [xs_psS (xs_dbL G (xs_bst G 13) q) k (xn_dbL1 c_139 c_162)]
                    refine xv_weakS (lv' := [(0, .ref 83), (2, .int w), (3, .int q), (4, .int (nI (xs_bst G 13))), (5, .int (xs_ps (xs_dbL G (xs_bst G 13) q) (k + 1))), (6, .int (nI (k + 1)))]) ⟨rfl, rfl, rfl, rfl, rfl, rfl, trivial⟩ ?_
                    exact ih126 (by omega)
            · have hk2 : k < 13 := xn_nleN c_71 (by omega) (by omega)
              refine xi_aload_n (q := 75) dX9_named_74 rfl rfl ?_
              refine xi_getf (q := 78) dX9_named_75 fl_X9_44 ⟨by omega, p83_67⟩ rfl rfl ?_
              refine xi_iload (q := 80) dX9_named_78 rfl rfl ?_
              refine xi_aload_n (q := 81) dX9_named_80 rfl rfl ?_
              refine xi_iload_n (q := 82) dX9_named_81 rfl rfl ?_
              refine xi_iload (q := 84) dX9_named_82 rfl rfl ?_
              refine xv_cV2 (q := 87) xm_X9_misfitOf ln_X9_238 dX9_named_84 ⟨by omega, p83_67⟩ rfl ⟨(Nat.le_of_ble_eq_true rfl), (Nat.le_of_ble_eq_true rfl)⟩ (Nat.le_of_ble_eq_true rfl) ⟨rfl, rfl⟩ rfl (Nat.zero_le _) (Nat.zero_le _) ?_
              have v84 := hV.2.2.2.2.2.1 kp (by omega) y50
              refine ⟨(upd (upd (C 83) 0 0) 1 0), d67, n67, kp, (nI k), σ 4 kp, σ 10 kp, σ 8 kp 0, σ 9 kp 0, C 90, C 91, C 92, _, rfl, ⟨p83_67, p88_67, ((F67 93 (by omega) (by omega) (by omega) (by omega)).trans (xs_M93 hM))⟩, by omega, by omega, (hV.2.2.2.1 kp (by omega) v84.1).1, fun j hj => ((e88_67) _ (by omega)).trans (xs_hq hR (by omega) j hj), fun j hj => ⟨(hR.1.2.2.1 kp (by omega)).2.2.2 j hj, (v84.2.2.2 j hj).1⟩, (hR.1.2.2.1 kp (by omega)).2.1, (hR.1.2.2.1 kp (by omega)).2.2.1, ((F67 90 (by omega) (by omega) (by omega) (by omega)).trans (xs_M90 hM)), ((F67 91 (by omega) (by omega) (by omega) (by omega)).trans (xs_M91 hM)), ((F67 92 (by omega) (by omega) (by omega) (by omega)).trans (xs_M92 hM)), p94_67, fun h84 d84 n84 r84 p84 q84 e84 u84 f84 => ?_⟩
              have Fh84 : ∀ i, i ≠ 83 → i ≠ 88 → i ≠ 94 → i ≠ 95 → h84 i = h i := fun i j83 j88 j94 j95 => (f84 i (by omega) (by omega) (by omega)).trans (F67 i (by omega) (by omega) (by omega) (by omega))
              rw [show xs_mis (σ 4 kp) (σ 10 kp) (σ 8 kp 0) (σ 9 kp 0) (nI k) = G k from by rw [hG]; rfl]
              have hb := xn_bstk G k
              have eB : upd g95_67 k (G k) (xs_bst G k) = G (xs_bst G k) := by
                by_cases z : xs_bst G k = k
                · rw [z, pk_us]
                · rw [pk_un z]; exact x67 _ (by omega)
              refine xi_iast (q := 88) dX9_named_87 ⟨by omega, ((f84 95 (by omega) (by omega) (by omega)).trans p95_67)⟩ (xv_ixN hk2 (by omega)) rfl ?_
              refine xi_aload_n (q := 89) dX9_named_88 rfl rfl ?_
              refine xi_getf (q := 92) dX9_named_89 fl_X9_44 (xv_keep (by omega) ⟨by omega, p84⟩) rfl rfl ?_
              refine xi_iload (q := 94) dX9_named_92 rfl rfl ?_
              refine xi_iald (q := 95) dX9_named_94 (xv_self (by omega)) (xv_ixN hk2 (by omega)) rfl ?_
              rw [show upd g95_67 k (G k) k = G k from pk_us]
              refine xi_aload_n (q := 96) dX9_named_95 rfl rfl ?_
              refine xi_getf (q := 99) dX9_named_96 fl_X9_44 (xv_keep (by omega) ⟨by omega, p84⟩) rfl rfl ?_
              refine xi_iload (q := 101) dX9_named_99 rfl rfl ?_
              refine xi_iald (q := 102) dX9_named_101 (xv_self (by omega)) (xv_ixN (by omega) (by omega)) rfl ?_
              rw [eB]
              refine xi_icmp_ge (q := 105) (q2 := 110) dX9_named_102 (by decide) rfl (fun c_102 => ?_) (fun c_102 => ?_)
              · skip
                refine xi_iload (q := 112) dX9_named_110 rfl rfl ?_
                refine xi_istore (q := 114) dX9_named_112 (Nat.le_of_ble_eq_true rfl) rfl ?_
                refine xi_iinc (y := nI (k + 1)) (q := 117) dX9_named_114 rfl (xn_inc k) (Nat.le_of_ble_eq_true rfl) rfl ?_
                refine xi_goto (q := 67) dX9_named_117 (by decide) ?_
                refine xv_weakS (lv' := [(0, .ref 83), (1, .int (nI kp)), (2, .int w), (3, .int q), (4, .int (nI (xs_bst G k))), (5, .int (nI (k + 1)))]) ⟨rfl, rfl, rfl, rfl, rfl, rfl, trivial⟩ ?_
                have Q := ih67 _ (by omega) ⟨_, _, _, _, ((va_up_ne _ _ (by omega)).trans p84), ((va_up_ne _ _ (by omega)).trans q84), (fun x hx => (e84 x hx).trans ((e88_67) x hx)), ((va_up_ne _ _ (by omega)).trans u84), ((va_up_self _ _ _).trans rfl), (xn_updl x67 rfl), fun i _ _ _ _ => ((va_up_ne _ _ (by omega)).trans (Fh84 i (by omega) (by omega) (by omega) (by omega)))⟩
                rw [show xs_bst G (k + 1) = xs_bst G k from by show (if G k < G (xs_bst G k) then k else xs_bst G k) = xs_bst G k; rw [if_neg (xn_nlt c_102)]] at Q
                exact Q
              · skip
                refine xi_iload (q := 107) dX9_named_105 rfl rfl ?_
                refine xi_goto (q := 112) dX9_named_107 (by decide) ?_
                refine xi_istore (q := 114) dX9_named_112 (Nat.le_of_ble_eq_true rfl) rfl ?_
                refine xi_iinc (y := nI (k + 1)) (q := 117) dX9_named_114 rfl (xn_inc k) (Nat.le_of_ble_eq_true rfl) rfl ?_
                refine xi_goto (q := 67) dX9_named_117 (by decide) ?_
                refine xv_weakS (lv' := [(0, .ref 83), (1, .int (nI kp)), (2, .int w), (3, .int q), (4, .int (nI (k))), (5, .int (nI (k + 1)))]) ⟨rfl, rfl, rfl, rfl, rfl, rfl, trivial⟩ ?_
                have Q := ih67 _ (by omega) ⟨_, _, _, _, ((va_up_ne _ _ (by omega)).trans p84), ((va_up_ne _ _ (by omega)).trans q84), (fun x hx => (e84 x hx).trans ((e88_67) x hx)), ((va_up_ne _ _ (by omega)).trans u84), ((va_up_self _ _ _).trans rfl), (xn_updl x67 rfl), fun i _ _ _ _ => ((va_up_ne _ _ (by omega)).trans (Fh84 i (by omega) (by omega) (by omega) (by omega)))⟩
                rw [show xs_bst G (k + 1) = k from by show (if G k < G (xs_bst G k) then k else xs_bst G k) = k; rw [if_pos (xn_ltn c_102)]] at Q
                exact Q
          · have y50 : σ 7 kp 0 = 0 := (hR.1.2.2.1 kp (by omega)).1.symm.trans (by first | exact c_50 | exact Decidable.of_not_not c_50)
            refine xi_ldc (q := 55) dX9_named_53 kc_X9_237 rfl ?_
            refine xi_ret ⟨_, rfl, rfl, dX9_named_55⟩ (Nat.zero_le _) (Nat.zero_le _) ?_
            exact xs_finM (σ' := σ) hp (by simp only [xs_named, xs_onE, xs_onP, xs_fn, xs_an, Bool.not_false, Bool.not_true, Bool.true_or, Bool.false_or, Bool.and_true, Bool.true_and, Bool.and_false, Bool.false_and, Bool.false_eq_true, if_true, if_false, ↓reduceIte, g_9, g_21, decide_eq_true w26, g_38, eq_true y50, xs_kk0 (k := kp) (by omega)] <;> rfl) _ (xs_Mx (σ' := σ) hM hR (fa := (upd (C 83) 0 0)) ((va_up_self _ _ _).trans rfl) (fun j hj => (pk_un (by omega)).trans (rfl)) ((va_up_ne _ _ (by omega)).trans (xs_M88 hM)) (fun _ _ => rfl) ((va_up_ne _ _ (by omega)).trans (xs_M94 hM)) ((va_up_ne _ _ (by omega)).trans (xs_M95 hM)) ((va_up_ne _ _ (by omega)).trans (xs_M96 hM)) ((va_up_ne _ _ (by omega)).trans (xs_M97 hM)) ((va_up_ne _ _ (by omega)).trans (xs_M98 hM)) ((va_up_ne _ _ (by omega)).trans (xs_M99 hM)) (fun i i1 i2 i3 i4 => ((va_up_ne _ _ (by omega)).trans (Eq.refl _))) (fun _ _ _ => rfl) hR.2) (fun i hi => ((va_up_ne _ _ (by omega)).trans (Eq.refl _)))
        · have g_38 : xs_i q 0 100000 = false := decide_eq_false (xn_b0 c_38)
          refine xi_ldc (q := 43) dX9_named_41 kc_X9_91 rfl ?_
          refine xi_ret ⟨_, rfl, rfl, dX9_named_43⟩ (Nat.zero_le _) (Nat.zero_le _) ?_
          exact xs_finM (σ' := σ) hp (by simp only [xs_named, xs_onE, xs_onP, xs_fn, xs_an, Bool.not_false, Bool.not_true, Bool.true_or, Bool.false_or, Bool.and_true, Bool.true_and, Bool.and_false, Bool.false_and, Bool.false_eq_true, if_true, if_false, ↓reduceIte, g_9, g_21, decide_eq_true w26, g_38, xs_kk0 (k := kp) (by omega)] <;> rfl) _ (xs_Mx (σ' := σ) hM hR (fa := (upd (C 83) 0 0)) ((va_up_self _ _ _).trans rfl) (fun j hj => (pk_un (by omega)).trans (rfl)) ((va_up_ne _ _ (by omega)).trans (xs_M88 hM)) (fun _ _ => rfl) ((va_up_ne _ _ (by omega)).trans (xs_M94 hM)) ((va_up_ne _ _ (by omega)).trans (xs_M95 hM)) ((va_up_ne _ _ (by omega)).trans (xs_M96 hM)) ((va_up_ne _ _ (by omega)).trans (xs_M97 hM)) ((va_up_ne _ _ (by omega)).trans (xs_M98 hM)) ((va_up_ne _ _ (by omega)).trans (xs_M99 hM)) (fun i i1 i2 i3 i4 => ((va_up_ne _ _ (by omega)).trans (Eq.refl _))) (fun _ _ _ => rfl) hR.2) (fun i hi => ((va_up_ne _ _ (by omega)).trans (Eq.refl _)))

