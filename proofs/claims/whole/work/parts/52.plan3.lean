theorem xn_omn (a : Option Nat) : xs_omin a none = a := by cases a <;> rfl
theorem xs_PL7 {h : xv_H} {st ks : Int32} {wo dr ro : Nat → Int32} {lc : Nat → Nat → Int32} {ke g0 : Nat → Int32} {k0 : Nat} (hL : xs_PL h st ks wo dr ro (fun k => if k = k0 then g0 else lc k) ke) (hk0 : k0 < 11) {h' : xv_H} {g : Nat → Int32} (e : h' (29 + k0) = .inl (.int, 1001, .inl g)) (hf : ∀ i, i ≠ 29 + k0 → h' i = h i) : xs_PL h' st ks wo dr ro (fun k => if k = k0 then g else lc k) ke := by
  have h1 := xs_PL5 hL hk0 e hf
  rw [show (fun k => if k = k0 then g else (fun k => if k = k0 then g0 else lc k) k) = (fun k => if k = k0 then g else lc k) from funext fun k => by
    show (if k = k0 then g else if k = k0 then g0 else lc k) = if k = k0 then g else lc k
    by_cases z : k = k0
    · rw [if_pos z, if_pos z]
    · rw [if_neg z, if_neg z, if_neg z]] at h1
  exact h1
theorem xn_cn0 {M C : Nat → Nat} {On : Nat → Option Nat} {t c : Nat} (h : M c = 0 ∨ t < M c) : xs_cand M C On t c = none := if_neg (fun z => by omega)
theorem xn_cn1 {M C : Nat → Nat} {On : Nat → Option Nat} {t c : Nat} (h0 : ¬ M c = 0) (h1 : M c ≤ t) : xs_cand M C On t c = (On (t - M c)).map (fun v => C c + v) := if_pos ⟨h0, h1⟩
theorem xn_ix4 {s m j : Nat} (hs : 4 * s + j < m) (hm : m < 2147483648) : xv_ix (4 * nI s + nI j) m (4 * s + j) := by
  rw [show (4 * nI s + nI j : Int32) = nI (4 * s + j) by rw [show (4 * nI s : Int32) = nI (4 * s) from pk_mul 4 s, nI_add]]
  exact xv_ixN hs hm
theorem xn_ix40 {s m : Nat} (hs : 4 * s < m) (hm : m < 2147483648) : xv_ix (4 * nI s) m (4 * s) := by
  rw [show (4 * nI s : Int32) = nI (4 * s) from pk_mul 4 s]
  exact xv_ixN hs hm
theorem xn_subN {a b : Nat} (h : b ≤ a) : nI a - nI b = nI (a - b) := by
  conv => lhs; rw [show a = (a - b) + b by omega]
  rw [← nI_add]
  exact Int32.add_sub_cancel _ _
theorem xn_mx0 {l : Nat} (h : l < 2147483648) : (if 0 < nI l then nI l else 0 : Int32) = nI l := by
  by_cases z : l = 0
  · subst z; rfl
  · exact if_pos (by rw [xn_lt, xn_NI h, show (0 : Int32).toInt = 0 from rfl]; omega)
theorem xn_m1 (j : Nat) : nI (j + 1) - 1 = nI j := by rw [← nI_1]; exact Int32.add_sub_cancel _ _

set_option maxRecDepth 20000 in
set_option maxHeartbeats 2000000 in
/-- weigh -/
theorem xm_X6_weigh : xv_K yX6_weigh mX6_weigh (fun as h n Post => ∃ (st : Int32) (ks : Int32) (wo : Nat → Int32) (dr : Nat → Int32) (ro : Nat → Int32) (lc : Nat → Nat → Int32) (ke : Nat → Int32) (s : Nat) (l : Nat) (On : Nat → Option Nat), as = [.ref 24, .int (nI s), .int (nI l)] ∧ (xs_PL h st ks wo dr ro lc ke) ∧ (40 < n) ∧ (s < 10) ∧ (l ≤ 1000) ∧ (xs_rv ro s) ∧ (∀ c, c < 24 → 0 ≤ (dr c).toInt ∧ (dr c).toInt ≤ 1000000) ∧ (∀ t, t ≤ l → lc (s + 1) t = xs_enc (On t)) ∧ (∀ t, xs_bd 400000000 (On t)) ∧ (∀ (h' : xv_H) (g : Nat → Int32), xs_PL h' st ks wo dr ro (fun j => if j = s then g else lc j) ke → (∀ t, t ≤ l → g t = xs_enc (xs_mn (xs_cand (xs_M wo ro s) (xs_C dr ro s) On t) 24)) → (∀ i, i < 24 ∨ 40 < i → h' i = h i) → Post none h' n)) := by
  refine xv_entry (by decide +kernel) rfl (fun h => absurd h (by decide)) ?_
  rintro X _ h n Post ⟨st, ks, wo, dr, ro, lc, ke, s, l, On, rfl, hL, h40, hs, hl, hrv, hdc, hOn, hbd, hp⟩
  refine ⟨Nat.le_of_ble_eq_true rfl, ?_⟩
  show xv_V X mX6_weigh Post 0 0 0 [(0, .ref 24), (1, .int (nI s)), (2, .int (nI l))] [] h n
  have hCb : ∀ c, c < 24 → xs_C dr ro s c ≤ 500000 := fun c hc => xn_Cb (hdc c hc) ⟨by have := hrv.1; omega, hrv.1.2⟩
  have hMb : ∀ c, xs_M wo ro s c ≤ 4000 := fun c => xn_Mb ⟨by have := hrv.1; omega, hrv.1.2⟩ hrv.2.2
  have hmb : ∀ t k, k ≤ 24 → xs_bd 500000000 (xs_mn (xs_cand (xs_M wo ro s) (xs_C dr ro s) On t) k) := fun t k hk v hv => by
    have := xn_bdm (K := 400000000 + 500000) (f := xs_cand (xs_M wo ro s) (xs_C dr ro s) On t) (fun c hc => xn_bdc (hCb c hc) hbd) k hk v hv
    omega
  have L26 : ∀ (d k : Nat) (hh : xv_H) (g : Nat → Int32), k + d = 24 → xs_PL hh st ks wo dr ro (fun j => if j = s then g else lc j) ke → (∀ u, u ≤ l → g u = xs_enc (xs_mn (xs_cand (xs_M wo ro s) (xs_C dr ro s) On u) k)) → (∀ i, i < 24 ∨ 40 < i → hh i = h i) → xv_V X mX6_weigh Post 0 0 26 [(0, .ref 24), (1, .int (nI s)), (2, .int (nI l)), (3, .ref (29 + s)), (4, .ref (29 + (s + 1))), (5, .int (nI k))] [] hh n := by
    intro d
    induction d using Nat.strongRecOn with
    | _ d ih =>
      intro k hh g hk hQ hg hf0
      have hMk := hMb k
      have J55 : k < 24 → ∀ (e t : Nat) (hh : xv_H) (g : Nat → Int32), l + 1 - t = e → xs_M wo ro s k ≤ t → xs_PL hh st ks wo dr ro (fun j => if j = s then g else lc j) ke → (∀ u, u ≤ l → g u = if u < t then xs_enc (xs_mn (xs_cand (xs_M wo ro s) (xs_C dr ro s) On u) (k + 1)) else xs_enc (xs_mn (xs_cand (xs_M wo ro s) (xs_C dr ro s) On u) k)) → (∀ i, i < 24 ∨ 40 < i → hh i = h i) → t ≤ 5000 → xv_V X mX6_weigh Post 0 0 55 [(0, .ref 24), (1, .int (nI s)), (2, .int (nI l)), (3, .ref (29 + s)), (4, .ref (29 + (s + 1))), (5, .int (nI k)), (6, .int (nI (xs_M wo ro s k))), (7, .int (nI (xs_C dr ro s k))), (8, .int (nI t))] [] hh n := by
        intro hk2 e
        induction e using Nat.strongRecOn with
        | _ e ih2 =>
          intro t hh g he hMt hQ hg hf0 ht5
          have hrow0 : hh (29 + s) = .inl (.int, 1001, .inl g) := (hQ.2.2.2.2.2.1 s (by omega)).trans (by show (Sum.inl (FieldType.int, 1001, Sum.inl (if s = s then g else lc s)) : xv_E) = _; rw [if_pos rfl])
          have hrow1 : hh (29 + (s + 1)) = .inl (.int, 1001, .inl (lc (s + 1))) := (hQ.2.2.2.2.2.1 (s + 1) (by omega)).trans (by show (Sum.inl (FieldType.int, 1001, Sum.inl (if s + 1 = s then g else lc (s + 1))) : xv_E) = _; rw [if_neg (by omega)])
          refine xi_iload (q := 57) dX6_weigh_55 rfl rfl ?_
          refine xi_if_le (q := 60) (q2 := 107) dX6_weigh_57 (by decide) rfl (fun c_57 => ?_) (fun c_57 => ?_)
          · have hM0 : xs_M wo ro s k = 0 := by have z : nI (xs_M wo ro s k) ≤ nI 0 := c_57; have z2 := xn_leN z (by omega) (by omega); omega
            refine xi_iinc (y := nI (k + 1)) (q := 110) dX6_weigh_107 rfl (xn_inc k) (Nat.le_of_ble_eq_true rfl) rfl ?_
            refine xi_goto (q := 26) dX6_weigh_110 (by decide) ?_
            refine xv_weakS (lv' := [(0, .ref 24), (1, .int (nI s)), (2, .int (nI l)), (3, .ref (29 + s)), (4, .ref (29 + (s + 1))), (5, .int (nI (k + 1)))]) ⟨rfl, rfl, rfl, rfl, rfl, rfl, trivial⟩ ?_
            refine ih (d - 1) (by omega) (k + 1) hh g (by omega) hQ (fun u hu => ?_) hf0
            rw [hg u hu]
            show _ = xs_enc (xs_omin (xs_mn (xs_cand (xs_M wo ro s) (xs_C dr ro s) On u) k) (xs_cand (xs_M wo ro s) (xs_C dr ro s) On u k))
            rw [xn_cn0 (Or.inl hM0), xn_omn]
            by_cases z : u < t
            · rw [if_pos z]
              show xs_enc (xs_omin (xs_mn (xs_cand (xs_M wo ro s) (xs_C dr ro s) On u) k) (xs_cand (xs_M wo ro s) (xs_C dr ro s) On u k)) = _
              rw [xn_cn0 (Or.inl hM0), xn_omn]
            · rw [if_neg z]
          · have hM1 : ¬ xs_M wo ro s k = 0 := fun z => c_57 (by rw [z]; decide)
            refine xi_iload (q := 62) dX6_weigh_60 rfl rfl ?_
            refine xi_iload_n (q := 63) dX6_weigh_62 rfl rfl ?_
            refine xi_icmp_gt (q := 66) (q2 := 107) dX6_weigh_63 (by decide) rfl (fun c_63 => ?_) (fun c_63 => ?_)
            · have hlt : l < t := (nI_ltI (by omega) (by omega)).mp c_63
              refine xi_iinc (y := nI (k + 1)) (q := 110) dX6_weigh_107 rfl (xn_inc k) (Nat.le_of_ble_eq_true rfl) rfl ?_
              refine xi_goto (q := 26) dX6_weigh_110 (by decide) ?_
              refine xv_weakS (lv' := [(0, .ref 24), (1, .int (nI s)), (2, .int (nI l)), (3, .ref (29 + s)), (4, .ref (29 + (s + 1))), (5, .int (nI (k + 1)))]) ⟨rfl, rfl, rfl, rfl, rfl, rfl, trivial⟩ ?_
              refine ih (d - 1) (by omega) (k + 1) hh g (by omega) hQ (fun u hu => ?_) hf0
              rw [hg u hu, if_pos (by omega)]
            · have hlt : t ≤ l := by
                rcases Nat.lt_or_ge l t with z | z
                · exact absurd ((nI_ltI (by omega) (by omega)).mpr z) c_63
                · exact z
              have ht1 := xn_cn1 (C := xs_C dr ro s) (On := On) hM1 hMt
              have hon := hOn (t - xs_M wo ro s k) (by omega)
              refine xi_aload (q := 68) dX6_weigh_66 rfl rfl ?_
              refine xi_iload (q := 70) dX6_weigh_68 rfl rfl ?_
              refine xi_iload (q := 72) dX6_weigh_70 rfl rfl ?_
              refine xi_isub (q := 73) dX6_weigh_72 rfl ?_
              refine xi_iald (q := 74) dX6_weigh_73 ⟨by omega, hrow1⟩ (by rw [xn_subN hMt]; exact xv_ixN (by omega) (by omega)) rfl ?_
              refine xi_ldc (q := 76) dX6_weigh_74 kc_X6_80 rfl ?_
              refine xi_icmp_eq (q := 79) (q2 := 101) dX6_weigh_76 (by decide) rfl (fun c_76 => ?_) (fun c_76 => ?_)
              · have hz : On (t - xs_M wo ro s k) = none := (xn_enc (fun v hv => by have := hbd _ v hv; omega)).mp (hon.symm.trans c_76)
                rw [hz] at ht1
                refine xi_iinc (y := nI (t + 1)) (q := 104) dX6_weigh_101 rfl (xn_inc t) (Nat.le_of_ble_eq_true rfl) rfl ?_
                refine xi_goto (q := 55) dX6_weigh_104 (by decide) ?_
                refine xv_weakS (lv' := [(0, .ref 24), (1, .int (nI s)), (2, .int (nI l)), (3, .ref (29 + s)), (4, .ref (29 + (s + 1))), (5, .int (nI k)), (6, .int (nI (xs_M wo ro s k))), (7, .int (nI (xs_C dr ro s k))), (8, .int (nI (t + 1)))]) ⟨rfl, rfl, rfl, rfl, rfl, rfl, rfl, rfl, rfl, trivial⟩ ?_
                refine ih2 (e - 1) (by omega) (t + 1) hh g (by omega) (by omega) hQ (fun u hu => ?_) hf0 (by omega)
                rw [hg u hu]
                by_cases z : u < t
                · rw [if_pos z, if_pos (by omega)]
                · rw [if_neg z]
                  by_cases z2 : u = t
                  · subst z2
                    rw [if_pos (by omega)]
                    show _ = xs_enc (xs_omin (xs_mn (xs_cand (xs_M wo ro s) (xs_C dr ro s) On u) k) (xs_cand (xs_M wo ro s) (xs_C dr ro s) On u k))
                    rw [ht1]
                    show _ = xs_enc (xs_omin (xs_mn (xs_cand (xs_M wo ro s) (xs_C dr ro s) On u) k) none)
                    rw [xn_omn]
                  · rw [if_neg (by omega)]
              · obtain ⟨v, hv⟩ : ∃ v, On (t - xs_M wo ro s k) = some v := by
                  cases hz : On (t - xs_M wo ro s k) with
                  | some v => exact ⟨v, rfl⟩
                  | none => exact absurd (by rw [hon, hz]; rfl) c_76
                rw [hv] at ht1 hon
                have hvb := hbd _ v hv
                refine xi_aload_n (q := 80) dX6_weigh_79 rfl rfl ?_
                refine xi_iload (q := 82) dX6_weigh_80 rfl rfl ?_
                refine xi_aload_n (q := 83) dX6_weigh_82 rfl rfl ?_
                refine xi_iload (q := 85) dX6_weigh_83 rfl rfl ?_
                refine xi_iald (q := 86) dX6_weigh_85 ⟨by omega, hrow0⟩ (xv_ixN (by omega) (by omega)) rfl ?_
                refine xi_iload (q := 88) dX6_weigh_86 rfl rfl ?_
                refine xi_aload (q := 90) dX6_weigh_88 rfl rfl ?_
                refine xi_iload (q := 92) dX6_weigh_90 rfl rfl ?_
                refine xi_iload (q := 94) dX6_weigh_92 rfl rfl ?_
                refine xi_isub (q := 95) dX6_weigh_94 rfl ?_
                refine xi_iald (q := 96) dX6_weigh_95 ⟨by omega, hrow1⟩ (by rw [xn_subN hMt]; exact xv_ixN (by omega) (by omega)) rfl ?_
                refine xi_iadd (q := 97) dX6_weigh_96 rfl ?_
                refine xi_mmin (q := 100) dX6_weigh_97 ln_X6_29 (Nat.le_of_ble_eq_true rfl) (Nat.le_of_ble_eq_true rfl) (Nat.zero_le _) (Nat.zero_le _) rfl ?_
                have hmin : (if nI (xs_C dr ro s k) + lc (s + 1) (t - xs_M wo ro s k) < g t then nI (xs_C dr ro s k) + lc (s + 1) (t - xs_M wo ro s k) else g t) = xs_enc (xs_mn (xs_cand (xs_M wo ro s) (xs_C dr ro s) On t) (k + 1)) := by
                  rw [hg t hlt, if_neg (Nat.lt_irrefl t), hon]
                  show (if nI (xs_C dr ro s k) + nI v < _ then nI (xs_C dr ro s k) + nI v else _) = _
                  have hCk := hCb k hk2
                  rw [nI_add, xn_omin (hmb t k (by omega)) (by omega)]
                  show _ = xs_enc (xs_omin (xs_mn (xs_cand (xs_M wo ro s) (xs_C dr ro s) On t) k) (xs_cand (xs_M wo ro s) (xs_C dr ro s) On t k))
                  rw [ht1]
                  rfl
                rw [hmin]
                refine xi_iast (q := 101) dX6_weigh_100 ⟨by omega, hrow0⟩ (xv_ixN (by omega) (by omega)) rfl ?_
                refine xi_iinc (y := nI (t + 1)) (q := 104) dX6_weigh_101 rfl (xn_inc t) (Nat.le_of_ble_eq_true rfl) rfl ?_
                refine xi_goto (q := 55) dX6_weigh_104 (by decide) ?_
                refine xv_weakS (lv' := [(0, .ref 24), (1, .int (nI s)), (2, .int (nI l)), (3, .ref (29 + s)), (4, .ref (29 + (s + 1))), (5, .int (nI k)), (6, .int (nI (xs_M wo ro s k))), (7, .int (nI (xs_C dr ro s k))), (8, .int (nI (t + 1)))]) ⟨rfl, rfl, rfl, rfl, rfl, rfl, rfl, rfl, rfl, trivial⟩ ?_
                refine ih2 (e - 1) (by omega) (t + 1) _ _ (by omega) (by omega) (xs_PL7 hQ (by omega) (va_up_self _ _ _) (fun i hi => va_up_ne _ _ hi)) (fun u hu => ?_) (fun i hi => (va_up_ne _ _ (by omega)).trans (hf0 i hi)) (by omega)
                by_cases z2 : u = t
                · subst z2
                  rw [pk_us, if_pos (by omega)]
                · rw [pk_un z2, hg u hu]
                  by_cases z : u < t
                  · rw [if_pos z, if_pos (by omega)]
                  · rw [if_neg z, if_neg (by omega)]
      have hrow0 : hh (29 + s) = .inl (.int, 1001, .inl g) := (hQ.2.2.2.2.2.1 s (by omega)).trans (by show (Sum.inl (FieldType.int, 1001, Sum.inl (if s = s then g else lc s)) : xv_E) = _; rw [if_pos rfl])
      have hrow1 : hh (29 + (s + 1)) = .inl (.int, 1001, .inl (lc (s + 1))) := (hQ.2.2.2.2.2.1 (s + 1) (by omega)).trans (by show (Sum.inl (FieldType.int, 1001, Sum.inl (if s + 1 = s then g else lc (s + 1))) : xv_E) = _; rw [if_neg (by omega)])
      refine xi_iload (q := 28) dX6_weigh_26 rfl rfl ?_
      refine xi_bipush (x := 24) (q := 30) dX6_weigh_28 (by decide) rfl ?_
      refine xi_icmp_ge (q := 33) (q2 := 113) dX6_weigh_30 (by decide) rfl (fun c_30 => ?_) (fun c_30 => ?_)
      · have hk2 : k = 24 := by have z : 24 ≤ k := xn_leN c_30 (by omega) (by omega); omega
        subst hk2
        refine xi_vret ⟨rfl, dX6_weigh_113⟩ (Nat.zero_le _) (Nat.zero_le _) ?_
        exact hp hh g hQ hg hf0
      · have hk2 : k < 24 := xn_nleN c_30 (by omega) (by omega)
        refine xi_aload_n (q := 34) dX6_weigh_33 rfl rfl ?_
        refine xi_iload_n (q := 35) dX6_weigh_34 rfl rfl ?_
        refine xi_iload (q := 37) dX6_weigh_35 rfl rfl ?_
        refine xv_cV2 (q := 40) xm_X6_lasting ln_X6_88 dX6_weigh_37 ⟨by omega, hQ.1⟩ rfl ⟨(Nat.le_of_ble_eq_true rfl), (Nat.le_of_ble_eq_true rfl)⟩ (Nat.le_of_ble_eq_true rfl) ⟨rfl, rfl⟩ rfl (Nat.zero_le _) (Nat.zero_le _) ?_
        refine ⟨st, ks, wo, dr, ro, _, ke, s, k, rfl, hQ, h40, hs, hk2, hrv, ?_⟩
        refine xi_istore (q := 42) dX6_weigh_40 (Nat.le_of_ble_eq_true rfl) rfl ?_
        refine xi_aload_n (q := 43) dX6_weigh_42 rfl rfl ?_
        refine xi_iload_n (q := 44) dX6_weigh_43 rfl rfl ?_
        refine xi_iload (q := 46) dX6_weigh_44 rfl rfl ?_
        refine xv_cV2 (q := 49) xm_X6_burning ln_X6_91 dX6_weigh_46 ⟨by omega, hQ.1⟩ rfl ⟨(Nat.le_of_ble_eq_true rfl), (Nat.le_of_ble_eq_true rfl)⟩ (Nat.le_of_ble_eq_true rfl) ⟨rfl, rfl⟩ rfl (Nat.zero_le _) (Nat.zero_le _) ?_
        refine ⟨st, ks, wo, dr, ro, _, ke, s, k, rfl, hQ, h40, hs, hk2, hrv, hdc k hk2, ?_⟩
        refine xi_istore (q := 51) dX6_weigh_49 (Nat.le_of_ble_eq_true rfl) rfl ?_
        refine xi_iload (q := 53) dX6_weigh_51 rfl rfl ?_
        refine xi_istore (q := 55) dX6_weigh_53 (Nat.le_of_ble_eq_true rfl) rfl ?_
        refine xv_weakS (lv' := [(0, .ref 24), (1, .int (nI s)), (2, .int (nI l)), (3, .ref (29 + s)), (4, .ref (29 + (s + 1))), (5, .int (nI k)), (6, .int (nI (xs_M wo ro s k))), (7, .int (nI (xs_C dr ro s k))), (8, .int (nI (xs_M wo ro s k)))]) ⟨rfl, rfl, rfl, rfl, rfl, rfl, rfl, rfl, rfl, trivial⟩ ?_
        refine J55 hk2 _ _ hh g rfl (Nat.le_refl _) hQ (fun u hu => ?_) hf0 (by omega)
        rw [hg u hu]
        by_cases z : u < xs_M wo ro s k
        · rw [if_pos z]
          show _ = xs_enc (xs_omin (xs_mn (xs_cand (xs_M wo ro s) (xs_C dr ro s) On u) k) (xs_cand (xs_M wo ro s) (xs_C dr ro s) On u k))
          rw [xn_cn0 (Or.inr z), xn_omn]
        · rw [if_neg z]
  refine xi_aload_n (q := 1) dX6_weigh_0 rfl rfl ?_
  refine xi_getf (q := 4) dX6_weigh_1 fl_X6_23 ⟨by omega, hL.1⟩ rfl rfl ?_
  refine xi_iload_n (q := 5) dX6_weigh_4 rfl rfl ?_
  refine xi_aald (q := 6) dX6_weigh_5 ⟨by omega, hL.2.2.2.2.1⟩ rfl (xv_ixN (k := s) (by omega) (by omega)) (xs_PLi (k := s) (by omega)) rfl ?_
  refine xi_astore_n (q := 7) dX6_weigh_6 (Nat.le_of_ble_eq_true rfl) rfl ?_
  refine xi_aload_n (q := 8) dX6_weigh_7 rfl rfl ?_
  refine xi_getf (q := 11) dX6_weigh_8 fl_X6_23 ⟨by omega, hL.1⟩ rfl rfl ?_
  refine xi_iload_n (q := 12) dX6_weigh_11 rfl rfl ?_
  refine xi_iconst (x := 1) (q := 13) dX6_weigh_12 (by decide) rfl ?_
  refine xi_iadd (q := 14) dX6_weigh_13 rfl ?_
  refine xi_aald (q := 15) dX6_weigh_14 ⟨by omega, hL.2.2.2.2.1⟩ rfl (by rw [show (nI s + 1 : Int32) = nI (s + 1) from nI_1 s]; exact xv_ixN (k := s + 1) (by omega) (by omega)) (xs_PLi (k := s + 1) (by omega)) rfl ?_
  refine xi_astore (q := 17) dX6_weigh_15 (Nat.le_of_ble_eq_true rfl) rfl ?_
  refine xi_aload_n (q := 18) dX6_weigh_17 rfl rfl ?_
  refine xi_ldc (q := 20) dX6_weigh_18 kc_X6_80 rfl ?_
  refine xv_cS2 (q := 23) xm_J7_fill_53178 ln_X6_70 dX6_weigh_20 ⟨(Nat.le_of_ble_eq_true rfl), (Nat.le_of_ble_eq_true rfl)⟩ (Nat.le_of_ble_eq_true rfl) ⟨rfl, rfl⟩ rfl (Nat.zero_le _) (Nat.zero_le _) ?_
  refine ⟨29 + s, 1000000000, 1001, lc s, rfl, by omega, by omega, hL.2.2.2.2.2.1 s (by omega), fun h2 q1 q2 => ?_⟩
  refine xi_iconst (x := 0) (q := 24) dX6_weigh_23 (by decide) rfl ?_
  refine xi_istore (q := 26) dX6_weigh_24 (Nat.le_of_ble_eq_true rfl) rfl ?_
  refine xv_weakS (lv' := [(0, .ref 24), (1, .int (nI s)), (2, .int (nI l)), (3, .ref (29 + s)), (4, .ref (29 + (s + 1))), (5, .int (nI 0))]) ⟨rfl, rfl, rfl, rfl, rfl, rfl, trivial⟩ ?_
  exact L26 24 0 h2 _ (by omega) (xs_PL5 hL (k0 := s) (by omega) q1 q2) (fun u hu => rfl) (fun i hi => q2 i (by omega))

def xs_kp (ke : Nat → Int32) (s c : Nat) (M C : Nat → Nat) : Nat → Int32 := upd (upd (upd (upd ke (4 * s) (nI (1 + c / 4))) (4 * s + 1) (nI (1 + c % 4))) (4 * s + 2) (nI (M c))) (4 * s + 3) (nI (C c))
def xs_kk (M C : Nat → Nat → Nat) (n : Nat) : Nat → Nat → (Nat → Int32) → Nat → Int32
  | 0, _, ke => ke
  | r + 1, t, ke => xs_kk M C n r (t - M (n - (r + 1)) (xs_fc (xs_cand (M (n - (r + 1))) (C (n - (r + 1))) (xs_bc M C n r) t) ((xs_bc M C n (r + 1) t).getD 0) 24 0)) (xs_kp ke (n - (r + 1)) (xs_fc (xs_cand (M (n - (r + 1))) (C (n - (r + 1))) (xs_bc M C n r) t) ((xs_bc M C n (r + 1) t).getD 0) 24 0) (M (n - (r + 1))) (C (n - (r + 1))))

set_option maxRecDepth 20000 in
set_option maxHeartbeats 2000000 in
/-- keepBest -/
theorem xm_X6_keepBest : xv_K yX6_keepBest mX6_keepBest (fun as h n Post => ∃ (st : Int32) (ks : Int32) (wo : Nat → Int32) (dr : Nat → Int32) (ro : Nat → Int32) (lc : Nat → Nat → Int32) (ke : Nat → Int32) (s : Nat) (t : Nat) (v : Nat) (On : Nat → Option Nat), as = [.ref 24, .int (nI s), .int (nI t)] ∧ (xs_PL h st ks wo dr ro lc ke) ∧ (40 < n) ∧ (s < 10) ∧ (t ≤ 1000) ∧ (xs_rv ro s) ∧ (∀ c, c < 24 → 0 ≤ (dr c).toInt ∧ (dr c).toInt ≤ 1000000) ∧ (∀ u, u ≤ t → lc (s + 1) u = xs_enc (On u)) ∧ (∀ u, xs_bd 400000000 (On u)) ∧ (xs_mn (xs_cand (xs_M wo ro s) (xs_C dr ro s) On t) 24 = some v) ∧ (lc s t = nI v) ∧ (∀ (h' : xv_H) (c : Nat), xs_fc (xs_cand (xs_M wo ro s) (xs_C dr ro s) On t) v 24 0 = c → xs_PL h' st ks wo dr ro lc (xs_kp ke s c (xs_M wo ro s) (xs_C dr ro s)) → (∀ i, i < 24 ∨ 40 < i → h' i = h i) → Post (some (.int (nI (xs_M wo ro s c)))) h' n)) := by
  refine xv_entry (by decide +kernel) rfl (fun h => absurd h (by decide)) ?_
  rintro X _ h n Post ⟨st, ks, wo, dr, ro, lc, ke, s, t, v, On, rfl, hL, h40, hs, ht, hrv, hdc, hOn, hbd, hmn, hHere, hp⟩
  refine ⟨Nat.le_of_ble_eq_true rfl, ?_⟩
  show xv_V X mX6_keepBest Post 0 0 0 [(0, .ref 24), (1, .int (nI s)), (2, .int (nI t))] [] h n
  have hCb : ∀ c, c < 24 → xs_C dr ro s c ≤ 500000 := fun c hc => xn_Cb (hdc c hc) ⟨by have := hrv.1; omega, hrv.1.2⟩
  have hMb : ∀ c, xs_M wo ro s c ≤ 4000 := fun c => xn_Mb ⟨by have := hrv.1; omega, hrv.1.2⟩ hrv.2.2
  have hvm : v ≤ 500000000 := by
    have := xn_bdm (K := 400000000 + 500000) (f := xs_cand (xs_M wo ro s) (xs_C dr ro s) On t) (fun c hc => xn_bdc (hCb c hc) hbd) 24 (Nat.le_refl _) v hmn
    omega
  have L2 : ∀ (d k : Nat), k + d = 24 → (∀ j, j < k → ¬ xs_cand (xs_M wo ro s) (xs_C dr ro s) On t j = some v) → xs_fc (xs_cand (xs_M wo ro s) (xs_C dr ro s) On t) v 24 0 = xs_fc (xs_cand (xs_M wo ro s) (xs_C dr ro s) On t) v d k → xv_V X mX6_keepBest Post 0 0 2 [(0, .ref 24), (1, .int (nI s)), (2, .int (nI t)), (3, .int (nI k))] [] h n := by
    intro d
    induction d using Nat.strongRecOn with
    | _ d ih =>
      intro k hk hne hfc
      refine xi_iload_n (q := 3) dX6_keepBest_2 rfl rfl ?_
      refine xi_bipush (x := 24) (q := 5) dX6_keepBest_3 (by decide) rfl ?_
      refine xi_icmp_ge (q := 8) (q2 := 139) dX6_keepBest_5 (by decide) rfl (fun c_5 => ?_) (fun c_5 => ?_)
      · have hk2 : 24 ≤ k := xn_leN c_5 (by omega) (by omega)
        obtain ⟨c, hc1, hc2⟩ := xn_mne 24 hmn
        exact absurd hc2 (hne c (by omega))
      · have hk2 : k < 24 := xn_nleN c_5 (by omega) (by omega)
        have hMk := hMb k
        have hCk := hCb k hk2
        refine xi_aload_n (q := 9) dX6_keepBest_8 rfl rfl ?_
        refine xi_iload_n (q := 10) dX6_keepBest_9 rfl rfl ?_
        refine xi_iload_n (q := 11) dX6_keepBest_10 rfl rfl ?_
        refine xv_cV2 (q := 14) xm_X6_lasting ln_X6_88 dX6_keepBest_11 ⟨by omega, hL.1⟩ rfl ⟨(Nat.le_of_ble_eq_true rfl), (Nat.le_of_ble_eq_true rfl)⟩ (Nat.le_of_ble_eq_true rfl) ⟨rfl, rfl⟩ rfl (Nat.zero_le _) (Nat.zero_le _) ?_
        refine ⟨st, ks, wo, dr, ro, _, ke, s, k, rfl, hL, h40, hs, hk2, hrv, ?_⟩
        refine xi_istore (q := 16) dX6_keepBest_14 (Nat.le_of_ble_eq_true rfl) rfl ?_
        refine xi_aload_n (q := 17) dX6_keepBest_16 rfl rfl ?_
        refine xi_iload_n (q := 18) dX6_keepBest_17 rfl rfl ?_
        refine xi_iload_n (q := 19) dX6_keepBest_18 rfl rfl ?_
        refine xv_cV2 (q := 22) xm_X6_burning ln_X6_91 dX6_keepBest_19 ⟨by omega, hL.1⟩ rfl ⟨(Nat.le_of_ble_eq_true rfl), (Nat.le_of_ble_eq_true rfl)⟩ (Nat.le_of_ble_eq_true rfl) ⟨rfl, rfl⟩ rfl (Nat.zero_le _) (Nat.zero_le _) ?_
        refine ⟨st, ks, wo, dr, ro, _, ke, s, k, rfl, hL, h40, hs, hk2, hrv, hdc k hk2, ?_⟩
        refine xi_istore (q := 24) dX6_keepBest_22 (Nat.le_of_ble_eq_true rfl) rfl ?_
        refine xi_iload (q := 26) dX6_keepBest_24 rfl rfl ?_
        refine xi_if_le (q := 29) (q2 := 133) dX6_keepBest_26 (by decide) rfl (fun c_26 => ?_) (fun c_26 => ?_)
        · have hM0 : xs_M wo ro s k = 0 := by have z : nI (xs_M wo ro s k) ≤ nI 0 := c_26; have z2 := xn_leN z (by omega) (by omega); omega
          refine xi_iinc (y := nI (k + 1)) (q := 136) dX6_keepBest_133 rfl (xn_inc k) (Nat.le_of_ble_eq_true rfl) rfl ?_
          refine xi_goto (q := 2) dX6_keepBest_136 (by decide) ?_
          refine xv_weakS (lv' := [(0, .ref 24), (1, .int (nI s)), (2, .int (nI t)), (3, .int (nI (k + 1)))]) ⟨rfl, rfl, rfl, rfl, trivial⟩ ?_
          have hnk : ¬ xs_cand (xs_M wo ro s) (xs_C dr ro s) On t k = some v := by rw [xn_cn0 (Or.inl hM0)]; exact fun z => by cases z
          exact ih (d - 1) (by omega) (k + 1) (by omega) (fun j hj => by
            by_cases z : j = k
            · rw [z]; exact hnk
            · exact hne j (by omega)) (by
            rw [hfc, show d = (d - 1) + 1 by omega]
            exact if_neg hnk)
        · have hM1 : ¬ xs_M wo ro s k = 0 := fun z => c_26 (by rw [z]; decide)
          refine xi_iload (q := 31) dX6_keepBest_29 rfl rfl ?_
          refine xi_iload_n (q := 32) dX6_keepBest_31 rfl rfl ?_
          refine xi_icmp_gt (q := 35) (q2 := 133) dX6_keepBest_32 (by decide) rfl (fun c_32 => ?_) (fun c_32 => ?_)
          · have hlt : t < xs_M wo ro s k := (nI_ltI (by omega) (by omega)).mp c_32
            refine xi_iinc (y := nI (k + 1)) (q := 136) dX6_keepBest_133 rfl (xn_inc k) (Nat.le_of_ble_eq_true rfl) rfl ?_
            refine xi_goto (q := 2) dX6_keepBest_136 (by decide) ?_
            refine xv_weakS (lv' := [(0, .ref 24), (1, .int (nI s)), (2, .int (nI t)), (3, .int (nI (k + 1)))]) ⟨rfl, rfl, rfl, rfl, trivial⟩ ?_
            have hnk : ¬ xs_cand (xs_M wo ro s) (xs_C dr ro s) On t k = some v := by rw [xn_cn0 (Or.inr hlt)]; exact fun z => by cases z
            exact ih (d - 1) (by omega) (k + 1) (by omega) (fun j hj => by
              by_cases z : j = k
              · rw [z]; exact hnk
              · exact hne j (by omega)) (by
              rw [hfc, show d = (d - 1) + 1 by omega]
              exact if_neg hnk)
          · have hMt : xs_M wo ro s k ≤ t := by
              rcases Nat.lt_or_ge t (xs_M wo ro s k) with z | z
              · exact absurd ((nI_ltI (by omega) (by omega)).mpr z) c_32
              · exact z
            have ht1 := xn_cn1 (C := xs_C dr ro s) (On := On) hM1 hMt
            have hon := hOn (t - xs_M wo ro s k) (by omega)
            refine xi_aload_n (q := 36) dX6_keepBest_35 rfl rfl ?_
            refine xi_getf (q := 39) dX6_keepBest_36 fl_X6_23 ⟨by omega, hL.1⟩ rfl rfl ?_
            refine xi_iload_n (q := 40) dX6_keepBest_39 rfl rfl ?_
            refine xi_iconst (x := 1) (q := 41) dX6_keepBest_40 (by decide) rfl ?_
            refine xi_iadd (q := 42) dX6_keepBest_41 rfl ?_
            refine xi_aald (q := 43) dX6_keepBest_42 ⟨by omega, hL.2.2.2.2.1⟩ rfl (by rw [show (nI s + 1 : Int32) = nI (s + 1) from nI_1 s]; exact xv_ixN (k := s + 1) (by omega) (by omega)) (xs_PLi (k := s + 1) (by omega)) rfl ?_
            refine xi_iload_n (q := 44) dX6_keepBest_43 rfl rfl ?_
            refine xi_iload (q := 46) dX6_keepBest_44 rfl rfl ?_
            refine xi_isub (q := 47) dX6_keepBest_46 rfl ?_
            refine xi_iald (q := 48) dX6_keepBest_47 ⟨by omega, hL.2.2.2.2.2.1 (s + 1) (by omega)⟩ (by rw [xn_subN hMt]; exact xv_ixN (by omega) (by omega)) rfl ?_
            refine xi_ldc (q := 50) dX6_keepBest_48 kc_X6_80 rfl ?_
            refine xi_icmp_eq (q := 53) (q2 := 133) dX6_keepBest_50 (by decide) rfl (fun c_50 => ?_) (fun c_50 => ?_)
            · have hz : On (t - xs_M wo ro s k) = none := (xn_enc (fun v hv => by have := hbd _ v hv; omega)).mp (hon.symm.trans c_50)
              rw [hz] at ht1
              refine xi_iinc (y := nI (k + 1)) (q := 136) dX6_keepBest_133 rfl (xn_inc k) (Nat.le_of_ble_eq_true rfl) rfl ?_
              refine xi_goto (q := 2) dX6_keepBest_136 (by decide) ?_
              refine xv_weakS (lv' := [(0, .ref 24), (1, .int (nI s)), (2, .int (nI t)), (3, .int (nI (k + 1)))]) ⟨rfl, rfl, rfl, rfl, trivial⟩ ?_
              have hnk : ¬ xs_cand (xs_M wo ro s) (xs_C dr ro s) On t k = some v := by rw [ht1]; exact fun z => by cases z
              exact ih (d - 1) (by omega) (k + 1) (by omega) (fun j hj => by
                by_cases z : j = k
                · rw [z]; exact hnk
                · exact hne j (by omega)) (by
                rw [hfc, show d = (d - 1) + 1 by omega]
                exact if_neg hnk)
            · obtain ⟨w, hw⟩ : ∃ v, On (t - xs_M wo ro s k) = some v := by
                cases hz : On (t - xs_M wo ro s k) with
                | some v => exact ⟨v, rfl⟩
                | none => exact absurd (by rw [hon, hz]; rfl) c_50
              rw [hw] at ht1 hon
              have hvb := hbd _ w hw
              have hsum : nI (xs_C dr ro s k) + lc (s + 1) (t - xs_M wo ro s k) = nI (xs_C dr ro s k + w) := by rw [hon]; exact nI_add _ _
              refine xi_iload (q := 55) dX6_keepBest_53 rfl rfl ?_
              refine xi_aload_n (q := 56) dX6_keepBest_55 rfl rfl ?_
              refine xi_getf (q := 59) dX6_keepBest_56 fl_X6_23 ⟨by omega, hL.1⟩ rfl rfl ?_
              refine xi_iload_n (q := 60) dX6_keepBest_59 rfl rfl ?_
              refine xi_iconst (x := 1) (q := 61) dX6_keepBest_60 (by decide) rfl ?_
              refine xi_iadd (q := 62) dX6_keepBest_61 rfl ?_
              refine xi_aald (q := 63) dX6_keepBest_62 ⟨by omega, hL.2.2.2.2.1⟩ rfl (by rw [show (nI s + 1 : Int32) = nI (s + 1) from nI_1 s]; exact xv_ixN (k := s + 1) (by omega) (by omega)) (xs_PLi (k := s + 1) (by omega)) rfl ?_
              refine xi_iload_n (q := 64) dX6_keepBest_63 rfl rfl ?_
              refine xi_iload (q := 66) dX6_keepBest_64 rfl rfl ?_
              refine xi_isub (q := 67) dX6_keepBest_66 rfl ?_
              refine xi_iald (q := 68) dX6_keepBest_67 ⟨by omega, hL.2.2.2.2.2.1 (s + 1) (by omega)⟩ (by rw [xn_subN hMt]; exact xv_ixN (by omega) (by omega)) rfl ?_
              refine xi_iadd (q := 69) dX6_keepBest_68 rfl ?_
              refine xi_aload_n (q := 70) dX6_keepBest_69 rfl rfl ?_
              refine xi_getf (q := 73) dX6_keepBest_70 fl_X6_23 ⟨by omega, hL.1⟩ rfl rfl ?_
              refine xi_iload_n (q := 74) dX6_keepBest_73 rfl rfl ?_
              refine xi_aald (q := 75) dX6_keepBest_74 ⟨by omega, hL.2.2.2.2.1⟩ rfl (xv_ixN (k := s) (by omega) (by omega)) (xs_PLi (k := s) (by omega)) rfl ?_
              refine xi_iload_n (q := 76) dX6_keepBest_75 rfl rfl ?_
              refine xi_iald (q := 77) dX6_keepBest_76 ⟨by omega, hL.2.2.2.2.2.1 s (by omega)⟩ (xv_ixN (by omega) (by omega)) rfl ?_
              refine xi_icmp_ne (q := 80) (q2 := 133) dX6_keepBest_77 (by decide) rfl (fun c_77 => ?_) (fun c_77 => ?_)
              · have hnv : ¬ xs_C dr ro s k + w = v := fun z => c_77 (by rw [hsum, z, hHere])
                refine xi_iinc (y := nI (k + 1)) (q := 136) dX6_keepBest_133 rfl (xn_inc k) (Nat.le_of_ble_eq_true rfl) rfl ?_
                refine xi_goto (q := 2) dX6_keepBest_136 (by decide) ?_
                refine xv_weakS (lv' := [(0, .ref 24), (1, .int (nI s)), (2, .int (nI t)), (3, .int (nI (k + 1)))]) ⟨rfl, rfl, rfl, rfl, trivial⟩ ?_
                have hnk : ¬ xs_cand (xs_M wo ro s) (xs_C dr ro s) On t k = some v := by rw [ht1]; exact fun z => hnv (Option.some.inj z)
                exact ih (d - 1) (by omega) (k + 1) (by omega) (fun j hj => by
                  by_cases z : j = k
                  · rw [z]; exact hnk
                  · exact hne j (by omega)) (by
                  rw [hfc, show d = (d - 1) + 1 by omega]
                  exact if_neg hnk)
              · have hev : xs_C dr ro s k + w = v := (nI_eq (by omega) (by omega)).mp (hsum.symm.trans ((by first | exact c_77 | exact Decidable.of_not_not c_77 : _ = lc s t).trans hHere))
                have hck : xs_cand (xs_M wo ro s) (xs_C dr ro s) On t k = some v := by rw [ht1, ← hev]; rfl
                refine xi_aload_n (q := 81) dX6_keepBest_80 rfl rfl ?_
                refine xi_getf (q := 84) dX6_keepBest_81 fl_X6_26 ⟨by omega, hL.1⟩ rfl rfl ?_
                refine xi_iconst (x := 4) (q := 85) dX6_keepBest_84 (by decide) rfl ?_
                refine xi_iload_n (q := 86) dX6_keepBest_85 rfl rfl ?_
                refine xi_imul (q := 87) dX6_keepBest_86 rfl ?_
                refine xi_iload_n (q := 88) dX6_keepBest_87 rfl rfl ?_
                refine xv_cS1 (q := 91) xm_X6_notchOf ln_X6_52 dX6_keepBest_88 ⟨(Nat.le_of_ble_eq_true rfl), (Nat.le_of_ble_eq_true rfl)⟩ (Nat.le_of_ble_eq_true rfl) ⟨rfl, rfl⟩ rfl (Nat.zero_le _) (Nat.zero_le _) ?_
                refine ⟨k, rfl, hk2, ?_⟩
                refine xi_iast (q := 92) dX6_keepBest_91 ⟨by omega, hL.2.2.2.2.2.2⟩ (xn_ix40 (by omega) (by omega)) rfl ?_
                refine xi_aload_n (q := 93) dX6_keepBest_92 rfl rfl ?_
                refine xi_getf (q := 96) dX6_keepBest_93 fl_X6_26 (xv_keep (by omega) ⟨by omega, hL.1⟩) rfl rfl ?_
                refine xi_iconst (x := 4) (q := 97) dX6_keepBest_96 (by decide) rfl ?_
                refine xi_iload_n (q := 98) dX6_keepBest_97 rfl rfl ?_
                refine xi_imul (q := 99) dX6_keepBest_98 rfl ?_
                refine xi_iconst (x := 1) (q := 100) dX6_keepBest_99 (by decide) rfl ?_
                refine xi_iadd (q := 101) dX6_keepBest_100 rfl ?_
                refine xi_iload_n (q := 102) dX6_keepBest_101 rfl rfl ?_
                refine xv_cS1 (q := 105) xm_X6_regulatorOf ln_X6_55 dX6_keepBest_102 ⟨(Nat.le_of_ble_eq_true rfl), (Nat.le_of_ble_eq_true rfl)⟩ (Nat.le_of_ble_eq_true rfl) ⟨rfl, rfl⟩ rfl (Nat.zero_le _) (Nat.zero_le _) ?_
                refine ⟨k, rfl, hk2, ?_⟩
                refine xi_iast (q := 106) dX6_keepBest_105 (xv_self (by omega)) (xn_ix4 (j := 1) (by omega) (by omega)) rfl ?_
                refine xi_aload_n (q := 107) dX6_keepBest_106 rfl rfl ?_
                refine xi_getf (q := 110) dX6_keepBest_107 fl_X6_26 (xv_keep (by omega) (xv_keep (by omega) ⟨by omega, hL.1⟩)) rfl rfl ?_
                refine xi_iconst (x := 4) (q := 111) dX6_keepBest_110 (by decide) rfl ?_
                refine xi_iload_n (q := 112) dX6_keepBest_111 rfl rfl ?_
                refine xi_imul (q := 113) dX6_keepBest_112 rfl ?_
                refine xi_iconst (x := 2) (q := 114) dX6_keepBest_113 (by decide) rfl ?_
                refine xi_iadd (q := 115) dX6_keepBest_114 rfl ?_
                refine xi_iload (q := 117) dX6_keepBest_115 rfl rfl ?_
                refine xi_iast (q := 118) dX6_keepBest_117 (xv_self (by omega)) (xn_ix4 (j := 2) (by omega) (by omega)) rfl ?_
                refine xi_aload_n (q := 119) dX6_keepBest_118 rfl rfl ?_
                refine xi_getf (q := 122) dX6_keepBest_119 fl_X6_26 (xv_keep (by omega) (xv_keep (by omega) (xv_keep (by omega) ⟨by omega, hL.1⟩))) rfl rfl ?_
                refine xi_iconst (x := 4) (q := 123) dX6_keepBest_122 (by decide) rfl ?_
                refine xi_iload_n (q := 124) dX6_keepBest_123 rfl rfl ?_
                refine xi_imul (q := 125) dX6_keepBest_124 rfl ?_
                refine xi_iconst (x := 3) (q := 126) dX6_keepBest_125 (by decide) rfl ?_
                refine xi_iadd (q := 127) dX6_keepBest_126 rfl ?_
                refine xi_iload (q := 129) dX6_keepBest_127 rfl rfl ?_
                refine xi_iast (q := 130) dX6_keepBest_129 (xv_self (by omega)) (xn_ix4 (j := 3) (by omega) (by omega)) rfl ?_
                refine xi_iload (q := 132) dX6_keepBest_130 rfl rfl ?_
                refine xi_ret ⟨_, rfl, rfl, dX6_keepBest_132⟩ (Nat.zero_le _) (Nat.zero_le _) ?_
                have hfin : xs_fc (xs_cand (xs_M wo ro s) (xs_C dr ro s) On t) v 24 0 = k := by
                  rw [hfc, show d = (d - 1) + 1 by omega]
                  exact if_pos hck
                rw [bx_uu, bx_uu, bx_uu]
                exact hp _ k hfin (xs_PL6 hL _) (fun i hi => va_up_ne _ _ (by omega))
  refine xi_iconst (x := 0) (q := 1) dX6_keepBest_0 (by decide) rfl ?_
  refine xi_istore_n (q := 2) dX6_keepBest_1 (Nat.le_of_ble_eq_true rfl) rfl ?_
  refine xv_weakS (lv' := [(0, .ref 24), (1, .int (nI s)), (2, .int (nI t)), (3, .int (nI 0))]) ⟨rfl, rfl, rfl, rfl, trivial⟩ ?_
  exact L2 24 0 (by omega) (fun j hj => absurd hj (Nat.not_lt_zero j)) rfl

set_option maxRecDepth 20000 in
set_option maxHeartbeats 2000000 in
/-- choose -/
theorem xm_X6_choose : xv_K yX6_choose mX6_choose (fun as h n Post => ∃ (ks : Int32) (wo : Nat → Int32) (dr : Nat → Int32) (ro : Nat → Int32) (lc : Nat → Nat → Int32) (ke : Nat → Int32) (N : Nat) (l : Nat), as = [.ref 24, .int (nI l)] ∧ (xs_PL h (nI N) ks wo dr ro lc ke) ∧ (40 < n) ∧ (1 ≤ N ∧ N ≤ 10) ∧ (l ≤ 1000) ∧ (∀ s, s < N → xs_rv ro s) ∧ (∀ c, c < 24 → 0 ≤ (dr c).toInt ∧ (dr c).toInt ≤ 1000000) ∧ ((xs_bc (xs_M wo ro) (xs_C dr ro) N N l = none → ∀ (h' : xv_H) (lc' : Nat → Nat → Int32), xs_PL h' (nI N) ks wo dr ro lc' ke → (∀ i, i < 24 ∨ 40 < i → h' i = h i) → Post (some (.int (-1000000))) h' n) ∧ (∀ v, xs_bc (xs_M wo ro) (xs_C dr ro) N N l = some v → ∀ (h' : xv_H) (lc' : Nat → Nat → Int32), xs_PL h' (nI N) (nI N) wo dr ro lc' (xs_kk (xs_M wo ro) (xs_C dr ro) N N l ke) → (∀ i, i < 24 ∨ 40 < i → h' i = h i) → Post (some (.int (nI v))) h' n))) := by
  refine xv_entry (by decide +kernel) rfl (fun h => absurd h (by decide)) ?_
  rintro X _ h n Post ⟨ks, wo, dr, ro, lc, ke, N, l, rfl, hL, h40, hN, hl, hrv, hdc, hp⟩
  refine ⟨Nat.le_of_ble_eq_true rfl, ?_⟩
  show xv_V X mX6_choose Post 0 0 0 [(0, .ref 24), (1, .int (nI l))] [] h n
  have hCb : ∀ s c, s < N → c < 24 → xs_C dr ro s c ≤ 500000 := fun s c hs hc => xn_Cb (hdc c hc) ⟨by have := (hrv s hs).1; omega, (hrv s hs).1.2⟩
  have hbb : ∀ r t, r ≤ N → xs_bd 400000000 (xs_bc (xs_M wo ro) (xs_C dr ro) N r t) := fun r t hr v hv => by
    have := xn_bdb hCb r t hr v hv
    have := Nat.mul_le_mul (show r ≤ 10 by omega) (Nat.le_refl 500000)
    omega
  have L69 : ∀ (v : Nat) (lc : Nat → Nat → Int32), (∀ s, 0 ≤ s → s ≤ N → ∀ t, t ≤ l → lc s t = xs_enc (xs_bc (xs_M wo ro) (xs_C dr ro) N (N - s) t)) → xs_bc (xs_M wo ro) (xs_C dr ro) N N l = some v → ∀ (d s t : Nat) (ke2 : Nat → Int32) (hh : xv_H), s + d = N → t ≤ l → xs_PL hh (nI N) ks wo dr ro lc ke2 → (xs_bc (xs_M wo ro) (xs_C dr ro) N (N - s) t).isSome = true → xs_kk (xs_M wo ro) (xs_C dr ro) N (N - s) t ke2 = xs_kk (xs_M wo ro) (xs_C dr ro) N N l ke → (∀ i, i < 24 ∨ 40 < i → hh i = h i) → xv_V X mX6_choose Post 0 0 69 [(0, .ref 24), (1, .int (nI l)), (2, .int (nI t)), (3, .int (nI v)), (4, .int (nI s))] [] hh n := by
    intro v lc hlc ho0 d
    obtain ⟨ke0, hke0⟩ : ∃ q, q = ke := ⟨_, rfl⟩
    rw [← hke0]
    rw [← hke0] at hp
    clear hke0
    clear hL
    induction d using Nat.strongRecOn with
    | _ d ih =>
      intro s t ke hh hsd htl hQ hsome hkk hf0
      refine xi_iload (q := 71) dX6_choose_69 rfl rfl ?_
      refine xi_aload_n (q := 72) dX6_choose_71 rfl rfl ?_
      refine xi_getf (q := 75) dX6_choose_72 fl_X6_38 ⟨by omega, hQ.1⟩ rfl rfl ?_
      refine xi_icmp_ge (q := 78) (q2 := 94) dX6_choose_75 (by decide) rfl (fun c_75 => ?_) (fun c_75 => ?_)
      · have hsN : s = N := by have z : N ≤ s := xn_leN c_75 (by omega) (by omega); omega
        refine xi_aload_n (q := 95) dX6_choose_94 rfl rfl ?_
        refine xi_aload_n (q := 96) dX6_choose_95 rfl rfl ?_
        refine xi_getf (q := 99) dX6_choose_96 fl_X6_38 ⟨by omega, hQ.1⟩ rfl rfl ?_
        refine xi_putf (q := 102) dX6_choose_99 fl_X6_85 ⟨by omega, hQ.1⟩ (Or.inl rfl) (fun _ => rfl) (fun _ => rfl) (Nat.le_of_ble_eq_true rfl) rfl ?_
        refine xi_iload_n (q := 103) dX6_choose_102 rfl rfl ?_
        refine xi_ret ⟨_, rfl, rfl, dX6_choose_103⟩ (Nat.zero_le _) (Nat.zero_le _) ?_
        refine hp.2 v ho0 _ lc (show xs_PL _ (nI N) (nI N) wo dr ro lc (xs_kk (xs_M wo ro) (xs_C dr ro) N N l ke0) from ?_) (fun i hi => (va_up_ne _ _ (by omega)).trans (hf0 i hi))
        rw [← hkk, hsN, Nat.sub_self]
        exact xs_PL0 hQ _ _
      · have hsN : s < N := xn_nleN c_75 (by omega) (by omega)
        have hr : N - s = (N - (s + 1)) + 1 := by omega
        obtain ⟨w, hw⟩ : ∃ w, xs_bc (xs_M wo ro) (xs_C dr ro) N (N - s) t = some w := by
          cases hz : xs_bc (xs_M wo ro) (xs_C dr ro) N (N - s) t with
          | none => rw [hz] at hsome; exact absurd hsome (by decide)
          | some w => exact ⟨w, rfl⟩
        have hmn : xs_mn (xs_cand (xs_M wo ro s) (xs_C dr ro s) (xs_bc (xs_M wo ro) (xs_C dr ro) N (N - (s + 1))) t) 24 = some w := by
          rw [hr] at hw
          have h2 : xs_mn (xs_cand (xs_M wo ro (N - (N - (s + 1) + 1))) (xs_C dr ro (N - (N - (s + 1) + 1))) (xs_bc (xs_M wo ro) (xs_C dr ro) N (N - (s + 1))) t) 24 = some w := hw
          rw [show N - (N - (s + 1) + 1) = s by omega] at h2
          exact h2
        refine xi_iload_n (q := 79) dX6_choose_78 rfl rfl ?_
        refine xi_aload_n (q := 80) dX6_choose_79 rfl rfl ?_
        refine xi_iload (q := 82) dX6_choose_80 rfl rfl ?_
        refine xi_iload_n (q := 83) dX6_choose_82 rfl rfl ?_
        refine xv_cV2 (q := 86) xm_X6_keepBest ln_X6_82 dX6_choose_83 ⟨by omega, hQ.1⟩ rfl ⟨(Nat.le_of_ble_eq_true rfl), (Nat.le_of_ble_eq_true rfl)⟩ (Nat.le_of_ble_eq_true rfl) ⟨rfl, rfl⟩ rfl (Nat.zero_le _) (Nat.zero_le _) ?_
        refine ⟨nI N, ks, wo, dr, ro, lc, ke, s, t, w, xs_bc (xs_M wo ro) (xs_C dr ro) N (N - (s + 1)), rfl, hQ, h40, by omega, by omega, hrv s hsN, hdc, fun u hu => hlc (s + 1) (by omega) (by omega) u (by omega), fun u => hbb _ u (by omega), hmn, (hlc s (by omega) (by omega) t htl).trans (by show xs_enc (xs_bc (xs_M wo ro) (xs_C dr ro) N (N - s) t) = _; rw [hw]; rfl), fun h2 c q1 q2 q3 => ?_⟩
        obtain ⟨hc1, -, hc2⟩ := xn_fc (f := xs_cand (xs_M wo ro s) (xs_C dr ro s) (xs_bc (xs_M wo ro) (xs_C dr ro) N (N - (s + 1))) t) 24 0 (by obtain ⟨c, x1, x2⟩ := xn_mne 24 hmn; exact ⟨c, by omega, by omega, x2⟩)
        rw [q1] at hc1 hc2
        have hMt : xs_M wo ro s c ≤ t := by
          by_cases z : xs_M wo ro s c ≤ t
          · exact z
          · rw [xn_cn0 (Or.inr (by omega))] at hc1
            cases hc1
        have hM0 : ¬ xs_M wo ro s c = 0 := fun z => by
          rw [xn_cn0 (Or.inl z)] at hc1
          cases hc1
        have hsome2 : (xs_bc (xs_M wo ro) (xs_C dr ro) N (N - (s + 1)) (t - xs_M wo ro s c)).isSome = true := by
          rw [xn_cn1 hM0 hMt] at hc1
          cases hz : xs_bc (xs_M wo ro) (xs_C dr ro) N (N - (s + 1)) (t - xs_M wo ro s c) with
          | none => rw [hz] at hc1; cases hc1
          | some _ => rfl
        refine xi_isub (q := 87) dX6_choose_86 rfl ?_
        rw [xn_subN hMt]
        refine xi_istore_n (q := 88) dX6_choose_87 (Nat.le_of_ble_eq_true rfl) rfl ?_
        refine xi_iinc (y := nI (s + 1)) (q := 91) dX6_choose_88 rfl (xn_inc s) (Nat.le_of_ble_eq_true rfl) rfl ?_
        refine xi_goto (q := 69) dX6_choose_91 (by decide) ?_
        refine xv_weakS (lv' := [(0, .ref 24), (1, .int (nI l)), (2, .int (nI (t - xs_M wo ro s c))), (3, .int (nI v)), (4, .int (nI (s + 1)))]) ⟨rfl, rfl, rfl, rfl, rfl, trivial⟩ ?_
        exact ih (d - 1) (by omega) (s + 1) _ _ h2 (by omega) (by omega) q2 hsome2 (by
          rw [← hkk, hr]
          show _ = xs_kk (xs_M wo ro) (xs_C dr ro) N (N - (s + 1)) (t - xs_M wo ro (N - (N - (s + 1) + 1)) (xs_fc (xs_cand (xs_M wo ro (N - (N - (s + 1) + 1))) (xs_C dr ro (N - (N - (s + 1) + 1))) (xs_bc (xs_M wo ro) (xs_C dr ro) N (N - (s + 1))) t) ((xs_bc (xs_M wo ro) (xs_C dr ro) N (N - (s + 1) + 1) t).getD 0) 24 0)) (xs_kp ke (N - (N - (s + 1) + 1)) (xs_fc (xs_cand (xs_M wo ro (N - (N - (s + 1) + 1))) (xs_C dr ro (N - (N - (s + 1) + 1))) (xs_bc (xs_M wo ro) (xs_C dr ro) N (N - (s + 1))) t) ((xs_bc (xs_M wo ro) (xs_C dr ro) N (N - (s + 1) + 1) t).getD 0) 24 0) (xs_M wo ro (N - (N - (s + 1) + 1))) (xs_C dr ro (N - (N - (s + 1) + 1))))
          rw [← hr, hw, show N - (N - s) = s by omega]
          show _ = xs_kk (xs_M wo ro) (xs_C dr ro) N (N - (s + 1)) (t - xs_M wo ro s (xs_fc (xs_cand (xs_M wo ro s) (xs_C dr ro s) (xs_bc (xs_M wo ro) (xs_C dr ro) N (N - (s + 1))) t) w 24 0)) (xs_kp ke s (xs_fc (xs_cand (xs_M wo ro s) (xs_C dr ro s) (xs_bc (xs_M wo ro) (xs_C dr ro) N (N - (s + 1))) t) w 24 0) (xs_M wo ro s) (xs_C dr ro s))
          rw [q1]) (fun i hi => (q3 i hi).trans (hf0 i hi))
  have J48 : ∀ (hh : xv_H) (lc : Nat → Nat → Int32), xs_PL hh (nI N) ks wo dr ro lc ke → (∀ s, 0 ≤ s → s ≤ N → ∀ t, t ≤ l → lc s t = xs_enc (xs_bc (xs_M wo ro) (xs_C dr ro) N (N - s) t)) → (∀ i, i < 24 ∨ 40 < i → hh i = h i) → xv_V X mX6_choose Post 0 0 48 [(0, .ref 24), (1, .int (nI l)), (2, .int (nI l))] [] hh n := by
    intro hh lc hQ hlc hf0
    refine xi_aload_n (q := 49) dX6_choose_48 rfl rfl ?_
    refine xi_getf (q := 52) dX6_choose_49 fl_X6_23 ⟨by omega, hQ.1⟩ rfl rfl ?_
    refine xi_iconst (x := 0) (q := 53) dX6_choose_52 (by decide) rfl ?_
    refine xi_aald (q := 54) dX6_choose_53 ⟨by omega, hQ.2.2.2.2.1⟩ rfl (xv_ixN (k := 0) (by omega) (by omega)) (xs_PLi (k := 0) (by omega)) rfl ?_
    refine xi_iload_n (q := 55) dX6_choose_54 rfl rfl ?_
    refine xi_iald (q := 56) dX6_choose_55 ⟨by omega, hQ.2.2.2.2.2.1 0 (by omega)⟩ (xv_ixN (by omega) (by omega)) rfl ?_
    refine xi_istore_n (q := 57) dX6_choose_56 (Nat.le_of_ble_eq_true rfl) rfl ?_
    refine xi_iload_n (q := 58) dX6_choose_57 rfl rfl ?_
    refine xi_ldc (q := 60) dX6_choose_58 kc_X6_80 rfl ?_
    refine xi_icmp_ne (q := 63) (q2 := 66) dX6_choose_60 (by decide) rfl (fun c_60 => ?_) (fun c_60 => ?_)
    · have hne : ¬ xs_enc (xs_bc (xs_M wo ro) (xs_C dr ro) N N l) = 1000000000 := fun z => c_60 ((hlc 0 (by omega) (by omega) l (Nat.le_refl _)).trans z)
      cases ho : xs_bc (xs_M wo ro) (xs_C dr ro) N N l with
      | none => exact absurd (by rw [ho]; rfl) hne
      | some v =>
        have hv : lc 0 l = nI v := (hlc 0 (by omega) (by omega) l (Nat.le_refl _)).trans (by show xs_enc (xs_bc (xs_M wo ro) (xs_C dr ro) N N l) = _; rw [ho]; rfl)
        rw [hv]
        refine xi_iconst (x := 0) (q := 67) dX6_choose_66 (by decide) rfl ?_
        refine xi_istore (q := 69) dX6_choose_67 (Nat.le_of_ble_eq_true rfl) rfl ?_
        refine xv_weakS (lv' := [(0, .ref 24), (1, .int (nI l)), (2, .int (nI l)), (3, .int (nI v)), (4, .int (nI 0))]) ⟨rfl, rfl, rfl, rfl, rfl, trivial⟩ ?_
        exact L69 v lc hlc ho N 0 l ke hh (by omega) (Nat.le_refl _) hQ (by rw [Nat.sub_zero, ho]; rfl) (by rw [Nat.sub_zero]) hf0
    · have heq : xs_enc (xs_bc (xs_M wo ro) (xs_C dr ro) N N l) = 1000000000 := (hlc 0 (by omega) (by omega) l (Nat.le_refl _)).symm.trans (by first | exact c_60 | exact Decidable.of_not_not c_60)
      have ho : xs_bc (xs_M wo ro) (xs_C dr ro) N N l = none := (xn_enc (fun v hv => by have := hbb N l (by omega) v hv; omega)).mp heq
      refine xi_ldc (q := 65) dX6_choose_63 kc_X6_81 rfl ?_
      refine xi_ret ⟨_, rfl, rfl, dX6_choose_65⟩ (Nat.zero_le _) (Nat.zero_le _) ?_
      exact hp.1 ho hh lc hQ hf0
  have L32 : ∀ (d k : Nat) (hh : xv_H) (lc : Nat → Nat → Int32), k = d ∧ k ≤ N → xs_PL hh (nI N) ks wo dr ro lc ke → (∀ s, k ≤ s → s ≤ N → ∀ t, t ≤ l → lc s t = xs_enc (xs_bc (xs_M wo ro) (xs_C dr ro) N (N - s) t)) → (∀ i, i < 24 ∨ 40 < i → hh i = h i) → xv_V X mX6_choose Post 0 0 32 [(0, .ref 24), (1, .int (nI l)), (2, .int (nI l)), (3, .int (nI k - 1))] [] hh n := by
    intro d
    induction d using Nat.strongRecOn with
    | _ d ih =>
      intro k hh lc hk hQ hlc hf0
      refine xi_iload_n (q := 33) dX6_choose_32 rfl rfl ?_
      refine xi_if_lt (q := 36) (q2 := 48) dX6_choose_33 (by decide) rfl (fun c_33 => ?_) (fun c_33 => ?_)
      · have hk2 : k = 0 := by
          rcases k with _ | j
          · rfl
          · rw [xn_m1, xn_lt, xn_NI (by omega), show (0 : Int32).toInt = 0 from rfl] at c_33
            omega
        subst hk2
        refine xv_weakS (lv' := [(0, .ref 24), (1, .int (nI l)), (2, .int (nI l))]) ⟨rfl, rfl, rfl, trivial⟩ ?_
        exact J48 hh lc hQ (fun s _ hs2 => hlc s (by omega) hs2) hf0
      · obtain ⟨j, rfl⟩ : ∃ j, k = j + 1 := by
          rcases k with _ | j
          · exact absurd (by decide) c_33
          · exact ⟨j, rfl⟩
        rw [xn_m1]
        refine xi_aload_n (q := 37) dX6_choose_36 rfl rfl ?_
        refine xi_iload_n (q := 38) dX6_choose_37 rfl rfl ?_
        refine xi_iload_n (q := 39) dX6_choose_38 rfl rfl ?_
        refine xv_cV2 (q := 42) xm_X6_weigh ln_X6_76 dX6_choose_39 ⟨by omega, hQ.1⟩ rfl ⟨(Nat.le_of_ble_eq_true rfl), (Nat.le_of_ble_eq_true rfl)⟩ (Nat.le_of_ble_eq_true rfl) ⟨rfl, rfl⟩ rfl (Nat.zero_le _) (Nat.zero_le _) ?_
        refine ⟨nI N, ks, wo, dr, ro, lc, ke, j, l, xs_bc (xs_M wo ro) (xs_C dr ro) N (N - (j + 1)), rfl, hQ, h40, by omega, hl, hrv j (by omega), hdc, hlc (j + 1) (by omega) (by omega), fun t => hbb (N - (j + 1)) t (by omega), fun h2 g q1 q2 q3 => ?_⟩
        refine xi_iinc (q := 45) dX6_choose_42 rfl rfl (Nat.le_of_ble_eq_true rfl) rfl ?_
        rw [show nI j + Int32.ofInt (-1) = nI j - 1 from (Int32.sub_eq_add_neg _ _).symm ▸ rfl]
        refine xi_goto (q := 32) dX6_choose_45 (by decide) ?_
        refine xv_weakS (lv' := [(0, .ref 24), (1, .int (nI l)), (2, .int (nI l)), (3, .int (nI j - 1))]) ⟨rfl, rfl, rfl, rfl, trivial⟩ ?_
        exact ih (d - 1) (by omega) j h2 _ (by omega) q1 (fun s hs1 hs2 u hu => by
          by_cases z : s = j
          · show (if s = j then g else lc s) u = _
            rw [if_pos z, q2 u hu, show N - s = N - (j + 1) + 1 by omega]
            show _ = xs_enc (xs_mn (xs_cand (xs_M wo ro (N - (N - (j + 1) + 1))) (xs_C dr ro (N - (N - (j + 1) + 1))) (xs_bc (xs_M wo ro) (xs_C dr ro) N (N - (j + 1))) u) 24)
            rw [show N - (N - (j + 1) + 1) = j by omega]
          · show (if s = j then g else lc s) u = _
            rw [if_neg z]
            exact hlc s (by omega) hs2 u hu) (fun i hi => (q3 i hi).trans (hf0 i hi))
  refine xi_iconst (x := 0) (q := 1) dX6_choose_0 (by decide) rfl ?_
  refine xi_iload_n (q := 2) dX6_choose_1 rfl rfl ?_
  refine xi_sipush (x := 1000) (q := 5) dX6_choose_2 (by decide) rfl ?_
  refine xi_mmin (q := 8) dX6_choose_5 ln_X6_29 (Nat.le_of_ble_eq_true rfl) (Nat.le_of_ble_eq_true rfl) (Nat.zero_le _) (Nat.zero_le _) rfl ?_
  refine xi_mmax (q := 11) dX6_choose_8 ln_X6_35 (Nat.le_of_ble_eq_true rfl) (Nat.le_of_ble_eq_true rfl) (Nat.zero_le _) (Nat.zero_le _) rfl ?_
  rw [show (if 1000 < nI l then 1000 else nI l : Int32) = nI l from if_neg (fun z => by rw [xn_lt, xn_NI (by omega), show (1000 : Int32).toInt = 1000 from rfl] at z; omega), show (if 0 < nI l then nI l else 0 : Int32) = nI l from xn_mx0 (by omega)]
  refine xi_istore_n (q := 12) dX6_choose_11 (Nat.le_of_ble_eq_true rfl) rfl ?_
  refine xi_aload_n (q := 13) dX6_choose_12 rfl rfl ?_
  refine xi_getf (q := 16) dX6_choose_13 fl_X6_23 ⟨by omega, hL.1⟩ rfl rfl ?_
  refine xi_aload_n (q := 17) dX6_choose_16 rfl rfl ?_
  refine xi_getf (q := 20) dX6_choose_17 fl_X6_38 ⟨by omega, hL.1⟩ rfl rfl ?_
  refine xi_aald (q := 21) dX6_choose_20 ⟨by omega, hL.2.2.2.2.1⟩ rfl (xv_ixN (k := N) (by omega) (by omega)) (xs_PLi (k := N) (by omega)) rfl ?_
  refine xi_iconst (x := 0) (q := 22) dX6_choose_21 (by decide) rfl ?_
  refine xv_cS2 (q := 25) xm_J7_fill_53178 ln_X6_70 dX6_choose_22 ⟨(Nat.le_of_ble_eq_true rfl), (Nat.le_of_ble_eq_true rfl)⟩ (Nat.le_of_ble_eq_true rfl) ⟨rfl, rfl⟩ rfl (Nat.zero_le _) (Nat.zero_le _) ?_
  refine ⟨29 + N, 0, 1001, lc N, rfl, by omega, by omega, hL.2.2.2.2.2.1 N (by omega), fun h2 q1 q2 => ?_⟩
  have hQ := xs_PL5 hL (k0 := N) (by omega) q1 q2
  refine xi_aload_n (q := 26) dX6_choose_25 rfl rfl ?_
  refine xi_getf (q := 29) dX6_choose_26 fl_X6_38 ⟨by omega, hQ.1⟩ rfl rfl ?_
  refine xi_iconst (x := 1) (q := 30) dX6_choose_29 (by decide) rfl ?_
  refine xi_isub (q := 31) dX6_choose_30 rfl ?_
  refine xi_istore_n (q := 32) dX6_choose_31 (Nat.le_of_ble_eq_true rfl) rfl ?_
  refine xv_weakS (lv' := [(0, .ref 24), (1, .int (nI l)), (2, .int (nI l)), (3, .int (nI N - 1))]) ⟨rfl, rfl, rfl, rfl, trivial⟩ ?_
  exact L32 N N h2 _ (by omega) hQ (fun s hs1 hs2 u hu => by
    show (if s = N then _ else lc s) u = _
    rw [if_pos (by omega), show N - s = 0 by omega]
    rfl) (fun i hi => q2 i (by omega))
