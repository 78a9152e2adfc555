theorem xs_Gk {h : xv_H} {ga gg gl : Int32} {w : Nat → Nat → Int32} (hG : xs_G h ga gg gl w) {a : Nat} {c : xv_E} (ha : a < 8 ∨ 16 < a) : xs_G (va_up h a c) ga gg gl w := ⟨(va_up_ne _ _ (by omega)).trans hG.1, (va_up_ne _ _ (by omega)).trans hG.2.1, fun k hk => (va_up_ne _ _ (by omega)).trans (hG.2.2 k hk)⟩
theorem xs_Gp {h : xv_H} {ga gg gl : Int32} {w : Nat → Nat → Int32} (hG : xs_G h ga gg gl w) (a g l : Int32) : xs_G (va_up h 8 (.inr (3, [.ref 9, .int a, .int g, .int l]))) a g l w := ⟨va_up_self _ _ _, (va_up_ne _ _ (by omega)).trans hG.2.1, fun k hk => (va_up_ne _ _ (by omega)).trans (hG.2.2 k hk)⟩
def xs_RR (t : Int32 × Int32 × Int32) (ga gg gl : Int32) : Prop := (t.1 = -1000000 ∧ gl = 2147483647) ∨ (0 ≤ t.1.toInt ∧ gl = t.1 ∧ ga = t.2.1 ∧ gg = t.2.2)
theorem xn_RR {U : Int32 → Int32 → Int32} {a g : Int32} {t : Int32 × Int32 × Int32} {ga gg gl r : Int32} (hU : 0 ≤ (U a g).toInt ∧ (U a g).toInt ≤ 144) (hR : xs_RR t ga gg gl) (r1 : r < gl ↔ U a g < gl) (r2 : r < gl → r = U a g) : (r < gl → xs_RR (xs_sst U a g t) a g r) ∧ (¬ r < gl → xs_RR (xs_sst U a g t) ga gg gl) := by
  constructor
  · intro h
    have e := r2 h
    have h1 := r1.mp h
    unfold xs_sst
    rw [if_pos]
    · exact Or.inr ⟨hU.1, e, rfl, rfl⟩
    · rcases hR with ⟨z, -⟩ | ⟨-, z, -⟩
      · exact Or.inl z
      · exact Or.inr (by rw [← z]; exact h1)
  · intro h
    have h1 : ¬ U a g < gl := fun z => h (r1.mpr z)
    rcases hR with ⟨z, z2⟩ | ⟨z0, z, z3⟩
    · rw [z2, xn_lt, show (2147483647 : Int32).toInt = 2147483647 from rfl] at h1
      omega
    · unfold xs_sst
      rw [if_neg]
      · exact Or.inr ⟨z0, z, z3⟩
      · rintro (y | y)
        · rw [y] at z0
          exact absurd z0 (by decide)
        · exact h1 (by rw [z]; exact y)
theorem xn_RRs {U : Int32 → Int32 → Int32} {a : Int32} {j : Nat} {t : Int32 × Int32 × Int32} {ga gg gl r : Int32} (hU : 0 ≤ (U a (nI j - 20)).toInt ∧ (U a (nI j - 20)).toInt ≤ 144) (hR : xs_RR (xs_sin U a j t) ga gg gl) (r1 : r < gl ↔ U a (nI j - 20) < gl) (r2 : r < gl → r = U a (nI j - 20)) : (r < gl → xs_RR (xs_sin U a (j + 1) t) a (nI j - 20) r) ∧ (¬ r < gl → xs_RR (xs_sin U a (j + 1) t) ga gg gl) := xn_RR hU hR r1 r2
theorem xn_sst1 {U : Int32 → Int32 → Int32} {a g : Int32} {t : Int32 × Int32 × Int32} (hU : 0 ≤ (U a g).toInt) : ¬ (xs_sst U a g t).1 = -1000000 := by
  have h0 : ¬ U a g = -1000000 := fun z => by rw [z] at hU; exact absurd hU (by decide)
  unfold xs_sst
  split
  · exact h0
  · rename_i h
    exact fun z => h (Or.inl z)
theorem xn_sou1 {U : Int32 → Int32 → Int32} (hU : ∀ a g, 0 ≤ (U a g).toInt) (i : Nat) : ¬ (xs_sou U (i + 1)).1 = -1000000 := by
  show ¬ (xs_sin U (nI i) 41 (xs_sou U i)).1 = -1000000
  have h : ∀ j, ¬ (xs_sin U (nI i) (j + 1) (xs_sou U i)).1 = -1000000 := fun j => by
    show ¬ (xs_sst U (nI i) (nI j - 20) (xs_sin U (nI i) j (xs_sou U i))).1 = -1000000
    exact xn_sst1 (hU _ _)
  exact h 40
theorem xn_agx {f p : Nat → Int32} {a g : Int32} (h2 : p 2 = a) (ho : ∀ j, j ≠ 2 → j ≠ 3 → p j = f j) : upd p 3 g = xs_ag f a g := by
  funext j
  unfold xs_ag upd
  by_cases h3 : j = 3
  · rw [if_pos h3, if_pos h3]
  · rw [if_neg h3, if_neg h3]
    by_cases hj : j = 2
    · rw [if_pos hj, hj, h2]
    · rw [if_neg hj, ho j hj h3]
theorem xn_hj (j : Nat) (hj : j < 1000) : (nI j - 20).toInt = (j : Int) - 20 := by
  have h20 : (20 : Int32).toInt = 20 := rfl
  have hn := xn_NI (show j < 2147483648 by omega)
  rw [xn_sub (by rw [hn, h20]; omega) (by rw [hn, h20]; omega), hn, h20]
theorem xn_hinc (j : Nat) : nI j - 20 + Int32.ofInt 1 = nI (j + 1) - 20 := by
  rw [← nI_1 j, Int32.sub_eq_add_neg, Int32.sub_eq_add_neg, Int32.add_assoc, Int32.add_assoc, Int32.add_comm (-20)]
  rfl

set_option maxRecDepth 20000 in
set_option maxHeartbeats 2000000 in
/-- seekSetting -/
theorem xm_X3_seekSetting : xv_K yX3_seekSetting mX3_seekSetting (fun as h n Post => ∃ (ga : Int32) (gg : Int32) (gl : Int32) (w : Nat → Nat → Int32) (e : Nat) (f : Nat → Int32) (s : Int32) (t : Int32) (tr : Nat) (gT : Nat → Int32) (sT : Int32) (tT : Int32), as = [.ref 8, .ref e, .ref tr] ∧ (e + 1 < n) ∧ (h e = .inr (0, [.ref (e + 1), .int s, .int t])) ∧ (h (e + 1) = .inl (.int, 11, .inl f)) ∧ (xs_G h ga gg gl w) ∧ (16 < n) ∧ (16 < e) ∧ (tr + 1 < 8) ∧ (h tr = .inr (0, [.ref (tr + 1), .int sT, .int tT])) ∧ (h (tr + 1) = .inl (.int, 11, .inl gT)) ∧ (∀ (h' : xv_H) (w' : Nat → Nat → Int32) (f' : Nat → Int32), xs_G h' (xs_set f s).2.1 (xs_set f s).2.2 (xs_set f s).1 w' → h' tr = .inr (0, [.ref (tr + 1), .int s, .int 1]) → h' (tr + 1) = .inl (.int, 11, .inl f') → (∀ i, i < 8 ∨ 16 < i → i ≠ tr → i ≠ tr + 1 → h' i = h i) → Post none h' n)) := by
  refine xv_entry (by decide +kernel) rfl (fun h => absurd h (by decide)) ?_
  rintro X _ h n Post ⟨ga, gg, gl, w, e, f, s, t, tr, gT, sT, tT, rfl, hn, hE, hN, hG0, h8n, he, htr, hT0, hTn0, hp⟩
  refine ⟨Nat.le_of_ble_eq_true rfl, ?_⟩
  show xv_V X mX3_seekSetting Post 0 0 0 [(0, .ref 8), (1, .ref e), (2, .ref tr)] [] h n
  have L17 : ∀ (d i : Nat) (hh : xv_H) (ga gg gl : Int32) (w : Nat → Nat → Int32) (fT : Nat → Int32), i + d = 12 → xs_G hh ga gg gl w → hh tr = .inr (0, [.ref (tr + 1), .int s, .int 1]) → hh (tr + 1) = .inl (.int, 11, .inl fT) → (∀ x, x ≠ 2 → x ≠ 3 → fT x = f x) → xs_RR (xs_sou (fun a g => xs_unl (xs_ag f a g) s) i) ga gg gl → (∀ i, i < 8 ∨ 16 < i → i ≠ tr → i ≠ tr + 1 → hh i = h i) → xv_V X mX3_seekSetting Post 0 0 17 [(0, .ref 8), (1, .ref e), (2, .ref tr), (3, .int (nI i))] [] hh n := by
    intro d
    induction d using Nat.strongRecOn with
    | _ d ih =>
      intro i hh ga gg gl w fT hi hG hT hTn hfo hR hfr
      refine xi_iload_n (q := 18) dX3_seekSetting_17 rfl rfl ?_
      refine xi_gets (j := 1) (q := 21) dX3_seekSetting_18 rfl gs_X3_48 rfl ?_
      refine xi_iconst (x := 2) (q := 22) dX3_seekSetting_21 (by decide) rfl ?_
      refine xi_roald (w := (11, xs_T1)) (q := 23) dX3_seekSetting_22 rfl ⟨xv_ink (by decide), (by decide : (2 : Int32).toNatClampNeg = 2)⟩ (by decide : xs_T1 2 = 11) rfl ?_
      refine xi_icmp_gt (q := 26) (q2 := 112) dX3_seekSetting_23 (by decide) rfl (fun c_23 => ?_) (fun c_23 => ?_)
      · have hi12 : i = 12 := by rw [xn_lt, xn_NI (by omega), show (11 : Int32).toInt = 11 from rfl] at c_23; omega
        subst hi12
        refine xi_vret ⟨rfl, dX3_seekSetting_112⟩ (Nat.zero_le _) (Nat.zero_le _) ?_
        rcases hR with ⟨z, -⟩ | ⟨z0, z1, z2, z3⟩
        · exact absurd z (xn_sou1 (fun a g => (xn_unlb _ _).1) 11)
        · exact hp hh w fT (by have e1 : xs_set f s = xs_sou (fun a g => xs_unl (xs_ag f a g) s) 12 := rfl
                               rw [e1, ← z1, ← z2, ← z3]; exact hG) hT hTn hfr
      · have hi12 : i < 12 := by rw [xn_lt, xn_NI (by omega), show (11 : Int32).toInt = 11 from rfl] at c_23; omega
        have L45 : ∀ (d2 j : Nat) (hh : xv_H) (ga gg gl : Int32) (w : Nat → Nat → Int32) (fT : Nat → Int32), j + d2 = 41 → xs_G hh ga gg gl w → hh tr = .inr (0, [.ref (tr + 1), .int s, .int 1]) → hh (tr + 1) = .inl (.int, 11, .inl fT) → fT 2 = nI i → (∀ x, x ≠ 2 → x ≠ 3 → fT x = f x) → (∀ k, 1 ≤ k → k < 7 → w k = fun x => xs_swi (xs_ag f (nI i) 0) s (nI k) (nI x)) → xs_RR (xs_sin (fun a g => xs_unl (xs_ag f a g) s) (nI i) j (xs_sou (fun a g => xs_unl (xs_ag f a g) s) i)) ga gg gl → (∀ i, i < 8 ∨ 16 < i → i ≠ tr → i ≠ tr + 1 → hh i = h i) → xv_V X mX3_seekSetting Post 0 0 45 [(0, .ref 8), (1, .ref e), (2, .ref tr), (3, .int (nI i)), (4, .int (nI j - 20))] [] hh n := by
          clear hG hT hTn hfo hR hfr
          intro d2
          induction d2 using Nat.strongRecOn with
          | _ d2 ih2 =>
            intro j hh ga gg gl w fT hj hG hT hTn hf2 hfo hw hR hfr
            refine xi_iload (q := 47) dX3_seekSetting_45 rfl rfl ?_
            refine xi_gets (j := 1) (q := 50) dX3_seekSetting_47 rfl gs_X3_48 rfl ?_
            refine xi_iconst (x := 3) (q := 51) dX3_seekSetting_50 (by decide) rfl ?_
            refine xi_roald (w := (11, xs_T1)) (q := 52) dX3_seekSetting_51 rfl ⟨xv_ink (by decide), (by decide : (3 : Int32).toNatClampNeg = 3)⟩ (by decide : xs_T1 3 = 20) rfl ?_
            refine xi_icmp_gt (q := 55) (q2 := 106) dX3_seekSetting_52 (by decide) rfl (fun c_52 => ?_) (fun c_52 => ?_)
            · have hj41 : j = 41 := by rw [xn_lt, xn_hj j (by omega), show (20 : Int32).toInt = 20 from rfl] at c_52; omega
              subst hj41
              refine xi_iinc (y := nI (i + 1)) (q := 109) dX3_seekSetting_106 rfl (xn_inc i) (Nat.le_of_ble_eq_true rfl) rfl ?_
              refine xi_goto (q := 17) dX3_seekSetting_109 (by decide) ?_
              refine xv_weakS (lv' := [(0, .ref 8), (1, .ref e), (2, .ref tr), (3, .int (nI (i + 1)))]) ⟨rfl, rfl, rfl, rfl, trivial⟩ ?_
              exact ih (d - 1) (by omega) (i + 1) hh ga gg gl w fT (by omega) hG hT hTn hfo hR hfr
            · have hj41 : j < 41 := by rw [xn_lt, xn_hj j (by omega), show (20 : Int32).toInt = 20 from rfl] at c_52; omega
              refine xi_aload_n (q := 56) dX3_seekSetting_55 rfl rfl ?_
              refine xi_getf (q := 59) dX3_seekSetting_56 fl_X3_51 ⟨by omega, hT⟩ rfl rfl ?_
              refine xi_iconst (x := 3) (q := 60) dX3_seekSetting_59 (by decide) rfl ?_
              refine xi_iload (q := 62) dX3_seekSetting_60 rfl rfl ?_
              refine xi_iast (q := 63) dX3_seekSetting_62 ⟨by omega, hTn⟩ ⟨xv_ink (by decide), (by decide : (3 : Int32).toNatClampNeg = 3)⟩ rfl ?_
              refine xi_aload_n (q := 64) dX3_seekSetting_63 rfl rfl ?_
              refine xi_aload_n (q := 65) dX3_seekSetting_64 rfl rfl ?_
              refine xi_aload_n (q := 66) dX3_seekSetting_65 rfl rfl ?_
              refine xi_getf (q := 69) dX3_seekSetting_66 fl_X3_40 (xv_keep (by omega) ⟨by omega, hG.1⟩) rfl rfl ?_
              refine xv_cV2 (q := 72) xm_X3_unlikeBelow ln_X3_31 dX3_seekSetting_69 (xv_keep (by omega) ⟨by omega, hG.1⟩) rfl ⟨(Nat.le_of_ble_eq_true rfl), (Nat.le_of_ble_eq_true rfl)⟩ (Nat.le_of_ble_eq_true rfl) ⟨rfl, rfl⟩ rfl (Nat.zero_le _) (Nat.zero_le _) ?_
              refine ⟨ga, gg, gl, w, tr, xs_ag f (nI i) (nI j - 20), s, 1, gl, rfl, by omega, (va_up_ne _ _ (by omega)).trans hT, (va_up_self _ _ _).trans (by rw [xn_agx hf2 hfo]), xs_Gk hG (by omega), h8n, by omega, (by show 0 ≤ (nI i).toInt ∧ (nI i).toInt ≤ 11; rw [xn_NI (by omega)]; omega), fun k k1 k2 => (hw k k1 k2).trans (funext fun x => xn_swic rfl rfl), fun r r1 r2 => ?_⟩
              refine xi_istore (q := 74) dX3_seekSetting_72 (Nat.le_of_ble_eq_true rfl) rfl ?_
              refine xi_iload (q := 76) dX3_seekSetting_74 rfl rfl ?_
              refine xi_aload_n (q := 77) dX3_seekSetting_76 rfl rfl ?_
              refine xi_getf (q := 80) dX3_seekSetting_77 fl_X3_40 (xv_keep (by omega) ⟨by omega, hG.1⟩) rfl rfl ?_
              refine xi_icmp_ge (q := 83) (q2 := 100) dX3_seekSetting_80 (by decide) rfl (fun c_80 => ?_) (fun c_80 => ?_)
              · refine xi_iinc (y := nI (j + 1) - 20) (q := 103) dX3_seekSetting_100 rfl (xn_hinc j) (Nat.le_of_ble_eq_true rfl) rfl ?_
                refine xi_goto (q := 45) dX3_seekSetting_103 (by decide) ?_
                refine xv_weakS (lv' := [(0, .ref 8), (1, .ref e), (2, .ref tr), (3, .int (nI i)), (4, .int (nI (j + 1) - 20))]) ⟨rfl, rfl, rfl, rfl, rfl, trivial⟩ ?_
                exact ih2 (d2 - 1) (by omega) (j + 1) _ ga gg gl w _ (by omega) (xs_Gk hG (by omega)) ((va_up_ne _ _ (by omega)).trans hT) (va_up_self _ _ _) (by rw [pk_un (by omega)]; exact hf2) (fun x x2 x3 => (pk_un x3).trans (hfo x x2 x3)) hw ((xn_RRs (U := fun a g => xs_unl (xs_ag f a g) s) (xn_unlb _ _) hR r1 r2).2 (fun z => by rw [xn_lt] at z; rw [xn_le] at c_80; omega)) (fun x y1 y2 y3 => (va_up_ne _ _ (by omega)).trans (hfr x y1 y2 y3))
              · refine xi_aload_n (q := 84) dX3_seekSetting_83 rfl rfl ?_
                refine xi_iload_n (q := 85) dX3_seekSetting_84 rfl rfl ?_
                refine xi_putf (q := 88) dX3_seekSetting_85 fl_X3_54 (xv_keep (by omega) ⟨by omega, hG.1⟩) (Or.inl rfl) (fun _ => rfl) (fun _ => rfl) (Nat.le_of_ble_eq_true rfl) rfl ?_
                refine xi_aload_n (q := 89) dX3_seekSetting_88 rfl rfl ?_
                refine xi_iload (q := 91) dX3_seekSetting_89 rfl rfl ?_
                refine xi_putf (q := 94) dX3_seekSetting_91 fl_X3_57 (xv_self (by omega)) (Or.inl rfl) (fun _ => rfl) (fun _ => rfl) (Nat.le_of_ble_eq_true rfl) rfl ?_
                refine xi_aload_n (q := 95) dX3_seekSetting_94 rfl rfl ?_
                refine xi_iload (q := 97) dX3_seekSetting_95 rfl rfl ?_
                refine xi_putf (q := 100) dX3_seekSetting_97 fl_X3_40 (xv_self (by omega)) (Or.inl rfl) (fun _ => rfl) (fun _ => rfl) (Nat.le_of_ble_eq_true rfl) rfl ?_
                refine xi_iinc (y := nI (j + 1) - 20) (q := 103) dX3_seekSetting_100 rfl (xn_hinc j) (Nat.le_of_ble_eq_true rfl) rfl ?_
                refine xi_goto (q := 45) dX3_seekSetting_103 (by decide) ?_
                refine xv_weakS (lv' := [(0, .ref 8), (1, .ref e), (2, .ref tr), (3, .int (nI i)), (4, .int (nI (j + 1) - 20))]) ⟨rfl, rfl, rfl, rfl, rfl, trivial⟩ ?_
                exact ih2 (d2 - 1) (by omega) (j + 1) _ (nI i) (nI j - 20) r w _ (by omega) (by rw [bx_uu, bx_uu]; exact xs_Gp (xs_Gk hG (by omega)) (nI i) (nI j - 20) r) (by rw [bx_uu, bx_uu, va_up_ne _ _ (by omega), va_up_ne _ _ (by omega)]; exact hT) (by rw [bx_uu, bx_uu, va_up_ne _ _ (by omega)]; exact va_up_self _ _ _) (by rw [pk_un (by omega)]; exact hf2) (fun x x2 x3 => (pk_un x3).trans (hfo x x2 x3)) hw ((xn_RRs (U := fun a g => xs_unl (xs_ag f a g) s) (xn_unlb _ _) hR r1 r2).1 (by rw [xn_lt]; rw [xn_le] at c_80; omega)) (fun x y1 y2 y3 => by rw [bx_uu, bx_uu, va_up_ne _ _ (by omega), va_up_ne _ _ (by omega)]; exact hfr x y1 y2 y3)
        
        refine xi_aload_n (q := 27) dX3_seekSetting_26 rfl rfl ?_
        refine xi_getf (q := 30) dX3_seekSetting_27 fl_X3_51 ⟨by omega, hT⟩ rfl rfl ?_
        refine xi_iconst (x := 2) (q := 31) dX3_seekSetting_30 (by decide) rfl ?_
        refine xi_iload_n (q := 32) dX3_seekSetting_31 rfl rfl ?_
        refine xi_iast (q := 33) dX3_seekSetting_32 ⟨by omega, hTn⟩ ⟨xv_ink (by decide), (by decide : (2 : Int32).toNatClampNeg = 2)⟩ rfl ?_
        refine xi_aload_n (q := 34) dX3_seekSetting_33 rfl rfl ?_
        refine xi_aload_n (q := 35) dX3_seekSetting_34 rfl rfl ?_
        refine xv_cV1 (q := 38) xm_X3_fillSwings ln_X3_24 dX3_seekSetting_35 (xv_keep (by omega) ⟨by omega, hG.1⟩) rfl ⟨(Nat.le_of_ble_eq_true rfl), (Nat.le_of_ble_eq_true rfl)⟩ (Nat.le_of_ble_eq_true rfl) ⟨rfl, rfl⟩ rfl (Nat.zero_le _) (Nat.zero_le _) ?_
        refine ⟨ga, gg, gl, w, tr, _, s, 1, rfl, by omega, (va_up_ne _ _ (by omega)).trans hT, va_up_self _ _ _, xs_Gk hG (by omega), h8n, by omega, fun h2 hG2 q2 => ?_⟩
        refine xi_gets (j := 0) (q := 41) dX3_seekSetting_38 rfl gs_X3_44 rfl ?_
        refine xi_iconst (x := 3) (q := 42) dX3_seekSetting_41 (by decide) rfl ?_
        refine xi_roald (w := (11, xs_T0)) (q := 43) dX3_seekSetting_42 rfl ⟨xv_ink (by decide), (by decide : (3 : Int32).toNatClampNeg = 3)⟩ (by decide : xs_T0 3 = -20) rfl ?_
        refine xi_istore (q := 45) dX3_seekSetting_43 (Nat.le_of_ble_eq_true rfl) rfl ?_
        refine xv_weakS (lv' := [(0, .ref 8), (1, .ref e), (2, .ref tr), (3, .int (nI i)), (4, .int (nI 0 - 20))]) ⟨rfl, rfl, rfl, rfl, rfl, trivial⟩ ?_
        exact L45 41 0 h2 ga gg gl _ _ (by omega) hG2 ((q2 tr (by omega)).trans ((va_up_ne _ _ (by omega)).trans hT)) ((q2 (tr + 1) (by omega)).trans (va_up_self _ _ _)) pk_us (fun x x2 x3 => (pk_un x2).trans (hfo x x2 x3)) (fun k k1 k2 => (if_neg (by omega)).trans (funext fun x => xn_swic (by rw [pk_un (by omega), hfo 1 (by omega) (by omega)]; rfl) (by rw [pk_us]; rfl))) hR (fun x y1 y2 y3 => (q2 x y1).trans ((va_up_ne _ _ (by omega)).trans (hfr x y1 y2 y3)))
  refine xi_aload_n (q := 1) dX3_seekSetting_0 rfl rfl ?_
  refine xi_aload_n (q := 2) dX3_seekSetting_1 rfl rfl ?_
  refine xv_cV1 (q := 5) xm_X0_resemble ln_X3_35 dX3_seekSetting_2 ⟨by omega, hT0⟩ rfl ⟨(Nat.le_of_ble_eq_true rfl), (Nat.le_of_ble_eq_true rfl)⟩ (Nat.le_of_ble_eq_true rfl) ⟨rfl, rfl⟩ rfl (Nat.zero_le _) (Nat.zero_le _) ?_
  refine ⟨tr, gT, sT, tT, e, f, s, t, rfl, by omega, hT0, hTn0, hn, hE, hN, by omega, fun h2 a1 a2 a3 => ?_⟩
  have hG2 : xs_G h2 ga gg gl w := ⟨(a3 8 (by omega) (by omega)).trans hG0.1, (a3 9 (by omega) (by omega)).trans hG0.2.1, fun k hk => (a3 _ (by omega) (by omega)).trans (hG0.2.2 k hk)⟩
  refine xi_aload_n (q := 6) dX3_seekSetting_5 rfl rfl ?_
  refine xi_ldc (q := 8) dX3_seekSetting_6 kc_X3_30 rfl ?_
  refine xi_putf (q := 11) dX3_seekSetting_8 fl_X3_40 ⟨by omega, hG2.1⟩ (Or.inl rfl) (fun _ => rfl) (fun _ => rfl) (Nat.le_of_ble_eq_true rfl) rfl ?_
  refine xi_gets (j := 0) (q := 14) dX3_seekSetting_11 rfl gs_X3_44 rfl ?_
  refine xi_iconst (x := 2) (q := 15) dX3_seekSetting_14 (by decide) rfl ?_
  refine xi_roald (w := (11, xs_T0)) (q := 16) dX3_seekSetting_15 rfl ⟨xv_ink (by decide), (by decide : (2 : Int32).toNatClampNeg = 2)⟩ (by decide : xs_T0 2 = 0) rfl ?_
  refine xi_istore_n (q := 17) dX3_seekSetting_16 (Nat.le_of_ble_eq_true rfl) rfl ?_
  refine xv_weakS (lv' := [(0, .ref 8), (1, .ref e), (2, .ref tr), (3, .int (nI 0))]) ⟨rfl, rfl, rfl, rfl, trivial⟩ ?_
  exact L17 12 0 _ ga gg 2147483647 w f (by omega) (xs_Gp hG2 ga gg 2147483647) ((va_up_ne _ _ (by omega)).trans a1) ((va_up_ne _ _ (by omega)).trans a2) (fun _ _ _ => rfl) (Or.inl ⟨rfl, rfl⟩) (fun x y1 y2 y3 => (va_up_ne _ _ (by omega)).trans (a3 x y2 y3))
