/-- the cells that the class makes once -/
def xs_fix (h : xv_H) : Prop := h 4 = .inr (0, [.ref 5, .int 0, .int 0]) ∧ h 5 = .inl (.int, 11, .inl xs_z0) ∧ h 6 = .inr (2, [.ref 7, .int 0, .int 0, .int 0]) ∧ h 7 = .inl (.int, 48, .inl xs_z0) ∧ h 8 = .inr (3, [.ref 9, .int 0, .int 0, .int 0]) ∧ h 9 = .inl (.array .int, 7, .inr (.inr (.inr (.inr (fun k => if k < 7 then some (10 + k) else none))))) ∧ h 17 = .inr (5, [.ref 18, .ref 19, .ref 20, .ref 21, .long 0, .int 0, .int 0]) ∧ h 18 = .inl (.int, 48, .inl xs_z0) ∧ h 19 = .inl (.int, 48, .inl xs_z0) ∧ h 20 = .inl (.int, 48, .inl xs_z0) ∧ h 21 = .inl (.int, 48, .inl xs_z0) ∧ h 22 = .inr (4, [.ref 23, .int 0, .int 0]) ∧ h 23 = .inl (.int, 13, .inl xs_z0) ∧ h 24 = .inr (6, [.ref 25, .ref 26, .ref 27, .ref 28, .ref 40, .int 0, .int 0]) ∧ h 25 = .inl (.int, 24, .inl xs_z0) ∧ h 26 = .inl (.int, 24, .inl xs_z0) ∧ h 27 = .inl (.int, 30, .inl xs_z0) ∧ h 28 = .inl (.array .int, 11, .inr (.inr (.inr (.inr (fun k => if k < 11 then some (29 + k) else none))))) ∧ h 40 = .inl (.int, 40, .inl xs_z0) ∧ h 41 = .inr (1, [.int 0, .int 0, .int 0, .int 0, .int 0, .int 0]) ∧ h 42 = .inl (.int, 16, .inl xs_z0) ∧ (∀ k, k < 7 → h (10 + k) = .inl (.int, 48, .inl xs_z0)) ∧ (∀ k, k < 11 → h (29 + k) = .inl (.int, 1001, .inl xs_z0))
theorem xs_fixk {h h' : xv_H} (H : xs_fix h) (hf : ∀ i, 4 ≤ i → i ≤ 42 → h' i = h i) : xs_fix h' :=
  ⟨(hf _ (by omega) (by omega)).trans H.1, (hf _ (by omega) (by omega)).trans H.2.1, (hf _ (by omega) (by omega)).trans H.2.2.1, (hf _ (by omega) (by omega)).trans H.2.2.2.1, (hf _ (by omega) (by omega)).trans H.2.2.2.2.1, (hf _ (by omega) (by omega)).trans H.2.2.2.2.2.1, (hf _ (by omega) (by omega)).trans H.2.2.2.2.2.2.1, (hf _ (by omega) (by omega)).trans H.2.2.2.2.2.2.2.1, (hf _ (by omega) (by omega)).trans H.2.2.2.2.2.2.2.2.1, (hf _ (by omega) (by omega)).trans H.2.2.2.2.2.2.2.2.2.1, (hf _ (by omega) (by omega)).trans H.2.2.2.2.2.2.2.2.2.2.1, (hf _ (by omega) (by omega)).trans H.2.2.2.2.2.2.2.2.2.2.2.1, (hf _ (by omega) (by omega)).trans H.2.2.2.2.2.2.2.2.2.2.2.2.1, (hf _ (by omega) (by omega)).trans H.2.2.2.2.2.2.2.2.2.2.2.2.2.1, (hf _ (by omega) (by omega)).trans H.2.2.2.2.2.2.2.2.2.2.2.2.2.2.1, (hf _ (by omega) (by omega)).trans H.2.2.2.2.2.2.2.2.2.2.2.2.2.2.2.1, (hf _ (by omega) (by omega)).trans H.2.2.2.2.2.2.2.2.2.2.2.2.2.2.2.2.1, (hf _ (by omega) (by omega)).trans H.2.2.2.2.2.2.2.2.2.2.2.2.2.2.2.2.2.1, (hf _ (by omega) (by omega)).trans H.2.2.2.2.2.2.2.2.2.2.2.2.2.2.2.2.2.2.1, (hf _ (by omega) (by omega)).trans H.2.2.2.2.2.2.2.2.2.2.2.2.2.2.2.2.2.2.2.1, (hf _ (by omega) (by omega)).trans H.2.2.2.2.2.2.2.2.2.2.2.2.2.2.2.2.2.2.2.2.1, fun k hk => (hf _ (by omega) (by omega)).trans (H.2.2.2.2.2.2.2.2.2.2.2.2.2.2.2.2.2.2.2.2.2.1 k hk), fun k hk => (hf _ (by omega) (by omega)).trans (H.2.2.2.2.2.2.2.2.2.2.2.2.2.2.2.2.2.2.2.2.2.2 k hk)⟩
theorem xs_Sfix {h : xv_H} (H : xs_fix h) (e0 : h 0 = xs_rt 0 0) (e1 : h 1 = xs_as) (e2 : h 2 = xs_ae) (e3 : h 3 = xs_ac) (b : ∀ k, k < 8 → h (43 + 2 * k) = xs_cs k 0 0 0 ∧ h (43 + 2 * k + 1) = xs_ia 60 xs_z0) (c : ∀ k, k < 6 → h (59 + 2 * k) = xs_ce k 0 0 ∧ h (59 + 2 * k + 1) = xs_ia 11 xs_z0) (d : ∀ k, k < 6 → h (71 + 2 * k) = xs_cc k 0 0 0 ∧ h (71 + 2 * k + 1) = xs_ia 48 xs_z0) : xs_S h xs_σ0 := by
  obtain ⟨x4, x5, x6, x7, x8, x9, x17, x18, x19, x20, x21, x22, x23, x24, x25, x26, x27, x28, x40, x41, x42, r1, r2⟩ := H
  exact ⟨⟨e0, e1, e2, e3⟩, b, c, d, ⟨x41, x42⟩, ⟨_, _, _, x4, x5⟩, ⟨_, _, _, _, x6, x7⟩, ⟨0, 0, 0, fun _ => xs_z0, x8, x9, r1⟩, ⟨0, 0, 0, _, _, _, _, x17, x18, x19, x20, x21⟩, ⟨_, _, _, x22, x23⟩, ⟨0, _, _, _, fun _ => xs_z0, x24, x25, x26, x27, x28, r2, x40⟩⟩
set_option maxRecDepth 20000 in
set_option maxHeartbeats 2000000 in
/-- <init> -/
theorem xm_X8_init : xv_K yX8_init mX8_init (fun as h n Post => as = [.ref 0] ∧ (n = 1) ∧ (h 0 = .inr (8, [.null, .null, .null, .null, .null, .null, .null, .null, .null, .null, .null, .int 0, .int 0])) ∧ (∀ h' : xv_H, xs_S h' xs_σ0 → Post none h' 83)) := by
  refine xv_entry (by decide +kernel) rfl (fun _ => rfl) ?_
  rintro X _ h n Post ⟨rfl, hn1, h0, hp⟩
  refine ⟨Nat.le_of_ble_eq_true rfl, ?_⟩
  show xv_V X mX8_init Post 0 0 0 [(0, .ref 0)] [] h n
  subst hn1
  have L178 : ∀ (d k : Nat) (hh : xv_H), k + d = 6 → hh 0 = xs_rt 0 0 ∧ hh 3 = .inl (.object "ValveShop$FoundCard", 6, .inr (.inr (.inr (.inr ((fun j => if j < k then some (71 + 2 * j) else none)))))) ∧ (∀ j, j < k → hh (71 + 2 * j) = xs_cc j 0 0 0 ∧ hh (71 + 2 * j + 1) = xs_ia 48 xs_z0) ∧ xs_fix hh ∧ hh 1 = xs_as ∧ (∀ j, j < 8 → hh (43 + 2 * j) = xs_cs j 0 0 0 ∧ hh (43 + 2 * j + 1) = xs_ia 60 xs_z0) ∧ hh 2 = xs_ae ∧ (∀ j, j < 6 → hh (59 + 2 * j) = xs_ce j 0 0 ∧ hh (59 + 2 * j + 1) = xs_ia 11 xs_z0) → xv_V X mX8_init Post (70 + 2 * k) (12413 + 52 * k) 178 [(0, .ref 0), (1, .int (nI k))] [] hh (71 + 2 * k) := by
    intro d
    induction d using Nat.strongRecOn with
    | _ d ih =>
      intro k hh hkd hI
      obtain ⟨e0, eA, eF, eX, y1, z1, y2, z2⟩ := hI
      refine xi_iload_n (q := 179) dX8_init_178 rfl rfl ?_
      refine xi_aload_n (q := 180) dX8_init_179 rfl rfl ?_
      refine xi_getf (q := 183) dX8_init_180 fl_X8_23 ⟨by omega, e0⟩ rfl rfl ?_
      refine xi_alen (v := nI 6) (q := 184) dX8_init_183 ⟨by omega, eA⟩ rfl rfl ?_
      refine xi_icmp_ge (q := 187) (q2 := 206) dX8_init_184 (by decide) rfl (fun c_184 => ?_) (fun c_184 => ?_)
      · have hk2 : k = 6 := by have z : 6 ≤ k := xn_leN c_184 (by omega) (by omega); omega
        subst hk2
        refine xi_vret ⟨rfl, dX8_init_206⟩ (Nat.le_of_ble_eq_true rfl) (Nat.le_of_ble_eq_true rfl) ?_
        exact hp _ (xs_Sfix eX e0 y1 y2 eA z1 z2 eF)
      · have hk2 : k < 6 := xn_nleN c_184 (by omega) (by omega)
        refine xi_aload_n (q := 188) dX8_init_187 rfl rfl ?_
        refine xi_getf (q := 191) dX8_init_188 fl_X8_23 ⟨by omega, e0⟩ rfl rfl ?_
        refine xi_iload_n (q := 192) dX8_init_191 rfl rfl ?_
        refine xi_new (ci := 2) (fs := [.null, .int 0, .int 0, .int 0]) (q := 195) dX8_init_192 rfl cw_X2 tyX2_ok nw_X8_21 (by decide) (by decide) (by omega) (show 70 + 2 * k + 1 ≤ 82 by omega) (show 12413 + 52 * k + 4 ≤ 12725 by omega) rfl ?_
        refine xi_dup (q := 196) dX8_init_195 rfl rfl ?_
        refine xv_cI (q := 199) xm_X2_init ln_X8_32 dX8_init_196 ⟨(Nat.le_of_ble_eq_true rfl), (Nat.le_of_ble_eq_true rfl)⟩ (Nat.le_of_ble_eq_true rfl) (show 70 + 2 * k + 1 + 1 ≤ 82 by omega) (show 12413 + 52 * k + 4 + 48 ≤ 12725 by omega) rfl ?_
        refine ⟨71 + 2 * k, rfl, by omega, va_up_self _ _ _, by omega, fun h9 a9 b9 f9 => ?_⟩
        show xv_V X mX8_init Post (70 + 2 * k + 1 + 1) (12413 + 52 * k + 52) 199 _ _ h9 (71 + 2 * k + 1 + 1)
        refine xi_aast (q := 200) dX8_init_199 rfl ⟨by omega, (f9 3 (by omega) (by omega)).trans ((va_up_ne _ _ (by omega)).trans eA)⟩ ⟨by omega, a9⟩ (xv_ixN (by omega) (by omega)) rfl ?_
        refine xi_iinc (y := nI (k + 1)) (q := 203) dX8_init_200 rfl (xn_inc k) (Nat.le_of_ble_eq_true rfl) rfl ?_
        refine xi_goto (q := 178) dX8_init_203 (by decide) ?_
        obtain ⟨hh2, eh⟩ : ∃ g, g = va_up h9 3 (.inl (.object "ValveShop$FoundCard", 6, .inr (.inr (.inr (.inr (va_up (fun j => if j < k then some (71 + 2 * j) else none) k (some (71 + 2 * k)))))))) := ⟨_, rfl⟩
        have hF : ∀ i, i ≠ 3 → i ≠ 71 + 2 * k → i ≠ 71 + 2 * k + 1 → hh2 i = hh i := fun i i1 i2 i3 => by rw [eh]; exact (va_up_ne _ _ i1).trans ((f9 i i2 i3).trans (va_up_ne _ _ i2))
        have eV : .inl (.object "ValveShop$FoundCard", 6, .inr (.inr (.inr (.inr (va_up (fun j => if j < k then some (71 + 2 * j) else none) k (some (71 + 2 * k))))))) = (.inl (.object "ValveShop$FoundCard", 6, .inr (.inr (.inr (.inr ((fun j => if j < (k + 1) then some (71 + 2 * j) else none)))))) : xv_E) := by
          have e : va_up (fun j => if j < k then some (71 + 2 * j) else none) k (some (71 + 2 * k)) = (fun j => if j < (k + 1) then some (71 + 2 * j) else none) := by
            funext j
            by_cases z : j = k
            · rw [z, va_up_self, if_pos (by omega)]
            · rw [va_up_ne _ _ z]
              by_cases y : j < k
              · rw [if_pos y, if_pos (by omega)]
              · rw [if_neg y, if_neg (by omega)]
          rw [e]
        refine xv_weakS (lv' := [(0, .ref 0), (1, .int (nI (k + 1)))]) ⟨rfl, rfl, trivial⟩ ?_
        have Q := ih (d - 1) (by omega) (k + 1) hh2 (by omega) (by rw [eh] at hF ⊢; exact ⟨(hF 0 (by omega) (by omega) (by omega)).trans e0, (va_up_self _ _ _).trans eV, fun j hj => by
              by_cases z : j = k
              · rw [z]; exact ⟨(va_up_ne _ _ (by omega)).trans a9, (va_up_ne _ _ (by omega)).trans b9⟩
              · exact ⟨(hF _ (by omega) (by omega) (by omega)).trans (eF j (by omega)).1, (hF _ (by omega) (by omega) (by omega)).trans (eF j (by omega)).2⟩, xs_fixk eX (fun i i1 i2 => hF i (by omega) (by omega) (by omega)), (hF 1 (by omega) (by omega) (by omega)).trans y1, fun j hj => ⟨(hF _ (by omega) (by omega) (by omega)).trans (z1 j hj).1, (hF _ (by omega) (by omega) (by omega)).trans (z1 j hj).2⟩, (hF 2 (by omega) (by omega) (by omega)).trans y2, fun j hj => ⟨(hF _ (by omega) (by omega) (by omega)).trans (z2 j hj).1, (hF _ (by omega) (by omega) (by omega)).trans (z2 j hj).2⟩⟩)
        rw [show 70 + 2 * (k + 1) = 70 + 2 * k + 1 + 1 by omega, show 12413 + 52 * (k + 1) = 12413 + 52 * k + 52 by omega, show 71 + 2 * (k + 1) = 71 + 2 * k + 1 + 1 by omega, eh] at Q
        exact Q
  have L148 : ∀ (d k : Nat) (hh : xv_H), k + d = 6 → hh 0 = xs_rt 0 0 ∧ hh 2 = .inl (.object "ValveShop$Engine", 6, .inr (.inr (.inr (.inr ((fun j => if j < k then some (59 + 2 * j) else none)))))) ∧ (∀ j, j < k → hh (59 + 2 * j) = xs_ce j 0 0 ∧ hh (59 + 2 * j + 1) = xs_ia 11 xs_z0) ∧ xs_fix hh ∧ hh 1 = xs_as ∧ (∀ j, j < 8 → hh (43 + 2 * j) = xs_cs j 0 0 0 ∧ hh (43 + 2 * j + 1) = xs_ia 60 xs_z0) ∧ hh 3 = .inl (.object "ValveShop$FoundCard", 6, .inr (.inr (.inr (.inr (fun _ => none))))) → xv_V X mX8_init Post (58 + 2 * k) (12329 + 14 * k) 148 [(0, .ref 0), (1, .int (nI k))] [] hh (59 + 2 * k) := by
    intro d
    induction d using Nat.strongRecOn with
    | _ d ih =>
      intro k hh hkd hI
      obtain ⟨e0, eA, eF, eX, y1, z1, y3⟩ := hI
      refine xi_iload_n (q := 149) dX8_init_148 rfl rfl ?_
      refine xi_aload_n (q := 150) dX8_init_149 rfl rfl ?_
      refine xi_getf (q := 153) dX8_init_150 fl_X8_17 ⟨by omega, e0⟩ rfl rfl ?_
      refine xi_alen (v := nI 6) (q := 154) dX8_init_153 ⟨by omega, eA⟩ rfl rfl ?_
      refine xi_icmp_ge (q := 157) (q2 := 176) dX8_init_154 (by decide) rfl (fun c_154 => ?_) (fun c_154 => ?_)
      · have hk2 : k = 6 := by have z : 6 ≤ k := xn_leN c_154 (by omega) (by omega); omega
        subst hk2
        have eN : (.inl (.object "ValveShop$FoundCard", 6, .inr (.inr (.inr (.inr (fun _ => none))))) : xv_E) = .inl (.object "ValveShop$FoundCard", 6, .inr (.inr (.inr (.inr ((fun j => if j < 0 then some (71 + 2 * j) else none)))))) := by
          rw [show (fun j => if j < 0 then some (71 + 2 * j) else none) = (fun _ => none : Nat → Option Nat) from funext fun j => if_neg (by omega)]
        refine xi_iconst (x := 0) (q := 177) dX8_init_176 (by decide) rfl ?_
        refine xi_istore_n (q := 178) dX8_init_177 (Nat.le_of_ble_eq_true rfl) rfl ?_
        refine xv_weakS (lv' := [(0, .ref 0), (1, .int (nI 0))]) ⟨rfl, rfl, trivial⟩ ?_
        exact L178 6 0 hh (by omega) ⟨e0, y3.trans eN, (fun j hj => absurd hj (by omega)), eX, y1, z1, eA, eF⟩
      · have hk2 : k < 6 := xn_nleN c_154 (by omega) (by omega)
        refine xi_aload_n (q := 158) dX8_init_157 rfl rfl ?_
        refine xi_getf (q := 161) dX8_init_158 fl_X8_17 ⟨by omega, e0⟩ rfl rfl ?_
        refine xi_iload_n (q := 162) dX8_init_161 rfl rfl ?_
        refine xi_new (ci := 0) (fs := [.null, .int 0, .int 0]) (q := 165) dX8_init_162 rfl cw_X0 tyX0_ok nw_X8_15 (by decide) (by decide) (by omega) (show 58 + 2 * k + 1 ≤ 82 by omega) (show 12329 + 14 * k + 3 ≤ 12725 by omega) rfl ?_
        refine xi_dup (q := 166) dX8_init_165 rfl rfl ?_
        refine xv_cI (q := 169) xm_X0_init ln_X8_27 dX8_init_166 ⟨(Nat.le_of_ble_eq_true rfl), (Nat.le_of_ble_eq_true rfl)⟩ (Nat.le_of_ble_eq_true rfl) (show 58 + 2 * k + 1 + 1 ≤ 82 by omega) (show 12329 + 14 * k + 3 + 11 ≤ 12725 by omega) rfl ?_
        refine ⟨59 + 2 * k, rfl, by omega, va_up_self _ _ _, by omega, fun h9 a9 b9 f9 => ?_⟩
        show xv_V X mX8_init Post (58 + 2 * k + 1 + 1) (12329 + 14 * k + 14) 169 _ _ h9 (59 + 2 * k + 1 + 1)
        refine xi_aast (q := 170) dX8_init_169 rfl ⟨by omega, (f9 2 (by omega) (by omega)).trans ((va_up_ne _ _ (by omega)).trans eA)⟩ ⟨by omega, a9⟩ (xv_ixN (by omega) (by omega)) rfl ?_
        refine xi_iinc (y := nI (k + 1)) (q := 173) dX8_init_170 rfl (xn_inc k) (Nat.le_of_ble_eq_true rfl) rfl ?_
        refine xi_goto (q := 148) dX8_init_173 (by decide) ?_
        obtain ⟨hh2, eh⟩ : ∃ g, g = va_up h9 2 (.inl (.object "ValveShop$Engine", 6, .inr (.inr (.inr (.inr (va_up (fun j => if j < k then some (59 + 2 * j) else none) k (some (59 + 2 * k)))))))) := ⟨_, rfl⟩
        have hF : ∀ i, i ≠ 2 → i ≠ 59 + 2 * k → i ≠ 59 + 2 * k + 1 → hh2 i = hh i := fun i i1 i2 i3 => by rw [eh]; exact (va_up_ne _ _ i1).trans ((f9 i i2 i3).trans (va_up_ne _ _ i2))
        have eV : .inl (.object "ValveShop$Engine", 6, .inr (.inr (.inr (.inr (va_up (fun j => if j < k then some (59 + 2 * j) else none) k (some (59 + 2 * k))))))) = (.inl (.object "ValveShop$Engine", 6, .inr (.inr (.inr (.inr ((fun j => if j < (k + 1) then some (59 + 2 * j) else none)))))) : xv_E) := by
          have e : va_up (fun j => if j < k then some (59 + 2 * j) else none) k (some (59 + 2 * k)) = (fun j => if j < (k + 1) then some (59 + 2 * j) else none) := by
            funext j
            by_cases z : j = k
            · rw [z, va_up_self, if_pos (by omega)]
            · rw [va_up_ne _ _ z]
              by_cases y : j < k
              · rw [if_pos y, if_pos (by omega)]
              · rw [if_neg y, if_neg (by omega)]
          rw [e]
        refine xv_weakS (lv' := [(0, .ref 0), (1, .int (nI (k + 1)))]) ⟨rfl, rfl, trivial⟩ ?_
        have Q := ih (d - 1) (by omega) (k + 1) hh2 (by omega) (by rw [eh] at hF ⊢; exact ⟨(hF 0 (by omega) (by omega) (by omega)).trans e0, (va_up_self _ _ _).trans eV, fun j hj => by
              by_cases z : j = k
              · rw [z]; exact ⟨(va_up_ne _ _ (by omega)).trans a9, (va_up_ne _ _ (by omega)).trans b9⟩
              · exact ⟨(hF _ (by omega) (by omega) (by omega)).trans (eF j (by omega)).1, (hF _ (by omega) (by omega) (by omega)).trans (eF j (by omega)).2⟩, xs_fixk eX (fun i i1 i2 => hF i (by omega) (by omega) (by omega)), (hF 1 (by omega) (by omega) (by omega)).trans y1, fun j hj => ⟨(hF _ (by omega) (by omega) (by omega)).trans (z1 j hj).1, (hF _ (by omega) (by omega) (by omega)).trans (z1 j hj).2⟩, (hF 3 (by omega) (by omega) (by omega)).trans y3⟩)
        rw [show 58 + 2 * (k + 1) = 58 + 2 * k + 1 + 1 by omega, show 12329 + 14 * (k + 1) = 12329 + 14 * k + 14 by omega, show 59 + 2 * (k + 1) = 59 + 2 * k + 1 + 1 by omega, eh] at Q
        exact Q
  have L118 : ∀ (d k : Nat) (hh : xv_H), k + d = 8 → hh 0 = xs_rt 0 0 ∧ hh 1 = .inl (.object "ValveShop$Sheet", 8, .inr (.inr (.inr (.inr ((fun j => if j < k then some (43 + 2 * j) else none)))))) ∧ (∀ j, j < k → hh (43 + 2 * j) = xs_cs j 0 0 0 ∧ hh (43 + 2 * j + 1) = xs_ia 60 xs_z0) ∧ xs_fix hh ∧ hh 2 = .inl (.object "ValveShop$Engine", 6, .inr (.inr (.inr (.inr (fun _ => none))))) ∧ hh 3 = .inl (.object "ValveShop$FoundCard", 6, .inr (.inr (.inr (.inr (fun _ => none))))) → xv_V X mX8_init Post (42 + 2 * k) (11817 + 64 * k) 118 [(0, .ref 0), (1, .int (nI k))] [] hh (43 + 2 * k) := by
    intro d
    induction d using Nat.strongRecOn with
    | _ d ih =>
      intro k hh hkd hI
      obtain ⟨e0, eA, eF, eX, y2, y3⟩ := hI
      refine xi_iload_n (q := 119) dX8_init_118 rfl rfl ?_
      refine xi_aload_n (q := 120) dX8_init_119 rfl rfl ?_
      refine xi_getf (q := 123) dX8_init_120 fl_X8_11 ⟨by omega, e0⟩ rfl rfl ?_
      refine xi_alen (v := nI 8) (q := 124) dX8_init_123 ⟨by omega, eA⟩ rfl rfl ?_
      refine xi_icmp_ge (q := 127) (q2 := 146) dX8_init_124 (by decide) rfl (fun c_124 => ?_) (fun c_124 => ?_)
      · have hk2 : k = 8 := by have z : 8 ≤ k := xn_leN c_124 (by omega) (by omega); omega
        subst hk2
        have eN : (.inl (.object "ValveShop$Engine", 6, .inr (.inr (.inr (.inr (fun _ => none))))) : xv_E) = .inl (.object "ValveShop$Engine", 6, .inr (.inr (.inr (.inr ((fun j => if j < 0 then some (59 + 2 * j) else none)))))) := by
          rw [show (fun j => if j < 0 then some (59 + 2 * j) else none) = (fun _ => none : Nat → Option Nat) from funext fun j => if_neg (by omega)]
        refine xi_iconst (x := 0) (q := 147) dX8_init_146 (by decide) rfl ?_
        refine xi_istore_n (q := 148) dX8_init_147 (Nat.le_of_ble_eq_true rfl) rfl ?_
        refine xv_weakS (lv' := [(0, .ref 0), (1, .int (nI 0))]) ⟨rfl, rfl, trivial⟩ ?_
        exact L148 6 0 hh (by omega) ⟨e0, y2.trans eN, (fun j hj => absurd hj (by omega)), eX, eA, eF, y3⟩
      · have hk2 : k < 8 := xn_nleN c_124 (by omega) (by omega)
        refine xi_aload_n (q := 128) dX8_init_127 rfl rfl ?_
        refine xi_getf (q := 131) dX8_init_128 fl_X8_11 ⟨by omega, e0⟩ rfl rfl ?_
        refine xi_iload_n (q := 132) dX8_init_131 rfl rfl ?_
        refine xi_new (ci := 7) (fs := [.null, .int 0, .int 0, .int 0]) (q := 135) dX8_init_132 rfl cw_X7 tyX7_ok nw_X8_9 (by decide) (by decide) (by omega) (show 42 + 2 * k + 1 ≤ 82 by omega) (show 11817 + 64 * k + 4 ≤ 12725 by omega) rfl ?_
        refine xi_dup (q := 136) dX8_init_135 rfl rfl ?_
        refine xv_cI (q := 139) xm_X7_init ln_X8_76 dX8_init_136 ⟨(Nat.le_of_ble_eq_true rfl), (Nat.le_of_ble_eq_true rfl)⟩ (Nat.le_of_ble_eq_true rfl) (show 42 + 2 * k + 1 + 1 ≤ 82 by omega) (show 11817 + 64 * k + 4 + 60 ≤ 12725 by omega) rfl ?_
        refine ⟨43 + 2 * k, rfl, by omega, va_up_self _ _ _, by omega, fun h9 a9 b9 f9 => ?_⟩
        show xv_V X mX8_init Post (42 + 2 * k + 1 + 1) (11817 + 64 * k + 64) 139 _ _ h9 (43 + 2 * k + 1 + 1)
        refine xi_aast (q := 140) dX8_init_139 rfl ⟨by omega, (f9 1 (by omega) (by omega)).trans ((va_up_ne _ _ (by omega)).trans eA)⟩ ⟨by omega, a9⟩ (xv_ixN (by omega) (by omega)) rfl ?_
        refine xi_iinc (y := nI (k + 1)) (q := 143) dX8_init_140 rfl (xn_inc k) (Nat.le_of_ble_eq_true rfl) rfl ?_
        refine xi_goto (q := 118) dX8_init_143 (by decide) ?_
        obtain ⟨hh2, eh⟩ : ∃ g, g = va_up h9 1 (.inl (.object "ValveShop$Sheet", 8, .inr (.inr (.inr (.inr (va_up (fun j => if j < k then some (43 + 2 * j) else none) k (some (43 + 2 * k)))))))) := ⟨_, rfl⟩
        have hF : ∀ i, i ≠ 1 → i ≠ 43 + 2 * k → i ≠ 43 + 2 * k + 1 → hh2 i = hh i := fun i i1 i2 i3 => by rw [eh]; exact (va_up_ne _ _ i1).trans ((f9 i i2 i3).trans (va_up_ne _ _ i2))
        have eV : .inl (.object "ValveShop$Sheet", 8, .inr (.inr (.inr (.inr (va_up (fun j => if j < k then some (43 + 2 * j) else none) k (some (43 + 2 * k))))))) = (.inl (.object "ValveShop$Sheet", 8, .inr (.inr (.inr (.inr ((fun j => if j < (k + 1) then some (43 + 2 * j) else none)))))) : xv_E) := by
          have e : va_up (fun j => if j < k then some (43 + 2 * j) else none) k (some (43 + 2 * k)) = (fun j => if j < (k + 1) then some (43 + 2 * j) else none) := by
            funext j
            by_cases z : j = k
            · rw [z, va_up_self, if_pos (by omega)]
            · rw [va_up_ne _ _ z]
              by_cases y : j < k
              · rw [if_pos y, if_pos (by omega)]
              · rw [if_neg y, if_neg (by omega)]
          rw [e]
        refine xv_weakS (lv' := [(0, .ref 0), (1, .int (nI (k + 1)))]) ⟨rfl, rfl, trivial⟩ ?_
        have Q := ih (d - 1) (by omega) (k + 1) hh2 (by omega) (by rw [eh] at hF ⊢; exact ⟨(hF 0 (by omega) (by omega) (by omega)).trans e0, (va_up_self _ _ _).trans eV, fun j hj => by
              by_cases z : j = k
              · rw [z]; exact ⟨(va_up_ne _ _ (by omega)).trans a9, (va_up_ne _ _ (by omega)).trans b9⟩
              · exact ⟨(hF _ (by omega) (by omega) (by omega)).trans (eF j (by omega)).1, (hF _ (by omega) (by omega) (by omega)).trans (eF j (by omega)).2⟩, xs_fixk eX (fun i i1 i2 => hF i (by omega) (by omega) (by omega)), (hF 2 (by omega) (by omega) (by omega)).trans y2, (hF 3 (by omega) (by omega) (by omega)).trans y3⟩)
        rw [show 42 + 2 * (k + 1) = 42 + 2 * k + 1 + 1 by omega, show 11817 + 64 * (k + 1) = 11817 + 64 * k + 64 by omega, show 43 + 2 * (k + 1) = 43 + 2 * k + 1 + 1 by omega, eh] at Q
        exact Q
  refine xi_aload_n (q := 1) dX8_init_0 rfl rfl ?_
  refine xi_objInit (q := 4) dX8_init_1 ln_X8_1 (Nat.le_of_ble_eq_true rfl) (Nat.le_of_ble_eq_true rfl) rfl ?_
  refine xi_aload_n (q := 5) dX8_init_4 rfl rfl ?_
  refine xi_bipush (x := 8) (q := 7) dX8_init_5 (by decide) rfl ?_
  refine xi_anewa (N := 8) (q := 10) dX8_init_7 na_X8_9.1 na_X8_9.2 (by decide) rfl (Nat.le_of_ble_eq_true rfl) (by omega) (Nat.le_of_ble_eq_true rfl) (Nat.le_of_ble_eq_true rfl) rfl ?_
  show xv_V X mX8_init Post 1 8 10 _ _ _ 2
  refine xi_putf (q := 13) dX8_init_10 fl_X8_11 (xv_keep (by omega) ⟨by omega, h0⟩) (Or.inr ⟨rfl, fun q hq => by cases hq; rfl⟩) (fun _ => rfl) (fun _ => rfl) (Nat.le_of_ble_eq_true rfl) rfl ?_
  refine xi_aload_n (q := 14) dX8_init_13 rfl rfl ?_
  refine xi_bipush (x := 6) (q := 16) dX8_init_14 (by decide) rfl ?_
  refine xi_anewa (N := 6) (q := 19) dX8_init_16 na_X8_15.1 na_X8_15.2 (by decide) rfl (Nat.le_of_ble_eq_true rfl) (by omega) (Nat.le_of_ble_eq_true rfl) (Nat.le_of_ble_eq_true rfl) rfl ?_
  show xv_V X mX8_init Post 2 14 19 _ _ _ 3
  refine xi_putf (q := 22) dX8_init_19 fl_X8_17 (xv_keep (by omega) (xv_self (by omega))) (Or.inr ⟨rfl, fun q hq => by cases hq; rfl⟩) (fun _ => rfl) (fun _ => rfl) (Nat.le_of_ble_eq_true rfl) rfl ?_
  refine xi_aload_n (q := 23) dX8_init_22 rfl rfl ?_
  refine xi_bipush (x := 6) (q := 25) dX8_init_23 (by decide) rfl ?_
  refine xi_anewa (N := 6) (q := 28) dX8_init_25 na_X8_21.1 na_X8_21.2 (by decide) rfl (Nat.le_of_ble_eq_true rfl) (by omega) (Nat.le_of_ble_eq_true rfl) (Nat.le_of_ble_eq_true rfl) rfl ?_
  show xv_V X mX8_init Post 3 20 28 _ _ _ 4
  refine xi_putf (q := 31) dX8_init_28 fl_X8_23 (xv_keep (by omega) (xv_self (by omega))) (Or.inr ⟨rfl, fun q hq => by cases hq; rfl⟩) (fun _ => rfl) (fun _ => rfl) (Nat.le_of_ble_eq_true rfl) rfl ?_
  refine xi_aload_n (q := 32) dX8_init_31 rfl rfl ?_
  refine xi_new (ci := 0) (fs := [.null, .int 0, .int 0]) (q := 35) dX8_init_32 rfl cw_X0 tyX0_ok nw_X8_15 (by decide) (by decide) (by omega) (Nat.le_of_ble_eq_true rfl) (Nat.le_of_ble_eq_true rfl) rfl ?_
  show xv_V X mX8_init Post 4 23 35 _ _ _ 5
  refine xi_dup (q := 36) dX8_init_35 rfl rfl ?_
  refine xv_cI (q := 39) xm_X0_init ln_X8_27 dX8_init_36 ⟨(Nat.le_of_ble_eq_true rfl), (Nat.le_of_ble_eq_true rfl)⟩ (Nat.le_of_ble_eq_true rfl) (Nat.le_of_ble_eq_true rfl) (Nat.le_of_ble_eq_true rfl) rfl ?_
  refine ⟨4, rfl, by omega, ((va_up_self _ _ _).trans rfl), by omega, fun h36 a36 b36 f36 => ?_⟩
  show xv_V X mX8_init Post 5 34 39 _ _ h36 6
  refine xi_putf (q := 42) dX8_init_39 fl_X8_28 ⟨by omega, ((f36 0 (by omega) (by omega)).trans ((va_up_ne _ _ (by omega)).trans ((va_up_self _ _ _).trans rfl)))⟩ (Or.inr ⟨rfl, fun q hq => by cases hq; rfl⟩) (fun _ => rfl) (fun _ => rfl) (Nat.le_of_ble_eq_true rfl) rfl ?_
  refine xi_aload_n (q := 43) dX8_init_42 rfl rfl ?_
  refine xi_new (ci := 2) (fs := [.null, .int 0, .int 0, .int 0]) (q := 46) dX8_init_43 rfl cw_X2 tyX2_ok nw_X8_21 (by decide) (by decide) (by omega) (Nat.le_of_ble_eq_true rfl) (Nat.le_of_ble_eq_true rfl) rfl ?_
  show xv_V X mX8_init Post 6 38 46 _ _ _ 7
  refine xi_dup (q := 47) dX8_init_46 rfl rfl ?_
  refine xv_cI (q := 50) xm_X2_init ln_X8_32 dX8_init_47 ⟨(Nat.le_of_ble_eq_true rfl), (Nat.le_of_ble_eq_true rfl)⟩ (Nat.le_of_ble_eq_true rfl) (Nat.le_of_ble_eq_true rfl) (Nat.le_of_ble_eq_true rfl) rfl ?_
  refine ⟨6, rfl, by omega, ((va_up_self _ _ _).trans rfl), by omega, fun h47 a47 b47 f47 => ?_⟩
  show xv_V X mX8_init Post 7 86 50 _ _ h47 8
  refine xi_putf (q := 53) dX8_init_50 fl_X8_33 ⟨by omega, ((f47 0 (by omega) (by omega)).trans ((va_up_ne _ _ (by omega)).trans ((va_up_self _ _ _).trans rfl)))⟩ (Or.inr ⟨rfl, fun q hq => by cases hq; rfl⟩) (fun _ => rfl) (fun _ => rfl) (Nat.le_of_ble_eq_true rfl) rfl ?_
  refine xi_aload_n (q := 54) dX8_init_53 rfl rfl ?_
  refine xi_new (ci := 3) (fs := [.null, .int 0, .int 0, .int 0]) (q := 57) dX8_init_54 rfl cw_X3 tyX3_ok nw_X8_37 (by decide) (by decide) (by omega) (Nat.le_of_ble_eq_true rfl) (Nat.le_of_ble_eq_true rfl) rfl ?_
  show xv_V X mX8_init Post 8 90 57 _ _ _ 9
  refine xi_dup (q := 58) dX8_init_57 rfl rfl ?_
  refine xv_cI (q := 61) xm_X3_init ln_X8_39 dX8_init_58 ⟨(Nat.le_of_ble_eq_true rfl), (Nat.le_of_ble_eq_true rfl)⟩ (Nat.le_of_ble_eq_true rfl) (Nat.le_of_ble_eq_true rfl) (Nat.le_of_ble_eq_true rfl) rfl ?_
  refine ⟨8, rfl, by omega, ((va_up_self _ _ _).trans rfl), by omega, fun h58 a58 f58 => ?_⟩
  have r58 : ∀ k, k < 7 → h58 (10 + k) = .inl (.int, 48, .inl xs_z0) := fun k hk => (f58 _ (by omega)).trans (xv_mhr (n := 9) hk)
  show xv_V X mX8_init Post 16 433 61 _ _ h58 17
  refine xi_putf (q := 64) dX8_init_61 fl_X8_40 ⟨by omega, (((f58 0 (by omega)).trans (xv_mh0 (by omega))).trans ((va_up_ne _ _ (by omega)).trans ((va_up_self _ _ _).trans rfl)))⟩ (Or.inr ⟨rfl, fun q hq => by cases hq; rfl⟩) (fun _ => rfl) (fun _ => rfl) (Nat.le_of_ble_eq_true rfl) rfl ?_
  refine xi_aload_n (q := 65) dX8_init_64 rfl rfl ?_
  refine xi_new (ci := 5) (fs := [.null, .null, .null, .null, .long 0, .int 0, .int 0]) (q := 68) dX8_init_65 rfl cw_X5 tyX5_ok nw_X8_44 (by decide) (by decide) (by omega) (Nat.le_of_ble_eq_true rfl) (Nat.le_of_ble_eq_true rfl) rfl ?_
  show xv_V X mX8_init Post 17 440 68 _ _ _ 18
  refine xi_dup (q := 69) dX8_init_68 rfl rfl ?_
  refine xv_cI (q := 72) xm_X5_init ln_X8_46 dX8_init_69 ⟨(Nat.le_of_ble_eq_true rfl), (Nat.le_of_ble_eq_true rfl)⟩ (Nat.le_of_ble_eq_true rfl) (Nat.le_of_ble_eq_true rfl) (Nat.le_of_ble_eq_true rfl) rfl ?_
  refine ⟨17, rfl, by omega, ((va_up_self _ _ _).trans rfl), by omega, fun h69 a69 b69 c69 d69 e69 f69 => ?_⟩
  show xv_V X mX8_init Post 21 632 72 _ _ h69 22
  refine xi_putf (q := 75) dX8_init_72 fl_X8_47 ⟨by omega, ((f69 0 (by omega) (by omega)).trans ((va_up_ne _ _ (by omega)).trans ((va_up_self _ _ _).trans rfl)))⟩ (Or.inr ⟨rfl, fun q hq => by cases hq; rfl⟩) (fun _ => rfl) (fun _ => rfl) (Nat.le_of_ble_eq_true rfl) rfl ?_
  refine xi_aload_n (q := 76) dX8_init_75 rfl rfl ?_
  refine xi_new (ci := 4) (fs := [.null, .int 0, .int 0]) (q := 79) dX8_init_76 rfl cw_X4 tyX4_ok nw_X8_51 (by decide) (by decide) (by omega) (Nat.le_of_ble_eq_true rfl) (Nat.le_of_ble_eq_true rfl) rfl ?_
  show xv_V X mX8_init Post 22 635 79 _ _ _ 23
  refine xi_dup (q := 80) dX8_init_79 rfl rfl ?_
  refine xv_cI (q := 83) xm_X4_init ln_X8_53 dX8_init_80 ⟨(Nat.le_of_ble_eq_true rfl), (Nat.le_of_ble_eq_true rfl)⟩ (Nat.le_of_ble_eq_true rfl) (Nat.le_of_ble_eq_true rfl) (Nat.le_of_ble_eq_true rfl) rfl ?_
  refine ⟨22, rfl, by omega, ((va_up_self _ _ _).trans rfl), by omega, fun h80 a80 b80 f80 => ?_⟩
  show xv_V X mX8_init Post 23 648 83 _ _ h80 24
  refine xi_putf (q := 86) dX8_init_83 fl_X8_54 ⟨by omega, ((f80 0 (by omega) (by omega)).trans ((va_up_ne _ _ (by omega)).trans ((va_up_self _ _ _).trans rfl)))⟩ (Or.inr ⟨rfl, fun q hq => by cases hq; rfl⟩) (fun _ => rfl) (fun _ => rfl) (Nat.le_of_ble_eq_true rfl) rfl ?_
  refine xi_aload_n (q := 87) dX8_init_86 rfl rfl ?_
  refine xi_new (ci := 6) (fs := [.null, .null, .null, .null, .null, .int 0, .int 0]) (q := 90) dX8_init_87 rfl cw_X6 tyX6_ok nw_X8_58 (by decide) (by decide) (by omega) (Nat.le_of_ble_eq_true rfl) (Nat.le_of_ble_eq_true rfl) rfl ?_
  show xv_V X mX8_init Post 24 655 90 _ _ _ 25
  refine xi_dup (q := 91) dX8_init_90 rfl rfl ?_
  refine xv_cI (q := 94) xm_X6_init ln_X8_60 dX8_init_91 ⟨(Nat.le_of_ble_eq_true rfl), (Nat.le_of_ble_eq_true rfl)⟩ (Nat.le_of_ble_eq_true rfl) (Nat.le_of_ble_eq_true rfl) (Nat.le_of_ble_eq_true rfl) rfl ?_
  refine ⟨24, rfl, by omega, ((va_up_self _ _ _).trans rfl), by omega, fun h91 a91 b91 c91 d91 e91 g91 i91 f91 => ?_⟩
  show xv_V X mX8_init Post 40 11795 94 _ _ h91 41
  refine xi_putf (q := 97) dX8_init_94 fl_X8_61 ⟨by omega, ((f91 0 (by omega) (by omega)).trans ((va_up_ne _ _ (by omega)).trans ((va_up_self _ _ _).trans rfl)))⟩ (Or.inr ⟨rfl, fun q hq => by cases hq; rfl⟩) (fun _ => rfl) (fun _ => rfl) (Nat.le_of_ble_eq_true rfl) rfl ?_
  refine xi_aload_n (q := 98) dX8_init_97 rfl rfl ?_
  refine xi_new (ci := 1) (fs := [.int 0, .int 0, .int 0, .int 0, .int 0, .int 0]) (q := 101) dX8_init_98 rfl cw_X1 tyX1_ok nw_X8_65 (by decide) (by decide) (by omega) (Nat.le_of_ble_eq_true rfl) (Nat.le_of_ble_eq_true rfl) rfl ?_
  show xv_V X mX8_init Post 41 11801 101 _ _ _ 42
  refine xi_dup (q := 102) dX8_init_101 rfl rfl ?_
  refine xv_cI (q := 105) xm_X1_init ln_X8_67 dX8_init_102 ⟨(Nat.le_of_ble_eq_true rfl), (Nat.le_of_ble_eq_true rfl)⟩ (Nat.le_of_ble_eq_true rfl) (Nat.le_of_ble_eq_true rfl) (Nat.le_of_ble_eq_true rfl) rfl ?_
  refine ⟨41, rfl, ?_⟩
  show xv_V X mX8_init Post 41 11801 105 _ _ _ 42
  refine xi_putf (q := 108) dX8_init_105 fl_X8_68 (xv_keep (by omega) (xv_self (by omega))) (Or.inr ⟨rfl, fun q hq => by cases hq; rfl⟩) (fun _ => rfl) (fun _ => rfl) (Nat.le_of_ble_eq_true rfl) rfl ?_
  refine xi_aload_n (q := 109) dX8_init_108 rfl rfl ?_
  refine xi_bipush (x := 16) (q := 111) dX8_init_109 (by decide) rfl ?_
  refine xi_newa (N := 16) (q := 113) dX8_init_111 rfl ac_int (fun _ => rfl) (by decide) rfl (Nat.le_of_ble_eq_true rfl) (by omega) (Nat.le_of_ble_eq_true rfl) (Nat.le_of_ble_eq_true rfl) rfl ?_
  show xv_V X mX8_init Post 42 11817 113 _ _ _ 43
  refine xi_putf (q := 116) dX8_init_113 fl_X8_72 (xv_keep (by omega) (xv_self (by omega))) (Or.inr ⟨rfl, fun q hq => by cases hq; rfl⟩) (fun _ => rfl) (fun _ => rfl) (Nat.le_of_ble_eq_true rfl) rfl ?_
  refine xi_iconst (x := 0) (q := 117) dX8_init_116 (by decide) rfl ?_
  refine xi_istore_n (q := 118) dX8_init_117 (Nat.le_of_ble_eq_true rfl) rfl ?_
  have eN : (.inl (.object "ValveShop$Sheet", 8, .inr (.inr (.inr (.inr (fun _ => none))))) : xv_E) = .inl (.object "ValveShop$Sheet", 8, .inr (.inr (.inr (.inr ((fun j => if j < 0 then some (43 + 2 * j) else none)))))) := by
    rw [show (fun j => if j < 0 then some (43 + 2 * j) else none) = (fun _ => none : Nat → Option Nat) from funext fun j => if_neg (by omega)]
  refine xv_weakS (lv' := [(0, .ref 0), (1, .int (nI 0))]) ⟨rfl, rfl, trivial⟩ ?_
  exact L118 8 0 _ (by omega) ⟨((va_up_self _ _ _).trans rfl), ((va_up_ne _ _ (by omega)).trans ((va_up_ne _ _ (by omega)).trans ((va_up_ne _ _ (by omega)).trans ((va_up_ne _ _ (by omega)).trans ((va_up_ne _ _ (by omega)).trans ((f91 1 (by omega) (by omega)).trans ((va_up_ne _ _ (by omega)).trans ((va_up_ne _ _ (by omega)).trans ((f80 1 (by omega) (by omega)).trans ((va_up_ne _ _ (by omega)).trans ((va_up_ne _ _ (by omega)).trans ((f69 1 (by omega) (by omega)).trans ((va_up_ne _ _ (by omega)).trans ((va_up_ne _ _ (by omega)).trans (((f58 1 (by omega)).trans (xv_mh0 (by omega))).trans ((va_up_ne _ _ (by omega)).trans ((va_up_ne _ _ (by omega)).trans ((f47 1 (by omega) (by omega)).trans ((va_up_ne _ _ (by omega)).trans ((va_up_ne _ _ (by omega)).trans ((f36 1 (by omega) (by omega)).trans ((va_up_ne _ _ (by omega)).trans ((va_up_ne _ _ (by omega)).trans ((va_up_ne _ _ (by omega)).trans ((va_up_ne _ _ (by omega)).trans ((va_up_ne _ _ (by omega)).trans ((va_up_ne _ _ (by omega)).trans ((va_up_self _ _ _).trans rfl)))))))))))))))))))))))))))).trans eN, (fun j hj => absurd hj (by omega)), ⟨((va_up_ne _ _ (by omega)).trans ((va_up_ne _ _ (by omega)).trans ((va_up_ne _ _ (by omega)).trans ((va_up_ne _ _ (by omega)).trans ((va_up_ne _ _ (by omega)).trans ((f91 4 (by omega) (by omega)).trans ((va_up_ne _ _ (by omega)).trans ((va_up_ne _ _ (by omega)).trans ((f80 4 (by omega) (by omega)).trans ((va_up_ne _ _ (by omega)).trans ((va_up_ne _ _ (by omega)).trans ((f69 4 (by omega) (by omega)).trans ((va_up_ne _ _ (by omega)).trans ((va_up_ne _ _ (by omega)).trans (((f58 4 (by omega)).trans (xv_mh0 (by omega))).trans ((va_up_ne _ _ (by omega)).trans ((va_up_ne _ _ (by omega)).trans ((f47 4 (by omega) (by omega)).trans ((va_up_ne _ _ (by omega)).trans ((va_up_ne _ _ (by omega)).trans a36)))))))))))))))))))), ((va_up_ne _ _ (by omega)).trans ((va_up_ne _ _ (by omega)).trans ((va_up_ne _ _ (by omega)).trans ((va_up_ne _ _ (by omega)).trans ((va_up_ne _ _ (by omega)).trans ((f91 5 (by omega) (by omega)).trans ((va_up_ne _ _ (by omega)).trans ((va_up_ne _ _ (by omega)).trans ((f80 5 (by omega) (by omega)).trans ((va_up_ne _ _ (by omega)).trans ((va_up_ne _ _ (by omega)).trans ((f69 5 (by omega) (by omega)).trans ((va_up_ne _ _ (by omega)).trans ((va_up_ne _ _ (by omega)).trans (((f58 5 (by omega)).trans (xv_mh0 (by omega))).trans ((va_up_ne _ _ (by omega)).trans ((va_up_ne _ _ (by omega)).trans ((f47 5 (by omega) (by omega)).trans ((va_up_ne _ _ (by omega)).trans ((va_up_ne _ _ (by omega)).trans b36)))))))))))))))))))), ((va_up_ne _ _ (by omega)).trans ((va_up_ne _ _ (by omega)).trans ((va_up_ne _ _ (by omega)).trans ((va_up_ne _ _ (by omega)).trans ((va_up_ne _ _ (by omega)).trans ((f91 6 (by omega) (by omega)).trans ((va_up_ne _ _ (by omega)).trans ((va_up_ne _ _ (by omega)).trans ((f80 6 (by omega) (by omega)).trans ((va_up_ne _ _ (by omega)).trans ((va_up_ne _ _ (by omega)).trans ((f69 6 (by omega) (by omega)).trans ((va_up_ne _ _ (by omega)).trans ((va_up_ne _ _ (by omega)).trans (((f58 6 (by omega)).trans (xv_mh0 (by omega))).trans ((va_up_ne _ _ (by omega)).trans ((va_up_ne _ _ (by omega)).trans a47))))))))))))))))), ((va_up_ne _ _ (by omega)).trans ((va_up_ne _ _ (by omega)).trans ((va_up_ne _ _ (by omega)).trans ((va_up_ne _ _ (by omega)).trans ((va_up_ne _ _ (by omega)).trans ((f91 7 (by omega) (by omega)).trans ((va_up_ne _ _ (by omega)).trans ((va_up_ne _ _ (by omega)).trans ((f80 7 (by omega) (by omega)).trans ((va_up_ne _ _ (by omega)).trans ((va_up_ne _ _ (by omega)).trans ((f69 7 (by omega) (by omega)).trans ((va_up_ne _ _ (by omega)).trans ((va_up_ne _ _ (by omega)).trans (((f58 7 (by omega)).trans (xv_mh0 (by omega))).trans ((va_up_ne _ _ (by omega)).trans ((va_up_ne _ _ (by omega)).trans b47))))))))))))))))), ((va_up_ne _ _ (by omega)).trans ((va_up_ne _ _ (by omega)).trans ((va_up_ne _ _ (by omega)).trans ((va_up_ne _ _ (by omega)).trans ((va_up_ne _ _ (by omega)).trans ((f91 8 (by omega) (by omega)).trans ((va_up_ne _ _ (by omega)).trans ((va_up_ne _ _ (by omega)).trans ((f80 8 (by omega) (by omega)).trans ((va_up_ne _ _ (by omega)).trans ((va_up_ne _ _ (by omega)).trans ((f69 8 (by omega) (by omega)).trans ((va_up_ne _ _ (by omega)).trans ((va_up_ne _ _ (by omega)).trans a58)))))))))))))), ((va_up_ne _ _ (by omega)).trans ((va_up_ne _ _ (by omega)).trans ((va_up_ne _ _ (by omega)).trans ((va_up_ne _ _ (by omega)).trans ((va_up_ne _ _ (by omega)).trans ((f91 9 (by omega) (by omega)).trans ((va_up_ne _ _ (by omega)).trans ((va_up_ne _ _ (by omega)).trans ((f80 9 (by omega) (by omega)).trans ((va_up_ne _ _ (by omega)).trans ((va_up_ne _ _ (by omega)).trans ((f69 9 (by omega) (by omega)).trans ((va_up_ne _ _ (by omega)).trans ((va_up_ne _ _ (by omega)).trans ((f58 9 (by omega)).trans xv_mhn))))))))))))))), ((va_up_ne _ _ (by omega)).trans ((va_up_ne _ _ (by omega)).trans ((va_up_ne _ _ (by omega)).trans ((va_up_ne _ _ (by omega)).trans ((va_up_ne _ _ (by omega)).trans ((f91 17 (by omega) (by omega)).trans ((va_up_ne _ _ (by omega)).trans ((va_up_ne _ _ (by omega)).trans ((f80 17 (by omega) (by omega)).trans ((va_up_ne _ _ (by omega)).trans ((va_up_ne _ _ (by omega)).trans a69))))))))))), ((va_up_ne _ _ (by omega)).trans ((va_up_ne _ _ (by omega)).trans ((va_up_ne _ _ (by omega)).trans ((va_up_ne _ _ (by omega)).trans ((va_up_ne _ _ (by omega)).trans ((f91 18 (by omega) (by omega)).trans ((va_up_ne _ _ (by omega)).trans ((va_up_ne _ _ (by omega)).trans ((f80 18 (by omega) (by omega)).trans ((va_up_ne _ _ (by omega)).trans ((va_up_ne _ _ (by omega)).trans b69))))))))))), ((va_up_ne _ _ (by omega)).trans ((va_up_ne _ _ (by omega)).trans ((va_up_ne _ _ (by omega)).trans ((va_up_ne _ _ (by omega)).trans ((va_up_ne _ _ (by omega)).trans ((f91 19 (by omega) (by omega)).trans ((va_up_ne _ _ (by omega)).trans ((va_up_ne _ _ (by omega)).trans ((f80 19 (by omega) (by omega)).trans ((va_up_ne _ _ (by omega)).trans ((va_up_ne _ _ (by omega)).trans c69))))))))))), ((va_up_ne _ _ (by omega)).trans ((va_up_ne _ _ (by omega)).trans ((va_up_ne _ _ (by omega)).trans ((va_up_ne _ _ (by omega)).trans ((va_up_ne _ _ (by omega)).trans ((f91 20 (by omega) (by omega)).trans ((va_up_ne _ _ (by omega)).trans ((va_up_ne _ _ (by omega)).trans ((f80 20 (by omega) (by omega)).trans ((va_up_ne _ _ (by omega)).trans ((va_up_ne _ _ (by omega)).trans d69))))))))))), ((va_up_ne _ _ (by omega)).trans ((va_up_ne _ _ (by omega)).trans ((va_up_ne _ _ (by omega)).trans ((va_up_ne _ _ (by omega)).trans ((va_up_ne _ _ (by omega)).trans ((f91 21 (by omega) (by omega)).trans ((va_up_ne _ _ (by omega)).trans ((va_up_ne _ _ (by omega)).trans ((f80 21 (by omega) (by omega)).trans ((va_up_ne _ _ (by omega)).trans ((va_up_ne _ _ (by omega)).trans e69))))))))))), ((va_up_ne _ _ (by omega)).trans ((va_up_ne _ _ (by omega)).trans ((va_up_ne _ _ (by omega)).trans ((va_up_ne _ _ (by omega)).trans ((va_up_ne _ _ (by omega)).trans ((f91 22 (by omega) (by omega)).trans ((va_up_ne _ _ (by omega)).trans ((va_up_ne _ _ (by omega)).trans a80)))))))), ((va_up_ne _ _ (by omega)).trans ((va_up_ne _ _ (by omega)).trans ((va_up_ne _ _ (by omega)).trans ((va_up_ne _ _ (by omega)).trans ((va_up_ne _ _ (by omega)).trans ((f91 23 (by omega) (by omega)).trans ((va_up_ne _ _ (by omega)).trans ((va_up_ne _ _ (by omega)).trans b80)))))))), ((va_up_ne _ _ (by omega)).trans ((va_up_ne _ _ (by omega)).trans ((va_up_ne _ _ (by omega)).trans ((va_up_ne _ _ (by omega)).trans ((va_up_ne _ _ (by omega)).trans a91))))), ((va_up_ne _ _ (by omega)).trans ((va_up_ne _ _ (by omega)).trans ((va_up_ne _ _ (by omega)).trans ((va_up_ne _ _ (by omega)).trans ((va_up_ne _ _ (by omega)).trans b91))))), ((va_up_ne _ _ (by omega)).trans ((va_up_ne _ _ (by omega)).trans ((va_up_ne _ _ (by omega)).trans ((va_up_ne _ _ (by omega)).trans ((va_up_ne _ _ (by omega)).trans c91))))), ((va_up_ne _ _ (by omega)).trans ((va_up_ne _ _ (by omega)).trans ((va_up_ne _ _ (by omega)).trans ((va_up_ne _ _ (by omega)).trans ((va_up_ne _ _ (by omega)).trans d91))))), ((va_up_ne _ _ (by omega)).trans ((va_up_ne _ _ (by omega)).trans ((va_up_ne _ _ (by omega)).trans ((va_up_ne _ _ (by omega)).trans ((va_up_ne _ _ (by omega)).trans e91))))), ((va_up_ne _ _ (by omega)).trans ((va_up_ne _ _ (by omega)).trans ((va_up_ne _ _ (by omega)).trans ((va_up_ne _ _ (by omega)).trans ((va_up_ne _ _ (by omega)).trans i91))))), ((va_up_ne _ _ (by omega)).trans ((va_up_ne _ _ (by omega)).trans ((va_up_ne _ _ (by omega)).trans ((va_up_self _ _ _).trans rfl)))), ((va_up_ne _ _ (by omega)).trans ((va_up_self _ _ _).trans rfl)), fun k hk => ((va_up_ne _ _ (by omega)).trans ((va_up_ne _ _ (by omega)).trans ((va_up_ne _ _ (by omega)).trans ((va_up_ne _ _ (by omega)).trans ((va_up_ne _ _ (by omega)).trans ((f91 _ (by omega) (by omega)).trans ((va_up_ne _ _ (by omega)).trans ((va_up_ne _ _ (by omega)).trans ((f80 _ (by omega) (by omega)).trans ((va_up_ne _ _ (by omega)).trans ((va_up_ne _ _ (by omega)).trans ((f69 _ (by omega) (by omega)).trans ((va_up_ne _ _ (by omega)).trans ((va_up_ne _ _ (by omega)).trans (r58 k hk))))))))))))))), fun k hk => ((va_up_ne _ _ (by omega)).trans ((va_up_ne _ _ (by omega)).trans ((va_up_ne _ _ (by omega)).trans ((va_up_ne _ _ (by omega)).trans ((va_up_ne _ _ (by omega)).trans (g91 k hk))))))⟩, ((va_up_ne _ _ (by omega)).trans ((va_up_ne _ _ (by omega)).trans ((va_up_ne _ _ (by omega)).trans ((va_up_ne _ _ (by omega)).trans ((va_up_ne _ _ (by omega)).trans ((f91 2 (by omega) (by omega)).trans ((va_up_ne _ _ (by omega)).trans ((va_up_ne _ _ (by omega)).trans ((f80 2 (by omega) (by omega)).trans ((va_up_ne _ _ (by omega)).trans ((va_up_ne _ _ (by omega)).trans ((f69 2 (by omega) (by omega)).trans ((va_up_ne _ _ (by omega)).trans ((va_up_ne _ _ (by omega)).trans (((f58 2 (by omega)).trans (xv_mh0 (by omega))).trans ((va_up_ne _ _ (by omega)).trans ((va_up_ne _ _ (by omega)).trans ((f47 2 (by omega) (by omega)).trans ((va_up_ne _ _ (by omega)).trans ((va_up_ne _ _ (by omega)).trans ((f36 2 (by omega) (by omega)).trans ((va_up_ne _ _ (by omega)).trans ((va_up_ne _ _ (by omega)).trans ((va_up_ne _ _ (by omega)).trans ((va_up_ne _ _ (by omega)).trans ((va_up_self _ _ _).trans rfl)))))))))))))))))))))))))), ((va_up_ne _ _ (by omega)).trans ((va_up_ne _ _ (by omega)).trans ((va_up_ne _ _ (by omega)).trans ((va_up_ne _ _ (by omega)).trans ((va_up_ne _ _ (by omega)).trans ((f91 3 (by omega) (by omega)).trans ((va_up_ne _ _ (by omega)).trans ((va_up_ne _ _ (by omega)).trans ((f80 3 (by omega) (by omega)).trans ((va_up_ne _ _ (by omega)).trans ((va_up_ne _ _ (by omega)).trans ((f69 3 (by omega) (by omega)).trans ((va_up_ne _ _ (by omega)).trans ((va_up_ne _ _ (by omega)).trans (((f58 3 (by omega)).trans (xv_mh0 (by omega))).trans ((va_up_ne _ _ (by omega)).trans ((va_up_ne _ _ (by omega)).trans ((f47 3 (by omega) (by omega)).trans ((va_up_ne _ _ (by omega)).trans ((va_up_ne _ _ (by omega)).trans ((f36 3 (by omega) (by omega)).trans ((va_up_ne _ _ (by omega)).trans ((va_up_ne _ _ (by omega)).trans ((va_up_self _ _ _).trans rfl))))))))))))))))))))))))⟩

