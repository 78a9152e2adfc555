theorem xn_B {b r : Int32} (hb : 0 ≤ b.toInt ∧ b.toInt ≤ 2000) (hr : 0 ≤ r.toInt ∧ r.toInt ≤ 4) : 0 ≤ (b * r / 4).toInt ∧ (b * r / 4).toInt ≤ 2000 := by
  have h1 : 0 ≤ b.toInt * r.toInt := Int.mul_nonneg hb.1 hr.1
  have h2 : b.toInt * r.toInt ≤ 2000 * 4 := Int.mul_le_mul hb.2 hr.2 hr.1 (by omega)
  have h3 : (b * r).toInt = b.toInt * r.toInt := xn_mul (by omega) (by omega)
  rw [xn_div (by decide), h3, show (4 : Int32).toInt = 4 from rfl, Int.tdiv_eq_ediv_of_nonneg h1]
  omega
def xs_dn (f : Nat → Int32) (s m B d : Int32) (j : Nat) : Int64 := xs_psL (xs_dr1 f s m B d) (j + 1 - 96)
theorem xn_dnA {f : Nat → Int32} {s m B d : Int32} {j : Nat} (h : ¬ 0 < xs_co f s m B d (nI (j + 1)) (xs_pr f s m B d j) ∨ j + 1 < 96) : xs_dn f s m B d (j + 1) = xs_dn f s m B d j := by
  unfold xs_dn
  by_cases hj : j + 1 < 96
  · rw [show j + 1 + 1 - 96 = 0 by omega, show j + 1 - 96 = 0 by omega]
  · rw [show j + 1 + 1 - 96 = (j + 1 - 96) + 1 by omega]
    show _ + xs_dr1 f s m B d (j + 1 - 96) = _
    unfold xs_dr1 xs_cm
    rw [show 96 + (j + 1 - 96) = j + 1 by omega, show 95 + (j + 1 - 96) = j by omega, if_neg (h.elim id (fun z => absurd z hj)), Int64.add_zero]
theorem xn_dnB {f : Nat → Int32} {s m B d : Int32} {j : Nat} (h : 0 < xs_co f s m B d (nI (j + 1)) (xs_pr f s m B d j)) (hj : ¬ j + 1 < 96) : xs_dn f s m B d (j + 1) = xs_dn f s m B d j + (xs_co f s m B d (nI (j + 1)) (xs_pr f s m B d j)).toInt64 * (xs_rom f d (nI (j + 1))).toInt64 := by
  unfold xs_dn
  rw [show j + 1 + 1 - 96 = (j + 1 - 96) + 1 by omega]
  show _ + xs_dr1 f s m B d (j + 1 - 96) = _
  unfold xs_dr1 xs_cm
  rw [show 96 + (j + 1 - 96) = j + 1 by omega, show 95 + (j + 1 - 96) = j by omega, if_pos h]
theorem xn_PCd {h : xv_H} {dn : Int64} {wk dk : Int32} {r1 r2 r3 r4 : Nat → Int32} (hP : xs_PC h dn wk dk r1 r2 r3 r4) {d2 : Int64} (e : dn = d2) : xs_PC h d2 wk dk r1 r2 r3 r4 := e ▸ hP

set_option maxRecDepth 20000 in
set_option maxHeartbeats 2000000 in
/-- draw -/
theorem xm_X5_draw : xv_K yX5_draw mX5_draw (fun as h n Post => ∃ (dn : Int64) (wk : Int32) (dk : Int32) (r1 : Nat → Int32) (r2 : Nat → Int32) (r3 : Nat → Int32) (r4 : Nat → Int32) (e : Nat) (f : Nat → Int32) (s : Int32) (t : Int32) (m : Int32) (b : Int32) (g : Int32) (d : Int32), as = [.ref 17, .ref e, .int m, .int b, .int g, .int d] ∧ (e + 1 < n) ∧ (h e = .inr (0, [.ref (e + 1), .int s, .int t])) ∧ (h (e + 1) = .inl (.int, 11, .inl f)) ∧ (xs_PC h dn wk dk r1 r2 r3 r4) ∧ (21 < n) ∧ (e + 1 < 17 ∨ 21 < e) ∧ (xs_ok f) ∧ (d = 0 ∨ d = 1) ∧ (0 ≤ b.toInt ∧ b.toInt ≤ 2000) ∧ (0 ≤ g.toInt ∧ g.toInt ≤ 4) ∧ (∀ h' : xv_H, xs_PC h' (xs_dr f s m (b * g / 4) d) wk dk (fun k => xs_rom f d (nI k)) (fun k => xs_opn f s m d (nI k) 0) (fun k => xs_opn f s m d (nI k) 1) (fun k => xs_cd f s m (b * g / 4) d k) → (∀ i, i < 17 ∨ 21 < i → h' i = h i) → Post none h' n)) := by
  refine xv_entry (by decide +kernel) rfl (fun h => absurd h (by decide)) ?_
  rintro X _ h n Post ⟨dn, wk, dk, r1, r2, r3, r4, e, f, s, t, m, b, g, d, rfl, hn, hE, hN, hP, h21, he, hok, hd, hb, hg0, hp⟩
  refine ⟨Nat.le_of_ble_eq_true rfl, ?_⟩
  show xv_V X mX5_draw Post 0 0 0 [(0, .ref 17), (1, .ref e), (2, .int m), (3, .int b), (4, .int g), (5, .int d)] [] h n
  have L61 : ∀ (dd j : Nat) (hh : xv_H) (g4 : Nat → Int32), j + dd = 143 → xs_PC hh (xs_dn f s m (b * g / 4) d j) wk dk (fun k => xs_rom f d (nI k)) (fun k => xs_opn f s m d (nI k) 0) (fun k => xs_opn f s m d (nI k) 1) g4 → (∀ k, k < 48 → 96 + k ≤ j → g4 k = xs_pr f s m (b * g / 4) d (96 + k)) → (∀ i, i < 17 ∨ 21 < i → hh i = h i) → xv_V X mX5_draw Post 0 0 61 [(0, .ref 17), (1, .ref e), (2, .int m), (3, .int b), (4, .int g), (5, .int d), (6, .int (b * g / 4)), (7, .int (f 10)), (8, .int (f 9)), (9, .int (f 8 + xs_chk s)), (10, .int (xs_leak s)), (11, .int (xs_pr f s m (b * g / 4) d j)), (12, .int (nI (j % 48))), (13, .int (nI (j + 1)))] [] hh n := by
    intro dd
    induction dd using Nat.strongRecOn with
    | _ dd ih =>
      intro j hh g4 hj hQ hg hf0
      refine xi_iload (q := 63) dX5_draw_61 rfl rfl ?_
      refine xi_sipush (x := 144) (q := 66) dX5_draw_63 (by decide) rfl ?_
      refine xi_icmp_ge (q := 69) (q2 := 231) dX5_draw_66 (by decide) rfl (fun c_66 => ?_) (fun c_66 => ?_)
      · have hk2 : j = 143 := by have z : 144 ≤ j + 1 := xn_leN c_66 (by omega) (by omega); omega
        subst hk2
        refine xv_norm (h' := va_up hh 21 (.inl (.int, 48, .inl fun k => xs_cd f s m (b * g / 4) d k))) (xv_nr hQ.2.2.2.2 rfl (fun k hk => hg k hk (by omega))) ?_
        refine xi_vret ⟨rfl, dX5_draw_231⟩ (Nat.zero_le _) (Nat.zero_le _) ?_
        exact hp _ (xs_PC4 hQ _) (fun i hi => (va_up_ne _ _ (by omega)).trans (hf0 i hi))
      · have hk2 : j + 1 < 144 := xn_nleN c_66 (by omega) (by omega)
        have hk48 : nI (j + 1) - nI (j + 1) / 48 * 48 = nI ((j + 1) % 48) := xn_remN (d := 48) (by omega) (by omega) (by omega)
        have hT : (nI (j + 1)).toInt = (j + 1 : Nat) := xn_NI (by omega)
        have hTm : (nI ((j + 1) % 48)).toInt = ((j + 1) % 48 : Nat) := xn_NI (by omega)
        have hT0 : (nI (j % 48)).toInt = (j % 48 : Nat) := xn_NI (by omega)
        have hTj : (nI j).toInt = (j : Nat) := xn_NI (by omega)
        have eR1 : xs_rom f d (nI ((j + 1) % 48)) = xs_rom f d (nI (j + 1)) := xn_romP (by omega) (by omega) (by omega)
        have eR0 : xs_rom f d (nI (j % 48)) = xs_rom f d (nI (j + 1) - 1) := by rw [nI_pred]; exact xn_romP (by omega) (by omega) (by omega)
        have eO0 : xs_opn f s m d (nI ((j + 1) % 48)) 0 = xs_opn f s m d (nI (j + 1)) 0 := xn_opP hok.2.2.1 (by omega) (by omega) (by omega)
        have eO1 : xs_opn f s m d (nI ((j + 1) % 48)) 1 = xs_opn f s m d (nI (j + 1)) 1 := xn_opP hok.2.2.1 (by omega) (by omega) (by omega)
        have bR := xn_romb (d := d) (k := nI (j + 1)) hok (by omega)
        have bO0 := xn_opb (s := s) (m := m) (d := d) (k := nI (j + 1)) (w := 0) hok
        have bO1 := xn_opb (s := s) (m := m) (d := d) (k := nI (j + 1)) (w := 1) hok
        have h8 := hok.2.2.2.2.2.2.2.2.1
        have h9 := hok.2.2.2.2.2.2.2.2.2.1
        have hch := xn_chkb s
        have c1 : (f 8 + xs_chk s).toInt = (f 8).toInt + (xs_chk s).toInt := xn_add (by omega) (by omega)
        have c2 : (xs_opn f s m d (nI (j + 1)) 0 + (f 8 + xs_chk s)).toInt = (xs_opn f s m d (nI (j + 1)) 0).toInt + ((f 8).toInt + (xs_chk s).toInt) := by rw [xn_add (by omega) (by omega), c1]
        have c3 : (xs_opn f s m d (nI (j + 1)) 1 + f 9).toInt = (xs_opn f s m d (nI (j + 1)) 1).toInt + (f 9).toInt := xn_add (by omega) (by omega)
        refine xi_iload (q := 71) dX5_draw_69 rfl rfl ?_
        refine xi_bipush (x := 48) (q := 73) dX5_draw_71 (by decide) rfl ?_
        refine xi_irem (q := 74) dX5_draw_73 (by decide) rfl ?_
        rw [hk48]
        refine xi_istore (q := 76) dX5_draw_74 (Nat.le_of_ble_eq_true rfl) rfl ?_
        refine xi_iload (q := 78) dX5_draw_76 rfl rfl ?_
        refine xi_aload_n (q := 79) dX5_draw_78 rfl rfl ?_
        refine xi_getf (q := 82) dX5_draw_79 fl_X5_9 ⟨by omega, hQ.1⟩ rfl rfl ?_
        refine xi_iload (q := 84) dX5_draw_82 rfl rfl ?_
        refine xi_iald (q := 85) dX5_draw_84 ⟨by omega, hQ.2.1⟩ (xv_ixN (show j % 48 < 48 by omega) (by omega)) rfl ?_
        refine xi_aload_n (q := 86) dX5_draw_85 rfl rfl ?_
        refine xi_getf (q := 89) dX5_draw_86 fl_X5_9 ⟨by omega, hQ.1⟩ rfl rfl ?_
        refine xi_iload (q := 91) dX5_draw_89 rfl rfl ?_
        refine xi_iald (q := 92) dX5_draw_91 ⟨by omega, hQ.2.1⟩ (xv_ixN (show (j + 1) % 48 < 48 by omega) (by omega)) rfl ?_
        refine xv_cS3 (q := 95) xm_X8_share ln_X5_44 dX5_draw_92 ⟨(Nat.le_of_ble_eq_true rfl), (Nat.le_of_ble_eq_true rfl)⟩ (Nat.le_of_ble_eq_true rfl) ⟨rfl, rfl⟩ rfl (Nat.zero_le _) (Nat.zero_le _) ?_
        refine ⟨_, _, _, rfl, xn_pos (by show 0 < (xs_rom f d (nI ((j + 1) % 48))).toInt; rw [eR1]; omega), ?_⟩
        rw [show xs_pr f s m (b * g / 4) d j * (fun k => xs_rom f d (nI k)) (j % 48) / (fun k => xs_rom f d (nI k)) ((j + 1) % 48) = xs_v1 f d (nI (j + 1)) (xs_pr f s m (b * g / 4) d j) by show xs_pr f s m (b * g / 4) d j * xs_rom f d (nI (j % 48)) / xs_rom f d (nI ((j + 1) % 48)) = _; rw [eR1, eR0]; rfl]
        refine xi_istore (q := 97) dX5_draw_95 (Nat.le_of_ble_eq_true rfl) rfl ?_
        refine xi_iload (q := 99) dX5_draw_97 rfl rfl ?_
        refine xi_iload (q := 101) dX5_draw_99 rfl rfl ?_
        refine xi_isub (q := 102) dX5_draw_101 rfl ?_
        refine xi_aload_n (q := 103) dX5_draw_102 rfl rfl ?_
        refine xi_getf (q := 106) dX5_draw_103 fl_X5_15 ⟨by omega, hQ.1⟩ rfl rfl ?_
        refine xi_iload (q := 108) dX5_draw_106 rfl rfl ?_
        refine xi_iald (q := 109) dX5_draw_108 ⟨by omega, hQ.2.2.1⟩ (xv_ixN (show (j + 1) % 48 < 48 by omega) (by omega)) rfl ?_
        refine xi_aload_n (q := 110) dX5_draw_109 rfl rfl ?_
        refine xi_getf (q := 113) dX5_draw_110 fl_X5_15 ⟨by omega, hQ.1⟩ rfl rfl ?_
        refine xi_iload (q := 115) dX5_draw_113 rfl rfl ?_
        refine xi_iald (q := 116) dX5_draw_115 ⟨by omega, hQ.2.2.1⟩ (xv_ixN (show (j + 1) % 48 < 48 by omega) (by omega)) rfl ?_
        refine xi_iload (q := 118) dX5_draw_116 rfl rfl ?_
        refine xi_iadd (q := 119) dX5_draw_118 rfl ?_
        refine xv_cS3 (q := 122) xm_X8_share ln_X5_44 dX5_draw_119 ⟨(Nat.le_of_ble_eq_true rfl), (Nat.le_of_ble_eq_true rfl)⟩ (Nat.le_of_ble_eq_true rfl) ⟨rfl, rfl⟩ rfl (Nat.zero_le _) (Nat.zero_le _) ?_
        refine ⟨_, _, _, rfl, xn_pos (by show 0 < (xs_opn f s m d (nI ((j + 1) % 48)) 0 + (f 8 + xs_chk s)).toInt; rw [eO0]; omega), ?_⟩
        rw [show ((b * g / 4) - xs_v1 f d (nI (j + 1)) (xs_pr f s m (b * g / 4) d j)) * (fun k => xs_opn f s m d (nI k) 0) ((j + 1) % 48) / ((fun k => xs_opn f s m d (nI k) 0) ((j + 1) % 48) + (f 8 + xs_chk s)) = xs_co f s m (b * g / 4) d (nI (j + 1)) (xs_pr f s m (b * g / 4) d j) by show ((b * g / 4) - xs_v1 f d (nI (j + 1)) (xs_pr f s m (b * g / 4) d j)) * xs_opn f s m d (nI ((j + 1) % 48)) 0 / (xs_opn f s m d (nI ((j + 1) % 48)) 0 + (f 8 + xs_chk s)) = _; rw [eO0, ← Int32.add_assoc]; rfl]
        refine xi_istore (q := 124) dX5_draw_122 (Nat.le_of_ble_eq_true rfl) rfl ?_
        refine xi_iload (q := 126) dX5_draw_124 rfl rfl ?_
        refine xi_if_le (q := 129) (q2 := 157) dX5_draw_126 (by decide) rfl (fun c_126 => ?_) (fun c_126 => ?_)
        · refine xi_iload (q := 159) dX5_draw_157 rfl rfl ?_
          refine xi_iload (q := 161) dX5_draw_159 rfl rfl ?_
          refine xi_iadd (q := 162) dX5_draw_161 rfl ?_
          refine xi_istore (q := 164) dX5_draw_162 (Nat.le_of_ble_eq_true rfl) rfl ?_
          refine xi_iload (q := 166) dX5_draw_164 rfl rfl ?_
          refine xi_iload (q := 168) dX5_draw_166 rfl rfl ?_
          refine xi_iload (q := 170) dX5_draw_168 rfl rfl ?_
          refine xi_isub (q := 171) dX5_draw_170 rfl ?_
          refine xi_aload_n (q := 172) dX5_draw_171 rfl rfl ?_
          refine xi_getf (q := 175) dX5_draw_172 fl_X5_18 ⟨by omega, hQ.1⟩ rfl rfl ?_
          refine xi_iload (q := 177) dX5_draw_175 rfl rfl ?_
          refine xi_iald (q := 178) dX5_draw_177 ⟨by omega, hQ.2.2.2.1⟩ (xv_ixN (show (j + 1) % 48 < 48 by omega) (by omega)) rfl ?_
          refine xi_aload_n (q := 179) dX5_draw_178 rfl rfl ?_
          refine xi_getf (q := 182) dX5_draw_179 fl_X5_18 ⟨by omega, hQ.1⟩ rfl rfl ?_
          refine xi_iload (q := 184) dX5_draw_182 rfl rfl ?_
          refine xi_iald (q := 185) dX5_draw_184 ⟨by omega, hQ.2.2.2.1⟩ (xv_ixN (show (j + 1) % 48 < 48 by omega) (by omega)) rfl ?_
          refine xi_iload (q := 187) dX5_draw_185 rfl rfl ?_
          refine xi_iadd (q := 188) dX5_draw_187 rfl ?_
          refine xv_cS3 (q := 191) xm_X8_share ln_X5_44 dX5_draw_188 ⟨(Nat.le_of_ble_eq_true rfl), (Nat.le_of_ble_eq_true rfl)⟩ (Nat.le_of_ble_eq_true rfl) ⟨rfl, rfl⟩ rfl (Nat.zero_le _) (Nat.zero_le _) ?_
          refine ⟨_, _, _, rfl, xn_pos (by show 0 < (xs_opn f s m d (nI ((j + 1) % 48)) 1 + f 9).toInt; rw [eO1]; omega), ?_⟩
          rw [show (f 10 - (xs_v1 f d (nI (j + 1)) (xs_pr f s m (b * g / 4) d j) + xs_co f s m (b * g / 4) d (nI (j + 1)) (xs_pr f s m (b * g / 4) d j))) * (fun k => xs_opn f s m d (nI k) 1) ((j + 1) % 48) / ((fun k => xs_opn f s m d (nI k) 1) ((j + 1) % 48) + f 9) = (f 10 - xs_v2 f s m (b * g / 4) d (nI (j + 1)) (xs_pr f s m (b * g / 4) d j)) * xs_opn f s m d (nI (j + 1)) 1 / (xs_opn f s m d (nI (j + 1)) 1 + f 9) by show (f 10 - (xs_v1 f d (nI (j + 1)) (xs_pr f s m (b * g / 4) d j) + xs_co f s m (b * g / 4) d (nI (j + 1)) (xs_pr f s m (b * g / 4) d j))) * xs_opn f s m d (nI ((j + 1) % 48)) 1 / (xs_opn f s m d (nI ((j + 1) % 48)) 1 + f 9) = _; rw [eO1]; rfl]
          refine xi_iadd (q := 192) dX5_draw_191 rfl ?_
          refine xi_istore (q := 194) dX5_draw_192 (Nat.le_of_ble_eq_true rfl) rfl ?_
          refine xi_iload (q := 196) dX5_draw_194 rfl rfl ?_
          refine xi_iload (q := 198) dX5_draw_196 rfl rfl ?_
          refine xi_iload (q := 200) dX5_draw_198 rfl rfl ?_
          refine xi_isub (q := 201) dX5_draw_200 rfl ?_
          refine xi_iload (q := 203) dX5_draw_201 rfl rfl ?_
          refine xi_sipush (x := 200) (q := 206) dX5_draw_203 (by decide) rfl ?_
          refine xv_cS3 (q := 209) xm_X8_share ln_X5_44 dX5_draw_206 ⟨(Nat.le_of_ble_eq_true rfl), (Nat.le_of_ble_eq_true rfl)⟩ (Nat.le_of_ble_eq_true rfl) ⟨rfl, rfl⟩ rfl (Nat.zero_le _) (Nat.zero_le _) ?_
          refine ⟨_, _, _, rfl, by decide, ?_⟩
          refine xi_iadd (q := 210) dX5_draw_209 rfl ?_
          refine xi_istore (q := 212) dX5_draw_210 (Nat.le_of_ble_eq_true rfl) rfl ?_
          refine xi_aload_n (q := 213) dX5_draw_212 rfl rfl ?_
          refine xi_getf (q := 216) dX5_draw_213 fl_X5_21 ⟨by omega, hQ.1⟩ rfl rfl ?_
          refine xi_iload (q := 218) dX5_draw_216 rfl rfl ?_
          refine xi_iload (q := 220) dX5_draw_218 rfl rfl ?_
          refine xi_iast (q := 221) dX5_draw_220 ⟨by omega, hQ.2.2.2.2⟩ (xv_ixN (show (j + 1) % 48 < 48 by omega) (by omega)) rfl ?_
          refine xi_iload (q := 223) dX5_draw_221 rfl rfl ?_
          refine xi_istore (q := 225) dX5_draw_223 (Nat.le_of_ble_eq_true rfl) rfl ?_
          refine xi_iinc (y := nI ((j + 1) + 1)) (q := 228) dX5_draw_225 rfl (xn_inc (j + 1)) (Nat.le_of_ble_eq_true rfl) rfl ?_
          refine xi_goto (q := 61) dX5_draw_228 (by decide) ?_
          refine xv_weakS (lv' := [(0, .ref 17), (1, .ref e), (2, .int m), (3, .int b), (4, .int g), (5, .int d), (6, .int (b * g / 4)), (7, .int (f 10)), (8, .int (f 9)), (9, .int (f 8 + xs_chk s)), (10, .int (xs_leak s)), (11, .int (xs_pr f s m (b * g / 4) d (j + 1))), (12, .int (nI ((j + 1) % 48))), (13, .int (nI (j + 1 + 1)))]) ⟨rfl, rfl, rfl, rfl, rfl, rfl, rfl, rfl, rfl, rfl, rfl, rfl, rfl, rfl, trivial⟩ ?_
          exact ih (dd - 1) (by omega) (j + 1) _ _ (by omega) (xs_PC4 (xn_PCd hQ (xn_dnA (Or.inl (fun z => by rw [xn_lt] at z; rw [xn_le] at c_126; omega))).symm) _) (fun k hk1 hk2 => by
            by_cases e : k = (j + 1) % 48
            · rw [e, pk_us, show 96 + (j + 1) % 48 = j + 1 by omega]; rfl
            · rw [pk_un e]; exact hg k hk1 (by omega)) (fun i hi => (va_up_ne _ _ (by omega)).trans (hf0 i hi))
        · refine xi_iload (q := 131) dX5_draw_129 rfl rfl ?_
          refine xi_bipush (x := 96) (q := 133) dX5_draw_131 (by decide) rfl ?_
          refine xi_icmp_lt (q := 136) (q2 := 157) dX5_draw_133 (by decide) rfl (fun c_133 => ?_) (fun c_133 => ?_)
          · refine xi_iload (q := 159) dX5_draw_157 rfl rfl ?_
            refine xi_iload (q := 161) dX5_draw_159 rfl rfl ?_
            refine xi_iadd (q := 162) dX5_draw_161 rfl ?_
            refine xi_istore (q := 164) dX5_draw_162 (Nat.le_of_ble_eq_true rfl) rfl ?_
            refine xi_iload (q := 166) dX5_draw_164 rfl rfl ?_
            refine xi_iload (q := 168) dX5_draw_166 rfl rfl ?_
            refine xi_iload (q := 170) dX5_draw_168 rfl rfl ?_
            refine xi_isub (q := 171) dX5_draw_170 rfl ?_
            refine xi_aload_n (q := 172) dX5_draw_171 rfl rfl ?_
            refine xi_getf (q := 175) dX5_draw_172 fl_X5_18 ⟨by omega, hQ.1⟩ rfl rfl ?_
            refine xi_iload (q := 177) dX5_draw_175 rfl rfl ?_
            refine xi_iald (q := 178) dX5_draw_177 ⟨by omega, hQ.2.2.2.1⟩ (xv_ixN (show (j + 1) % 48 < 48 by omega) (by omega)) rfl ?_
            refine xi_aload_n (q := 179) dX5_draw_178 rfl rfl ?_
            refine xi_getf (q := 182) dX5_draw_179 fl_X5_18 ⟨by omega, hQ.1⟩ rfl rfl ?_
            refine xi_iload (q := 184) dX5_draw_182 rfl rfl ?_
            refine xi_iald (q := 185) dX5_draw_184 ⟨by omega, hQ.2.2.2.1⟩ (xv_ixN (show (j + 1) % 48 < 48 by omega) (by omega)) rfl ?_
            refine xi_iload (q := 187) dX5_draw_185 rfl rfl ?_
            refine xi_iadd (q := 188) dX5_draw_187 rfl ?_
            refine xv_cS3 (q := 191) xm_X8_share ln_X5_44 dX5_draw_188 ⟨(Nat.le_of_ble_eq_true rfl), (Nat.le_of_ble_eq_true rfl)⟩ (Nat.le_of_ble_eq_true rfl) ⟨rfl, rfl⟩ rfl (Nat.zero_le _) (Nat.zero_le _) ?_
            refine ⟨_, _, _, rfl, xn_pos (by show 0 < (xs_opn f s m d (nI ((j + 1) % 48)) 1 + f 9).toInt; rw [eO1]; omega), ?_⟩
            rw [show (f 10 - (xs_v1 f d (nI (j + 1)) (xs_pr f s m (b * g / 4) d j) + xs_co f s m (b * g / 4) d (nI (j + 1)) (xs_pr f s m (b * g / 4) d j))) * (fun k => xs_opn f s m d (nI k) 1) ((j + 1) % 48) / ((fun k => xs_opn f s m d (nI k) 1) ((j + 1) % 48) + f 9) = (f 10 - xs_v2 f s m (b * g / 4) d (nI (j + 1)) (xs_pr f s m (b * g / 4) d j)) * xs_opn f s m d (nI (j + 1)) 1 / (xs_opn f s m d (nI (j + 1)) 1 + f 9) by show (f 10 - (xs_v1 f d (nI (j + 1)) (xs_pr f s m (b * g / 4) d j) + xs_co f s m (b * g / 4) d (nI (j + 1)) (xs_pr f s m (b * g / 4) d j))) * xs_opn f s m d (nI ((j + 1) % 48)) 1 / (xs_opn f s m d (nI ((j + 1) % 48)) 1 + f 9) = _; rw [eO1]; rfl]
            refine xi_iadd (q := 192) dX5_draw_191 rfl ?_
            refine xi_istore (q := 194) dX5_draw_192 (Nat.le_of_ble_eq_true rfl) rfl ?_
            refine xi_iload (q := 196) dX5_draw_194 rfl rfl ?_
            refine xi_iload (q := 198) dX5_draw_196 rfl rfl ?_
            refine xi_iload (q := 200) dX5_draw_198 rfl rfl ?_
            refine xi_isub (q := 201) dX5_draw_200 rfl ?_
            refine xi_iload (q := 203) dX5_draw_201 rfl rfl ?_
            refine xi_sipush (x := 200) (q := 206) dX5_draw_203 (by decide) rfl ?_
            refine xv_cS3 (q := 209) xm_X8_share ln_X5_44 dX5_draw_206 ⟨(Nat.le_of_ble_eq_true rfl), (Nat.le_of_ble_eq_true rfl)⟩ (Nat.le_of_ble_eq_true rfl) ⟨rfl, rfl⟩ rfl (Nat.zero_le _) (Nat.zero_le _) ?_
            refine ⟨_, _, _, rfl, by decide, ?_⟩
            refine xi_iadd (q := 210) dX5_draw_209 rfl ?_
            refine xi_istore (q := 212) dX5_draw_210 (Nat.le_of_ble_eq_true rfl) rfl ?_
            refine xi_aload_n (q := 213) dX5_draw_212 rfl rfl ?_
            refine xi_getf (q := 216) dX5_draw_213 fl_X5_21 ⟨by omega, hQ.1⟩ rfl rfl ?_
            refine xi_iload (q := 218) dX5_draw_216 rfl rfl ?_
            refine xi_iload (q := 220) dX5_draw_218 rfl rfl ?_
            refine xi_iast (q := 221) dX5_draw_220 ⟨by omega, hQ.2.2.2.2⟩ (xv_ixN (show (j + 1) % 48 < 48 by omega) (by omega)) rfl ?_
            refine xi_iload (q := 223) dX5_draw_221 rfl rfl ?_
            refine xi_istore (q := 225) dX5_draw_223 (Nat.le_of_ble_eq_true rfl) rfl ?_
            refine xi_iinc (y := nI ((j + 1) + 1)) (q := 228) dX5_draw_225 rfl (xn_inc (j + 1)) (Nat.le_of_ble_eq_true rfl) rfl ?_
            refine xi_goto (q := 61) dX5_draw_228 (by decide) ?_
            refine xv_weakS (lv' := [(0, .ref 17), (1, .ref e), (2, .int m), (3, .int b), (4, .int g), (5, .int d), (6, .int (b * g / 4)), (7, .int (f 10)), (8, .int (f 9)), (9, .int (f 8 + xs_chk s)), (10, .int (xs_leak s)), (11, .int (xs_pr f s m (b * g / 4) d (j + 1))), (12, .int (nI ((j + 1) % 48))), (13, .int (nI (j + 1 + 1)))]) ⟨rfl, rfl, rfl, rfl, rfl, rfl, rfl, rfl, rfl, rfl, rfl, rfl, rfl, rfl, trivial⟩ ?_
            exact ih (dd - 1) (by omega) (j + 1) _ _ (by omega) (xs_PC4 (xn_PCd hQ (xn_dnA (Or.inr (by rw [xn_lt, hT, show (96 : Int32).toInt = 96 from rfl] at c_133; omega))).symm) _) (fun k hk1 hk2 => by
              by_cases e : k = (j + 1) % 48
              · rw [e, pk_us, show 96 + (j + 1) % 48 = j + 1 by omega]; rfl
              · rw [pk_un e]; exact hg k hk1 (by omega)) (fun i hi => (va_up_ne _ _ (by omega)).trans (hf0 i hi))
          · refine xi_aload_n (q := 137) dX5_draw_136 rfl rfl ?_
            refine xi_dup (q := 138) dX5_draw_137 rfl rfl ?_
            refine xi_getf (q := 141) dX5_draw_138 fl_X5_40 ⟨by omega, hQ.1⟩ rfl rfl ?_
            refine xi_iload (q := 143) dX5_draw_141 rfl rfl ?_
            refine xi_i2l (q := 144) dX5_draw_143 rfl ?_
            refine xi_aload_n (q := 145) dX5_draw_144 rfl rfl ?_
            refine xi_getf (q := 148) dX5_draw_145 fl_X5_9 ⟨by omega, hQ.1⟩ rfl rfl ?_
            refine xi_iload (q := 150) dX5_draw_148 rfl rfl ?_
            refine xi_iald (q := 151) dX5_draw_150 ⟨by omega, hQ.2.1⟩ (xv_ixN (show (j + 1) % 48 < 48 by omega) (by omega)) rfl ?_
            rw [eR1]
            refine xi_i2l (q := 152) dX5_draw_151 rfl ?_
            refine xi_lmul (q := 153) dX5_draw_152 rfl ?_
            refine xi_ladd (q := 154) dX5_draw_153 rfl ?_
            refine xi_putf (q := 157) dX5_draw_154 fl_X5_40 ⟨by omega, hQ.1⟩ (Or.inl rfl) (fun _ => rfl) (fun _ => rfl) (Nat.le_of_ble_eq_true rfl) rfl ?_
            refine xi_iload (q := 159) dX5_draw_157 rfl rfl ?_
            refine xi_iload (q := 161) dX5_draw_159 rfl rfl ?_
            refine xi_iadd (q := 162) dX5_draw_161 rfl ?_
            refine xi_istore (q := 164) dX5_draw_162 (Nat.le_of_ble_eq_true rfl) rfl ?_
            refine xi_iload (q := 166) dX5_draw_164 rfl rfl ?_
            refine xi_iload (q := 168) dX5_draw_166 rfl rfl ?_
            refine xi_iload (q := 170) dX5_draw_168 rfl rfl ?_
            refine xi_isub (q := 171) dX5_draw_170 rfl ?_
            refine xi_aload_n (q := 172) dX5_draw_171 rfl rfl ?_
            refine xi_getf (q := 175) dX5_draw_172 fl_X5_18 (xv_self (by omega)) rfl rfl ?_
            refine xi_iload (q := 177) dX5_draw_175 rfl rfl ?_
            refine xi_iald (q := 178) dX5_draw_177 (xv_keep (by omega) ⟨by omega, hQ.2.2.2.1⟩) (xv_ixN (show (j + 1) % 48 < 48 by omega) (by omega)) rfl ?_
            refine xi_aload_n (q := 179) dX5_draw_178 rfl rfl ?_
            refine xi_getf (q := 182) dX5_draw_179 fl_X5_18 (xv_self (by omega)) rfl rfl ?_
            refine xi_iload (q := 184) dX5_draw_182 rfl rfl ?_
            refine xi_iald (q := 185) dX5_draw_184 (xv_keep (by omega) ⟨by omega, hQ.2.2.2.1⟩) (xv_ixN (show (j + 1) % 48 < 48 by omega) (by omega)) rfl ?_
            refine xi_iload (q := 187) dX5_draw_185 rfl rfl ?_
            refine xi_iadd (q := 188) dX5_draw_187 rfl ?_
            refine xv_cS3 (q := 191) xm_X8_share ln_X5_44 dX5_draw_188 ⟨(Nat.le_of_ble_eq_true rfl), (Nat.le_of_ble_eq_true rfl)⟩ (Nat.le_of_ble_eq_true rfl) ⟨rfl, rfl⟩ rfl (Nat.zero_le _) (Nat.zero_le _) ?_
            refine ⟨_, _, _, rfl, xn_pos (by show 0 < (xs_opn f s m d (nI ((j + 1) % 48)) 1 + f 9).toInt; rw [eO1]; omega), ?_⟩
            rw [show (f 10 - (xs_v1 f d (nI (j + 1)) (xs_pr f s m (b * g / 4) d j) + xs_co f s m (b * g / 4) d (nI (j + 1)) (xs_pr f s m (b * g / 4) d j))) * (fun k => xs_opn f s m d (nI k) 1) ((j + 1) % 48) / ((fun k => xs_opn f s m d (nI k) 1) ((j + 1) % 48) + f 9) = (f 10 - xs_v2 f s m (b * g / 4) d (nI (j + 1)) (xs_pr f s m (b * g / 4) d j)) * xs_opn f s m d (nI (j + 1)) 1 / (xs_opn f s m d (nI (j + 1)) 1 + f 9) by show (f 10 - (xs_v1 f d (nI (j + 1)) (xs_pr f s m (b * g / 4) d j) + xs_co f s m (b * g / 4) d (nI (j + 1)) (xs_pr f s m (b * g / 4) d j))) * xs_opn f s m d (nI ((j + 1) % 48)) 1 / (xs_opn f s m d (nI ((j + 1) % 48)) 1 + f 9) = _; rw [eO1]; rfl]
            refine xi_iadd (q := 192) dX5_draw_191 rfl ?_
            refine xi_istore (q := 194) dX5_draw_192 (Nat.le_of_ble_eq_true rfl) rfl ?_
            refine xi_iload (q := 196) dX5_draw_194 rfl rfl ?_
            refine xi_iload (q := 198) dX5_draw_196 rfl rfl ?_
            refine xi_iload (q := 200) dX5_draw_198 rfl rfl ?_
            refine xi_isub (q := 201) dX5_draw_200 rfl ?_
            refine xi_iload (q := 203) dX5_draw_201 rfl rfl ?_
            refine xi_sipush (x := 200) (q := 206) dX5_draw_203 (by decide) rfl ?_
            refine xv_cS3 (q := 209) xm_X8_share ln_X5_44 dX5_draw_206 ⟨(Nat.le_of_ble_eq_true rfl), (Nat.le_of_ble_eq_true rfl)⟩ (Nat.le_of_ble_eq_true rfl) ⟨rfl, rfl⟩ rfl (Nat.zero_le _) (Nat.zero_le _) ?_
            refine ⟨_, _, _, rfl, by decide, ?_⟩
            refine xi_iadd (q := 210) dX5_draw_209 rfl ?_
            refine xi_istore (q := 212) dX5_draw_210 (Nat.le_of_ble_eq_true rfl) rfl ?_
            refine xi_aload_n (q := 213) dX5_draw_212 rfl rfl ?_
            refine xi_getf (q := 216) dX5_draw_213 fl_X5_21 (xv_self (by omega)) rfl rfl ?_
            refine xi_iload (q := 218) dX5_draw_216 rfl rfl ?_
            refine xi_iload (q := 220) dX5_draw_218 rfl rfl ?_
            refine xi_iast (q := 221) dX5_draw_220 (xv_keep (by omega) ⟨by omega, hQ.2.2.2.2⟩) (xv_ixN (show (j + 1) % 48 < 48 by omega) (by omega)) rfl ?_
            refine xi_iload (q := 223) dX5_draw_221 rfl rfl ?_
            refine xi_istore (q := 225) dX5_draw_223 (Nat.le_of_ble_eq_true rfl) rfl ?_
            refine xi_iinc (y := nI ((j + 1) + 1)) (q := 228) dX5_draw_225 rfl (xn_inc (j + 1)) (Nat.le_of_ble_eq_true rfl) rfl ?_
            refine xi_goto (q := 61) dX5_draw_228 (by decide) ?_
            refine xv_weakS (lv' := [(0, .ref 17), (1, .ref e), (2, .int m), (3, .int b), (4, .int g), (5, .int d), (6, .int (b * g / 4)), (7, .int (f 10)), (8, .int (f 9)), (9, .int (f 8 + xs_chk s)), (10, .int (xs_leak s)), (11, .int (xs_pr f s m (b * g / 4) d (j + 1))), (12, .int (nI ((j + 1) % 48))), (13, .int (nI (j + 1 + 1)))]) ⟨rfl, rfl, rfl, rfl, rfl, rfl, rfl, rfl, rfl, rfl, rfl, rfl, rfl, rfl, trivial⟩ ?_
            exact ih (dd - 1) (by omega) (j + 1) _ _ (by omega) (xs_PC4 (xn_PCd (xs_PC0 hQ _ _ _) (xn_dnB (by rw [xn_lt]; rw [xn_le] at c_126; omega) (by rw [xn_lt, hT, show (96 : Int32).toInt = 96 from rfl] at c_133; omega)).symm) _) (fun k hk1 hk2 => by
              by_cases e : k = (j + 1) % 48
              · rw [e, pk_us, show 96 + (j + 1) % 48 = j + 1 by omega]; rfl
              · rw [pk_un e]; exact hg k hk1 (by omega)) (fun i hi => (va_up_ne _ _ (by omega)).trans ((va_up_ne _ _ (by omega)).trans (hf0 i hi)))
  refine xi_aload_n (q := 1) dX5_draw_0 rfl rfl ?_
  refine xi_aload_n (q := 2) dX5_draw_1 rfl rfl ?_
  refine xi_iload_n (q := 3) dX5_draw_2 rfl rfl ?_
  refine xi_iload (q := 5) dX5_draw_3 rfl rfl ?_
  refine xv_cV3 (q := 8) xm_X5_prepare ln_X5_24 dX5_draw_5 ⟨by omega, hP.1⟩ rfl ⟨(Nat.le_of_ble_eq_true rfl), (Nat.le_of_ble_eq_true rfl)⟩ (Nat.le_of_ble_eq_true rfl) ⟨rfl, rfl⟩ rfl (Nat.zero_le _) (Nat.zero_le _) ?_
  refine ⟨dn, wk, dk, r1, r2, r3, r4, e, f, s, t, m, d, rfl, hn, hE, hN, hP, h21, he, hok, hd, fun h2 q1 q2 => ?_⟩
  have hE2 := (q2 e (by omega)).trans hE
  have hN2 := (q2 (e + 1) (by omega)).trans hN
  refine xi_iload_n (q := 9) dX5_draw_8 rfl rfl ?_
  refine xi_iload (q := 11) dX5_draw_9 rfl rfl ?_
  refine xi_imul (q := 12) dX5_draw_11 rfl ?_
  refine xi_iconst (x := 4) (q := 13) dX5_draw_12 (by decide) rfl ?_
  refine xi_idiv (q := 14) dX5_draw_13 (by decide) rfl ?_
  refine xi_istore (q := 16) dX5_draw_14 (Nat.le_of_ble_eq_true rfl) rfl ?_
  refine xi_aload_n (q := 17) dX5_draw_16 rfl rfl ?_
  refine xi_getf (q := 20) dX5_draw_17 fl_X5_28 ⟨by omega, hE2⟩ rfl rfl ?_
  refine xi_bipush (x := 10) (q := 22) dX5_draw_20 (by decide) rfl ?_
  refine xi_iald (q := 23) dX5_draw_22 ⟨hn, hN2⟩ ⟨xv_ink (by decide), (by decide : (10 : Int32).toNatClampNeg = 10)⟩ rfl ?_
  refine xi_istore (q := 25) dX5_draw_23 (Nat.le_of_ble_eq_true rfl) rfl ?_
  refine xi_aload_n (q := 26) dX5_draw_25 rfl rfl ?_
  refine xi_getf (q := 29) dX5_draw_26 fl_X5_28 ⟨by omega, hE2⟩ rfl rfl ?_
  refine xi_bipush (x := 9) (q := 31) dX5_draw_29 (by decide) rfl ?_
  refine xi_iald (q := 32) dX5_draw_31 ⟨hn, hN2⟩ ⟨xv_ink (by decide), (by decide : (9 : Int32).toNatClampNeg = 9)⟩ rfl ?_
  refine xi_istore (q := 34) dX5_draw_32 (Nat.le_of_ble_eq_true rfl) rfl ?_
  refine xi_aload_n (q := 35) dX5_draw_34 rfl rfl ?_
  refine xv_cV0 (q := 38) xm_X0_choke ln_X5_33 dX5_draw_35 ⟨by omega, hE2⟩ rfl ⟨(Nat.le_of_ble_eq_true rfl), (Nat.le_of_ble_eq_true rfl)⟩ (Nat.le_of_ble_eq_true rfl) ⟨rfl, rfl⟩ rfl (Nat.zero_le _) (Nat.zero_le _) ?_
  refine ⟨e, f, s, t, rfl, hn, hE2, hN2, ?_⟩
  refine xi_istore (q := 40) dX5_draw_38 (Nat.le_of_ble_eq_true rfl) rfl ?_
  refine xi_aload_n (q := 41) dX5_draw_40 rfl rfl ?_
  refine xv_cV0 (q := 44) xm_X0_leak ln_X5_37 dX5_draw_41 ⟨by omega, hE2⟩ rfl ⟨(Nat.le_of_ble_eq_true rfl), (Nat.le_of_ble_eq_true rfl)⟩ (Nat.le_of_ble_eq_true rfl) ⟨rfl, rfl⟩ rfl (Nat.zero_le _) (Nat.zero_le _) ?_
  refine ⟨e, f, s, t, rfl, hn, hE2, hN2, ?_⟩
  refine xi_istore (q := 46) dX5_draw_44 (Nat.le_of_ble_eq_true rfl) rfl ?_
  refine xi_iload (q := 48) dX5_draw_46 rfl rfl ?_
  refine xi_istore (q := 50) dX5_draw_48 (Nat.le_of_ble_eq_true rfl) rfl ?_
  refine xi_iconst (x := 0) (q := 51) dX5_draw_50 (by decide) rfl ?_
  refine xi_istore (q := 53) dX5_draw_51 (Nat.le_of_ble_eq_true rfl) rfl ?_
  refine xi_aload_n (q := 54) dX5_draw_53 rfl rfl ?_
  refine xi_lconst (x := 0) (q := 55) dX5_draw_54 (by decide) rfl ?_
  refine xi_putf (q := 58) dX5_draw_55 fl_X5_40 ⟨by omega, q1.1⟩ (Or.inl rfl) (fun _ => rfl) (fun _ => rfl) (Nat.le_of_ble_eq_true rfl) rfl ?_
  refine xi_iconst (x := 1) (q := 59) dX5_draw_58 (by decide) rfl ?_
  refine xi_istore (q := 61) dX5_draw_59 (Nat.le_of_ble_eq_true rfl) rfl ?_
  refine xv_weakS (lv' := [(0, .ref 17), (1, .ref e), (2, .int m), (3, .int b), (4, .int g), (5, .int d), (6, .int (b * g / 4)), (7, .int (f 10)), (8, .int (f 9)), (9, .int (f 8 + xs_chk s)), (10, .int (xs_leak s)), (11, .int (xs_pr f s m (b * g / 4) d 0)), (12, .int (nI (0 % 48))), (13, .int (nI (0 + 1)))]) ⟨rfl, rfl, rfl, rfl, rfl, rfl, rfl, rfl, rfl, rfl, rfl, rfl, rfl, rfl, trivial⟩ ?_
  exact L61 143 0 _ r4 (by omega) (xs_PC0 q1 0 wk dk) (fun k hk1 hk2 => absurd hk2 (by omega)) (fun i hi => (va_up_ne _ _ (by omega)).trans (q2 i hi))

theorem xn_psLc {f g : Nat → Int64} : ∀ {k : Nat}, (∀ j, j < k → f j = g j) → xs_psL f k = xs_psL g k
  | 0, _ => rfl
  | k + 1, h => by
    show xs_psL f k + f k = xs_psL g k + g k
    rw [xn_psLc (fun j hj => h j (by omega)), h k (by omega)]
theorem xn_ed (d a : Int32) (x y : Int32) (hd : d = 0 ∨ d = 1) (ha : 0 ≤ a.toInt ∧ a.toInt ≤ 200) (hx : 0 ≤ x.toInt ∧ x.toInt ≤ 1000) (hy : 0 ≤ y.toInt ∧ y.toInt ≤ 1000) : (a + if d = 0 then y else 1000 - y) - (a + if d = 0 then x else 1000 - x) = if d = 0 then y - x else -(y - x) := by
  have h1000 : (1000 : Int32).toInt = 1000 := rfl
  have e1 : (y - x).toInt = y.toInt - x.toInt := xn_sub (by omega) (by omega)
  rw [xn_eq]
  rcases hd with rfl | rfl
  · rw [if_pos rfl, if_pos rfl, if_pos rfl]
    have e2 : (a + y).toInt = a.toInt + y.toInt := xn_add (by omega) (by omega)
    have e3 : (a + x).toInt = a.toInt + x.toInt := xn_add (by omega) (by omega)
    rw [xn_sub (by omega) (by omega), e1, e2, e3]
    omega
  · rw [if_neg (by decide), if_neg (by decide), if_neg (by decide)]
    have e2 : (1000 - y).toInt = 1000 - y.toInt := by rw [xn_sub (by omega) (by omega), h1000]
    have e3 : (1000 - x).toInt = 1000 - x.toInt := by rw [xn_sub (by omega) (by omega), h1000]
    have e4 : (a + (1000 - y)).toInt = a.toInt + (1000 - y.toInt) := by rw [xn_add (by omega) (by omega), e2]
    have e5 : (a + (1000 - x)).toInt = a.toInt + (1000 - x.toInt) := by rw [xn_add (by omega) (by omega), e3]
    rw [xn_sub (by omega) (by omega), xn_neg (by omega), e1, e4, e5]
    omega
theorem xn_wk {f : Nat → Int32} {s m B d : Int32} (hf : xs_ok f) (hd : d = 0 ∨ d = 1) : xs_psL (xs_pu1 (fun k => xs_rom f d (nI k)) (fun k => xs_cd f s m B d k)) 48 = xs_psL (xs_wk1 f s m B d) 48 := by
  refine xn_psLc fun k hk => ?_
  unfold xs_pu1 xs_wk1
  show (xs_cd f s m B d k + xs_cd f s m B d ((k + 1) % 48)).toInt64 * (xs_rom f d (nI ((k + 1) % 48)) - xs_rom f d (nI k)).toInt64 = _
  have hk1 : (nI k).toInt = (k : Nat) := xn_NI (by omega)
  have hk2 : (nI (k + 1)).toInt = (k + 1 : Nat) := xn_NI (by omega)
  have hk3 : (nI ((k + 1) % 48)).toInt = ((k + 1) % 48 : Nat) := xn_NI (by omega)
  have e1 : xs_rom f d (nI ((k + 1) % 48)) = xs_rom f d (nI (k + 1)) := xn_romP (by omega) (by omega) (by omega)
  rw [e1]
  unfold xs_rom
  rw [xn_ed d (f 7) _ _ hd (by have := hf.2.2.2.2.2.2.2.1; omega) (xn_pisb hf.1 (by omega)) (xn_pisb hf.1 (by omega))]

set_option maxRecDepth 20000 in
set_option maxHeartbeats 2000000 in
/-- measure -/
theorem xm_X5_measure : xv_K yX5_measure mX5_measure (fun as h n Post => ∃ (dn : Int64) (wk : Int32) (dk : Int32) (r1 : Nat → Int32) (r2 : Nat → Int32) (r3 : Nat → Int32) (r4 : Nat → Int32) (e : Nat) (f : Nat → Int32) (s : Int32) (t : Int32) (m : Int32) (b : Int32) (g : Int32), as = [.ref 17, .ref e, .int m, .int b, .int g] ∧ (e + 1 < n) ∧ (h e = .inr (0, [.ref (e + 1), .int s, .int t])) ∧ (h (e + 1) = .inl (.int, 11, .inl f)) ∧ (xs_PC h dn wk dk r1 r2 r3 r4) ∧ (21 < n) ∧ (e + 1 < 17 ∨ 21 < e) ∧ (xs_ok f) ∧ (0 ≤ b.toInt ∧ b.toInt ≤ 2000) ∧ (0 ≤ g.toInt ∧ g.toInt ≤ 4) ∧ (∀ (h' : xv_H) (dn' : Int64) (q1 q2 q3 q4 : Nat → Int32), xs_PC h' dn' (xs_wrk f s m (b * g / 4)) (xs_drk f s m (b * g / 4)) q1 q2 q3 q4 → (∀ i, i < 17 ∨ 21 < i → h' i = h i) → Post none h' n)) := by
  refine xv_entry (by decide +kernel) rfl (fun h => absurd h (by decide)) ?_
  rintro X _ h n Post ⟨dn, wk, dk, r1, r2, r3, r4, e, f, s, t, m, b, g, rfl, hn, hE, hN, hP, h21, he, hok, hb, hg0, hp⟩
  refine ⟨Nat.le_of_ble_eq_true rfl, ?_⟩
  show xv_V X mX5_measure Post 0 0 0 [(0, .ref 17), (1, .ref e), (2, .int m), (3, .int b), (4, .int g)] [] h n
  have L9 : ∀ (dd k : Nat) (hh : xv_H) (dn : Int64) (r1 r2 r3 r4 : Nat → Int32), k + dd = 2 → xs_PC hh dn wk dk r1 r2 r3 r4 → (∀ i, i < 17 ∨ 21 < i → hh i = h i) → xv_V X mX5_measure Post 0 0 9 [(0, .ref 17), (1, .ref e), (2, .int m), (3, .int b), (4, .int g), (5, .long (xs_psL (fun q => xs_psL (xs_wk1 f s m (b * g / 4) (nI q)) 48) k)), (7, .long (xs_psL (fun q => xs_dr f s m (b * g / 4) (nI q)) k)), (9, .int (nI k))] [] hh n := by
    intro dd
    induction dd using Nat.strongRecOn with
    | _ dd ih =>
      intro k hh dn r1 r2 r3 r4 hk hQ hf0
      refine xi_iload (q := 11) dX5_measure_9 rfl rfl ?_
      refine xi_iconst (x := 2) (q := 12) dX5_measure_11 (by decide) rfl ?_
      refine xi_icmp_ge (q := 15) (q2 := 50) dX5_measure_12 (by decide) rfl (fun c_12 => ?_) (fun c_12 => ?_)
      · have hk2 : k = 2 := by have z : 2 ≤ k := xn_leN c_12 (by omega) (by omega); omega
        subst hk2
        refine xi_aload_n (q := 51) dX5_measure_50 rfl rfl ?_
        refine xi_lload (q := 53) dX5_measure_51 rfl rfl ?_
        refine xi_ldc2 (q := 56) dX5_measure_53 kc_X5_56 rfl ?_
        refine xi_ldiv (q := 57) dX5_measure_56 (by decide) rfl ?_
        refine xi_l2i (q := 58) dX5_measure_57 rfl ?_
        refine xi_putf (q := 61) dX5_measure_58 fl_X5_58 ⟨by omega, hQ.1⟩ (Or.inl rfl) (fun _ => rfl) (fun _ => rfl) (Nat.le_of_ble_eq_true rfl) rfl ?_
        refine xi_aload_n (q := 62) dX5_measure_61 rfl rfl ?_
        refine xi_lload (q := 64) dX5_measure_62 rfl rfl ?_
        refine xi_ldc2 (q := 67) dX5_measure_64 kc_X5_62 rfl ?_
        refine xi_ldiv (q := 68) dX5_measure_67 (by decide) rfl ?_
        refine xi_l2i (q := 69) dX5_measure_68 rfl ?_
        refine xi_putf (q := 72) dX5_measure_69 fl_X5_64 (xv_self (by omega)) (Or.inl rfl) (fun _ => rfl) (fun _ => rfl) (Nat.le_of_ble_eq_true rfl) rfl ?_
        refine xi_vret ⟨rfl, dX5_measure_72⟩ (Nat.zero_le _) (Nat.zero_le _) ?_
        rw [bx_uu]
        exact hp _ _ _ _ _ _ (by
          have e1 : xs_psL (fun q => xs_psL (xs_wk1 f s m (b * g / 4) (nI q)) 48) 2 = xs_psL (xs_wk1 f s m (b * g / 4) 0) 48 + xs_psL (xs_wk1 f s m (b * g / 4) 1) 48 := by show 0 + _ + _ = _; rw [Int64.zero_add]; rfl
          have e2 : xs_psL (fun q => xs_dr f s m (b * g / 4) (nI q)) 2 = xs_dr f s m (b * g / 4) 0 + xs_dr f s m (b * g / 4) 1 := by show 0 + _ + _ = _; rw [Int64.zero_add]; rfl
          rw [e1, e2]
          exact xs_PC0 hQ _ _ _) (fun i hi => (va_up_ne _ _ (by omega)).trans (hf0 i hi))
      · have hk2 : k < 2 := xn_nleN c_12 (by omega) (by omega)
        have hd : nI k = 0 ∨ nI k = 1 := by
          rcases (show k = 0 ∨ k = 1 by omega) with rfl | rfl
          · exact Or.inl rfl
          · exact Or.inr rfl
        refine xi_aload_n (q := 16) dX5_measure_15 rfl rfl ?_
        refine xi_aload_n (q := 17) dX5_measure_16 rfl rfl ?_
        refine xi_iload_n (q := 18) dX5_measure_17 rfl rfl ?_
        refine xi_iload_n (q := 19) dX5_measure_18 rfl rfl ?_
        refine xi_iload (q := 21) dX5_measure_19 rfl rfl ?_
        refine xi_iload (q := 23) dX5_measure_21 rfl rfl ?_
        refine xv_cV5 (q := 26) xm_X5_draw ln_X5_48 dX5_measure_23 ⟨by omega, hQ.1⟩ rfl ⟨(Nat.le_of_ble_eq_true rfl), (Nat.le_of_ble_eq_true rfl)⟩ (Nat.le_of_ble_eq_true rfl) ⟨rfl, rfl⟩ rfl (Nat.zero_le _) (Nat.zero_le _) ?_
        refine ⟨_, wk, dk, _, _, _, _, e, f, s, t, m, b, g, nI k, rfl, hn, (hf0 e (by omega)).trans hE, (hf0 (e + 1) (by omega)).trans hN, hQ, h21, he, hok, hd, hb, hg0, fun h2 q1 q2 => ?_⟩
        refine xi_lload (q := 28) dX5_measure_26 rfl rfl ?_
        refine xi_aload_n (q := 29) dX5_measure_28 rfl rfl ?_
        refine xv_cV0 (q := 32) xm_X5_pushed ln_X5_52 dX5_measure_29 ⟨by omega, q1.1⟩ rfl ⟨(Nat.le_of_ble_eq_true rfl), (Nat.le_of_ble_eq_true rfl)⟩ (Nat.le_of_ble_eq_true rfl) ⟨rfl, rfl⟩ rfl (Nat.zero_le _) (Nat.zero_le _) ?_
        refine ⟨_, wk, dk, _, _, _, _, rfl, q1, h21, ?_⟩
        rw [xn_wk hok hd]
        refine xi_ladd (q := 33) dX5_measure_32 rfl ?_
        refine xi_lstore (q := 35) dX5_measure_33 (Nat.le_of_ble_eq_true rfl) rfl ?_
        refine xi_lload (q := 37) dX5_measure_35 rfl rfl ?_
        refine xi_aload_n (q := 38) dX5_measure_37 rfl rfl ?_
        refine xi_getf (q := 41) dX5_measure_38 fl_X5_40 ⟨by omega, q1.1⟩ rfl rfl ?_
        refine xi_ladd (q := 42) dX5_measure_41 rfl ?_
        refine xi_lstore (q := 44) dX5_measure_42 (Nat.le_of_ble_eq_true rfl) rfl ?_
        refine xi_iinc (y := nI (k + 1)) (q := 47) dX5_measure_44 rfl (xn_inc k) (Nat.le_of_ble_eq_true rfl) rfl ?_
        refine xi_goto (q := 9) dX5_measure_47 (by decide) ?_
        refine xv_weakS (lv' := [(0, .ref 17), (1, .ref e), (2, .int m), (3, .int b), (4, .int g), (5, .long (xs_psL (fun q => xs_psL (xs_wk1 f s m (b * g / 4) (nI q)) 48) (k + 1))), (7, .long (xs_psL (fun q => xs_dr f s m (b * g / 4) (nI q)) (k + 1))), (9, .int (nI (k + 1)))]) ⟨rfl, rfl, rfl, rfl, rfl, rfl, rfl, rfl, trivial⟩ ?_
        exact ih (dd - 1) (by omega) (k + 1) h2 _ _ _ _ _ (by omega) q1 (fun i hi => (q2 i hi).trans (hf0 i hi))
  refine xi_lconst (x := 0) (q := 1) dX5_measure_0 (by decide) rfl ?_
  refine xi_lstore (q := 3) dX5_measure_1 (Nat.le_of_ble_eq_true rfl) rfl ?_
  refine xi_lconst (x := 0) (q := 4) dX5_measure_3 (by decide) rfl ?_
  refine xi_lstore (q := 6) dX5_measure_4 (Nat.le_of_ble_eq_true rfl) rfl ?_
  refine xi_iconst (x := 0) (q := 7) dX5_measure_6 (by decide) rfl ?_
  refine xi_istore (q := 9) dX5_measure_7 (Nat.le_of_ble_eq_true rfl) rfl ?_
  refine xv_weakS (lv' := [(0, .ref 17), (1, .ref e), (2, .int m), (3, .int b), (4, .int g), (5, .long (xs_psL (fun q => xs_psL (xs_wk1 f s m (b * g / 4) (nI q)) 48) 0)), (7, .long (xs_psL (fun q => xs_dr f s m (b * g / 4) (nI q)) 0)), (9, .int (nI 0))]) ⟨rfl, rfl, rfl, rfl, rfl, rfl, rfl, rfl, trivial⟩ ?_
  exact L9 2 0 h dn r1 r2 r3 r4 (by omega) hP (fun _ _ => rfl)
