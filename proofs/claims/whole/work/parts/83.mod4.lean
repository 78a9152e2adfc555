theorem xn_nzp {x : Int32} (h : 0 < x.toInt) : ¬ x = 0 := fun z => by
  rw [z, show (0 : Int32).toInt = 0 from rfl] at h
  omega
set_option maxRecDepth 20000 in
set_option maxHeartbeats 2000000 in
/-- room -/
theorem xm_X9_room : xv_K yX9_room mX9_room (fun as h n Post => ∃ (fa : Nat → Int32) (dk : Int64) (nu : Nat → Int32) (p : Nat) (d : Int32) (k : Int32), as = [.ref 83, .int (nI p), .int d, .int k] ∧ (xs_MW h fa dk nu) ∧ (103 < n) ∧ (p < 7) ∧ (xs_ok0 (nu (12 * p + 0))) ∧ Post (some (.int (xs_rom (xs_nr nu p) d k))) h n) := by
  refine xv_entry (by decide +kernel) rfl (fun h => absurd h (by decide)) ?_
  rintro X _ h n Post ⟨fa, dk, nu, p, d, k, rfl, hW, h103, hp7, hr, hp⟩
  refine ⟨Nat.le_of_ble_eq_true rfl, ?_⟩
  show xv_V X mX9_room Post 0 0 0 [(0, .ref 83), (1, .int (nI p)), (2, .int d), (3, .int k)] [] h n
  refine xi_aload_n (q := 1) dX9_room_0 rfl rfl ?_
  refine xi_iload_n (q := 2) dX9_room_1 rfl rfl ?_
  refine xi_iload_n (q := 3) dX9_room_2 rfl rfl ?_
  refine xv_cV2 (q := 6) xm_X9_pistonAt ln_X9_167 dX9_room_3 ⟨by omega, hW.1⟩ rfl ⟨(Nat.le_of_ble_eq_true rfl), (Nat.le_of_ble_eq_true rfl)⟩ (Nat.le_of_ble_eq_true rfl) ⟨rfl, rfl⟩ rfl (Nat.zero_le _) (Nat.zero_le _) ?_
  refine ⟨_, _, _, p, k, rfl, hW, h103, hp7, hr, ?_⟩
  refine xi_istore (q := 8) dX9_room_6 (Nat.le_of_ble_eq_true rfl) rfl ?_
  refine xi_aload_n (q := 9) dX9_room_8 rfl rfl ?_
  refine xi_getf (q := 12) dX9_room_9 fl_X9_23 ⟨by omega, hW.1⟩ rfl rfl ?_
  refine xi_bipush (x := 12) (q := 14) dX9_room_12 (by decide) rfl ?_
  refine xi_iload_n (q := 15) dX9_room_14 rfl rfl ?_
  refine xi_imul (q := 16) dX9_room_15 rfl ?_
  refine xi_bipush (x := 7) (q := 18) dX9_room_16 (by decide) rfl ?_
  refine xi_iadd (q := 19) dX9_room_18 rfl ?_
  refine xi_iald (q := 20) dX9_room_19 ⟨by omega, hW.2.1⟩ (xn_ix12 (j := 7) hp7 (by omega)) rfl ?_
  refine xi_iload_n (q := 21) dX9_room_20 rfl rfl ?_
  refine xi_if_ne (q := 24) (q2 := 29) dX9_room_21 (by decide) rfl (fun c_21 => ?_) (fun c_21 => ?_)
  · refine xi_sipush (x := 1000) (q := 32) dX9_room_29 (by decide) rfl ?_
    refine xi_iload (q := 34) dX9_room_32 rfl rfl ?_
    refine xi_isub (q := 35) dX9_room_34 rfl ?_
    refine xi_iadd (q := 36) dX9_room_35 rfl ?_
    refine xi_ret ⟨_, rfl, rfl, dX9_room_36⟩ (Nat.zero_le _) (Nat.zero_le _) ?_
    exact xv_eqr hp (by unfold xs_rom; rw [if_neg c_21]; rfl)
  · refine xi_iload (q := 26) dX9_room_24 rfl rfl ?_
    refine xi_goto (q := 35) dX9_room_26 (by decide) ?_
    refine xi_iadd (q := 36) dX9_room_35 rfl ?_
    refine xi_ret ⟨_, rfl, rfl, dX9_room_36⟩ (Nat.zero_le _) (Nat.zero_le _) ?_
    exact xv_eqr hp (by unfold xs_rom; rw [if_pos c_21]; rfl)

set_option maxRecDepth 20000 in
set_option maxHeartbeats 2000000 in
/-- draw -/
theorem xm_X9_draw : xv_K yX9_draw mX9_draw (fun as h n Post => ∃ (fa : Nat → Int32) (dk : Int64) (nu : Nat → Int32) (p : Nat) (m : Int32) (b : Int32) (g : Int32) (d : Int32) (r0 : Nat → Int32), as = [.ref 83, .int (nI p), .int m, .int b, .int g, .int d] ∧ (xs_MW h fa dk nu) ∧ (103 < n) ∧ (p < 7) ∧ (xs_ok (xs_nr nu p)) ∧ (h 94 = xs_ia 48 r0) ∧ (∀ h' : xv_H, h' 83 = xs_mo fa (xs_dr (xs_nr nu p) (nu (12 * p + 11)) m (b * g / 4) d) → h' 94 = xs_ia 48 (fun k => xs_cd (xs_nr nu p) (nu (12 * p + 11)) m (b * g / 4) d k) → (∀ i, i ≠ 83 → i ≠ 94 → h' i = h i) → Post none h' n)) := by
  refine xv_entry (by decide +kernel) rfl (fun h => absurd h (by decide)) ?_
  rintro X _ h n Post ⟨fa, dk, nu, p, m, b, g, d, r0, rfl, hW, h103, hp7, hok0x, hpr, hp⟩
  refine ⟨Nat.le_of_ble_eq_true rfl, ?_⟩
  show xv_V X mX9_draw Post 0 0 0 [(0, .ref 83), (1, .int (nI p)), (2, .int m), (3, .int b), (4, .int g), (5, .int d)] [] h n
  obtain ⟨f, hf⟩ : ∃ f : Nat → Int32, f = xs_nr nu p := ⟨_, rfl⟩
  have hok : xs_ok f := hf ▸ hok0x
  have hok0 : xs_ok0 (nu (12 * p + 0)) := by have z := hok.1; rw [hf] at z; exact z
  rw [← hf] at hp
  have L50 : ∀ (dd j : Nat) (hh : xv_H) (g4 : Nat → Int32), j + dd = 143 → xs_MW hh fa (xs_dn f (nu (12 * p + 11)) m (b * g / 4) d j) nu → hh 94 = xs_ia 48 g4 → (∀ k, k < 48 → 96 + k ≤ j → g4 k = xs_pr f (nu (12 * p + 11)) m (b * g / 4) d (96 + k)) → (∀ i, i ≠ 83 → i ≠ 94 → hh i = h i) → xv_V X mX9_draw Post 0 0 50 [(0, .ref 83), (1, .int (nI p)), (2, .int m), (3, .int b), (4, .int g), (5, .int d), (6, .int (12 * nI p)), (7, .int (nu (12 * p + 11))), (8, .int (b * g / 4)), (9, .int (nu (12 * p + 10))), (10, .int (xs_pr f (nu (12 * p + 11)) m (b * g / 4) d j)), (11, .int (nI (j + 1)))] [] hh n := by
    intro dd
    induction dd using Nat.strongRecOn with
    | _ dd ih =>
      intro j hh g4 hj hWh hpr hg hf0
      refine xi_iload (q := 52) dX9_draw_50 rfl rfl ?_
      refine xi_sipush (x := 144) (q := 55) dX9_draw_52 (by decide) rfl ?_
      refine xi_icmp_ge (q := 58) (q2 := 248) dX9_draw_55 (by decide) rfl (fun c_55 => ?_) (fun c_55 => ?_)
      · have hk2 : j = 143 := by have z : 144 ≤ j + 1 := xn_leN c_55 (by omega) (by omega); omega
        subst hk2
        refine xv_norm (h' := va_up hh 94 (.inl (.int, 48, .inl fun k => xs_cd f (nu (12 * p + 11)) m (b * g / 4) d k))) (xv_nr hpr rfl (fun k hk => hg k hk (by omega))) ?_
        refine xi_vret ⟨rfl, dX9_draw_248⟩ (Nat.zero_le _) (Nat.zero_le _) ?_
        refine hp _ ((va_up_ne _ _ (by omega)).trans hWh.1) (va_up_self _ _ _) (fun i i1 i2 => (va_up_ne _ _ i2).trans (hf0 i i1 i2))
      · have hk2 : j + 1 < 144 := xn_nleN c_55 (by omega) (by omega)
        have hT : (nI (j + 1)).toInt = (j + 1 : Nat) := xn_NI (by omega)
        have bR := xn_romb (d := d) (k := nI (j + 1)) hok (by omega)
        have bO0 := xn_opb (s := nu (12 * p + 11)) (m := m) (d := d) (k := nI (j + 1)) (w := 0) hok
        have bO1 := xn_opb (s := nu (12 * p + 11)) (m := m) (d := d) (k := nI (j + 1)) (w := 1) hok
        have h8 : 1 ≤ (nu (12 * p + 8)).toInt ∧ (nu (12 * p + 8)).toInt ≤ 100 := by have z := hok.2.2.2.2.2.2.2.2.1; rw [hf] at z; exact z
        have h9 : 1 ≤ (nu (12 * p + 9)).toInt ∧ (nu (12 * p + 9)).toInt ≤ 100 := by have z := hok.2.2.2.2.2.2.2.2.2.1; rw [hf] at z; exact z
        have hch := xn_chkb (nu (12 * p + 11))
        have c1 : (xs_opn f (nu (12 * p + 11)) m d (nI (j + 1)) 0 + nu (12 * p + 8)).toInt = (xs_opn f (nu (12 * p + 11)) m d (nI (j + 1)) 0).toInt + (nu (12 * p + 8)).toInt := xn_add (by omega) (by omega)
        have c2 : (xs_opn f (nu (12 * p + 11)) m d (nI (j + 1)) 0 + nu (12 * p + 8) + xs_chk (nu (12 * p + 11))).toInt = (xs_opn f (nu (12 * p + 11)) m d (nI (j + 1)) 0).toInt + (nu (12 * p + 8)).toInt + (xs_chk (nu (12 * p + 11))).toInt := by rw [xn_add (by omega) (by omega), c1]
        have c3 : (xs_opn f (nu (12 * p + 11)) m d (nI (j + 1)) 1 + nu (12 * p + 9)).toInt = (xs_opn f (nu (12 * p + 11)) m d (nI (j + 1)) 1).toInt + (nu (12 * p + 9)).toInt := xn_add (by omega) (by omega)
        refine xi_aload_n (q := 59) dX9_draw_58 rfl rfl ?_
        refine xi_iload_n (q := 60) dX9_draw_59 rfl rfl ?_
        refine xi_iload (q := 62) dX9_draw_60 rfl rfl ?_
        refine xi_iload (q := 64) dX9_draw_62 rfl rfl ?_
        refine xv_cV3 (q := 67) xm_X9_room ln_X9_198 dX9_draw_64 ⟨by omega, hWh.1⟩ rfl ⟨(Nat.le_of_ble_eq_true rfl), (Nat.le_of_ble_eq_true rfl)⟩ (Nat.le_of_ble_eq_true rfl) ⟨rfl, rfl⟩ rfl (Nat.zero_le _) (Nat.zero_le _) ?_
        refine ⟨_, _, _, p, d, nI (j + 1), rfl, hWh, h103, hp7, hok0, ?_⟩
        rw [← hf]
        refine xi_istore (q := 69) dX9_draw_67 (Nat.le_of_ble_eq_true rfl) rfl ?_
        refine xi_iload (q := 71) dX9_draw_69 rfl rfl ?_
        refine xi_aload_n (q := 72) dX9_draw_71 rfl rfl ?_
        refine xi_iload_n (q := 73) dX9_draw_72 rfl rfl ?_
        refine xi_iload (q := 75) dX9_draw_73 rfl rfl ?_
        refine xi_iload (q := 77) dX9_draw_75 rfl rfl ?_
        refine xi_iconst (x := 1) (q := 78) dX9_draw_77 (by decide) rfl ?_
        refine xi_isub (q := 79) dX9_draw_78 rfl ?_
        refine xv_cV3 (q := 82) xm_X9_room ln_X9_198 dX9_draw_79 ⟨by omega, hWh.1⟩ rfl ⟨(Nat.le_of_ble_eq_true rfl), (Nat.le_of_ble_eq_true rfl)⟩ (Nat.le_of_ble_eq_true rfl) ⟨rfl, rfl⟩ rfl (Nat.zero_le _) (Nat.zero_le _) ?_
        refine ⟨_, _, _, p, d, nI (j + 1) - 1, rfl, hWh, h103, hp7, hok0, ?_⟩
        rw [← hf]
        refine xi_imul (q := 83) dX9_draw_82 rfl ?_
        refine xi_iload (q := 85) dX9_draw_83 rfl rfl ?_
        refine xi_idiv (q := 86) dX9_draw_85 (xn_nzp (by omega)) rfl ?_
        rw [show xs_pr f (nu (12 * p + 11)) m (b * g / 4) d j * xs_rom f d (nI (j + 1) - 1) / xs_rom f d (nI (j + 1)) = xs_v1 f d (nI (j + 1)) (xs_pr f (nu (12 * p + 11)) m (b * g / 4) d j) from rfl]
        refine xi_istore (q := 88) dX9_draw_86 (Nat.le_of_ble_eq_true rfl) rfl ?_
        refine xi_aload_n (q := 89) dX9_draw_88 rfl rfl ?_
        refine xi_iload_n (q := 90) dX9_draw_89 rfl rfl ?_
        refine xi_iload_n (q := 91) dX9_draw_90 rfl rfl ?_
        refine xi_iload (q := 93) dX9_draw_91 rfl rfl ?_
        refine xi_iload (q := 95) dX9_draw_93 rfl rfl ?_
        refine xi_iconst (x := 0) (q := 96) dX9_draw_95 (by decide) rfl ?_
        refine xv_cV5 (q := 99) xm_X9_openAt ln_X9_154 dX9_draw_96 ⟨by omega, hWh.1⟩ rfl ⟨(Nat.le_of_ble_eq_true rfl), (Nat.le_of_ble_eq_true rfl)⟩ (Nat.le_of_ble_eq_true rfl) ⟨rfl, rfl⟩ rfl (Nat.zero_le _) (Nat.zero_le _) ?_
        refine ⟨_, _, _, p, m, d, nI (j + 1), 0, rfl, hWh, h103, hp7, ?_⟩
        rw [← hf]
        refine xi_istore (q := 101) dX9_draw_99 (Nat.le_of_ble_eq_true rfl) rfl ?_
        refine xi_iload (q := 103) dX9_draw_101 rfl rfl ?_
        refine xi_iload (q := 105) dX9_draw_103 rfl rfl ?_
        refine xi_isub (q := 106) dX9_draw_105 rfl ?_
        refine xi_iload (q := 108) dX9_draw_106 rfl rfl ?_
        refine xi_imul (q := 109) dX9_draw_108 rfl ?_
        refine xi_iload (q := 111) dX9_draw_109 rfl rfl ?_
        refine xi_aload_n (q := 112) dX9_draw_111 rfl rfl ?_
        refine xi_getf (q := 115) dX9_draw_112 fl_X9_23 ⟨by omega, hWh.1⟩ rfl rfl ?_
        refine xi_iload (q := 117) dX9_draw_115 rfl rfl ?_
        refine xi_bipush (x := 8) (q := 119) dX9_draw_117 (by decide) rfl ?_
        refine xi_iadd (q := 120) dX9_draw_119 rfl ?_
        refine xi_iald (q := 121) dX9_draw_120 ⟨by omega, hWh.2.1⟩ (xn_ix12 (j := 8) hp7 (by omega)) rfl ?_
        refine xi_iadd (q := 122) dX9_draw_121 rfl ?_
        refine xi_iload (q := 124) dX9_draw_122 rfl rfl ?_
        refine xv_cS1 (q := 127) xm_X9_chokedOf ln_X9_201 dX9_draw_124 ⟨(Nat.le_of_ble_eq_true rfl), (Nat.le_of_ble_eq_true rfl)⟩ (Nat.le_of_ble_eq_true rfl) ⟨rfl, rfl⟩ rfl (Nat.zero_le _) (Nat.zero_le _) ?_
        refine ⟨_, rfl, ?_⟩
        refine xi_iadd (q := 128) dX9_draw_127 rfl ?_
        refine xi_idiv (q := 129) dX9_draw_128 (xn_nzp (by rw [c2]; omega)) rfl ?_
        rw [show ((b * g / 4) - xs_v1 f d (nI (j + 1)) (xs_pr f (nu (12 * p + 11)) m (b * g / 4) d j)) * xs_opn f (nu (12 * p + 11)) m d (nI (j + 1)) 0 / (xs_opn f (nu (12 * p + 11)) m d (nI (j + 1)) 0 + nu (12 * p + 8) + xs_chk (nu (12 * p + 11))) = xs_co f (nu (12 * p + 11)) m (b * g / 4) d (nI (j + 1)) (xs_pr f (nu (12 * p + 11)) m (b * g / 4) d j) from by rw [show nu (12 * p + 8) = f 8 by rw [hf]; rfl]; rfl]
        refine xi_istore (q := 131) dX9_draw_129 (Nat.le_of_ble_eq_true rfl) rfl ?_
        refine xi_iload (q := 133) dX9_draw_131 rfl rfl ?_
        refine xi_iload (q := 135) dX9_draw_133 rfl rfl ?_
        refine xi_iadd (q := 136) dX9_draw_135 rfl ?_
        rw [show xs_v1 f d (nI (j + 1)) (xs_pr f (nu (12 * p + 11)) m (b * g / 4) d j) + xs_co f (nu (12 * p + 11)) m (b * g / 4) d (nI (j + 1)) (xs_pr f (nu (12 * p + 11)) m (b * g / 4) d j) = xs_v2 f (nu (12 * p + 11)) m (b * g / 4) d (nI (j + 1)) (xs_pr f (nu (12 * p + 11)) m (b * g / 4) d j) from rfl]
        refine xi_istore (q := 138) dX9_draw_136 (Nat.le_of_ble_eq_true rfl) rfl ?_
        refine xi_aload_n (q := 139) dX9_draw_138 rfl rfl ?_
        refine xi_iload_n (q := 140) dX9_draw_139 rfl rfl ?_
        refine xi_iload_n (q := 141) dX9_draw_140 rfl rfl ?_
        refine xi_iload (q := 143) dX9_draw_141 rfl rfl ?_
        refine xi_iload (q := 145) dX9_draw_143 rfl rfl ?_
        refine xi_iconst (x := 1) (q := 146) dX9_draw_145 (by decide) rfl ?_
        refine xv_cV5 (q := 149) xm_X9_openAt ln_X9_154 dX9_draw_146 ⟨by omega, hWh.1⟩ rfl ⟨(Nat.le_of_ble_eq_true rfl), (Nat.le_of_ble_eq_true rfl)⟩ (Nat.le_of_ble_eq_true rfl) ⟨rfl, rfl⟩ rfl (Nat.zero_le _) (Nat.zero_le _) ?_
        refine ⟨_, _, _, p, m, d, nI (j + 1), 1, rfl, hWh, h103, hp7, ?_⟩
        rw [← hf]
        refine xi_istore (q := 151) dX9_draw_149 (Nat.le_of_ble_eq_true rfl) rfl ?_
        refine xi_iload (q := 153) dX9_draw_151 rfl rfl ?_
        refine xi_iload (q := 155) dX9_draw_153 rfl rfl ?_
        refine xi_iload (q := 157) dX9_draw_155 rfl rfl ?_
        refine xi_isub (q := 158) dX9_draw_157 rfl ?_
        refine xi_iload (q := 160) dX9_draw_158 rfl rfl ?_
        refine xi_imul (q := 161) dX9_draw_160 rfl ?_
        refine xi_iload (q := 163) dX9_draw_161 rfl rfl ?_
        refine xi_aload_n (q := 164) dX9_draw_163 rfl rfl ?_
        refine xi_getf (q := 167) dX9_draw_164 fl_X9_23 ⟨by omega, hWh.1⟩ rfl rfl ?_
        refine xi_iload (q := 169) dX9_draw_167 rfl rfl ?_
        refine xi_bipush (x := 9) (q := 171) dX9_draw_169 (by decide) rfl ?_
        refine xi_iadd (q := 172) dX9_draw_171 rfl ?_
        refine xi_iald (q := 173) dX9_draw_172 ⟨by omega, hWh.2.1⟩ (xn_ix12 (j := 9) hp7 (by omega)) rfl ?_
        refine xi_iadd (q := 174) dX9_draw_173 rfl ?_
        refine xi_idiv (q := 175) dX9_draw_174 (xn_nzp (by rw [c3]; omega)) rfl ?_
        refine xi_iadd (q := 176) dX9_draw_175 rfl ?_
        rw [show xs_v2 f (nu (12 * p + 11)) m (b * g / 4) d (nI (j + 1)) (xs_pr f (nu (12 * p + 11)) m (b * g / 4) d j) + (nu (12 * p + 10) - xs_v2 f (nu (12 * p + 11)) m (b * g / 4) d (nI (j + 1)) (xs_pr f (nu (12 * p + 11)) m (b * g / 4) d j)) * xs_opn f (nu (12 * p + 11)) m d (nI (j + 1)) 1 / (xs_opn f (nu (12 * p + 11)) m d (nI (j + 1)) 1 + nu (12 * p + 9)) = xs_v3 f (nu (12 * p + 11)) m (b * g / 4) d (nI (j + 1)) (xs_pr f (nu (12 * p + 11)) m (b * g / 4) d j) from by rw [show nu (12 * p + 9) = f 9 by rw [hf]; rfl, show nu (12 * p + 10) = f 10 by rw [hf]; rfl]; rfl]
        refine xi_istore (q := 178) dX9_draw_176 (Nat.le_of_ble_eq_true rfl) rfl ?_
        refine xi_iload (q := 180) dX9_draw_178 rfl rfl ?_
        refine xi_iload (q := 182) dX9_draw_180 rfl rfl ?_
        refine xi_iload (q := 184) dX9_draw_182 rfl rfl ?_
        refine xi_isub (q := 185) dX9_draw_184 rfl ?_
        refine xi_iload (q := 187) dX9_draw_185 rfl rfl ?_
        refine xv_cS1 (q := 190) xm_X9_leakOf ln_X9_204 dX9_draw_187 ⟨(Nat.le_of_ble_eq_true rfl), (Nat.le_of_ble_eq_true rfl)⟩ (Nat.le_of_ble_eq_true rfl) ⟨rfl, rfl⟩ rfl (Nat.zero_le _) (Nat.zero_le _) ?_
        refine ⟨_, rfl, ?_⟩
        refine xi_imul (q := 191) dX9_draw_190 rfl ?_
        refine xi_sipush (x := 200) (q := 194) dX9_draw_191 (by decide) rfl ?_
        refine xi_idiv (q := 195) dX9_draw_194 (by decide) rfl ?_
        refine xi_iadd (q := 196) dX9_draw_195 rfl ?_
        rw [show xs_v3 f (nu (12 * p + 11)) m (b * g / 4) d (nI (j + 1)) (xs_pr f (nu (12 * p + 11)) m (b * g / 4) d j) + ((b * g / 4) - xs_v3 f (nu (12 * p + 11)) m (b * g / 4) d (nI (j + 1)) (xs_pr f (nu (12 * p + 11)) m (b * g / 4) d j)) * xs_leak (nu (12 * p + 11)) / 200 = xs_pr f (nu (12 * p + 11)) m (b * g / 4) d (j + 1) from rfl]
        refine xi_istore (q := 198) dX9_draw_196 (Nat.le_of_ble_eq_true rfl) rfl ?_
        refine xi_iload (q := 200) dX9_draw_198 rfl rfl ?_
        refine xi_bipush (x := 96) (q := 202) dX9_draw_200 (by decide) rfl ?_
        refine xi_icmp_lt (q := 205) (q2 := 242) dX9_draw_202 (by decide) rfl (fun c_202 => ?_) (fun c_202 => ?_)
        · have h96 : j + 1 < 96 := (nI_ltI (by omega) (by omega)).mp c_202
          refine xi_iinc (y := nI ((j + 1) + 1)) (q := 245) dX9_draw_242 rfl (xn_inc (j + 1)) (Nat.le_of_ble_eq_true rfl) rfl ?_
          refine xi_goto (q := 50) dX9_draw_245 (by decide) ?_
          refine xv_weakS (lv' := [(0, .ref 83), (1, .int (nI p)), (2, .int m), (3, .int b), (4, .int g), (5, .int d), (6, .int (12 * nI p)), (7, .int (nu (12 * p + 11))), (8, .int (b * g / 4)), (9, .int (nu (12 * p + 10))), (10, .int (xs_pr f (nu (12 * p + 11)) m (b * g / 4) d (j + 1))), (11, .int (nI (j + 1 + 1)))]) ⟨rfl, rfl, rfl, rfl, rfl, rfl, rfl, rfl, rfl, rfl, rfl, rfl, trivial⟩ ?_
          exact ih (dd - 1) (by omega) (j + 1) hh g4 (by omega) ⟨by rw [xn_dnA (Or.inr h96)]; exact hWh.1, hWh.2⟩ hpr (fun k hk1 hk2 => absurd hk2 (by omega)) hf0
        · have h96 : ¬ j + 1 < 96 := fun z => c_202 (show nI (j + 1) < nI 96 from (nI_ltI (by omega) (by omega)).mpr z)
          refine xi_aload_n (q := 206) dX9_draw_205 rfl rfl ?_
          refine xi_getf (q := 209) dX9_draw_206 fl_X9_41 ⟨by omega, hWh.1⟩ rfl rfl ?_
          refine xi_iload (q := 211) dX9_draw_209 rfl rfl ?_
          refine xi_bipush (x := 96) (q := 213) dX9_draw_211 (by decide) rfl ?_
          refine xi_isub (q := 214) dX9_draw_213 rfl ?_
          refine xi_iload (q := 216) dX9_draw_214 rfl rfl ?_
          refine xi_iast (q := 217) dX9_draw_216 ⟨by omega, hpr⟩ (by rw [show (nI (j + 1) - 96 : Int32) = nI (j + 1 - 96) from xn_subN (b := 96) (by omega)]; exact xv_ixN (by omega) (by omega)) rfl ?_
          refine xi_aload_n (q := 218) dX9_draw_217 rfl rfl ?_
          refine xi_dup (q := 219) dX9_draw_218 rfl rfl ?_
          refine xi_getf (q := 222) dX9_draw_219 fl_X9_194 (xv_keep (by omega) ⟨by omega, hWh.1⟩) rfl rfl ?_
          refine xi_iload (q := 224) dX9_draw_222 rfl rfl ?_
          refine xi_if_le (q := 227) (q2 := 237) dX9_draw_224 (by decide) rfl (fun c_224 => ?_) (fun c_224 => ?_)
          · refine xi_lconst (x := 0) (q := 238) dX9_draw_237 (by decide) rfl ?_
            refine xi_ladd (q := 239) dX9_draw_238 rfl ?_
            refine xi_putf (q := 242) dX9_draw_239 fl_X9_194 (xv_keep (by omega) ⟨by omega, hWh.1⟩) (Or.inl rfl) (fun _ => rfl) (fun _ => rfl) (Nat.le_of_ble_eq_true rfl) rfl ?_
            refine xi_iinc (y := nI ((j + 1) + 1)) (q := 245) dX9_draw_242 rfl (xn_inc (j + 1)) (Nat.le_of_ble_eq_true rfl) rfl ?_
            refine xi_goto (q := 50) dX9_draw_245 (by decide) ?_
            refine xv_weakS (lv' := [(0, .ref 83), (1, .int (nI p)), (2, .int m), (3, .int b), (4, .int g), (5, .int d), (6, .int (12 * nI p)), (7, .int (nu (12 * p + 11))), (8, .int (b * g / 4)), (9, .int (nu (12 * p + 10))), (10, .int (xs_pr f (nu (12 * p + 11)) m (b * g / 4) d (j + 1))), (11, .int (nI (j + 1 + 1)))]) ⟨rfl, rfl, rfl, rfl, rfl, rfl, rfl, rfl, rfl, rfl, rfl, rfl, trivial⟩ ?_
            exact ih (dd - 1) (by omega) (j + 1) _ (upd g4 (j + 1 - 96) (xs_pr f (nu (12 * p + 11)) m (b * g / 4) d (j + 1))) (by omega) ⟨(va_up_self _ _ _).trans (by rw [xn_dnA (Or.inl (fun z => by rw [xn_lt] at z; rw [xn_le] at c_224; omega))]; exact (show xs_mo fa (xs_dn f (nu (12 * p + 11)) m (b * g / 4) d j + 0) = _ by rw [Int64.add_zero])), (va_up_ne _ _ (by omega)).trans ((va_up_ne _ _ (by omega)).trans hWh.2.1), (va_up_ne _ _ (by omega)).trans ((va_up_ne _ _ (by omega)).trans hWh.2.2)⟩ ((va_up_ne _ _ (by omega)).trans (va_up_self _ _ _)) (fun k hk1 hk2 => by
              by_cases e : k = j + 1 - 96
              · rw [e, pk_us, show 96 + (j + 1 - 96) = j + 1 by omega]
              · rw [pk_un e]; exact hg k hk1 (by omega)) (fun i i1 i2 => (va_up_ne _ _ i1).trans ((va_up_ne _ _ i2).trans (hf0 i i1 i2)))
          · refine xi_iload (q := 229) dX9_draw_227 rfl rfl ?_
            refine xi_i2l (q := 230) dX9_draw_229 rfl ?_
            refine xi_iload (q := 232) dX9_draw_230 rfl rfl ?_
            refine xi_i2l (q := 233) dX9_draw_232 rfl ?_
            refine xi_lmul (q := 234) dX9_draw_233 rfl ?_
            refine xi_goto (q := 238) dX9_draw_234 (by decide) ?_
            refine xi_ladd (q := 239) dX9_draw_238 rfl ?_
            refine xi_putf (q := 242) dX9_draw_239 fl_X9_194 (xv_keep (by omega) ⟨by omega, hWh.1⟩) (Or.inl rfl) (fun _ => rfl) (fun _ => rfl) (Nat.le_of_ble_eq_true rfl) rfl ?_
            refine xi_iinc (y := nI ((j + 1) + 1)) (q := 245) dX9_draw_242 rfl (xn_inc (j + 1)) (Nat.le_of_ble_eq_true rfl) rfl ?_
            refine xi_goto (q := 50) dX9_draw_245 (by decide) ?_
            refine xv_weakS (lv' := [(0, .ref 83), (1, .int (nI p)), (2, .int m), (3, .int b), (4, .int g), (5, .int d), (6, .int (12 * nI p)), (7, .int (nu (12 * p + 11))), (8, .int (b * g / 4)), (9, .int (nu (12 * p + 10))), (10, .int (xs_pr f (nu (12 * p + 11)) m (b * g / 4) d (j + 1))), (11, .int (nI (j + 1 + 1)))]) ⟨rfl, rfl, rfl, rfl, rfl, rfl, rfl, rfl, rfl, rfl, rfl, rfl, trivial⟩ ?_
            exact ih (dd - 1) (by omega) (j + 1) _ (upd g4 (j + 1 - 96) (xs_pr f (nu (12 * p + 11)) m (b * g / 4) d (j + 1))) (by omega) ⟨(va_up_self _ _ _).trans (by rw [xn_dnB (by rw [xn_lt]; rw [xn_le] at c_224; omega) (by omega)]; rfl), (va_up_ne _ _ (by omega)).trans ((va_up_ne _ _ (by omega)).trans hWh.2.1), (va_up_ne _ _ (by omega)).trans ((va_up_ne _ _ (by omega)).trans hWh.2.2)⟩ ((va_up_ne _ _ (by omega)).trans (va_up_self _ _ _)) (fun k hk1 hk2 => by
              by_cases e : k = j + 1 - 96
              · rw [e, pk_us, show 96 + (j + 1 - 96) = j + 1 by omega]
              · rw [pk_un e]; exact hg k hk1 (by omega)) (fun i i1 i2 => (va_up_ne _ _ i1).trans ((va_up_ne _ _ i2).trans (hf0 i i1 i2)))
  refine xi_bipush (x := 12) (q := 2) dX9_draw_0 (by decide) rfl ?_
  refine xi_iload_n (q := 3) dX9_draw_2 rfl rfl ?_
  refine xi_imul (q := 4) dX9_draw_3 rfl ?_
  refine xi_istore (q := 6) dX9_draw_4 (Nat.le_of_ble_eq_true rfl) rfl ?_
  refine xi_aload_n (q := 7) dX9_draw_6 rfl rfl ?_
  refine xi_getf (q := 10) dX9_draw_7 fl_X9_23 ⟨by omega, hW.1⟩ rfl rfl ?_
  refine xi_iload (q := 12) dX9_draw_10 rfl rfl ?_
  refine xi_bipush (x := 11) (q := 14) dX9_draw_12 (by decide) rfl ?_
  refine xi_iadd (q := 15) dX9_draw_14 rfl ?_
  refine xi_iald (q := 16) dX9_draw_15 ⟨by omega, hW.2.1⟩ (xn_ix12 (j := 11) hp7 (by omega)) rfl ?_
  refine xi_istore (q := 18) dX9_draw_16 (Nat.le_of_ble_eq_true rfl) rfl ?_
  refine xi_iload_n (q := 19) dX9_draw_18 rfl rfl ?_
  refine xi_iload (q := 21) dX9_draw_19 rfl rfl ?_
  refine xi_imul (q := 22) dX9_draw_21 rfl ?_
  refine xi_iconst (x := 4) (q := 23) dX9_draw_22 (by decide) rfl ?_
  refine xi_idiv (q := 24) dX9_draw_23 (by decide) rfl ?_
  refine xi_istore (q := 26) dX9_draw_24 (Nat.le_of_ble_eq_true rfl) rfl ?_
  refine xi_aload_n (q := 27) dX9_draw_26 rfl rfl ?_
  refine xi_getf (q := 30) dX9_draw_27 fl_X9_23 ⟨by omega, hW.1⟩ rfl rfl ?_
  refine xi_iload (q := 32) dX9_draw_30 rfl rfl ?_
  refine xi_bipush (x := 10) (q := 34) dX9_draw_32 (by decide) rfl ?_
  refine xi_iadd (q := 35) dX9_draw_34 rfl ?_
  refine xi_iald (q := 36) dX9_draw_35 ⟨by omega, hW.2.1⟩ (xn_ix12 (j := 10) hp7 (by omega)) rfl ?_
  refine xi_istore (q := 38) dX9_draw_36 (Nat.le_of_ble_eq_true rfl) rfl ?_
  refine xi_iload (q := 40) dX9_draw_38 rfl rfl ?_
  refine xi_istore (q := 42) dX9_draw_40 (Nat.le_of_ble_eq_true rfl) rfl ?_
  refine xi_aload_n (q := 43) dX9_draw_42 rfl rfl ?_
  refine xi_lconst (x := 0) (q := 44) dX9_draw_43 (by decide) rfl ?_
  refine xi_putf (q := 47) dX9_draw_44 fl_X9_194 ⟨by omega, hW.1⟩ (Or.inl rfl) (fun _ => rfl) (fun _ => rfl) (Nat.le_of_ble_eq_true rfl) rfl ?_
  refine xi_iconst (x := 1) (q := 48) dX9_draw_47 (by decide) rfl ?_
  refine xi_istore (q := 50) dX9_draw_48 (Nat.le_of_ble_eq_true rfl) rfl ?_
  refine xv_weakS (lv' := [(0, .ref 83), (1, .int (nI p)), (2, .int m), (3, .int b), (4, .int g), (5, .int d), (6, .int (12 * nI p)), (7, .int (nu (12 * p + 11))), (8, .int (b * g / 4)), (9, .int (nu (12 * p + 10))), (10, .int (nu (12 * p + 10))), (11, .int (nI (0 + 1)))]) ⟨rfl, rfl, rfl, rfl, rfl, rfl, rfl, rfl, rfl, rfl, rfl, rfl, trivial⟩ ?_
  have h0 := L50 143 0 (va_up h 83 (xs_mo fa 0)) r0 (by omega) ⟨va_up_self _ _ _, (va_up_ne _ _ (by omega)).trans hW.2.1, (va_up_ne _ _ (by omega)).trans hW.2.2⟩ ((va_up_ne _ _ (by omega)).trans hpr) (fun k hk1 hk2 => absurd hk2 (by omega)) (fun i i1 i2 => va_up_ne _ _ i1)
  rw [show xs_pr f (nu (12 * p + 11)) m (b * g / 4) d 0 = nu (12 * p + 10) by show f 10 = _; rw [hf]; rfl] at h0
  exact h0

