set_option maxRecDepth 20000 in
set_option maxHeartbeats 2000000 in
/-- <init> -/
theorem xm_X9_init : xv_K yX9_init mX9_init (fun as h n Post => as = [.ref 83] ∧ (n = 84) ∧ (h 83 = .inr (9, [.int 0, .int 0, .null, .null, .null, .null, .null, .null, .null, .null, .null, .null, .int 0, .int 0, .null, .long 0, .null, .null, .null, .null, .null, .int 0, .null, .null, .null, .int 0, .int 0, .int 0, .int 0, .int 0, .int 0, .null, .int 0])) ∧ (∀ h' : xv_H, xs_Mo h' xs_σ0 → (∀ i, i < 83 → h' i = h i) → Post none h' 104)) := by
  refine xv_entry (by decide +kernel) rfl (fun _ => rfl) ?_
  rintro X _ h n Post ⟨rfl, hn1, h0, hp⟩
  refine ⟨Nat.le_of_ble_eq_true rfl, ?_⟩
  show xv_V X mX9_init Post 0 0 0 [(0, .ref 83)] [] h n
  subst hn1
  refine xi_aload_n (q := 1) dX9_init_0 rfl rfl ?_
  refine xi_objInit (q := 4) dX9_init_1 ln_X9_1 (Nat.le_of_ble_eq_true rfl) (Nat.le_of_ble_eq_true rfl) rfl ?_
  refine xi_aload_n (q := 5) dX9_init_4 rfl rfl ?_
  refine xi_bipush (x := 8) (q := 7) dX9_init_5 (by decide) rfl ?_
  refine xi_newa (N := 8) (q := 9) dX9_init_7 rfl ac_int (fun _ => rfl) (by decide) rfl (Nat.le_of_ble_eq_true rfl) (by omega) (Nat.le_of_ble_eq_true rfl) (Nat.le_of_ble_eq_true rfl) rfl ?_
  show xv_V X mX9_init Post 1 8 9 _ _ _ 85
  refine xi_dup (q := 10) dX9_init_9 rfl rfl ?_
  refine xi_iconst (x := 0) (q := 11) dX9_init_10 (by decide) rfl ?_
  refine xi_iconst (x := (-1)) (q := 12) dX9_init_11 (by decide) rfl ?_
  refine xi_iast (q := 13) dX9_init_12 (xv_self (by omega)) ⟨xv_ink (by decide), (by decide : (0 : Int32).toNatClampNeg = 0)⟩ rfl ?_
  refine xi_dup (q := 14) dX9_init_13 rfl rfl ?_
  refine xi_iconst (x := 1) (q := 15) dX9_init_14 (by decide) rfl ?_
  refine xi_iconst (x := (-1)) (q := 16) dX9_init_15 (by decide) rfl ?_
  refine xi_iast (q := 17) dX9_init_16 (xv_self (by omega)) ⟨xv_ink (by decide), (by decide : (1 : Int32).toNatClampNeg = 1)⟩ rfl ?_
  refine xi_dup (q := 18) dX9_init_17 rfl rfl ?_
  refine xi_iconst (x := 2) (q := 19) dX9_init_18 (by decide) rfl ?_
  refine xi_iconst (x := (-1)) (q := 20) dX9_init_19 (by decide) rfl ?_
  refine xi_iast (q := 21) dX9_init_20 (xv_self (by omega)) ⟨xv_ink (by decide), (by decide : (2 : Int32).toNatClampNeg = 2)⟩ rfl ?_
  refine xi_dup (q := 22) dX9_init_21 rfl rfl ?_
  refine xi_iconst (x := 3) (q := 23) dX9_init_22 (by decide) rfl ?_
  refine xi_iconst (x := (-1)) (q := 24) dX9_init_23 (by decide) rfl ?_
  refine xi_iast (q := 25) dX9_init_24 (xv_self (by omega)) ⟨xv_ink (by decide), (by decide : (3 : Int32).toNatClampNeg = 3)⟩ rfl ?_
  refine xi_dup (q := 26) dX9_init_25 rfl rfl ?_
  refine xi_iconst (x := 4) (q := 27) dX9_init_26 (by decide) rfl ?_
  refine xi_iconst (x := (-1)) (q := 28) dX9_init_27 (by decide) rfl ?_
  refine xi_iast (q := 29) dX9_init_28 (xv_self (by omega)) ⟨xv_ink (by decide), (by decide : (4 : Int32).toNatClampNeg = 4)⟩ rfl ?_
  refine xi_dup (q := 30) dX9_init_29 rfl rfl ?_
  refine xi_iconst (x := 5) (q := 31) dX9_init_30 (by decide) rfl ?_
  refine xi_iconst (x := (-1)) (q := 32) dX9_init_31 (by decide) rfl ?_
  refine xi_iast (q := 33) dX9_init_32 (xv_self (by omega)) ⟨xv_ink (by decide), (by decide : (5 : Int32).toNatClampNeg = 5)⟩ rfl ?_
  refine xi_dup (q := 34) dX9_init_33 rfl rfl ?_
  refine xi_bipush (x := 6) (q := 36) dX9_init_34 (by decide) rfl ?_
  refine xi_iconst (x := (-1)) (q := 37) dX9_init_36 (by decide) rfl ?_
  refine xi_iast (q := 38) dX9_init_37 (xv_self (by omega)) ⟨xv_ink (by decide), (by decide : (6 : Int32).toNatClampNeg = 6)⟩ rfl ?_
  refine xi_dup (q := 39) dX9_init_38 rfl rfl ?_
  refine xi_bipush (x := 7) (q := 41) dX9_init_39 (by decide) rfl ?_
  refine xi_iconst (x := (-1)) (q := 42) dX9_init_41 (by decide) rfl ?_
  refine xi_iast (q := 43) dX9_init_42 (xv_self (by omega)) ⟨xv_ink (by decide), (by decide : (7 : Int32).toNatClampNeg = 7)⟩ rfl ?_
  refine xi_putf (q := 46) dX9_init_43 fl_X9_7 (xv_keep (by omega) (xv_keep (by omega) (xv_keep (by omega) (xv_keep (by omega) (xv_keep (by omega) (xv_keep (by omega) (xv_keep (by omega) (xv_keep (by omega) (xv_keep (by omega) ⟨by omega, h0⟩))))))))) (Or.inr ⟨rfl, fun q hq => by cases hq; rfl⟩) (fun _ => rfl) (fun _ => rfl) (Nat.le_of_ble_eq_true rfl) rfl ?_
  refine xi_aload_n (q := 47) dX9_init_46 rfl rfl ?_
  refine xi_bipush (x := 8) (q := 49) dX9_init_47 (by decide) rfl ?_
  refine xi_newa (N := 8) (q := 51) dX9_init_49 rfl ac_int (fun _ => rfl) (by decide) rfl (Nat.le_of_ble_eq_true rfl) (by omega) (Nat.le_of_ble_eq_true rfl) (Nat.le_of_ble_eq_true rfl) rfl ?_
  show xv_V X mX9_init Post 2 16 51 _ _ _ 86
  refine xi_putf (q := 54) dX9_init_51 fl_X9_13 (xv_keep (by omega) (xv_self (by omega))) (Or.inr ⟨rfl, fun q hq => by cases hq; rfl⟩) (fun _ => rfl) (fun _ => rfl) (Nat.le_of_ble_eq_true rfl) rfl ?_
  refine xi_aload_n (q := 55) dX9_init_54 rfl rfl ?_
  refine xi_sipush (x := 480) (q := 58) dX9_init_55 (by decide) rfl ?_
  refine xi_newa (N := 480) (q := 60) dX9_init_58 rfl ac_int (fun _ => rfl) (by decide) rfl (Nat.le_of_ble_eq_true rfl) (by omega) (Nat.le_of_ble_eq_true rfl) (Nat.le_of_ble_eq_true rfl) rfl ?_
  show xv_V X mX9_init Post 3 496 60 _ _ _ 87
  refine xi_putf (q := 63) dX9_init_60 fl_X9_16 (xv_keep (by omega) (xv_self (by omega))) (Or.inr ⟨rfl, fun q hq => by cases hq; rfl⟩) (fun _ => rfl) (fun _ => rfl) (Nat.le_of_ble_eq_true rfl) rfl ?_
  refine xi_aload_n (q := 64) dX9_init_63 rfl rfl ?_
  refine xi_bipush (x := 7) (q := 66) dX9_init_64 (by decide) rfl ?_
  refine xi_newa (N := 7) (q := 68) dX9_init_66 rfl ac_boolean (fun _ => rfl) (by decide) rfl (Nat.le_of_ble_eq_true rfl) (by omega) (Nat.le_of_ble_eq_true rfl) (Nat.le_of_ble_eq_true rfl) rfl ?_
  show xv_V X mX9_init Post 4 503 68 _ _ _ 88
  refine xi_putf (q := 71) dX9_init_68 fl_X9_19 (xv_keep (by omega) (xv_self (by omega))) (Or.inr ⟨rfl, fun q hq => by cases hq; rfl⟩) (fun _ => rfl) (fun _ => rfl) (Nat.le_of_ble_eq_true rfl) rfl ?_
  refine xi_aload_n (q := 72) dX9_init_71 rfl rfl ?_
  refine xi_bipush (x := 84) (q := 74) dX9_init_72 (by decide) rfl ?_
  refine xi_newa (N := 84) (q := 76) dX9_init_74 rfl ac_int (fun _ => rfl) (by decide) rfl (Nat.le_of_ble_eq_true rfl) (by omega) (Nat.le_of_ble_eq_true rfl) (Nat.le_of_ble_eq_true rfl) rfl ?_
  show xv_V X mX9_init Post 5 587 76 _ _ _ 89
  refine xi_putf (q := 79) dX9_init_76 fl_X9_23 (xv_keep (by omega) (xv_self (by omega))) (Or.inr ⟨rfl, fun q hq => by cases hq; rfl⟩) (fun _ => rfl) (fun _ => rfl) (Nat.le_of_ble_eq_true rfl) rfl ?_
  refine xi_aload_n (q := 80) dX9_init_79 rfl rfl ?_
  refine xi_bipush (x := 6) (q := 82) dX9_init_80 (by decide) rfl ?_
  refine xi_newa (N := 6) (q := 84) dX9_init_82 rfl ac_boolean (fun _ => rfl) (by decide) rfl (Nat.le_of_ble_eq_true rfl) (by omega) (Nat.le_of_ble_eq_true rfl) (Nat.le_of_ble_eq_true rfl) rfl ?_
  show xv_V X mX9_init Post 6 593 84 _ _ _ 90
  refine xi_putf (q := 87) dX9_init_84 fl_X9_26 (xv_keep (by omega) (xv_self (by omega))) (Or.inr ⟨rfl, fun q hq => by cases hq; rfl⟩) (fun _ => rfl) (fun _ => rfl) (Nat.le_of_ble_eq_true rfl) rfl ?_
  refine xi_aload_n (q := 88) dX9_init_87 rfl rfl ?_
  refine xi_bipush (x := 6) (q := 90) dX9_init_88 (by decide) rfl ?_
  refine xi_newa (N := 6) (q := 92) dX9_init_90 rfl ac_int (fun _ => rfl) (by decide) rfl (Nat.le_of_ble_eq_true rfl) (by omega) (Nat.le_of_ble_eq_true rfl) (Nat.le_of_ble_eq_true rfl) rfl ?_
  show xv_V X mX9_init Post 7 599 92 _ _ _ 91
  refine xi_putf (q := 95) dX9_init_92 fl_X9_29 (xv_keep (by omega) (xv_self (by omega))) (Or.inr ⟨rfl, fun q hq => by cases hq; rfl⟩) (fun _ => rfl) (fun _ => rfl) (Nat.le_of_ble_eq_true rfl) rfl ?_
  refine xi_aload_n (q := 96) dX9_init_95 rfl rfl ?_
  refine xi_bipush (x := 6) (q := 98) dX9_init_96 (by decide) rfl ?_
  refine xi_newa (N := 6) (q := 100) dX9_init_98 rfl ac_int (fun _ => rfl) (by decide) rfl (Nat.le_of_ble_eq_true rfl) (by omega) (Nat.le_of_ble_eq_true rfl) (Nat.le_of_ble_eq_true rfl) rfl ?_
  show xv_V X mX9_init Post 8 605 100 _ _ _ 92
  refine xi_putf (q := 103) dX9_init_100 fl_X9_32 (xv_keep (by omega) (xv_self (by omega))) (Or.inr ⟨rfl, fun q hq => by cases hq; rfl⟩) (fun _ => rfl) (fun _ => rfl) (Nat.le_of_ble_eq_true rfl) rfl ?_
  refine xi_aload_n (q := 104) dX9_init_103 rfl rfl ?_
  refine xi_sipush (x := 288) (q := 107) dX9_init_104 (by decide) rfl ?_
  refine xi_newa (N := 288) (q := 109) dX9_init_107 rfl ac_int (fun _ => rfl) (by decide) rfl (Nat.le_of_ble_eq_true rfl) (by omega) (Nat.le_of_ble_eq_true rfl) (Nat.le_of_ble_eq_true rfl) rfl ?_
  show xv_V X mX9_init Post 9 893 109 _ _ _ 93
  refine xi_putf (q := 112) dX9_init_109 fl_X9_35 (xv_keep (by omega) (xv_self (by omega))) (Or.inr ⟨rfl, fun q hq => by cases hq; rfl⟩) (fun _ => rfl) (fun _ => rfl) (Nat.le_of_ble_eq_true rfl) rfl ?_
  refine xi_aload_n (q := 113) dX9_init_112 rfl rfl ?_
  refine xi_bipush (x := 13) (q := 115) dX9_init_113 (by decide) rfl ?_
  refine xi_newa (N := 13) (q := 117) dX9_init_115 rfl ac_int (fun _ => rfl) (by decide) rfl (Nat.le_of_ble_eq_true rfl) (by omega) (Nat.le_of_ble_eq_true rfl) (Nat.le_of_ble_eq_true rfl) rfl ?_
  show xv_V X mX9_init Post 10 906 117 _ _ _ 94
  refine xi_dup (q := 118) dX9_init_117 rfl rfl ?_
  refine xi_iconst (x := 0) (q := 119) dX9_init_118 (by decide) rfl ?_
  refine xi_sipush (x := 10000) (q := 122) dX9_init_119 (by decide) rfl ?_
  refine xi_iast (q := 123) dX9_init_122 (xv_self (by omega)) ⟨xv_ink (by decide), (by decide : (0 : Int32).toNatClampNeg = 0)⟩ rfl ?_
  refine xi_dup (q := 124) dX9_init_123 rfl rfl ?_
  refine xi_iconst (x := 1) (q := 125) dX9_init_124 (by decide) rfl ?_
  refine xi_sipush (x := 9914) (q := 128) dX9_init_125 (by decide) rfl ?_
  refine xi_iast (q := 129) dX9_init_128 (xv_self (by omega)) ⟨xv_ink (by decide), (by decide : (1 : Int32).toNatClampNeg = 1)⟩ rfl ?_
  refine xi_dup (q := 130) dX9_init_129 rfl rfl ?_
  refine xi_iconst (x := 2) (q := 131) dX9_init_130 (by decide) rfl ?_
  refine xi_sipush (x := 9659) (q := 134) dX9_init_131 (by decide) rfl ?_
  refine xi_iast (q := 135) dX9_init_134 (xv_self (by omega)) ⟨xv_ink (by decide), (by decide : (2 : Int32).toNatClampNeg = 2)⟩ rfl ?_
  refine xi_dup (q := 136) dX9_init_135 rfl rfl ?_
  refine xi_iconst (x := 3) (q := 137) dX9_init_136 (by decide) rfl ?_
  refine xi_sipush (x := 9239) (q := 140) dX9_init_137 (by decide) rfl ?_
  refine xi_iast (q := 141) dX9_init_140 (xv_self (by omega)) ⟨xv_ink (by decide), (by decide : (3 : Int32).toNatClampNeg = 3)⟩ rfl ?_
  refine xi_dup (q := 142) dX9_init_141 rfl rfl ?_
  refine xi_iconst (x := 4) (q := 143) dX9_init_142 (by decide) rfl ?_
  refine xi_sipush (x := 8660) (q := 146) dX9_init_143 (by decide) rfl ?_
  refine xi_iast (q := 147) dX9_init_146 (xv_self (by omega)) ⟨xv_ink (by decide), (by decide : (4 : Int32).toNatClampNeg = 4)⟩ rfl ?_
  refine xi_dup (q := 148) dX9_init_147 rfl rfl ?_
  refine xi_iconst (x := 5) (q := 149) dX9_init_148 (by decide) rfl ?_
  refine xi_sipush (x := 7934) (q := 152) dX9_init_149 (by decide) rfl ?_
  refine xi_iast (q := 153) dX9_init_152 (xv_self (by omega)) ⟨xv_ink (by decide), (by decide : (5 : Int32).toNatClampNeg = 5)⟩ rfl ?_
  refine xi_dup (q := 154) dX9_init_153 rfl rfl ?_
  refine xi_bipush (x := 6) (q := 156) dX9_init_154 (by decide) rfl ?_
  refine xi_sipush (x := 7071) (q := 159) dX9_init_156 (by decide) rfl ?_
  refine xi_iast (q := 160) dX9_init_159 (xv_self (by omega)) ⟨xv_ink (by decide), (by decide : (6 : Int32).toNatClampNeg = 6)⟩ rfl ?_
  refine xi_dup (q := 161) dX9_init_160 rfl rfl ?_
  refine xi_bipush (x := 7) (q := 163) dX9_init_161 (by decide) rfl ?_
  refine xi_sipush (x := 6088) (q := 166) dX9_init_163 (by decide) rfl ?_
  refine xi_iast (q := 167) dX9_init_166 (xv_self (by omega)) ⟨xv_ink (by decide), (by decide : (7 : Int32).toNatClampNeg = 7)⟩ rfl ?_
  refine xi_dup (q := 168) dX9_init_167 rfl rfl ?_
  refine xi_bipush (x := 8) (q := 170) dX9_init_168 (by decide) rfl ?_
  refine xi_sipush (x := 5000) (q := 173) dX9_init_170 (by decide) rfl ?_
  refine xi_iast (q := 174) dX9_init_173 (xv_self (by omega)) ⟨xv_ink (by decide), (by decide : (8 : Int32).toNatClampNeg = 8)⟩ rfl ?_
  refine xi_dup (q := 175) dX9_init_174 rfl rfl ?_
  refine xi_bipush (x := 9) (q := 177) dX9_init_175 (by decide) rfl ?_
  refine xi_sipush (x := 3827) (q := 180) dX9_init_177 (by decide) rfl ?_
  refine xi_iast (q := 181) dX9_init_180 (xv_self (by omega)) ⟨xv_ink (by decide), (by decide : (9 : Int32).toNatClampNeg = 9)⟩ rfl ?_
  refine xi_dup (q := 182) dX9_init_181 rfl rfl ?_
  refine xi_bipush (x := 10) (q := 184) dX9_init_182 (by decide) rfl ?_
  refine xi_sipush (x := 2588) (q := 187) dX9_init_184 (by decide) rfl ?_
  refine xi_iast (q := 188) dX9_init_187 (xv_self (by omega)) ⟨xv_ink (by decide), (by decide : (10 : Int32).toNatClampNeg = 10)⟩ rfl ?_
  refine xi_dup (q := 189) dX9_init_188 rfl rfl ?_
  refine xi_bipush (x := 11) (q := 191) dX9_init_189 (by decide) rfl ?_
  refine xi_sipush (x := 1305) (q := 194) dX9_init_191 (by decide) rfl ?_
  refine xi_iast (q := 195) dX9_init_194 (xv_self (by omega)) ⟨xv_ink (by decide), (by decide : (11 : Int32).toNatClampNeg = 11)⟩ rfl ?_
  refine xi_dup (q := 196) dX9_init_195 rfl rfl ?_
  refine xi_bipush (x := 12) (q := 198) dX9_init_196 (by decide) rfl ?_
  refine xi_iconst (x := 0) (q := 199) dX9_init_198 (by decide) rfl ?_
  refine xi_iast (q := 200) dX9_init_199 (xv_self (by omega)) ⟨xv_ink (by decide), (by decide : (12 : Int32).toNatClampNeg = 12)⟩ rfl ?_
  refine xv_norm (h' := va_up _ 93 (xs_ia 13 xs_fT)) (xv_nr (g := xs_fT) (va_up_self _ _ _) rfl (by decide)) ?_
  refine xi_putf (q := 203) dX9_init_200 fl_X9_38 (xv_keep (by omega) (xv_keep (by omega) (xv_keep (by omega) (xv_keep (by omega) (xv_keep (by omega) (xv_keep (by omega) (xv_keep (by omega) (xv_keep (by omega) (xv_keep (by omega) (xv_keep (by omega) (xv_keep (by omega) (xv_keep (by omega) (xv_keep (by omega) (xv_keep (by omega) (xv_keep (by omega) (xv_self (by omega))))))))))))))))) (Or.inr ⟨rfl, fun q hq => by cases hq; rfl⟩) (fun _ => rfl) (fun _ => rfl) (Nat.le_of_ble_eq_true rfl) rfl ?_
  refine xi_aload_n (q := 204) dX9_init_203 rfl rfl ?_
  refine xi_bipush (x := 48) (q := 206) dX9_init_204 (by decide) rfl ?_
  refine xi_newa (N := 48) (q := 208) dX9_init_206 rfl ac_int (fun _ => rfl) (by decide) rfl (Nat.le_of_ble_eq_true rfl) (by omega) (Nat.le_of_ble_eq_true rfl) (Nat.le_of_ble_eq_true rfl) rfl ?_
  show xv_V X mX9_init Post 11 954 208 _ _ _ 95
  refine xi_putf (q := 211) dX9_init_208 fl_X9_41 (xv_keep (by omega) (xv_self (by omega))) (Or.inr ⟨rfl, fun q hq => by cases hq; rfl⟩) (fun _ => rfl) (fun _ => rfl) (Nat.le_of_ble_eq_true rfl) rfl ?_
  refine xi_aload_n (q := 212) dX9_init_211 rfl rfl ?_
  refine xi_bipush (x := 13) (q := 214) dX9_init_212 (by decide) rfl ?_
  refine xi_newa (N := 13) (q := 216) dX9_init_214 rfl ac_int (fun _ => rfl) (by decide) rfl (Nat.le_of_ble_eq_true rfl) (by omega) (Nat.le_of_ble_eq_true rfl) (Nat.le_of_ble_eq_true rfl) rfl ?_
  show xv_V X mX9_init Post 12 967 216 _ _ _ 96
  refine xi_putf (q := 219) dX9_init_216 fl_X9_44 (xv_keep (by omega) (xv_self (by omega))) (Or.inr ⟨rfl, fun q hq => by cases hq; rfl⟩) (fun _ => rfl) (fun _ => rfl) (Nat.le_of_ble_eq_true rfl) rfl ?_
  refine xi_aload_n (q := 220) dX9_init_219 rfl rfl ?_
  refine xi_bipush (x := 48) (q := 222) dX9_init_220 (by decide) rfl ?_
  refine xi_newa (N := 48) (q := 224) dX9_init_222 rfl ac_int (fun _ => rfl) (by decide) rfl (Nat.le_of_ble_eq_true rfl) (by omega) (Nat.le_of_ble_eq_true rfl) (Nat.le_of_ble_eq_true rfl) rfl ?_
  show xv_V X mX9_init Post 13 1015 224 _ _ _ 97
  refine xi_putf (q := 227) dX9_init_224 fl_X9_47 (xv_keep (by omega) (xv_self (by omega))) (Or.inr ⟨rfl, fun q hq => by cases hq; rfl⟩) (fun _ => rfl) (fun _ => rfl) (Nat.le_of_ble_eq_true rfl) rfl ?_
  refine xi_aload_n (q := 228) dX9_init_227 rfl rfl ?_
  refine xi_sipush (x := 240) (q := 231) dX9_init_228 (by decide) rfl ?_
  refine xi_newa (N := 240) (q := 233) dX9_init_231 rfl ac_int (fun _ => rfl) (by decide) rfl (Nat.le_of_ble_eq_true rfl) (by omega) (Nat.le_of_ble_eq_true rfl) (Nat.le_of_ble_eq_true rfl) rfl ?_
  show xv_V X mX9_init Post 14 1255 233 _ _ _ 98
  refine xi_putf (q := 236) dX9_init_233 fl_X9_50 (xv_keep (by omega) (xv_self (by omega))) (Or.inr ⟨rfl, fun q hq => by cases hq; rfl⟩) (fun _ => rfl) (fun _ => rfl) (Nat.le_of_ble_eq_true rfl) rfl ?_
  refine xi_aload_n (q := 237) dX9_init_236 rfl rfl ?_
  refine xi_sipush (x := 240) (q := 240) dX9_init_237 (by decide) rfl ?_
  refine xi_newa (N := 240) (q := 242) dX9_init_240 rfl ac_int (fun _ => rfl) (by decide) rfl (Nat.le_of_ble_eq_true rfl) (by omega) (Nat.le_of_ble_eq_true rfl) (Nat.le_of_ble_eq_true rfl) rfl ?_
  show xv_V X mX9_init Post 15 1495 242 _ _ _ 99
  refine xi_putf (q := 245) dX9_init_242 fl_X9_53 (xv_keep (by omega) (xv_self (by omega))) (Or.inr ⟨rfl, fun q hq => by cases hq; rfl⟩) (fun _ => rfl) (fun _ => rfl) (Nat.le_of_ble_eq_true rfl) rfl ?_
  refine xi_aload_n (q := 246) dX9_init_245 rfl rfl ?_
  refine xi_sipush (x := 11011) (q := 249) dX9_init_246 (by decide) rfl ?_
  refine xi_newa (N := 11011) (q := 251) dX9_init_249 rfl ac_int (fun _ => rfl) (by decide) rfl (Nat.le_of_ble_eq_true rfl) (by omega) (Nat.le_of_ble_eq_true rfl) (Nat.le_of_ble_eq_true rfl) rfl ?_
  show xv_V X mX9_init Post 16 12506 251 _ _ _ 100
  refine xi_putf (q := 254) dX9_init_251 fl_X9_56 (xv_keep (by omega) (xv_self (by omega))) (Or.inr ⟨rfl, fun q hq => by cases hq; rfl⟩) (fun _ => rfl) (fun _ => rfl) (Nat.le_of_ble_eq_true rfl) rfl ?_
  refine xi_aload_n (q := 255) dX9_init_254 rfl rfl ?_
  refine xi_bipush (x := 10) (q := 257) dX9_init_255 (by decide) rfl ?_
  refine xi_newa (N := 10) (q := 259) dX9_init_257 rfl ac_int (fun _ => rfl) (by decide) rfl (Nat.le_of_ble_eq_true rfl) (by omega) (Nat.le_of_ble_eq_true rfl) (Nat.le_of_ble_eq_true rfl) rfl ?_
  show xv_V X mX9_init Post 17 12516 259 _ _ _ 101
  refine xi_putf (q := 262) dX9_init_259 fl_X9_59 (xv_keep (by omega) (xv_self (by omega))) (Or.inr ⟨rfl, fun q hq => by cases hq; rfl⟩) (fun _ => rfl) (fun _ => rfl) (Nat.le_of_ble_eq_true rfl) rfl ?_
  refine xi_aload_n (q := 263) dX9_init_262 rfl rfl ?_
  refine xi_bipush (x := 10) (q := 265) dX9_init_263 (by decide) rfl ?_
  refine xi_newa (N := 10) (q := 267) dX9_init_265 rfl ac_int (fun _ => rfl) (by decide) rfl (Nat.le_of_ble_eq_true rfl) (by omega) (Nat.le_of_ble_eq_true rfl) (Nat.le_of_ble_eq_true rfl) rfl ?_
  show xv_V X mX9_init Post 18 12526 267 _ _ _ 102
  refine xi_putf (q := 270) dX9_init_267 fl_X9_62 (xv_keep (by omega) (xv_self (by omega))) (Or.inr ⟨rfl, fun q hq => by cases hq; rfl⟩) (fun _ => rfl) (fun _ => rfl) (Nat.le_of_ble_eq_true rfl) rfl ?_
  refine xi_aload_n (q := 271) dX9_init_270 rfl rfl ?_
  refine xi_bipush (x := 10) (q := 273) dX9_init_271 (by decide) rfl ?_
  refine xi_newa (N := 10) (q := 275) dX9_init_273 rfl ac_int (fun _ => rfl) (by decide) rfl (Nat.le_of_ble_eq_true rfl) (by omega) (Nat.le_of_ble_eq_true rfl) (Nat.le_of_ble_eq_true rfl) rfl ?_
  show xv_V X mX9_init Post 19 12536 275 _ _ _ 103
  refine xi_putf (q := 278) dX9_init_275 fl_X9_65 (xv_keep (by omega) (xv_self (by omega))) (Or.inr ⟨rfl, fun q hq => by cases hq; rfl⟩) (fun _ => rfl) (fun _ => rfl) (Nat.le_of_ble_eq_true rfl) rfl ?_
  refine xi_aload_n (q := 279) dX9_init_278 rfl rfl ?_
  refine xi_bipush (x := 16) (q := 281) dX9_init_279 (by decide) rfl ?_
  refine xi_newa (N := 16) (q := 283) dX9_init_281 rfl ac_int (fun _ => rfl) (by decide) rfl (Nat.le_of_ble_eq_true rfl) (by omega) (Nat.le_of_ble_eq_true rfl) (Nat.le_of_ble_eq_true rfl) rfl ?_
  show xv_V X mX9_init Post 20 12552 283 _ _ _ 104
  refine xi_putf (q := 286) dX9_init_283 fl_X9_68 (xv_keep (by omega) (xv_self (by omega))) (Or.inr ⟨rfl, fun q hq => by cases hq; rfl⟩) (fun _ => rfl) (fun _ => rfl) (Nat.le_of_ble_eq_true rfl) rfl ?_
  refine xi_vret ⟨rfl, dX9_init_286⟩ (Nat.le_of_ble_eq_true rfl) (Nat.le_of_ble_eq_true rfl) ?_
  have hl : ∀ s, s < 8 → (upd (upd (upd (upd (upd (upd (upd (upd xs_z0 0 (-1)) 1 (-1)) 2 (-1)) 3 (-1)) 4 (-1)) 5 (-1)) 6 (-1)) 7 (-1)) s = -1 := by decide
  exact hp _ ⟨(xs_cu (xs_cu (fun _ => xs_z0) 84 (upd (upd (upd (upd (upd (upd (upd (upd xs_z0 0 (-1)) 1 (-1)) 2 (-1)) 3 (-1)) 4 (-1)) 5 (-1)) 6 (-1)) 7 (-1))) 93 xs_fT), 0, ⟨((va_up_self _ _ _).trans rfl), ((va_up_ne _ _ (by omega)).trans ((va_up_ne _ _ (by omega)).trans ((va_up_ne _ _ (by omega)).trans ((va_up_ne _ _ (by omega)).trans ((va_up_ne _ _ (by omega)).trans ((va_up_ne _ _ (by omega)).trans ((va_up_ne _ _ (by omega)).trans ((va_up_ne _ _ (by omega)).trans ((va_up_ne _ _ (by omega)).trans ((va_up_ne _ _ (by omega)).trans ((va_up_ne _ _ (by omega)).trans ((va_up_ne _ _ (by omega)).trans ((va_up_ne _ _ (by omega)).trans ((va_up_ne _ _ (by omega)).trans ((va_up_ne _ _ (by omega)).trans ((va_up_ne _ _ (by omega)).trans ((va_up_ne _ _ (by omega)).trans ((va_up_ne _ _ (by omega)).trans ((va_up_ne _ _ (by omega)).trans ((va_up_ne _ _ (by omega)).trans ((va_up_ne _ _ (by omega)).trans ((va_up_ne _ _ (by omega)).trans ((va_up_ne _ _ (by omega)).trans ((va_up_ne _ _ (by omega)).trans ((va_up_ne _ _ (by omega)).trans ((va_up_ne _ _ (by omega)).trans ((va_up_ne _ _ (by omega)).trans ((va_up_ne _ _ (by omega)).trans ((va_up_ne _ _ (by omega)).trans ((va_up_ne _ _ (by omega)).trans ((va_up_ne _ _ (by omega)).trans ((va_up_ne _ _ (by omega)).trans ((va_up_ne _ _ (by omega)).trans ((va_up_ne _ _ (by omega)).trans ((va_up_ne _ _ (by omega)).trans ((va_up_ne _ _ (by omega)).trans ((va_up_ne _ _ (by omega)).trans ((va_up_ne _ _ (by omega)).trans ((va_up_ne _ _ (by omega)).trans ((va_up_ne _ _ (by omega)).trans ((va_up_ne _ _ (by omega)).trans ((va_up_ne _ _ (by omega)).trans ((va_up_ne _ _ (by omega)).trans ((va_up_ne _ _ (by omega)).trans ((va_up_ne _ _ (by omega)).trans ((va_up_ne _ _ (by omega)).trans ((va_up_ne _ _ (by omega)).trans ((va_up_ne _ _ (by omega)).trans ((va_up_ne _ _ (by omega)).trans ((va_up_ne _ _ (by omega)).trans ((va_up_ne _ _ (by omega)).trans ((va_up_ne _ _ (by omega)).trans ((va_up_ne _ _ (by omega)).trans ((va_up_self _ _ _).trans rfl)))))))))))))))))))))))))))))))))))))))))))))))))))))), ((va_up_ne _ _ (by omega)).trans ((va_up_ne _ _ (by omega)).trans ((va_up_ne _ _ (by omega)).trans ((va_up_ne _ _ (by omega)).trans ((va_up_ne _ _ (by omega)).trans ((va_up_ne _ _ (by omega)).trans ((va_up_ne _ _ (by omega)).trans ((va_up_ne _ _ (by omega)).trans ((va_up_ne _ _ (by omega)).trans ((va_up_ne _ _ (by omega)).trans ((va_up_ne _ _ (by omega)).trans ((va_up_ne _ _ (by omega)).trans ((va_up_ne _ _ (by omega)).trans ((va_up_ne _ _ (by omega)).trans ((va_up_ne _ _ (by omega)).trans ((va_up_ne _ _ (by omega)).trans ((va_up_ne _ _ (by omega)).trans ((va_up_ne _ _ (by omega)).trans ((va_up_ne _ _ (by omega)).trans ((va_up_ne _ _ (by omega)).trans ((va_up_ne _ _ (by omega)).trans ((va_up_ne _ _ (by omega)).trans ((va_up_ne _ _ (by omega)).trans ((va_up_ne _ _ (by omega)).trans ((va_up_ne _ _ (by omega)).trans ((va_up_ne _ _ (by omega)).trans ((va_up_ne _ _ (by omega)).trans ((va_up_ne _ _ (by omega)).trans ((va_up_ne _ _ (by omega)).trans ((va_up_ne _ _ (by omega)).trans ((va_up_ne _ _ (by omega)).trans ((va_up_ne _ _ (by omega)).trans ((va_up_ne _ _ (by omega)).trans ((va_up_ne _ _ (by omega)).trans ((va_up_ne _ _ (by omega)).trans ((va_up_ne _ _ (by omega)).trans ((va_up_ne _ _ (by omega)).trans ((va_up_ne _ _ (by omega)).trans ((va_up_ne _ _ (by omega)).trans ((va_up_ne _ _ (by omega)).trans ((va_up_ne _ _ (by omega)).trans ((va_up_ne _ _ (by omega)).trans ((va_up_ne _ _ (by omega)).trans ((va_up_ne _ _ (by omega)).trans ((va_up_ne _ _ (by omega)).trans ((va_up_ne _ _ (by omega)).trans ((va_up_ne _ _ (by omega)).trans ((va_up_ne _ _ (by omega)).trans ((va_up_ne _ _ (by omega)).trans ((va_up_ne _ _ (by omega)).trans ((va_up_ne _ _ (by omega)).trans ((va_up_self _ _ _).trans rfl)))))))))))))))))))))))))))))))))))))))))))))))))))), ((va_up_ne _ _ (by omega)).trans ((va_up_ne _ _ (by omega)).trans ((va_up_ne _ _ (by omega)).trans ((va_up_ne _ _ (by omega)).trans ((va_up_ne _ _ (by omega)).trans ((va_up_ne _ _ (by omega)).trans ((va_up_ne _ _ (by omega)).trans ((va_up_ne _ _ (by omega)).trans ((va_up_ne _ _ (by omega)).trans ((va_up_ne _ _ (by omega)).trans ((va_up_ne _ _ (by omega)).trans ((va_up_ne _ _ (by omega)).trans ((va_up_ne _ _ (by omega)).trans ((va_up_ne _ _ (by omega)).trans ((va_up_ne _ _ (by omega)).trans ((va_up_ne _ _ (by omega)).trans ((va_up_ne _ _ (by omega)).trans ((va_up_ne _ _ (by omega)).trans ((va_up_ne _ _ (by omega)).trans ((va_up_ne _ _ (by omega)).trans ((va_up_ne _ _ (by omega)).trans ((va_up_ne _ _ (by omega)).trans ((va_up_ne _ _ (by omega)).trans ((va_up_ne _ _ (by omega)).trans ((va_up_ne _ _ (by omega)).trans ((va_up_ne _ _ (by omega)).trans ((va_up_ne _ _ (by omega)).trans ((va_up_ne _ _ (by omega)).trans ((va_up_ne _ _ (by omega)).trans ((va_up_ne _ _ (by omega)).trans ((va_up_ne _ _ (by omega)).trans ((va_up_ne _ _ (by omega)).trans ((va_up_ne _ _ (by omega)).trans ((va_up_ne _ _ (by omega)).trans ((va_up_ne _ _ (by omega)).trans ((va_up_ne _ _ (by omega)).trans ((va_up_ne _ _ (by omega)).trans ((va_up_ne _ _ (by omega)).trans ((va_up_ne _ _ (by omega)).trans ((va_up_ne _ _ (by omega)).trans ((va_up_ne _ _ (by omega)).trans ((va_up_ne _ _ (by omega)).trans ((va_up_ne _ _ (by omega)).trans ((va_up_ne _ _ (by omega)).trans ((va_up_ne _ _ (by omega)).trans ((va_up_ne _ _ (by omega)).trans ((va_up_ne _ _ (by omega)).trans ((va_up_ne _ _ (by omega)).trans ((va_up_ne _ _ (by omega)).trans ((va_up_self _ _ _).trans rfl)))))))))))))))))))))))))))))))))))))))))))))))))), ((va_up_ne _ _ (by omega)).trans ((va_up_ne _ _ (by omega)).trans ((va_up_ne _ _ (by omega)).trans ((va_up_ne _ _ (by omega)).trans ((va_up_ne _ _ (by omega)).trans ((va_up_ne _ _ (by omega)).trans ((va_up_ne _ _ (by omega)).trans ((va_up_ne _ _ (by omega)).trans ((va_up_ne _ _ (by omega)).trans ((va_up_ne _ _ (by omega)).trans ((va_up_ne _ _ (by omega)).trans ((va_up_ne _ _ (by omega)).trans ((va_up_ne _ _ (by omega)).trans ((va_up_ne _ _ (by omega)).trans ((va_up_ne _ _ (by omega)).trans ((va_up_ne _ _ (by omega)).trans ((va_up_ne _ _ (by omega)).trans ((va_up_ne _ _ (by omega)).trans ((va_up_ne _ _ (by omega)).trans ((va_up_ne _ _ (by omega)).trans ((va_up_ne _ _ (by omega)).trans ((va_up_ne _ _ (by omega)).trans ((va_up_ne _ _ (by omega)).trans ((va_up_ne _ _ (by omega)).trans ((va_up_ne _ _ (by omega)).trans ((va_up_ne _ _ (by omega)).trans ((va_up_ne _ _ (by omega)).trans ((va_up_ne _ _ (by omega)).trans ((va_up_ne _ _ (by omega)).trans ((va_up_ne _ _ (by omega)).trans ((va_up_ne _ _ (by omega)).trans ((va_up_ne _ _ (by omega)).trans ((va_up_ne _ _ (by omega)).trans ((va_up_ne _ _ (by omega)).trans ((va_up_ne _ _ (by omega)).trans ((va_up_ne _ _ (by omega)).trans ((va_up_ne _ _ (by omega)).trans ((va_up_ne _ _ (by omega)).trans ((va_up_ne _ _ (by omega)).trans ((va_up_ne _ _ (by omega)).trans ((va_up_ne _ _ (by omega)).trans ((va_up_ne _ _ (by omega)).trans ((va_up_ne _ _ (by omega)).trans ((va_up_ne _ _ (by omega)).trans ((va_up_ne _ _ (by omega)).trans ((va_up_ne _ _ (by omega)).trans ((va_up_ne _ _ (by omega)).trans ((va_up_self _ _ _).trans rfl)))))))))))))))))))))))))))))))))))))))))))))))), ((va_up_ne _ _ (by omega)).trans ((va_up_ne _ _ (by omega)).trans ((va_up_ne _ _ (by omega)).trans ((va_up_ne _ _ (by omega)).trans ((va_up_ne _ _ (by omega)).trans ((va_up_ne _ _ (by omega)).trans ((va_up_ne _ _ (by omega)).trans ((va_up_ne _ _ (by omega)).trans ((va_up_ne _ _ (by omega)).trans ((va_up_ne _ _ (by omega)).trans ((va_up_ne _ _ (by omega)).trans ((va_up_ne _ _ (by omega)).trans ((va_up_ne _ _ (by omega)).trans ((va_up_ne _ _ (by omega)).trans ((va_up_ne _ _ (by omega)).trans ((va_up_ne _ _ (by omega)).trans ((va_up_ne _ _ (by omega)).trans ((va_up_ne _ _ (by omega)).trans ((va_up_ne _ _ (by omega)).trans ((va_up_ne _ _ (by omega)).trans ((va_up_ne _ _ (by omega)).trans ((va_up_ne _ _ (by omega)).trans ((va_up_ne _ _ (by omega)).trans ((va_up_ne _ _ (by omega)).trans ((va_up_ne _ _ (by omega)).trans ((va_up_ne _ _ (by omega)).trans ((va_up_ne _ _ (by omega)).trans ((va_up_ne _ _ (by omega)).trans ((va_up_ne _ _ (by omega)).trans ((va_up_ne _ _ (by omega)).trans ((va_up_ne _ _ (by omega)).trans ((va_up_ne _ _ (by omega)).trans ((va_up_ne _ _ (by omega)).trans ((va_up_ne _ _ (by omega)).trans ((va_up_ne _ _ (by omega)).trans ((va_up_ne _ _ (by omega)).trans ((va_up_ne _ _ (by omega)).trans ((va_up_ne _ _ (by omega)).trans ((va_up_ne _ _ (by omega)).trans ((va_up_ne _ _ (by omega)).trans ((va_up_ne _ _ (by omega)).trans ((va_up_ne _ _ (by omega)).trans ((va_up_ne _ _ (by omega)).trans ((va_up_ne _ _ (by omega)).trans ((va_up_ne _ _ (by omega)).trans ((va_up_self _ _ _).trans rfl)))))))))))))))))))))))))))))))))))))))))))))), ((va_up_ne _ _ (by omega)).trans ((va_up_ne _ _ (by omega)).trans ((va_up_ne _ _ (by omega)).trans ((va_up_ne _ _ (by omega)).trans ((va_up_ne _ _ (by omega)).trans ((va_up_ne _ _ (by omega)).trans ((va_up_ne _ _ (by omega)).trans ((va_up_ne _ _ (by omega)).trans ((va_up_ne _ _ (by omega)).trans ((va_up_ne _ _ (by omega)).trans ((va_up_ne _ _ (by omega)).trans ((va_up_ne _ _ (by omega)).trans ((va_up_ne _ _ (by omega)).trans ((va_up_ne _ _ (by omega)).trans ((va_up_ne _ _ (by omega)).trans ((va_up_ne _ _ (by omega)).trans ((va_up_ne _ _ (by omega)).trans ((va_up_ne _ _ (by omega)).trans ((va_up_ne _ _ (by omega)).trans ((va_up_ne _ _ (by omega)).trans ((va_up_ne _ _ (by omega)).trans ((va_up_ne _ _ (by omega)).trans ((va_up_ne _ _ (by omega)).trans ((va_up_ne _ _ (by omega)).trans ((va_up_ne _ _ (by omega)).trans ((va_up_ne _ _ (by omega)).trans ((va_up_ne _ _ (by omega)).trans ((va_up_ne _ _ (by omega)).trans ((va_up_ne _ _ (by omega)).trans ((va_up_ne _ _ (by omega)).trans ((va_up_ne _ _ (by omega)).trans ((va_up_ne _ _ (by omega)).trans ((va_up_ne _ _ (by omega)).trans ((va_up_ne _ _ (by omega)).trans ((va_up_ne _ _ (by omega)).trans ((va_up_ne _ _ (by omega)).trans ((va_up_ne _ _ (by omega)).trans ((va_up_ne _ _ (by omega)).trans ((va_up_ne _ _ (by omega)).trans ((va_up_ne _ _ (by omega)).trans ((va_up_ne _ _ (by omega)).trans ((va_up_ne _ _ (by omega)).trans ((va_up_ne _ _ (by omega)).trans ((va_up_self _ _ _).trans rfl)))))))))))))))))))))))))))))))))))))))))))), ((va_up_ne _ _ (by omega)).trans ((va_up_ne _ _ (by omega)).trans ((va_up_ne _ _ (by omega)).trans ((va_up_ne _ _ (by omega)).trans ((va_up_ne _ _ (by omega)).trans ((va_up_ne _ _ (by omega)).trans ((va_up_ne _ _ (by omega)).trans ((va_up_ne _ _ (by omega)).trans ((va_up_ne _ _ (by omega)).trans ((va_up_ne _ _ (by omega)).trans ((va_up_ne _ _ (by omega)).trans ((va_up_ne _ _ (by omega)).trans ((va_up_ne _ _ (by omega)).trans ((va_up_ne _ _ (by omega)).trans ((va_up_ne _ _ (by omega)).trans ((va_up_ne _ _ (by omega)).trans ((va_up_ne _ _ (by omega)).trans ((va_up_ne _ _ (by omega)).trans ((va_up_ne _ _ (by omega)).trans ((va_up_ne _ _ (by omega)).trans ((va_up_ne _ _ (by omega)).trans ((va_up_ne _ _ (by omega)).trans ((va_up_ne _ _ (by omega)).trans ((va_up_ne _ _ (by omega)).trans ((va_up_ne _ _ (by omega)).trans ((va_up_ne _ _ (by omega)).trans ((va_up_ne _ _ (by omega)).trans ((va_up_ne _ _ (by omega)).trans ((va_up_ne _ _ (by omega)).trans ((va_up_ne _ _ (by omega)).trans ((va_up_ne _ _ (by omega)).trans ((va_up_ne _ _ (by omega)).trans ((va_up_ne _ _ (by omega)).trans ((va_up_ne _ _ (by omega)).trans ((va_up_ne _ _ (by omega)).trans ((va_up_ne _ _ (by omega)).trans ((va_up_ne _ _ (by omega)).trans ((va_up_ne _ _ (by omega)).trans ((va_up_ne _ _ (by omega)).trans ((va_up_ne _ _ (by omega)).trans ((va_up_ne _ _ (by omega)).trans ((va_up_self _ _ _).trans rfl)))))))))))))))))))))))))))))))))))))))))), ((va_up_ne _ _ (by omega)).trans ((va_up_ne _ _ (by omega)).trans ((va_up_ne _ _ (by omega)).trans ((va_up_ne _ _ (by omega)).trans ((va_up_ne _ _ (by omega)).trans ((va_up_ne _ _ (by omega)).trans ((va_up_ne _ _ (by omega)).trans ((va_up_ne _ _ (by omega)).trans ((va_up_ne _ _ (by omega)).trans ((va_up_ne _ _ (by omega)).trans ((va_up_ne _ _ (by omega)).trans ((va_up_ne _ _ (by omega)).trans ((va_up_ne _ _ (by omega)).trans ((va_up_ne _ _ (by omega)).trans ((va_up_ne _ _ (by omega)).trans ((va_up_ne _ _ (by omega)).trans ((va_up_ne _ _ (by omega)).trans ((va_up_ne _ _ (by omega)).trans ((va_up_ne _ _ (by omega)).trans ((va_up_ne _ _ (by omega)).trans ((va_up_ne _ _ (by omega)).trans ((va_up_ne _ _ (by omega)).trans ((va_up_ne _ _ (by omega)).trans ((va_up_ne _ _ (by omega)).trans ((va_up_ne _ _ (by omega)).trans ((va_up_ne _ _ (by omega)).trans ((va_up_ne _ _ (by omega)).trans ((va_up_ne _ _ (by omega)).trans ((va_up_ne _ _ (by omega)).trans ((va_up_ne _ _ (by omega)).trans ((va_up_ne _ _ (by omega)).trans ((va_up_ne _ _ (by omega)).trans ((va_up_ne _ _ (by omega)).trans ((va_up_ne _ _ (by omega)).trans ((va_up_ne _ _ (by omega)).trans ((va_up_ne _ _ (by omega)).trans ((va_up_ne _ _ (by omega)).trans ((va_up_ne _ _ (by omega)).trans ((va_up_ne _ _ (by omega)).trans ((va_up_self _ _ _).trans rfl)))))))))))))))))))))))))))))))))))))))), ((va_up_ne _ _ (by omega)).trans ((va_up_ne _ _ (by omega)).trans ((va_up_ne _ _ (by omega)).trans ((va_up_ne _ _ (by omega)).trans ((va_up_ne _ _ (by omega)).trans ((va_up_ne _ _ (by omega)).trans ((va_up_ne _ _ (by omega)).trans ((va_up_ne _ _ (by omega)).trans ((va_up_ne _ _ (by omega)).trans ((va_up_ne _ _ (by omega)).trans ((va_up_ne _ _ (by omega)).trans ((va_up_ne _ _ (by omega)).trans ((va_up_ne _ _ (by omega)).trans ((va_up_ne _ _ (by omega)).trans ((va_up_ne _ _ (by omega)).trans ((va_up_ne _ _ (by omega)).trans ((va_up_ne _ _ (by omega)).trans ((va_up_ne _ _ (by omega)).trans ((va_up_ne _ _ (by omega)).trans ((va_up_ne _ _ (by omega)).trans ((va_up_ne _ _ (by omega)).trans ((va_up_ne _ _ (by omega)).trans ((va_up_ne _ _ (by omega)).trans ((va_up_ne _ _ (by omega)).trans ((va_up_ne _ _ (by omega)).trans ((va_up_ne _ _ (by omega)).trans ((va_up_ne _ _ (by omega)).trans ((va_up_ne _ _ (by omega)).trans ((va_up_ne _ _ (by omega)).trans ((va_up_ne _ _ (by omega)).trans ((va_up_ne _ _ (by omega)).trans ((va_up_ne _ _ (by omega)).trans ((va_up_ne _ _ (by omega)).trans ((va_up_ne _ _ (by omega)).trans ((va_up_ne _ _ (by omega)).trans ((va_up_ne _ _ (by omega)).trans ((va_up_ne _ _ (by omega)).trans ((va_up_self _ _ _).trans rfl)))))))))))))))))))))))))))))))))))))), ((va_up_ne _ _ (by omega)).trans ((va_up_ne _ _ (by omega)).trans ((va_up_ne _ _ (by omega)).trans ((va_up_ne _ _ (by omega)).trans ((va_up_ne _ _ (by omega)).trans ((va_up_ne _ _ (by omega)).trans ((va_up_ne _ _ (by omega)).trans ((va_up_ne _ _ (by omega)).trans ((va_up_ne _ _ (by omega)).trans ((va_up_ne _ _ (by omega)).trans ((va_up_ne _ _ (by omega)).trans ((va_up_ne _ _ (by omega)).trans ((va_up_ne _ _ (by omega)).trans ((va_up_ne _ _ (by omega)).trans ((va_up_ne _ _ (by omega)).trans ((va_up_ne _ _ (by omega)).trans ((va_up_ne _ _ (by omega)).trans ((va_up_ne _ _ (by omega)).trans ((va_up_ne _ _ (by omega)).trans ((va_up_ne _ _ (by omega)).trans ((va_up_ne _ _ (by omega)).trans ((va_up_self _ _ _).trans rfl)))))))))))))))))))))), ((va_up_ne _ _ (by omega)).trans ((va_up_ne _ _ (by omega)).trans ((va_up_ne _ _ (by omega)).trans ((va_up_ne _ _ (by omega)).trans ((va_up_ne _ _ (by omega)).trans ((va_up_ne _ _ (by omega)).trans ((va_up_ne _ _ (by omega)).trans ((va_up_ne _ _ (by omega)).trans ((va_up_ne _ _ (by omega)).trans ((va_up_ne _ _ (by omega)).trans ((va_up_ne _ _ (by omega)).trans ((va_up_ne _ _ (by omega)).trans ((va_up_ne _ _ (by omega)).trans ((va_up_ne _ _ (by omega)).trans ((va_up_ne _ _ (by omega)).trans ((va_up_ne _ _ (by omega)).trans ((va_up_ne _ _ (by omega)).trans ((va_up_ne _ _ (by omega)).trans ((va_up_ne _ _ (by omega)).trans ((va_up_self _ _ _).trans rfl)))))))))))))))))))), ((va_up_ne _ _ (by omega)).trans ((va_up_ne _ _ (by omega)).trans ((va_up_ne _ _ (by omega)).trans ((va_up_ne _ _ (by omega)).trans ((va_up_ne _ _ (by omega)).trans ((va_up_ne _ _ (by omega)).trans ((va_up_ne _ _ (by omega)).trans ((va_up_ne _ _ (by omega)).trans ((va_up_ne _ _ (by omega)).trans ((va_up_ne _ _ (by omega)).trans ((va_up_ne _ _ (by omega)).trans ((va_up_ne _ _ (by omega)).trans ((va_up_ne _ _ (by omega)).trans ((va_up_ne _ _ (by omega)).trans ((va_up_ne _ _ (by omega)).trans ((va_up_ne _ _ (by omega)).trans ((va_up_ne _ _ (by omega)).trans ((va_up_self _ _ _).trans rfl)))))))))))))))))), ((va_up_ne _ _ (by omega)).trans ((va_up_ne _ _ (by omega)).trans ((va_up_ne _ _ (by omega)).trans ((va_up_ne _ _ (by omega)).trans ((va_up_ne _ _ (by omega)).trans ((va_up_ne _ _ (by omega)).trans ((va_up_ne _ _ (by omega)).trans ((va_up_ne _ _ (by omega)).trans ((va_up_ne _ _ (by omega)).trans ((va_up_ne _ _ (by omega)).trans ((va_up_ne _ _ (by omega)).trans ((va_up_ne _ _ (by omega)).trans ((va_up_ne _ _ (by omega)).trans ((va_up_ne _ _ (by omega)).trans ((va_up_ne _ _ (by omega)).trans ((va_up_self _ _ _).trans rfl)))))))))))))))), ((va_up_ne _ _ (by omega)).trans ((va_up_ne _ _ (by omega)).trans ((va_up_ne _ _ (by omega)).trans ((va_up_ne _ _ (by omega)).trans ((va_up_ne _ _ (by omega)).trans ((va_up_ne _ _ (by omega)).trans ((va_up_ne _ _ (by omega)).trans ((va_up_ne _ _ (by omega)).trans ((va_up_ne _ _ (by omega)).trans ((va_up_ne _ _ (by omega)).trans ((va_up_ne _ _ (by omega)).trans ((va_up_ne _ _ (by omega)).trans ((va_up_ne _ _ (by omega)).trans ((va_up_self _ _ _).trans rfl)))))))))))))), ((va_up_ne _ _ (by omega)).trans ((va_up_ne _ _ (by omega)).trans ((va_up_ne _ _ (by omega)).trans ((va_up_ne _ _ (by omega)).trans ((va_up_ne _ _ (by omega)).trans ((va_up_ne _ _ (by omega)).trans ((va_up_ne _ _ (by omega)).trans ((va_up_ne _ _ (by omega)).trans ((va_up_ne _ _ (by omega)).trans ((va_up_ne _ _ (by omega)).trans ((va_up_ne _ _ (by omega)).trans ((va_up_self _ _ _).trans rfl)))))))))))), ((va_up_ne _ _ (by omega)).trans ((va_up_ne _ _ (by omega)).trans ((va_up_ne _ _ (by omega)).trans ((va_up_ne _ _ (by omega)).trans ((va_up_ne _ _ (by omega)).trans ((va_up_ne _ _ (by omega)).trans ((va_up_ne _ _ (by omega)).trans ((va_up_ne _ _ (by omega)).trans ((va_up_ne _ _ (by omega)).trans ((va_up_self _ _ _).trans rfl)))))))))), ((va_up_ne _ _ (by omega)).trans ((va_up_ne _ _ (by omega)).trans ((va_up_ne _ _ (by omega)).trans ((va_up_ne _ _ (by omega)).trans ((va_up_ne _ _ (by omega)).trans ((va_up_ne _ _ (by omega)).trans ((va_up_ne _ _ (by omega)).trans ((va_up_self _ _ _).trans rfl)))))))), ((va_up_ne _ _ (by omega)).trans ((va_up_ne _ _ (by omega)).trans ((va_up_ne _ _ (by omega)).trans ((va_up_ne _ _ (by omega)).trans ((va_up_ne _ _ (by omega)).trans ((va_up_self _ _ _).trans rfl)))))), ((va_up_ne _ _ (by omega)).trans ((va_up_ne _ _ (by omega)).trans ((va_up_ne _ _ (by omega)).trans ((va_up_self _ _ _).trans rfl)))), ((va_up_ne _ _ (by omega)).trans ((va_up_self _ _ _).trans rfl))⟩, ⟨⟨fun s hs => ⟨(hl s hs).trans (if_pos rfl).symm, rfl, fun _ _ => rfl⟩, fun _ _ => ⟨rfl, rfl, fun _ _ => rfl⟩, fun _ _ => ⟨rfl, rfl, rfl, fun _ _ => rfl⟩, ⟨⟨rfl, fun _ _ => rfl⟩, fun _ _ => rfl⟩, ⟨rfl, fun i hi => absurd (show (i : Int) < (0 : Int32).toInt from hi) (by rw [show (0 : Int32).toInt = 0 from rfl]; omega)⟩⟩, rfl⟩⟩ (fun i hi => ((va_up_ne _ _ (by omega)).trans ((va_up_ne _ _ (by omega)).trans ((va_up_ne _ _ (by omega)).trans ((va_up_ne _ _ (by omega)).trans ((va_up_ne _ _ (by omega)).trans ((va_up_ne _ _ (by omega)).trans ((va_up_ne _ _ (by omega)).trans ((va_up_ne _ _ (by omega)).trans ((va_up_ne _ _ (by omega)).trans ((va_up_ne _ _ (by omega)).trans ((va_up_ne _ _ (by omega)).trans ((va_up_ne _ _ (by omega)).trans ((va_up_ne _ _ (by omega)).trans ((va_up_ne _ _ (by omega)).trans ((va_up_ne _ _ (by omega)).trans ((va_up_ne _ _ (by omega)).trans ((va_up_ne _ _ (by omega)).trans ((va_up_ne _ _ (by omega)).trans ((va_up_ne _ _ (by omega)).trans ((va_up_ne _ _ (by omega)).trans ((va_up_ne _ _ (by omega)).trans ((va_up_ne _ _ (by omega)).trans ((va_up_ne _ _ (by omega)).trans ((va_up_ne _ _ (by omega)).trans ((va_up_ne _ _ (by omega)).trans ((va_up_ne _ _ (by omega)).trans ((va_up_ne _ _ (by omega)).trans ((va_up_ne _ _ (by omega)).trans ((va_up_ne _ _ (by omega)).trans ((va_up_ne _ _ (by omega)).trans ((va_up_ne _ _ (by omega)).trans ((va_up_ne _ _ (by omega)).trans ((va_up_ne _ _ (by omega)).trans ((va_up_ne _ _ (by omega)).trans ((va_up_ne _ _ (by omega)).trans ((va_up_ne _ _ (by omega)).trans ((va_up_ne _ _ (by omega)).trans ((va_up_ne _ _ (by omega)).trans ((va_up_ne _ _ (by omega)).trans ((va_up_ne _ _ (by omega)).trans ((va_up_ne _ _ (by omega)).trans ((va_up_ne _ _ (by omega)).trans ((va_up_ne _ _ (by omega)).trans ((va_up_ne _ _ (by omega)).trans ((va_up_ne _ _ (by omega)).trans ((va_up_ne _ _ (by omega)).trans ((va_up_ne _ _ (by omega)).trans ((va_up_ne _ _ (by omega)).trans ((va_up_ne _ _ (by omega)).trans ((va_up_ne _ _ (by omega)).trans ((va_up_ne _ _ (by omega)).trans ((va_up_ne _ _ (by omega)).trans ((va_up_ne _ _ (by omega)).trans ((va_up_ne _ _ (by omega)).trans ((va_up_ne _ _ (by omega)).trans ((va_up_ne _ _ (by omega)).trans ((va_up_ne _ _ (by omega)).trans ((va_up_ne _ _ (by omega)).trans ((va_up_ne _ _ (by omega)).trans ((va_up_ne _ _ (by omega)).trans ((va_up_ne _ _ (by omega)).trans ((va_up_ne _ _ (by omega)).trans (Eq.refl _))))))))))))))))))))))))))))))))))))))))))))))))))))))))))))))))

theorem xs_VV0 : xs_VV xs_σ0 := by
  refine ⟨⟨⟨fun _ _ => Or.inl rfl, fun _ _ h => absurd rfl h, fun _ _ => Or.inl rfl, fun _ _ h => absurd rfl h, fun _ _ => Or.inl rfl, fun _ _ h => absurd rfl h, ⟨0, by omega, rfl⟩, ⟨0, by omega, rfl⟩, ?_⟩, ?_, ?_⟩, ?_⟩
  · show 0 ≤ (0 : Int32).toInt
    decide
  · show 0 ≤ (0 : Int32).toInt ∧ (0 : Int32).toInt ≤ 1500
    decide
  · show 0 ≤ (0 : Int32).toInt
    decide
  · show (0 : Int32).toInt ≤ 10000
    decide
