theorem xv_in {w : Cond} (h : w ∈ lw_tbl) (hg : goodWord w = true) : w ∈ xv_g := List.mem_filter.mpr ⟨h, hg⟩
theorem xv_inN {w : Cond} (h : w ∈ lw_tbl) (hg : xv_isn w = true) : w ∈ xv_nw := List.mem_filter.mpr ⟨h, hg⟩
theorem xv_t0 {w : Cond} (i : Nat) (h : (k2_sels lw_privs)[i]? = some w) : w ∈ lw_tbl := List.mem_append_left _ (List.mem_of_getElem? h)
theorem xv_t1 {w : Cond} (i : Nat) (h : tables_1_1[i]? = some w) : w ∈ lw_tbl := List.mem_append_right _ (List.mem_append_left _ (List.mem_of_getElem? h))
theorem xv_t2 {w : Cond} (i : Nat) (h : tables_1_2[i]? = some w) : w ∈ lw_tbl := List.mem_append_right _ (List.mem_append_right _ (List.mem_append_left _ (List.mem_of_getElem? h)))
theorem xv_t3 {w : Cond} (i : Nat) (h : tables_1_3[i]? = some w) : w ∈ lw_tbl := List.mem_append_right _ (List.mem_append_right _ (List.mem_append_right _ (List.mem_append_left _ (List.mem_of_getElem? h))))
theorem xv_t4 {w : Cond} (i : Nat) (h : tables_1_4[i]? = some w) : w ∈ lw_tbl := List.mem_append_right _ (List.mem_append_right _ (List.mem_append_right _ (List.mem_append_right _ (List.mem_append_left _ (List.mem_of_getElem? h)))))
theorem xv_t5 {w : Cond} (i : Nat) (h : tables_1_5[i]? = some w) : w ∈ lw_tbl := List.mem_append_right _ (List.mem_append_right _ (List.mem_append_right _ (List.mem_append_right _ (List.mem_append_right _ (List.mem_append_left _ (List.mem_of_getElem? h))))))
theorem xv_t6 {w : Cond} (i : Nat) (h : tables_1_6[i]? = some w) : w ∈ lw_tbl := List.mem_append_right _ (List.mem_append_right _ (List.mem_append_right _ (List.mem_append_right _ (List.mem_append_right _ (List.mem_append_right _ (List.mem_of_getElem? h))))))
theorem xv_inC {C : String} {T : u_T} {N : Nat} (ps : List Nat) (hp : u_ws C T N = ps.filterMap (fun i => lw_tbl[i]?)) (hg : (u_ws C T N).all goodWord = true) : ∀ w ∈ u_ws C T N, w ∈ xv_g := fun w hw => List.mem_filter.mpr ⟨by
  rw [hp] at hw
  obtain ⟨i, -, hi⟩ := List.mem_filterMap.mp hw
  exact List.mem_of_getElem? hi, List.all_eq_true.mp hg w hw⟩
theorem cw_X0 : ∀ w ∈ u_ws RX0 TX0 3, w ∈ xv_g := xv_inC [96, 98, 100] (by decide +kernel) (by decide +kernel)
theorem cw_X1 : ∀ w ∈ u_ws RX1 TX1 6, w ∈ xv_g := xv_inC [246, 248, 250, 252, 254, 256] (by decide +kernel) (by decide +kernel)
theorem cw_X2 : ∀ w ∈ u_ws RX2 TX2 4, w ∈ xv_g := xv_inC [116, 118, 120, 122] (by decide +kernel) (by decide +kernel)
theorem cw_X3 : ∀ w ∈ u_ws RX3 TX3 4, w ∈ xv_g := xv_inC [140, 142, 144, 146] (by decide +kernel) (by decide +kernel)
theorem cw_X4 : ∀ w ∈ u_ws RX4 TX4 3, w ∈ xv_g := xv_inC [194, 196, 198] (by decide +kernel) (by decide +kernel)
theorem cw_X5 : ∀ w ∈ u_ws RX5 TX5 7, w ∈ xv_g := xv_inC [168, 170, 172, 174, 176, 178, 180] (by decide +kernel) (by decide +kernel)
theorem cw_X6 : ∀ w ∈ u_ws RX6 TX6 7, w ∈ xv_g := xv_inC [217, 219, 221, 223, 225, 227, 229] (by decide +kernel) (by decide +kernel)
theorem cw_X7 : ∀ w ∈ u_ws RX7 TX7 4, w ∈ xv_g := xv_inC [272, 274, 276, 278] (by decide +kernel) (by decide +kernel)
theorem cw_X8 : ∀ w ∈ u_ws RX8 TX8 13, w ∈ xv_g := xv_inC [294, 296, 298, 300, 302, 304, 306, 308, 310, 312, 314, 316, 318] (by decide +kernel) (by decide +kernel)
theorem cw_X9 : ∀ w ∈ u_ws RX9 TX9 33, w ∈ xv_g := xv_inC [897, 899, 901, 903, 905, 907, 909, 911, 913, 915, 917, 919, 921, 923, 925, 927, 929, 931, 933, 935, 937, 939, 941, 943, 945, 947, 949, 951, 953, 955, 957, 959, 961] (by decide +kernel) (by decide +kernel)
abbrev mX0_init : xv_M := (RX0, cX0_init, 1, true, none, { frames := 1, cells := 1, slots := 11, locals := 45 })
abbrev mX0_build : xv_M := (RX0, cX0_build, 4, false, none, { frames := 2, cells := 0, slots := 0, locals := 90 })
abbrev mX0_resemble : xv_M := (RX0, cX0_resemble, 2, false, none, { frames := 1, cells := 0, slots := 0, locals := 45 })
abbrev mX0_late : xv_M := (RX0, cX0_late, 1, false, (some .int), { frames := 0, cells := 0, slots := 0, locals := 0 })
abbrev mX0_leak : xv_M := (RX0, cX0_leak, 1, false, (some .int), { frames := 0, cells := 0, slots := 0, locals := 0 })
abbrev mX0_choke : xv_M := (RX0, cX0_choke, 1, false, (some .int), { frames := 0, cells := 0, slots := 0, locals := 0 })
abbrev mX0_stroke : xv_M := (RX0, cX0_stroke, 5, false, (some .int), { frames := 1, cells := 0, slots := 0, locals := 45 })
abbrev mX0_swing : xv_M := (RX0, cX0_swing, 6, false, (some .int), { frames := 1, cells := 0, slots := 0, locals := 45 })
abbrev mX0_hanging : xv_M := (RX0, cX0_hanging, 2, false, (some .int), { frames := 0, cells := 0, slots := 0, locals := 0 })
abbrev mX0_travel : xv_M := (RX0, cX0_travel, 3, false, (some .int), { frames := 2, cells := 0, slots := 0, locals := 90 })
abbrev mX0_opening : xv_M := (RX0, cX0_opening, 5, false, (some .int), { frames := 1, cells := 0, slots := 0, locals := 45 })
abbrev mX0_lead : xv_M := (RX0, cX0_lead, 1, false, (some .int), { frames := 3, cells := 0, slots := 0, locals := 135 })
abbrev mX1_init : xv_M := (RX1, cX1_init, 1, true, none, { frames := 1, cells := 0, slots := 0, locals := 45 })
abbrev mX1_burn : xv_M := (RX1, cX1_burn, 2, false, none, { frames := 1, cells := 0, slots := 0, locals := 45 })
abbrev mX1_give : xv_M := (RX1, cX1_give, 3, false, none, { frames := 1, cells := 0, slots := 0, locals := 45 })
abbrev mX1_blow : xv_M := (RX1, cX1_blow, 2, false, none, { frames := 1, cells := 0, slots := 0, locals := 45 })
abbrev mX1_told : xv_M := (RX1, cX1_told, 2, false, (some .int), { frames := 0, cells := 0, slots := 0, locals := 0 })
abbrev mX2_init : xv_M := (RX2, cX2_init, 1, true, none, { frames := 1, cells := 1, slots := 48, locals := 45 })
abbrev mX2_take : xv_M := (RX2, cX2_take, 4, false, none, { frames := 2, cells := 0, slots := 0, locals := 90 })
abbrev mX2_readable : xv_M := (RX2, cX2_readable, 3, false, (some .int), { frames := 0, cells := 0, slots := 0, locals := 0 })
abbrev mX2_apart : xv_M := (RX2, cX2_apart, 4, false, (some .int), { frames := 1, cells := 0, slots := 0, locals := 45 })
abbrev mX3_init : xv_M := (RX3, cX3_init, 1, true, none, { frames := 1, cells := 8, slots := 343, locals := 45 })
abbrev mX3_firstEvent : xv_M := (RX3, cX3_firstEvent, 5, false, (some .int), { frames := 3, cells := 0, slots := 0, locals := 135 })
abbrev mX3_unlike : xv_M := (RX3, cX3_unlike, 2, false, (some .int), { frames := 4, cells := 0, slots := 0, locals := 180 })
abbrev mX3_seekSetting : xv_M := (RX3, cX3_seekSetting, 6, false, none, { frames := 4, cells := 0, slots := 0, locals := 180 })
abbrev mX3_fillSwings : xv_M := (RX3, cX3_fillSwings, 3, false, none, { frames := 3, cells := 0, slots := 0, locals := 135 })
abbrev mX3_fillSwing : xv_M := (RX3, cX3_fillSwing, 5, false, none, { frames := 2, cells := 0, slots := 0, locals := 90 })
abbrev mX3_unlikeBelow : xv_M := (RX3, cX3_unlikeBelow, 7, false, (some .int), { frames := 3, cells := 0, slots := 0, locals := 135 })
abbrev mX3_offHalfTurn : xv_M := (RX3, cX3_offHalfTurn, 3, false, (some .int), { frames := 1, cells := 0, slots := 0, locals := 45 })
abbrev mX3_firstEventOn : xv_M := (RX3, cX3_firstEventOn, 12, false, (some .int), { frames := 2, cells := 0, slots := 0, locals := 90 })
abbrev mX4_init : xv_M := (RX4, cX4_init, 1, true, none, { frames := 1, cells := 1, slots := 13, locals := 45 })
abbrev mX4_misfitBy : xv_M := (RX4, cX4_misfitBy, 5, false, (some .int), { frames := 4, cells := 0, slots := 0, locals := 180 })
abbrev mX4_seek : xv_M := (RX4, cX4_seek, 5, false, none, { frames := 5, cells := 0, slots := 0, locals := 225 })
abbrev mX4_doubt : xv_M := (RX4, cX4_doubt, 4, false, (some .int), { frames := 0, cells := 0, slots := 0, locals := 0 })
abbrev mX5_init : xv_M := (RX5, cX5_init, 1, true, none, { frames := 1, cells := 4, slots := 192, locals := 45 })
abbrev mX5_draw : xv_M := (RX5, cX5_draw, 16, false, none, { frames := 3, cells := 0, slots := 0, locals := 135 })
abbrev mX5_measure : xv_M := (RX5, cX5_measure, 10, false, none, { frames := 4, cells := 0, slots := 0, locals := 180 })
abbrev mX5_mean : xv_M := (RX5, cX5_mean, 3, false, (some .int), { frames := 0, cells := 0, slots := 0, locals := 0 })
abbrev mX5_peak : xv_M := (RX5, cX5_peak, 3, false, (some .int), { frames := 1, cells := 0, slots := 0, locals := 45 })
abbrev mX5_loop : xv_M := (RX5, cX5_loop, 3, false, (some .int), { frames := 0, cells := 0, slots := 0, locals := 0 })
abbrev mX5_prepare : xv_M := (RX5, cX5_prepare, 8, false, none, { frames := 2, cells := 0, slots := 0, locals := 90 })
abbrev mX5_pushed : xv_M := (RX5, cX5_pushed, 5, false, (some .long), { frames := 0, cells := 0, slots := 0, locals := 0 })
abbrev mX6_init : xv_M := (RX6, cX6_init, 1, true, none, { frames := 1, cells := 16, slots := 11140, locals := 45 })
abbrev mX6_takesRoad : xv_M := (RX6, cX6_takesRoad, 6, false, (some .boolean), { frames := 2, cells := 0, slots := 0, locals := 90 })
abbrev mX6_tryOut : xv_M := (RX6, cX6_tryOut, 5, false, none, { frames := 5, cells := 0, slots := 0, locals := 225 })
abbrev mX6_choose : xv_M := (RX6, cX6_choose, 5, false, (some .int), { frames := 3, cells := 0, slots := 0, locals := 135 })
abbrev mX6_weigh : xv_M := (RX6, cX6_weigh, 9, false, none, { frames := 2, cells := 0, slots := 0, locals := 90 })
abbrev mX6_keepBest : xv_M := (RX6, cX6_keepBest, 6, false, (some .int), { frames := 2, cells := 0, slots := 0, locals := 90 })
abbrev mX6_lasting : xv_M := (RX6, cX6_lasting, 7, false, (some .int), { frames := 1, cells := 0, slots := 0, locals := 45 })
abbrev mX6_burning : xv_M := (RX6, cX6_burning, 3, false, (some .int), { frames := 0, cells := 0, slots := 0, locals := 0 })
abbrev mX6_notchOf : xv_M := (RX6, cX6_notchOf, 1, false, (some .int), { frames := 0, cells := 0, slots := 0, locals := 0 })
abbrev mX6_regulatorOf : xv_M := (RX6, cX6_regulatorOf, 1, false, (some .int), { frames := 0, cells := 0, slots := 0, locals := 0 })
abbrev mX7_init : xv_M := (RX7, cX7_init, 1, true, none, { frames := 1, cells := 1, slots := 60, locals := 45 })
abbrev mX7_begin : xv_M := (RX7, cX7_begin, 3, false, none, { frames := 1, cells := 0, slots := 0, locals := 45 })
abbrev mX7_has : xv_M := (RX7, cX7_has, 3, false, (some .boolean), { frames := 0, cells := 0, slots := 0, locals := 0 })
abbrev mX7_read : xv_M := (RX7, cX7_read, 2, false, (some .int), { frames := 1, cells := 0, slots := 0, locals := 45 })
abbrev mX7_write : xv_M := (RX7, cX7_write, 3, false, (some .int), { frames := 1, cells := 0, slots := 0, locals := 45 })
abbrev mX7_holdsWithin : xv_M := (RX7, cX7_holdsWithin, 6, false, (some .boolean), { frames := 2, cells := 0, slots := 0, locals := 90 })
abbrev mX8_init : xv_M := (RX8, cX8_init, 2, true, none, { frames := 2, cells := 82, slots := 12725, locals := 90 })
abbrev mX8_sheet : xv_M := (RX8, cX8_sheet, 4, false, (some .int), { frames := 2, cells := 0, slots := 0, locals := 90 })
abbrev mX8_set : xv_M := (RX8, cX8_set, 5, false, (some .int), { frames := 2, cells := 0, slots := 0, locals := 90 })
abbrev mX8_copy : xv_M := (RX8, cX8_copy, 8, false, (some .int), { frames := 2, cells := 0, slots := 0, locals := 90 })
abbrev mX8_drop : xv_M := (RX8, cX8_drop, 3, false, (some .int), { frames := 2, cells := 0, slots := 0, locals := 90 })
abbrev mX8_engine : xv_M := (RX8, cX8_engine, 6, false, (some .int), { frames := 3, cells := 0, slots := 0, locals := 135 })
abbrev mX8_adjust : xv_M := (RX8, cX8_adjust, 6, false, (some .int), { frames := 3, cells := 0, slots := 0, locals := 135 })
abbrev mX8_sicken : xv_M := (RX8, cX8_sicken, 5, false, (some .int), { frames := 3, cells := 0, slots := 0, locals := 135 })
abbrev mX8_twin : xv_M := (RX8, cX8_twin, 4, false, (some .int), { frames := 3, cells := 0, slots := 0, locals := 135 })
abbrev mX8_clear : xv_M := (RX8, cX8_clear, 3, false, (some .int), { frames := 3, cells := 0, slots := 0, locals := 135 })
abbrev mX8_number : xv_M := (RX8, cX8_number, 4, false, (some .int), { frames := 3, cells := 0, slots := 0, locals := 135 })
abbrev mX8_piston : xv_M := (RX8, cX8_piston, 4, false, (some .int), { frames := 3, cells := 0, slots := 0, locals := 135 })
abbrev mX8_valve : xv_M := (RX8, cX8_valve, 5, false, (some .int), { frames := 3, cells := 0, slots := 0, locals := 135 })
abbrev mX8_open : xv_M := (RX8, cX8_open, 7, false, (some .int), { frames := 3, cells := 0, slots := 0, locals := 135 })
abbrev mX8_event : xv_M := (RX8, cX8_event, 6, false, (some .int), { frames := 4, cells := 0, slots := 0, locals := 180 })
abbrev mX8_valves : xv_M := (RX8, cX8_valves, 4, false, (some .int), { frames := 5, cells := 0, slots := 0, locals := 225 })
abbrev mX8_setting : xv_M := (RX8, cX8_setting, 4, false, (some .int), { frames := 5, cells := 0, slots := 0, locals := 225 })
abbrev mX8_tune : xv_M := (RX8, cX8_tune, 4, false, (some .int), { frames := 5, cells := 0, slots := 0, locals := 225 })
abbrev mX8_card : xv_M := (RX8, cX8_card, 8, false, (some .int), { frames := 4, cells := 0, slots := 0, locals := 180 })
abbrev mX8_look : xv_M := (RX8, cX8_look, 8, false, (some .int), { frames := 4, cells := 0, slots := 0, locals := 180 })
abbrev mX8_work : xv_M := (RX8, cX8_work, 7, false, (some .int), { frames := 5, cells := 0, slots := 0, locals := 225 })
abbrev mX8_find : xv_M := (RX8, cX8_find, 8, false, (some .int), { frames := 3, cells := 0, slots := 0, locals := 135 })
abbrev mX8_misfit : xv_M := (RX8, cX8_misfit, 5, false, (some .int), { frames := 5, cells := 0, slots := 0, locals := 225 })
abbrev mX8_named : xv_M := (RX8, cX8_named, 6, false, (some .int), { frames := 6, cells := 0, slots := 0, locals := 270 })
abbrev mX8_whose : xv_M := (RX8, cX8_whose, 6, false, (some .int), { frames := 5, cells := 0, slots := 0, locals := 225 })
abbrev mX8_next : xv_M := (RX8, cX8_next, 6, false, (some .int), { frames := 5, cells := 0, slots := 0, locals := 225 })
abbrev mX8_run : xv_M := (RX8, cX8_run, 9, false, (some .int), { frames := 6, cells := 0, slots := 0, locals := 270 })
abbrev mX8_plan : xv_M := (RX8, cX8_plan, 3, false, (some .int), { frames := 1, cells := 0, slots := 0, locals := 45 })
abbrev mX8_stoke : xv_M := (RX8, cX8_stoke, 2, false, (some .int), { frames := 1, cells := 0, slots := 0, locals := 45 })
abbrev mX8_minute : xv_M := (RX8, cX8_minute, 5, false, (some .int), { frames := 5, cells := 0, slots := 0, locals := 225 })
abbrev mX8_fire : xv_M := (RX8, cX8_fire, 2, false, (some .int), { frames := 1, cells := 0, slots := 0, locals := 45 })
abbrev mX8_kind : xv_M := (RX8, cX8_kind, 3, false, (some .int), { frames := 6, cells := 0, slots := 0, locals := 270 })
abbrev mX8_is : xv_M := (RX8, cX8_is, 4, false, (some .int), { frames := 6, cells := 0, slots := 0, locals := 270 })
abbrev mX8_as : xv_M := (RX8, cX8_as, 4, false, (some .int), { frames := 6, cells := 0, slots := 0, locals := 270 })
abbrev mX8_ask : xv_M := (RX8, cX8_ask, 5, false, (some .int), { frames := 7, cells := 0, slots := 0, locals := 315 })
abbrev mX8_trace : xv_M := (RX8, cX8_trace, 2, false, (some .int), { frames := 1, cells := 0, slots := 0, locals := 45 })
abbrev mX8_count : xv_M := (RX8, cX8_count, 2, false, (some .int), { frames := 7, cells := 0, slots := 0, locals := 315 })
abbrev mX8_status : xv_M := (RX8, cX8_status, 1, false, (some .int), { frames := 0, cells := 0, slots := 0, locals := 0 })
abbrev mX8_within : xv_M := (RX8, cX8_within, 3, false, (some .boolean), { frames := 0, cells := 0, slots := 0, locals := 0 })
abbrev mX8_isPlace : xv_M := (RX8, cX8_isPlace, 1, false, (some .boolean), { frames := 1, cells := 0, slots := 0, locals := 45 })
abbrev mX8_isNumber : xv_M := (RX8, cX8_isNumber, 2, false, (some .boolean), { frames := 1, cells := 0, slots := 0, locals := 45 })
abbrev mX8_isSickness : xv_M := (RX8, cX8_isSickness, 1, false, (some .boolean), { frames := 1, cells := 0, slots := 0, locals := 45 })
abbrev mX8_isNotch : xv_M := (RX8, cX8_isNotch, 1, false, (some .boolean), { frames := 1, cells := 0, slots := 0, locals := 45 })
abbrev mX8_isEnd : xv_M := (RX8, cX8_isEnd, 1, false, (some .boolean), { frames := 1, cells := 0, slots := 0, locals := 45 })
abbrev mX8_isTurned : xv_M := (RX8, cX8_isTurned, 1, false, (some .boolean), { frames := 1, cells := 0, slots := 0, locals := 45 })
abbrev mX8_isBoiler : xv_M := (RX8, cX8_isBoiler, 1, false, (some .boolean), { frames := 1, cells := 0, slots := 0, locals := 45 })
abbrev mX8_isRegulator : xv_M := (RX8, cX8_isRegulator, 1, false, (some .boolean), { frames := 1, cells := 0, slots := 0, locals := 45 })
abbrev mX8_found : xv_M := (RX8, cX8_found, 2, false, (some .int), { frames := 0, cells := 0, slots := 0, locals := 0 })
abbrev mX8_answered : xv_M := (RX8, cX8_answered, 2, false, (some .int), { frames := 0, cells := 0, slots := 0, locals := 0 })
abbrev mX8_sheetAt : xv_M := (RX8, cX8_sheetAt, 3, false, (some (.object "ValveShop$Sheet")), { frames := 1, cells := 0, slots := 0, locals := 45 })
abbrev mX8_engineAt : xv_M := (RX8, cX8_engineAt, 3, false, (some (.object "ValveShop$Engine")), { frames := 2, cells := 0, slots := 0, locals := 90 })
abbrev mX8_cosine : xv_M := (RX8, cX8_cosine, 2, false, (some .int), { frames := 0, cells := 0, slots := 0, locals := 0 })
abbrev mX8_share : xv_M := (RX8, cX8_share, 3, false, (some .int), { frames := 0, cells := 0, slots := 0, locals := 0 })
abbrev mX8_nearest : xv_M := (RX8, cX8_nearest, 10, false, (some .int), { frames := 4, cells := 0, slots := 0, locals := 180 })
abbrev mX8_farthestApart : xv_M := (RX8, cX8_farthestApart, 8, false, (some .int), { frames := 4, cells := 0, slots := 0, locals := 180 })
abbrev mX8_toldKind : xv_M := (RX8, cX8_toldKind, 2, false, (some .int), { frames := 5, cells := 0, slots := 0, locals := 225 })
abbrev mX8_belongs : xv_M := (RX8, cX8_belongs, 2, false, (some .boolean), { frames := 0, cells := 0, slots := 0, locals := 0 })
abbrev mX8_askWorth : xv_M := (RX8, cX8_askWorth, 3, false, (some .int), { frames := 5, cells := 0, slots := 0, locals := 225 })
abbrev mX8_worthOfAny : xv_M := (RX8, cX8_worthOfAny, 2, false, (some .int), { frames := 2, cells := 0, slots := 0, locals := 90 })
abbrev mX8_worthOfSound : xv_M := (RX8, cX8_worthOfSound, 2, false, (some .int), { frames := 4, cells := 0, slots := 0, locals := 180 })
abbrev mX8_worthOfSick : xv_M := (RX8, cX8_worthOfSick, 2, false, (some .int), { frames := 3, cells := 0, slots := 0, locals := 135 })
abbrev mX8_worthOfStuck : xv_M := (RX8, cX8_worthOfStuck, 2, false, (some .int), { frames := 4, cells := 0, slots := 0, locals := 180 })
abbrev mX8_askMark : xv_M := (RX8, cX8_askMark, 3, false, (some .int), { frames := 6, cells := 0, slots := 0, locals := 270 })
abbrev mX8_markOfAny : xv_M := (RX8, cX8_markOfAny, 2, false, (some .int), { frames := 2, cells := 0, slots := 0, locals := 90 })
abbrev mX8_markOfEven : xv_M := (RX8, cX8_markOfEven, 2, false, (some .int), { frames := 3, cells := 0, slots := 0, locals := 135 })
abbrev mX8_markOfSick : xv_M := (RX8, cX8_markOfSick, 4, false, (some .int), { frames := 5, cells := 0, slots := 0, locals := 225 })
abbrev mX8_leave : xv_M := (RX8, cX8_leave, 2, false, none, { frames := 1, cells := 0, slots := 0, locals := 45 })
abbrev mX8_countSheets : xv_M := (RX8, cX8_countSheets, 3, false, (some .int), { frames := 2, cells := 0, slots := 0, locals := 90 })
abbrev mX8_countEngines : xv_M := (RX8, cX8_countEngines, 5, false, (some .int), { frames := 6, cells := 0, slots := 0, locals := 270 })
abbrev mX8_countFoundCards : xv_M := (RX8, cX8_countFoundCards, 3, false, (some .int), { frames := 0, cells := 0, slots := 0, locals := 0 })
abbrev mX9_init : xv_M := (RX9, cX9_init, 1, true, none, { frames := 1, cells := 20, slots := 12552, locals := 45 })
abbrev mX9_in : xv_M := (RX9, cX9_in, 6, false, (some .boolean), { frames := 0, cells := 0, slots := 0, locals := 0 })
abbrev mX9_found : xv_M := (RX9, cX9_found, 2, false, (some .int), { frames := 0, cells := 0, slots := 0, locals := 0 })
abbrev mX9_isSheet : xv_M := (RX9, cX9_isSheet, 1, false, (some .boolean), { frames := 1, cells := 0, slots := 0, locals := 45 })
abbrev mX9_sheet : xv_M := (RX9, cX9_sheet, 5, false, (some .int), { frames := 2, cells := 0, slots := 0, locals := 90 })
abbrev mX9_set : xv_M := (RX9, cX9_set, 4, false, (some .int), { frames := 2, cells := 0, slots := 0, locals := 90 })
abbrev mX9_copy : xv_M := (RX9, cX9_copy, 9, false, (some .int), { frames := 2, cells := 0, slots := 0, locals := 90 })
abbrev mX9_drop : xv_M := (RX9, cX9_drop, 2, false, (some .int), { frames := 2, cells := 0, slots := 0, locals := 90 })
abbrev mX9_isPlace : xv_M := (RX9, cX9_isPlace, 1, false, (some .boolean), { frames := 1, cells := 0, slots := 0, locals := 45 })
abbrev mX9_isNumber : xv_M := (RX9, cX9_isNumber, 2, false, (some .boolean), { frames := 1, cells := 0, slots := 0, locals := 45 })
abbrev mX9_stands : xv_M := (RX9, cX9_stands, 2, false, (some .int), { frames := 1, cells := 0, slots := 0, locals := 45 })
abbrev mX9_engine : xv_M := (RX9, cX9_engine, 5, false, (some .int), { frames := 2, cells := 0, slots := 0, locals := 90 })
abbrev mX9_adjust : xv_M := (RX9, cX9_adjust, 6, false, (some .int), { frames := 2, cells := 0, slots := 0, locals := 90 })
abbrev mX9_sicken : xv_M := (RX9, cX9_sicken, 5, false, (some .int), { frames := 2, cells := 0, slots := 0, locals := 90 })
abbrev mX9_like : xv_M := (RX9, cX9_like, 4, false, none, { frames := 0, cells := 0, slots := 0, locals := 0 })
abbrev mX9_twin : xv_M := (RX9, cX9_twin, 4, false, (some .int), { frames := 2, cells := 0, slots := 0, locals := 90 })
abbrev mX9_clear : xv_M := (RX9, cX9_clear, 3, false, (some .int), { frames := 2, cells := 0, slots := 0, locals := 90 })
abbrev mX9_number : xv_M := (RX9, cX9_number, 4, false, (some .int), { frames := 2, cells := 0, slots := 0, locals := 90 })
abbrev mX9_round : xv_M := (RX9, cX9_round, 2, false, (some .int), { frames := 0, cells := 0, slots := 0, locals := 0 })
abbrev mX9_along : xv_M := (RX9, cX9_along, 3, false, (some .int), { frames := 1, cells := 0, slots := 0, locals := 45 })
abbrev mX9_across : xv_M := (RX9, cX9_across, 2, false, (some .int), { frames := 2, cells := 0, slots := 0, locals := 90 })
abbrev mX9_pistonAt : xv_M := (RX9, cX9_pistonAt, 4, false, (some .int), { frames := 3, cells := 0, slots := 0, locals := 135 })
abbrev mX9_lateOf : xv_M := (RX9, cX9_lateOf, 1, false, (some .int), { frames := 0, cells := 0, slots := 0, locals := 0 })
abbrev mX9_leakOf : xv_M := (RX9, cX9_leakOf, 1, false, (some .int), { frames := 0, cells := 0, slots := 0, locals := 0 })
abbrev mX9_chokedOf : xv_M := (RX9, cX9_chokedOf, 1, false, (some .int), { frames := 0, cells := 0, slots := 0, locals := 0 })
abbrev mX9_valveAt : xv_M := (RX9, cX9_valveAt, 7, false, (some .int), { frames := 3, cells := 0, slots := 0, locals := 135 })
abbrev mX9_openBy : xv_M := (RX9, cX9_openBy, 8, false, (some .int), { frames := 0, cells := 0, slots := 0, locals := 0 })
abbrev mX9_openAt : xv_M := (RX9, cX9_openAt, 6, false, (some .int), { frames := 4, cells := 0, slots := 0, locals := 180 })
abbrev mX9_eventOf : xv_M := (RX9, cX9_eventOf, 9, false, (some .int), { frames := 5, cells := 0, slots := 0, locals := 225 })
abbrev mX9_isNotch : xv_M := (RX9, cX9_isNotch, 1, false, (some .boolean), { frames := 1, cells := 0, slots := 0, locals := 45 })
abbrev mX9_piston : xv_M := (RX9, cX9_piston, 4, false, (some .int), { frames := 4, cells := 0, slots := 0, locals := 180 })
abbrev mX9_valve : xv_M := (RX9, cX9_valve, 5, false, (some .int), { frames := 4, cells := 0, slots := 0, locals := 180 })
abbrev mX9_open : xv_M := (RX9, cX9_open, 7, false, (some .int), { frames := 5, cells := 0, slots := 0, locals := 225 })
abbrev mX9_event : xv_M := (RX9, cX9_event, 6, false, (some .int), { frames := 6, cells := 0, slots := 0, locals := 270 })
abbrev mX9_unlike : xv_M := (RX9, cX9_unlike, 7, false, (some .int), { frames := 6, cells := 0, slots := 0, locals := 270 })
abbrev mX9_leadOf : xv_M := (RX9, cX9_leadOf, 2, false, (some .int), { frames := 5, cells := 0, slots := 0, locals := 225 })
abbrev mX9_valves : xv_M := (RX9, cX9_valves, 4, false, (some .int), { frames := 7, cells := 0, slots := 0, locals := 315 })
abbrev mX9_settle : xv_M := (RX9, cX9_settle, 6, false, (some .int), { frames := 7, cells := 0, slots := 0, locals := 315 })
abbrev mX9_setting : xv_M := (RX9, cX9_setting, 5, false, (some .int), { frames := 8, cells := 0, slots := 0, locals := 360 })
abbrev mX9_tune : xv_M := (RX9, cX9_tune, 5, false, (some .int), { frames := 8, cells := 0, slots := 0, locals := 360 })
abbrev mX9_room : xv_M := (RX9, cX9_room, 5, false, (some .int), { frames := 4, cells := 0, slots := 0, locals := 180 })
abbrev mX9_draw : xv_M := (RX9, cX9_draw, 16, false, none, { frames := 5, cells := 0, slots := 0, locals := 225 })
abbrev mX9_isTurn : xv_M := (RX9, cX9_isTurn, 3, false, (some .boolean), { frames := 2, cells := 0, slots := 0, locals := 90 })
abbrev mX9_card : xv_M := (RX9, cX9_card, 8, false, (some .int), { frames := 6, cells := 0, slots := 0, locals := 270 })
abbrev mX9_look : xv_M := (RX9, cX9_look, 12, false, (some .int), { frames := 6, cells := 0, slots := 0, locals := 270 })
abbrev mX9_workOf : xv_M := (RX9, cX9_workOf, 10, false, (some .int), { frames := 6, cells := 0, slots := 0, locals := 270 })
abbrev mX9_drinkOf : xv_M := (RX9, cX9_drinkOf, 7, false, (some .int), { frames := 6, cells := 0, slots := 0, locals := 270 })
abbrev mX9_work : xv_M := (RX9, cX9_work, 7, false, (some .int), { frames := 7, cells := 0, slots := 0, locals := 315 })
abbrev mX9_isCard : xv_M := (RX9, cX9_isCard, 5, false, (some .boolean), { frames := 1, cells := 0, slots := 0, locals := 45 })
abbrev mX9_find : xv_M := (RX9, cX9_find, 8, false, (some .int), { frames := 2, cells := 0, slots := 0, locals := 90 })
abbrev mX9_size : xv_M := (RX9, cX9_size, 1, false, (some .int), { frames := 0, cells := 0, slots := 0, locals := 0 })
abbrev mX9_misfitOf : xv_M := (RX9, cX9_misfitOf, 6, false, (some .int), { frames := 6, cells := 0, slots := 0, locals := 270 })
abbrev mX9_misfit : xv_M := (RX9, cX9_misfit, 3, false, (some .int), { frames := 7, cells := 0, slots := 0, locals := 315 })
abbrev mX9_named : xv_M := (RX9, cX9_named, 7, false, (some .int), { frames := 7, cells := 0, slots := 0, locals := 315 })
abbrev mX9_whose : xv_M := (RX9, cX9_whose, 13, false, (some .int), { frames := 6, cells := 0, slots := 0, locals := 270 })
abbrev mX9_next : xv_M := (RX9, cX9_next, 11, false, (some .int), { frames := 6, cells := 0, slots := 0, locals := 270 })
abbrev mX9_run : xv_M := (RX9, cX9_run, 14, false, (some .int), { frames := 7, cells := 0, slots := 0, locals := 315 })
abbrev mX9_plan : xv_M := (RX9, cX9_plan, 3, false, (some .int), { frames := 1, cells := 0, slots := 0, locals := 45 })
abbrev mX9_stoke : xv_M := (RX9, cX9_stoke, 2, false, (some .int), { frames := 1, cells := 0, slots := 0, locals := 45 })
abbrev mX9_minute : xv_M := (RX9, cX9_minute, 7, false, (some .int), { frames := 7, cells := 0, slots := 0, locals := 315 })
abbrev mX9_fire : xv_M := (RX9, cX9_fire, 2, false, (some .int), { frames := 0, cells := 0, slots := 0, locals := 0 })
abbrev mX9_kindOf : xv_M := (RX9, cX9_kindOf, 2, false, (some .int), { frames := 7, cells := 0, slots := 0, locals := 315 })
abbrev mX9_isOf : xv_M := (RX9, cX9_isOf, 2, false, (some .boolean), { frames := 0, cells := 0, slots := 0, locals := 0 })
abbrev mX9_kind : xv_M := (RX9, cX9_kind, 3, false, (some .int), { frames := 8, cells := 0, slots := 0, locals := 360 })
abbrev mX9_is : xv_M := (RX9, cX9_is, 3, false, (some .int), { frames := 8, cells := 0, slots := 0, locals := 360 })
abbrev mX9_as : xv_M := (RX9, cX9_as, 4, false, (some .int), { frames := 8, cells := 0, slots := 0, locals := 360 })
abbrev mX9_began : xv_M := (RX9, cX9_began, 2, false, none, { frames := 0, cells := 0, slots := 0, locals := 0 })
abbrev mX9_sickWorth : xv_M := (RX9, cX9_sickWorth, 4, false, (some .int), { frames := 1, cells := 0, slots := 0, locals := 45 })
abbrev mX9_marked : xv_M := (RX9, cX9_marked, 4, false, (some .int), { frames := 2, cells := 0, slots := 0, locals := 90 })
abbrev mX9_worth : xv_M := (RX9, cX9_worth, 4, false, (some .int), { frames := 6, cells := 0, slots := 0, locals := 270 })
abbrev mX9_ask : xv_M := (RX9, cX9_ask, 4, false, (some .int), { frames := 8, cells := 0, slots := 0, locals := 360 })
abbrev mX9_trace : xv_M := (RX9, cX9_trace, 2, false, (some .int), { frames := 1, cells := 0, slots := 0, locals := 45 })
abbrev mX9_count : xv_M := (RX9, cX9_count, 4, false, (some .int), { frames := 8, cells := 0, slots := 0, locals := 360 })
abbrev mX9_status : xv_M := (RX9, cX9_status, 1, false, (some .int), { frames := 0, cells := 0, slots := 0, locals := 0 })
abbrev mJ9_floorMod_7cf53 : xv_M := (RJ9, cJ9_floorMod_7cf53, 3, false, (some .int), { frames := 0, cells := 0, slots := 0, locals := 0 })
abbrev mJ9_abs_0f7a4 : xv_M := (RJ9, cJ9_abs_0f7a4, 1, false, (some .int), { frames := 0, cells := 0, slots := 0, locals := 0 })
abbrev mJ9_max_7cf53 : xv_M := (RJ9, cJ9_max_7cf53, 2, false, (some .int), { frames := 0, cells := 0, slots := 0, locals := 0 })
abbrev mJ9_min_7cf53 : xv_M := (RJ9, cJ9_min_7cf53, 2, false, (some .int), { frames := 0, cells := 0, slots := 0, locals := 0 })
abbrev mJ7_fill_53178 : xv_M := (RJ7, cJ7_fill_53178, 4, false, none, { frames := 0, cells := 0, slots := 0, locals := 0 })
theorem wd_86 : Cond.methodLink RX0 3 Lib.objectInit ∈ xv_g := xv_in (xv_t1 32 (by decide +kernel)) rfl
theorem wd_74 : Cond.instanceMethod Lib.objectInit ∈ xv_g := xv_in (xv_t1 20 (by decide +kernel)) rfl
theorem wd_75 : Cond.code Lib.objectInit ⟨#[0xb1]⟩ 1 none ∈ xv_g := xv_in (xv_t1 21 rfl) rfl
theorem ln_X0_3 : Cond.methodLink RX0 3 Lib.objectInit ∈ xv_g ∧ Cond.instanceMethod Lib.objectInit ∈ xv_g ∧ Cond.code Lib.objectInit ⟨#[0xb1]⟩ 1 none ∈ xv_g := ⟨wd_86, wd_74, wd_75⟩
theorem wd_87 : Cond.fieldLink RX0 9 "ValveShop$Engine" "numbers" "[I" ∈ xv_g := xv_in (xv_t1 33 (by decide +kernel)) rfl
theorem fl_X0_9 : xv_fl RX0 9 0 0 true (.array .int) := ⟨RX0, TX0, 3, tyX0, rfl, cw_X0, by decide, wd_87, rfl, rfl, tyX0_ok 0 (by decide), tyX0_ok, nmX0⟩
theorem wd_383 : Cond.code yX7_read cX7_read 2 (some .int) ∈ xv_g := xv_in (xv_t2 89 rfl) rfl
theorem wd_63 : Cond.initialized RX7 ∈ xv_g := xv_in (xv_t1 9 (by decide +kernel)) rfl
theorem wd_395 : Cond.methodLink RX0 15 yX7_read ∈ xv_g := xv_in (xv_t2 101 (by decide +kernel)) rfl
theorem wd_381 : Cond.instanceMethod yX7_read ∈ xv_g := xv_in (xv_t2 87 (by decide +kernel)) rfl
theorem wd_382 : Cond.selects RX7 yX7_read yX7_read ∈ xv_g := xv_in (xv_t2 88 (by decide +kernel)) rfl
theorem ln_X0_15 : xv_lV RX0 15 yX7_read mX7_read 1 := ⟨wd_395, wd_381, wd_382, wd_63, wd_383, rfl, ⟨by decide +kernel, by decide +kernel, by decide +kernel⟩⟩
theorem wd_92 : Cond.fieldLink RX0 21 "ValveShop$Engine" "sickness" "I" ∈ xv_g := xv_in (xv_t1 38 (by decide +kernel)) rfl
theorem fl_X0_21 : xv_fl RX0 21 0 1 false .int := ⟨RX0, TX0, 3, tyX0, rfl, cw_X0, by decide, wd_92, rfl, rfl, tyX0_ok 1 (by decide), tyX0_ok, nmX0⟩
theorem wd_94 : Cond.fieldLink RX0 25 "ValveShop$Engine" "there" "Z" ∈ xv_g := xv_in (xv_t1 40 (by decide +kernel)) rfl
theorem fl_X0_25 : xv_fl RX0 25 0 2 false .boolean := ⟨RX0, TX0, 3, tyX0, rfl, cw_X0, by decide, wd_94, rfl, rfl, tyX0_ok 2 (by decide), tyX0_ok, nmX0⟩
theorem wd_419 : Cond.methodLink RX0 29 arraycopyName ∈ xv_g := xv_in (xv_t2 125 (by decide +kernel)) rfl
theorem wd_368 : Cond.native arraycopyName ∈ xv_g := xv_in (xv_t2 74 (by decide +kernel)) rfl
theorem wd_367 : Cond.static arraycopyName ∈ xv_g := xv_in (xv_t2 73 (by decide +kernel)) rfl
theorem wd_66 : Cond.initialized "java/lang/System" ∈ xv_g := xv_in (xv_t1 12 (by decide +kernel)) rfl
theorem ln_X0_29 : Cond.methodLink RX0 29 arraycopyName ∈ xv_g ∧ Cond.native arraycopyName ∈ xv_g ∧ Cond.static arraycopyName ∈ xv_g ∧ Cond.initialized "java/lang/System" ∈ xv_g := ⟨wd_419, wd_368, wd_367, wd_66⟩
theorem wn_464 : Cond.fieldLinkNest RX0 35 "ValveShop" "LATE" "[I" "ValveShop" ∈ xv_nw := xv_inN (xv_t2 170 (by decide +kernel)) rfl
theorem gs_X0_35 : Cond.fieldLink RX0 35 "ValveShop" "LATE" "[I" ∈ xv_g ∨ Cond.fieldLinkNest RX0 35 "ValveShop" "LATE" "[I" "ValveShop" ∈ xv_nw := Or.inr wn_464
theorem wn_585 : Cond.fieldLinkNest RX0 38 "ValveShop" "LEAK" "[I" "ValveShop" ∈ xv_nw := xv_inN (xv_t3 51 (by decide +kernel)) rfl
theorem gs_X0_38 : Cond.fieldLink RX0 38 "ValveShop" "LEAK" "[I" ∈ xv_g ∨ Cond.fieldLinkNest RX0 38 "ValveShop" "LEAK" "[I" "ValveShop" ∈ xv_nw := Or.inr wn_585
theorem wn_579 : Cond.fieldLinkNest RX0 41 "ValveShop" "CHOKED" "[I" "ValveShop" ∈ xv_nw := xv_inN (xv_t3 45 (by decide +kernel)) rfl
theorem gs_X0_41 : Cond.fieldLink RX0 41 "ValveShop" "CHOKED" "[I" ∈ xv_g ∨ Cond.fieldLinkNest RX0 41 "ValveShop" "CHOKED" "[I" "ValveShop" ∈ xv_nw := Or.inr wn_579
theorem wd_441 : Cond.code yX8_cosine cX8_cosine 2 (some .int) ∈ xv_g := xv_in (xv_t2 147 rfl) rfl
theorem wd_55 : Cond.initialized RX8 ∈ xv_g := xv_in (xv_t1 1 (by decide +kernel)) rfl
theorem wn_439 : Cond.methodLinkNest RX0 44 yX8_cosine "ValveShop" ∈ xv_nw := xv_inN (xv_t2 145 (by decide +kernel)) rfl
theorem wd_440 : Cond.static yX8_cosine ∈ xv_g := xv_in (xv_t2 146 (by decide +kernel)) rfl
theorem ln_X0_44 : xv_lS RX0 44 yX8_cosine mX8_cosine 1 := ⟨Or.inr wn_439, wd_440, wd_55, wd_441, ⟨by decide +kernel, by decide +kernel, by decide +kernel⟩⟩
theorem wd_444 : Cond.constant RX0 47 (400000) ∈ xv_g := xv_in (xv_t2 150 (by decide +kernel)) rfl
abbrev kc_X0_47 := wd_444
theorem wd_463 : Cond.code yX0_late cX0_late 1 (some .int) ∈ xv_g := xv_in (xv_t2 169 rfl) rfl
theorem wd_56 : Cond.initialized RX0 ∈ xv_g := xv_in (xv_t1 2 (by decide +kernel)) rfl
theorem wd_460 : Cond.methodLink RX0 48 yX0_late ∈ xv_g := xv_in (xv_t2 166 (by decide +kernel)) rfl
theorem wd_461 : Cond.instanceMethod yX0_late ∈ xv_g := xv_in (xv_t2 167 (by decide +kernel)) rfl
theorem wd_462 : Cond.selects RX0 yX0_late yX0_late ∈ xv_g := xv_in (xv_t2 168 (by decide +kernel)) rfl
theorem ln_X0_48 : xv_lV RX0 48 yX0_late mX0_late 0 := ⟨wd_460, wd_461, wd_462, wd_56, wd_463, rfl, ⟨by decide +kernel, by decide +kernel, by decide +kernel⟩⟩
theorem wd_466 : Cond.constant RX0 52 (120000) ∈ xv_g := xv_in (xv_t2 172 (by decide +kernel)) rfl
abbrev kc_X0_52 := wd_466
theorem wd_459 : Cond.code yX0_swing cX0_swing 6 (some .int) ∈ xv_g := xv_in (xv_t2 165 rfl) rfl
theorem wd_456 : Cond.methodLink RX0 53 yX0_swing ∈ xv_g := xv_in (xv_t2 162 (by decide +kernel)) rfl
theorem wd_457 : Cond.instanceMethod yX0_swing ∈ xv_g := xv_in (xv_t2 163 (by decide +kernel)) rfl
theorem wd_458 : Cond.selects RX0 yX0_swing yX0_swing ∈ xv_g := xv_in (xv_t2 164 (by decide +kernel)) rfl
theorem ln_X0_53 : xv_lV RX0 53 yX0_swing mX0_swing 2 := ⟨wd_456, wd_457, wd_458, wd_56, wd_459, rfl, ⟨by decide +kernel, by decide +kernel, by decide +kernel⟩⟩
theorem wd_470 : Cond.code yX0_hanging cX0_hanging 2 (some .int) ∈ xv_g := xv_in (xv_t2 176 rfl) rfl
theorem wd_467 : Cond.methodLink RX0 57 yX0_hanging ∈ xv_g := xv_in (xv_t2 173 (by decide +kernel)) rfl
theorem wd_468 : Cond.instanceMethod yX0_hanging ∈ xv_g := xv_in (xv_t2 174 (by decide +kernel)) rfl
theorem wd_469 : Cond.selects RX0 yX0_hanging yX0_hanging ∈ xv_g := xv_in (xv_t2 175 (by decide +kernel)) rfl
theorem ln_X0_57 : xv_lV RX0 57 yX0_hanging mX0_hanging 1 := ⟨wd_467, wd_468, wd_469, wd_56, wd_470, rfl, ⟨by decide +kernel, by decide +kernel, by decide +kernel⟩⟩
theorem wd_482 : Cond.methodLink RX0 60 Lib.Math.min.name ∈ xv_g := xv_in (xv_t2 188 (by decide +kernel)) rfl
theorem wd_483 : Cond.static Lib.Math.min.name ∈ xv_g := xv_in (xv_t2 189 (by decide +kernel)) rfl
theorem wd_67 : Cond.initialized "java/lang/Math" ∈ xv_g := xv_in (xv_t1 13 (by decide +kernel)) rfl
theorem wd_484 : Cond.code Lib.Math.min.name Lib.Math.min.code 2 (some .int) ∈ xv_g := xv_in (xv_t2 190 rfl) rfl
theorem ln_X0_60 : Cond.methodLink RX0 60 Lib.Math.min.name ∈ xv_g ∧ Cond.static Lib.Math.min.name ∈ xv_g ∧ Cond.initialized "java/lang/Math" ∈ xv_g ∧ Cond.code Lib.Math.min.name Lib.Math.min.code 2 (some .int) ∈ xv_g := ⟨wd_482, wd_483, wd_67, wd_484⟩
theorem wd_485 : Cond.methodLink RX0 65 Lib.Math.max.name ∈ xv_g := xv_in (xv_t2 191 (by decide +kernel)) rfl
theorem wd_486 : Cond.static Lib.Math.max.name ∈ xv_g := xv_in (xv_t2 192 (by decide +kernel)) rfl
theorem wd_487 : Cond.code Lib.Math.max.name Lib.Math.max.code 2 (some .int) ∈ xv_g := xv_in (xv_t2 193 rfl) rfl
theorem ln_X0_65 : Cond.methodLink RX0 65 Lib.Math.max.name ∈ xv_g ∧ Cond.static Lib.Math.max.name ∈ xv_g ∧ Cond.initialized "java/lang/Math" ∈ xv_g ∧ Cond.code Lib.Math.max.name Lib.Math.max.code 2 (some .int) ∈ xv_g := ⟨wd_485, wd_486, wd_67, wd_487⟩
theorem wd_455 : Cond.code yX0_travel cX0_travel 3 (some .int) ∈ xv_g := xv_in (xv_t2 161 rfl) rfl
theorem wd_536 : Cond.methodLink RX0 68 yX0_travel ∈ xv_g := xv_in (xv_t3 2 (by decide +kernel)) rfl
theorem wd_453 : Cond.instanceMethod yX0_travel ∈ xv_g := xv_in (xv_t2 159 (by decide +kernel)) rfl
theorem wd_454 : Cond.selects RX0 yX0_travel yX0_travel ∈ xv_g := xv_in (xv_t2 160 (by decide +kernel)) rfl
theorem ln_X0_68 : xv_lV RX0 68 yX0_travel mX0_travel 2 := ⟨wd_536, wd_453, wd_454, wd_56, wd_455, rfl, ⟨by decide +kernel, by decide +kernel, by decide +kernel⟩⟩
theorem wd_481 : Cond.code yX0_opening cX0_opening 5 (some .int) ∈ xv_g := xv_in (xv_t2 187 rfl) rfl
theorem wd_537 : Cond.methodLink RX0 71 yX0_opening ∈ xv_g := xv_in (xv_t3 3 (by decide +kernel)) rfl
theorem wd_479 : Cond.instanceMethod yX0_opening ∈ xv_g := xv_in (xv_t2 185 (by decide +kernel)) rfl
theorem wd_480 : Cond.selects RX0 yX0_opening yX0_opening ∈ xv_g := xv_in (xv_t2 186 (by decide +kernel)) rfl
theorem ln_X0_71 : xv_lV RX0 71 yX0_opening mX0_opening 3 := ⟨wd_537, wd_479, wd_480, wd_56, wd_481, rfl, ⟨by decide +kernel, by decide +kernel, by decide +kernel⟩⟩
theorem wd_237 : Cond.methodLink RX1 1 Lib.objectInit ∈ xv_g := xv_in (xv_t1 183 (by decide +kernel)) rfl
theorem ln_X1_1 : Cond.methodLink RX1 1 Lib.objectInit ∈ xv_g ∧ Cond.instanceMethod Lib.objectInit ∈ xv_g ∧ Cond.code Lib.objectInit ⟨#[0xb1]⟩ 1 none ∈ xv_g := ⟨wd_237, wd_74, wd_75⟩
theorem wd_240 : Cond.fieldLink RX1 7 "ValveShop$Fire" "heap" "I" ∈ xv_g := xv_in (xv_t1 186 (by decide +kernel)) rfl
theorem fl_X1_7 : xv_fl RX1 7 1 1 false .int := ⟨RX1, TX1, 6, tyX1, rfl, cw_X1, by decide, wd_240, rfl, rfl, tyX1_ok 1 (by decide), tyX1_ok, nmX1⟩
theorem wd_752 : Cond.methodLink RX1 13 Lib.Math.min.name ∈ xv_g := xv_in (xv_t3 218 (by decide +kernel)) rfl
theorem ln_X1_13 : Cond.methodLink RX1 13 Lib.Math.min.name ∈ xv_g ∧ Cond.static Lib.Math.min.name ∈ xv_g ∧ Cond.initialized "java/lang/Math" ∈ xv_g ∧ Cond.code Lib.Math.min.name Lib.Math.min.code 2 (some .int) ∈ xv_g := ⟨wd_752, wd_483, wd_67, wd_484⟩
theorem wd_242 : Cond.fieldLink RX1 19 "ValveShop$Fire" "burnt" "I" ∈ xv_g := xv_in (xv_t1 188 (by decide +kernel)) rfl
theorem fl_X1_19 : xv_fl RX1 19 1 2 false .int := ⟨RX1, TX1, 6, tyX1, rfl, cw_X1, by decide, wd_242, rfl, rfl, tyX1_ok 2 (by decide), tyX1_ok, nmX1⟩
theorem wd_238 : Cond.fieldLink RX1 22 "ValveShop$Fire" "gauge" "I" ∈ xv_g := xv_in (xv_t1 184 (by decide +kernel)) rfl
theorem fl_X1_22 : xv_fl RX1 22 1 0 false .int := ⟨RX1, TX1, 6, tyX1, rfl, cw_X1, by decide, wd_238, rfl, rfl, tyX1_ok 0 (by decide), tyX1_ok, nmX1⟩
theorem wd_245 : Cond.fieldLink RX1 25 "ValveShop$Fire" "minutes" "I" ∈ xv_g := xv_in (xv_t1 191 (by decide +kernel)) rfl
theorem fl_X1_25 : xv_fl RX1 25 1 5 false .int := ⟨RX1, TX1, 6, tyX1, rfl, cw_X1, by decide, wd_245, rfl, rfl, tyX1_ok 5 (by decide), tyX1_ok, nmX1⟩
theorem wd_243 : Cond.fieldLink RX1 28 "ValveShop$Fire" "drunk" "I" ∈ xv_g := xv_in (xv_t1 189 (by decide +kernel)) rfl
theorem fl_X1_28 : xv_fl RX1 28 1 3 false .int := ⟨RX1, TX1, 6, tyX1, rfl, cw_X1, by decide, wd_243, rfl, rfl, tyX1_ok 3 (by decide), tyX1_ok, nmX1⟩
theorem wd_762 : Cond.methodLink RX1 31 Lib.Math.max.name ∈ xv_g := xv_in (xv_t3 228 (by decide +kernel)) rfl
theorem ln_X1_31 : Cond.methodLink RX1 31 Lib.Math.max.name ∈ xv_g ∧ Cond.static Lib.Math.max.name ∈ xv_g ∧ Cond.initialized "java/lang/Math" ∈ xv_g ∧ Cond.code Lib.Math.max.name Lib.Math.max.code 2 (some .int) ∈ xv_g := ⟨wd_762, wd_486, wd_67, wd_487⟩
theorem wd_244 : Cond.fieldLink RX1 34 "ValveShop$Fire" "blown" "I" ∈ xv_g := xv_in (xv_t1 190 (by decide +kernel)) rfl
theorem fl_X1_34 : xv_fl RX1 34 1 4 false .int := ⟨RX1, TX1, 6, tyX1, rfl, cw_X1, by decide, wd_244, rfl, rfl, tyX1_ok 4 (by decide), tyX1_ok, nmX1⟩
theorem wd_108 : Cond.methodLink RX2 3 Lib.objectInit ∈ xv_g := xv_in (xv_t1 54 (by decide +kernel)) rfl
theorem ln_X2_3 : Cond.methodLink RX2 3 Lib.objectInit ∈ xv_g ∧ Cond.instanceMethod Lib.objectInit ∈ xv_g ∧ Cond.code Lib.objectInit ⟨#[0xb1]⟩ 1 none ∈ xv_g := ⟨wd_108, wd_74, wd_75⟩
theorem wd_109 : Cond.fieldLink RX2 9 "ValveShop$FoundCard" "items" "[I" ∈ xv_g := xv_in (xv_t1 55 (by decide +kernel)) rfl
theorem fl_X2_9 : xv_fl RX2 9 2 0 true (.array .int) := ⟨RX2, TX2, 4, tyX2, rfl, cw_X2, by decide, wd_109, rfl, rfl, tyX2_ok 0 (by decide), tyX2_ok, nmX2⟩
theorem wd_635 : Cond.methodLink RX2 15 yX7_read ∈ xv_g := xv_in (xv_t3 101 (by decide +kernel)) rfl
theorem ln_X2_15 : xv_lV RX2 15 yX7_read mX7_read 1 := ⟨wd_635, wd_381, wd_382, wd_63, wd_383, rfl, ⟨by decide +kernel, by decide +kernel, by decide +kernel⟩⟩
theorem wd_654 : Cond.methodLink RX2 21 Lib.Math.abs.name ∈ xv_g := xv_in (xv_t3 120 (by decide +kernel)) rfl
theorem wd_655 : Cond.static Lib.Math.abs.name ∈ xv_g := xv_in (xv_t3 121 (by decide +kernel)) rfl
theorem wd_656 : Cond.code Lib.Math.abs.name Lib.Math.abs.code 1 (some .int) ∈ xv_g := xv_in (xv_t3 122 rfl) rfl
theorem ln_X2_21 : Cond.methodLink RX2 21 Lib.Math.abs.name ∈ xv_g ∧ Cond.static Lib.Math.abs.name ∈ xv_g ∧ Cond.initialized "java/lang/Math" ∈ xv_g ∧ Cond.code Lib.Math.abs.name Lib.Math.abs.code 1 (some .int) ∈ xv_g := ⟨wd_654, wd_655, wd_67, wd_656⟩
theorem wd_130 : Cond.methodLink RX3 3 Lib.objectInit ∈ xv_g := xv_in (xv_t1 76 (by decide +kernel)) rfl
theorem ln_X3_3 : Cond.methodLink RX3 3 Lib.objectInit ∈ xv_g ∧ Cond.instanceMethod Lib.objectInit ∈ xv_g ∧ Cond.code Lib.objectInit ⟨#[0xb1]⟩ 1 none ∈ xv_g := ⟨wd_130, wd_74, wd_75⟩
theorem wd_133 : Cond.fieldLink RX3 11 "ValveShop$Gear" "swings" "[[I" ∈ xv_g := xv_in (xv_t1 79 (by decide +kernel)) rfl
theorem fl_X3_11 : xv_fl RX3 11 3 0 true (.array (.array .int)) := ⟨RX3, TX3, 4, tyX3, rfl, cw_X3, by decide, wd_133, rfl, rfl, tyX3_ok 0 (by decide), tyX3_ok, nmX3⟩
theorem wd_499 : Cond.code yX3_fillSwing cX3_fillSwing 5 none ∈ xv_g := xv_in (xv_t2 205 rfl) rfl
theorem wd_58 : Cond.initialized RX3 ∈ xv_g := xv_in (xv_t1 4 (by decide +kernel)) rfl
theorem wd_496 : Cond.methodLink RX3 16 yX3_fillSwing ∈ xv_g := xv_in (xv_t2 202 (by decide +kernel)) rfl
theorem wd_498 : Cond.instanceMethod yX3_fillSwing ∈ xv_g := xv_in (xv_t2 204 (by decide +kernel)) rfl
theorem wd_4 : Cond.selects RX3 yX3_fillSwing yX3_fillSwing ∈ xv_g := xv_in (xv_t0 4 (by decide +kernel)) rfl
theorem ln_X3_16 : xv_lV RX3 16 yX3_fillSwing mX3_fillSwing 3 := ⟨wd_496, wd_498, wd_4, wd_58, wd_499, rfl, ⟨by decide +kernel, by decide +kernel, by decide +kernel⟩⟩
theorem wd_504 : Cond.code yX3_firstEventOn cX3_firstEventOn 12 (some .int) ∈ xv_g := xv_in (xv_t2 210 rfl) rfl
theorem wd_501 : Cond.methodLink RX3 20 yX3_firstEventOn ∈ xv_g := xv_in (xv_t2 207 (by decide +kernel)) rfl
theorem wd_503 : Cond.instanceMethod yX3_firstEventOn ∈ xv_g := xv_in (xv_t2 209 (by decide +kernel)) rfl
theorem wd_5 : Cond.selects RX3 yX3_firstEventOn yX3_firstEventOn ∈ xv_g := xv_in (xv_t0 5 (by decide +kernel)) rfl
theorem ln_X3_20 : xv_lV RX3 20 yX3_firstEventOn mX3_firstEventOn 5 := ⟨wd_501, wd_503, wd_5, wd_58, wd_504, rfl, ⟨by decide +kernel, by decide +kernel, by decide +kernel⟩⟩
theorem wd_519 : Cond.code yX3_fillSwings cX3_fillSwings 3 none ∈ xv_g := xv_in (xv_t2 225 rfl) rfl
theorem wd_516 : Cond.methodLink RX3 24 yX3_fillSwings ∈ xv_g := xv_in (xv_t2 222 (by decide +kernel)) rfl
theorem wd_518 : Cond.instanceMethod yX3_fillSwings ∈ xv_g := xv_in (xv_t2 224 (by decide +kernel)) rfl
theorem wd_6 : Cond.selects RX3 yX3_fillSwings yX3_fillSwings ∈ xv_g := xv_in (xv_t0 6 (by decide +kernel)) rfl
theorem ln_X3_24 : xv_lV RX3 24 yX3_fillSwings mX3_fillSwings 1 := ⟨wd_516, wd_518, wd_6, wd_58, wd_519, rfl, ⟨by decide +kernel, by decide +kernel, by decide +kernel⟩⟩
theorem wd_520 : Cond.constant RX3 30 (2147483647) ∈ xv_g := xv_in (xv_t2 226 (by decide +kernel)) rfl
abbrev kc_X3_30 := wd_520
theorem wd_524 : Cond.code yX3_unlikeBelow cX3_unlikeBelow 7 (some .int) ∈ xv_g := xv_in (xv_t2 230 rfl) rfl
theorem wd_521 : Cond.methodLink RX3 31 yX3_unlikeBelow ∈ xv_g := xv_in (xv_t2 227 (by decide +kernel)) rfl
theorem wd_523 : Cond.instanceMethod yX3_unlikeBelow ∈ xv_g := xv_in (xv_t2 229 (by decide +kernel)) rfl
theorem wd_7 : Cond.selects RX3 yX3_unlikeBelow yX3_unlikeBelow ∈ xv_g := xv_in (xv_t0 7 (by decide +kernel)) rfl
theorem ln_X3_31 : xv_lV RX3 31 yX3_unlikeBelow mX3_unlikeBelow 2 := ⟨wd_521, wd_523, wd_7, wd_58, wd_524, rfl, ⟨by decide +kernel, by decide +kernel, by decide +kernel⟩⟩
theorem wd_418 : Cond.code yX0_resemble cX0_resemble 2 none ∈ xv_g := xv_in (xv_t2 124 rfl) rfl
theorem wd_546 : Cond.methodLink RX3 35 yX0_resemble ∈ xv_g := xv_in (xv_t3 12 (by decide +kernel)) rfl
theorem wd_416 : Cond.instanceMethod yX0_resemble ∈ xv_g := xv_in (xv_t2 122 (by decide +kernel)) rfl
theorem wd_417 : Cond.selects RX0 yX0_resemble yX0_resemble ∈ xv_g := xv_in (xv_t2 123 (by decide +kernel)) rfl
theorem ln_X3_35 : xv_lV RX3 35 yX0_resemble mX0_resemble 1 := ⟨wd_546, wd_416, wd_417, wd_56, wd_418, rfl, ⟨by decide +kernel, by decide +kernel, by decide +kernel⟩⟩
theorem wd_138 : Cond.fieldLink RX3 40 "ValveShop$Gear" "leastUnlike" "I" ∈ xv_g := xv_in (xv_t1 84 (by decide +kernel)) rfl
theorem fl_X3_40 : xv_fl RX3 40 3 3 false .int := ⟨RX3, TX3, 4, tyX3, rfl, cw_X3, by decide, wd_138, rfl, rfl, tyX3_ok 3 (by decide), tyX3_ok, nmX3⟩
theorem wn_547 : Cond.fieldLinkNest RX3 44 "ValveShop" "LEAST_NUMBER" "[I" "ValveShop" ∈ xv_nw := xv_inN (xv_t3 13 (by decide +kernel)) rfl
theorem gs_X3_44 : Cond.fieldLink RX3 44 "ValveShop" "LEAST_NUMBER" "[I" ∈ xv_g ∨ Cond.fieldLinkNest RX3 44 "ValveShop" "LEAST_NUMBER" "[I" "ValveShop" ∈ xv_nw := Or.inr wn_547
theorem wn_548 : Cond.fieldLinkNest RX3 48 "ValveShop" "MOST_NUMBER" "[I" "ValveShop" ∈ xv_nw := xv_inN (xv_t3 14 (by decide +kernel)) rfl
theorem gs_X3_48 : Cond.fieldLink RX3 48 "ValveShop" "MOST_NUMBER" "[I" ∈ xv_g ∨ Cond.fieldLinkNest RX3 48 "ValveShop" "MOST_NUMBER" "[I" "ValveShop" ∈ xv_nw := Or.inr wn_548
theorem wd_89 : Cond.fieldLink RX3 51 "ValveShop$Engine" "numbers" "[I" ∈ xv_g := xv_in (xv_t1 35 (by decide +kernel)) rfl
theorem fl_X3_51 : xv_fl RX3 51 0 0 true (.array .int) := ⟨RX0, TX0, 3, tyX0, rfl, cw_X0, by decide, wd_89, rfl, rfl, tyX0_ok 0 (by decide), tyX0_ok, nmX0⟩
theorem wd_134 : Cond.fieldLink RX3 54 "ValveShop$Gear" "bestAdvance" "I" ∈ xv_g := xv_in (xv_t1 80 (by decide +kernel)) rfl
theorem fl_X3_54 : xv_fl RX3 54 3 1 false .int := ⟨RX3, TX3, 4, tyX3, rfl, cw_X3, by decide, wd_134, rfl, rfl, tyX3_ok 1 (by decide), tyX3_ok, nmX3⟩
theorem wd_136 : Cond.fieldLink RX3 57 "ValveShop$Gear" "bestHang" "I" ∈ xv_g := xv_in (xv_t1 82 (by decide +kernel)) rfl
theorem fl_X3_57 : xv_fl RX3 57 3 2 false .int := ⟨RX3, TX3, 4, tyX3, rfl, cw_X3, by decide, wd_136, rfl, rfl, tyX3_ok 2 (by decide), tyX3_ok, nmX3⟩
theorem wd_500 : Cond.methodLink RX3 60 yX0_swing ∈ xv_g := xv_in (xv_t2 206 (by decide +kernel)) rfl
theorem ln_X3_60 : xv_lV RX3 60 yX0_swing mX0_swing 2 := ⟨wd_500, wd_457, wd_458, wd_56, wd_459, rfl, ⟨by decide +kernel, by decide +kernel, by decide +kernel⟩⟩
theorem wd_507 : Cond.constant RX3 64 (-1000000) ∈ xv_g := xv_in (xv_t2 213 (by decide +kernel)) rfl
abbrev kc_X3_64 := wd_507
theorem wd_527 : Cond.code yX3_offHalfTurn cX3_offHalfTurn 3 (some .int) ∈ xv_g := xv_in (xv_t2 233 rfl) rfl
theorem wd_525 : Cond.methodLink RX3 65 yX3_offHalfTurn ∈ xv_g := xv_in (xv_t2 231 (by decide +kernel)) rfl
theorem wd_526 : Cond.static yX3_offHalfTurn ∈ xv_g := xv_in (xv_t2 232 (by decide +kernel)) rfl
theorem ln_X3_65 : xv_lS RX3 65 yX3_offHalfTurn mX3_offHalfTurn 2 := ⟨Or.inl wd_525, wd_526, wd_58, wd_527, ⟨by decide +kernel, by decide +kernel, by decide +kernel⟩⟩
theorem wd_530 : Cond.code yJ9_floorMod_7cf53 cJ9_floorMod_7cf53 3 (some .int) ∈ xv_g := xv_in (xv_t2 236 rfl) rfl
theorem wd_528 : Cond.methodLink RX3 68 yJ9_floorMod_7cf53 ∈ xv_g := xv_in (xv_t2 234 (by decide +kernel)) rfl
theorem wd_529 : Cond.static yJ9_floorMod_7cf53 ∈ xv_g := xv_in (xv_t2 235 (by decide +kernel)) rfl
theorem ln_X3_68 : xv_lS RX3 68 yJ9_floorMod_7cf53 mJ9_floorMod_7cf53 2 := ⟨Or.inl wd_528, wd_529, wd_67, wd_530, ⟨by decide +kernel, by decide +kernel, by decide +kernel⟩⟩
theorem wd_531 : Cond.methodLink RX3 73 Lib.Math.min.name ∈ xv_g := xv_in (xv_t2 237 (by decide +kernel)) rfl
theorem ln_X3_73 : Cond.methodLink RX3 73 Lib.Math.min.name ∈ xv_g ∧ Cond.static Lib.Math.min.name ∈ xv_g ∧ Cond.initialized "java/lang/Math" ∈ xv_g ∧ Cond.code Lib.Math.min.name Lib.Math.min.code 2 (some .int) ∈ xv_g := ⟨wd_531, wd_483, wd_67, wd_484⟩
theorem wd_505 : Cond.methodLink RX3 76 yX0_hanging ∈ xv_g := xv_in (xv_t2 211 (by decide +kernel)) rfl
theorem ln_X3_76 : xv_lV RX3 76 yX0_hanging mX0_hanging 1 := ⟨wd_505, wd_468, wd_469, wd_56, wd_470, rfl, ⟨by decide +kernel, by decide +kernel, by decide +kernel⟩⟩
theorem wd_506 : Cond.methodLink RX3 80 yX0_opening ∈ xv_g := xv_in (xv_t2 212 (by decide +kernel)) rfl
theorem ln_X3_80 : xv_lV RX3 80 yX0_opening mX0_opening 3 := ⟨wd_506, wd_479, wd_480, wd_56, wd_481, rfl, ⟨by decide +kernel, by decide +kernel, by decide +kernel⟩⟩
theorem wd_188 : Cond.methodLink RX4 3 Lib.objectInit ∈ xv_g := xv_in (xv_t1 134 (by decide +kernel)) rfl
theorem ln_X4_3 : Cond.methodLink RX4 3 Lib.objectInit ∈ xv_g ∧ Cond.instanceMethod Lib.objectInit ∈ xv_g ∧ Cond.code Lib.objectInit ⟨#[0xb1]⟩ 1 none ∈ xv_g := ⟨wd_188, wd_74, wd_75⟩
theorem wd_189 : Cond.fieldLink RX4 9 "ValveShop$Naming" "misfits" "[I" ∈ xv_g := xv_in (xv_t1 135 (by decide +kernel)) rfl
theorem fl_X4_9 : xv_fl RX4 9 4 0 true (.array .int) := ⟨RX4, TX4, 3, tyX4, rfl, cw_X4, by decide, wd_189, rfl, rfl, tyX4_ok 0 (by decide), tyX4_ok, nmX4⟩
theorem wd_91 : Cond.fieldLink RX4 15 "ValveShop$Engine" "sickness" "I" ∈ xv_g := xv_in (xv_t1 37 (by decide +kernel)) rfl
theorem fl_X4_15 : xv_fl RX4 15 0 1 false .int := ⟨RX0, TX0, 3, tyX0, rfl, cw_X0, by decide, wd_91, rfl, rfl, tyX0_ok 1 (by decide), tyX0_ok, nmX0⟩
theorem wd_112 : Cond.fieldLink RX4 21 "ValveShop$FoundCard" "notch" "I" ∈ xv_g := xv_in (xv_t1 58 (by decide +kernel)) rfl
theorem fl_X4_21 : xv_fl RX4 21 2 2 false .int := ⟨RX2, TX2, 4, tyX2, rfl, cw_X2, by decide, wd_112, rfl, rfl, tyX2_ok 2 (by decide), tyX2_ok, nmX2⟩
theorem wd_114 : Cond.fieldLink RX4 26 "ValveShop$FoundCard" "boiler" "I" ∈ xv_g := xv_in (xv_t1 60 (by decide +kernel)) rfl
theorem fl_X4_26 : xv_fl RX4 26 2 3 false .int := ⟨RX2, TX2, 4, tyX2, rfl, cw_X2, by decide, wd_114, rfl, rfl, tyX2_ok 3 (by decide), tyX2_ok, nmX2⟩
theorem wd_566 : Cond.code yX5_draw cX5_draw 16 none ∈ xv_g := xv_in (xv_t3 32 rfl) rfl
theorem wd_59 : Cond.initialized RX5 ∈ xv_g := xv_in (xv_t1 5 (by decide +kernel)) rfl
theorem wd_649 : Cond.methodLink RX4 29 yX5_draw ∈ xv_g := xv_in (xv_t3 115 (by decide +kernel)) rfl
theorem wd_564 : Cond.instanceMethod yX5_draw ∈ xv_g := xv_in (xv_t3 30 (by decide +kernel)) rfl
theorem wd_565 : Cond.selects RX5 yX5_draw yX5_draw ∈ xv_g := xv_in (xv_t3 31 (by decide +kernel)) rfl
theorem ln_X4_29 : xv_lV RX4 29 yX5_draw mX5_draw 5 := ⟨wd_649, wd_564, wd_565, wd_59, wd_566, rfl, ⟨by decide +kernel, by decide +kernel, by decide +kernel⟩⟩
theorem wd_159 : Cond.fieldLink RX4 35 "ValveShop$Pencil" "pressures" "[I" ∈ xv_g := xv_in (xv_t1 105 (by decide +kernel)) rfl
theorem fl_X4_35 : xv_fl RX4 35 5 3 true (.array .int) := ⟨RX5, TX5, 7, tyX5, rfl, cw_X5, by decide, wd_159, rfl, rfl, tyX5_ok 3 (by decide), tyX5_ok, nmX5⟩
theorem wd_653 : Cond.code yX2_apart cX2_apart 4 (some .int) ∈ xv_g := xv_in (xv_t3 119 rfl) rfl
theorem wd_57 : Cond.initialized RX2 ∈ xv_g := xv_in (xv_t1 3 (by decide +kernel)) rfl
theorem wd_650 : Cond.methodLink RX4 38 yX2_apart ∈ xv_g := xv_in (xv_t3 116 (by decide +kernel)) rfl
theorem wd_651 : Cond.instanceMethod yX2_apart ∈ xv_g := xv_in (xv_t3 117 (by decide +kernel)) rfl
theorem wd_652 : Cond.selects RX2 yX2_apart yX2_apart ∈ xv_g := xv_in (xv_t3 118 (by decide +kernel)) rfl
theorem ln_X4_38 : xv_lV RX4 38 yX2_apart mX2_apart 1 := ⟨wd_650, wd_651, wd_652, wd_57, wd_653, rfl, ⟨by decide +kernel, by decide +kernel, by decide +kernel⟩⟩
theorem wd_648 : Cond.code yX4_misfitBy cX4_misfitBy 5 (some .int) ∈ xv_g := xv_in (xv_t3 114 rfl) rfl
theorem wd_60 : Cond.initialized RX4 ∈ xv_g := xv_in (xv_t1 6 (by decide +kernel)) rfl
theorem wd_666 : Cond.methodLink RX4 42 yX4_misfitBy ∈ xv_g := xv_in (xv_t3 132 (by decide +kernel)) rfl
theorem wd_646 : Cond.instanceMethod yX4_misfitBy ∈ xv_g := xv_in (xv_t3 112 (by decide +kernel)) rfl
theorem wd_647 : Cond.selects RX4 yX4_misfitBy yX4_misfitBy ∈ xv_g := xv_in (xv_t3 113 (by decide +kernel)) rfl
theorem ln_X4_42 : xv_lV RX4 42 yX4_misfitBy mX4_misfitBy 4 := ⟨wd_666, wd_646, wd_647, wd_60, wd_648, rfl, ⟨by decide +kernel, by decide +kernel, by decide +kernel⟩⟩
theorem wd_192 : Cond.fieldLink RX4 46 "ValveShop$Naming" "least" "I" ∈ xv_g := xv_in (xv_t1 138 (by decide +kernel)) rfl
theorem fl_X4_46 : xv_fl RX4 46 4 2 false .int := ⟨RX4, TX4, 3, tyX4, rfl, cw_X4, by decide, wd_192, rfl, rfl, tyX4_ok 2 (by decide), tyX4_ok, nmX4⟩
theorem wd_190 : Cond.fieldLink RX4 49 "ValveShop$Naming" "best" "I" ∈ xv_g := xv_in (xv_t1 136 (by decide +kernel)) rfl
theorem fl_X4_49 : xv_fl RX4 49 4 1 false .int := ⟨RX4, TX4, 3, tyX4, rfl, cw_X4, by decide, wd_190, rfl, rfl, tyX4_ok 1 (by decide), tyX4_ok, nmX4⟩
theorem wd_154 : Cond.methodLink RX5 3 Lib.objectInit ∈ xv_g := xv_in (xv_t1 100 (by decide +kernel)) rfl
theorem ln_X5_3 : Cond.methodLink RX5 3 Lib.objectInit ∈ xv_g ∧ Cond.instanceMethod Lib.objectInit ∈ xv_g ∧ Cond.code Lib.objectInit ⟨#[0xb1]⟩ 1 none ∈ xv_g := ⟨wd_154, wd_74, wd_75⟩
theorem wd_155 : Cond.fieldLink RX5 9 "ValveShop$Pencil" "room" "[I" ∈ xv_g := xv_in (xv_t1 101 (by decide +kernel)) rfl
theorem fl_X5_9 : xv_fl RX5 9 5 0 true (.array .int) := ⟨RX5, TX5, 7, tyX5, rfl, cw_X5, by decide, wd_155, rfl, rfl, tyX5_ok 0 (by decide), tyX5_ok, nmX5⟩
theorem wd_156 : Cond.fieldLink RX5 15 "ValveShop$Pencil" "steam" "[I" ∈ xv_g := xv_in (xv_t1 102 (by decide +kernel)) rfl
theorem fl_X5_15 : xv_fl RX5 15 5 1 true (.array .int) := ⟨RX5, TX5, 7, tyX5, rfl, cw_X5, by decide, wd_156, rfl, rfl, tyX5_ok 1 (by decide), tyX5_ok, nmX5⟩
theorem wd_157 : Cond.fieldLink RX5 18 "ValveShop$Pencil" "exhaust" "[I" ∈ xv_g := xv_in (xv_t1 103 (by decide +kernel)) rfl
theorem fl_X5_18 : xv_fl RX5 18 5 2 true (.array .int) := ⟨RX5, TX5, 7, tyX5, rfl, cw_X5, by decide, wd_157, rfl, rfl, tyX5_ok 2 (by decide), tyX5_ok, nmX5⟩
theorem wd_158 : Cond.fieldLink RX5 21 "ValveShop$Pencil" "pressures" "[I" ∈ xv_g := xv_in (xv_t1 104 (by decide +kernel)) rfl
theorem fl_X5_21 : xv_fl RX5 21 5 3 true (.array .int) := ⟨RX5, TX5, 7, tyX5, rfl, cw_X5, by decide, wd_158, rfl, rfl, tyX5_ok 3 (by decide), tyX5_ok, nmX5⟩
theorem wd_570 : Cond.code yX5_prepare cX5_prepare 8 none ∈ xv_g := xv_in (xv_t3 36 rfl) rfl
theorem wd_567 : Cond.methodLink RX5 24 yX5_prepare ∈ xv_g := xv_in (xv_t3 33 (by decide +kernel)) rfl
theorem wd_569 : Cond.instanceMethod yX5_prepare ∈ xv_g := xv_in (xv_t3 35 (by decide +kernel)) rfl
theorem wd_8 : Cond.selects RX5 yX5_prepare yX5_prepare ∈ xv_g := xv_in (xv_t0 8 (by decide +kernel)) rfl
theorem ln_X5_24 : xv_lV RX5 24 yX5_prepare mX5_prepare 3 := ⟨wd_567, wd_569, wd_8, wd_59, wd_570, rfl, ⟨by decide +kernel, by decide +kernel, by decide +kernel⟩⟩
theorem wd_88 : Cond.fieldLink RX5 28 "ValveShop$Engine" "numbers" "[I" ∈ xv_g := xv_in (xv_t1 34 (by decide +kernel)) rfl
theorem fl_X5_28 : xv_fl RX5 28 0 0 true (.array .int) := ⟨RX0, TX0, 3, tyX0, rfl, cw_X0, by decide, wd_88, rfl, rfl, tyX0_ok 0 (by decide), tyX0_ok, nmX0⟩
theorem wd_578 : Cond.code yX0_choke cX0_choke 1 (some .int) ∈ xv_g := xv_in (xv_t3 44 rfl) rfl
theorem wd_575 : Cond.methodLink RX5 33 yX0_choke ∈ xv_g := xv_in (xv_t3 41 (by decide +kernel)) rfl
theorem wd_576 : Cond.instanceMethod yX0_choke ∈ xv_g := xv_in (xv_t3 42 (by decide +kernel)) rfl
theorem wd_577 : Cond.selects RX0 yX0_choke yX0_choke ∈ xv_g := xv_in (xv_t3 43 (by decide +kernel)) rfl
theorem ln_X5_33 : xv_lV RX5 33 yX0_choke mX0_choke 0 := ⟨wd_575, wd_576, wd_577, wd_56, wd_578, rfl, ⟨by decide +kernel, by decide +kernel, by decide +kernel⟩⟩
theorem wd_584 : Cond.code yX0_leak cX0_leak 1 (some .int) ∈ xv_g := xv_in (xv_t3 50 rfl) rfl
theorem wd_581 : Cond.methodLink RX5 37 yX0_leak ∈ xv_g := xv_in (xv_t3 47 (by decide +kernel)) rfl
theorem wd_582 : Cond.instanceMethod yX0_leak ∈ xv_g := xv_in (xv_t3 48 (by decide +kernel)) rfl
theorem wd_583 : Cond.selects RX0 yX0_leak yX0_leak ∈ xv_g := xv_in (xv_t3 49 (by decide +kernel)) rfl
theorem ln_X5_37 : xv_lV RX5 37 yX0_leak mX0_leak 0 := ⟨wd_581, wd_582, wd_583, wd_56, wd_584, rfl, ⟨by decide +kernel, by decide +kernel, by decide +kernel⟩⟩
theorem wd_161 : Cond.fieldLink RX5 40 "ValveShop$Pencil" "drawnIn" "J" ∈ xv_g := xv_in (xv_t1 107 (by decide +kernel)) rfl
theorem fl_X5_40 : xv_fl RX5 40 5 4 false .long := ⟨RX5, TX5, 7, tyX5, rfl, cw_X5, by decide, wd_161, rfl, rfl, tyX5_ok 4 (by decide), tyX5_ok, nmX5⟩
theorem wd_589 : Cond.code yX8_share cX8_share 3 (some .int) ∈ xv_g := xv_in (xv_t3 55 rfl) rfl
theorem wn_587 : Cond.methodLinkNest RX5 44 yX8_share "ValveShop" ∈ xv_nw := xv_inN (xv_t3 53 (by decide +kernel)) rfl
theorem wd_588 : Cond.static yX8_share ∈ xv_g := xv_in (xv_t3 54 (by decide +kernel)) rfl
theorem ln_X5_44 : xv_lS RX5 44 yX8_share mX8_share 3 := ⟨Or.inr wn_587, wd_588, wd_55, wd_589, ⟨by decide +kernel, by decide +kernel, by decide +kernel⟩⟩
theorem wd_615 : Cond.methodLink RX5 48 yX5_draw ∈ xv_g := xv_in (xv_t3 81 (by decide +kernel)) rfl
theorem ln_X5_48 : xv_lV RX5 48 yX5_draw mX5_draw 5 := ⟨wd_615, wd_564, wd_565, wd_59, wd_566, rfl, ⟨by decide +kernel, by decide +kernel, by decide +kernel⟩⟩
theorem wd_619 : Cond.code yX5_pushed cX5_pushed 5 (some .long) ∈ xv_g := xv_in (xv_t3 85 rfl) rfl
theorem wd_616 : Cond.methodLink RX5 52 yX5_pushed ∈ xv_g := xv_in (xv_t3 82 (by decide +kernel)) rfl
theorem wd_618 : Cond.instanceMethod yX5_pushed ∈ xv_g := xv_in (xv_t3 84 (by decide +kernel)) rfl
theorem wd_9 : Cond.selects RX5 yX5_pushed yX5_pushed ∈ xv_g := xv_in (xv_t0 9 (by decide +kernel)) rfl
theorem ln_X5_52 : xv_lV RX5 52 yX5_pushed mX5_pushed 0 := ⟨wd_616, wd_618, wd_9, wd_59, wd_619, rfl, ⟨by decide +kernel, by decide +kernel, by decide +kernel⟩⟩
theorem wd_620 : Cond.constantLong RX5 56 (2000) ∈ xv_g := xv_in (xv_t3 86 (by decide +kernel)) rfl
abbrev kc_X5_56 := wd_620
theorem wd_163 : Cond.fieldLink RX5 58 "ValveShop$Pencil" "work" "I" ∈ xv_g := xv_in (xv_t1 109 (by decide +kernel)) rfl
theorem fl_X5_58 : xv_fl RX5 58 5 5 false .int := ⟨RX5, TX5, 7, tyX5, rfl, cw_X5, by decide, wd_163, rfl, rfl, tyX5_ok 5 (by decide), tyX5_ok, nmX5⟩
theorem wd_621 : Cond.constantLong RX5 62 (1000) ∈ xv_g := xv_in (xv_t3 87 (by decide +kernel)) rfl
abbrev kc_X5_62 := wd_621
theorem wd_166 : Cond.fieldLink RX5 64 "ValveShop$Pencil" "drink" "I" ∈ xv_g := xv_in (xv_t1 112 (by decide +kernel)) rfl
theorem fl_X5_64 : xv_fl RX5 64 5 6 false .int := ⟨RX5, TX5, 7, tyX5, rfl, cw_X5, by decide, wd_166, rfl, rfl, tyX5_ok 6 (by decide), tyX5_ok, nmX5⟩
theorem wd_602 : Cond.methodLink RX5 67 Lib.Math.max.name ∈ xv_g := xv_in (xv_t3 68 (by decide +kernel)) rfl
theorem ln_X5_67 : Cond.methodLink RX5 67 Lib.Math.max.name ∈ xv_g ∧ Cond.static Lib.Math.max.name ∈ xv_g ∧ Cond.initialized "java/lang/Math" ∈ xv_g ∧ Cond.code Lib.Math.max.name Lib.Math.max.code 2 (some .int) ∈ xv_g := ⟨wd_602, wd_486, wd_67, wd_487⟩
theorem wd_571 : Cond.methodLink RX5 73 yX0_hanging ∈ xv_g := xv_in (xv_t3 37 (by decide +kernel)) rfl
theorem ln_X5_73 : xv_lV RX5 73 yX0_hanging mX0_hanging 1 := ⟨wd_571, wd_468, wd_469, wd_56, wd_470, rfl, ⟨by decide +kernel, by decide +kernel, by decide +kernel⟩⟩
theorem wd_438 : Cond.code yX0_stroke cX0_stroke 5 (some .int) ∈ xv_g := xv_in (xv_t2 144 rfl) rfl
theorem wd_572 : Cond.methodLink RX5 77 yX0_stroke ∈ xv_g := xv_in (xv_t3 38 (by decide +kernel)) rfl
theorem wd_436 : Cond.instanceMethod yX0_stroke ∈ xv_g := xv_in (xv_t2 142 (by decide +kernel)) rfl
theorem wd_437 : Cond.selects RX0 yX0_stroke yX0_stroke ∈ xv_g := xv_in (xv_t2 143 (by decide +kernel)) rfl
theorem ln_X5_77 : xv_lV RX5 77 yX0_stroke mX0_stroke 1 := ⟨wd_572, wd_436, wd_437, wd_56, wd_438, rfl, ⟨by decide +kernel, by decide +kernel, by decide +kernel⟩⟩
theorem wd_573 : Cond.methodLink RX5 80 yX0_swing ∈ xv_g := xv_in (xv_t3 39 (by decide +kernel)) rfl
theorem ln_X5_80 : xv_lV RX5 80 yX0_swing mX0_swing 2 := ⟨wd_573, wd_457, wd_458, wd_56, wd_459, rfl, ⟨by decide +kernel, by decide +kernel, by decide +kernel⟩⟩
theorem wd_574 : Cond.methodLink RX5 83 yX0_opening ∈ xv_g := xv_in (xv_t3 40 (by decide +kernel)) rfl
theorem ln_X5_83 : xv_lV RX5 83 yX0_opening mX0_opening 3 := ⟨wd_574, wd_479, wd_480, wd_56, wd_481, rfl, ⟨by decide +kernel, by decide +kernel, by decide +kernel⟩⟩
theorem wd_206 : Cond.methodLink RX6 3 Lib.objectInit ∈ xv_g := xv_in (xv_t1 152 (by decide +kernel)) rfl
theorem ln_X6_3 : Cond.methodLink RX6 3 Lib.objectInit ∈ xv_g ∧ Cond.instanceMethod Lib.objectInit ∈ xv_g ∧ Cond.code Lib.objectInit ⟨#[0xb1]⟩ 1 none ∈ xv_g := ⟨wd_206, wd_74, wd_75⟩
theorem wd_208 : Cond.fieldLink RX6 9 "ValveShop$Planner" "works" "[I" ∈ xv_g := xv_in (xv_t1 154 (by decide +kernel)) rfl
theorem fl_X6_9 : xv_fl RX6 9 6 0 true (.array .int) := ⟨RX6, TX6, 7, tyX6, rfl, cw_X6, by decide, wd_208, rfl, rfl, tyX6_ok 0 (by decide), tyX6_ok, nmX6⟩
theorem wd_209 : Cond.fieldLink RX6 15 "ValveShop$Planner" "drinks" "[I" ∈ xv_g := xv_in (xv_t1 155 (by decide +kernel)) rfl
theorem fl_X6_15 : xv_fl RX6 15 6 1 true (.array .int) := ⟨RX6, TX6, 7, tyX6, rfl, cw_X6, by decide, wd_209, rfl, rfl, tyX6_ok 1 (by decide), tyX6_ok, nmX6⟩
theorem wd_210 : Cond.fieldLink RX6 18 "ValveShop$Planner" "road" "[I" ∈ xv_g := xv_in (xv_t1 156 (by decide +kernel)) rfl
theorem fl_X6_18 : xv_fl RX6 18 6 2 true (.array .int) := ⟨RX6, TX6, 7, tyX6, rfl, cw_X6, by decide, wd_210, rfl, rfl, tyX6_ok 2 (by decide), tyX6_ok, nmX6⟩
theorem wd_211 : Cond.fieldLink RX6 23 "ValveShop$Planner" "leastCoal" "[[I" ∈ xv_g := xv_in (xv_t1 157 (by decide +kernel)) rfl
theorem fl_X6_23 : xv_fl RX6 23 6 3 true (.array (.array .int)) := ⟨RX6, TX6, 7, tyX6, rfl, cw_X6, by decide, wd_211, rfl, rfl, tyX6_ok 3 (by decide), tyX6_ok, nmX6⟩
theorem wd_212 : Cond.fieldLink RX6 26 "ValveShop$Planner" "kept" "[I" ∈ xv_g := xv_in (xv_t1 158 (by decide +kernel)) rfl
theorem fl_X6_26 : xv_fl RX6 26 6 4 true (.array .int) := ⟨RX6, TX6, 7, tyX6, rfl, cw_X6, by decide, wd_212, rfl, rfl, tyX6_ok 4 (by decide), tyX6_ok, nmX6⟩
theorem wd_697 : Cond.methodLink RX6 29 Lib.Math.min.name ∈ xv_g := xv_in (xv_t3 163 (by decide +kernel)) rfl
theorem ln_X6_29 : Cond.methodLink RX6 29 Lib.Math.min.name ∈ xv_g ∧ Cond.static Lib.Math.min.name ∈ xv_g ∧ Cond.initialized "java/lang/Math" ∈ xv_g ∧ Cond.code Lib.Math.min.name Lib.Math.min.code 2 (some .int) ∈ xv_g := ⟨wd_697, wd_483, wd_67, wd_484⟩
theorem wd_698 : Cond.methodLink RX6 35 Lib.Math.max.name ∈ xv_g := xv_in (xv_t3 164 (by decide +kernel)) rfl
theorem ln_X6_35 : Cond.methodLink RX6 35 Lib.Math.max.name ∈ xv_g ∧ Cond.static Lib.Math.max.name ∈ xv_g ∧ Cond.initialized "java/lang/Math" ∈ xv_g ∧ Cond.code Lib.Math.max.name Lib.Math.max.code 2 (some .int) ∈ xv_g := ⟨wd_698, wd_486, wd_67, wd_487⟩
theorem wd_214 : Cond.fieldLink RX6 38 "ValveShop$Planner" "stretches" "I" ∈ xv_g := xv_in (xv_t1 160 (by decide +kernel)) rfl
theorem fl_X6_38 : xv_fl RX6 38 6 5 false .int := ⟨RX6, TX6, 7, tyX6, rfl, cw_X6, by decide, wd_214, rfl, rfl, tyX6_ok 5 (by decide), tyX6_ok, nmX6⟩
theorem wd_699 : Cond.methodLink RX6 42 yX7_read ∈ xv_g := xv_in (xv_t3 165 (by decide +kernel)) rfl
theorem ln_X6_42 : xv_lV RX6 42 yX7_read mX7_read 1 := ⟨wd_699, wd_381, wd_382, wd_63, wd_383, rfl, ⟨by decide +kernel, by decide +kernel, by decide +kernel⟩⟩
theorem wd_327 : Cond.code yX8_within cX8_within 3 (some .boolean) ∈ xv_g := xv_in (xv_t2 33 rfl) rfl
theorem wn_700 : Cond.methodLinkNest RX6 48 yX8_within "ValveShop" ∈ xv_nw := xv_inN (xv_t3 166 (by decide +kernel)) rfl
theorem wd_326 : Cond.static yX8_within ∈ xv_g := xv_in (xv_t2 32 (by decide +kernel)) rfl
theorem ln_X6_48 : xv_lS RX6 48 yX8_within mX8_within 3 := ⟨Or.inr wn_700, wd_326, wd_55, wd_327, ⟨by decide +kernel, by decide +kernel, by decide +kernel⟩⟩
theorem wd_707 : Cond.code yX6_notchOf cX6_notchOf 1 (some .int) ∈ xv_g := xv_in (xv_t3 173 rfl) rfl
theorem wd_61 : Cond.initialized RX6 ∈ xv_g := xv_in (xv_t1 7 (by decide +kernel)) rfl
theorem wd_705 : Cond.methodLink RX6 52 yX6_notchOf ∈ xv_g := xv_in (xv_t3 171 (by decide +kernel)) rfl
theorem wd_706 : Cond.static yX6_notchOf ∈ xv_g := xv_in (xv_t3 172 (by decide +kernel)) rfl
theorem ln_X6_52 : xv_lS RX6 52 yX6_notchOf mX6_notchOf 1 := ⟨Or.inl wd_705, wd_706, wd_61, wd_707, ⟨by decide +kernel, by decide +kernel, by decide +kernel⟩⟩
theorem wd_710 : Cond.code yX6_regulatorOf cX6_regulatorOf 1 (some .int) ∈ xv_g := xv_in (xv_t3 176 rfl) rfl
theorem wd_708 : Cond.methodLink RX6 55 yX6_regulatorOf ∈ xv_g := xv_in (xv_t3 174 (by decide +kernel)) rfl
theorem wd_709 : Cond.static yX6_regulatorOf ∈ xv_g := xv_in (xv_t3 175 (by decide +kernel)) rfl
theorem ln_X6_55 : xv_lS RX6 55 yX6_regulatorOf mX6_regulatorOf 1 := ⟨Or.inl wd_708, wd_709, wd_61, wd_710, ⟨by decide +kernel, by decide +kernel, by decide +kernel⟩⟩
theorem wd_614 : Cond.code yX5_measure cX5_measure 10 none ∈ xv_g := xv_in (xv_t3 80 rfl) rfl
theorem wd_711 : Cond.methodLink RX6 58 yX5_measure ∈ xv_g := xv_in (xv_t3 177 (by decide +kernel)) rfl
theorem wd_612 : Cond.instanceMethod yX5_measure ∈ xv_g := xv_in (xv_t3 78 (by decide +kernel)) rfl
theorem wd_613 : Cond.selects RX5 yX5_measure yX5_measure ∈ xv_g := xv_in (xv_t3 79 (by decide +kernel)) rfl
theorem ln_X6_58 : xv_lV RX6 58 yX5_measure mX5_measure 4 := ⟨wd_711, wd_612, wd_613, wd_59, wd_614, rfl, ⟨by decide +kernel, by decide +kernel, by decide +kernel⟩⟩
theorem wd_162 : Cond.fieldLink RX6 64 "ValveShop$Pencil" "work" "I" ∈ xv_g := xv_in (xv_t1 108 (by decide +kernel)) rfl
theorem fl_X6_64 : xv_fl RX6 64 5 5 false .int := ⟨RX5, TX5, 7, tyX5, rfl, cw_X5, by decide, wd_162, rfl, rfl, tyX5_ok 5 (by decide), tyX5_ok, nmX5⟩
theorem wd_165 : Cond.fieldLink RX6 67 "ValveShop$Pencil" "drink" "I" ∈ xv_g := xv_in (xv_t1 111 (by decide +kernel)) rfl
theorem fl_X6_67 : xv_fl RX6 67 5 6 false .int := ⟨RX5, TX5, 7, tyX5, rfl, cw_X5, by decide, wd_165, rfl, rfl, tyX5_ok 6 (by decide), tyX5_ok, nmX5⟩
theorem wd_340 : Cond.code yJ7_fill_53178 cJ7_fill_53178 4 none ∈ xv_g := xv_in (xv_t2 46 rfl) rfl
theorem wd_65 : Cond.initialized RJ7 ∈ xv_g := xv_in (xv_t1 11 (by decide +kernel)) rfl
theorem wd_716 : Cond.methodLink RX6 70 yJ7_fill_53178 ∈ xv_g := xv_in (xv_t3 182 (by decide +kernel)) rfl
theorem wd_339 : Cond.static yJ7_fill_53178 ∈ xv_g := xv_in (xv_t2 45 (by decide +kernel)) rfl
theorem ln_X6_70 : xv_lS RX6 70 yJ7_fill_53178 mJ7_fill_53178 2 := ⟨Or.inl wd_716, wd_339, wd_65, wd_340, ⟨by decide +kernel, by decide +kernel, by decide +kernel⟩⟩
theorem wd_720 : Cond.code yX6_weigh cX6_weigh 9 none ∈ xv_g := xv_in (xv_t3 186 rfl) rfl
theorem wd_717 : Cond.methodLink RX6 76 yX6_weigh ∈ xv_g := xv_in (xv_t3 183 (by decide +kernel)) rfl
theorem wd_719 : Cond.instanceMethod yX6_weigh ∈ xv_g := xv_in (xv_t3 185 (by decide +kernel)) rfl
theorem wd_12 : Cond.selects RX6 yX6_weigh yX6_weigh ∈ xv_g := xv_in (xv_t0 12 (by decide +kernel)) rfl
theorem ln_X6_76 : xv_lV RX6 76 yX6_weigh mX6_weigh 2 := ⟨wd_717, wd_719, wd_12, wd_61, wd_720, rfl, ⟨by decide +kernel, by decide +kernel, by decide +kernel⟩⟩
theorem wd_721 : Cond.constant RX6 80 (1000000000) ∈ xv_g := xv_in (xv_t3 187 (by decide +kernel)) rfl
abbrev kc_X6_80 := wd_721
theorem wd_730 : Cond.constant RX6 81 (-1000000) ∈ xv_g := xv_in (xv_t3 196 (by decide +kernel)) rfl
abbrev kc_X6_81 := wd_730
theorem wd_734 : Cond.code yX6_keepBest cX6_keepBest 6 (some .int) ∈ xv_g := xv_in (xv_t3 200 rfl) rfl
theorem wd_731 : Cond.methodLink RX6 82 yX6_keepBest ∈ xv_g := xv_in (xv_t3 197 (by decide +kernel)) rfl
theorem wd_733 : Cond.instanceMethod yX6_keepBest ∈ xv_g := xv_in (xv_t3 199 (by decide +kernel)) rfl
theorem wd_15 : Cond.selects RX6 yX6_keepBest yX6_keepBest ∈ xv_g := xv_in (xv_t0 15 (by decide +kernel)) rfl
theorem ln_X6_82 : xv_lV RX6 82 yX6_keepBest mX6_keepBest 2 := ⟨wd_731, wd_733, wd_15, wd_61, wd_734, rfl, ⟨by decide +kernel, by decide +kernel, by decide +kernel⟩⟩
theorem wd_215 : Cond.fieldLink RX6 85 "ValveShop$Planner" "keptStretches" "I" ∈ xv_g := xv_in (xv_t1 161 (by decide +kernel)) rfl
theorem fl_X6_85 : xv_fl RX6 85 6 6 false .int := ⟨RX6, TX6, 7, tyX6, rfl, cw_X6, by decide, wd_215, rfl, rfl, tyX6_ok 6 (by decide), tyX6_ok, nmX6⟩
theorem wd_725 : Cond.code yX6_lasting cX6_lasting 7 (some .int) ∈ xv_g := xv_in (xv_t3 191 rfl) rfl
theorem wd_722 : Cond.methodLink RX6 88 yX6_lasting ∈ xv_g := xv_in (xv_t3 188 (by decide +kernel)) rfl
theorem wd_724 : Cond.instanceMethod yX6_lasting ∈ xv_g := xv_in (xv_t3 190 (by decide +kernel)) rfl
theorem wd_13 : Cond.selects RX6 yX6_lasting yX6_lasting ∈ xv_g := xv_in (xv_t0 13 (by decide +kernel)) rfl
theorem ln_X6_88 : xv_lV RX6 88 yX6_lasting mX6_lasting 2 := ⟨wd_722, wd_724, wd_13, wd_61, wd_725, rfl, ⟨by decide +kernel, by decide +kernel, by decide +kernel⟩⟩
theorem wd_729 : Cond.code yX6_burning cX6_burning 3 (some .int) ∈ xv_g := xv_in (xv_t3 195 rfl) rfl
theorem wd_726 : Cond.methodLink RX6 91 yX6_burning ∈ xv_g := xv_in (xv_t3 192 (by decide +kernel)) rfl
theorem wd_728 : Cond.instanceMethod yX6_burning ∈ xv_g := xv_in (xv_t3 194 (by decide +kernel)) rfl
theorem wd_14 : Cond.selects RX6 yX6_burning yX6_burning ∈ xv_g := xv_in (xv_t0 14 (by decide +kernel)) rfl
theorem ln_X6_91 : xv_lV RX6 91 yX6_burning mX6_burning 2 := ⟨wd_726, wd_728, wd_14, wd_61, wd_729, rfl, ⟨by decide +kernel, by decide +kernel, by decide +kernel⟩⟩
theorem wd_263 : Cond.methodLink RX7 3 Lib.objectInit ∈ xv_g := xv_in (xv_t1 209 (by decide +kernel)) rfl
theorem ln_X7_3 : Cond.methodLink RX7 3 Lib.objectInit ∈ xv_g ∧ Cond.instanceMethod Lib.objectInit ∈ xv_g ∧ Cond.code Lib.objectInit ⟨#[0xb1]⟩ 1 none ∈ xv_g := ⟨wd_263, wd_74, wd_75⟩
theorem wd_264 : Cond.fieldLink RX7 9 "ValveShop$Sheet" "items" "[I" ∈ xv_g := xv_in (xv_t1 210 (by decide +kernel)) rfl
theorem fl_X7_9 : xv_fl RX7 9 7 0 true (.array .int) := ⟨RX7, TX7, 4, tyX7, rfl, cw_X7, by decide, wd_264, rfl, rfl, tyX7_ok 0 (by decide), tyX7_ok, nmX7⟩
theorem wd_266 : Cond.fieldLink RX7 15 "ValveShop$Sheet" "there" "Z" ∈ xv_g := xv_in (xv_t1 212 (by decide +kernel)) rfl
theorem fl_X7_15 : xv_fl RX7 15 7 1 false .boolean := ⟨RX7, TX7, 4, tyX7, rfl, cw_X7, by decide, wd_266, rfl, rfl, tyX7_ok 1 (by decide), tyX7_ok, nmX7⟩
theorem wd_268 : Cond.fieldLink RX7 19 "ValveShop$Sheet" "lane" "I" ∈ xv_g := xv_in (xv_t1 214 (by decide +kernel)) rfl
theorem fl_X7_19 : xv_fl RX7 19 7 2 false .int := ⟨RX7, TX7, 4, tyX7, rfl, cw_X7, by decide, wd_268, rfl, rfl, tyX7_ok 2 (by decide), tyX7_ok, nmX7⟩
theorem wd_270 : Cond.fieldLink RX7 23 "ValveShop$Sheet" "size" "I" ∈ xv_g := xv_in (xv_t1 216 (by decide +kernel)) rfl
theorem fl_X7_23 : xv_fl RX7 23 7 3 false .int := ⟨RX7, TX7, 4, tyX7, rfl, cw_X7, by decide, wd_270, rfl, rfl, tyX7_ok 3 (by decide), tyX7_ok, nmX7⟩
theorem wd_338 : Cond.methodLink RX7 26 yJ7_fill_53178 ∈ xv_g := xv_in (xv_t2 44 (by decide +kernel)) rfl
theorem ln_X7_26 : xv_lS RX7 26 yJ7_fill_53178 mJ7_fill_53178 2 := ⟨Or.inl wd_338, wd_339, wd_65, wd_340, ⟨by decide +kernel, by decide +kernel, by decide +kernel⟩⟩
theorem wn_361 : Cond.methodLinkNest RX7 32 yX8_within "ValveShop" ∈ xv_nw := xv_inN (xv_t2 67 (by decide +kernel)) rfl
theorem ln_X7_32 : xv_lS RX7 32 yX8_within mX8_within 3 := ⟨Or.inr wn_361, wd_326, wd_55, wd_327, ⟨by decide +kernel, by decide +kernel, by decide +kernel⟩⟩
theorem wd_630 : Cond.methodLink RX7 36 yX7_read ∈ xv_g := xv_in (xv_t3 96 (by decide +kernel)) rfl
theorem ln_X7_36 : xv_lV RX7 36 yX7_read mX7_read 1 := ⟨wd_630, wd_381, wd_382, wd_63, wd_383, rfl, ⟨by decide +kernel, by decide +kernel, by decide +kernel⟩⟩
theorem wd_73 : Cond.methodLink RX8 1 Lib.objectInit ∈ xv_g := xv_in (xv_t1 19 (by decide +kernel)) rfl
theorem ln_X8_1 : Cond.methodLink RX8 1 Lib.objectInit ∈ xv_g ∧ Cond.instanceMethod Lib.objectInit ∈ xv_g ∧ Cond.code Lib.objectInit ⟨#[0xb1]⟩ 1 none ∈ xv_g := ⟨wd_73, wd_74, wd_75⟩
theorem wd_76 : Cond.classLink RX8 9 "ValveShop$Sheet" ∈ xv_g := xv_in (xv_t1 22 (by decide +kernel)) rfl
theorem wn_77 : Cond.arrayOver (.object "ValveShop$Sheet") ∈ xv_nw := xv_inN (xv_t1 23 (by decide +kernel)) rfl
theorem na_X8_9 : Cond.classLink RX8 9 "ValveShop$Sheet" ∈ xv_g ∧ Cond.arrayOver (.object "ValveShop$Sheet") ∈ xv_nw := ⟨wd_76, wn_77⟩
theorem wd_281 : Cond.fieldLink RX8 11 "ValveShop" "sheets" "[LValveShop$Sheet;" ∈ xv_g := xv_in (xv_t1 227 (by decide +kernel)) rfl
theorem fl_X8_11 : xv_fl RX8 11 8 0 true (.array (.object "ValveShop$Sheet")) := ⟨RX8, TX8, 13, tyX8, rfl, cw_X8, by decide, wd_281, rfl, rfl, tyX8_ok 0 (by decide), tyX8_ok, nmX8⟩
theorem wd_78 : Cond.classLink RX8 15 "ValveShop$Engine" ∈ xv_g := xv_in (xv_t1 24 (by decide +kernel)) rfl
theorem wn_79 : Cond.arrayOver (.object "ValveShop$Engine") ∈ xv_nw := xv_inN (xv_t1 25 (by decide +kernel)) rfl
theorem na_X8_15 : Cond.classLink RX8 15 "ValveShop$Engine" ∈ xv_g ∧ Cond.arrayOver (.object "ValveShop$Engine") ∈ xv_nw := ⟨wd_78, wn_79⟩
theorem wd_282 : Cond.fieldLink RX8 17 "ValveShop" "shelf" "[LValveShop$Engine;" ∈ xv_g := xv_in (xv_t1 228 (by decide +kernel)) rfl
theorem fl_X8_17 : xv_fl RX8 17 8 1 true (.array (.object "ValveShop$Engine")) := ⟨RX8, TX8, 13, tyX8, rfl, cw_X8, by decide, wd_282, rfl, rfl, tyX8_ok 1 (by decide), tyX8_ok, nmX8⟩
theorem wd_80 : Cond.classLink RX8 21 "ValveShop$FoundCard" ∈ xv_g := xv_in (xv_t1 26 (by decide +kernel)) rfl
theorem wn_81 : Cond.arrayOver (.object "ValveShop$FoundCard") ∈ xv_nw := xv_inN (xv_t1 27 (by decide +kernel)) rfl
theorem na_X8_21 : Cond.classLink RX8 21 "ValveShop$FoundCard" ∈ xv_g ∧ Cond.arrayOver (.object "ValveShop$FoundCard") ∈ xv_nw := ⟨wd_80, wn_81⟩
theorem wd_283 : Cond.fieldLink RX8 23 "ValveShop" "foundCards" "[LValveShop$FoundCard;" ∈ xv_g := xv_in (xv_t1 229 (by decide +kernel)) rfl
theorem fl_X8_23 : xv_fl RX8 23 8 2 true (.array (.object "ValveShop$FoundCard")) := ⟨RX8, TX8, 13, tyX8, rfl, cw_X8, by decide, wd_283, rfl, rfl, tyX8_ok 2 (by decide), tyX8_ok, nmX8⟩
theorem wd_82 : Cond.instantiable RX0 3 ∈ xv_g := xv_in (xv_t1 28 (by decide +kernel)) rfl
theorem nw_X8_15 : Cond.classLink RX8 15 RX0 ∈ xv_g ∧ Cond.instantiable RX0 3 ∈ xv_g ∧ Cond.initialized RX0 ∈ xv_g := ⟨wd_78, wd_82, wd_56⟩
theorem wd_85 : Cond.code yX0_init cX0_init 1 none ∈ xv_g := xv_in (xv_t1 31 rfl) rfl
theorem wn_83 : Cond.methodLinkNest RX8 27 yX0_init "ValveShop" ∈ xv_nw := xv_inN (xv_t1 29 (by decide +kernel)) rfl
theorem wd_84 : Cond.instanceMethod yX0_init ∈ xv_g := xv_in (xv_t1 30 (by decide +kernel)) rfl
theorem ln_X8_27 : xv_lI RX8 27 yX0_init mX0_init 0 := ⟨Or.inr wn_83, wd_84, wd_56, wd_85, rfl, rfl, ⟨by decide +kernel, by decide +kernel, by decide +kernel⟩⟩
theorem wd_284 : Cond.fieldLink RX8 28 "ValveShop" "trial" "LValveShop$Engine;" ∈ xv_g := xv_in (xv_t1 230 (by decide +kernel)) rfl
theorem fl_X8_28 : xv_fl RX8 28 8 3 true (.object "ValveShop$Engine") := ⟨RX8, TX8, 13, tyX8, rfl, cw_X8, by decide, wd_284, rfl, rfl, tyX8_ok 3 (by decide), tyX8_ok, nmX8⟩
theorem wd_104 : Cond.instantiable RX2 4 ∈ xv_g := xv_in (xv_t1 50 (by decide +kernel)) rfl
theorem nw_X8_21 : Cond.classLink RX8 21 RX2 ∈ xv_g ∧ Cond.instantiable RX2 4 ∈ xv_g ∧ Cond.initialized RX2 ∈ xv_g := ⟨wd_80, wd_104, wd_57⟩
theorem wd_107 : Cond.code yX2_init cX2_init 1 none ∈ xv_g := xv_in (xv_t1 53 rfl) rfl
theorem wn_105 : Cond.methodLinkNest RX8 32 yX2_init "ValveShop" ∈ xv_nw := xv_inN (xv_t1 51 (by decide +kernel)) rfl
theorem wd_106 : Cond.instanceMethod yX2_init ∈ xv_g := xv_in (xv_t1 52 (by decide +kernel)) rfl
theorem ln_X8_32 : xv_lI RX8 32 yX2_init mX2_init 0 := ⟨Or.inr wn_105, wd_106, wd_57, wd_107, rfl, rfl, ⟨by decide +kernel, by decide +kernel, by decide +kernel⟩⟩
theorem wd_285 : Cond.fieldLink RX8 33 "ValveShop" "compared" "LValveShop$FoundCard;" ∈ xv_g := xv_in (xv_t1 231 (by decide +kernel)) rfl
theorem fl_X8_33 : xv_fl RX8 33 8 4 true (.object "ValveShop$FoundCard") := ⟨RX8, TX8, 13, tyX8, rfl, cw_X8, by decide, wd_285, rfl, rfl, tyX8_ok 4 (by decide), tyX8_ok, nmX8⟩
theorem wd_125 : Cond.classLink RX8 37 RX3 ∈ xv_g := xv_in (xv_t1 71 (by decide +kernel)) rfl
theorem wd_126 : Cond.instantiable RX3 4 ∈ xv_g := xv_in (xv_t1 72 (by decide +kernel)) rfl
theorem nw_X8_37 : Cond.classLink RX8 37 RX3 ∈ xv_g ∧ Cond.instantiable RX3 4 ∈ xv_g ∧ Cond.initialized RX3 ∈ xv_g := ⟨wd_125, wd_126, wd_58⟩
theorem wd_129 : Cond.code yX3_init cX3_init 1 none ∈ xv_g := xv_in (xv_t1 75 rfl) rfl
theorem wn_127 : Cond.methodLinkNest RX8 39 yX3_init "ValveShop" ∈ xv_nw := xv_inN (xv_t1 73 (by decide +kernel)) rfl
theorem wd_128 : Cond.instanceMethod yX3_init ∈ xv_g := xv_in (xv_t1 74 (by decide +kernel)) rfl
theorem ln_X8_39 : xv_lI RX8 39 yX3_init mX3_init 0 := ⟨Or.inr wn_127, wd_128, wd_58, wd_129, rfl, rfl, ⟨by decide +kernel, by decide +kernel, by decide +kernel⟩⟩
theorem wd_286 : Cond.fieldLink RX8 40 "ValveShop" "gear" "LValveShop$Gear;" ∈ xv_g := xv_in (xv_t1 232 (by decide +kernel)) rfl
theorem fl_X8_40 : xv_fl RX8 40 8 5 true (.object "ValveShop$Gear") := ⟨RX8, TX8, 13, tyX8, rfl, cw_X8, by decide, wd_286, rfl, rfl, tyX8_ok 5 (by decide), tyX8_ok, nmX8⟩
theorem wd_149 : Cond.classLink RX8 44 RX5 ∈ xv_g := xv_in (xv_t1 95 (by decide +kernel)) rfl
theorem wd_150 : Cond.instantiable RX5 7 ∈ xv_g := xv_in (xv_t1 96 (by decide +kernel)) rfl
theorem nw_X8_44 : Cond.classLink RX8 44 RX5 ∈ xv_g ∧ Cond.instantiable RX5 7 ∈ xv_g ∧ Cond.initialized RX5 ∈ xv_g := ⟨wd_149, wd_150, wd_59⟩
theorem wd_153 : Cond.code yX5_init cX5_init 1 none ∈ xv_g := xv_in (xv_t1 99 rfl) rfl
theorem wn_151 : Cond.methodLinkNest RX8 46 yX5_init "ValveShop" ∈ xv_nw := xv_inN (xv_t1 97 (by decide +kernel)) rfl
theorem wd_152 : Cond.instanceMethod yX5_init ∈ xv_g := xv_in (xv_t1 98 (by decide +kernel)) rfl
theorem ln_X8_46 : xv_lI RX8 46 yX5_init mX5_init 0 := ⟨Or.inr wn_151, wd_152, wd_59, wd_153, rfl, rfl, ⟨by decide +kernel, by decide +kernel, by decide +kernel⟩⟩
theorem wd_287 : Cond.fieldLink RX8 47 "ValveShop" "pencil" "LValveShop$Pencil;" ∈ xv_g := xv_in (xv_t1 233 (by decide +kernel)) rfl
theorem fl_X8_47 : xv_fl RX8 47 8 6 true (.object "ValveShop$Pencil") := ⟨RX8, TX8, 13, tyX8, rfl, cw_X8, by decide, wd_287, rfl, rfl, tyX8_ok 6 (by decide), tyX8_ok, nmX8⟩
theorem wd_183 : Cond.classLink RX8 51 RX4 ∈ xv_g := xv_in (xv_t1 129 (by decide +kernel)) rfl
theorem wd_184 : Cond.instantiable RX4 3 ∈ xv_g := xv_in (xv_t1 130 (by decide +kernel)) rfl
theorem nw_X8_51 : Cond.classLink RX8 51 RX4 ∈ xv_g ∧ Cond.instantiable RX4 3 ∈ xv_g ∧ Cond.initialized RX4 ∈ xv_g := ⟨wd_183, wd_184, wd_60⟩
theorem wd_187 : Cond.code yX4_init cX4_init 1 none ∈ xv_g := xv_in (xv_t1 133 rfl) rfl
theorem wn_185 : Cond.methodLinkNest RX8 53 yX4_init "ValveShop" ∈ xv_nw := xv_inN (xv_t1 131 (by decide +kernel)) rfl
theorem wd_186 : Cond.instanceMethod yX4_init ∈ xv_g := xv_in (xv_t1 132 (by decide +kernel)) rfl
theorem ln_X8_53 : xv_lI RX8 53 yX4_init mX4_init 0 := ⟨Or.inr wn_185, wd_186, wd_60, wd_187, rfl, rfl, ⟨by decide +kernel, by decide +kernel, by decide +kernel⟩⟩
theorem wd_288 : Cond.fieldLink RX8 54 "ValveShop" "naming" "LValveShop$Naming;" ∈ xv_g := xv_in (xv_t1 234 (by decide +kernel)) rfl
theorem fl_X8_54 : xv_fl RX8 54 8 7 true (.object "ValveShop$Naming") := ⟨RX8, TX8, 13, tyX8, rfl, cw_X8, by decide, wd_288, rfl, rfl, tyX8_ok 7 (by decide), tyX8_ok, nmX8⟩
theorem wd_201 : Cond.classLink RX8 58 RX6 ∈ xv_g := xv_in (xv_t1 147 (by decide +kernel)) rfl
theorem wd_202 : Cond.instantiable RX6 7 ∈ xv_g := xv_in (xv_t1 148 (by decide +kernel)) rfl
theorem nw_X8_58 : Cond.classLink RX8 58 RX6 ∈ xv_g ∧ Cond.instantiable RX6 7 ∈ xv_g ∧ Cond.initialized RX6 ∈ xv_g := ⟨wd_201, wd_202, wd_61⟩
theorem wd_205 : Cond.code yX6_init cX6_init 1 none ∈ xv_g := xv_in (xv_t1 151 rfl) rfl
theorem wn_203 : Cond.methodLinkNest RX8 60 yX6_init "ValveShop" ∈ xv_nw := xv_inN (xv_t1 149 (by decide +kernel)) rfl
theorem wd_204 : Cond.instanceMethod yX6_init ∈ xv_g := xv_in (xv_t1 150 (by decide +kernel)) rfl
theorem ln_X8_60 : xv_lI RX8 60 yX6_init mX6_init 0 := ⟨Or.inr wn_203, wd_204, wd_61, wd_205, rfl, rfl, ⟨by decide +kernel, by decide +kernel, by decide +kernel⟩⟩
theorem wd_289 : Cond.fieldLink RX8 61 "ValveShop" "planner" "LValveShop$Planner;" ∈ xv_g := xv_in (xv_t1 235 (by decide +kernel)) rfl
theorem fl_X8_61 : xv_fl RX8 61 8 8 true (.object "ValveShop$Planner") := ⟨RX8, TX8, 13, tyX8, rfl, cw_X8, by decide, wd_289, rfl, rfl, tyX8_ok 8 (by decide), tyX8_ok, nmX8⟩
theorem wd_232 : Cond.classLink RX8 65 RX1 ∈ xv_g := xv_in (xv_t1 178 (by decide +kernel)) rfl
theorem wd_233 : Cond.instantiable RX1 6 ∈ xv_g := xv_in (xv_t1 179 (by decide +kernel)) rfl
theorem wd_62 : Cond.initialized RX1 ∈ xv_g := xv_in (xv_t1 8 (by decide +kernel)) rfl
theorem nw_X8_65 : Cond.classLink RX8 65 RX1 ∈ xv_g ∧ Cond.instantiable RX1 6 ∈ xv_g ∧ Cond.initialized RX1 ∈ xv_g := ⟨wd_232, wd_233, wd_62⟩
theorem wd_236 : Cond.code yX1_init cX1_init 1 none ∈ xv_g := xv_in (xv_t1 182 rfl) rfl
theorem wn_234 : Cond.methodLinkNest RX8 67 yX1_init "ValveShop" ∈ xv_nw := xv_inN (xv_t1 180 (by decide +kernel)) rfl
theorem wd_235 : Cond.instanceMethod yX1_init ∈ xv_g := xv_in (xv_t1 181 (by decide +kernel)) rfl
theorem ln_X8_67 : xv_lI RX8 67 yX1_init mX1_init 0 := ⟨Or.inr wn_234, wd_235, wd_62, wd_236, rfl, rfl, ⟨by decide +kernel, by decide +kernel, by decide +kernel⟩⟩
theorem wd_290 : Cond.fieldLink RX8 68 "ValveShop" "hearth" "LValveShop$Fire;" ∈ xv_g := xv_in (xv_t1 236 (by decide +kernel)) rfl
theorem fl_X8_68 : xv_fl RX8 68 8 9 true (.object "ValveShop$Fire") := ⟨RX8, TX8, 13, tyX8, rfl, cw_X8, by decide, wd_290, rfl, rfl, tyX8_ok 9 (by decide), tyX8_ok, nmX8⟩
theorem wd_291 : Cond.fieldLink RX8 72 "ValveShop" "traced" "[I" ∈ xv_g := xv_in (xv_t1 237 (by decide +kernel)) rfl
theorem fl_X8_72 : xv_fl RX8 72 8 10 true (.array .int) := ⟨RX8, TX8, 13, tyX8, rfl, cw_X8, by decide, wd_291, rfl, rfl, tyX8_ok 10 (by decide), tyX8_ok, nmX8⟩
theorem wd_259 : Cond.instantiable RX7 4 ∈ xv_g := xv_in (xv_t1 205 (by decide +kernel)) rfl
theorem nw_X8_9 : Cond.classLink RX8 9 RX7 ∈ xv_g ∧ Cond.instantiable RX7 4 ∈ xv_g ∧ Cond.initialized RX7 ∈ xv_g := ⟨wd_76, wd_259, wd_63⟩
theorem wd_262 : Cond.code yX7_init cX7_init 1 none ∈ xv_g := xv_in (xv_t1 208 rfl) rfl
theorem wn_260 : Cond.methodLinkNest RX8 76 yX7_init "ValveShop" ∈ xv_nw := xv_inN (xv_t1 206 (by decide +kernel)) rfl
theorem wd_261 : Cond.instanceMethod yX7_init ∈ xv_g := xv_in (xv_t1 207 (by decide +kernel)) rfl
theorem ln_X8_76 : xv_lI RX8 76 yX7_init mX7_init 0 := ⟨Or.inr wn_260, wd_261, wd_63, wd_262, rfl, rfl, ⟨by decide +kernel, by decide +kernel, by decide +kernel⟩⟩
theorem wd_325 : Cond.methodLink RX8 77 yX8_within ∈ xv_g := xv_in (xv_t2 31 (by decide +kernel)) rfl
theorem ln_X8_77 : xv_lS RX8 77 yX8_within mX8_within 3 := ⟨Or.inl wd_325, wd_326, wd_55, wd_327, ⟨by decide +kernel, by decide +kernel, by decide +kernel⟩⟩
theorem wd_328 : Cond.constant RX8 81 (-1000001) ∈ xv_g := xv_in (xv_t2 34 (by decide +kernel)) rfl
abbrev kc_X8_81 := wd_328
theorem wd_332 : Cond.code yX8_found cX8_found 2 (some .int) ∈ xv_g := xv_in (xv_t2 38 rfl) rfl
theorem wd_329 : Cond.methodLink RX8 82 yX8_found ∈ xv_g := xv_in (xv_t2 35 (by decide +kernel)) rfl
theorem wd_331 : Cond.instanceMethod yX8_found ∈ xv_g := xv_in (xv_t2 37 (by decide +kernel)) rfl
theorem wd_0 : Cond.selects RX8 yX8_found yX8_found ∈ xv_g := xv_in (xv_t0 0 (by decide +kernel)) rfl
theorem ln_X8_82 : xv_lV RX8 82 yX8_found mX8_found 1 := ⟨wd_329, wd_331, wd_0, wd_55, wd_332, rfl, ⟨by decide +kernel, by decide +kernel, by decide +kernel⟩⟩
theorem wd_337 : Cond.code yX7_begin cX7_begin 3 none ∈ xv_g := xv_in (xv_t2 43 rfl) rfl
theorem wd_334 : Cond.methodLink RX8 86 yX7_begin ∈ xv_g := xv_in (xv_t2 40 (by decide +kernel)) rfl
theorem wd_335 : Cond.instanceMethod yX7_begin ∈ xv_g := xv_in (xv_t2 41 (by decide +kernel)) rfl
theorem wd_336 : Cond.selects RX7 yX7_begin yX7_begin ∈ xv_g := xv_in (xv_t2 42 (by decide +kernel)) rfl
theorem ln_X8_86 : xv_lV RX8 86 yX7_begin mX7_begin 2 := ⟨wd_334, wd_335, wd_336, wd_63, wd_337, rfl, ⟨by decide +kernel, by decide +kernel, by decide +kernel⟩⟩
theorem wd_344 : Cond.code yX8_answered cX8_answered 2 (some .int) ∈ xv_g := xv_in (xv_t2 50 rfl) rfl
theorem wd_341 : Cond.methodLink RX8 90 yX8_answered ∈ xv_g := xv_in (xv_t2 47 (by decide +kernel)) rfl
theorem wd_343 : Cond.instanceMethod yX8_answered ∈ xv_g := xv_in (xv_t2 49 (by decide +kernel)) rfl
theorem wd_1 : Cond.selects RX8 yX8_answered yX8_answered ∈ xv_g := xv_in (xv_t0 1 (by decide +kernel)) rfl
theorem ln_X8_90 : xv_lV RX8 90 yX8_answered mX8_answered 1 := ⟨wd_341, wd_343, wd_1, wd_55, wd_344, rfl, ⟨by decide +kernel, by decide +kernel, by decide +kernel⟩⟩
theorem wd_352 : Cond.code yX8_sheetAt cX8_sheetAt 3 (some (.object "ValveShop$Sheet")) ∈ xv_g := xv_in (xv_t2 58 rfl) rfl
theorem wd_349 : Cond.methodLink RX8 93 yX8_sheetAt ∈ xv_g := xv_in (xv_t2 55 (by decide +kernel)) rfl
theorem wd_351 : Cond.instanceMethod yX8_sheetAt ∈ xv_g := xv_in (xv_t2 57 (by decide +kernel)) rfl
theorem wd_2 : Cond.selects RX8 yX8_sheetAt yX8_sheetAt ∈ xv_g := xv_in (xv_t0 2 (by decide +kernel)) rfl
theorem ln_X8_93 : xv_lV RX8 93 yX8_sheetAt mX8_sheetAt 1 := ⟨wd_349, wd_351, wd_2, wd_55, wd_352, rfl, ⟨by decide +kernel, by decide +kernel, by decide +kernel⟩⟩
theorem wd_356 : Cond.code yX7_has cX7_has 3 (some .boolean) ∈ xv_g := xv_in (xv_t2 62 rfl) rfl
theorem wd_353 : Cond.methodLink RX8 97 yX7_has ∈ xv_g := xv_in (xv_t2 59 (by decide +kernel)) rfl
theorem wd_354 : Cond.instanceMethod yX7_has ∈ xv_g := xv_in (xv_t2 60 (by decide +kernel)) rfl
theorem wd_355 : Cond.selects RX7 yX7_has yX7_has ∈ xv_g := xv_in (xv_t2 61 (by decide +kernel)) rfl
theorem ln_X8_97 : xv_lV RX8 97 yX7_has mX7_has 2 := ⟨wd_353, wd_354, wd_355, wd_63, wd_356, rfl, ⟨by decide +kernel, by decide +kernel, by decide +kernel⟩⟩
theorem wd_360 : Cond.code yX7_write cX7_write 3 (some .int) ∈ xv_g := xv_in (xv_t2 66 rfl) rfl
theorem wd_357 : Cond.methodLink RX8 101 yX7_write ∈ xv_g := xv_in (xv_t2 63 (by decide +kernel)) rfl
theorem wd_358 : Cond.instanceMethod yX7_write ∈ xv_g := xv_in (xv_t2 64 (by decide +kernel)) rfl
theorem wd_359 : Cond.selects RX7 yX7_write yX7_write ∈ xv_g := xv_in (xv_t2 65 (by decide +kernel)) rfl
theorem ln_X8_101 : xv_lV RX8 101 yX7_write mX7_write 2 := ⟨wd_357, wd_358, wd_359, wd_63, wd_360, rfl, ⟨by decide +kernel, by decide +kernel, by decide +kernel⟩⟩
theorem wd_269 : Cond.fieldLink RX8 105 "ValveShop$Sheet" "lane" "I" ∈ xv_g := xv_in (xv_t1 215 (by decide +kernel)) rfl
theorem fl_X8_105 : xv_fl RX8 105 7 2 false .int := ⟨RX7, TX7, 4, tyX7, rfl, cw_X7, by decide, wd_269, rfl, rfl, tyX7_ok 2 (by decide), tyX7_ok, nmX7⟩
theorem wd_265 : Cond.fieldLink RX8 109 "ValveShop$Sheet" "items" "[I" ∈ xv_g := xv_in (xv_t1 211 (by decide +kernel)) rfl
theorem fl_X8_109 : xv_fl RX8 109 7 0 true (.array .int) := ⟨RX7, TX7, 4, tyX7, rfl, cw_X7, by decide, wd_265, rfl, rfl, tyX7_ok 0 (by decide), tyX7_ok, nmX7⟩
theorem wd_366 : Cond.methodLink RX8 112 arraycopyName ∈ xv_g := xv_in (xv_t2 72 (by decide +kernel)) rfl
theorem ln_X8_112 : Cond.methodLink RX8 112 arraycopyName ∈ xv_g ∧ Cond.native arraycopyName ∈ xv_g ∧ Cond.static arraycopyName ∈ xv_g ∧ Cond.initialized "java/lang/System" ∈ xv_g := ⟨wd_366, wd_368, wd_367, wd_66⟩
theorem wd_267 : Cond.fieldLink RX8 118 "ValveShop$Sheet" "there" "Z" ∈ xv_g := xv_in (xv_t1 213 (by decide +kernel)) rfl
theorem fl_X8_118 : xv_fl RX8 118 7 1 false .boolean := ⟨RX7, TX7, 4, tyX7, rfl, cw_X7, by decide, wd_267, rfl, rfl, tyX7_ok 1 (by decide), tyX7_ok, nmX7⟩
theorem wd_271 : Cond.fieldLink RX8 122 "ValveShop$Sheet" "size" "I" ∈ xv_g := xv_in (xv_t1 217 (by decide +kernel)) rfl
theorem fl_X8_122 : xv_fl RX8 122 7 3 false .int := ⟨RX7, TX7, 4, tyX7, rfl, cw_X7, by decide, wd_271, rfl, rfl, tyX7_ok 3 (by decide), tyX7_ok, nmX7⟩
theorem wd_379 : Cond.code yX8_isPlace cX8_isPlace 1 (some .boolean) ∈ xv_g := xv_in (xv_t2 85 rfl) rfl
theorem wd_377 : Cond.methodLink RX8 125 yX8_isPlace ∈ xv_g := xv_in (xv_t2 83 (by decide +kernel)) rfl
theorem wd_378 : Cond.static yX8_isPlace ∈ xv_g := xv_in (xv_t2 84 (by decide +kernel)) rfl
theorem ln_X8_125 : xv_lS RX8 125 yX8_isPlace mX8_isPlace 1 := ⟨Or.inl wd_377, wd_378, wd_55, wd_379, ⟨by decide +kernel, by decide +kernel, by decide +kernel⟩⟩
theorem wd_380 : Cond.methodLink RX8 129 yX7_read ∈ xv_g := xv_in (xv_t2 86 (by decide +kernel)) rfl
theorem ln_X8_129 : xv_lV RX8 129 yX7_read mX7_read 1 := ⟨wd_380, wd_381, wd_382, wd_63, wd_383, rfl, ⟨by decide +kernel, by decide +kernel, by decide +kernel⟩⟩
theorem wd_386 : Cond.code yX8_isNumber cX8_isNumber 2 (some .boolean) ∈ xv_g := xv_in (xv_t2 92 rfl) rfl
theorem wd_384 : Cond.methodLink RX8 132 yX8_isNumber ∈ xv_g := xv_in (xv_t2 90 (by decide +kernel)) rfl
theorem wd_385 : Cond.static yX8_isNumber ∈ xv_g := xv_in (xv_t2 91 (by decide +kernel)) rfl
theorem ln_X8_132 : xv_lS RX8 132 yX8_isNumber mX8_isNumber 2 := ⟨Or.inl wd_384, wd_385, wd_55, wd_386, ⟨by decide +kernel, by decide +kernel, by decide +kernel⟩⟩
theorem wd_394 : Cond.code yX0_build cX0_build 4 none ∈ xv_g := xv_in (xv_t2 100 rfl) rfl
theorem wd_391 : Cond.methodLink RX8 135 yX0_build ∈ xv_g := xv_in (xv_t2 97 (by decide +kernel)) rfl
theorem wd_392 : Cond.instanceMethod yX0_build ∈ xv_g := xv_in (xv_t2 98 (by decide +kernel)) rfl
theorem wd_393 : Cond.selects RX0 yX0_build yX0_build ∈ xv_g := xv_in (xv_t2 99 (by decide +kernel)) rfl
theorem ln_X8_135 : xv_lV RX8 135 yX0_build mX0_build 2 := ⟨wd_391, wd_392, wd_393, wd_56, wd_394, rfl, ⟨by decide +kernel, by decide +kernel, by decide +kernel⟩⟩
theorem wd_111 : Cond.fieldLink RX8 139 "ValveShop$FoundCard" "kept" "Z" ∈ xv_g := xv_in (xv_t1 57 (by decide +kernel)) rfl
theorem fl_X8_139 : xv_fl RX8 139 2 1 false .boolean := ⟨RX2, TX2, 4, tyX2, rfl, cw_X2, by decide, wd_111, rfl, rfl, tyX2_ok 1 (by decide), tyX2_ok, nmX2⟩
theorem wd_403 : Cond.code yX8_engineAt cX8_engineAt 3 (some (.object "ValveShop$Engine")) ∈ xv_g := xv_in (xv_t2 109 rfl) rfl
theorem wd_400 : Cond.methodLink RX8 142 yX8_engineAt ∈ xv_g := xv_in (xv_t2 106 (by decide +kernel)) rfl
theorem wd_402 : Cond.instanceMethod yX8_engineAt ∈ xv_g := xv_in (xv_t2 108 (by decide +kernel)) rfl
theorem wd_3 : Cond.selects RX8 yX8_engineAt yX8_engineAt ∈ xv_g := xv_in (xv_t0 3 (by decide +kernel)) rfl
theorem ln_X8_142 : xv_lV RX8 142 yX8_engineAt mX8_engineAt 1 := ⟨wd_400, wd_402, wd_3, wd_55, wd_403, rfl, ⟨by decide +kernel, by decide +kernel, by decide +kernel⟩⟩
theorem wd_90 : Cond.fieldLink RX8 146 "ValveShop$Engine" "numbers" "[I" ∈ xv_g := xv_in (xv_t1 36 (by decide +kernel)) rfl
theorem fl_X8_146 : xv_fl RX8 146 0 0 true (.array .int) := ⟨RX0, TX0, 3, tyX0, rfl, cw_X0, by decide, wd_90, rfl, rfl, tyX0_ok 0 (by decide), tyX0_ok, nmX0⟩
theorem wd_410 : Cond.code yX8_isSickness cX8_isSickness 1 (some .boolean) ∈ xv_g := xv_in (xv_t2 116 rfl) rfl
theorem wd_408 : Cond.methodLink RX8 149 yX8_isSickness ∈ xv_g := xv_in (xv_t2 114 (by decide +kernel)) rfl
theorem wd_409 : Cond.static yX8_isSickness ∈ xv_g := xv_in (xv_t2 115 (by decide +kernel)) rfl
theorem ln_X8_149 : xv_lS RX8 149 yX8_isSickness mX8_isSickness 1 := ⟨Or.inl wd_408, wd_409, wd_55, wd_410, ⟨by decide +kernel, by decide +kernel, by decide +kernel⟩⟩
theorem wd_93 : Cond.fieldLink RX8 152 "ValveShop$Engine" "sickness" "I" ∈ xv_g := xv_in (xv_t1 39 (by decide +kernel)) rfl
theorem fl_X8_152 : xv_fl RX8 152 0 1 false .int := ⟨RX0, TX0, 3, tyX0, rfl, cw_X0, by decide, wd_93, rfl, rfl, tyX0_ok 1 (by decide), tyX0_ok, nmX0⟩
theorem wd_415 : Cond.methodLink RX8 155 yX0_resemble ∈ xv_g := xv_in (xv_t2 121 (by decide +kernel)) rfl
theorem ln_X8_155 : xv_lV RX8 155 yX0_resemble mX0_resemble 1 := ⟨wd_415, wd_416, wd_417, wd_56, wd_418, rfl, ⟨by decide +kernel, by decide +kernel, by decide +kernel⟩⟩
theorem wd_95 : Cond.fieldLink RX8 159 "ValveShop$Engine" "there" "Z" ∈ xv_g := xv_in (xv_t1 41 (by decide +kernel)) rfl
theorem fl_X8_159 : xv_fl RX8 159 0 2 false .boolean := ⟨RX0, TX0, 3, tyX0, rfl, cw_X0, by decide, wd_95, rfl, rfl, tyX0_ok 2 (by decide), tyX0_ok, nmX0⟩
theorem wd_434 : Cond.code yX8_isTurned cX8_isTurned 1 (some .boolean) ∈ xv_g := xv_in (xv_t2 140 rfl) rfl
theorem wd_432 : Cond.methodLink RX8 160 yX8_isTurned ∈ xv_g := xv_in (xv_t2 138 (by decide +kernel)) rfl
theorem wd_433 : Cond.static yX8_isTurned ∈ xv_g := xv_in (xv_t2 139 (by decide +kernel)) rfl
theorem ln_X8_160 : xv_lS RX8 160 yX8_isTurned mX8_isTurned 1 := ⟨Or.inl wd_432, wd_433, wd_55, wd_434, ⟨by decide +kernel, by decide +kernel, by decide +kernel⟩⟩
theorem wd_435 : Cond.methodLink RX8 163 yX0_stroke ∈ xv_g := xv_in (xv_t2 141 (by decide +kernel)) rfl
theorem ln_X8_163 : xv_lV RX8 163 yX0_stroke mX0_stroke 1 := ⟨wd_435, wd_436, wd_437, wd_56, wd_438, rfl, ⟨by decide +kernel, by decide +kernel, by decide +kernel⟩⟩
theorem wd_451 : Cond.code yX8_isNotch cX8_isNotch 1 (some .boolean) ∈ xv_g := xv_in (xv_t2 157 rfl) rfl
theorem wd_449 : Cond.methodLink RX8 166 yX8_isNotch ∈ xv_g := xv_in (xv_t2 155 (by decide +kernel)) rfl
theorem wd_450 : Cond.static yX8_isNotch ∈ xv_g := xv_in (xv_t2 156 (by decide +kernel)) rfl
theorem ln_X8_166 : xv_lS RX8 166 yX8_isNotch mX8_isNotch 1 := ⟨Or.inl wd_449, wd_450, wd_55, wd_451, ⟨by decide +kernel, by decide +kernel, by decide +kernel⟩⟩
theorem wd_452 : Cond.methodLink RX8 169 yX0_travel ∈ xv_g := xv_in (xv_t2 158 (by decide +kernel)) rfl
theorem ln_X8_169 : xv_lV RX8 169 yX0_travel mX0_travel 2 := ⟨wd_452, wd_453, wd_454, wd_56, wd_455, rfl, ⟨by decide +kernel, by decide +kernel, by decide +kernel⟩⟩
theorem wd_477 : Cond.code yX8_isEnd cX8_isEnd 1 (some .boolean) ∈ xv_g := xv_in (xv_t2 183 rfl) rfl
theorem wd_475 : Cond.methodLink RX8 172 yX8_isEnd ∈ xv_g := xv_in (xv_t2 181 (by decide +kernel)) rfl
theorem wd_476 : Cond.static yX8_isEnd ∈ xv_g := xv_in (xv_t2 182 (by decide +kernel)) rfl
theorem ln_X8_172 : xv_lS RX8 172 yX8_isEnd mX8_isEnd 1 := ⟨Or.inl wd_475, wd_476, wd_55, wd_477, ⟨by decide +kernel, by decide +kernel, by decide +kernel⟩⟩
theorem wd_478 : Cond.methodLink RX8 175 yX0_opening ∈ xv_g := xv_in (xv_t2 184 (by decide +kernel)) rfl
theorem ln_X8_175 : xv_lV RX8 175 yX0_opening mX0_opening 3 := ⟨wd_478, wd_479, wd_480, wd_56, wd_481, rfl, ⟨by decide +kernel, by decide +kernel, by decide +kernel⟩⟩
theorem wd_495 : Cond.code yX3_firstEvent cX3_firstEvent 5 (some .int) ∈ xv_g := xv_in (xv_t2 201 rfl) rfl
theorem wd_492 : Cond.methodLink RX8 179 yX3_firstEvent ∈ xv_g := xv_in (xv_t2 198 (by decide +kernel)) rfl
theorem wd_493 : Cond.instanceMethod yX3_firstEvent ∈ xv_g := xv_in (xv_t2 199 (by decide +kernel)) rfl
theorem wd_494 : Cond.selects RX3 yX3_firstEvent yX3_firstEvent ∈ xv_g := xv_in (xv_t2 200 (by decide +kernel)) rfl
theorem ln_X8_179 : xv_lV RX8 179 yX3_firstEvent mX3_firstEvent 4 := ⟨wd_492, wd_493, wd_494, wd_58, wd_495, rfl, ⟨by decide +kernel, by decide +kernel, by decide +kernel⟩⟩
theorem wd_515 : Cond.code yX3_unlike cX3_unlike 2 (some .int) ∈ xv_g := xv_in (xv_t2 221 rfl) rfl
theorem wd_512 : Cond.methodLink RX8 183 yX3_unlike ∈ xv_g := xv_in (xv_t2 218 (by decide +kernel)) rfl
theorem wd_513 : Cond.instanceMethod yX3_unlike ∈ xv_g := xv_in (xv_t2 219 (by decide +kernel)) rfl
theorem wd_514 : Cond.selects RX3 yX3_unlike yX3_unlike ∈ xv_g := xv_in (xv_t2 220 (by decide +kernel)) rfl
theorem ln_X8_183 : xv_lV RX8 183 yX3_unlike mX3_unlike 1 := ⟨wd_512, wd_513, wd_514, wd_58, wd_515, rfl, ⟨by decide +kernel, by decide +kernel, by decide +kernel⟩⟩
theorem wd_535 : Cond.code yX0_lead cX0_lead 1 (some .int) ∈ xv_g := xv_in (xv_t3 1 rfl) rfl
theorem wd_532 : Cond.methodLink RX8 187 yX0_lead ∈ xv_g := xv_in (xv_t2 238 (by decide +kernel)) rfl
theorem wd_533 : Cond.instanceMethod yX0_lead ∈ xv_g := xv_in (xv_t2 239 (by decide +kernel)) rfl
theorem wd_534 : Cond.selects RX0 yX0_lead yX0_lead ∈ xv_g := xv_in (xv_t3 0 (by decide +kernel)) rfl
theorem ln_X8_187 : xv_lV RX8 187 yX0_lead mX0_lead 0 := ⟨wd_532, wd_533, wd_534, wd_56, wd_535, rfl, ⟨by decide +kernel, by decide +kernel, by decide +kernel⟩⟩
theorem wd_545 : Cond.code yX3_seekSetting cX3_seekSetting 6 none ∈ xv_g := xv_in (xv_t3 11 rfl) rfl
theorem wd_542 : Cond.methodLink RX8 191 yX3_seekSetting ∈ xv_g := xv_in (xv_t3 8 (by decide +kernel)) rfl
theorem wd_543 : Cond.instanceMethod yX3_seekSetting ∈ xv_g := xv_in (xv_t3 9 (by decide +kernel)) rfl
theorem wd_544 : Cond.selects RX3 yX3_seekSetting yX3_seekSetting ∈ xv_g := xv_in (xv_t3 10 (by decide +kernel)) rfl
theorem ln_X8_191 : xv_lV RX8 191 yX3_seekSetting mX3_seekSetting 2 := ⟨wd_542, wd_543, wd_544, wd_58, wd_545, rfl, ⟨by decide +kernel, by decide +kernel, by decide +kernel⟩⟩
theorem wd_135 : Cond.fieldLink RX8 195 "ValveShop$Gear" "bestAdvance" "I" ∈ xv_g := xv_in (xv_t1 81 (by decide +kernel)) rfl
theorem fl_X8_195 : xv_fl RX8 195 3 1 false .int := ⟨RX3, TX3, 4, tyX3, rfl, cw_X3, by decide, wd_135, rfl, rfl, tyX3_ok 1 (by decide), tyX3_ok, nmX3⟩
theorem wd_137 : Cond.fieldLink RX8 198 "ValveShop$Gear" "bestHang" "I" ∈ xv_g := xv_in (xv_t1 83 (by decide +kernel)) rfl
theorem fl_X8_198 : xv_fl RX8 198 3 2 false .int := ⟨RX3, TX3, 4, tyX3, rfl, cw_X3, by decide, wd_137, rfl, rfl, tyX3_ok 2 (by decide), tyX3_ok, nmX3⟩
theorem wd_139 : Cond.fieldLink RX8 201 "ValveShop$Gear" "leastUnlike" "I" ∈ xv_g := xv_in (xv_t1 85 (by decide +kernel)) rfl
theorem fl_X8_201 : xv_fl RX8 201 3 3 false .int := ⟨RX3, TX3, 4, tyX3, rfl, cw_X3, by decide, wd_139, rfl, rfl, tyX3_ok 3 (by decide), tyX3_ok, nmX3⟩
theorem wd_559 : Cond.code yX8_isBoiler cX8_isBoiler 1 (some .boolean) ∈ xv_g := xv_in (xv_t3 25 rfl) rfl
theorem wd_557 : Cond.methodLink RX8 204 yX8_isBoiler ∈ xv_g := xv_in (xv_t3 23 (by decide +kernel)) rfl
theorem wd_558 : Cond.static yX8_isBoiler ∈ xv_g := xv_in (xv_t3 24 (by decide +kernel)) rfl
theorem ln_X8_204 : xv_lS RX8 204 yX8_isBoiler mX8_isBoiler 1 := ⟨Or.inl wd_557, wd_558, wd_55, wd_559, ⟨by decide +kernel, by decide +kernel, by decide +kernel⟩⟩
theorem wd_562 : Cond.code yX8_isRegulator cX8_isRegulator 1 (some .boolean) ∈ xv_g := xv_in (xv_t3 28 rfl) rfl
theorem wd_560 : Cond.methodLink RX8 207 yX8_isRegulator ∈ xv_g := xv_in (xv_t3 26 (by decide +kernel)) rfl
theorem wd_561 : Cond.static yX8_isRegulator ∈ xv_g := xv_in (xv_t3 27 (by decide +kernel)) rfl
theorem ln_X8_207 : xv_lS RX8 207 yX8_isRegulator mX8_isRegulator 1 := ⟨Or.inl wd_560, wd_561, wd_55, wd_562, ⟨by decide +kernel, by decide +kernel, by decide +kernel⟩⟩
theorem wd_563 : Cond.methodLink RX8 210 yX5_draw ∈ xv_g := xv_in (xv_t3 29 (by decide +kernel)) rfl
theorem ln_X8_210 : xv_lV RX8 210 yX5_draw mX5_draw 5 := ⟨wd_563, wd_564, wd_565, wd_59, wd_566, rfl, ⟨by decide +kernel, by decide +kernel, by decide +kernel⟩⟩
theorem wd_160 : Cond.fieldLink RX8 214 "ValveShop$Pencil" "pressures" "[I" ∈ xv_g := xv_in (xv_t1 106 (by decide +kernel)) rfl
theorem fl_X8_214 : xv_fl RX8 214 5 3 true (.array .int) := ⟨RX5, TX5, 7, tyX5, rfl, cw_X5, by decide, wd_160, rfl, rfl, tyX5_ok 3 (by decide), tyX5_ok, nmX5⟩
theorem wd_597 : Cond.code yX5_mean cX5_mean 3 (some .int) ∈ xv_g := xv_in (xv_t3 63 rfl) rfl
theorem wd_594 : Cond.methodLink RX8 217 yX5_mean ∈ xv_g := xv_in (xv_t3 60 (by decide +kernel)) rfl
theorem wd_595 : Cond.instanceMethod yX5_mean ∈ xv_g := xv_in (xv_t3 61 (by decide +kernel)) rfl
theorem wd_596 : Cond.selects RX5 yX5_mean yX5_mean ∈ xv_g := xv_in (xv_t3 62 (by decide +kernel)) rfl
theorem ln_X8_217 : xv_lV RX8 217 yX5_mean mX5_mean 0 := ⟨wd_594, wd_595, wd_596, wd_59, wd_597, rfl, ⟨by decide +kernel, by decide +kernel, by decide +kernel⟩⟩
theorem wd_601 : Cond.code yX5_peak cX5_peak 3 (some .int) ∈ xv_g := xv_in (xv_t3 67 rfl) rfl
theorem wd_598 : Cond.methodLink RX8 220 yX5_peak ∈ xv_g := xv_in (xv_t3 64 (by decide +kernel)) rfl
theorem wd_599 : Cond.instanceMethod yX5_peak ∈ xv_g := xv_in (xv_t3 65 (by decide +kernel)) rfl
theorem wd_600 : Cond.selects RX5 yX5_peak yX5_peak ∈ xv_g := xv_in (xv_t3 66 (by decide +kernel)) rfl
theorem ln_X8_220 : xv_lV RX8 220 yX5_peak mX5_peak 0 := ⟨wd_598, wd_599, wd_600, wd_59, wd_601, rfl, ⟨by decide +kernel, by decide +kernel, by decide +kernel⟩⟩
theorem wd_606 : Cond.code yX5_loop cX5_loop 3 (some .int) ∈ xv_g := xv_in (xv_t3 72 rfl) rfl
theorem wd_603 : Cond.methodLink RX8 223 yX5_loop ∈ xv_g := xv_in (xv_t3 69 (by decide +kernel)) rfl
theorem wd_604 : Cond.instanceMethod yX5_loop ∈ xv_g := xv_in (xv_t3 70 (by decide +kernel)) rfl
theorem wd_605 : Cond.selects RX5 yX5_loop yX5_loop ∈ xv_g := xv_in (xv_t3 71 (by decide +kernel)) rfl
theorem ln_X8_223 : xv_lV RX8 223 yX5_loop mX5_loop 0 := ⟨wd_603, wd_604, wd_605, wd_59, wd_606, rfl, ⟨by decide +kernel, by decide +kernel, by decide +kernel⟩⟩
theorem wd_611 : Cond.methodLink RX8 226 yX5_measure ∈ xv_g := xv_in (xv_t3 77 (by decide +kernel)) rfl
theorem ln_X8_226 : xv_lV RX8 226 yX5_measure mX5_measure 4 := ⟨wd_611, wd_612, wd_613, wd_59, wd_614, rfl, ⟨by decide +kernel, by decide +kernel, by decide +kernel⟩⟩
theorem wd_164 : Cond.fieldLink RX8 230 "ValveShop$Pencil" "work" "I" ∈ xv_g := xv_in (xv_t1 110 (by decide +kernel)) rfl
theorem fl_X8_230 : xv_fl RX8 230 5 5 false .int := ⟨RX5, TX5, 7, tyX5, rfl, cw_X5, by decide, wd_164, rfl, rfl, tyX5_ok 5 (by decide), tyX5_ok, nmX5⟩
theorem wd_167 : Cond.fieldLink RX8 233 "ValveShop$Pencil" "drink" "I" ∈ xv_g := xv_in (xv_t1 113 (by decide +kernel)) rfl
theorem fl_X8_233 : xv_fl RX8 233 5 6 false .int := ⟨RX5, TX5, 7, tyX5, rfl, cw_X5, by decide, wd_167, rfl, rfl, tyX5_ok 6 (by decide), tyX5_ok, nmX5⟩
theorem wd_629 : Cond.code yX7_holdsWithin cX7_holdsWithin 6 (some .boolean) ∈ xv_g := xv_in (xv_t3 95 rfl) rfl
theorem wd_626 : Cond.methodLink RX8 236 yX7_holdsWithin ∈ xv_g := xv_in (xv_t3 92 (by decide +kernel)) rfl
theorem wd_627 : Cond.instanceMethod yX7_holdsWithin ∈ xv_g := xv_in (xv_t3 93 (by decide +kernel)) rfl
theorem wd_628 : Cond.selects RX7 yX7_holdsWithin yX7_holdsWithin ∈ xv_g := xv_in (xv_t3 94 (by decide +kernel)) rfl
theorem ln_X8_236 : xv_lV RX8 236 yX7_holdsWithin mX7_holdsWithin 4 := ⟨wd_626, wd_627, wd_628, wd_63, wd_629, rfl, ⟨by decide +kernel, by decide +kernel, by decide +kernel⟩⟩
theorem wd_634 : Cond.code yX2_take cX2_take 4 none ∈ xv_g := xv_in (xv_t3 100 rfl) rfl
theorem wd_631 : Cond.methodLink RX8 240 yX2_take ∈ xv_g := xv_in (xv_t3 97 (by decide +kernel)) rfl
theorem wd_632 : Cond.instanceMethod yX2_take ∈ xv_g := xv_in (xv_t3 98 (by decide +kernel)) rfl
theorem wd_633 : Cond.selects RX2 yX2_take yX2_take ∈ xv_g := xv_in (xv_t3 99 (by decide +kernel)) rfl
theorem ln_X8_240 : xv_lV RX8 240 yX2_take mX2_take 2 := ⟨wd_631, wd_632, wd_633, wd_57, wd_634, rfl, ⟨by decide +kernel, by decide +kernel, by decide +kernel⟩⟩
theorem wd_113 : Cond.fieldLink RX8 243 "ValveShop$FoundCard" "notch" "I" ∈ xv_g := xv_in (xv_t1 59 (by decide +kernel)) rfl
theorem fl_X8_243 : xv_fl RX8 243 2 2 false .int := ⟨RX2, TX2, 4, tyX2, rfl, cw_X2, by decide, wd_113, rfl, rfl, tyX2_ok 2 (by decide), tyX2_ok, nmX2⟩
theorem wd_115 : Cond.fieldLink RX8 246 "ValveShop$FoundCard" "boiler" "I" ∈ xv_g := xv_in (xv_t1 61 (by decide +kernel)) rfl
theorem fl_X8_246 : xv_fl RX8 246 2 3 false .int := ⟨RX2, TX2, 4, tyX2, rfl, cw_X2, by decide, wd_115, rfl, rfl, tyX2_ok 3 (by decide), tyX2_ok, nmX2⟩
theorem wd_639 : Cond.code yX2_readable cX2_readable 3 (some .int) ∈ xv_g := xv_in (xv_t3 105 rfl) rfl
theorem wd_636 : Cond.methodLink RX8 249 yX2_readable ∈ xv_g := xv_in (xv_t3 102 (by decide +kernel)) rfl
theorem wd_637 : Cond.instanceMethod yX2_readable ∈ xv_g := xv_in (xv_t3 103 (by decide +kernel)) rfl
theorem wd_638 : Cond.selects RX2 yX2_readable yX2_readable ∈ xv_g := xv_in (xv_t3 104 (by decide +kernel)) rfl
theorem ln_X8_249 : xv_lV RX8 249 yX2_readable mX2_readable 0 := ⟨wd_636, wd_637, wd_638, wd_57, wd_639, rfl, ⟨by decide +kernel, by decide +kernel, by decide +kernel⟩⟩
theorem wd_644 : Cond.constant RX8 252 (-1000002) ∈ xv_g := xv_in (xv_t3 110 (by decide +kernel)) rfl
abbrev kc_X8_252 := wd_644
theorem wd_645 : Cond.methodLink RX8 253 yX4_misfitBy ∈ xv_g := xv_in (xv_t3 111 (by decide +kernel)) rfl
theorem ln_X8_253 : xv_lV RX8 253 yX4_misfitBy mX4_misfitBy 4 := ⟨wd_645, wd_646, wd_647, wd_60, wd_648, rfl, ⟨by decide +kernel, by decide +kernel, by decide +kernel⟩⟩
theorem wd_661 : Cond.constant RX8 257 (100000) ∈ xv_g := xv_in (xv_t3 127 (by decide +kernel)) rfl
abbrev kc_X8_257 := wd_661
theorem wd_665 : Cond.code yX4_seek cX4_seek 5 none ∈ xv_g := xv_in (xv_t3 131 rfl) rfl
theorem wd_662 : Cond.methodLink RX8 258 yX4_seek ∈ xv_g := xv_in (xv_t3 128 (by decide +kernel)) rfl
theorem wd_663 : Cond.instanceMethod yX4_seek ∈ xv_g := xv_in (xv_t3 129 (by decide +kernel)) rfl
theorem wd_664 : Cond.selects RX4 yX4_seek yX4_seek ∈ xv_g := xv_in (xv_t3 130 (by decide +kernel)) rfl
theorem ln_X8_258 : xv_lV RX8 258 yX4_seek mX4_seek 3 := ⟨wd_662, wd_663, wd_664, wd_60, wd_665, rfl, ⟨by decide +kernel, by decide +kernel, by decide +kernel⟩⟩
theorem wd_191 : Cond.fieldLink RX8 262 "ValveShop$Naming" "best" "I" ∈ xv_g := xv_in (xv_t1 137 (by decide +kernel)) rfl
theorem fl_X8_262 : xv_fl RX8 262 4 1 false .int := ⟨RX4, TX4, 3, tyX4, rfl, cw_X4, by decide, wd_191, rfl, rfl, tyX4_ok 1 (by decide), tyX4_ok, nmX4⟩
theorem wd_193 : Cond.fieldLink RX8 265 "ValveShop$Naming" "least" "I" ∈ xv_g := xv_in (xv_t1 139 (by decide +kernel)) rfl
theorem fl_X8_265 : xv_fl RX8 265 4 2 false .int := ⟨RX4, TX4, 3, tyX4, rfl, cw_X4, by decide, wd_193, rfl, rfl, tyX4_ok 2 (by decide), tyX4_ok, nmX4⟩
theorem wd_670 : Cond.code yX4_doubt cX4_doubt 4 (some .int) ∈ xv_g := xv_in (xv_t3 136 rfl) rfl
theorem wd_667 : Cond.methodLink RX8 268 yX4_doubt ∈ xv_g := xv_in (xv_t3 133 (by decide +kernel)) rfl
theorem wd_668 : Cond.instanceMethod yX4_doubt ∈ xv_g := xv_in (xv_t3 134 (by decide +kernel)) rfl
theorem wd_669 : Cond.selects RX4 yX4_doubt yX4_doubt ∈ xv_g := xv_in (xv_t3 135 (by decide +kernel)) rfl
theorem ln_X8_268 : xv_lV RX8 268 yX4_doubt mX4_doubt 1 := ⟨wd_667, wd_668, wd_669, wd_60, wd_670, rfl, ⟨by decide +kernel, by decide +kernel, by decide +kernel⟩⟩
theorem wd_678 : Cond.code yX8_nearest cX8_nearest 10 (some .int) ∈ xv_g := xv_in (xv_t3 144 rfl) rfl
theorem wd_675 : Cond.methodLink RX8 271 yX8_nearest ∈ xv_g := xv_in (xv_t3 141 (by decide +kernel)) rfl
theorem wd_677 : Cond.instanceMethod yX8_nearest ∈ xv_g := xv_in (xv_t3 143 (by decide +kernel)) rfl
theorem wd_10 : Cond.selects RX8 yX8_nearest yX8_nearest ∈ xv_g := xv_in (xv_t0 10 (by decide +kernel)) rfl
theorem ln_X8_271 : xv_lV RX8 271 yX8_nearest mX8_nearest 2 := ⟨wd_675, wd_677, wd_10, wd_55, wd_678, rfl, ⟨by decide +kernel, by decide +kernel, by decide +kernel⟩⟩
theorem wd_688 : Cond.code yX8_farthestApart cX8_farthestApart 8 (some .int) ∈ xv_g := xv_in (xv_t3 154 rfl) rfl
theorem wd_685 : Cond.methodLink RX8 274 yX8_farthestApart ∈ xv_g := xv_in (xv_t3 151 (by decide +kernel)) rfl
theorem wd_687 : Cond.instanceMethod yX8_farthestApart ∈ xv_g := xv_in (xv_t3 153 (by decide +kernel)) rfl
theorem wd_11 : Cond.selects RX8 yX8_farthestApart yX8_farthestApart ∈ xv_g := xv_in (xv_t0 11 (by decide +kernel)) rfl
theorem ln_X8_274 : xv_lV RX8 274 yX8_farthestApart mX8_farthestApart 3 := ⟨wd_685, wd_687, wd_11, wd_55, wd_688, rfl, ⟨by decide +kernel, by decide +kernel, by decide +kernel⟩⟩
theorem wd_696 : Cond.code yX6_takesRoad cX6_takesRoad 6 (some .boolean) ∈ xv_g := xv_in (xv_t3 162 rfl) rfl
theorem wd_693 : Cond.methodLink RX8 277 yX6_takesRoad ∈ xv_g := xv_in (xv_t3 159 (by decide +kernel)) rfl
theorem wd_694 : Cond.instanceMethod yX6_takesRoad ∈ xv_g := xv_in (xv_t3 160 (by decide +kernel)) rfl
theorem wd_695 : Cond.selects RX6 yX6_takesRoad yX6_takesRoad ∈ xv_g := xv_in (xv_t3 161 (by decide +kernel)) rfl
theorem ln_X8_277 : xv_lV RX8 277 yX6_takesRoad mX6_takesRoad 3 := ⟨wd_693, wd_694, wd_695, wd_61, wd_696, rfl, ⟨by decide +kernel, by decide +kernel, by decide +kernel⟩⟩
theorem wd_704 : Cond.code yX6_tryOut cX6_tryOut 5 none ∈ xv_g := xv_in (xv_t3 170 rfl) rfl
theorem wd_701 : Cond.methodLink RX8 281 yX6_tryOut ∈ xv_g := xv_in (xv_t3 167 (by decide +kernel)) rfl
theorem wd_702 : Cond.instanceMethod yX6_tryOut ∈ xv_g := xv_in (xv_t3 168 (by decide +kernel)) rfl
theorem wd_703 : Cond.selects RX6 yX6_tryOut yX6_tryOut ∈ xv_g := xv_in (xv_t3 169 (by decide +kernel)) rfl
theorem ln_X8_281 : xv_lV RX8 281 yX6_tryOut mX6_tryOut 3 := ⟨wd_701, wd_702, wd_703, wd_61, wd_704, rfl, ⟨by decide +kernel, by decide +kernel, by decide +kernel⟩⟩
theorem wd_715 : Cond.code yX6_choose cX6_choose 5 (some .int) ∈ xv_g := xv_in (xv_t3 181 rfl) rfl
theorem wd_712 : Cond.methodLink RX8 285 yX6_choose ∈ xv_g := xv_in (xv_t3 178 (by decide +kernel)) rfl
theorem wd_713 : Cond.instanceMethod yX6_choose ∈ xv_g := xv_in (xv_t3 179 (by decide +kernel)) rfl
theorem wd_714 : Cond.selects RX6 yX6_choose yX6_choose ∈ xv_g := xv_in (xv_t3 180 (by decide +kernel)) rfl
theorem ln_X8_285 : xv_lV RX8 285 yX6_choose mX6_choose 1 := ⟨wd_712, wd_713, wd_714, wd_61, wd_715, rfl, ⟨by decide +kernel, by decide +kernel, by decide +kernel⟩⟩
theorem wd_216 : Cond.fieldLink RX8 288 "ValveShop$Planner" "keptStretches" "I" ∈ xv_g := xv_in (xv_t1 162 (by decide +kernel)) rfl
theorem fl_X8_288 : xv_fl RX8 288 6 6 false .int := ⟨RX6, TX6, 7, tyX6, rfl, cw_X6, by decide, wd_216, rfl, rfl, tyX6_ok 6 (by decide), tyX6_ok, nmX6⟩
theorem wd_213 : Cond.fieldLink RX8 291 "ValveShop$Planner" "kept" "[I" ∈ xv_g := xv_in (xv_t1 159 (by decide +kernel)) rfl
theorem fl_X8_291 : xv_fl RX8 291 6 4 true (.array .int) := ⟨RX6, TX6, 7, tyX6, rfl, cw_X6, by decide, wd_213, rfl, rfl, tyX6_ok 4 (by decide), tyX6_ok, nmX6⟩
theorem wd_679 : Cond.constant RX8 293 (-1000000) ∈ xv_g := xv_in (xv_t3 145 (by decide +kernel)) rfl
abbrev kc_X8_293 := wd_679
theorem wd_241 : Cond.fieldLink RX8 294 "ValveShop$Fire" "heap" "I" ∈ xv_g := xv_in (xv_t1 187 (by decide +kernel)) rfl
theorem fl_X8_294 : xv_fl RX8 294 1 1 false .int := ⟨RX1, TX1, 6, tyX1, rfl, cw_X1, by decide, wd_241, rfl, rfl, tyX1_ok 1 (by decide), tyX1_ok, nmX1⟩
theorem wd_743 : Cond.constant RX8 297 (-1000003) ∈ xv_g := xv_in (xv_t3 209 (by decide +kernel)) rfl
abbrev kc_X8_297 := wd_743
theorem wd_751 : Cond.code yX1_burn cX1_burn 2 none ∈ xv_g := xv_in (xv_t3 217 rfl) rfl
theorem wd_748 : Cond.methodLink RX8 298 yX1_burn ∈ xv_g := xv_in (xv_t3 214 (by decide +kernel)) rfl
theorem wd_749 : Cond.instanceMethod yX1_burn ∈ xv_g := xv_in (xv_t3 215 (by decide +kernel)) rfl
theorem wd_750 : Cond.selects RX1 yX1_burn yX1_burn ∈ xv_g := xv_in (xv_t3 216 (by decide +kernel)) rfl
theorem ln_X8_298 : xv_lV RX8 298 yX1_burn mX1_burn 0 := ⟨wd_748, wd_749, wd_750, wd_62, wd_751, rfl, ⟨by decide +kernel, by decide +kernel, by decide +kernel⟩⟩
theorem wd_239 : Cond.fieldLink RX8 301 "ValveShop$Fire" "gauge" "I" ∈ xv_g := xv_in (xv_t1 185 (by decide +kernel)) rfl
theorem fl_X8_301 : xv_fl RX8 301 1 0 false .int := ⟨RX1, TX1, 6, tyX1, rfl, cw_X1, by decide, wd_239, rfl, rfl, tyX1_ok 0 (by decide), tyX1_ok, nmX1⟩
theorem wd_753 : Cond.methodLink RX8 304 Lib.Math.min.name ∈ xv_g := xv_in (xv_t3 219 (by decide +kernel)) rfl
theorem ln_X8_304 : Cond.methodLink RX8 304 Lib.Math.min.name ∈ xv_g ∧ Cond.static Lib.Math.min.name ∈ xv_g ∧ Cond.initialized "java/lang/Math" ∈ xv_g ∧ Cond.code Lib.Math.min.name Lib.Math.min.code 2 (some .int) ∈ xv_g := ⟨wd_753, wd_483, wd_67, wd_484⟩
theorem wd_757 : Cond.code yX1_give cX1_give 3 none ∈ xv_g := xv_in (xv_t3 223 rfl) rfl
theorem wd_754 : Cond.methodLink RX8 309 yX1_give ∈ xv_g := xv_in (xv_t3 220 (by decide +kernel)) rfl
theorem wd_755 : Cond.instanceMethod yX1_give ∈ xv_g := xv_in (xv_t3 221 (by decide +kernel)) rfl
theorem wd_756 : Cond.selects RX1 yX1_give yX1_give ∈ xv_g := xv_in (xv_t3 222 (by decide +kernel)) rfl
theorem ln_X8_309 : xv_lV RX8 309 yX1_give mX1_give 1 := ⟨wd_754, wd_755, wd_756, wd_62, wd_757, rfl, ⟨by decide +kernel, by decide +kernel, by decide +kernel⟩⟩
theorem wd_761 : Cond.code yX1_blow cX1_blow 2 none ∈ xv_g := xv_in (xv_t3 227 rfl) rfl
theorem wd_758 : Cond.methodLink RX8 313 yX1_blow ∈ xv_g := xv_in (xv_t3 224 (by decide +kernel)) rfl
theorem wd_759 : Cond.instanceMethod yX1_blow ∈ xv_g := xv_in (xv_t3 225 (by decide +kernel)) rfl
theorem wd_760 : Cond.selects RX1 yX1_blow yX1_blow ∈ xv_g := xv_in (xv_t3 226 (by decide +kernel)) rfl
theorem ln_X8_313 : xv_lV RX8 313 yX1_blow mX1_blow 0 := ⟨wd_758, wd_759, wd_760, wd_62, wd_761, rfl, ⟨by decide +kernel, by decide +kernel, by decide +kernel⟩⟩
theorem wd_770 : Cond.code yX1_told cX1_told 2 (some .int) ∈ xv_g := xv_in (xv_t3 236 rfl) rfl
theorem wd_767 : Cond.methodLink RX8 316 yX1_told ∈ xv_g := xv_in (xv_t3 233 (by decide +kernel)) rfl
theorem wd_768 : Cond.instanceMethod yX1_told ∈ xv_g := xv_in (xv_t3 234 (by decide +kernel)) rfl
theorem wd_769 : Cond.selects RX1 yX1_told yX1_told ∈ xv_g := xv_in (xv_t3 235 (by decide +kernel)) rfl
theorem ln_X8_316 : xv_lV RX8 316 yX1_told mX1_told 1 := ⟨wd_767, wd_768, wd_769, wd_62, wd_770, rfl, ⟨by decide +kernel, by decide +kernel, by decide +kernel⟩⟩
theorem wd_778 : Cond.code yX8_toldKind cX8_toldKind 2 (some .int) ∈ xv_g := xv_in (xv_t4 4 rfl) rfl
theorem wd_775 : Cond.methodLink RX8 319 yX8_toldKind ∈ xv_g := xv_in (xv_t4 1 (by decide +kernel)) rfl
theorem wd_777 : Cond.instanceMethod yX8_toldKind ∈ xv_g := xv_in (xv_t4 3 (by decide +kernel)) rfl
theorem wd_16 : Cond.selects RX8 yX8_toldKind yX8_toldKind ∈ xv_g := xv_in (xv_t0 16 (by decide +kernel)) rfl
theorem ln_X8_319 : xv_lV RX8 319 yX8_toldKind mX8_toldKind 1 := ⟨wd_775, wd_777, wd_16, wd_55, wd_778, rfl, ⟨by decide +kernel, by decide +kernel, by decide +kernel⟩⟩
theorem wd_785 : Cond.code yX8_belongs cX8_belongs 2 (some .boolean) ∈ xv_g := xv_in (xv_t4 11 rfl) rfl
theorem wd_783 : Cond.methodLink RX8 322 yX8_belongs ∈ xv_g := xv_in (xv_t4 9 (by decide +kernel)) rfl
theorem wd_784 : Cond.static yX8_belongs ∈ xv_g := xv_in (xv_t4 10 (by decide +kernel)) rfl
theorem ln_X8_322 : xv_lS RX8 322 yX8_belongs mX8_belongs 2 := ⟨Or.inl wd_783, wd_784, wd_55, wd_785, ⟨by decide +kernel, by decide +kernel, by decide +kernel⟩⟩
theorem wd_292 : Cond.fieldLink RX8 325 "ValveShop" "tracedBodies" "I" ∈ xv_g := xv_in (xv_t1 238 (by decide +kernel)) rfl
theorem fl_X8_325 : xv_fl RX8 325 8 11 false .int := ⟨RX8, TX8, 13, tyX8, rfl, cw_X8, by decide, wd_292, rfl, rfl, tyX8_ok 11 (by decide), tyX8_ok, nmX8⟩
theorem wd_797 : Cond.code yX8_askWorth cX8_askWorth 3 (some .int) ∈ xv_g := xv_in (xv_t4 23 rfl) rfl
theorem wd_794 : Cond.methodLink RX8 328 yX8_askWorth ∈ xv_g := xv_in (xv_t4 20 (by decide +kernel)) rfl
theorem wd_796 : Cond.instanceMethod yX8_askWorth ∈ xv_g := xv_in (xv_t4 22 (by decide +kernel)) rfl
theorem wd_17 : Cond.selects RX8 yX8_askWorth yX8_askWorth ∈ xv_g := xv_in (xv_t0 17 (by decide +kernel)) rfl
theorem ln_X8_328 : xv_lV RX8 328 yX8_askWorth mX8_askWorth 2 := ⟨wd_794, wd_796, wd_17, wd_55, wd_797, rfl, ⟨by decide +kernel, by decide +kernel, by decide +kernel⟩⟩
theorem wd_829 : Cond.code yX8_askMark cX8_askMark 3 (some .int) ∈ xv_g := xv_in (xv_t4 55 rfl) rfl
theorem wd_826 : Cond.methodLink RX8 332 yX8_askMark ∈ xv_g := xv_in (xv_t4 52 (by decide +kernel)) rfl
theorem wd_828 : Cond.instanceMethod yX8_askMark ∈ xv_g := xv_in (xv_t4 54 (by decide +kernel)) rfl
theorem wd_25 : Cond.selects RX8 yX8_askMark yX8_askMark ∈ xv_g := xv_in (xv_t0 25 (by decide +kernel)) rfl
theorem ln_X8_332 : xv_lV RX8 332 yX8_askMark mX8_askMark 2 := ⟨wd_826, wd_828, wd_25, wd_55, wd_829, rfl, ⟨by decide +kernel, by decide +kernel, by decide +kernel⟩⟩
theorem wd_845 : Cond.code yX8_countSheets cX8_countSheets 3 (some .int) ∈ xv_g := xv_in (xv_t4 71 rfl) rfl
theorem wd_842 : Cond.methodLink RX8 335 yX8_countSheets ∈ xv_g := xv_in (xv_t4 68 (by decide +kernel)) rfl
theorem wd_844 : Cond.instanceMethod yX8_countSheets ∈ xv_g := xv_in (xv_t4 70 (by decide +kernel)) rfl
theorem wd_27 : Cond.selects RX8 yX8_countSheets yX8_countSheets ∈ xv_g := xv_in (xv_t0 27 (by decide +kernel)) rfl
theorem ln_X8_335 : xv_lV RX8 335 yX8_countSheets mX8_countSheets 0 := ⟨wd_842, wd_844, wd_27, wd_55, wd_845, rfl, ⟨by decide +kernel, by decide +kernel, by decide +kernel⟩⟩
theorem wd_849 : Cond.code yX8_countEngines cX8_countEngines 5 (some .int) ∈ xv_g := xv_in (xv_t4 75 rfl) rfl
theorem wd_846 : Cond.methodLink RX8 338 yX8_countEngines ∈ xv_g := xv_in (xv_t4 72 (by decide +kernel)) rfl
theorem wd_848 : Cond.instanceMethod yX8_countEngines ∈ xv_g := xv_in (xv_t4 74 (by decide +kernel)) rfl
theorem wd_28 : Cond.selects RX8 yX8_countEngines yX8_countEngines ∈ xv_g := xv_in (xv_t0 28 (by decide +kernel)) rfl
theorem ln_X8_338 : xv_lV RX8 338 yX8_countEngines mX8_countEngines 1 := ⟨wd_846, wd_848, wd_28, wd_55, wd_849, rfl, ⟨by decide +kernel, by decide +kernel, by decide +kernel⟩⟩
theorem wd_853 : Cond.code yX8_countFoundCards cX8_countFoundCards 3 (some .int) ∈ xv_g := xv_in (xv_t4 79 rfl) rfl
theorem wd_850 : Cond.methodLink RX8 341 yX8_countFoundCards ∈ xv_g := xv_in (xv_t4 76 (by decide +kernel)) rfl
theorem wd_852 : Cond.instanceMethod yX8_countFoundCards ∈ xv_g := xv_in (xv_t4 78 (by decide +kernel)) rfl
theorem wd_29 : Cond.selects RX8 yX8_countFoundCards yX8_countFoundCards ∈ xv_g := xv_in (xv_t0 29 (by decide +kernel)) rfl
theorem ln_X8_341 : xv_lV RX8 341 yX8_countFoundCards mX8_countFoundCards 0 := ⟨wd_850, wd_852, wd_29, wd_55, wd_853, rfl, ⟨by decide +kernel, by decide +kernel, by decide +kernel⟩⟩
theorem wd_293 : Cond.fieldLink RX8 344 "ValveShop" "finding" "I" ∈ xv_g := xv_in (xv_t1 239 (by decide +kernel)) rfl
theorem fl_X8_344 : xv_fl RX8 344 8 12 false .int := ⟨RX8, TX8, 13, tyX8, rfl, cw_X8, by decide, wd_293, rfl, rfl, tyX8_ok 12 (by decide), tyX8_ok, nmX8⟩
theorem wd_387 : Cond.fieldLink RX8 347 "ValveShop" "LEAST_NUMBER" "[I" ∈ xv_g := xv_in (xv_t2 93 (by decide +kernel)) rfl
theorem gs_X8_347 : Cond.fieldLink RX8 347 "ValveShop" "LEAST_NUMBER" "[I" ∈ xv_g ∨ Cond.fieldLinkNest RX8 347 "ValveShop" "LEAST_NUMBER" "[I" "ValveShop" ∈ xv_nw := Or.inl wd_387
theorem wd_389 : Cond.fieldLink RX8 350 "ValveShop" "MOST_NUMBER" "[I" ∈ xv_g := xv_in (xv_t2 95 (by decide +kernel)) rfl
theorem gs_X8_350 : Cond.fieldLink RX8 350 "ValveShop" "MOST_NUMBER" "[I" ∈ xv_g ∨ Cond.fieldLinkNest RX8 350 "ValveShop" "MOST_NUMBER" "[I" "ValveShop" ∈ xv_nw := Or.inl wd_389
theorem wd_333 : Cond.constant RX8 353 (-1000010) ∈ xv_g := xv_in (xv_t2 39 (by decide +kernel)) rfl
abbrev kc_X8_353 := wd_333
theorem wd_442 : Cond.fieldLink RX8 354 "ValveShop" "COSINES" "[I" ∈ xv_g := xv_in (xv_t2 148 (by decide +kernel)) rfl
theorem gs_X8_354 : Cond.fieldLink RX8 354 "ValveShop" "COSINES" "[I" ∈ xv_g ∨ Cond.fieldLinkNest RX8 354 "ValveShop" "COSINES" "[I" "ValveShop" ∈ xv_nw := Or.inl wd_442
theorem wd_680 : Cond.methodLink RX8 357 yX2_apart ∈ xv_g := xv_in (xv_t3 146 (by decide +kernel)) rfl
theorem ln_X8_357 : xv_lV RX8 357 yX2_apart mX2_apart 1 := ⟨wd_680, wd_651, wd_652, wd_57, wd_653, rfl, ⟨by decide +kernel, by decide +kernel, by decide +kernel⟩⟩
theorem wd_110 : Cond.fieldLink RX8 361 "ValveShop$FoundCard" "items" "[I" ∈ xv_g := xv_in (xv_t1 56 (by decide +kernel)) rfl
theorem fl_X8_361 : xv_fl RX8 361 2 0 true (.array .int) := ⟨RX2, TX2, 4, tyX2, rfl, cw_X2, by decide, wd_110, rfl, rfl, tyX2_ok 0 (by decide), tyX2_ok, nmX2⟩
theorem wd_801 : Cond.code yX8_worthOfSound cX8_worthOfSound 2 (some .int) ∈ xv_g := xv_in (xv_t4 27 rfl) rfl
theorem wd_798 : Cond.methodLink RX8 362 yX8_worthOfSound ∈ xv_g := xv_in (xv_t4 24 (by decide +kernel)) rfl
theorem wd_800 : Cond.instanceMethod yX8_worthOfSound ∈ xv_g := xv_in (xv_t4 26 (by decide +kernel)) rfl
theorem wd_18 : Cond.selects RX8 yX8_worthOfSound yX8_worthOfSound ∈ xv_g := xv_in (xv_t0 18 (by decide +kernel)) rfl
theorem ln_X8_362 : xv_lV RX8 362 yX8_worthOfSound mX8_worthOfSound 1 := ⟨wd_798, wd_800, wd_18, wd_55, wd_801, rfl, ⟨by decide +kernel, by decide +kernel, by decide +kernel⟩⟩
theorem wd_805 : Cond.code yX8_leave cX8_leave 2 none ∈ xv_g := xv_in (xv_t4 31 rfl) rfl
theorem wd_802 : Cond.methodLink RX8 365 yX8_leave ∈ xv_g := xv_in (xv_t4 28 (by decide +kernel)) rfl
theorem wd_804 : Cond.instanceMethod yX8_leave ∈ xv_g := xv_in (xv_t4 30 (by decide +kernel)) rfl
theorem wd_19 : Cond.selects RX8 yX8_leave yX8_leave ∈ xv_g := xv_in (xv_t0 19 (by decide +kernel)) rfl
theorem ln_X8_365 : xv_lV RX8 365 yX8_leave mX8_leave 1 := ⟨wd_802, wd_804, wd_19, wd_55, wd_805, rfl, ⟨by decide +kernel, by decide +kernel, by decide +kernel⟩⟩
theorem wd_813 : Cond.code yX8_markOfEven cX8_markOfEven 2 (some .int) ∈ xv_g := xv_in (xv_t4 39 rfl) rfl
theorem wd_810 : Cond.methodLink RX8 368 yX8_markOfEven ∈ xv_g := xv_in (xv_t4 36 (by decide +kernel)) rfl
theorem wd_812 : Cond.instanceMethod yX8_markOfEven ∈ xv_g := xv_in (xv_t4 38 (by decide +kernel)) rfl
theorem wd_21 : Cond.selects RX8 yX8_markOfEven yX8_markOfEven ∈ xv_g := xv_in (xv_t0 21 (by decide +kernel)) rfl
theorem ln_X8_368 : xv_lV RX8 368 yX8_markOfEven mX8_markOfEven 1 := ⟨wd_810, wd_812, wd_21, wd_55, wd_813, rfl, ⟨by decide +kernel, by decide +kernel, by decide +kernel⟩⟩
theorem wd_821 : Cond.code yX8_worthOfSick cX8_worthOfSick 2 (some .int) ∈ xv_g := xv_in (xv_t4 47 rfl) rfl
theorem wd_818 : Cond.methodLink RX8 371 yX8_worthOfSick ∈ xv_g := xv_in (xv_t4 44 (by decide +kernel)) rfl
theorem wd_820 : Cond.instanceMethod yX8_worthOfSick ∈ xv_g := xv_in (xv_t4 46 (by decide +kernel)) rfl
theorem wd_23 : Cond.selects RX8 yX8_worthOfSick yX8_worthOfSick ∈ xv_g := xv_in (xv_t0 23 (by decide +kernel)) rfl
theorem ln_X8_371 : xv_lV RX8 371 yX8_worthOfSick mX8_worthOfSick 1 := ⟨wd_818, wd_820, wd_23, wd_55, wd_821, rfl, ⟨by decide +kernel, by decide +kernel, by decide +kernel⟩⟩
theorem wd_825 : Cond.code yX8_worthOfStuck cX8_worthOfStuck 2 (some .int) ∈ xv_g := xv_in (xv_t4 51 rfl) rfl
theorem wd_822 : Cond.methodLink RX8 374 yX8_worthOfStuck ∈ xv_g := xv_in (xv_t4 48 (by decide +kernel)) rfl
theorem wd_824 : Cond.instanceMethod yX8_worthOfStuck ∈ xv_g := xv_in (xv_t4 50 (by decide +kernel)) rfl
theorem wd_24 : Cond.selects RX8 yX8_worthOfStuck yX8_worthOfStuck ∈ xv_g := xv_in (xv_t0 24 (by decide +kernel)) rfl
theorem ln_X8_374 : xv_lV RX8 374 yX8_worthOfStuck mX8_worthOfStuck 1 := ⟨wd_822, wd_824, wd_24, wd_55, wd_825, rfl, ⟨by decide +kernel, by decide +kernel, by decide +kernel⟩⟩
theorem wd_809 : Cond.code yX8_worthOfAny cX8_worthOfAny 2 (some .int) ∈ xv_g := xv_in (xv_t4 35 rfl) rfl
theorem wd_806 : Cond.methodLink RX8 377 yX8_worthOfAny ∈ xv_g := xv_in (xv_t4 32 (by decide +kernel)) rfl
theorem wd_808 : Cond.instanceMethod yX8_worthOfAny ∈ xv_g := xv_in (xv_t4 34 (by decide +kernel)) rfl
theorem wd_20 : Cond.selects RX8 yX8_worthOfAny yX8_worthOfAny ∈ xv_g := xv_in (xv_t0 20 (by decide +kernel)) rfl
theorem ln_X8_377 : xv_lV RX8 377 yX8_worthOfAny mX8_worthOfAny 1 := ⟨wd_806, wd_808, wd_20, wd_55, wd_809, rfl, ⟨by decide +kernel, by decide +kernel, by decide +kernel⟩⟩
theorem wd_833 : Cond.code yX8_markOfSick cX8_markOfSick 4 (some .int) ∈ xv_g := xv_in (xv_t4 59 rfl) rfl
theorem wd_830 : Cond.methodLink RX8 380 yX8_markOfSick ∈ xv_g := xv_in (xv_t4 56 (by decide +kernel)) rfl
theorem wd_832 : Cond.instanceMethod yX8_markOfSick ∈ xv_g := xv_in (xv_t4 58 (by decide +kernel)) rfl
theorem wd_26 : Cond.selects RX8 yX8_markOfSick yX8_markOfSick ∈ xv_g := xv_in (xv_t0 26 (by decide +kernel)) rfl
theorem ln_X8_380 : xv_lV RX8 380 yX8_markOfSick mX8_markOfSick 2 := ⟨wd_830, wd_832, wd_26, wd_55, wd_833, rfl, ⟨by decide +kernel, by decide +kernel, by decide +kernel⟩⟩
theorem wd_817 : Cond.code yX8_markOfAny cX8_markOfAny 2 (some .int) ∈ xv_g := xv_in (xv_t4 43 rfl) rfl
theorem wd_814 : Cond.methodLink RX8 383 yX8_markOfAny ∈ xv_g := xv_in (xv_t4 40 (by decide +kernel)) rfl
theorem wd_816 : Cond.instanceMethod yX8_markOfAny ∈ xv_g := xv_in (xv_t4 42 (by decide +kernel)) rfl
theorem wd_22 : Cond.selects RX8 yX8_markOfAny yX8_markOfAny ∈ xv_g := xv_in (xv_t0 22 (by decide +kernel)) rfl
theorem ln_X8_383 : xv_lV RX8 383 yX8_markOfAny mX8_markOfAny 1 := ⟨wd_814, wd_816, wd_22, wd_55, wd_817, rfl, ⟨by decide +kernel, by decide +kernel, by decide +kernel⟩⟩
theorem wd_863 : Cond.methodLink RX9 1 Lib.objectInit ∈ xv_g := xv_in (xv_t4 89 (by decide +kernel)) rfl
theorem ln_X9_1 : Cond.methodLink RX9 1 Lib.objectInit ∈ xv_g ∧ Cond.instanceMethod Lib.objectInit ∈ xv_g ∧ Cond.code Lib.objectInit ⟨#[0xb1]⟩ 1 none ∈ xv_g := ⟨wd_863, wd_74, wd_75⟩
theorem wd_866 : Cond.fieldLink RX9 7 "ValveShopModel" "lane" "[I" ∈ xv_g := xv_in (xv_t4 92 (by decide +kernel)) rfl
theorem fl_X9_7 : xv_fl RX9 7 9 2 true (.array .int) := ⟨RX9, TX9, 33, tyX9, rfl, cw_X9, by decide, wd_866, rfl, rfl, tyX9_ok 2 (by decide), tyX9_ok, nmX9⟩
theorem wd_867 : Cond.fieldLink RX9 13 "ValveShopModel" "many" "[I" ∈ xv_g := xv_in (xv_t4 93 (by decide +kernel)) rfl
theorem fl_X9_13 : xv_fl RX9 13 9 3 true (.array .int) := ⟨RX9, TX9, 33, tyX9, rfl, cw_X9, by decide, wd_867, rfl, rfl, tyX9_ok 3 (by decide), tyX9_ok, nmX9⟩
theorem wd_868 : Cond.fieldLink RX9 16 "ValveShopModel" "item" "[I" ∈ xv_g := xv_in (xv_t4 94 (by decide +kernel)) rfl
theorem fl_X9_16 : xv_fl RX9 16 9 4 true (.array .int) := ⟨RX9, TX9, 33, tyX9, rfl, cw_X9, by decide, wd_868, rfl, rfl, tyX9_ok 4 (by decide), tyX9_ok, nmX9⟩
theorem wd_869 : Cond.fieldLink RX9 19 "ValveShopModel" "isThere" "[Z" ∈ xv_g := xv_in (xv_t4 95 (by decide +kernel)) rfl
theorem fl_X9_19 : xv_fl RX9 19 9 5 true (.array .boolean) := ⟨RX9, TX9, 33, tyX9, rfl, cw_X9, by decide, wd_869, rfl, rfl, tyX9_ok 5 (by decide), tyX9_ok, nmX9⟩
theorem wd_870 : Cond.fieldLink RX9 23 "ValveShopModel" "number" "[I" ∈ xv_g := xv_in (xv_t4 96 (by decide +kernel)) rfl
theorem fl_X9_23 : xv_fl RX9 23 9 6 true (.array .int) := ⟨RX9, TX9, 33, tyX9, rfl, cw_X9, by decide, wd_870, rfl, rfl, tyX9_ok 6 (by decide), tyX9_ok, nmX9⟩
theorem wd_871 : Cond.fieldLink RX9 26 "ValveShopModel" "isKept" "[Z" ∈ xv_g := xv_in (xv_t4 97 (by decide +kernel)) rfl
theorem fl_X9_26 : xv_fl RX9 26 9 7 true (.array .boolean) := ⟨RX9, TX9, 33, tyX9, rfl, cw_X9, by decide, wd_871, rfl, rfl, tyX9_ok 7 (by decide), tyX9_ok, nmX9⟩
theorem wd_872 : Cond.fieldLink RX9 29 "ValveShopModel" "keptNotch" "[I" ∈ xv_g := xv_in (xv_t4 98 (by decide +kernel)) rfl
theorem fl_X9_29 : xv_fl RX9 29 9 8 true (.array .int) := ⟨RX9, TX9, 33, tyX9, rfl, cw_X9, by decide, wd_872, rfl, rfl, tyX9_ok 8 (by decide), tyX9_ok, nmX9⟩
theorem wd_873 : Cond.fieldLink RX9 32 "ValveShopModel" "keptBoiler" "[I" ∈ xv_g := xv_in (xv_t4 99 (by decide +kernel)) rfl
theorem fl_X9_32 : xv_fl RX9 32 9 9 true (.array .int) := ⟨RX9, TX9, 33, tyX9, rfl, cw_X9, by decide, wd_873, rfl, rfl, tyX9_ok 9 (by decide), tyX9_ok, nmX9⟩
theorem wd_874 : Cond.fieldLink RX9 35 "ValveShopModel" "kept" "[I" ∈ xv_g := xv_in (xv_t4 100 (by decide +kernel)) rfl
theorem fl_X9_35 : xv_fl RX9 35 9 10 true (.array .int) := ⟨RX9, TX9, 33, tyX9, rfl, cw_X9, by decide, wd_874, rfl, rfl, tyX9_ok 10 (by decide), tyX9_ok, nmX9⟩
theorem wd_875 : Cond.fieldLink RX9 38 "ValveShopModel" "falls" "[I" ∈ xv_g := xv_in (xv_t4 101 (by decide +kernel)) rfl
theorem fl_X9_38 : xv_fl RX9 38 9 11 true (.array .int) := ⟨RX9, TX9, 33, tyX9, rfl, cw_X9, by decide, wd_875, rfl, rfl, tyX9_ok 11 (by decide), tyX9_ok, nmX9⟩
theorem wd_878 : Cond.fieldLink RX9 41 "ValveShopModel" "pressure" "[I" ∈ xv_g := xv_in (xv_t4 104 (by decide +kernel)) rfl
theorem fl_X9_41 : xv_fl RX9 41 9 14 true (.array .int) := ⟨RX9, TX9, 33, tyX9, rfl, cw_X9, by decide, wd_878, rfl, rfl, tyX9_ok 14 (by decide), tyX9_ok, nmX9⟩
theorem wd_880 : Cond.fieldLink RX9 44 "ValveShopModel" "misfits" "[I" ∈ xv_g := xv_in (xv_t4 106 (by decide +kernel)) rfl
theorem fl_X9_44 : xv_fl RX9 44 9 16 true (.array .int) := ⟨RX9, TX9, 33, tyX9, rfl, cw_X9, by decide, wd_880, rfl, rfl, tyX9_ok 16 (by decide), tyX9_ok, nmX9⟩
theorem wd_881 : Cond.fieldLink RX9 47 "ValveShopModel" "other" "[I" ∈ xv_g := xv_in (xv_t4 107 (by decide +kernel)) rfl
theorem fl_X9_47 : xv_fl RX9 47 9 17 true (.array .int) := ⟨RX9, TX9, 33, tyX9, rfl, cw_X9, by decide, wd_881, rfl, rfl, tyX9_ok 17 (by decide), tyX9_ok, nmX9⟩
theorem wd_882 : Cond.fieldLink RX9 50 "ValveShopModel" "minutesBy" "[I" ∈ xv_g := xv_in (xv_t4 108 (by decide +kernel)) rfl
theorem fl_X9_50 : xv_fl RX9 50 9 18 true (.array .int) := ⟨RX9, TX9, 33, tyX9, rfl, cw_X9, by decide, wd_882, rfl, rfl, tyX9_ok 18 (by decide), tyX9_ok, nmX9⟩
theorem wd_883 : Cond.fieldLink RX9 53 "ValveShopModel" "coalBy" "[I" ∈ xv_g := xv_in (xv_t4 109 (by decide +kernel)) rfl
theorem fl_X9_53 : xv_fl RX9 53 9 19 true (.array .int) := ⟨RX9, TX9, 33, tyX9, rfl, cw_X9, by decide, wd_883, rfl, rfl, tyX9_ok 19 (by decide), tyX9_ok, nmX9⟩
theorem wd_884 : Cond.fieldLink RX9 56 "ValveShopModel" "least" "[I" ∈ xv_g := xv_in (xv_t4 110 (by decide +kernel)) rfl
theorem fl_X9_56 : xv_fl RX9 56 9 20 true (.array .int) := ⟨RX9, TX9, 33, tyX9, rfl, cw_X9, by decide, wd_884, rfl, rfl, tyX9_ok 20 (by decide), tyX9_ok, nmX9⟩
theorem wd_886 : Cond.fieldLink RX9 59 "ValveShopModel" "planChoice" "[I" ∈ xv_g := xv_in (xv_t4 112 (by decide +kernel)) rfl
theorem fl_X9_59 : xv_fl RX9 59 9 22 true (.array .int) := ⟨RX9, TX9, 33, tyX9, rfl, cw_X9, by decide, wd_886, rfl, rfl, tyX9_ok 22 (by decide), tyX9_ok, nmX9⟩
theorem wd_887 : Cond.fieldLink RX9 62 "ValveShopModel" "planMinutes" "[I" ∈ xv_g := xv_in (xv_t4 113 (by decide +kernel)) rfl
theorem fl_X9_62 : xv_fl RX9 62 9 23 true (.array .int) := ⟨RX9, TX9, 33, tyX9, rfl, cw_X9, by decide, wd_887, rfl, rfl, tyX9_ok 23 (by decide), tyX9_ok, nmX9⟩
theorem wd_888 : Cond.fieldLink RX9 65 "ValveShopModel" "planCoal" "[I" ∈ xv_g := xv_in (xv_t4 114 (by decide +kernel)) rfl
theorem fl_X9_65 : xv_fl RX9 65 9 24 true (.array .int) := ⟨RX9, TX9, 33, tyX9, rfl, cw_X9, by decide, wd_888, rfl, rfl, tyX9_ok 24 (by decide), tyX9_ok, nmX9⟩
theorem wd_895 : Cond.fieldLink RX9 68 "ValveShopModel" "trace" "[I" ∈ xv_g := xv_in (xv_t4 121 (by decide +kernel)) rfl
theorem fl_X9_68 : xv_fl RX9 68 9 31 true (.array .int) := ⟨RX9, TX9, 33, tyX9, rfl, cw_X9, by decide, wd_895, rfl, rfl, tyX9_ok 31 (by decide), tyX9_ok, nmX9⟩
theorem wd_865 : Cond.fieldLink RX9 75 "ValveShopModel" "status" "I" ∈ xv_g := xv_in (xv_t4 91 (by decide +kernel)) rfl
theorem fl_X9_75 : xv_fl RX9 75 9 1 false .int := ⟨RX9, TX9, 33, tyX9, rfl, cw_X9, by decide, wd_865, rfl, rfl, tyX9_ok 1 (by decide), tyX9_ok, nmX9⟩
theorem wd_982 : Cond.constant RX9 78 (-1000010) ∈ xv_g := xv_in (xv_t4 208 (by decide +kernel)) rfl
abbrev kc_X9_78 := wd_982
theorem wd_972 : Cond.constantLong RX9 79 (7) ∈ xv_g := xv_in (xv_t4 198 (by decide +kernel)) rfl
abbrev kc_X9_79 := wd_972
theorem wd_975 : Cond.code yX9_in cX9_in 6 (some .boolean) ∈ xv_g := xv_in (xv_t4 201 rfl) rfl
theorem wd_64 : Cond.initialized RX9 ∈ xv_g := xv_in (xv_t1 10 (by decide +kernel)) rfl
theorem wd_973 : Cond.methodLink RX9 81 yX9_in ∈ xv_g := xv_in (xv_t4 199 (by decide +kernel)) rfl
theorem wd_974 : Cond.static yX9_in ∈ xv_g := xv_in (xv_t4 200 (by decide +kernel)) rfl
theorem ln_X9_81 : xv_lS RX9 81 yX9_in mX9_in 3 := ⟨Or.inl wd_973, wd_974, wd_64, wd_975, ⟨by decide +kernel, by decide +kernel, by decide +kernel⟩⟩
theorem wd_864 : Cond.fieldLink RX9 71 "ValveShopModel" "thrown" "I" ∈ xv_g := xv_in (xv_t4 90 (by decide +kernel)) rfl
theorem fl_X9_71 : xv_fl RX9 71 9 0 false .int := ⟨RX9, TX9, 33, tyX9, rfl, cw_X9, by decide, wd_864, rfl, rfl, tyX9_ok 0 (by decide), tyX9_ok, nmX9⟩
theorem wd_971 : Cond.code yX9_isSheet cX9_isSheet 1 (some .boolean) ∈ xv_g := xv_in (xv_t4 197 rfl) rfl
theorem wd_969 : Cond.methodLink RX9 85 yX9_isSheet ∈ xv_g := xv_in (xv_t4 195 (by decide +kernel)) rfl
theorem wd_970 : Cond.static yX9_isSheet ∈ xv_g := xv_in (xv_t4 196 (by decide +kernel)) rfl
theorem ln_X9_85 : xv_lS RX9 85 yX9_isSheet mX9_isSheet 1 := ⟨Or.inl wd_969, wd_970, wd_64, wd_971, ⟨by decide +kernel, by decide +kernel, by decide +kernel⟩⟩
theorem wd_976 : Cond.constantLong RX9 89 (2) ∈ xv_g := xv_in (xv_t4 202 (by decide +kernel)) rfl
abbrev kc_X9_89 := wd_976
theorem wd_977 : Cond.constant RX9 91 (-1000001) ∈ xv_g := xv_in (xv_t4 203 (by decide +kernel)) rfl
abbrev kc_X9_91 := wd_977
theorem wd_981 : Cond.code yX9_found cX9_found 2 (some .int) ∈ xv_g := xv_in (xv_t4 207 rfl) rfl
theorem wd_978 : Cond.methodLink RX9 92 yX9_found ∈ xv_g := xv_in (xv_t4 204 (by decide +kernel)) rfl
theorem wd_980 : Cond.instanceMethod yX9_found ∈ xv_g := xv_in (xv_t4 206 (by decide +kernel)) rfl
theorem wd_30 : Cond.selects RX9 yX9_found yX9_found ∈ xv_g := xv_in (xv_t0 30 (by decide +kernel)) rfl
theorem ln_X9_92 : xv_lV RX9 92 yX9_found mX9_found 1 := ⟨wd_978, wd_980, wd_30, wd_64, wd_981, rfl, ⟨by decide +kernel, by decide +kernel, by decide +kernel⟩⟩
theorem wd_1002 : Cond.constantLong RX9 96 (5) ∈ xv_g := xv_in (xv_t4 228 (by decide +kernel)) rfl
abbrev kc_X9_96 := wd_1002
theorem wd_1007 : Cond.constantLong RX9 98 (4) ∈ xv_g := xv_in (xv_t4 233 (by decide +kernel)) rfl
abbrev kc_X9_98 := wd_1007
theorem wd_1008 : Cond.constantLong RX9 100 (20) ∈ xv_g := xv_in (xv_t4 234 (by decide +kernel)) rfl
abbrev kc_X9_100 := wd_1008
theorem wd_1009 : Cond.constantLong RX9 102 (10) ∈ xv_g := xv_in (xv_t4 235 (by decide +kernel)) rfl
abbrev kc_X9_102 := wd_1009
theorem wd_1010 : Cond.constantLong RX9 104 (200) ∈ xv_g := xv_in (xv_t4 236 (by decide +kernel)) rfl
abbrev kc_X9_104 := wd_1010
theorem wd_1003 : Cond.constantLong RX9 106 (11) ∈ xv_g := xv_in (xv_t4 229 (by decide +kernel)) rfl
abbrev kc_X9_106 := wd_1003
theorem wd_1011 : Cond.constantLong RX9 108 (-20) ∈ xv_g := xv_in (xv_t4 237 (by decide +kernel)) rfl
abbrev kc_X9_108 := wd_1011
theorem wd_1012 : Cond.constantLong RX9 110 (100) ∈ xv_g := xv_in (xv_t4 238 (by decide +kernel)) rfl
abbrev kc_X9_110 := wd_1012
theorem wd_1013 : Cond.constantLong RX9 112 (50) ∈ xv_g := xv_in (xv_t4 239 (by decide +kernel)) rfl
abbrev kc_X9_112 := wd_1013
theorem wd_1014 : Cond.constantLong RX9 114 (500) ∈ xv_g := xv_in (xv_t5 0 (by decide +kernel)) rfl
abbrev kc_X9_114 := wd_1014
theorem wd_1001 : Cond.code yX9_isPlace cX9_isPlace 1 (some .boolean) ∈ xv_g := xv_in (xv_t4 227 rfl) rfl
theorem wd_999 : Cond.methodLink RX9 116 yX9_isPlace ∈ xv_g := xv_in (xv_t4 225 (by decide +kernel)) rfl
theorem wd_1000 : Cond.static yX9_isPlace ∈ xv_g := xv_in (xv_t4 226 (by decide +kernel)) rfl
theorem ln_X9_116 : xv_lS RX9 116 yX9_isPlace mX9_isPlace 1 := ⟨Or.inl wd_999, wd_1000, wd_64, wd_1001, ⟨by decide +kernel, by decide +kernel, by decide +kernel⟩⟩
theorem wd_1006 : Cond.code yX9_isNumber cX9_isNumber 2 (some .boolean) ∈ xv_g := xv_in (xv_t4 232 rfl) rfl
theorem wd_1004 : Cond.methodLink RX9 119 yX9_isNumber ∈ xv_g := xv_in (xv_t4 230 (by decide +kernel)) rfl
theorem wd_1005 : Cond.static yX9_isNumber ∈ xv_g := xv_in (xv_t4 231 (by decide +kernel)) rfl
theorem ln_X9_119 : xv_lS RX9 119 yX9_isNumber mX9_isNumber 2 := ⟨Or.inl wd_1004, wd_1005, wd_64, wd_1006, ⟨by decide +kernel, by decide +kernel, by decide +kernel⟩⟩
theorem wd_1022 : Cond.code yX9_stands cX9_stands 2 (some .int) ∈ xv_g := xv_in (xv_t5 8 rfl) rfl
theorem wd_1019 : Cond.methodLink RX9 123 yX9_stands ∈ xv_g := xv_in (xv_t5 5 (by decide +kernel)) rfl
theorem wd_1021 : Cond.instanceMethod yX9_stands ∈ xv_g := xv_in (xv_t5 7 (by decide +kernel)) rfl
theorem wd_31 : Cond.selects RX9 yX9_stands yX9_stands ∈ xv_g := xv_in (xv_t0 31 (by decide +kernel)) rfl
theorem ln_X9_123 : xv_lV RX9 123 yX9_stands mX9_stands 1 := ⟨wd_1019, wd_1021, wd_31, wd_64, wd_1022, rfl, ⟨by decide +kernel, by decide +kernel, by decide +kernel⟩⟩
theorem wd_1027 : Cond.constantLong RX9 126 (12) ∈ xv_g := xv_in (xv_t5 13 (by decide +kernel)) rfl
abbrev kc_X9_126 := wd_1027
theorem wd_1035 : Cond.code yX9_like cX9_like 4 none ∈ xv_g := xv_in (xv_t5 21 rfl) rfl
theorem wd_1032 : Cond.methodLink RX9 128 yX9_like ∈ xv_g := xv_in (xv_t5 18 (by decide +kernel)) rfl
theorem wd_1034 : Cond.instanceMethod yX9_like ∈ xv_g := xv_in (xv_t5 20 (by decide +kernel)) rfl
theorem wd_32 : Cond.selects RX9 yX9_like yX9_like ∈ xv_g := xv_in (xv_t0 32 (by decide +kernel)) rfl
theorem ln_X9_128 : xv_lV RX9 128 yX9_like mX9_like 2 := ⟨wd_1032, wd_1034, wd_32, wd_64, wd_1035, rfl, ⟨by decide +kernel, by decide +kernel, by decide +kernel⟩⟩
theorem wd_1060 : Cond.code yX9_round cX9_round 2 (some .int) ∈ xv_g := xv_in (xv_t5 46 rfl) rfl
theorem wd_1058 : Cond.methodLink RX9 132 yX9_round ∈ xv_g := xv_in (xv_t5 44 (by decide +kernel)) rfl
theorem wd_1059 : Cond.static yX9_round ∈ xv_g := xv_in (xv_t5 45 (by decide +kernel)) rfl
theorem ln_X9_132 : xv_lS RX9 132 yX9_round mX9_round 1 := ⟨Or.inl wd_1058, wd_1059, wd_64, wd_1060, ⟨by decide +kernel, by decide +kernel, by decide +kernel⟩⟩
theorem wd_1057 : Cond.code yX9_along cX9_along 3 (some .int) ∈ xv_g := xv_in (xv_t5 43 rfl) rfl
theorem wd_1054 : Cond.methodLink RX9 135 yX9_along ∈ xv_g := xv_in (xv_t5 40 (by decide +kernel)) rfl
theorem wd_1056 : Cond.instanceMethod yX9_along ∈ xv_g := xv_in (xv_t5 42 (by decide +kernel)) rfl
theorem wd_34 : Cond.selects RX9 yX9_along yX9_along ∈ xv_g := xv_in (xv_t0 34 (by decide +kernel)) rfl
theorem ln_X9_135 : xv_lV RX9 135 yX9_along mX9_along 1 := ⟨wd_1054, wd_1056, wd_34, wd_64, wd_1057, rfl, ⟨by decide +kernel, by decide +kernel, by decide +kernel⟩⟩
theorem wd_1064 : Cond.code yX9_across cX9_across 2 (some .int) ∈ xv_g := xv_in (xv_t5 50 rfl) rfl
theorem wd_1061 : Cond.methodLink RX9 138 yX9_across ∈ xv_g := xv_in (xv_t5 47 (by decide +kernel)) rfl
theorem wd_1063 : Cond.instanceMethod yX9_across ∈ xv_g := xv_in (xv_t5 49 (by decide +kernel)) rfl
theorem wd_35 : Cond.selects RX9 yX9_across yX9_across ∈ xv_g := xv_in (xv_t0 35 (by decide +kernel)) rfl
theorem ln_X9_138 : xv_lV RX9 138 yX9_across mX9_across 1 := ⟨wd_1061, wd_1063, wd_35, wd_64, wd_1064, rfl, ⟨by decide +kernel, by decide +kernel, by decide +kernel⟩⟩
theorem wd_1065 : Cond.constant RX9 141 (400000) ∈ xv_g := xv_in (xv_t5 51 (by decide +kernel)) rfl
abbrev kc_X9_141 := wd_1065
theorem wd_1081 : Cond.code yX9_lateOf cX9_lateOf 1 (some .int) ∈ xv_g := xv_in (xv_t5 67 rfl) rfl
theorem wd_1079 : Cond.methodLink RX9 142 yX9_lateOf ∈ xv_g := xv_in (xv_t5 65 (by decide +kernel)) rfl
theorem wd_1080 : Cond.static yX9_lateOf ∈ xv_g := xv_in (xv_t5 66 (by decide +kernel)) rfl
theorem ln_X9_142 : xv_lS RX9 142 yX9_lateOf mX9_lateOf 1 := ⟨Or.inl wd_1079, wd_1080, wd_64, wd_1081, ⟨by decide +kernel, by decide +kernel, by decide +kernel⟩⟩
theorem wd_1082 : Cond.constant RX9 145 (120000) ∈ xv_g := xv_in (xv_t5 68 (by decide +kernel)) rfl
abbrev kc_X9_145 := wd_1082
theorem wd_1078 : Cond.code yX9_valveAt cX9_valveAt 7 (some .int) ∈ xv_g := xv_in (xv_t5 64 rfl) rfl
theorem wd_1075 : Cond.methodLink RX9 146 yX9_valveAt ∈ xv_g := xv_in (xv_t5 61 (by decide +kernel)) rfl
theorem wd_1077 : Cond.instanceMethod yX9_valveAt ∈ xv_g := xv_in (xv_t5 63 (by decide +kernel)) rfl
theorem wd_36 : Cond.selects RX9 yX9_valveAt yX9_valveAt ∈ xv_g := xv_in (xv_t0 36 (by decide +kernel)) rfl
theorem ln_X9_146 : xv_lV RX9 146 yX9_valveAt mX9_valveAt 3 := ⟨wd_1075, wd_1077, wd_36, wd_64, wd_1078, rfl, ⟨by decide +kernel, by decide +kernel, by decide +kernel⟩⟩
theorem wd_1094 : Cond.code yX9_openBy cX9_openBy 8 (some .int) ∈ xv_g := xv_in (xv_t5 80 rfl) rfl
theorem wd_1091 : Cond.methodLink RX9 150 yX9_openBy ∈ xv_g := xv_in (xv_t5 77 (by decide +kernel)) rfl
theorem wd_1093 : Cond.instanceMethod yX9_openBy ∈ xv_g := xv_in (xv_t5 79 (by decide +kernel)) rfl
theorem wd_38 : Cond.selects RX9 yX9_openBy yX9_openBy ∈ xv_g := xv_in (xv_t0 38 (by decide +kernel)) rfl
theorem ln_X9_150 : xv_lV RX9 150 yX9_openBy mX9_openBy 4 := ⟨wd_1091, wd_1093, wd_38, wd_64, wd_1094, rfl, ⟨by decide +kernel, by decide +kernel, by decide +kernel⟩⟩
theorem wd_1090 : Cond.code yX9_openAt cX9_openAt 6 (some .int) ∈ xv_g := xv_in (xv_t5 76 rfl) rfl
theorem wd_1087 : Cond.methodLink RX9 154 yX9_openAt ∈ xv_g := xv_in (xv_t5 73 (by decide +kernel)) rfl
theorem wd_1089 : Cond.instanceMethod yX9_openAt ∈ xv_g := xv_in (xv_t5 75 (by decide +kernel)) rfl
theorem wd_37 : Cond.selects RX9 yX9_openAt yX9_openAt ∈ xv_g := xv_in (xv_t0 37 (by decide +kernel)) rfl
theorem ln_X9_154 : xv_lV RX9 154 yX9_openAt mX9_openAt 5 := ⟨wd_1087, wd_1089, wd_37, wd_64, wd_1090, rfl, ⟨by decide +kernel, by decide +kernel, by decide +kernel⟩⟩
theorem wd_1104 : Cond.constant RX9 158 (-1000000) ∈ xv_g := xv_in (xv_t5 90 (by decide +kernel)) rfl
abbrev kc_X9_158 := wd_1104
theorem wd_1073 : Cond.constantLong RX9 159 (-6) ∈ xv_g := xv_in (xv_t5 59 (by decide +kernel)) rfl
abbrev kc_X9_159 := wd_1073
theorem wd_1074 : Cond.constantLong RX9 161 (6) ∈ xv_g := xv_in (xv_t5 60 (by decide +kernel)) rfl
abbrev kc_X9_161 := wd_1074
theorem wd_1048 : Cond.constantLong RX9 163 (-1000) ∈ xv_g := xv_in (xv_t5 34 (by decide +kernel)) rfl
abbrev kc_X9_163 := wd_1048
theorem wd_1049 : Cond.constantLong RX9 165 (1000) ∈ xv_g := xv_in (xv_t5 35 (by decide +kernel)) rfl
abbrev kc_X9_165 := wd_1049
theorem wd_1053 : Cond.code yX9_pistonAt cX9_pistonAt 4 (some .int) ∈ xv_g := xv_in (xv_t5 39 rfl) rfl
theorem wd_1050 : Cond.methodLink RX9 167 yX9_pistonAt ∈ xv_g := xv_in (xv_t5 36 (by decide +kernel)) rfl
theorem wd_1052 : Cond.instanceMethod yX9_pistonAt ∈ xv_g := xv_in (xv_t5 38 (by decide +kernel)) rfl
theorem wd_33 : Cond.selects RX9 yX9_pistonAt yX9_pistonAt ∈ xv_g := xv_in (xv_t0 33 (by decide +kernel)) rfl
theorem ln_X9_167 : xv_lV RX9 167 yX9_pistonAt mX9_pistonAt 2 := ⟨wd_1050, wd_1052, wd_33, wd_64, wd_1053, rfl, ⟨by decide +kernel, by decide +kernel, by decide +kernel⟩⟩
theorem wd_1072 : Cond.code yX9_isNotch cX9_isNotch 1 (some .boolean) ∈ xv_g := xv_in (xv_t5 58 rfl) rfl
theorem wd_1070 : Cond.methodLink RX9 171 yX9_isNotch ∈ xv_g := xv_in (xv_t5 56 (by decide +kernel)) rfl
theorem wd_1071 : Cond.static yX9_isNotch ∈ xv_g := xv_in (xv_t5 57 (by decide +kernel)) rfl
theorem ln_X9_171 : xv_lS RX9 171 yX9_isNotch mX9_isNotch 1 := ⟨Or.inl wd_1070, wd_1071, wd_64, wd_1072, ⟨by decide +kernel, by decide +kernel, by decide +kernel⟩⟩
theorem wd_1099 : Cond.constantLong RX9 174 (3) ∈ xv_g := xv_in (xv_t5 85 (by decide +kernel)) rfl
abbrev kc_X9_174 := wd_1099
theorem wd_1103 : Cond.code yX9_eventOf cX9_eventOf 9 (some .int) ∈ xv_g := xv_in (xv_t5 89 rfl) rfl
theorem wd_1100 : Cond.methodLink RX9 176 yX9_eventOf ∈ xv_g := xv_in (xv_t5 86 (by decide +kernel)) rfl
theorem wd_1102 : Cond.instanceMethod yX9_eventOf ∈ xv_g := xv_in (xv_t5 88 (by decide +kernel)) rfl
theorem wd_39 : Cond.selects RX9 yX9_eventOf yX9_eventOf ∈ xv_g := xv_in (xv_t0 39 (by decide +kernel)) rfl
theorem ln_X9_176 : xv_lV RX9 176 yX9_eventOf mX9_eventOf 4 := ⟨wd_1100, wd_1102, wd_39, wd_64, wd_1103, rfl, ⟨by decide +kernel, by decide +kernel, by decide +kernel⟩⟩
theorem wd_1112 : Cond.code yX9_unlike cX9_unlike 7 (some .int) ∈ xv_g := xv_in (xv_t5 98 rfl) rfl
theorem wd_1109 : Cond.methodLink RX9 179 yX9_unlike ∈ xv_g := xv_in (xv_t5 95 (by decide +kernel)) rfl
theorem wd_1111 : Cond.instanceMethod yX9_unlike ∈ xv_g := xv_in (xv_t5 97 (by decide +kernel)) rfl
theorem wd_40 : Cond.selects RX9 yX9_unlike yX9_unlike ∈ xv_g := xv_in (xv_t0 40 (by decide +kernel)) rfl
theorem ln_X9_179 : xv_lV RX9 179 yX9_unlike mX9_unlike 1 := ⟨wd_1109, wd_1111, wd_40, wd_64, wd_1112, rfl, ⟨by decide +kernel, by decide +kernel, by decide +kernel⟩⟩
theorem wd_1116 : Cond.code yX9_leadOf cX9_leadOf 2 (some .int) ∈ xv_g := xv_in (xv_t5 102 rfl) rfl
theorem wd_1113 : Cond.methodLink RX9 182 yX9_leadOf ∈ xv_g := xv_in (xv_t5 99 (by decide +kernel)) rfl
theorem wd_1115 : Cond.instanceMethod yX9_leadOf ∈ xv_g := xv_in (xv_t5 101 (by decide +kernel)) rfl
theorem wd_41 : Cond.selects RX9 yX9_leadOf yX9_leadOf ∈ xv_g := xv_in (xv_t0 41 (by decide +kernel)) rfl
theorem ln_X9_182 : xv_lV RX9 182 yX9_leadOf mX9_leadOf 1 := ⟨wd_1113, wd_1115, wd_41, wd_64, wd_1116, rfl, ⟨by decide +kernel, by decide +kernel, by decide +kernel⟩⟩
theorem wd_876 : Cond.fieldLink RX9 185 "ValveShopModel" "bestAdvance" "I" ∈ xv_g := xv_in (xv_t4 102 (by decide +kernel)) rfl
theorem fl_X9_185 : xv_fl RX9 185 9 12 false .int := ⟨RX9, TX9, 33, tyX9, rfl, cw_X9, by decide, wd_876, rfl, rfl, tyX9_ok 12 (by decide), tyX9_ok, nmX9⟩
theorem wd_877 : Cond.fieldLink RX9 188 "ValveShopModel" "bestHang" "I" ∈ xv_g := xv_in (xv_t4 103 (by decide +kernel)) rfl
theorem fl_X9_188 : xv_fl RX9 188 9 13 false .int := ⟨RX9, TX9, 33, tyX9, rfl, cw_X9, by decide, wd_877, rfl, rfl, tyX9_ok 13 (by decide), tyX9_ok, nmX9⟩
theorem wd_1124 : Cond.code yX9_settle cX9_settle 6 (some .int) ∈ xv_g := xv_in (xv_t5 110 rfl) rfl
theorem wd_1121 : Cond.methodLink RX9 191 yX9_settle ∈ xv_g := xv_in (xv_t5 107 (by decide +kernel)) rfl
theorem wd_1123 : Cond.instanceMethod yX9_settle ∈ xv_g := xv_in (xv_t5 109 (by decide +kernel)) rfl
theorem wd_42 : Cond.selects RX9 yX9_settle yX9_settle ∈ xv_g := xv_in (xv_t0 42 (by decide +kernel)) rfl
theorem ln_X9_191 : xv_lV RX9 191 yX9_settle mX9_settle 1 := ⟨wd_1121, wd_1123, wd_42, wd_64, wd_1124, rfl, ⟨by decide +kernel, by decide +kernel, by decide +kernel⟩⟩
theorem wd_879 : Cond.fieldLink RX9 194 "ValveShopModel" "drunk" "J" ∈ xv_g := xv_in (xv_t4 105 (by decide +kernel)) rfl
theorem fl_X9_194 : xv_fl RX9 194 9 15 false .long := ⟨RX9, TX9, 33, tyX9, rfl, cw_X9, by decide, wd_879, rfl, rfl, tyX9_ok 15 (by decide), tyX9_ok, nmX9⟩
theorem wd_1145 : Cond.code yX9_room cX9_room 5 (some .int) ∈ xv_g := xv_in (xv_t5 131 rfl) rfl
theorem wd_1142 : Cond.methodLink RX9 198 yX9_room ∈ xv_g := xv_in (xv_t5 128 (by decide +kernel)) rfl
theorem wd_1144 : Cond.instanceMethod yX9_room ∈ xv_g := xv_in (xv_t5 130 (by decide +kernel)) rfl
theorem wd_44 : Cond.selects RX9 yX9_room yX9_room ∈ xv_g := xv_in (xv_t0 44 (by decide +kernel)) rfl
theorem ln_X9_198 : xv_lV RX9 198 yX9_room mX9_room 3 := ⟨wd_1142, wd_1144, wd_44, wd_64, wd_1145, rfl, ⟨by decide +kernel, by decide +kernel, by decide +kernel⟩⟩
theorem wd_1148 : Cond.code yX9_chokedOf cX9_chokedOf 1 (some .int) ∈ xv_g := xv_in (xv_t5 134 rfl) rfl
theorem wd_1146 : Cond.methodLink RX9 201 yX9_chokedOf ∈ xv_g := xv_in (xv_t5 132 (by decide +kernel)) rfl
theorem wd_1147 : Cond.static yX9_chokedOf ∈ xv_g := xv_in (xv_t5 133 (by decide +kernel)) rfl
theorem ln_X9_201 : xv_lS RX9 201 yX9_chokedOf mX9_chokedOf 1 := ⟨Or.inl wd_1146, wd_1147, wd_64, wd_1148, ⟨by decide +kernel, by decide +kernel, by decide +kernel⟩⟩
theorem wd_1151 : Cond.code yX9_leakOf cX9_leakOf 1 (some .int) ∈ xv_g := xv_in (xv_t5 137 rfl) rfl
theorem wd_1149 : Cond.methodLink RX9 204 yX9_leakOf ∈ xv_g := xv_in (xv_t5 135 (by decide +kernel)) rfl
theorem wd_1150 : Cond.static yX9_leakOf ∈ xv_g := xv_in (xv_t5 136 (by decide +kernel)) rfl
theorem ln_X9_204 : xv_lS RX9 204 yX9_leakOf mX9_leakOf 1 := ⟨Or.inl wd_1149, wd_1150, wd_64, wd_1151, ⟨by decide +kernel, by decide +kernel, by decide +kernel⟩⟩
theorem wd_1136 : Cond.constantLong RX9 207 (2000) ∈ xv_g := xv_in (xv_t5 122 (by decide +kernel)) rfl
abbrev kc_X9_207 := wd_1136
theorem wd_1135 : Cond.code yX9_isTurn cX9_isTurn 3 (some .boolean) ∈ xv_g := xv_in (xv_t5 121 rfl) rfl
theorem wd_1133 : Cond.methodLink RX9 209 yX9_isTurn ∈ xv_g := xv_in (xv_t5 119 (by decide +kernel)) rfl
theorem wd_1134 : Cond.static yX9_isTurn ∈ xv_g := xv_in (xv_t5 120 (by decide +kernel)) rfl
theorem ln_X9_209 : xv_lS RX9 209 yX9_isTurn mX9_isTurn 3 := ⟨Or.inl wd_1133, wd_1134, wd_64, wd_1135, ⟨by decide +kernel, by decide +kernel, by decide +kernel⟩⟩
theorem wd_1137 : Cond.constantLong RX9 213 (47) ∈ xv_g := xv_in (xv_t5 123 (by decide +kernel)) rfl
abbrev kc_X9_213 := wd_1137
theorem wd_1141 : Cond.code yX9_draw cX9_draw 16 none ∈ xv_g := xv_in (xv_t5 127 rfl) rfl
theorem wd_1138 : Cond.methodLink RX9 215 yX9_draw ∈ xv_g := xv_in (xv_t5 124 (by decide +kernel)) rfl
theorem wd_1140 : Cond.instanceMethod yX9_draw ∈ xv_g := xv_in (xv_t5 126 (by decide +kernel)) rfl
theorem wd_43 : Cond.selects RX9 yX9_draw yX9_draw ∈ xv_g := xv_in (xv_t0 43 (by decide +kernel)) rfl
theorem ln_X9_215 : xv_lV RX9 215 yX9_draw mX9_draw 5 := ⟨wd_1138, wd_1140, wd_43, wd_64, wd_1141, rfl, ⟨by decide +kernel, by decide +kernel, by decide +kernel⟩⟩
theorem wd_1163 : Cond.code yX9_workOf cX9_workOf 10 (some .int) ∈ xv_g := xv_in (xv_t5 149 rfl) rfl
theorem wd_1160 : Cond.methodLink RX9 219 yX9_workOf ∈ xv_g := xv_in (xv_t5 146 (by decide +kernel)) rfl
theorem wd_1162 : Cond.instanceMethod yX9_workOf ∈ xv_g := xv_in (xv_t5 148 (by decide +kernel)) rfl
theorem wd_45 : Cond.selects RX9 yX9_workOf yX9_workOf ∈ xv_g := xv_in (xv_t0 45 (by decide +kernel)) rfl
theorem ln_X9_219 : xv_lV RX9 219 yX9_workOf mX9_workOf 4 := ⟨wd_1160, wd_1162, wd_45, wd_64, wd_1163, rfl, ⟨by decide +kernel, by decide +kernel, by decide +kernel⟩⟩
theorem wd_1167 : Cond.code yX9_drinkOf cX9_drinkOf 7 (some .int) ∈ xv_g := xv_in (xv_t5 153 rfl) rfl
theorem wd_1164 : Cond.methodLink RX9 222 yX9_drinkOf ∈ xv_g := xv_in (xv_t5 150 (by decide +kernel)) rfl
theorem wd_1166 : Cond.instanceMethod yX9_drinkOf ∈ xv_g := xv_in (xv_t5 152 (by decide +kernel)) rfl
theorem wd_46 : Cond.selects RX9 yX9_drinkOf yX9_drinkOf ∈ xv_g := xv_in (xv_t0 46 (by decide +kernel)) rfl
theorem ln_X9_222 : xv_lV RX9 222 yX9_drinkOf mX9_drinkOf 4 := ⟨wd_1164, wd_1166, wd_46, wd_64, wd_1167, rfl, ⟨by decide +kernel, by decide +kernel, by decide +kernel⟩⟩
theorem wd_1177 : Cond.constantLong RX9 225 (-1) ∈ xv_g := xv_in (xv_t5 163 (by decide +kernel)) rfl
abbrev kc_X9_225 := wd_1177
theorem wd_1178 : Cond.constantLong RX9 227 (5000) ∈ xv_g := xv_in (xv_t5 164 (by decide +kernel)) rfl
abbrev kc_X9_227 := wd_1178
theorem wd_1172 : Cond.constantLong RX9 229 (48) ∈ xv_g := xv_in (xv_t5 158 (by decide +kernel)) rfl
abbrev kc_X9_229 := wd_1172
theorem wd_1176 : Cond.code yX9_isCard cX9_isCard 5 (some .boolean) ∈ xv_g := xv_in (xv_t5 162 rfl) rfl
theorem wd_1173 : Cond.methodLink RX9 231 yX9_isCard ∈ xv_g := xv_in (xv_t5 159 (by decide +kernel)) rfl
theorem wd_1175 : Cond.instanceMethod yX9_isCard ∈ xv_g := xv_in (xv_t5 161 (by decide +kernel)) rfl
theorem wd_47 : Cond.selects RX9 yX9_isCard yX9_isCard ∈ xv_g := xv_in (xv_t0 47 (by decide +kernel)) rfl
theorem ln_X9_231 : xv_lV RX9 231 yX9_isCard mX9_isCard 2 := ⟨wd_1173, wd_1175, wd_47, wd_64, wd_1176, rfl, ⟨by decide +kernel, by decide +kernel, by decide +kernel⟩⟩
theorem wd_1190 : Cond.code yX9_size cX9_size 1 (some .int) ∈ xv_g := xv_in (xv_t5 176 rfl) rfl
theorem wd_1188 : Cond.methodLink RX9 234 yX9_size ∈ xv_g := xv_in (xv_t5 174 (by decide +kernel)) rfl
theorem wd_1189 : Cond.static yX9_size ∈ xv_g := xv_in (xv_t5 175 (by decide +kernel)) rfl
theorem ln_X9_234 : xv_lS RX9 234 yX9_size mX9_size 1 := ⟨Or.inl wd_1188, wd_1189, wd_64, wd_1190, ⟨by decide +kernel, by decide +kernel, by decide +kernel⟩⟩
theorem wd_1183 : Cond.constant RX9 237 (-1000002) ∈ xv_g := xv_in (xv_t5 169 (by decide +kernel)) rfl
abbrev kc_X9_237 := wd_1183
theorem wd_1187 : Cond.code yX9_misfitOf cX9_misfitOf 6 (some .int) ∈ xv_g := xv_in (xv_t5 173 rfl) rfl
theorem wd_1184 : Cond.methodLink RX9 238 yX9_misfitOf ∈ xv_g := xv_in (xv_t5 170 (by decide +kernel)) rfl
theorem wd_1186 : Cond.instanceMethod yX9_misfitOf ∈ xv_g := xv_in (xv_t5 172 (by decide +kernel)) rfl
theorem wd_48 : Cond.selects RX9 yX9_misfitOf yX9_misfitOf ∈ xv_g := xv_in (xv_t0 48 (by decide +kernel)) rfl
theorem ln_X9_238 : xv_lV RX9 238 yX9_misfitOf mX9_misfitOf 2 := ⟨wd_1184, wd_1186, wd_48, wd_64, wd_1187, rfl, ⟨by decide +kernel, by decide +kernel, by decide +kernel⟩⟩
theorem wd_1195 : Cond.constantLong RX9 241 (100000) ∈ xv_g := xv_in (xv_t5 181 (by decide +kernel)) rfl
abbrev kc_X9_241 := wd_1195
theorem wd_885 : Cond.fieldLink RX9 243 "ValveShopModel" "planned" "I" ∈ xv_g := xv_in (xv_t4 111 (by decide +kernel)) rfl
theorem fl_X9_243 : xv_fl RX9 243 9 21 false .int := ⟨RX9, TX9, 33, tyX9, rfl, cw_X9, by decide, wd_885, rfl, rfl, tyX9_ok 21 (by decide), tyX9_ok, nmX9⟩
theorem wd_890 : Cond.fieldLink RX9 246 "ValveShopModel" "heap" "I" ∈ xv_g := xv_in (xv_t4 116 (by decide +kernel)) rfl
theorem fl_X9_246 : xv_fl RX9 246 9 26 false .int := ⟨RX9, TX9, 33, tyX9, rfl, cw_X9, by decide, wd_890, rfl, rfl, tyX9_ok 26 (by decide), tyX9_ok, nmX9⟩
theorem wd_1216 : Cond.constant RX9 249 (-1000003) ∈ xv_g := xv_in (xv_t5 202 (by decide +kernel)) rfl
abbrev kc_X9_249 := wd_1216
theorem wd_894 : Cond.fieldLink RX9 250 "ValveShopModel" "minutesGone" "I" ∈ xv_g := xv_in (xv_t4 120 (by decide +kernel)) rfl
theorem fl_X9_250 : xv_fl RX9 250 9 30 false .int := ⟨RX9, TX9, 33, tyX9, rfl, cw_X9, by decide, wd_894, rfl, rfl, tyX9_ok 30 (by decide), tyX9_ok, nmX9⟩
theorem wd_891 : Cond.fieldLink RX9 253 "ValveShopModel" "burnt" "I" ∈ xv_g := xv_in (xv_t4 117 (by decide +kernel)) rfl
theorem fl_X9_253 : xv_fl RX9 253 9 27 false .int := ⟨RX9, TX9, 33, tyX9, rfl, cw_X9, by decide, wd_891, rfl, rfl, tyX9_ok 27 (by decide), tyX9_ok, nmX9⟩
theorem wd_889 : Cond.fieldLink RX9 256 "ValveShopModel" "gauge" "I" ∈ xv_g := xv_in (xv_t4 115 (by decide +kernel)) rfl
theorem fl_X9_256 : xv_fl RX9 256 9 25 false .int := ⟨RX9, TX9, 33, tyX9, rfl, cw_X9, by decide, wd_889, rfl, rfl, tyX9_ok 25 (by decide), tyX9_ok, nmX9⟩
theorem wd_892 : Cond.fieldLink RX9 259 "ValveShopModel" "taken" "I" ∈ xv_g := xv_in (xv_t4 118 (by decide +kernel)) rfl
theorem fl_X9_259 : xv_fl RX9 259 9 28 false .int := ⟨RX9, TX9, 33, tyX9, rfl, cw_X9, by decide, wd_892, rfl, rfl, tyX9_ok 28 (by decide), tyX9_ok, nmX9⟩
theorem wd_893 : Cond.fieldLink RX9 262 "ValveShopModel" "blown" "I" ∈ xv_g := xv_in (xv_t4 119 (by decide +kernel)) rfl
theorem fl_X9_262 : xv_fl RX9 262 9 29 false .int := ⟨RX9, TX9, 33, tyX9, rfl, cw_X9, by decide, wd_893, rfl, rfl, tyX9_ok 29 (by decide), tyX9_ok, nmX9⟩
theorem wd_1232 : Cond.code yX9_kindOf cX9_kindOf 2 (some .int) ∈ xv_g := xv_in (xv_t5 218 rfl) rfl
theorem wd_1229 : Cond.methodLink RX9 265 yX9_kindOf ∈ xv_g := xv_in (xv_t5 215 (by decide +kernel)) rfl
theorem wd_1231 : Cond.instanceMethod yX9_kindOf ∈ xv_g := xv_in (xv_t5 217 (by decide +kernel)) rfl
theorem wd_49 : Cond.selects RX9 yX9_kindOf yX9_kindOf ∈ xv_g := xv_in (xv_t0 49 (by decide +kernel)) rfl
theorem ln_X9_265 : xv_lV RX9 265 yX9_kindOf mX9_kindOf 1 := ⟨wd_1229, wd_1231, wd_49, wd_64, wd_1232, rfl, ⟨by decide +kernel, by decide +kernel, by decide +kernel⟩⟩
theorem wd_1239 : Cond.code yX9_isOf cX9_isOf 2 (some .boolean) ∈ xv_g := xv_in (xv_t5 225 rfl) rfl
theorem wd_1237 : Cond.methodLink RX9 268 yX9_isOf ∈ xv_g := xv_in (xv_t5 223 (by decide +kernel)) rfl
theorem wd_1238 : Cond.static yX9_isOf ∈ xv_g := xv_in (xv_t5 224 (by decide +kernel)) rfl
theorem ln_X9_268 : xv_lS RX9 268 yX9_isOf mX9_isOf 2 := ⟨Or.inl wd_1237, wd_1238, wd_64, wd_1239, ⟨by decide +kernel, by decide +kernel, by decide +kernel⟩⟩
theorem wd_896 : Cond.fieldLink RX9 271 "ValveShopModel" "traced" "I" ∈ xv_g := xv_in (xv_t4 122 (by decide +kernel)) rfl
theorem fl_X9_271 : xv_fl RX9 271 9 32 false .int := ⟨RX9, TX9, 33, tyX9, rfl, cw_X9, by decide, wd_896, rfl, rfl, tyX9_ok 32 (by decide), tyX9_ok, nmX9⟩
theorem wd_1259 : Cond.code yX9_began cX9_began 2 none ∈ xv_g := xv_in (xv_t6 5 rfl) rfl
theorem wd_1256 : Cond.methodLink RX9 274 yX9_began ∈ xv_g := xv_in (xv_t6 2 (by decide +kernel)) rfl
theorem wd_1258 : Cond.instanceMethod yX9_began ∈ xv_g := xv_in (xv_t6 4 (by decide +kernel)) rfl
theorem wd_52 : Cond.selects RX9 yX9_began yX9_began ∈ xv_g := xv_in (xv_t0 52 (by decide +kernel)) rfl
theorem ln_X9_274 : xv_lV RX9 274 yX9_began mX9_began 1 := ⟨wd_1256, wd_1258, wd_52, wd_64, wd_1259, rfl, ⟨by decide +kernel, by decide +kernel, by decide +kernel⟩⟩
theorem wd_1255 : Cond.code yX9_sickWorth cX9_sickWorth 4 (some .int) ∈ xv_g := xv_in (xv_t6 1 rfl) rfl
theorem wd_1252 : Cond.methodLink RX9 278 yX9_sickWorth ∈ xv_g := xv_in (xv_t5 238 (by decide +kernel)) rfl
theorem wd_1254 : Cond.instanceMethod yX9_sickWorth ∈ xv_g := xv_in (xv_t6 0 (by decide +kernel)) rfl
theorem wd_51 : Cond.selects RX9 yX9_sickWorth yX9_sickWorth ∈ xv_g := xv_in (xv_t0 51 (by decide +kernel)) rfl
theorem ln_X9_278 : xv_lV RX9 278 yX9_sickWorth mX9_sickWorth 2 := ⟨wd_1252, wd_1254, wd_51, wd_64, wd_1255, rfl, ⟨by decide +kernel, by decide +kernel, by decide +kernel⟩⟩
theorem wd_1263 : Cond.code yX9_marked cX9_marked 4 (some .int) ∈ xv_g := xv_in (xv_t6 9 rfl) rfl
theorem wd_1260 : Cond.methodLink RX9 281 yX9_marked ∈ xv_g := xv_in (xv_t6 6 (by decide +kernel)) rfl
theorem wd_1262 : Cond.instanceMethod yX9_marked ∈ xv_g := xv_in (xv_t6 8 (by decide +kernel)) rfl
theorem wd_53 : Cond.selects RX9 yX9_marked yX9_marked ∈ xv_g := xv_in (xv_t0 53 (by decide +kernel)) rfl
theorem ln_X9_281 : xv_lV RX9 281 yX9_marked mX9_marked 2 := ⟨wd_1260, wd_1262, wd_53, wd_64, wd_1263, rfl, ⟨by decide +kernel, by decide +kernel, by decide +kernel⟩⟩
theorem wd_1251 : Cond.code yX9_worth cX9_worth 4 (some .int) ∈ xv_g := xv_in (xv_t5 237 rfl) rfl
theorem wd_1248 : Cond.methodLink RX9 284 yX9_worth ∈ xv_g := xv_in (xv_t5 234 (by decide +kernel)) rfl
theorem wd_1250 : Cond.instanceMethod yX9_worth ∈ xv_g := xv_in (xv_t5 236 (by decide +kernel)) rfl
theorem wd_50 : Cond.selects RX9 yX9_worth yX9_worth ∈ xv_g := xv_in (xv_t0 50 (by decide +kernel)) rfl
theorem ln_X9_284 : xv_lV RX9 284 yX9_worth mX9_worth 2 := ⟨wd_1248, wd_1250, wd_50, wd_64, wd_1251, rfl, ⟨by decide +kernel, by decide +kernel, by decide +kernel⟩⟩
theorem wd_68 : Cond.classLink RL 7 RX8 ∈ xv_g := xv_in (xv_t1 14 (by decide +kernel)) rfl
theorem wd_69 : Cond.instantiable RX8 13 ∈ xv_g := xv_in (xv_t1 15 (by decide +kernel)) rfl
theorem nw_L_7 : Cond.classLink RL 7 RX8 ∈ xv_g ∧ Cond.instantiable RX8 13 ∈ xv_g ∧ Cond.initialized RX8 ∈ xv_g := ⟨wd_68, wd_69, wd_55⟩
theorem wd_72 : Cond.code yX8_init cX8_init 2 none ∈ xv_g := xv_in (xv_t1 18 rfl) rfl
theorem wd_70 : Cond.methodLink RL 9 yX8_init ∈ xv_g := xv_in (xv_t1 16 (by decide +kernel)) rfl
theorem wd_71 : Cond.instanceMethod yX8_init ∈ xv_g := xv_in (xv_t1 17 (by decide +kernel)) rfl
theorem ln_L_9 : xv_lI RL 9 yX8_init mX8_init 0 := ⟨Or.inl wd_70, wd_71, wd_55, wd_72, rfl, rfl, ⟨by decide +kernel, by decide +kernel, by decide +kernel⟩⟩
theorem wd_858 : Cond.classLink RL 10 RX9 ∈ xv_g := xv_in (xv_t4 84 (by decide +kernel)) rfl
theorem wd_859 : Cond.instantiable RX9 33 ∈ xv_g := xv_in (xv_t4 85 (by decide +kernel)) rfl
theorem nw_L_10 : Cond.classLink RL 10 RX9 ∈ xv_g ∧ Cond.instantiable RX9 33 ∈ xv_g ∧ Cond.initialized RX9 ∈ xv_g := ⟨wd_858, wd_859, wd_64⟩
theorem wd_862 : Cond.code yX9_init cX9_init 1 none ∈ xv_g := xv_in (xv_t4 88 rfl) rfl
theorem wd_860 : Cond.methodLink RL 12 yX9_init ∈ xv_g := xv_in (xv_t4 86 (by decide +kernel)) rfl
theorem wd_861 : Cond.instanceMethod yX9_init ∈ xv_g := xv_in (xv_t4 87 (by decide +kernel)) rfl
theorem ln_L_12 : xv_lI RL 12 yX9_init mX9_init 0 := ⟨Or.inl wd_860, wd_861, wd_64, wd_862, rfl, rfl, ⟨by decide +kernel, by decide +kernel, by decide +kernel⟩⟩
theorem wd_324 : Cond.code yX8_sheet cX8_sheet 4 (some .int) ∈ xv_g := xv_in (xv_t2 30 rfl) rfl
theorem wd_321 : Cond.methodLink RL 13 yX8_sheet ∈ xv_g := xv_in (xv_t2 27 (by decide +kernel)) rfl
theorem wd_322 : Cond.instanceMethod yX8_sheet ∈ xv_g := xv_in (xv_t2 28 (by decide +kernel)) rfl
theorem wd_323 : Cond.selects RX8 yX8_sheet yX8_sheet ∈ xv_g := xv_in (xv_t2 29 (by decide +kernel)) rfl
theorem ln_L_13 : xv_lV RL 13 yX8_sheet mX8_sheet 3 := ⟨wd_321, wd_322, wd_323, wd_55, wd_324, rfl, ⟨by decide +kernel, by decide +kernel, by decide +kernel⟩⟩
theorem wd_968 : Cond.code yX9_sheet cX9_sheet 5 (some .int) ∈ xv_g := xv_in (xv_t4 194 rfl) rfl
theorem wd_965 : Cond.methodLink RL 17 yX9_sheet ∈ xv_g := xv_in (xv_t4 191 (by decide +kernel)) rfl
theorem wd_966 : Cond.instanceMethod yX9_sheet ∈ xv_g := xv_in (xv_t4 192 (by decide +kernel)) rfl
theorem wd_967 : Cond.selects RX9 yX9_sheet yX9_sheet ∈ xv_g := xv_in (xv_t4 193 (by decide +kernel)) rfl
theorem ln_L_17 : xv_lV RL 17 yX9_sheet mX9_sheet 3 := ⟨wd_965, wd_966, wd_967, wd_64, wd_968, rfl, ⟨by decide +kernel, by decide +kernel, by decide +kernel⟩⟩
theorem wd_348 : Cond.code yX8_set cX8_set 5 (some .int) ∈ xv_g := xv_in (xv_t2 54 rfl) rfl
theorem wd_345 : Cond.methodLink RL 18 yX8_set ∈ xv_g := xv_in (xv_t2 51 (by decide +kernel)) rfl
theorem wd_346 : Cond.instanceMethod yX8_set ∈ xv_g := xv_in (xv_t2 52 (by decide +kernel)) rfl
theorem wd_347 : Cond.selects RX8 yX8_set yX8_set ∈ xv_g := xv_in (xv_t2 53 (by decide +kernel)) rfl
theorem ln_L_18 : xv_lV RL 18 yX8_set mX8_set 3 := ⟨wd_345, wd_346, wd_347, wd_55, wd_348, rfl, ⟨by decide +kernel, by decide +kernel, by decide +kernel⟩⟩
theorem wd_986 : Cond.code yX9_set cX9_set 4 (some .int) ∈ xv_g := xv_in (xv_t4 212 rfl) rfl
theorem wd_983 : Cond.methodLink RL 21 yX9_set ∈ xv_g := xv_in (xv_t4 209 (by decide +kernel)) rfl
theorem wd_984 : Cond.instanceMethod yX9_set ∈ xv_g := xv_in (xv_t4 210 (by decide +kernel)) rfl
theorem wd_985 : Cond.selects RX9 yX9_set yX9_set ∈ xv_g := xv_in (xv_t4 211 (by decide +kernel)) rfl
theorem ln_L_21 : xv_lV RL 21 yX9_set mX9_set 3 := ⟨wd_983, wd_984, wd_985, wd_64, wd_986, rfl, ⟨by decide +kernel, by decide +kernel, by decide +kernel⟩⟩
theorem wd_365 : Cond.code yX8_copy cX8_copy 8 (some .int) ∈ xv_g := xv_in (xv_t2 71 rfl) rfl
theorem wd_362 : Cond.methodLink RL 22 yX8_copy ∈ xv_g := xv_in (xv_t2 68 (by decide +kernel)) rfl
theorem wd_363 : Cond.instanceMethod yX8_copy ∈ xv_g := xv_in (xv_t2 69 (by decide +kernel)) rfl
theorem wd_364 : Cond.selects RX8 yX8_copy yX8_copy ∈ xv_g := xv_in (xv_t2 70 (by decide +kernel)) rfl
theorem ln_L_22 : xv_lV RL 22 yX8_copy mX8_copy 5 := ⟨wd_362, wd_363, wd_364, wd_55, wd_365, rfl, ⟨by decide +kernel, by decide +kernel, by decide +kernel⟩⟩
theorem wd_990 : Cond.code yX9_copy cX9_copy 9 (some .int) ∈ xv_g := xv_in (xv_t4 216 rfl) rfl
theorem wd_987 : Cond.methodLink RL 26 yX9_copy ∈ xv_g := xv_in (xv_t4 213 (by decide +kernel)) rfl
theorem wd_988 : Cond.instanceMethod yX9_copy ∈ xv_g := xv_in (xv_t4 214 (by decide +kernel)) rfl
theorem wd_989 : Cond.selects RX9 yX9_copy yX9_copy ∈ xv_g := xv_in (xv_t4 215 (by decide +kernel)) rfl
theorem ln_L_26 : xv_lV RL 26 yX9_copy mX9_copy 5 := ⟨wd_987, wd_988, wd_989, wd_64, wd_990, rfl, ⟨by decide +kernel, by decide +kernel, by decide +kernel⟩⟩
theorem wd_372 : Cond.code yX8_drop cX8_drop 3 (some .int) ∈ xv_g := xv_in (xv_t2 78 rfl) rfl
theorem wd_369 : Cond.methodLink RL 27 yX8_drop ∈ xv_g := xv_in (xv_t2 75 (by decide +kernel)) rfl
theorem wd_370 : Cond.instanceMethod yX8_drop ∈ xv_g := xv_in (xv_t2 76 (by decide +kernel)) rfl
theorem wd_371 : Cond.selects RX8 yX8_drop yX8_drop ∈ xv_g := xv_in (xv_t2 77 (by decide +kernel)) rfl
theorem ln_L_27 : xv_lV RL 27 yX8_drop mX8_drop 1 := ⟨wd_369, wd_370, wd_371, wd_55, wd_372, rfl, ⟨by decide +kernel, by decide +kernel, by decide +kernel⟩⟩
theorem wd_994 : Cond.code yX9_drop cX9_drop 2 (some .int) ∈ xv_g := xv_in (xv_t4 220 rfl) rfl
theorem wd_991 : Cond.methodLink RL 31 yX9_drop ∈ xv_g := xv_in (xv_t4 217 (by decide +kernel)) rfl
theorem wd_992 : Cond.instanceMethod yX9_drop ∈ xv_g := xv_in (xv_t4 218 (by decide +kernel)) rfl
theorem wd_993 : Cond.selects RX9 yX9_drop yX9_drop ∈ xv_g := xv_in (xv_t4 219 (by decide +kernel)) rfl
theorem ln_L_31 : xv_lV RL 31 yX9_drop mX9_drop 1 := ⟨wd_991, wd_992, wd_993, wd_64, wd_994, rfl, ⟨by decide +kernel, by decide +kernel, by decide +kernel⟩⟩
theorem wd_376 : Cond.code yX8_engine cX8_engine 6 (some .int) ∈ xv_g := xv_in (xv_t2 82 rfl) rfl
theorem wd_373 : Cond.methodLink RL 32 yX8_engine ∈ xv_g := xv_in (xv_t2 79 (by decide +kernel)) rfl
theorem wd_374 : Cond.instanceMethod yX8_engine ∈ xv_g := xv_in (xv_t2 80 (by decide +kernel)) rfl
theorem wd_375 : Cond.selects RX8 yX8_engine yX8_engine ∈ xv_g := xv_in (xv_t2 81 (by decide +kernel)) rfl
theorem ln_L_32 : xv_lV RL 32 yX8_engine mX8_engine 3 := ⟨wd_373, wd_374, wd_375, wd_55, wd_376, rfl, ⟨by decide +kernel, by decide +kernel, by decide +kernel⟩⟩
theorem wd_998 : Cond.code yX9_engine cX9_engine 5 (some .int) ∈ xv_g := xv_in (xv_t4 224 rfl) rfl
theorem wd_995 : Cond.methodLink RL 35 yX9_engine ∈ xv_g := xv_in (xv_t4 221 (by decide +kernel)) rfl
theorem wd_996 : Cond.instanceMethod yX9_engine ∈ xv_g := xv_in (xv_t4 222 (by decide +kernel)) rfl
theorem wd_997 : Cond.selects RX9 yX9_engine yX9_engine ∈ xv_g := xv_in (xv_t4 223 (by decide +kernel)) rfl
theorem ln_L_35 : xv_lV RL 35 yX9_engine mX9_engine 3 := ⟨wd_995, wd_996, wd_997, wd_64, wd_998, rfl, ⟨by decide +kernel, by decide +kernel, by decide +kernel⟩⟩
theorem wd_399 : Cond.code yX8_adjust cX8_adjust 6 (some .int) ∈ xv_g := xv_in (xv_t2 105 rfl) rfl
theorem wd_396 : Cond.methodLink RL 36 yX8_adjust ∈ xv_g := xv_in (xv_t2 102 (by decide +kernel)) rfl
theorem wd_397 : Cond.instanceMethod yX8_adjust ∈ xv_g := xv_in (xv_t2 103 (by decide +kernel)) rfl
theorem wd_398 : Cond.selects RX8 yX8_adjust yX8_adjust ∈ xv_g := xv_in (xv_t2 104 (by decide +kernel)) rfl
theorem ln_L_36 : xv_lV RL 36 yX8_adjust mX8_adjust 3 := ⟨wd_396, wd_397, wd_398, wd_55, wd_399, rfl, ⟨by decide +kernel, by decide +kernel, by decide +kernel⟩⟩
theorem wd_1018 : Cond.code yX9_adjust cX9_adjust 6 (some .int) ∈ xv_g := xv_in (xv_t5 4 rfl) rfl
theorem wd_1015 : Cond.methodLink RL 39 yX9_adjust ∈ xv_g := xv_in (xv_t5 1 (by decide +kernel)) rfl
theorem wd_1016 : Cond.instanceMethod yX9_adjust ∈ xv_g := xv_in (xv_t5 2 (by decide +kernel)) rfl
theorem wd_1017 : Cond.selects RX9 yX9_adjust yX9_adjust ∈ xv_g := xv_in (xv_t5 3 (by decide +kernel)) rfl
theorem ln_L_39 : xv_lV RL 39 yX9_adjust mX9_adjust 3 := ⟨wd_1015, wd_1016, wd_1017, wd_64, wd_1018, rfl, ⟨by decide +kernel, by decide +kernel, by decide +kernel⟩⟩
theorem wd_407 : Cond.code yX8_sicken cX8_sicken 5 (some .int) ∈ xv_g := xv_in (xv_t2 113 rfl) rfl
theorem wd_404 : Cond.methodLink RL 40 yX8_sicken ∈ xv_g := xv_in (xv_t2 110 (by decide +kernel)) rfl
theorem wd_405 : Cond.instanceMethod yX8_sicken ∈ xv_g := xv_in (xv_t2 111 (by decide +kernel)) rfl
theorem wd_406 : Cond.selects RX8 yX8_sicken yX8_sicken ∈ xv_g := xv_in (xv_t2 112 (by decide +kernel)) rfl
theorem ln_L_40 : xv_lV RL 40 yX8_sicken mX8_sicken 2 := ⟨wd_404, wd_405, wd_406, wd_55, wd_407, rfl, ⟨by decide +kernel, by decide +kernel, by decide +kernel⟩⟩
theorem wd_1026 : Cond.code yX9_sicken cX9_sicken 5 (some .int) ∈ xv_g := xv_in (xv_t5 12 rfl) rfl
theorem wd_1023 : Cond.methodLink RL 44 yX9_sicken ∈ xv_g := xv_in (xv_t5 9 (by decide +kernel)) rfl
theorem wd_1024 : Cond.instanceMethod yX9_sicken ∈ xv_g := xv_in (xv_t5 10 (by decide +kernel)) rfl
theorem wd_1025 : Cond.selects RX9 yX9_sicken yX9_sicken ∈ xv_g := xv_in (xv_t5 11 (by decide +kernel)) rfl
theorem ln_L_44 : xv_lV RL 44 yX9_sicken mX9_sicken 2 := ⟨wd_1023, wd_1024, wd_1025, wd_64, wd_1026, rfl, ⟨by decide +kernel, by decide +kernel, by decide +kernel⟩⟩
theorem wd_414 : Cond.code yX8_twin cX8_twin 4 (some .int) ∈ xv_g := xv_in (xv_t2 120 rfl) rfl
theorem wd_411 : Cond.methodLink RL 45 yX8_twin ∈ xv_g := xv_in (xv_t2 117 (by decide +kernel)) rfl
theorem wd_412 : Cond.instanceMethod yX8_twin ∈ xv_g := xv_in (xv_t2 118 (by decide +kernel)) rfl
theorem wd_413 : Cond.selects RX8 yX8_twin yX8_twin ∈ xv_g := xv_in (xv_t2 119 (by decide +kernel)) rfl
theorem ln_L_45 : xv_lV RL 45 yX8_twin mX8_twin 2 := ⟨wd_411, wd_412, wd_413, wd_55, wd_414, rfl, ⟨by decide +kernel, by decide +kernel, by decide +kernel⟩⟩
theorem wd_1031 : Cond.code yX9_twin cX9_twin 4 (some .int) ∈ xv_g := xv_in (xv_t5 17 rfl) rfl
theorem wd_1028 : Cond.methodLink RL 48 yX9_twin ∈ xv_g := xv_in (xv_t5 14 (by decide +kernel)) rfl
theorem wd_1029 : Cond.instanceMethod yX9_twin ∈ xv_g := xv_in (xv_t5 15 (by decide +kernel)) rfl
theorem wd_1030 : Cond.selects RX9 yX9_twin yX9_twin ∈ xv_g := xv_in (xv_t5 16 (by decide +kernel)) rfl
theorem ln_L_48 : xv_lV RL 48 yX9_twin mX9_twin 2 := ⟨wd_1028, wd_1029, wd_1030, wd_64, wd_1031, rfl, ⟨by decide +kernel, by decide +kernel, by decide +kernel⟩⟩
theorem wd_423 : Cond.code yX8_clear cX8_clear 3 (some .int) ∈ xv_g := xv_in (xv_t2 129 rfl) rfl
theorem wd_420 : Cond.methodLink RL 49 yX8_clear ∈ xv_g := xv_in (xv_t2 126 (by decide +kernel)) rfl
theorem wd_421 : Cond.instanceMethod yX8_clear ∈ xv_g := xv_in (xv_t2 127 (by decide +kernel)) rfl
theorem wd_422 : Cond.selects RX8 yX8_clear yX8_clear ∈ xv_g := xv_in (xv_t2 128 (by decide +kernel)) rfl
theorem ln_L_49 : xv_lV RL 49 yX8_clear mX8_clear 1 := ⟨wd_420, wd_421, wd_422, wd_55, wd_423, rfl, ⟨by decide +kernel, by decide +kernel, by decide +kernel⟩⟩
theorem wd_1039 : Cond.code yX9_clear cX9_clear 3 (some .int) ∈ xv_g := xv_in (xv_t5 25 rfl) rfl
theorem wd_1036 : Cond.methodLink RL 52 yX9_clear ∈ xv_g := xv_in (xv_t5 22 (by decide +kernel)) rfl
theorem wd_1037 : Cond.instanceMethod yX9_clear ∈ xv_g := xv_in (xv_t5 23 (by decide +kernel)) rfl
theorem wd_1038 : Cond.selects RX9 yX9_clear yX9_clear ∈ xv_g := xv_in (xv_t5 24 (by decide +kernel)) rfl
theorem ln_L_52 : xv_lV RL 52 yX9_clear mX9_clear 1 := ⟨wd_1036, wd_1037, wd_1038, wd_64, wd_1039, rfl, ⟨by decide +kernel, by decide +kernel, by decide +kernel⟩⟩
theorem wd_427 : Cond.code yX8_number cX8_number 4 (some .int) ∈ xv_g := xv_in (xv_t2 133 rfl) rfl
theorem wd_424 : Cond.methodLink RL 53 yX8_number ∈ xv_g := xv_in (xv_t2 130 (by decide +kernel)) rfl
theorem wd_425 : Cond.instanceMethod yX8_number ∈ xv_g := xv_in (xv_t2 131 (by decide +kernel)) rfl
theorem wd_426 : Cond.selects RX8 yX8_number yX8_number ∈ xv_g := xv_in (xv_t2 132 (by decide +kernel)) rfl
theorem ln_L_53 : xv_lV RL 53 yX8_number mX8_number 2 := ⟨wd_424, wd_425, wd_426, wd_55, wd_427, rfl, ⟨by decide +kernel, by decide +kernel, by decide +kernel⟩⟩
theorem wd_1043 : Cond.code yX9_number cX9_number 4 (some .int) ∈ xv_g := xv_in (xv_t5 29 rfl) rfl
theorem wd_1040 : Cond.methodLink RL 56 yX9_number ∈ xv_g := xv_in (xv_t5 26 (by decide +kernel)) rfl
theorem wd_1041 : Cond.instanceMethod yX9_number ∈ xv_g := xv_in (xv_t5 27 (by decide +kernel)) rfl
theorem wd_1042 : Cond.selects RX9 yX9_number yX9_number ∈ xv_g := xv_in (xv_t5 28 (by decide +kernel)) rfl
theorem ln_L_56 : xv_lV RL 56 yX9_number mX9_number 2 := ⟨wd_1040, wd_1041, wd_1042, wd_64, wd_1043, rfl, ⟨by decide +kernel, by decide +kernel, by decide +kernel⟩⟩
theorem wd_431 : Cond.code yX8_piston cX8_piston 4 (some .int) ∈ xv_g := xv_in (xv_t2 137 rfl) rfl
theorem wd_428 : Cond.methodLink RL 57 yX8_piston ∈ xv_g := xv_in (xv_t2 134 (by decide +kernel)) rfl
theorem wd_429 : Cond.instanceMethod yX8_piston ∈ xv_g := xv_in (xv_t2 135 (by decide +kernel)) rfl
theorem wd_430 : Cond.selects RX8 yX8_piston yX8_piston ∈ xv_g := xv_in (xv_t2 136 (by decide +kernel)) rfl
theorem ln_L_57 : xv_lV RL 57 yX8_piston mX8_piston 2 := ⟨wd_428, wd_429, wd_430, wd_55, wd_431, rfl, ⟨by decide +kernel, by decide +kernel, by decide +kernel⟩⟩
theorem wd_1047 : Cond.code yX9_piston cX9_piston 4 (some .int) ∈ xv_g := xv_in (xv_t5 33 rfl) rfl
theorem wd_1044 : Cond.methodLink RL 60 yX9_piston ∈ xv_g := xv_in (xv_t5 30 (by decide +kernel)) rfl
theorem wd_1045 : Cond.instanceMethod yX9_piston ∈ xv_g := xv_in (xv_t5 31 (by decide +kernel)) rfl
theorem wd_1046 : Cond.selects RX9 yX9_piston yX9_piston ∈ xv_g := xv_in (xv_t5 32 (by decide +kernel)) rfl
theorem ln_L_60 : xv_lV RL 60 yX9_piston mX9_piston 2 := ⟨wd_1044, wd_1045, wd_1046, wd_64, wd_1047, rfl, ⟨by decide +kernel, by decide +kernel, by decide +kernel⟩⟩
theorem wd_448 : Cond.code yX8_valve cX8_valve 5 (some .int) ∈ xv_g := xv_in (xv_t2 154 rfl) rfl
theorem wd_445 : Cond.methodLink RL 61 yX8_valve ∈ xv_g := xv_in (xv_t2 151 (by decide +kernel)) rfl
theorem wd_446 : Cond.instanceMethod yX8_valve ∈ xv_g := xv_in (xv_t2 152 (by decide +kernel)) rfl
theorem wd_447 : Cond.selects RX8 yX8_valve yX8_valve ∈ xv_g := xv_in (xv_t2 153 (by decide +kernel)) rfl
theorem ln_L_61 : xv_lV RL 61 yX8_valve mX8_valve 3 := ⟨wd_445, wd_446, wd_447, wd_55, wd_448, rfl, ⟨by decide +kernel, by decide +kernel, by decide +kernel⟩⟩
theorem wd_1069 : Cond.code yX9_valve cX9_valve 5 (some .int) ∈ xv_g := xv_in (xv_t5 55 rfl) rfl
theorem wd_1066 : Cond.methodLink RL 64 yX9_valve ∈ xv_g := xv_in (xv_t5 52 (by decide +kernel)) rfl
theorem wd_1067 : Cond.instanceMethod yX9_valve ∈ xv_g := xv_in (xv_t5 53 (by decide +kernel)) rfl
theorem wd_1068 : Cond.selects RX9 yX9_valve yX9_valve ∈ xv_g := xv_in (xv_t5 54 (by decide +kernel)) rfl
theorem ln_L_64 : xv_lV RL 64 yX9_valve mX9_valve 3 := ⟨wd_1066, wd_1067, wd_1068, wd_64, wd_1069, rfl, ⟨by decide +kernel, by decide +kernel, by decide +kernel⟩⟩
theorem wd_474 : Cond.code yX8_open cX8_open 7 (some .int) ∈ xv_g := xv_in (xv_t2 180 rfl) rfl
theorem wd_471 : Cond.methodLink RL 65 yX8_open ∈ xv_g := xv_in (xv_t2 177 (by decide +kernel)) rfl
theorem wd_472 : Cond.instanceMethod yX8_open ∈ xv_g := xv_in (xv_t2 178 (by decide +kernel)) rfl
theorem wd_473 : Cond.selects RX8 yX8_open yX8_open ∈ xv_g := xv_in (xv_t2 179 (by decide +kernel)) rfl
theorem ln_L_65 : xv_lV RL 65 yX8_open mX8_open 5 := ⟨wd_471, wd_472, wd_473, wd_55, wd_474, rfl, ⟨by decide +kernel, by decide +kernel, by decide +kernel⟩⟩
theorem wd_1086 : Cond.code yX9_open cX9_open 7 (some .int) ∈ xv_g := xv_in (xv_t5 72 rfl) rfl
theorem wd_1083 : Cond.methodLink RL 68 yX9_open ∈ xv_g := xv_in (xv_t5 69 (by decide +kernel)) rfl
theorem wd_1084 : Cond.instanceMethod yX9_open ∈ xv_g := xv_in (xv_t5 70 (by decide +kernel)) rfl
theorem wd_1085 : Cond.selects RX9 yX9_open yX9_open ∈ xv_g := xv_in (xv_t5 71 (by decide +kernel)) rfl
theorem ln_L_68 : xv_lV RL 68 yX9_open mX9_open 5 := ⟨wd_1083, wd_1084, wd_1085, wd_64, wd_1086, rfl, ⟨by decide +kernel, by decide +kernel, by decide +kernel⟩⟩
theorem wd_491 : Cond.code yX8_event cX8_event 6 (some .int) ∈ xv_g := xv_in (xv_t2 197 rfl) rfl
theorem wd_488 : Cond.methodLink RL 69 yX8_event ∈ xv_g := xv_in (xv_t2 194 (by decide +kernel)) rfl
theorem wd_489 : Cond.instanceMethod yX8_event ∈ xv_g := xv_in (xv_t2 195 (by decide +kernel)) rfl
theorem wd_490 : Cond.selects RX8 yX8_event yX8_event ∈ xv_g := xv_in (xv_t2 196 (by decide +kernel)) rfl
theorem ln_L_69 : xv_lV RL 69 yX8_event mX8_event 4 := ⟨wd_488, wd_489, wd_490, wd_55, wd_491, rfl, ⟨by decide +kernel, by decide +kernel, by decide +kernel⟩⟩
theorem wd_1098 : Cond.code yX9_event cX9_event 6 (some .int) ∈ xv_g := xv_in (xv_t5 84 rfl) rfl
theorem wd_1095 : Cond.methodLink RL 73 yX9_event ∈ xv_g := xv_in (xv_t5 81 (by decide +kernel)) rfl
theorem wd_1096 : Cond.instanceMethod yX9_event ∈ xv_g := xv_in (xv_t5 82 (by decide +kernel)) rfl
theorem wd_1097 : Cond.selects RX9 yX9_event yX9_event ∈ xv_g := xv_in (xv_t5 83 (by decide +kernel)) rfl
theorem ln_L_73 : xv_lV RL 73 yX9_event mX9_event 4 := ⟨wd_1095, wd_1096, wd_1097, wd_64, wd_1098, rfl, ⟨by decide +kernel, by decide +kernel, by decide +kernel⟩⟩
theorem wd_511 : Cond.code yX8_valves cX8_valves 4 (some .int) ∈ xv_g := xv_in (xv_t2 217 rfl) rfl
theorem wd_508 : Cond.methodLink RL 74 yX8_valves ∈ xv_g := xv_in (xv_t2 214 (by decide +kernel)) rfl
theorem wd_509 : Cond.instanceMethod yX8_valves ∈ xv_g := xv_in (xv_t2 215 (by decide +kernel)) rfl
theorem wd_510 : Cond.selects RX8 yX8_valves yX8_valves ∈ xv_g := xv_in (xv_t2 216 (by decide +kernel)) rfl
theorem ln_L_74 : xv_lV RL 74 yX8_valves mX8_valves 2 := ⟨wd_508, wd_509, wd_510, wd_55, wd_511, rfl, ⟨by decide +kernel, by decide +kernel, by decide +kernel⟩⟩
theorem wd_1108 : Cond.code yX9_valves cX9_valves 4 (some .int) ∈ xv_g := xv_in (xv_t5 94 rfl) rfl
theorem wd_1105 : Cond.methodLink RL 77 yX9_valves ∈ xv_g := xv_in (xv_t5 91 (by decide +kernel)) rfl
theorem wd_1106 : Cond.instanceMethod yX9_valves ∈ xv_g := xv_in (xv_t5 92 (by decide +kernel)) rfl
theorem wd_1107 : Cond.selects RX9 yX9_valves yX9_valves ∈ xv_g := xv_in (xv_t5 93 (by decide +kernel)) rfl
theorem ln_L_77 : xv_lV RL 77 yX9_valves mX9_valves 2 := ⟨wd_1105, wd_1106, wd_1107, wd_64, wd_1108, rfl, ⟨by decide +kernel, by decide +kernel, by decide +kernel⟩⟩
theorem wd_541 : Cond.code yX8_setting cX8_setting 4 (some .int) ∈ xv_g := xv_in (xv_t3 7 rfl) rfl
theorem wd_538 : Cond.methodLink RL 78 yX8_setting ∈ xv_g := xv_in (xv_t3 4 (by decide +kernel)) rfl
theorem wd_539 : Cond.instanceMethod yX8_setting ∈ xv_g := xv_in (xv_t3 5 (by decide +kernel)) rfl
theorem wd_540 : Cond.selects RX8 yX8_setting yX8_setting ∈ xv_g := xv_in (xv_t3 6 (by decide +kernel)) rfl
theorem ln_L_78 : xv_lV RL 78 yX8_setting mX8_setting 2 := ⟨wd_538, wd_539, wd_540, wd_55, wd_541, rfl, ⟨by decide +kernel, by decide +kernel, by decide +kernel⟩⟩
theorem wd_1120 : Cond.code yX9_setting cX9_setting 5 (some .int) ∈ xv_g := xv_in (xv_t5 106 rfl) rfl
theorem wd_1117 : Cond.methodLink RL 81 yX9_setting ∈ xv_g := xv_in (xv_t5 103 (by decide +kernel)) rfl
theorem wd_1118 : Cond.instanceMethod yX9_setting ∈ xv_g := xv_in (xv_t5 104 (by decide +kernel)) rfl
theorem wd_1119 : Cond.selects RX9 yX9_setting yX9_setting ∈ xv_g := xv_in (xv_t5 105 (by decide +kernel)) rfl
theorem ln_L_81 : xv_lV RL 81 yX9_setting mX9_setting 2 := ⟨wd_1117, wd_1118, wd_1119, wd_64, wd_1120, rfl, ⟨by decide +kernel, by decide +kernel, by decide +kernel⟩⟩
theorem wd_552 : Cond.code yX8_tune cX8_tune 4 (some .int) ∈ xv_g := xv_in (xv_t3 18 rfl) rfl
theorem wd_549 : Cond.methodLink RL 82 yX8_tune ∈ xv_g := xv_in (xv_t3 15 (by decide +kernel)) rfl
theorem wd_550 : Cond.instanceMethod yX8_tune ∈ xv_g := xv_in (xv_t3 16 (by decide +kernel)) rfl
theorem wd_551 : Cond.selects RX8 yX8_tune yX8_tune ∈ xv_g := xv_in (xv_t3 17 (by decide +kernel)) rfl
theorem ln_L_82 : xv_lV RL 82 yX8_tune mX8_tune 1 := ⟨wd_549, wd_550, wd_551, wd_55, wd_552, rfl, ⟨by decide +kernel, by decide +kernel, by decide +kernel⟩⟩
theorem wd_1128 : Cond.code yX9_tune cX9_tune 5 (some .int) ∈ xv_g := xv_in (xv_t5 114 rfl) rfl
theorem wd_1125 : Cond.methodLink RL 85 yX9_tune ∈ xv_g := xv_in (xv_t5 111 (by decide +kernel)) rfl
theorem wd_1126 : Cond.instanceMethod yX9_tune ∈ xv_g := xv_in (xv_t5 112 (by decide +kernel)) rfl
theorem wd_1127 : Cond.selects RX9 yX9_tune yX9_tune ∈ xv_g := xv_in (xv_t5 113 (by decide +kernel)) rfl
theorem ln_L_85 : xv_lV RL 85 yX9_tune mX9_tune 1 := ⟨wd_1125, wd_1126, wd_1127, wd_64, wd_1128, rfl, ⟨by decide +kernel, by decide +kernel, by decide +kernel⟩⟩
theorem wd_556 : Cond.code yX8_card cX8_card 8 (some .int) ∈ xv_g := xv_in (xv_t3 22 rfl) rfl
theorem wd_553 : Cond.methodLink RL 86 yX8_card ∈ xv_g := xv_in (xv_t3 19 (by decide +kernel)) rfl
theorem wd_554 : Cond.instanceMethod yX8_card ∈ xv_g := xv_in (xv_t3 20 (by decide +kernel)) rfl
theorem wd_555 : Cond.selects RX8 yX8_card yX8_card ∈ xv_g := xv_in (xv_t3 21 (by decide +kernel)) rfl
theorem ln_L_86 : xv_lV RL 86 yX8_card mX8_card 6 := ⟨wd_553, wd_554, wd_555, wd_55, wd_556, rfl, ⟨by decide +kernel, by decide +kernel, by decide +kernel⟩⟩
theorem wd_1132 : Cond.code yX9_card cX9_card 8 (some .int) ∈ xv_g := xv_in (xv_t5 118 rfl) rfl
theorem wd_1129 : Cond.methodLink RL 90 yX9_card ∈ xv_g := xv_in (xv_t5 115 (by decide +kernel)) rfl
theorem wd_1130 : Cond.instanceMethod yX9_card ∈ xv_g := xv_in (xv_t5 116 (by decide +kernel)) rfl
theorem wd_1131 : Cond.selects RX9 yX9_card yX9_card ∈ xv_g := xv_in (xv_t5 117 (by decide +kernel)) rfl
theorem ln_L_90 : xv_lV RL 90 yX9_card mX9_card 6 := ⟨wd_1129, wd_1130, wd_1131, wd_64, wd_1132, rfl, ⟨by decide +kernel, by decide +kernel, by decide +kernel⟩⟩
theorem wd_593 : Cond.code yX8_look cX8_look 8 (some .int) ∈ xv_g := xv_in (xv_t3 59 rfl) rfl
theorem wd_590 : Cond.methodLink RL 91 yX8_look ∈ xv_g := xv_in (xv_t3 56 (by decide +kernel)) rfl
theorem wd_591 : Cond.instanceMethod yX8_look ∈ xv_g := xv_in (xv_t3 57 (by decide +kernel)) rfl
theorem wd_592 : Cond.selects RX8 yX8_look yX8_look ∈ xv_g := xv_in (xv_t3 58 (by decide +kernel)) rfl
theorem ln_L_91 : xv_lV RL 91 yX8_look mX8_look 6 := ⟨wd_590, wd_591, wd_592, wd_55, wd_593, rfl, ⟨by decide +kernel, by decide +kernel, by decide +kernel⟩⟩
theorem wd_1155 : Cond.code yX9_look cX9_look 12 (some .int) ∈ xv_g := xv_in (xv_t5 141 rfl) rfl
theorem wd_1152 : Cond.methodLink RL 94 yX9_look ∈ xv_g := xv_in (xv_t5 138 (by decide +kernel)) rfl
theorem wd_1153 : Cond.instanceMethod yX9_look ∈ xv_g := xv_in (xv_t5 139 (by decide +kernel)) rfl
theorem wd_1154 : Cond.selects RX9 yX9_look yX9_look ∈ xv_g := xv_in (xv_t5 140 (by decide +kernel)) rfl
theorem ln_L_94 : xv_lV RL 94 yX9_look mX9_look 6 := ⟨wd_1152, wd_1153, wd_1154, wd_64, wd_1155, rfl, ⟨by decide +kernel, by decide +kernel, by decide +kernel⟩⟩
theorem wd_610 : Cond.code yX8_work cX8_work 7 (some .int) ∈ xv_g := xv_in (xv_t3 76 rfl) rfl
theorem wd_607 : Cond.methodLink RL 95 yX8_work ∈ xv_g := xv_in (xv_t3 73 (by decide +kernel)) rfl
theorem wd_608 : Cond.instanceMethod yX8_work ∈ xv_g := xv_in (xv_t3 74 (by decide +kernel)) rfl
theorem wd_609 : Cond.selects RX8 yX8_work yX8_work ∈ xv_g := xv_in (xv_t3 75 (by decide +kernel)) rfl
theorem ln_L_95 : xv_lV RL 95 yX8_work mX8_work 5 := ⟨wd_607, wd_608, wd_609, wd_55, wd_610, rfl, ⟨by decide +kernel, by decide +kernel, by decide +kernel⟩⟩
theorem wd_1159 : Cond.code yX9_work cX9_work 7 (some .int) ∈ xv_g := xv_in (xv_t5 145 rfl) rfl
theorem wd_1156 : Cond.methodLink RL 98 yX9_work ∈ xv_g := xv_in (xv_t5 142 (by decide +kernel)) rfl
theorem wd_1157 : Cond.instanceMethod yX9_work ∈ xv_g := xv_in (xv_t5 143 (by decide +kernel)) rfl
theorem wd_1158 : Cond.selects RX9 yX9_work yX9_work ∈ xv_g := xv_in (xv_t5 144 (by decide +kernel)) rfl
theorem ln_L_98 : xv_lV RL 98 yX9_work mX9_work 5 := ⟨wd_1156, wd_1157, wd_1158, wd_64, wd_1159, rfl, ⟨by decide +kernel, by decide +kernel, by decide +kernel⟩⟩
theorem wd_625 : Cond.code yX8_find cX8_find 8 (some .int) ∈ xv_g := xv_in (xv_t3 91 rfl) rfl
theorem wd_622 : Cond.methodLink RL 99 yX8_find ∈ xv_g := xv_in (xv_t3 88 (by decide +kernel)) rfl
theorem wd_623 : Cond.instanceMethod yX8_find ∈ xv_g := xv_in (xv_t3 89 (by decide +kernel)) rfl
theorem wd_624 : Cond.selects RX8 yX8_find yX8_find ∈ xv_g := xv_in (xv_t3 90 (by decide +kernel)) rfl
theorem ln_L_99 : xv_lV RL 99 yX8_find mX8_find 5 := ⟨wd_622, wd_623, wd_624, wd_55, wd_625, rfl, ⟨by decide +kernel, by decide +kernel, by decide +kernel⟩⟩
theorem wd_1171 : Cond.code yX9_find cX9_find 8 (some .int) ∈ xv_g := xv_in (xv_t5 157 rfl) rfl
theorem wd_1168 : Cond.methodLink RL 102 yX9_find ∈ xv_g := xv_in (xv_t5 154 (by decide +kernel)) rfl
theorem wd_1169 : Cond.instanceMethod yX9_find ∈ xv_g := xv_in (xv_t5 155 (by decide +kernel)) rfl
theorem wd_1170 : Cond.selects RX9 yX9_find yX9_find ∈ xv_g := xv_in (xv_t5 156 (by decide +kernel)) rfl
theorem ln_L_102 : xv_lV RL 102 yX9_find mX9_find 5 := ⟨wd_1168, wd_1169, wd_1170, wd_64, wd_1171, rfl, ⟨by decide +kernel, by decide +kernel, by decide +kernel⟩⟩
theorem wd_643 : Cond.code yX8_misfit cX8_misfit 5 (some .int) ∈ xv_g := xv_in (xv_t3 109 rfl) rfl
theorem wd_640 : Cond.methodLink RL 103 yX8_misfit ∈ xv_g := xv_in (xv_t3 106 (by decide +kernel)) rfl
theorem wd_641 : Cond.instanceMethod yX8_misfit ∈ xv_g := xv_in (xv_t3 107 (by decide +kernel)) rfl
theorem wd_642 : Cond.selects RX8 yX8_misfit yX8_misfit ∈ xv_g := xv_in (xv_t3 108 (by decide +kernel)) rfl
theorem ln_L_103 : xv_lV RL 103 yX8_misfit mX8_misfit 2 := ⟨wd_640, wd_641, wd_642, wd_55, wd_643, rfl, ⟨by decide +kernel, by decide +kernel, by decide +kernel⟩⟩
theorem wd_1182 : Cond.code yX9_misfit cX9_misfit 3 (some .int) ∈ xv_g := xv_in (xv_t5 168 rfl) rfl
theorem wd_1179 : Cond.methodLink RL 106 yX9_misfit ∈ xv_g := xv_in (xv_t5 165 (by decide +kernel)) rfl
theorem wd_1180 : Cond.instanceMethod yX9_misfit ∈ xv_g := xv_in (xv_t5 166 (by decide +kernel)) rfl
theorem wd_1181 : Cond.selects RX9 yX9_misfit yX9_misfit ∈ xv_g := xv_in (xv_t5 167 (by decide +kernel)) rfl
theorem ln_L_106 : xv_lV RL 106 yX9_misfit mX9_misfit 2 := ⟨wd_1179, wd_1180, wd_1181, wd_64, wd_1182, rfl, ⟨by decide +kernel, by decide +kernel, by decide +kernel⟩⟩
theorem wd_660 : Cond.code yX8_named cX8_named 6 (some .int) ∈ xv_g := xv_in (xv_t3 126 rfl) rfl
theorem wd_657 : Cond.methodLink RL 107 yX8_named ∈ xv_g := xv_in (xv_t3 123 (by decide +kernel)) rfl
theorem wd_658 : Cond.instanceMethod yX8_named ∈ xv_g := xv_in (xv_t3 124 (by decide +kernel)) rfl
theorem wd_659 : Cond.selects RX8 yX8_named yX8_named ∈ xv_g := xv_in (xv_t3 125 (by decide +kernel)) rfl
theorem ln_L_107 : xv_lV RL 107 yX8_named mX8_named 3 := ⟨wd_657, wd_658, wd_659, wd_55, wd_660, rfl, ⟨by decide +kernel, by decide +kernel, by decide +kernel⟩⟩
theorem wd_1194 : Cond.code yX9_named cX9_named 7 (some .int) ∈ xv_g := xv_in (xv_t5 180 rfl) rfl
theorem wd_1191 : Cond.methodLink RL 110 yX9_named ∈ xv_g := xv_in (xv_t5 177 (by decide +kernel)) rfl
theorem wd_1192 : Cond.instanceMethod yX9_named ∈ xv_g := xv_in (xv_t5 178 (by decide +kernel)) rfl
theorem wd_1193 : Cond.selects RX9 yX9_named yX9_named ∈ xv_g := xv_in (xv_t5 179 (by decide +kernel)) rfl
theorem ln_L_110 : xv_lV RL 110 yX9_named mX9_named 3 := ⟨wd_1191, wd_1192, wd_1193, wd_64, wd_1194, rfl, ⟨by decide +kernel, by decide +kernel, by decide +kernel⟩⟩
theorem wd_674 : Cond.code yX8_whose cX8_whose 6 (some .int) ∈ xv_g := xv_in (xv_t3 140 rfl) rfl
theorem wd_671 : Cond.methodLink RL 111 yX8_whose ∈ xv_g := xv_in (xv_t3 137 (by decide +kernel)) rfl
theorem wd_672 : Cond.instanceMethod yX8_whose ∈ xv_g := xv_in (xv_t3 138 (by decide +kernel)) rfl
theorem wd_673 : Cond.selects RX8 yX8_whose yX8_whose ∈ xv_g := xv_in (xv_t3 139 (by decide +kernel)) rfl
theorem ln_L_111 : xv_lV RL 111 yX8_whose mX8_whose 4 := ⟨wd_671, wd_672, wd_673, wd_55, wd_674, rfl, ⟨by decide +kernel, by decide +kernel, by decide +kernel⟩⟩
theorem wd_1199 : Cond.code yX9_whose cX9_whose 13 (some .int) ∈ xv_g := xv_in (xv_t5 185 rfl) rfl
theorem wd_1196 : Cond.methodLink RL 114 yX9_whose ∈ xv_g := xv_in (xv_t5 182 (by decide +kernel)) rfl
theorem wd_1197 : Cond.instanceMethod yX9_whose ∈ xv_g := xv_in (xv_t5 183 (by decide +kernel)) rfl
theorem wd_1198 : Cond.selects RX9 yX9_whose yX9_whose ∈ xv_g := xv_in (xv_t5 184 (by decide +kernel)) rfl
theorem ln_L_114 : xv_lV RL 114 yX9_whose mX9_whose 4 := ⟨wd_1196, wd_1197, wd_1198, wd_64, wd_1199, rfl, ⟨by decide +kernel, by decide +kernel, by decide +kernel⟩⟩
theorem wd_684 : Cond.code yX8_next cX8_next 6 (some .int) ∈ xv_g := xv_in (xv_t3 150 rfl) rfl
theorem wd_681 : Cond.methodLink RL 115 yX8_next ∈ xv_g := xv_in (xv_t3 147 (by decide +kernel)) rfl
theorem wd_682 : Cond.instanceMethod yX8_next ∈ xv_g := xv_in (xv_t3 148 (by decide +kernel)) rfl
theorem wd_683 : Cond.selects RX8 yX8_next yX8_next ∈ xv_g := xv_in (xv_t3 149 (by decide +kernel)) rfl
theorem ln_L_115 : xv_lV RL 115 yX8_next mX8_next 4 := ⟨wd_681, wd_682, wd_683, wd_55, wd_684, rfl, ⟨by decide +kernel, by decide +kernel, by decide +kernel⟩⟩
theorem wd_1203 : Cond.code yX9_next cX9_next 11 (some .int) ∈ xv_g := xv_in (xv_t5 189 rfl) rfl
theorem wd_1200 : Cond.methodLink RL 118 yX9_next ∈ xv_g := xv_in (xv_t5 186 (by decide +kernel)) rfl
theorem wd_1201 : Cond.instanceMethod yX9_next ∈ xv_g := xv_in (xv_t5 187 (by decide +kernel)) rfl
theorem wd_1202 : Cond.selects RX9 yX9_next yX9_next ∈ xv_g := xv_in (xv_t5 188 (by decide +kernel)) rfl
theorem ln_L_118 : xv_lV RL 118 yX9_next mX9_next 4 := ⟨wd_1200, wd_1201, wd_1202, wd_64, wd_1203, rfl, ⟨by decide +kernel, by decide +kernel, by decide +kernel⟩⟩
theorem wd_692 : Cond.code yX8_run cX8_run 9 (some .int) ∈ xv_g := xv_in (xv_t3 158 rfl) rfl
theorem wd_689 : Cond.methodLink RL 119 yX8_run ∈ xv_g := xv_in (xv_t3 155 (by decide +kernel)) rfl
theorem wd_690 : Cond.instanceMethod yX8_run ∈ xv_g := xv_in (xv_t3 156 (by decide +kernel)) rfl
theorem wd_691 : Cond.selects RX8 yX8_run yX8_run ∈ xv_g := xv_in (xv_t3 157 (by decide +kernel)) rfl
theorem ln_L_119 : xv_lV RL 119 yX8_run mX8_run 6 := ⟨wd_689, wd_690, wd_691, wd_55, wd_692, rfl, ⟨by decide +kernel, by decide +kernel, by decide +kernel⟩⟩
theorem wd_1207 : Cond.code yX9_run cX9_run 14 (some .int) ∈ xv_g := xv_in (xv_t5 193 rfl) rfl
theorem wd_1204 : Cond.methodLink RL 122 yX9_run ∈ xv_g := xv_in (xv_t5 190 (by decide +kernel)) rfl
theorem wd_1205 : Cond.instanceMethod yX9_run ∈ xv_g := xv_in (xv_t5 191 (by decide +kernel)) rfl
theorem wd_1206 : Cond.selects RX9 yX9_run yX9_run ∈ xv_g := xv_in (xv_t5 192 (by decide +kernel)) rfl
theorem ln_L_122 : xv_lV RL 122 yX9_run mX9_run 6 := ⟨wd_1204, wd_1205, wd_1206, wd_64, wd_1207, rfl, ⟨by decide +kernel, by decide +kernel, by decide +kernel⟩⟩
theorem wd_738 : Cond.code yX8_plan cX8_plan 3 (some .int) ∈ xv_g := xv_in (xv_t3 204 rfl) rfl
theorem wd_735 : Cond.methodLink RL 123 yX8_plan ∈ xv_g := xv_in (xv_t3 201 (by decide +kernel)) rfl
theorem wd_736 : Cond.instanceMethod yX8_plan ∈ xv_g := xv_in (xv_t3 202 (by decide +kernel)) rfl
theorem wd_737 : Cond.selects RX8 yX8_plan yX8_plan ∈ xv_g := xv_in (xv_t3 203 (by decide +kernel)) rfl
theorem ln_L_123 : xv_lV RL 123 yX8_plan mX8_plan 2 := ⟨wd_735, wd_736, wd_737, wd_55, wd_738, rfl, ⟨by decide +kernel, by decide +kernel, by decide +kernel⟩⟩
theorem wd_1211 : Cond.code yX9_plan cX9_plan 3 (some .int) ∈ xv_g := xv_in (xv_t5 197 rfl) rfl
theorem wd_1208 : Cond.methodLink RL 126 yX9_plan ∈ xv_g := xv_in (xv_t5 194 (by decide +kernel)) rfl
theorem wd_1209 : Cond.instanceMethod yX9_plan ∈ xv_g := xv_in (xv_t5 195 (by decide +kernel)) rfl
theorem wd_1210 : Cond.selects RX9 yX9_plan yX9_plan ∈ xv_g := xv_in (xv_t5 196 (by decide +kernel)) rfl
theorem ln_L_126 : xv_lV RL 126 yX9_plan mX9_plan 2 := ⟨wd_1208, wd_1209, wd_1210, wd_64, wd_1211, rfl, ⟨by decide +kernel, by decide +kernel, by decide +kernel⟩⟩
theorem wd_742 : Cond.code yX8_stoke cX8_stoke 2 (some .int) ∈ xv_g := xv_in (xv_t3 208 rfl) rfl
theorem wd_739 : Cond.methodLink RL 127 yX8_stoke ∈ xv_g := xv_in (xv_t3 205 (by decide +kernel)) rfl
theorem wd_740 : Cond.instanceMethod yX8_stoke ∈ xv_g := xv_in (xv_t3 206 (by decide +kernel)) rfl
theorem wd_741 : Cond.selects RX8 yX8_stoke yX8_stoke ∈ xv_g := xv_in (xv_t3 207 (by decide +kernel)) rfl
theorem ln_L_127 : xv_lV RL 127 yX8_stoke mX8_stoke 1 := ⟨wd_739, wd_740, wd_741, wd_55, wd_742, rfl, ⟨by decide +kernel, by decide +kernel, by decide +kernel⟩⟩
theorem wd_1215 : Cond.code yX9_stoke cX9_stoke 2 (some .int) ∈ xv_g := xv_in (xv_t5 201 rfl) rfl
theorem wd_1212 : Cond.methodLink RL 130 yX9_stoke ∈ xv_g := xv_in (xv_t5 198 (by decide +kernel)) rfl
theorem wd_1213 : Cond.instanceMethod yX9_stoke ∈ xv_g := xv_in (xv_t5 199 (by decide +kernel)) rfl
theorem wd_1214 : Cond.selects RX9 yX9_stoke yX9_stoke ∈ xv_g := xv_in (xv_t5 200 (by decide +kernel)) rfl
theorem ln_L_130 : xv_lV RL 130 yX9_stoke mX9_stoke 1 := ⟨wd_1212, wd_1213, wd_1214, wd_64, wd_1215, rfl, ⟨by decide +kernel, by decide +kernel, by decide +kernel⟩⟩
theorem wd_747 : Cond.code yX8_minute cX8_minute 5 (some .int) ∈ xv_g := xv_in (xv_t3 213 rfl) rfl
theorem wd_744 : Cond.methodLink RL 131 yX8_minute ∈ xv_g := xv_in (xv_t3 210 (by decide +kernel)) rfl
theorem wd_745 : Cond.instanceMethod yX8_minute ∈ xv_g := xv_in (xv_t3 211 (by decide +kernel)) rfl
theorem wd_746 : Cond.selects RX8 yX8_minute yX8_minute ∈ xv_g := xv_in (xv_t3 212 (by decide +kernel)) rfl
theorem ln_L_131 : xv_lV RL 131 yX8_minute mX8_minute 3 := ⟨wd_744, wd_745, wd_746, wd_55, wd_747, rfl, ⟨by decide +kernel, by decide +kernel, by decide +kernel⟩⟩
theorem wd_1220 : Cond.code yX9_minute cX9_minute 7 (some .int) ∈ xv_g := xv_in (xv_t5 206 rfl) rfl
theorem wd_1217 : Cond.methodLink RL 134 yX9_minute ∈ xv_g := xv_in (xv_t5 203 (by decide +kernel)) rfl
theorem wd_1218 : Cond.instanceMethod yX9_minute ∈ xv_g := xv_in (xv_t5 204 (by decide +kernel)) rfl
theorem wd_1219 : Cond.selects RX9 yX9_minute yX9_minute ∈ xv_g := xv_in (xv_t5 205 (by decide +kernel)) rfl
theorem ln_L_134 : xv_lV RL 134 yX9_minute mX9_minute 3 := ⟨wd_1217, wd_1218, wd_1219, wd_64, wd_1220, rfl, ⟨by decide +kernel, by decide +kernel, by decide +kernel⟩⟩
theorem wd_766 : Cond.code yX8_fire cX8_fire 2 (some .int) ∈ xv_g := xv_in (xv_t3 232 rfl) rfl
theorem wd_763 : Cond.methodLink RL 135 yX8_fire ∈ xv_g := xv_in (xv_t3 229 (by decide +kernel)) rfl
theorem wd_764 : Cond.instanceMethod yX8_fire ∈ xv_g := xv_in (xv_t3 230 (by decide +kernel)) rfl
theorem wd_765 : Cond.selects RX8 yX8_fire yX8_fire ∈ xv_g := xv_in (xv_t3 231 (by decide +kernel)) rfl
theorem ln_L_135 : xv_lV RL 135 yX8_fire mX8_fire 1 := ⟨wd_763, wd_764, wd_765, wd_55, wd_766, rfl, ⟨by decide +kernel, by decide +kernel, by decide +kernel⟩⟩
theorem wd_1224 : Cond.code yX9_fire cX9_fire 2 (some .int) ∈ xv_g := xv_in (xv_t5 210 rfl) rfl
theorem wd_1221 : Cond.methodLink RL 138 yX9_fire ∈ xv_g := xv_in (xv_t5 207 (by decide +kernel)) rfl
theorem wd_1222 : Cond.instanceMethod yX9_fire ∈ xv_g := xv_in (xv_t5 208 (by decide +kernel)) rfl
theorem wd_1223 : Cond.selects RX9 yX9_fire yX9_fire ∈ xv_g := xv_in (xv_t5 209 (by decide +kernel)) rfl
theorem ln_L_138 : xv_lV RL 138 yX9_fire mX9_fire 1 := ⟨wd_1221, wd_1222, wd_1223, wd_64, wd_1224, rfl, ⟨by decide +kernel, by decide +kernel, by decide +kernel⟩⟩
theorem wd_774 : Cond.code yX8_kind cX8_kind 3 (some .int) ∈ xv_g := xv_in (xv_t4 0 rfl) rfl
theorem wd_771 : Cond.methodLink RL 139 yX8_kind ∈ xv_g := xv_in (xv_t3 237 (by decide +kernel)) rfl
theorem wd_772 : Cond.instanceMethod yX8_kind ∈ xv_g := xv_in (xv_t3 238 (by decide +kernel)) rfl
theorem wd_773 : Cond.selects RX8 yX8_kind yX8_kind ∈ xv_g := xv_in (xv_t3 239 (by decide +kernel)) rfl
theorem ln_L_139 : xv_lV RL 139 yX8_kind mX8_kind 1 := ⟨wd_771, wd_772, wd_773, wd_55, wd_774, rfl, ⟨by decide +kernel, by decide +kernel, by decide +kernel⟩⟩
theorem wd_1228 : Cond.code yX9_kind cX9_kind 3 (some .int) ∈ xv_g := xv_in (xv_t5 214 rfl) rfl
theorem wd_1225 : Cond.methodLink RL 142 yX9_kind ∈ xv_g := xv_in (xv_t5 211 (by decide +kernel)) rfl
theorem wd_1226 : Cond.instanceMethod yX9_kind ∈ xv_g := xv_in (xv_t5 212 (by decide +kernel)) rfl
theorem wd_1227 : Cond.selects RX9 yX9_kind yX9_kind ∈ xv_g := xv_in (xv_t5 213 (by decide +kernel)) rfl
theorem ln_L_142 : xv_lV RL 142 yX9_kind mX9_kind 1 := ⟨wd_1225, wd_1226, wd_1227, wd_64, wd_1228, rfl, ⟨by decide +kernel, by decide +kernel, by decide +kernel⟩⟩
theorem wd_782 : Cond.code yX8_is cX8_is 4 (some .int) ∈ xv_g := xv_in (xv_t4 8 rfl) rfl
theorem wd_779 : Cond.methodLink RL 143 yX8_is ∈ xv_g := xv_in (xv_t4 5 (by decide +kernel)) rfl
theorem wd_780 : Cond.instanceMethod yX8_is ∈ xv_g := xv_in (xv_t4 6 (by decide +kernel)) rfl
theorem wd_781 : Cond.selects RX8 yX8_is yX8_is ∈ xv_g := xv_in (xv_t4 7 (by decide +kernel)) rfl
theorem ln_L_143 : xv_lV RL 143 yX8_is mX8_is 2 := ⟨wd_779, wd_780, wd_781, wd_55, wd_782, rfl, ⟨by decide +kernel, by decide +kernel, by decide +kernel⟩⟩
theorem wd_1236 : Cond.code yX9_is cX9_is 3 (some .int) ∈ xv_g := xv_in (xv_t5 222 rfl) rfl
theorem wd_1233 : Cond.methodLink RL 146 yX9_is ∈ xv_g := xv_in (xv_t5 219 (by decide +kernel)) rfl
theorem wd_1234 : Cond.instanceMethod yX9_is ∈ xv_g := xv_in (xv_t5 220 (by decide +kernel)) rfl
theorem wd_1235 : Cond.selects RX9 yX9_is yX9_is ∈ xv_g := xv_in (xv_t5 221 (by decide +kernel)) rfl
theorem ln_L_146 : xv_lV RL 146 yX9_is mX9_is 2 := ⟨wd_1233, wd_1234, wd_1235, wd_64, wd_1236, rfl, ⟨by decide +kernel, by decide +kernel, by decide +kernel⟩⟩
theorem wd_789 : Cond.code yX8_as cX8_as 4 (some .int) ∈ xv_g := xv_in (xv_t4 15 rfl) rfl
theorem wd_786 : Cond.methodLink RL 147 yX8_as ∈ xv_g := xv_in (xv_t4 12 (by decide +kernel)) rfl
theorem wd_787 : Cond.instanceMethod yX8_as ∈ xv_g := xv_in (xv_t4 13 (by decide +kernel)) rfl
theorem wd_788 : Cond.selects RX8 yX8_as yX8_as ∈ xv_g := xv_in (xv_t4 14 (by decide +kernel)) rfl
theorem ln_L_147 : xv_lV RL 147 yX8_as mX8_as 2 := ⟨wd_786, wd_787, wd_788, wd_55, wd_789, rfl, ⟨by decide +kernel, by decide +kernel, by decide +kernel⟩⟩
theorem wd_1243 : Cond.code yX9_as cX9_as 4 (some .int) ∈ xv_g := xv_in (xv_t5 229 rfl) rfl
theorem wd_1240 : Cond.methodLink RL 150 yX9_as ∈ xv_g := xv_in (xv_t5 226 (by decide +kernel)) rfl
theorem wd_1241 : Cond.instanceMethod yX9_as ∈ xv_g := xv_in (xv_t5 227 (by decide +kernel)) rfl
theorem wd_1242 : Cond.selects RX9 yX9_as yX9_as ∈ xv_g := xv_in (xv_t5 228 (by decide +kernel)) rfl
theorem ln_L_150 : xv_lV RL 150 yX9_as mX9_as 2 := ⟨wd_1240, wd_1241, wd_1242, wd_64, wd_1243, rfl, ⟨by decide +kernel, by decide +kernel, by decide +kernel⟩⟩
theorem wd_793 : Cond.code yX8_ask cX8_ask 5 (some .int) ∈ xv_g := xv_in (xv_t4 19 rfl) rfl
theorem wd_790 : Cond.methodLink RL 151 yX8_ask ∈ xv_g := xv_in (xv_t4 16 (by decide +kernel)) rfl
theorem wd_791 : Cond.instanceMethod yX8_ask ∈ xv_g := xv_in (xv_t4 17 (by decide +kernel)) rfl
theorem wd_792 : Cond.selects RX8 yX8_ask yX8_ask ∈ xv_g := xv_in (xv_t4 18 (by decide +kernel)) rfl
theorem ln_L_151 : xv_lV RL 151 yX8_ask mX8_ask 2 := ⟨wd_790, wd_791, wd_792, wd_55, wd_793, rfl, ⟨by decide +kernel, by decide +kernel, by decide +kernel⟩⟩
theorem wd_1247 : Cond.code yX9_ask cX9_ask 4 (some .int) ∈ xv_g := xv_in (xv_t5 233 rfl) rfl
theorem wd_1244 : Cond.methodLink RL 154 yX9_ask ∈ xv_g := xv_in (xv_t5 230 (by decide +kernel)) rfl
theorem wd_1245 : Cond.instanceMethod yX9_ask ∈ xv_g := xv_in (xv_t5 231 (by decide +kernel)) rfl
theorem wd_1246 : Cond.selects RX9 yX9_ask yX9_ask ∈ xv_g := xv_in (xv_t5 232 (by decide +kernel)) rfl
theorem ln_L_154 : xv_lV RL 154 yX9_ask mX9_ask 2 := ⟨wd_1244, wd_1245, wd_1246, wd_64, wd_1247, rfl, ⟨by decide +kernel, by decide +kernel, by decide +kernel⟩⟩
theorem wd_837 : Cond.code yX8_trace cX8_trace 2 (some .int) ∈ xv_g := xv_in (xv_t4 63 rfl) rfl
theorem wd_834 : Cond.methodLink RL 155 yX8_trace ∈ xv_g := xv_in (xv_t4 60 (by decide +kernel)) rfl
theorem wd_835 : Cond.instanceMethod yX8_trace ∈ xv_g := xv_in (xv_t4 61 (by decide +kernel)) rfl
theorem wd_836 : Cond.selects RX8 yX8_trace yX8_trace ∈ xv_g := xv_in (xv_t4 62 (by decide +kernel)) rfl
theorem ln_L_155 : xv_lV RL 155 yX8_trace mX8_trace 1 := ⟨wd_834, wd_835, wd_836, wd_55, wd_837, rfl, ⟨by decide +kernel, by decide +kernel, by decide +kernel⟩⟩
theorem wd_1267 : Cond.code yX9_trace cX9_trace 2 (some .int) ∈ xv_g := xv_in (xv_t6 13 rfl) rfl
theorem wd_1264 : Cond.methodLink RL 158 yX9_trace ∈ xv_g := xv_in (xv_t6 10 (by decide +kernel)) rfl
theorem wd_1265 : Cond.instanceMethod yX9_trace ∈ xv_g := xv_in (xv_t6 11 (by decide +kernel)) rfl
theorem wd_1266 : Cond.selects RX9 yX9_trace yX9_trace ∈ xv_g := xv_in (xv_t6 12 (by decide +kernel)) rfl
theorem ln_L_158 : xv_lV RL 158 yX9_trace mX9_trace 1 := ⟨wd_1264, wd_1265, wd_1266, wd_64, wd_1267, rfl, ⟨by decide +kernel, by decide +kernel, by decide +kernel⟩⟩
theorem wd_841 : Cond.code yX8_count cX8_count 2 (some .int) ∈ xv_g := xv_in (xv_t4 67 rfl) rfl
theorem wd_838 : Cond.methodLink RL 159 yX8_count ∈ xv_g := xv_in (xv_t4 64 (by decide +kernel)) rfl
theorem wd_839 : Cond.instanceMethod yX8_count ∈ xv_g := xv_in (xv_t4 65 (by decide +kernel)) rfl
theorem wd_840 : Cond.selects RX8 yX8_count yX8_count ∈ xv_g := xv_in (xv_t4 66 (by decide +kernel)) rfl
theorem ln_L_159 : xv_lV RL 159 yX8_count mX8_count 1 := ⟨wd_838, wd_839, wd_840, wd_55, wd_841, rfl, ⟨by decide +kernel, by decide +kernel, by decide +kernel⟩⟩
theorem wd_1271 : Cond.code yX9_count cX9_count 4 (some .int) ∈ xv_g := xv_in (xv_t6 17 rfl) rfl
theorem wd_1268 : Cond.methodLink RL 162 yX9_count ∈ xv_g := xv_in (xv_t6 14 (by decide +kernel)) rfl
theorem wd_1269 : Cond.instanceMethod yX9_count ∈ xv_g := xv_in (xv_t6 15 (by decide +kernel)) rfl
theorem wd_1270 : Cond.selects RX9 yX9_count yX9_count ∈ xv_g := xv_in (xv_t6 16 (by decide +kernel)) rfl
theorem ln_L_162 : xv_lV RL 162 yX9_count mX9_count 1 := ⟨wd_1268, wd_1269, wd_1270, wd_64, wd_1271, rfl, ⟨by decide +kernel, by decide +kernel, by decide +kernel⟩⟩
theorem wd_857 : Cond.code yX8_status cX8_status 1 (some .int) ∈ xv_g := xv_in (xv_t4 83 rfl) rfl
theorem wd_854 : Cond.methodLink RL 163 yX8_status ∈ xv_g := xv_in (xv_t4 80 (by decide +kernel)) rfl
theorem wd_855 : Cond.instanceMethod yX8_status ∈ xv_g := xv_in (xv_t4 81 (by decide +kernel)) rfl
theorem wd_856 : Cond.selects RX8 yX8_status yX8_status ∈ xv_g := xv_in (xv_t4 82 (by decide +kernel)) rfl
theorem ln_L_163 : xv_lV RL 163 yX8_status mX8_status 0 := ⟨wd_854, wd_855, wd_856, wd_55, wd_857, rfl, ⟨by decide +kernel, by decide +kernel, by decide +kernel⟩⟩
theorem wd_1275 : Cond.code yX9_status cX9_status 1 (some .int) ∈ xv_g := xv_in (xv_t6 21 rfl) rfl
theorem wd_1272 : Cond.methodLink RL 167 yX9_status ∈ xv_g := xv_in (xv_t6 18 (by decide +kernel)) rfl
theorem wd_1273 : Cond.instanceMethod yX9_status ∈ xv_g := xv_in (xv_t6 19 (by decide +kernel)) rfl
theorem wd_1274 : Cond.selects RX9 yX9_status yX9_status ∈ xv_g := xv_in (xv_t6 20 (by decide +kernel)) rfl
theorem ln_L_167 : xv_lV RL 167 yX9_status mX9_status 0 := ⟨wd_1272, wd_1273, wd_1274, wd_64, wd_1275, rfl, ⟨by decide +kernel, by decide +kernel, by decide +kernel⟩⟩
theorem wd_131 : Cond.classLink RX3 9 ("[" ++ (FieldType.array .int).toString) ∈ xv_g := xv_in (xv_t1 77 (by decide +kernel)) rfl
theorem wn_132 : Cond.arrayOver (.array .int) ∈ xv_nw := xv_inN (xv_t1 78 (by decide +kernel)) rfl
theorem wd_103 : Cond.arrayClass .int ∈ xv_g := xv_in (xv_t1 49 (by decide +kernel)) rfl
theorem mn_X3_9 : (Cond.classLink RX3 9 ("[" ++ (FieldType.array .int).toString) ∈ xv_g ∧ Cond.arrayClass .int ∈ xv_g) ∧ Cond.arrayOver (.array .int) ∈ xv_nw := ⟨⟨wd_131, wd_103⟩, wn_132⟩
theorem wd_207 : Cond.classLink RX6 21 ("[" ++ (FieldType.array .int).toString) ∈ xv_g := xv_in (xv_t1 153 (by decide +kernel)) rfl
theorem mn_X6_21 : (Cond.classLink RX6 21 ("[" ++ (FieldType.array .int).toString) ∈ xv_g ∧ Cond.arrayClass .int ∈ xv_g) ∧ Cond.arrayOver (.array .int) ∈ xv_nw := ⟨⟨wd_207, wd_103⟩, wn_132⟩
theorem wd_964 : Cond.arrayClass .boolean ∈ xv_g := xv_in (xv_t4 190 (by decide +kernel)) rfl
abbrev ac_int := wd_103
abbrev ac_boolean := wd_964
