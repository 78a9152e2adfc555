theorem dX0_init_0 : decode cX0_init 0 = .ok (.aload_n 0, 1) := by decide +kernel
theorem dX0_init_1 : decode cX0_init 1 = .ok (.invokespecial 3, 3) := by decide +kernel
theorem dX0_init_4 : decode cX0_init 4 = .ok (.aload_n 0, 1) := by decide +kernel
theorem dX0_init_5 : decode cX0_init 5 = .ok (.bipush 11, 2) := by decide +kernel
theorem dX0_init_7 : decode cX0_init 7 = .ok (.newarray .int, 2) := by decide +kernel
theorem dX0_init_9 : decode cX0_init 9 = .ok (.putfield 9, 3) := by decide +kernel
theorem dX0_init_12 : decode cX0_init 12 = .ok (.return_, 1) := by decide +kernel
theorem dX0_build_0 : decode cX0_build 0 = .ok (.iconst 0, 1) := by decide +kernel
theorem dX0_build_1 : decode cX0_build 1 = .ok (.istore_n 3, 1) := by decide +kernel
theorem dX0_build_2 : decode cX0_build 2 = .ok (.iload_n 3, 1) := by decide +kernel
theorem dX0_build_3 : decode cX0_build 3 = .ok (.bipush 11, 2) := by decide +kernel
theorem dX0_build_5 : decode cX0_build 5 = .ok (.if_icmp .ge 22, 3) := by decide +kernel
theorem dX0_build_8 : decode cX0_build 8 = .ok (.aload_n 0, 1) := by decide +kernel
theorem dX0_build_9 : decode cX0_build 9 = .ok (.getfield 9, 3) := by decide +kernel
theorem dX0_build_12 : decode cX0_build 12 = .ok (.iload_n 3, 1) := by decide +kernel
theorem dX0_build_13 : decode cX0_build 13 = .ok (.aload_n 1, 1) := by decide +kernel
theorem dX0_build_14 : decode cX0_build 14 = .ok (.iload_n 2, 1) := by decide +kernel
theorem dX0_build_15 : decode cX0_build 15 = .ok (.iload_n 3, 1) := by decide +kernel
theorem dX0_build_16 : decode cX0_build 16 = .ok (.iadd, 1) := by decide +kernel
theorem dX0_build_17 : decode cX0_build 17 = .ok (.invokevirtual 15, 3) := by decide +kernel
theorem dX0_build_20 : decode cX0_build 20 = .ok (.iastore, 1) := by decide +kernel
theorem dX0_build_21 : decode cX0_build 21 = .ok (.iinc 3 1, 3) := by decide +kernel
theorem dX0_build_24 : decode cX0_build 24 = .ok (.goto (-22), 3) := by decide +kernel
theorem dX0_build_27 : decode cX0_build 27 = .ok (.aload_n 0, 1) := by decide +kernel
theorem dX0_build_28 : decode cX0_build 28 = .ok (.iconst 0, 1) := by decide +kernel
theorem dX0_build_29 : decode cX0_build 29 = .ok (.putfield 21, 3) := by decide +kernel
theorem dX0_build_32 : decode cX0_build 32 = .ok (.aload_n 0, 1) := by decide +kernel
theorem dX0_build_33 : decode cX0_build 33 = .ok (.iconst 1, 1) := by decide +kernel
theorem dX0_build_34 : decode cX0_build 34 = .ok (.putfield 25, 3) := by decide +kernel
theorem dX0_build_37 : decode cX0_build 37 = .ok (.return_, 1) := by decide +kernel
theorem dX0_resemble_0 : decode cX0_resemble 0 = .ok (.aload_n 1, 1) := by decide +kernel
theorem dX0_resemble_1 : decode cX0_resemble 1 = .ok (.getfield 9, 3) := by decide +kernel
theorem dX0_resemble_4 : decode cX0_resemble 4 = .ok (.iconst 0, 1) := by decide +kernel
theorem dX0_resemble_5 : decode cX0_resemble 5 = .ok (.aload_n 0, 1) := by decide +kernel
theorem dX0_resemble_6 : decode cX0_resemble 6 = .ok (.getfield 9, 3) := by decide +kernel
theorem dX0_resemble_9 : decode cX0_resemble 9 = .ok (.iconst 0, 1) := by decide +kernel
theorem dX0_resemble_10 : decode cX0_resemble 10 = .ok (.bipush 11, 2) := by decide +kernel
theorem dX0_resemble_12 : decode cX0_resemble 12 = .ok (.invokestatic 29, 3) := by decide +kernel
theorem dX0_resemble_15 : decode cX0_resemble 15 = .ok (.aload_n 0, 1) := by decide +kernel
theorem dX0_resemble_16 : decode cX0_resemble 16 = .ok (.aload_n 1, 1) := by decide +kernel
theorem dX0_resemble_17 : decode cX0_resemble 17 = .ok (.getfield 21, 3) := by decide +kernel
theorem dX0_resemble_20 : decode cX0_resemble 20 = .ok (.putfield 21, 3) := by decide +kernel
theorem dX0_resemble_23 : decode cX0_resemble 23 = .ok (.aload_n 0, 1) := by decide +kernel
theorem dX0_resemble_24 : decode cX0_resemble 24 = .ok (.iconst 1, 1) := by decide +kernel
theorem dX0_resemble_25 : decode cX0_resemble 25 = .ok (.putfield 25, 3) := by decide +kernel
theorem dX0_resemble_28 : decode cX0_resemble 28 = .ok (.return_, 1) := by decide +kernel
theorem dX0_late_0 : decode cX0_late 0 = .ok (.aload_n 0, 1) := by decide +kernel
theorem dX0_late_1 : decode cX0_late 1 = .ok (.getfield 21, 3) := by decide +kernel
theorem dX0_late_4 : decode cX0_late 4 = .ok (.ifCond .lt 25, 3) := by decide +kernel
theorem dX0_late_7 : decode cX0_late 7 = .ok (.aload_n 0, 1) := by decide +kernel
theorem dX0_late_8 : decode cX0_late 8 = .ok (.getfield 21, 3) := by decide +kernel
theorem dX0_late_11 : decode cX0_late 11 = .ok (.getstatic 35, 3) := by decide +kernel
theorem dX0_late_14 : decode cX0_late 14 = .ok (.arraylength, 1) := by decide +kernel
theorem dX0_late_15 : decode cX0_late 15 = .ok (.if_icmp .ge 14, 3) := by decide +kernel
theorem dX0_late_18 : decode cX0_late 18 = .ok (.getstatic 35, 3) := by decide +kernel
theorem dX0_late_21 : decode cX0_late 21 = .ok (.aload_n 0, 1) := by decide +kernel
theorem dX0_late_22 : decode cX0_late 22 = .ok (.getfield 21, 3) := by decide +kernel
theorem dX0_late_25 : decode cX0_late 25 = .ok (.iaload, 1) := by decide +kernel
theorem dX0_late_26 : decode cX0_late 26 = .ok (.goto 4, 3) := by decide +kernel
theorem dX0_late_29 : decode cX0_late 29 = .ok (.iconst 0, 1) := by decide +kernel
theorem dX0_late_30 : decode cX0_late 30 = .ok (.ireturn, 1) := by decide +kernel
theorem dX0_leak_0 : decode cX0_leak 0 = .ok (.aload_n 0, 1) := by decide +kernel
theorem dX0_leak_1 : decode cX0_leak 1 = .ok (.getfield 21, 3) := by decide +kernel
theorem dX0_leak_4 : decode cX0_leak 4 = .ok (.ifCond .lt 25, 3) := by decide +kernel
theorem dX0_leak_7 : decode cX0_leak 7 = .ok (.aload_n 0, 1) := by decide +kernel
theorem dX0_leak_8 : decode cX0_leak 8 = .ok (.getfield 21, 3) := by decide +kernel
theorem dX0_leak_11 : decode cX0_leak 11 = .ok (.getstatic 38, 3) := by decide +kernel
theorem dX0_leak_14 : decode cX0_leak 14 = .ok (.arraylength, 1) := by decide +kernel
theorem dX0_leak_15 : decode cX0_leak 15 = .ok (.if_icmp .ge 14, 3) := by decide +kernel
theorem dX0_leak_18 : decode cX0_leak 18 = .ok (.getstatic 38, 3) := by decide +kernel
theorem dX0_leak_21 : decode cX0_leak 21 = .ok (.aload_n 0, 1) := by decide +kernel
theorem dX0_leak_22 : decode cX0_leak 22 = .ok (.getfield 21, 3) := by decide +kernel
theorem dX0_leak_25 : decode cX0_leak 25 = .ok (.iaload, 1) := by decide +kernel
theorem dX0_leak_26 : decode cX0_leak 26 = .ok (.goto 4, 3) := by decide +kernel
theorem dX0_leak_29 : decode cX0_leak 29 = .ok (.iconst 0, 1) := by decide +kernel
theorem dX0_leak_30 : decode cX0_leak 30 = .ok (.ireturn, 1) := by decide +kernel
theorem dX0_choke_0 : decode cX0_choke 0 = .ok (.aload_n 0, 1) := by decide +kernel
theorem dX0_choke_1 : decode cX0_choke 1 = .ok (.getfield 9, 3) := by decide +kernel
theorem dX0_choke_4 : decode cX0_choke 4 = .ok (.bipush 8, 2) := by decide +kernel
theorem dX0_choke_6 : decode cX0_choke 6 = .ok (.iaload, 1) := by decide +kernel
theorem dX0_choke_7 : decode cX0_choke 7 = .ok (.aload_n 0, 1) := by decide +kernel
theorem dX0_choke_8 : decode cX0_choke 8 = .ok (.getfield 21, 3) := by decide +kernel
theorem dX0_choke_11 : decode cX0_choke 11 = .ok (.ifCond .lt 25, 3) := by decide +kernel
theorem dX0_choke_14 : decode cX0_choke 14 = .ok (.aload_n 0, 1) := by decide +kernel
theorem dX0_choke_15 : decode cX0_choke 15 = .ok (.getfield 21, 3) := by decide +kernel
theorem dX0_choke_18 : decode cX0_choke 18 = .ok (.getstatic 41, 3) := by decide +kernel
theorem dX0_choke_21 : decode cX0_choke 21 = .ok (.arraylength, 1) := by decide +kernel
theorem dX0_choke_22 : decode cX0_choke 22 = .ok (.if_icmp .ge 14, 3) := by decide +kernel
theorem dX0_choke_25 : decode cX0_choke 25 = .ok (.getstatic 41, 3) := by decide +kernel
theorem dX0_choke_28 : decode cX0_choke 28 = .ok (.aload_n 0, 1) := by decide +kernel
theorem dX0_choke_29 : decode cX0_choke 29 = .ok (.getfield 21, 3) := by decide +kernel
theorem dX0_choke_32 : decode cX0_choke 32 = .ok (.iaload, 1) := by decide +kernel
theorem dX0_choke_33 : decode cX0_choke 33 = .ok (.goto 4, 3) := by decide +kernel
theorem dX0_choke_36 : decode cX0_choke 36 = .ok (.iconst 0, 1) := by decide +kernel
theorem dX0_choke_37 : decode cX0_choke 37 = .ok (.iadd, 1) := by decide +kernel
theorem dX0_choke_38 : decode cX0_choke 38 = .ok (.ireturn, 1) := by decide +kernel
theorem dX0_stroke_0 : decode cX0_stroke 0 = .ok (.sipush 10000, 3) := by decide +kernel
theorem dX0_stroke_3 : decode cX0_stroke 3 = .ok (.iload_n 1, 1) := by decide +kernel
theorem dX0_stroke_4 : decode cX0_stroke 4 = .ok (.invokestatic 44, 3) := by decide +kernel
theorem dX0_stroke_7 : decode cX0_stroke 7 = .ok (.isub, 1) := by decide +kernel
theorem dX0_stroke_8 : decode cX0_stroke 8 = .ok (.bipush 20, 2) := by decide +kernel
theorem dX0_stroke_10 : decode cX0_stroke 10 = .ok (.idiv, 1) := by decide +kernel
theorem dX0_stroke_11 : decode cX0_stroke 11 = .ok (.istore_n 2, 1) := by decide +kernel
theorem dX0_stroke_12 : decode cX0_stroke 12 = .ok (.aload_n 0, 1) := by decide +kernel
theorem dX0_stroke_13 : decode cX0_stroke 13 = .ok (.getfield 9, 3) := by decide +kernel
theorem dX0_stroke_16 : decode cX0_stroke 16 = .ok (.iconst 0, 1) := by decide +kernel
theorem dX0_stroke_17 : decode cX0_stroke 17 = .ok (.iaload, 1) := by decide +kernel
theorem dX0_stroke_18 : decode cX0_stroke 18 = .ok (.istore_n 3, 1) := by decide +kernel
theorem dX0_stroke_19 : decode cX0_stroke 19 = .ok (.iload_n 3, 1) := by decide +kernel
theorem dX0_stroke_20 : decode cX0_stroke 20 = .ok (.ifCond .gt 5, 3) := by decide +kernel
theorem dX0_stroke_23 : decode cX0_stroke 23 = .ok (.iload_n 2, 1) := by decide +kernel
theorem dX0_stroke_24 : decode cX0_stroke 24 = .ok (.ireturn, 1) := by decide +kernel
theorem dX0_stroke_25 : decode cX0_stroke 25 = .ok (.iload_n 1, 1) := by decide +kernel
theorem dX0_stroke_26 : decode cX0_stroke 26 = .ok (.bipush 12, 2) := by decide +kernel
theorem dX0_stroke_28 : decode cX0_stroke 28 = .ok (.isub, 1) := by decide +kernel
theorem dX0_stroke_29 : decode cX0_stroke 29 = .ok (.invokestatic 44, 3) := by decide +kernel
theorem dX0_stroke_32 : decode cX0_stroke 32 = .ok (.istore 4, 2) := by decide +kernel
theorem dX0_stroke_34 : decode cX0_stroke 34 = .ok (.iload_n 2, 1) := by decide +kernel
theorem dX0_stroke_35 : decode cX0_stroke 35 = .ok (.iload 4, 2) := by decide +kernel
theorem dX0_stroke_37 : decode cX0_stroke 37 = .ok (.iload 4, 2) := by decide +kernel
theorem dX0_stroke_39 : decode cX0_stroke 39 = .ok (.imul, 1) := by decide +kernel
theorem dX0_stroke_40 : decode cX0_stroke 40 = .ok (.ldc 47, 2) := by decide +kernel
theorem dX0_stroke_42 : decode cX0_stroke 42 = .ok (.iload_n 3, 1) := by decide +kernel
theorem dX0_stroke_43 : decode cX0_stroke 43 = .ok (.imul, 1) := by decide +kernel
theorem dX0_stroke_44 : decode cX0_stroke 44 = .ok (.idiv, 1) := by decide +kernel
theorem dX0_stroke_45 : decode cX0_stroke 45 = .ok (.iadd, 1) := by decide +kernel
theorem dX0_stroke_46 : decode cX0_stroke 46 = .ok (.ireturn, 1) := by decide +kernel
theorem dX0_swing_0 : decode cX0_swing 0 = .ok (.aload_n 0, 1) := by decide +kernel
theorem dX0_swing_1 : decode cX0_swing 1 = .ok (.getfield 9, 3) := by decide +kernel
theorem dX0_swing_4 : decode cX0_swing 4 = .ok (.iconst 2, 1) := by decide +kernel
theorem dX0_swing_5 : decode cX0_swing 5 = .ok (.iaload, 1) := by decide +kernel
theorem dX0_swing_6 : decode cX0_swing 6 = .ok (.istore_n 3, 1) := by decide +kernel
theorem dX0_swing_7 : decode cX0_swing 7 = .ok (.bipush 6, 2) := by decide +kernel
theorem dX0_swing_9 : decode cX0_swing 9 = .ok (.iload_n 1, 1) := by decide +kernel
theorem dX0_swing_10 : decode cX0_swing 10 = .ok (.iadd, 1) := by decide +kernel
theorem dX0_swing_11 : decode cX0_swing 11 = .ok (.iload_n 2, 1) := by decide +kernel
theorem dX0_swing_12 : decode cX0_swing 12 = .ok (.iload_n 3, 1) := by decide +kernel
theorem dX0_swing_13 : decode cX0_swing 13 = .ok (.iadd, 1) := by decide +kernel
theorem dX0_swing_14 : decode cX0_swing 14 = .ok (.aload_n 0, 1) := by decide +kernel
theorem dX0_swing_15 : decode cX0_swing 15 = .ok (.invokevirtual 48, 3) := by decide +kernel
theorem dX0_swing_18 : decode cX0_swing 18 = .ok (.iadd, 1) := by decide +kernel
theorem dX0_swing_19 : decode cX0_swing 19 = .ok (.bipush 12, 2) := by decide +kernel
theorem dX0_swing_21 : decode cX0_swing 21 = .ok (.isub, 1) := by decide +kernel
theorem dX0_swing_22 : decode cX0_swing 22 = .ok (.invokestatic 44, 3) := by decide +kernel
theorem dX0_swing_25 : decode cX0_swing 25 = .ok (.imul, 1) := by decide +kernel
theorem dX0_swing_26 : decode cX0_swing 26 = .ok (.istore 4, 2) := by decide +kernel
theorem dX0_swing_28 : decode cX0_swing 28 = .ok (.bipush 6, 2) := by decide +kernel
theorem dX0_swing_30 : decode cX0_swing 30 = .ok (.iload_n 1, 1) := by decide +kernel
theorem dX0_swing_31 : decode cX0_swing 31 = .ok (.isub, 1) := by decide +kernel
theorem dX0_swing_32 : decode cX0_swing 32 = .ok (.iload_n 3, 1) := by decide +kernel
theorem dX0_swing_33 : decode cX0_swing 33 = .ok (.iload_n 2, 1) := by decide +kernel
theorem dX0_swing_34 : decode cX0_swing 34 = .ok (.isub, 1) := by decide +kernel
theorem dX0_swing_35 : decode cX0_swing 35 = .ok (.bipush 12, 2) := by decide +kernel
theorem dX0_swing_37 : decode cX0_swing 37 = .ok (.isub, 1) := by decide +kernel
theorem dX0_swing_38 : decode cX0_swing 38 = .ok (.invokestatic 44, 3) := by decide +kernel
theorem dX0_swing_41 : decode cX0_swing 41 = .ok (.imul, 1) := by decide +kernel
theorem dX0_swing_42 : decode cX0_swing 42 = .ok (.istore 5, 2) := by decide +kernel
theorem dX0_swing_44 : decode cX0_swing 44 = .ok (.aload_n 0, 1) := by decide +kernel
theorem dX0_swing_45 : decode cX0_swing 45 = .ok (.getfield 9, 3) := by decide +kernel
theorem dX0_swing_48 : decode cX0_swing 48 = .ok (.iconst 1, 1) := by decide +kernel
theorem dX0_swing_49 : decode cX0_swing 49 = .ok (.iaload, 1) := by decide +kernel
theorem dX0_swing_50 : decode cX0_swing 50 = .ok (.iload 4, 2) := by decide +kernel
theorem dX0_swing_52 : decode cX0_swing 52 = .ok (.iload 5, 2) := by decide +kernel
theorem dX0_swing_54 : decode cX0_swing 54 = .ok (.iadd, 1) := by decide +kernel
theorem dX0_swing_55 : decode cX0_swing 55 = .ok (.imul, 1) := by decide +kernel
theorem dX0_swing_56 : decode cX0_swing 56 = .ok (.ldc 52, 2) := by decide +kernel
theorem dX0_swing_58 : decode cX0_swing 58 = .ok (.idiv, 1) := by decide +kernel
theorem dX0_swing_59 : decode cX0_swing 59 = .ok (.ireturn, 1) := by decide +kernel
theorem dX0_hanging_0 : decode cX0_hanging 0 = .ok (.aload_n 0, 1) := by decide +kernel
theorem dX0_hanging_1 : decode cX0_hanging 1 = .ok (.getfield 9, 3) := by decide +kernel
theorem dX0_hanging_4 : decode cX0_hanging 4 = .ok (.iconst 3, 1) := by decide +kernel
theorem dX0_hanging_5 : decode cX0_hanging 5 = .ok (.iaload, 1) := by decide +kernel
theorem dX0_hanging_6 : decode cX0_hanging 6 = .ok (.iload_n 1, 1) := by decide +kernel
theorem dX0_hanging_7 : decode cX0_hanging 7 = .ok (.imul, 1) := by decide +kernel
theorem dX0_hanging_8 : decode cX0_hanging 8 = .ok (.bipush 6, 2) := by decide +kernel
theorem dX0_hanging_10 : decode cX0_hanging 10 = .ok (.idiv, 1) := by decide +kernel
theorem dX0_hanging_11 : decode cX0_hanging 11 = .ok (.ireturn, 1) := by decide +kernel
theorem dX0_travel_0 : decode cX0_travel 0 = .ok (.aload_n 0, 1) := by decide +kernel
theorem dX0_travel_1 : decode cX0_travel 1 = .ok (.iload_n 1, 1) := by decide +kernel
theorem dX0_travel_2 : decode cX0_travel 2 = .ok (.iload_n 2, 1) := by decide +kernel
theorem dX0_travel_3 : decode cX0_travel 3 = .ok (.invokevirtual 53, 3) := by decide +kernel
theorem dX0_travel_6 : decode cX0_travel 6 = .ok (.aload_n 0, 1) := by decide +kernel
theorem dX0_travel_7 : decode cX0_travel 7 = .ok (.iload_n 1, 1) := by decide +kernel
theorem dX0_travel_8 : decode cX0_travel 8 = .ok (.invokevirtual 57, 3) := by decide +kernel
theorem dX0_travel_11 : decode cX0_travel 11 = .ok (.iadd, 1) := by decide +kernel
theorem dX0_travel_12 : decode cX0_travel 12 = .ok (.ireturn, 1) := by decide +kernel
theorem dX0_opening_0 : decode cX0_opening 0 = .ok (.iload_n 2, 1) := by decide +kernel
theorem dX0_opening_1 : decode cX0_opening 1 = .ok (.iload_n 3, 1) := by decide +kernel
theorem dX0_opening_2 : decode cX0_opening 2 = .ok (.if_icmp .ne 7, 3) := by decide +kernel
theorem dX0_opening_5 : decode cX0_opening 5 = .ok (.iload_n 1, 1) := by decide +kernel
theorem dX0_opening_6 : decode cX0_opening 6 = .ok (.goto 5, 3) := by decide +kernel
theorem dX0_opening_9 : decode cX0_opening 9 = .ok (.iload_n 1, 1) := by decide +kernel
theorem dX0_opening_10 : decode cX0_opening 10 = .ok (.ineg, 1) := by decide +kernel
theorem dX0_opening_11 : decode cX0_opening 11 = .ok (.istore 4, 2) := by decide +kernel
theorem dX0_opening_13 : decode cX0_opening 13 = .ok (.iload 4, 2) := by decide +kernel
theorem dX0_opening_15 : decode cX0_opening 15 = .ok (.aload_n 0, 1) := by decide +kernel
theorem dX0_opening_16 : decode cX0_opening 16 = .ok (.getfield 9, 3) := by decide +kernel
theorem dX0_opening_19 : decode cX0_opening 19 = .ok (.iload_n 3, 1) := by decide +kernel
theorem dX0_opening_20 : decode cX0_opening 20 = .ok (.ifCond .ne 7, 3) := by decide +kernel
theorem dX0_opening_23 : decode cX0_opening 23 = .ok (.iconst 4, 1) := by decide +kernel
theorem dX0_opening_24 : decode cX0_opening 24 = .ok (.goto 4, 3) := by decide +kernel
theorem dX0_opening_27 : decode cX0_opening 27 = .ok (.iconst 5, 1) := by decide +kernel
theorem dX0_opening_28 : decode cX0_opening 28 = .ok (.iaload, 1) := by decide +kernel
theorem dX0_opening_29 : decode cX0_opening 29 = .ok (.isub, 1) := by decide +kernel
theorem dX0_opening_30 : decode cX0_opening 30 = .ok (.istore 4, 2) := by decide +kernel
theorem dX0_opening_32 : decode cX0_opening 32 = .ok (.iconst 0, 1) := by decide +kernel
theorem dX0_opening_33 : decode cX0_opening 33 = .ok (.aload_n 0, 1) := by decide +kernel
theorem dX0_opening_34 : decode cX0_opening 34 = .ok (.getfield 9, 3) := by decide +kernel
theorem dX0_opening_37 : decode cX0_opening 37 = .ok (.bipush 6, 2) := by decide +kernel
theorem dX0_opening_39 : decode cX0_opening 39 = .ok (.iaload, 1) := by decide +kernel
theorem dX0_opening_40 : decode cX0_opening 40 = .ok (.iload 4, 2) := by decide +kernel
theorem dX0_opening_42 : decode cX0_opening 42 = .ok (.invokestatic 60, 3) := by decide +kernel
theorem dX0_opening_45 : decode cX0_opening 45 = .ok (.invokestatic 65, 3) := by decide +kernel
theorem dX0_opening_48 : decode cX0_opening 48 = .ok (.ireturn, 1) := by decide +kernel
theorem dX0_lead_0 : decode cX0_lead 0 = .ok (.aload_n 0, 1) := by decide +kernel
theorem dX0_lead_1 : decode cX0_lead 1 = .ok (.aload_n 0, 1) := by decide +kernel
theorem dX0_lead_2 : decode cX0_lead 2 = .ok (.bipush 6, 2) := by decide +kernel
theorem dX0_lead_4 : decode cX0_lead 4 = .ok (.iconst 0, 1) := by decide +kernel
theorem dX0_lead_5 : decode cX0_lead 5 = .ok (.invokevirtual 68, 3) := by decide +kernel
theorem dX0_lead_8 : decode cX0_lead 8 = .ok (.iconst 0, 1) := by decide +kernel
theorem dX0_lead_9 : decode cX0_lead 9 = .ok (.iconst 0, 1) := by decide +kernel
theorem dX0_lead_10 : decode cX0_lead 10 = .ok (.invokevirtual 71, 3) := by decide +kernel
theorem dX0_lead_13 : decode cX0_lead 13 = .ok (.ireturn, 1) := by decide +kernel
theorem dX1_init_0 : decode cX1_init 0 = .ok (.aload_n 0, 1) := by decide +kernel
theorem dX1_init_1 : decode cX1_init 1 = .ok (.invokespecial 1, 3) := by decide +kernel
theorem dX1_init_4 : decode cX1_init 4 = .ok (.return_, 1) := by decide +kernel
theorem dX1_burn_0 : decode cX1_burn 0 = .ok (.aload_n 0, 1) := by decide +kernel
theorem dX1_burn_1 : decode cX1_burn 1 = .ok (.getfield 7, 3) := by decide +kernel
theorem dX1_burn_4 : decode cX1_burn 4 = .ok (.bipush 20, 2) := by decide +kernel
theorem dX1_burn_6 : decode cX1_burn 6 = .ok (.invokestatic 13, 3) := by decide +kernel
theorem dX1_burn_9 : decode cX1_burn 9 = .ok (.istore_n 1, 1) := by decide +kernel
theorem dX1_burn_10 : decode cX1_burn 10 = .ok (.aload_n 0, 1) := by decide +kernel
theorem dX1_burn_11 : decode cX1_burn 11 = .ok (.dup, 1) := by decide +kernel
theorem dX1_burn_12 : decode cX1_burn 12 = .ok (.getfield 7, 3) := by decide +kernel
theorem dX1_burn_15 : decode cX1_burn 15 = .ok (.iload_n 1, 1) := by decide +kernel
theorem dX1_burn_16 : decode cX1_burn 16 = .ok (.isub, 1) := by decide +kernel
theorem dX1_burn_17 : decode cX1_burn 17 = .ok (.putfield 7, 3) := by decide +kernel
theorem dX1_burn_20 : decode cX1_burn 20 = .ok (.aload_n 0, 1) := by decide +kernel
theorem dX1_burn_21 : decode cX1_burn 21 = .ok (.dup, 1) := by decide +kernel
theorem dX1_burn_22 : decode cX1_burn 22 = .ok (.getfield 19, 3) := by decide +kernel
theorem dX1_burn_25 : decode cX1_burn 25 = .ok (.iload_n 1, 1) := by decide +kernel
theorem dX1_burn_26 : decode cX1_burn 26 = .ok (.iadd, 1) := by decide +kernel
theorem dX1_burn_27 : decode cX1_burn 27 = .ok (.putfield 19, 3) := by decide +kernel
theorem dX1_burn_30 : decode cX1_burn 30 = .ok (.aload_n 0, 1) := by decide +kernel
theorem dX1_burn_31 : decode cX1_burn 31 = .ok (.dup, 1) := by decide +kernel
theorem dX1_burn_32 : decode cX1_burn 32 = .ok (.getfield 22, 3) := by decide +kernel
theorem dX1_burn_35 : decode cX1_burn 35 = .ok (.iconst 5, 1) := by decide +kernel
theorem dX1_burn_36 : decode cX1_burn 36 = .ok (.iload_n 1, 1) := by decide +kernel
theorem dX1_burn_37 : decode cX1_burn 37 = .ok (.imul, 1) := by decide +kernel
theorem dX1_burn_38 : decode cX1_burn 38 = .ok (.iadd, 1) := by decide +kernel
theorem dX1_burn_39 : decode cX1_burn 39 = .ok (.putfield 22, 3) := by decide +kernel
theorem dX1_burn_42 : decode cX1_burn 42 = .ok (.aload_n 0, 1) := by decide +kernel
theorem dX1_burn_43 : decode cX1_burn 43 = .ok (.dup, 1) := by decide +kernel
theorem dX1_burn_44 : decode cX1_burn 44 = .ok (.getfield 25, 3) := by decide +kernel
theorem dX1_burn_47 : decode cX1_burn 47 = .ok (.iconst 1, 1) := by decide +kernel
theorem dX1_burn_48 : decode cX1_burn 48 = .ok (.iadd, 1) := by decide +kernel
theorem dX1_burn_49 : decode cX1_burn 49 = .ok (.putfield 25, 3) := by decide +kernel
theorem dX1_burn_52 : decode cX1_burn 52 = .ok (.return_, 1) := by decide +kernel
theorem dX1_give_0 : decode cX1_give 0 = .ok (.aload_n 0, 1) := by decide +kernel
theorem dX1_give_1 : decode cX1_give 1 = .ok (.getfield 22, 3) := by decide +kernel
theorem dX1_give_4 : decode cX1_give 4 = .ok (.iload_n 1, 1) := by decide +kernel
theorem dX1_give_5 : decode cX1_give 5 = .ok (.invokestatic 13, 3) := by decide +kernel
theorem dX1_give_8 : decode cX1_give 8 = .ok (.istore_n 2, 1) := by decide +kernel
theorem dX1_give_9 : decode cX1_give 9 = .ok (.aload_n 0, 1) := by decide +kernel
theorem dX1_give_10 : decode cX1_give 10 = .ok (.dup, 1) := by decide +kernel
theorem dX1_give_11 : decode cX1_give 11 = .ok (.getfield 22, 3) := by decide +kernel
theorem dX1_give_14 : decode cX1_give 14 = .ok (.iload_n 2, 1) := by decide +kernel
theorem dX1_give_15 : decode cX1_give 15 = .ok (.isub, 1) := by decide +kernel
theorem dX1_give_16 : decode cX1_give 16 = .ok (.putfield 22, 3) := by decide +kernel
theorem dX1_give_19 : decode cX1_give 19 = .ok (.aload_n 0, 1) := by decide +kernel
theorem dX1_give_20 : decode cX1_give 20 = .ok (.dup, 1) := by decide +kernel
theorem dX1_give_21 : decode cX1_give 21 = .ok (.getfield 28, 3) := by decide +kernel
theorem dX1_give_24 : decode cX1_give 24 = .ok (.iload_n 2, 1) := by decide +kernel
theorem dX1_give_25 : decode cX1_give 25 = .ok (.iadd, 1) := by decide +kernel
theorem dX1_give_26 : decode cX1_give 26 = .ok (.putfield 28, 3) := by decide +kernel
theorem dX1_give_29 : decode cX1_give 29 = .ok (.return_, 1) := by decide +kernel
theorem dX1_blow_0 : decode cX1_blow 0 = .ok (.iconst 0, 1) := by decide +kernel
theorem dX1_blow_1 : decode cX1_blow 1 = .ok (.aload_n 0, 1) := by decide +kernel
theorem dX1_blow_2 : decode cX1_blow 2 = .ok (.getfield 22, 3) := by decide +kernel
theorem dX1_blow_5 : decode cX1_blow 5 = .ok (.sipush 1500, 3) := by decide +kernel
theorem dX1_blow_8 : decode cX1_blow 8 = .ok (.isub, 1) := by decide +kernel
theorem dX1_blow_9 : decode cX1_blow 9 = .ok (.invokestatic 31, 3) := by decide +kernel
theorem dX1_blow_12 : decode cX1_blow 12 = .ok (.istore_n 1, 1) := by decide +kernel
theorem dX1_blow_13 : decode cX1_blow 13 = .ok (.aload_n 0, 1) := by decide +kernel
theorem dX1_blow_14 : decode cX1_blow 14 = .ok (.dup, 1) := by decide +kernel
theorem dX1_blow_15 : decode cX1_blow 15 = .ok (.getfield 22, 3) := by decide +kernel
theorem dX1_blow_18 : decode cX1_blow 18 = .ok (.iload_n 1, 1) := by decide +kernel
theorem dX1_blow_19 : decode cX1_blow 19 = .ok (.isub, 1) := by decide +kernel
theorem dX1_blow_20 : decode cX1_blow 20 = .ok (.putfield 22, 3) := by decide +kernel
theorem dX1_blow_23 : decode cX1_blow 23 = .ok (.aload_n 0, 1) := by decide +kernel
theorem dX1_blow_24 : decode cX1_blow 24 = .ok (.dup, 1) := by decide +kernel
theorem dX1_blow_25 : decode cX1_blow 25 = .ok (.getfield 34, 3) := by decide +kernel
theorem dX1_blow_28 : decode cX1_blow 28 = .ok (.iload_n 1, 1) := by decide +kernel
theorem dX1_blow_29 : decode cX1_blow 29 = .ok (.iadd, 1) := by decide +kernel
theorem dX1_blow_30 : decode cX1_blow 30 = .ok (.putfield 34, 3) := by decide +kernel
theorem dX1_blow_33 : decode cX1_blow 33 = .ok (.return_, 1) := by decide +kernel
theorem dX1_told_0 : decode cX1_told 0 = .ok (.iload_n 1, 1) := by decide +kernel
theorem dX1_told_1 : decode cX1_told 1 = .ok (.tableswitch 60 0 4 #[35, 40, 45, 50, 55], 35) := by decide +kernel
theorem dX1_told_36 : decode cX1_told 36 = .ok (.aload_n 0, 1) := by decide +kernel
theorem dX1_told_37 : decode cX1_told 37 = .ok (.getfield 22, 3) := by decide +kernel
theorem dX1_told_40 : decode cX1_told 40 = .ok (.ireturn, 1) := by decide +kernel
theorem dX1_told_41 : decode cX1_told 41 = .ok (.aload_n 0, 1) := by decide +kernel
theorem dX1_told_42 : decode cX1_told 42 = .ok (.getfield 7, 3) := by decide +kernel
theorem dX1_told_45 : decode cX1_told 45 = .ok (.ireturn, 1) := by decide +kernel
theorem dX1_told_46 : decode cX1_told 46 = .ok (.aload_n 0, 1) := by decide +kernel
theorem dX1_told_47 : decode cX1_told 47 = .ok (.getfield 19, 3) := by decide +kernel
theorem dX1_told_50 : decode cX1_told 50 = .ok (.ireturn, 1) := by decide +kernel
theorem dX1_told_51 : decode cX1_told 51 = .ok (.aload_n 0, 1) := by decide +kernel
theorem dX1_told_52 : decode cX1_told 52 = .ok (.getfield 28, 3) := by decide +kernel
theorem dX1_told_55 : decode cX1_told 55 = .ok (.ireturn, 1) := by decide +kernel
theorem dX1_told_56 : decode cX1_told 56 = .ok (.aload_n 0, 1) := by decide +kernel
theorem dX1_told_57 : decode cX1_told 57 = .ok (.getfield 34, 3) := by decide +kernel
theorem dX1_told_60 : decode cX1_told 60 = .ok (.ireturn, 1) := by decide +kernel
theorem dX1_told_61 : decode cX1_told 61 = .ok (.aload_n 0, 1) := by decide +kernel
theorem dX1_told_62 : decode cX1_told 62 = .ok (.getfield 25, 3) := by decide +kernel
theorem dX1_told_65 : decode cX1_told 65 = .ok (.ireturn, 1) := by decide +kernel
theorem dX2_init_0 : decode cX2_init 0 = .ok (.aload_n 0, 1) := by decide +kernel
theorem dX2_init_1 : decode cX2_init 1 = .ok (.invokespecial 3, 3) := by decide +kernel
theorem dX2_init_4 : decode cX2_init 4 = .ok (.aload_n 0, 1) := by decide +kernel
theorem dX2_init_5 : decode cX2_init 5 = .ok (.bipush 48, 2) := by decide +kernel
theorem dX2_init_7 : decode cX2_init 7 = .ok (.newarray .int, 2) := by decide +kernel
theorem dX2_init_9 : decode cX2_init 9 = .ok (.putfield 9, 3) := by decide +kernel
theorem dX2_init_12 : decode cX2_init 12 = .ok (.return_, 1) := by decide +kernel
theorem dX2_take_0 : decode cX2_take 0 = .ok (.iconst 0, 1) := by decide +kernel
theorem dX2_take_1 : decode cX2_take 1 = .ok (.istore_n 3, 1) := by decide +kernel
theorem dX2_take_2 : decode cX2_take 2 = .ok (.iload_n 3, 1) := by decide +kernel
theorem dX2_take_3 : decode cX2_take 3 = .ok (.bipush 48, 2) := by decide +kernel
theorem dX2_take_5 : decode cX2_take 5 = .ok (.if_icmp .ge 22, 3) := by decide +kernel
theorem dX2_take_8 : decode cX2_take 8 = .ok (.aload_n 0, 1) := by decide +kernel
theorem dX2_take_9 : decode cX2_take 9 = .ok (.getfield 9, 3) := by decide +kernel
theorem dX2_take_12 : decode cX2_take 12 = .ok (.iload_n 3, 1) := by decide +kernel
theorem dX2_take_13 : decode cX2_take 13 = .ok (.aload_n 1, 1) := by decide +kernel
theorem dX2_take_14 : decode cX2_take 14 = .ok (.iload_n 2, 1) := by decide +kernel
theorem dX2_take_15 : decode cX2_take 15 = .ok (.iload_n 3, 1) := by decide +kernel
theorem dX2_take_16 : decode cX2_take 16 = .ok (.iadd, 1) := by decide +kernel
theorem dX2_take_17 : decode cX2_take 17 = .ok (.invokevirtual 15, 3) := by decide +kernel
theorem dX2_take_20 : decode cX2_take 20 = .ok (.iastore, 1) := by decide +kernel
theorem dX2_take_21 : decode cX2_take 21 = .ok (.iinc 3 1, 3) := by decide +kernel
theorem dX2_take_24 : decode cX2_take 24 = .ok (.goto (-22), 3) := by decide +kernel
theorem dX2_take_27 : decode cX2_take 27 = .ok (.return_, 1) := by decide +kernel
theorem dX2_readable_0 : decode cX2_readable 0 = .ok (.iconst 0, 1) := by decide +kernel
theorem dX2_readable_1 : decode cX2_readable 1 = .ok (.istore_n 1, 1) := by decide +kernel
theorem dX2_readable_2 : decode cX2_readable 2 = .ok (.iconst 0, 1) := by decide +kernel
theorem dX2_readable_3 : decode cX2_readable 3 = .ok (.istore_n 2, 1) := by decide +kernel
theorem dX2_readable_4 : decode cX2_readable 4 = .ok (.iload_n 2, 1) := by decide +kernel
theorem dX2_readable_5 : decode cX2_readable 5 = .ok (.bipush 48, 2) := by decide +kernel
theorem dX2_readable_7 : decode cX2_readable 7 = .ok (.if_icmp .ge 27, 3) := by decide +kernel
theorem dX2_readable_10 : decode cX2_readable 10 = .ok (.iload_n 1, 1) := by decide +kernel
theorem dX2_readable_11 : decode cX2_readable 11 = .ok (.aload_n 0, 1) := by decide +kernel
theorem dX2_readable_12 : decode cX2_readable 12 = .ok (.getfield 9, 3) := by decide +kernel
theorem dX2_readable_15 : decode cX2_readable 15 = .ok (.iload_n 2, 1) := by decide +kernel
theorem dX2_readable_16 : decode cX2_readable 16 = .ok (.iaload, 1) := by decide +kernel
theorem dX2_readable_17 : decode cX2_readable 17 = .ok (.iconst (-1), 1) := by decide +kernel
theorem dX2_readable_18 : decode cX2_readable 18 = .ok (.if_icmp .eq 7, 3) := by decide +kernel
theorem dX2_readable_21 : decode cX2_readable 21 = .ok (.iconst 1, 1) := by decide +kernel
theorem dX2_readable_22 : decode cX2_readable 22 = .ok (.goto 4, 3) := by decide +kernel
theorem dX2_readable_25 : decode cX2_readable 25 = .ok (.iconst 0, 1) := by decide +kernel
theorem dX2_readable_26 : decode cX2_readable 26 = .ok (.iadd, 1) := by decide +kernel
theorem dX2_readable_27 : decode cX2_readable 27 = .ok (.istore_n 1, 1) := by decide +kernel
theorem dX2_readable_28 : decode cX2_readable 28 = .ok (.iinc 2 1, 3) := by decide +kernel
theorem dX2_readable_31 : decode cX2_readable 31 = .ok (.goto (-27), 3) := by decide +kernel
theorem dX2_readable_34 : decode cX2_readable 34 = .ok (.iload_n 1, 1) := by decide +kernel
theorem dX2_readable_35 : decode cX2_readable 35 = .ok (.ireturn, 1) := by decide +kernel
theorem dX2_apart_0 : decode cX2_apart 0 = .ok (.iconst 0, 1) := by decide +kernel
theorem dX2_apart_1 : decode cX2_apart 1 = .ok (.istore_n 2, 1) := by decide +kernel
theorem dX2_apart_2 : decode cX2_apart 2 = .ok (.iconst 0, 1) := by decide +kernel
theorem dX2_apart_3 : decode cX2_apart 3 = .ok (.istore_n 3, 1) := by decide +kernel
theorem dX2_apart_4 : decode cX2_apart 4 = .ok (.iload_n 3, 1) := by decide +kernel
theorem dX2_apart_5 : decode cX2_apart 5 = .ok (.bipush 48, 2) := by decide +kernel
theorem dX2_apart_7 : decode cX2_apart 7 = .ok (.if_icmp .ge 41, 3) := by decide +kernel
theorem dX2_apart_10 : decode cX2_apart 10 = .ok (.iload_n 3, 1) := by decide +kernel
theorem dX2_apart_11 : decode cX2_apart 11 = .ok (.aload_n 1, 1) := by decide +kernel
theorem dX2_apart_12 : decode cX2_apart 12 = .ok (.arraylength, 1) := by decide +kernel
theorem dX2_apart_13 : decode cX2_apart 13 = .ok (.if_icmp .ge 35, 3) := by decide +kernel
theorem dX2_apart_16 : decode cX2_apart 16 = .ok (.aload_n 0, 1) := by decide +kernel
theorem dX2_apart_17 : decode cX2_apart 17 = .ok (.getfield 9, 3) := by decide +kernel
theorem dX2_apart_20 : decode cX2_apart 20 = .ok (.iload_n 3, 1) := by decide +kernel
theorem dX2_apart_21 : decode cX2_apart 21 = .ok (.iaload, 1) := by decide +kernel
theorem dX2_apart_22 : decode cX2_apart 22 = .ok (.iconst (-1), 1) := by decide +kernel
theorem dX2_apart_23 : decode cX2_apart 23 = .ok (.if_icmp .eq 19, 3) := by decide +kernel
theorem dX2_apart_26 : decode cX2_apart 26 = .ok (.iload_n 2, 1) := by decide +kernel
theorem dX2_apart_27 : decode cX2_apart 27 = .ok (.aload_n 1, 1) := by decide +kernel
theorem dX2_apart_28 : decode cX2_apart 28 = .ok (.iload_n 3, 1) := by decide +kernel
theorem dX2_apart_29 : decode cX2_apart 29 = .ok (.iaload, 1) := by decide +kernel
theorem dX2_apart_30 : decode cX2_apart 30 = .ok (.aload_n 0, 1) := by decide +kernel
theorem dX2_apart_31 : decode cX2_apart 31 = .ok (.getfield 9, 3) := by decide +kernel
theorem dX2_apart_34 : decode cX2_apart 34 = .ok (.iload_n 3, 1) := by decide +kernel
theorem dX2_apart_35 : decode cX2_apart 35 = .ok (.iaload, 1) := by decide +kernel
theorem dX2_apart_36 : decode cX2_apart 36 = .ok (.isub, 1) := by decide +kernel
theorem dX2_apart_37 : decode cX2_apart 37 = .ok (.invokestatic 21, 3) := by decide +kernel
theorem dX2_apart_40 : decode cX2_apart 40 = .ok (.iadd, 1) := by decide +kernel
theorem dX2_apart_41 : decode cX2_apart 41 = .ok (.istore_n 2, 1) := by decide +kernel
theorem dX2_apart_42 : decode cX2_apart 42 = .ok (.iinc 3 1, 3) := by decide +kernel
theorem dX2_apart_45 : decode cX2_apart 45 = .ok (.goto (-41), 3) := by decide +kernel
theorem dX2_apart_48 : decode cX2_apart 48 = .ok (.iload_n 2, 1) := by decide +kernel
theorem dX2_apart_49 : decode cX2_apart 49 = .ok (.ireturn, 1) := by decide +kernel
theorem dX3_init_0 : decode cX3_init 0 = .ok (.aload_n 0, 1) := by decide +kernel
theorem dX3_init_1 : decode cX3_init 1 = .ok (.invokespecial 3, 3) := by decide +kernel
theorem dX3_init_4 : decode cX3_init 4 = .ok (.aload_n 0, 1) := by decide +kernel
theorem dX3_init_5 : decode cX3_init 5 = .ok (.bipush 7, 2) := by decide +kernel
theorem dX3_init_7 : decode cX3_init 7 = .ok (.bipush 48, 2) := by decide +kernel
theorem dX3_init_9 : decode cX3_init 9 = .ok (.multianewarray 9 2, 4) := by decide +kernel
theorem dX3_init_13 : decode cX3_init 13 = .ok (.putfield 11, 3) := by decide +kernel
theorem dX3_init_16 : decode cX3_init 16 = .ok (.return_, 1) := by decide +kernel
theorem dX3_firstEvent_0 : decode cX3_firstEvent 0 = .ok (.aload_n 0, 1) := by decide +kernel
theorem dX3_firstEvent_1 : decode cX3_firstEvent 1 = .ok (.aload_n 1, 1) := by decide +kernel
theorem dX3_firstEvent_2 : decode cX3_firstEvent 2 = .ok (.iload_n 2, 1) := by decide +kernel
theorem dX3_firstEvent_3 : decode cX3_firstEvent 3 = .ok (.aload_n 0, 1) := by decide +kernel
theorem dX3_firstEvent_4 : decode cX3_firstEvent 4 = .ok (.getfield 11, 3) := by decide +kernel
theorem dX3_firstEvent_7 : decode cX3_firstEvent 7 = .ok (.iconst 0, 1) := by decide +kernel
theorem dX3_firstEvent_8 : decode cX3_firstEvent 8 = .ok (.aaload, 1) := by decide +kernel
theorem dX3_firstEvent_9 : decode cX3_firstEvent 9 = .ok (.invokevirtual 16, 3) := by decide +kernel
theorem dX3_firstEvent_12 : decode cX3_firstEvent 12 = .ok (.aload_n 0, 1) := by decide +kernel
theorem dX3_firstEvent_13 : decode cX3_firstEvent 13 = .ok (.aload_n 0, 1) := by decide +kernel
theorem dX3_firstEvent_14 : decode cX3_firstEvent 14 = .ok (.getfield 11, 3) := by decide +kernel
theorem dX3_firstEvent_17 : decode cX3_firstEvent 17 = .ok (.iconst 0, 1) := by decide +kernel
theorem dX3_firstEvent_18 : decode cX3_firstEvent 18 = .ok (.aaload, 1) := by decide +kernel
theorem dX3_firstEvent_19 : decode cX3_firstEvent 19 = .ok (.aload_n 1, 1) := by decide +kernel
theorem dX3_firstEvent_20 : decode cX3_firstEvent 20 = .ok (.iload_n 2, 1) := by decide +kernel
theorem dX3_firstEvent_21 : decode cX3_firstEvent 21 = .ok (.iload_n 3, 1) := by decide +kernel
theorem dX3_firstEvent_22 : decode cX3_firstEvent 22 = .ok (.iload 4, 2) := by decide +kernel
theorem dX3_firstEvent_24 : decode cX3_firstEvent 24 = .ok (.invokevirtual 20, 3) := by decide +kernel
theorem dX3_firstEvent_27 : decode cX3_firstEvent 27 = .ok (.ireturn, 1) := by decide +kernel
theorem dX3_unlike_0 : decode cX3_unlike 0 = .ok (.aload_n 0, 1) := by decide +kernel
theorem dX3_unlike_1 : decode cX3_unlike 1 = .ok (.aload_n 1, 1) := by decide +kernel
theorem dX3_unlike_2 : decode cX3_unlike 2 = .ok (.invokevirtual 24, 3) := by decide +kernel
theorem dX3_unlike_5 : decode cX3_unlike 5 = .ok (.aload_n 0, 1) := by decide +kernel
theorem dX3_unlike_6 : decode cX3_unlike 6 = .ok (.aload_n 1, 1) := by decide +kernel
theorem dX3_unlike_7 : decode cX3_unlike 7 = .ok (.ldc 30, 2) := by decide +kernel
theorem dX3_unlike_9 : decode cX3_unlike 9 = .ok (.invokevirtual 31, 3) := by decide +kernel
theorem dX3_unlike_12 : decode cX3_unlike 12 = .ok (.ireturn, 1) := by decide +kernel
theorem dX3_seekSetting_0 : decode cX3_seekSetting 0 = .ok (.aload_n 2, 1) := by decide +kernel
theorem dX3_seekSetting_1 : decode cX3_seekSetting 1 = .ok (.aload_n 1, 1) := by decide +kernel
theorem dX3_seekSetting_2 : decode cX3_seekSetting 2 = .ok (.invokevirtual 35, 3) := by decide +kernel
theorem dX3_seekSetting_5 : decode cX3_seekSetting 5 = .ok (.aload_n 0, 1) := by decide +kernel
theorem dX3_seekSetting_6 : decode cX3_seekSetting 6 = .ok (.ldc 30, 2) := by decide +kernel
theorem dX3_seekSetting_8 : decode cX3_seekSetting 8 = .ok (.putfield 40, 3) := by decide +kernel
theorem dX3_seekSetting_11 : decode cX3_seekSetting 11 = .ok (.getstatic 44, 3) := by decide +kernel
theorem dX3_seekSetting_14 : decode cX3_seekSetting 14 = .ok (.iconst 2, 1) := by decide +kernel
theorem dX3_seekSetting_15 : decode cX3_seekSetting 15 = .ok (.iaload, 1) := by decide +kernel
theorem dX3_seekSetting_16 : decode cX3_seekSetting 16 = .ok (.istore_n 3, 1) := by decide +kernel
theorem dX3_seekSetting_17 : decode cX3_seekSetting 17 = .ok (.iload_n 3, 1) := by decide +kernel
theorem dX3_seekSetting_18 : decode cX3_seekSetting 18 = .ok (.getstatic 48, 3) := by decide +kernel
theorem dX3_seekSetting_21 : decode cX3_seekSetting 21 = .ok (.iconst 2, 1) := by decide +kernel
theorem dX3_seekSetting_22 : decode cX3_seekSetting 22 = .ok (.iaload, 1) := by decide +kernel
theorem dX3_seekSetting_23 : decode cX3_seekSetting 23 = .ok (.if_icmp .gt 89, 3) := by decide +kernel
theorem dX3_seekSetting_26 : decode cX3_seekSetting 26 = .ok (.aload_n 2, 1) := by decide +kernel
theorem dX3_seekSetting_27 : decode cX3_seekSetting 27 = .ok (.getfield 51, 3) := by decide +kernel
theorem dX3_seekSetting_30 : decode cX3_seekSetting 30 = .ok (.iconst 2, 1) := by decide +kernel
theorem dX3_seekSetting_31 : decode cX3_seekSetting 31 = .ok (.iload_n 3, 1) := by decide +kernel
theorem dX3_seekSetting_32 : decode cX3_seekSetting 32 = .ok (.iastore, 1) := by decide +kernel
theorem dX3_seekSetting_33 : decode cX3_seekSetting 33 = .ok (.aload_n 0, 1) := by decide +kernel
theorem dX3_seekSetting_34 : decode cX3_seekSetting 34 = .ok (.aload_n 2, 1) := by decide +kernel
theorem dX3_seekSetting_35 : decode cX3_seekSetting 35 = .ok (.invokevirtual 24, 3) := by decide +kernel
theorem dX3_seekSetting_38 : decode cX3_seekSetting 38 = .ok (.getstatic 44, 3) := by decide +kernel
theorem dX3_seekSetting_41 : decode cX3_seekSetting 41 = .ok (.iconst 3, 1) := by decide +kernel
theorem dX3_seekSetting_42 : decode cX3_seekSetting 42 = .ok (.iaload, 1) := by decide +kernel
theorem dX3_seekSetting_43 : decode cX3_seekSetting 43 = .ok (.istore 4, 2) := by decide +kernel
theorem dX3_seekSetting_45 : decode cX3_seekSetting 45 = .ok (.iload 4, 2) := by decide +kernel
theorem dX3_seekSetting_47 : decode cX3_seekSetting 47 = .ok (.getstatic 48, 3) := by decide +kernel
theorem dX3_seekSetting_50 : decode cX3_seekSetting 50 = .ok (.iconst 3, 1) := by decide +kernel
theorem dX3_seekSetting_51 : decode cX3_seekSetting 51 = .ok (.iaload, 1) := by decide +kernel
theorem dX3_seekSetting_52 : decode cX3_seekSetting 52 = .ok (.if_icmp .gt 54, 3) := by decide +kernel
theorem dX3_seekSetting_55 : decode cX3_seekSetting 55 = .ok (.aload_n 2, 1) := by decide +kernel
theorem dX3_seekSetting_56 : decode cX3_seekSetting 56 = .ok (.getfield 51, 3) := by decide +kernel
theorem dX3_seekSetting_59 : decode cX3_seekSetting 59 = .ok (.iconst 3, 1) := by decide +kernel
theorem dX3_seekSetting_60 : decode cX3_seekSetting 60 = .ok (.iload 4, 2) := by decide +kernel
theorem dX3_seekSetting_62 : decode cX3_seekSetting 62 = .ok (.iastore, 1) := by decide +kernel
theorem dX3_seekSetting_63 : decode cX3_seekSetting 63 = .ok (.aload_n 0, 1) := by decide +kernel
theorem dX3_seekSetting_64 : decode cX3_seekSetting 64 = .ok (.aload_n 2, 1) := by decide +kernel
theorem dX3_seekSetting_65 : decode cX3_seekSetting 65 = .ok (.aload_n 0, 1) := by decide +kernel
theorem dX3_seekSetting_66 : decode cX3_seekSetting 66 = .ok (.getfield 40, 3) := by decide +kernel
theorem dX3_seekSetting_69 : decode cX3_seekSetting 69 = .ok (.invokevirtual 31, 3) := by decide +kernel
theorem dX3_seekSetting_72 : decode cX3_seekSetting 72 = .ok (.istore 5, 2) := by decide +kernel
theorem dX3_seekSetting_74 : decode cX3_seekSetting 74 = .ok (.iload 5, 2) := by decide +kernel
theorem dX3_seekSetting_76 : decode cX3_seekSetting 76 = .ok (.aload_n 0, 1) := by decide +kernel
theorem dX3_seekSetting_77 : decode cX3_seekSetting 77 = .ok (.getfield 40, 3) := by decide +kernel
theorem dX3_seekSetting_80 : decode cX3_seekSetting 80 = .ok (.if_icmp .ge 20, 3) := by decide +kernel
theorem dX3_seekSetting_83 : decode cX3_seekSetting 83 = .ok (.aload_n 0, 1) := by decide +kernel
theorem dX3_seekSetting_84 : decode cX3_seekSetting 84 = .ok (.iload_n 3, 1) := by decide +kernel
theorem dX3_seekSetting_85 : decode cX3_seekSetting 85 = .ok (.putfield 54, 3) := by decide +kernel
theorem dX3_seekSetting_88 : decode cX3_seekSetting 88 = .ok (.aload_n 0, 1) := by decide +kernel
theorem dX3_seekSetting_89 : decode cX3_seekSetting 89 = .ok (.iload 4, 2) := by decide +kernel
theorem dX3_seekSetting_91 : decode cX3_seekSetting 91 = .ok (.putfield 57, 3) := by decide +kernel
theorem dX3_seekSetting_94 : decode cX3_seekSetting 94 = .ok (.aload_n 0, 1) := by decide +kernel
theorem dX3_seekSetting_95 : decode cX3_seekSetting 95 = .ok (.iload 5, 2) := by decide +kernel
theorem dX3_seekSetting_97 : decode cX3_seekSetting 97 = .ok (.putfield 40, 3) := by decide +kernel
theorem dX3_seekSetting_100 : decode cX3_seekSetting 100 = .ok (.iinc 4 1, 3) := by decide +kernel
theorem dX3_seekSetting_103 : decode cX3_seekSetting 103 = .ok (.goto (-58), 3) := by decide +kernel
theorem dX3_seekSetting_106 : decode cX3_seekSetting 106 = .ok (.iinc 3 1, 3) := by decide +kernel
theorem dX3_seekSetting_109 : decode cX3_seekSetting 109 = .ok (.goto (-92), 3) := by decide +kernel
theorem dX3_seekSetting_112 : decode cX3_seekSetting 112 = .ok (.return_, 1) := by decide +kernel
theorem dX3_fillSwings_0 : decode cX3_fillSwings 0 = .ok (.iconst 1, 1) := by decide +kernel
theorem dX3_fillSwings_1 : decode cX3_fillSwings 1 = .ok (.istore_n 2, 1) := by decide +kernel
theorem dX3_fillSwings_2 : decode cX3_fillSwings 2 = .ok (.iload_n 2, 1) := by decide +kernel
theorem dX3_fillSwings_3 : decode cX3_fillSwings 3 = .ok (.aload_n 0, 1) := by decide +kernel
theorem dX3_fillSwings_4 : decode cX3_fillSwings 4 = .ok (.getfield 11, 3) := by decide +kernel
theorem dX3_fillSwings_7 : decode cX3_fillSwings 7 = .ok (.arraylength, 1) := by decide +kernel
theorem dX3_fillSwings_8 : decode cX3_fillSwings 8 = .ok (.if_icmp .ge 21, 3) := by decide +kernel
theorem dX3_fillSwings_11 : decode cX3_fillSwings 11 = .ok (.aload_n 0, 1) := by decide +kernel
theorem dX3_fillSwings_12 : decode cX3_fillSwings 12 = .ok (.aload_n 1, 1) := by decide +kernel
theorem dX3_fillSwings_13 : decode cX3_fillSwings 13 = .ok (.iload_n 2, 1) := by decide +kernel
theorem dX3_fillSwings_14 : decode cX3_fillSwings 14 = .ok (.aload_n 0, 1) := by decide +kernel
theorem dX3_fillSwings_15 : decode cX3_fillSwings 15 = .ok (.getfield 11, 3) := by decide +kernel
theorem dX3_fillSwings_18 : decode cX3_fillSwings 18 = .ok (.iload_n 2, 1) := by decide +kernel
theorem dX3_fillSwings_19 : decode cX3_fillSwings 19 = .ok (.aaload, 1) := by decide +kernel
theorem dX3_fillSwings_20 : decode cX3_fillSwings 20 = .ok (.invokevirtual 16, 3) := by decide +kernel
theorem dX3_fillSwings_23 : decode cX3_fillSwings 23 = .ok (.iinc 2 1, 3) := by decide +kernel
theorem dX3_fillSwings_26 : decode cX3_fillSwings 26 = .ok (.goto (-24), 3) := by decide +kernel
theorem dX3_fillSwings_29 : decode cX3_fillSwings 29 = .ok (.return_, 1) := by decide +kernel
theorem dX3_fillSwing_0 : decode cX3_fillSwing 0 = .ok (.iconst 0, 1) := by decide +kernel
theorem dX3_fillSwing_1 : decode cX3_fillSwing 1 = .ok (.istore 4, 2) := by decide +kernel
theorem dX3_fillSwing_3 : decode cX3_fillSwing 3 = .ok (.iload 4, 2) := by decide +kernel
theorem dX3_fillSwing_5 : decode cX3_fillSwing 5 = .ok (.aload_n 3, 1) := by decide +kernel
theorem dX3_fillSwing_6 : decode cX3_fillSwing 6 = .ok (.arraylength, 1) := by decide +kernel
theorem dX3_fillSwing_7 : decode cX3_fillSwing 7 = .ok (.if_icmp .ge 20, 3) := by decide +kernel
theorem dX3_fillSwing_10 : decode cX3_fillSwing 10 = .ok (.aload_n 3, 1) := by decide +kernel
theorem dX3_fillSwing_11 : decode cX3_fillSwing 11 = .ok (.iload 4, 2) := by decide +kernel
theorem dX3_fillSwing_13 : decode cX3_fillSwing 13 = .ok (.aload_n 1, 1) := by decide +kernel
theorem dX3_fillSwing_14 : decode cX3_fillSwing 14 = .ok (.iload_n 2, 1) := by decide +kernel
theorem dX3_fillSwing_15 : decode cX3_fillSwing 15 = .ok (.iload 4, 2) := by decide +kernel
theorem dX3_fillSwing_17 : decode cX3_fillSwing 17 = .ok (.invokevirtual 60, 3) := by decide +kernel
theorem dX3_fillSwing_20 : decode cX3_fillSwing 20 = .ok (.iastore, 1) := by decide +kernel
theorem dX3_fillSwing_21 : decode cX3_fillSwing 21 = .ok (.iinc 4 1, 3) := by decide +kernel
theorem dX3_fillSwing_24 : decode cX3_fillSwing 24 = .ok (.goto (-21), 3) := by decide +kernel
theorem dX3_fillSwing_27 : decode cX3_fillSwing 27 = .ok (.return_, 1) := by decide +kernel
theorem dX3_unlikeBelow_0 : decode cX3_unlikeBelow 0 = .ok (.iconst 0, 1) := by decide +kernel
theorem dX3_unlikeBelow_1 : decode cX3_unlikeBelow 1 = .ok (.istore_n 3, 1) := by decide +kernel
theorem dX3_unlikeBelow_2 : decode cX3_unlikeBelow 2 = .ok (.iconst 1, 1) := by decide +kernel
theorem dX3_unlikeBelow_3 : decode cX3_unlikeBelow 3 = .ok (.istore 4, 2) := by decide +kernel
theorem dX3_unlikeBelow_5 : decode cX3_unlikeBelow 5 = .ok (.iload 4, 2) := by decide +kernel
theorem dX3_unlikeBelow_7 : decode cX3_unlikeBelow 7 = .ok (.aload_n 0, 1) := by decide +kernel
theorem dX3_unlikeBelow_8 : decode cX3_unlikeBelow 8 = .ok (.getfield 11, 3) := by decide +kernel
theorem dX3_unlikeBelow_11 : decode cX3_unlikeBelow 11 = .ok (.arraylength, 1) := by decide +kernel
theorem dX3_unlikeBelow_12 : decode cX3_unlikeBelow 12 = .ok (.if_icmp .ge 79, 3) := by decide +kernel
theorem dX3_unlikeBelow_15 : decode cX3_unlikeBelow 15 = .ok (.iload_n 3, 1) := by decide +kernel
theorem dX3_unlikeBelow_16 : decode cX3_unlikeBelow 16 = .ok (.iload_n 2, 1) := by decide +kernel
theorem dX3_unlikeBelow_17 : decode cX3_unlikeBelow 17 = .ok (.if_icmp .ge 74, 3) := by decide +kernel
theorem dX3_unlikeBelow_20 : decode cX3_unlikeBelow 20 = .ok (.aload_n 0, 1) := by decide +kernel
theorem dX3_unlikeBelow_21 : decode cX3_unlikeBelow 21 = .ok (.aload_n 0, 1) := by decide +kernel
theorem dX3_unlikeBelow_22 : decode cX3_unlikeBelow 22 = .ok (.getfield 11, 3) := by decide +kernel
theorem dX3_unlikeBelow_25 : decode cX3_unlikeBelow 25 = .ok (.iload 4, 2) := by decide +kernel
theorem dX3_unlikeBelow_27 : decode cX3_unlikeBelow 27 = .ok (.aaload, 1) := by decide +kernel
theorem dX3_unlikeBelow_28 : decode cX3_unlikeBelow 28 = .ok (.aload_n 1, 1) := by decide +kernel
theorem dX3_unlikeBelow_29 : decode cX3_unlikeBelow 29 = .ok (.iload 4, 2) := by decide +kernel
theorem dX3_unlikeBelow_31 : decode cX3_unlikeBelow 31 = .ok (.iconst 0, 1) := by decide +kernel
theorem dX3_unlikeBelow_32 : decode cX3_unlikeBelow 32 = .ok (.iconst 1, 1) := by decide +kernel
theorem dX3_unlikeBelow_33 : decode cX3_unlikeBelow 33 = .ok (.invokevirtual 20, 3) := by decide +kernel
theorem dX3_unlikeBelow_36 : decode cX3_unlikeBelow 36 = .ok (.istore 5, 2) := by decide +kernel
theorem dX3_unlikeBelow_38 : decode cX3_unlikeBelow 38 = .ok (.aload_n 0, 1) := by decide +kernel
theorem dX3_unlikeBelow_39 : decode cX3_unlikeBelow 39 = .ok (.aload_n 0, 1) := by decide +kernel
theorem dX3_unlikeBelow_40 : decode cX3_unlikeBelow 40 = .ok (.getfield 11, 3) := by decide +kernel
theorem dX3_unlikeBelow_43 : decode cX3_unlikeBelow 43 = .ok (.iload 4, 2) := by decide +kernel
theorem dX3_unlikeBelow_45 : decode cX3_unlikeBelow 45 = .ok (.aaload, 1) := by decide +kernel
theorem dX3_unlikeBelow_46 : decode cX3_unlikeBelow 46 = .ok (.aload_n 1, 1) := by decide +kernel
theorem dX3_unlikeBelow_47 : decode cX3_unlikeBelow 47 = .ok (.iload 4, 2) := by decide +kernel
theorem dX3_unlikeBelow_49 : decode cX3_unlikeBelow 49 = .ok (.iconst 1, 1) := by decide +kernel
theorem dX3_unlikeBelow_50 : decode cX3_unlikeBelow 50 = .ok (.iconst 1, 1) := by decide +kernel
theorem dX3_unlikeBelow_51 : decode cX3_unlikeBelow 51 = .ok (.invokevirtual 20, 3) := by decide +kernel
theorem dX3_unlikeBelow_54 : decode cX3_unlikeBelow 54 = .ok (.istore 6, 2) := by decide +kernel
theorem dX3_unlikeBelow_56 : decode cX3_unlikeBelow 56 = .ok (.iload_n 3, 1) := by decide +kernel
theorem dX3_unlikeBelow_57 : decode cX3_unlikeBelow 57 = .ok (.iload 5, 2) := by decide +kernel
theorem dX3_unlikeBelow_59 : decode cX3_unlikeBelow 59 = .ok (.ldc 64, 2) := by decide +kernel
theorem dX3_unlikeBelow_61 : decode cX3_unlikeBelow 61 = .ok (.if_icmp .eq 10, 3) := by decide +kernel
theorem dX3_unlikeBelow_64 : decode cX3_unlikeBelow 64 = .ok (.iload 6, 2) := by decide +kernel
theorem dX3_unlikeBelow_66 : decode cX3_unlikeBelow 66 = .ok (.ldc 64, 2) := by decide +kernel
theorem dX3_unlikeBelow_68 : decode cX3_unlikeBelow 68 = .ok (.if_icmp .ne 8, 3) := by decide +kernel
theorem dX3_unlikeBelow_71 : decode cX3_unlikeBelow 71 = .ok (.bipush 24, 2) := by decide +kernel
theorem dX3_unlikeBelow_73 : decode cX3_unlikeBelow 73 = .ok (.goto 10, 3) := by decide +kernel
theorem dX3_unlikeBelow_76 : decode cX3_unlikeBelow 76 = .ok (.iload 5, 2) := by decide +kernel
theorem dX3_unlikeBelow_78 : decode cX3_unlikeBelow 78 = .ok (.iload 6, 2) := by decide +kernel
theorem dX3_unlikeBelow_80 : decode cX3_unlikeBelow 80 = .ok (.invokestatic 65, 3) := by decide +kernel
theorem dX3_unlikeBelow_83 : decode cX3_unlikeBelow 83 = .ok (.iadd, 1) := by decide +kernel
theorem dX3_unlikeBelow_84 : decode cX3_unlikeBelow 84 = .ok (.istore_n 3, 1) := by decide +kernel
theorem dX3_unlikeBelow_85 : decode cX3_unlikeBelow 85 = .ok (.iinc 4 1, 3) := by decide +kernel
theorem dX3_unlikeBelow_88 : decode cX3_unlikeBelow 88 = .ok (.goto (-83), 3) := by decide +kernel
theorem dX3_unlikeBelow_91 : decode cX3_unlikeBelow 91 = .ok (.iload_n 3, 1) := by decide +kernel
theorem dX3_unlikeBelow_92 : decode cX3_unlikeBelow 92 = .ok (.ireturn, 1) := by decide +kernel
theorem dX3_offHalfTurn_0 : decode cX3_offHalfTurn 0 = .ok (.iload_n 1, 1) := by decide +kernel
theorem dX3_offHalfTurn_1 : decode cX3_offHalfTurn 1 = .ok (.iload_n 0, 1) := by decide +kernel
theorem dX3_offHalfTurn_2 : decode cX3_offHalfTurn 2 = .ok (.isub, 1) := by decide +kernel
theorem dX3_offHalfTurn_3 : decode cX3_offHalfTurn 3 = .ok (.bipush 24, 2) := by decide +kernel
theorem dX3_offHalfTurn_5 : decode cX3_offHalfTurn 5 = .ok (.isub, 1) := by decide +kernel
theorem dX3_offHalfTurn_6 : decode cX3_offHalfTurn 6 = .ok (.bipush 48, 2) := by decide +kernel
theorem dX3_offHalfTurn_8 : decode cX3_offHalfTurn 8 = .ok (.invokestatic 68, 3) := by decide +kernel
theorem dX3_offHalfTurn_11 : decode cX3_offHalfTurn 11 = .ok (.istore_n 2, 1) := by decide +kernel
theorem dX3_offHalfTurn_12 : decode cX3_offHalfTurn 12 = .ok (.iload_n 2, 1) := by decide +kernel
theorem dX3_offHalfTurn_13 : decode cX3_offHalfTurn 13 = .ok (.bipush 48, 2) := by decide +kernel
theorem dX3_offHalfTurn_15 : decode cX3_offHalfTurn 15 = .ok (.iload_n 2, 1) := by decide +kernel
theorem dX3_offHalfTurn_16 : decode cX3_offHalfTurn 16 = .ok (.isub, 1) := by decide +kernel
theorem dX3_offHalfTurn_17 : decode cX3_offHalfTurn 17 = .ok (.invokestatic 73, 3) := by decide +kernel
theorem dX3_offHalfTurn_20 : decode cX3_offHalfTurn 20 = .ok (.ireturn, 1) := by decide +kernel
theorem dX3_firstEventOn_0 : decode cX3_firstEventOn 0 = .ok (.aload_n 2, 1) := by decide +kernel
theorem dX3_firstEventOn_1 : decode cX3_firstEventOn 1 = .ok (.iload_n 3, 1) := by decide +kernel
theorem dX3_firstEventOn_2 : decode cX3_firstEventOn 2 = .ok (.invokevirtual 76, 3) := by decide +kernel
theorem dX3_firstEventOn_5 : decode cX3_firstEventOn 5 = .ok (.istore 6, 2) := by decide +kernel
theorem dX3_firstEventOn_7 : decode cX3_firstEventOn 7 = .ok (.iload 5, 2) := by decide +kernel
theorem dX3_firstEventOn_9 : decode cX3_firstEventOn 9 = .ok (.iconst 2, 1) := by decide +kernel
theorem dX3_firstEventOn_10 : decode cX3_firstEventOn 10 = .ok (.if_icmp .ge 7, 3) := by decide +kernel
theorem dX3_firstEventOn_13 : decode cX3_firstEventOn 13 = .ok (.iconst 0, 1) := by decide +kernel
theorem dX3_firstEventOn_14 : decode cX3_firstEventOn 14 = .ok (.goto 4, 3) := by decide +kernel
theorem dX3_firstEventOn_17 : decode cX3_firstEventOn 17 = .ok (.iconst 1, 1) := by decide +kernel
theorem dX3_firstEventOn_18 : decode cX3_firstEventOn 18 = .ok (.istore 7, 2) := by decide +kernel
theorem dX3_firstEventOn_20 : decode cX3_firstEventOn 20 = .ok (.iload 5, 2) := by decide +kernel
theorem dX3_firstEventOn_22 : decode cX3_firstEventOn 22 = .ok (.iconst 2, 1) := by decide +kernel
theorem dX3_firstEventOn_23 : decode cX3_firstEventOn 23 = .ok (.irem, 1) := by decide +kernel
theorem dX3_firstEventOn_24 : decode cX3_firstEventOn 24 = .ok (.ifCond .ne 7, 3) := by decide +kernel
theorem dX3_firstEventOn_27 : decode cX3_firstEventOn 27 = .ok (.iconst 1, 1) := by decide +kernel
theorem dX3_firstEventOn_28 : decode cX3_firstEventOn 28 = .ok (.goto 4, 3) := by decide +kernel
theorem dX3_firstEventOn_31 : decode cX3_firstEventOn 31 = .ok (.iconst 0, 1) := by decide +kernel
theorem dX3_firstEventOn_32 : decode cX3_firstEventOn 32 = .ok (.istore 8, 2) := by decide +kernel
theorem dX3_firstEventOn_34 : decode cX3_firstEventOn 34 = .ok (.aload_n 2, 1) := by decide +kernel
theorem dX3_firstEventOn_35 : decode cX3_firstEventOn 35 = .ok (.aload_n 1, 1) := by decide +kernel
theorem dX3_firstEventOn_36 : decode cX3_firstEventOn 36 = .ok (.aload_n 1, 1) := by decide +kernel
theorem dX3_firstEventOn_37 : decode cX3_firstEventOn 37 = .ok (.arraylength, 1) := by decide +kernel
theorem dX3_firstEventOn_38 : decode cX3_firstEventOn 38 = .ok (.iconst 1, 1) := by decide +kernel
theorem dX3_firstEventOn_39 : decode cX3_firstEventOn 39 = .ok (.isub, 1) := by decide +kernel
theorem dX3_firstEventOn_40 : decode cX3_firstEventOn 40 = .ok (.iaload, 1) := by decide +kernel
theorem dX3_firstEventOn_41 : decode cX3_firstEventOn 41 = .ok (.iload 6, 2) := by decide +kernel
theorem dX3_firstEventOn_43 : decode cX3_firstEventOn 43 = .ok (.iadd, 1) := by decide +kernel
theorem dX3_firstEventOn_44 : decode cX3_firstEventOn 44 = .ok (.iload 4, 2) := by decide +kernel
theorem dX3_firstEventOn_46 : decode cX3_firstEventOn 46 = .ok (.iload 7, 2) := by decide +kernel
theorem dX3_firstEventOn_48 : decode cX3_firstEventOn 48 = .ok (.invokevirtual 80, 3) := by decide +kernel
theorem dX3_firstEventOn_51 : decode cX3_firstEventOn 51 = .ok (.ifCond .le 7, 3) := by decide +kernel
theorem dX3_firstEventOn_54 : decode cX3_firstEventOn 54 = .ok (.iconst 1, 1) := by decide +kernel
theorem dX3_firstEventOn_55 : decode cX3_firstEventOn 55 = .ok (.goto 4, 3) := by decide +kernel
theorem dX3_firstEventOn_58 : decode cX3_firstEventOn 58 = .ok (.iconst 0, 1) := by decide +kernel
theorem dX3_firstEventOn_59 : decode cX3_firstEventOn 59 = .ok (.istore 9, 2) := by decide +kernel
theorem dX3_firstEventOn_61 : decode cX3_firstEventOn 61 = .ok (.iconst 0, 1) := by decide +kernel
theorem dX3_firstEventOn_62 : decode cX3_firstEventOn 62 = .ok (.istore 10, 2) := by decide +kernel
theorem dX3_firstEventOn_64 : decode cX3_firstEventOn 64 = .ok (.iload 10, 2) := by decide +kernel
theorem dX3_firstEventOn_66 : decode cX3_firstEventOn 66 = .ok (.aload_n 1, 1) := by decide +kernel
theorem dX3_firstEventOn_67 : decode cX3_firstEventOn 67 = .ok (.arraylength, 1) := by decide +kernel
theorem dX3_firstEventOn_68 : decode cX3_firstEventOn 68 = .ok (.if_icmp .ge 55, 3) := by decide +kernel
theorem dX3_firstEventOn_71 : decode cX3_firstEventOn 71 = .ok (.aload_n 2, 1) := by decide +kernel
theorem dX3_firstEventOn_72 : decode cX3_firstEventOn 72 = .ok (.aload_n 1, 1) := by decide +kernel
theorem dX3_firstEventOn_73 : decode cX3_firstEventOn 73 = .ok (.iload 10, 2) := by decide +kernel
theorem dX3_firstEventOn_75 : decode cX3_firstEventOn 75 = .ok (.iaload, 1) := by decide +kernel
theorem dX3_firstEventOn_76 : decode cX3_firstEventOn 76 = .ok (.iload 6, 2) := by decide +kernel
theorem dX3_firstEventOn_78 : decode cX3_firstEventOn 78 = .ok (.iadd, 1) := by decide +kernel
theorem dX3_firstEventOn_79 : decode cX3_firstEventOn 79 = .ok (.iload 4, 2) := by decide +kernel
theorem dX3_firstEventOn_81 : decode cX3_firstEventOn 81 = .ok (.iload 7, 2) := by decide +kernel
theorem dX3_firstEventOn_83 : decode cX3_firstEventOn 83 = .ok (.invokevirtual 80, 3) := by decide +kernel
theorem dX3_firstEventOn_86 : decode cX3_firstEventOn 86 = .ok (.ifCond .le 7, 3) := by decide +kernel
theorem dX3_firstEventOn_89 : decode cX3_firstEventOn 89 = .ok (.iconst 1, 1) := by decide +kernel
theorem dX3_firstEventOn_90 : decode cX3_firstEventOn 90 = .ok (.goto 4, 3) := by decide +kernel
theorem dX3_firstEventOn_93 : decode cX3_firstEventOn 93 = .ok (.iconst 0, 1) := by decide +kernel
theorem dX3_firstEventOn_94 : decode cX3_firstEventOn 94 = .ok (.istore 11, 2) := by decide +kernel
theorem dX3_firstEventOn_96 : decode cX3_firstEventOn 96 = .ok (.iload 11, 2) := by decide +kernel
theorem dX3_firstEventOn_98 : decode cX3_firstEventOn 98 = .ok (.iload 9, 2) := by decide +kernel
theorem dX3_firstEventOn_100 : decode cX3_firstEventOn 100 = .ok (.if_icmp .eq 13, 3) := by decide +kernel
theorem dX3_firstEventOn_103 : decode cX3_firstEventOn 103 = .ok (.iload 11, 2) := by decide +kernel
theorem dX3_firstEventOn_105 : decode cX3_firstEventOn 105 = .ok (.iload 8, 2) := by decide +kernel
theorem dX3_firstEventOn_107 : decode cX3_firstEventOn 107 = .ok (.if_icmp .ne 6, 3) := by decide +kernel
theorem dX3_firstEventOn_110 : decode cX3_firstEventOn 110 = .ok (.iload 10, 2) := by decide +kernel
theorem dX3_firstEventOn_112 : decode cX3_firstEventOn 112 = .ok (.ireturn, 1) := by decide +kernel
theorem dX3_firstEventOn_113 : decode cX3_firstEventOn 113 = .ok (.iload 11, 2) := by decide +kernel
theorem dX3_firstEventOn_115 : decode cX3_firstEventOn 115 = .ok (.istore 9, 2) := by decide +kernel
theorem dX3_firstEventOn_117 : decode cX3_firstEventOn 117 = .ok (.iinc 10 1, 3) := by decide +kernel
theorem dX3_firstEventOn_120 : decode cX3_firstEventOn 120 = .ok (.goto (-56), 3) := by decide +kernel
theorem dX3_firstEventOn_123 : decode cX3_firstEventOn 123 = .ok (.ldc 64, 2) := by decide +kernel
theorem dX3_firstEventOn_125 : decode cX3_firstEventOn 125 = .ok (.ireturn, 1) := by decide +kernel
theorem dX4_init_0 : decode cX4_init 0 = .ok (.aload_n 0, 1) := by decide +kernel
theorem dX4_init_1 : decode cX4_init 1 = .ok (.invokespecial 3, 3) := by decide +kernel
theorem dX4_init_4 : decode cX4_init 4 = .ok (.aload_n 0, 1) := by decide +kernel
theorem dX4_init_5 : decode cX4_init 5 = .ok (.bipush 13, 2) := by decide +kernel
theorem dX4_init_7 : decode cX4_init 7 = .ok (.newarray .int, 2) := by decide +kernel
theorem dX4_init_9 : decode cX4_init 9 = .ok (.putfield 9, 3) := by decide +kernel
theorem dX4_init_12 : decode cX4_init 12 = .ok (.return_, 1) := by decide +kernel
theorem dX4_misfitBy_0 : decode cX4_misfitBy 0 = .ok (.aload_n 2, 1) := by decide +kernel
theorem dX4_misfitBy_1 : decode cX4_misfitBy 1 = .ok (.iload_n 3, 1) := by decide +kernel
theorem dX4_misfitBy_2 : decode cX4_misfitBy 2 = .ok (.putfield 15, 3) := by decide +kernel
theorem dX4_misfitBy_5 : decode cX4_misfitBy 5 = .ok (.aload 4, 2) := by decide +kernel
theorem dX4_misfitBy_7 : decode cX4_misfitBy 7 = .ok (.aload_n 2, 1) := by decide +kernel
theorem dX4_misfitBy_8 : decode cX4_misfitBy 8 = .ok (.aload_n 1, 1) := by decide +kernel
theorem dX4_misfitBy_9 : decode cX4_misfitBy 9 = .ok (.getfield 21, 3) := by decide +kernel
theorem dX4_misfitBy_12 : decode cX4_misfitBy 12 = .ok (.aload_n 1, 1) := by decide +kernel
theorem dX4_misfitBy_13 : decode cX4_misfitBy 13 = .ok (.getfield 26, 3) := by decide +kernel
theorem dX4_misfitBy_16 : decode cX4_misfitBy 16 = .ok (.iconst 4, 1) := by decide +kernel
theorem dX4_misfitBy_17 : decode cX4_misfitBy 17 = .ok (.iconst 0, 1) := by decide +kernel
theorem dX4_misfitBy_18 : decode cX4_misfitBy 18 = .ok (.invokevirtual 29, 3) := by decide +kernel
theorem dX4_misfitBy_21 : decode cX4_misfitBy 21 = .ok (.aload_n 1, 1) := by decide +kernel
theorem dX4_misfitBy_22 : decode cX4_misfitBy 22 = .ok (.aload 4, 2) := by decide +kernel
theorem dX4_misfitBy_24 : decode cX4_misfitBy 24 = .ok (.getfield 35, 3) := by decide +kernel
theorem dX4_misfitBy_27 : decode cX4_misfitBy 27 = .ok (.invokevirtual 38, 3) := by decide +kernel
theorem dX4_misfitBy_30 : decode cX4_misfitBy 30 = .ok (.ireturn, 1) := by decide +kernel
theorem dX4_seek_0 : decode cX4_seek 0 = .ok (.iconst 0, 1) := by decide +kernel
theorem dX4_seek_1 : decode cX4_seek 1 = .ok (.istore 4, 2) := by decide +kernel
theorem dX4_seek_3 : decode cX4_seek 3 = .ok (.iload 4, 2) := by decide +kernel
theorem dX4_seek_5 : decode cX4_seek 5 = .ok (.bipush 13, 2) := by decide +kernel
theorem dX4_seek_7 : decode cX4_seek 7 = .ok (.if_icmp .ge 61, 3) := by decide +kernel
theorem dX4_seek_10 : decode cX4_seek 10 = .ok (.aload_n 0, 1) := by decide +kernel
theorem dX4_seek_11 : decode cX4_seek 11 = .ok (.getfield 9, 3) := by decide +kernel
theorem dX4_seek_14 : decode cX4_seek 14 = .ok (.iload 4, 2) := by decide +kernel
theorem dX4_seek_16 : decode cX4_seek 16 = .ok (.aload_n 0, 1) := by decide +kernel
theorem dX4_seek_17 : decode cX4_seek 17 = .ok (.aload_n 1, 1) := by decide +kernel
theorem dX4_seek_18 : decode cX4_seek 18 = .ok (.aload_n 2, 1) := by decide +kernel
theorem dX4_seek_19 : decode cX4_seek 19 = .ok (.iload 4, 2) := by decide +kernel
theorem dX4_seek_21 : decode cX4_seek 21 = .ok (.aload_n 3, 1) := by decide +kernel
theorem dX4_seek_22 : decode cX4_seek 22 = .ok (.invokevirtual 42, 3) := by decide +kernel
theorem dX4_seek_25 : decode cX4_seek 25 = .ok (.iastore, 1) := by decide +kernel
theorem dX4_seek_26 : decode cX4_seek 26 = .ok (.iload 4, 2) := by decide +kernel
theorem dX4_seek_28 : decode cX4_seek 28 = .ok (.ifCond .eq 17, 3) := by decide +kernel
theorem dX4_seek_31 : decode cX4_seek 31 = .ok (.aload_n 0, 1) := by decide +kernel
theorem dX4_seek_32 : decode cX4_seek 32 = .ok (.getfield 9, 3) := by decide +kernel
theorem dX4_seek_35 : decode cX4_seek 35 = .ok (.iload 4, 2) := by decide +kernel
theorem dX4_seek_37 : decode cX4_seek 37 = .ok (.iaload, 1) := by decide +kernel
theorem dX4_seek_38 : decode cX4_seek 38 = .ok (.aload_n 0, 1) := by decide +kernel
theorem dX4_seek_39 : decode cX4_seek 39 = .ok (.getfield 46, 3) := by decide +kernel
theorem dX4_seek_42 : decode cX4_seek 42 = .ok (.if_icmp .ge 20, 3) := by decide +kernel
theorem dX4_seek_45 : decode cX4_seek 45 = .ok (.aload_n 0, 1) := by decide +kernel
theorem dX4_seek_46 : decode cX4_seek 46 = .ok (.iload 4, 2) := by decide +kernel
theorem dX4_seek_48 : decode cX4_seek 48 = .ok (.putfield 49, 3) := by decide +kernel
theorem dX4_seek_51 : decode cX4_seek 51 = .ok (.aload_n 0, 1) := by decide +kernel
theorem dX4_seek_52 : decode cX4_seek 52 = .ok (.aload_n 0, 1) := by decide +kernel
theorem dX4_seek_53 : decode cX4_seek 53 = .ok (.getfield 9, 3) := by decide +kernel
theorem dX4_seek_56 : decode cX4_seek 56 = .ok (.iload 4, 2) := by decide +kernel
theorem dX4_seek_58 : decode cX4_seek 58 = .ok (.iaload, 1) := by decide +kernel
theorem dX4_seek_59 : decode cX4_seek 59 = .ok (.putfield 46, 3) := by decide +kernel
theorem dX4_seek_62 : decode cX4_seek 62 = .ok (.iinc 4 1, 3) := by decide +kernel
theorem dX4_seek_65 : decode cX4_seek 65 = .ok (.goto (-62), 3) := by decide +kernel
theorem dX4_seek_68 : decode cX4_seek 68 = .ok (.return_, 1) := by decide +kernel
theorem dX4_doubt_0 : decode cX4_doubt 0 = .ok (.iconst 0, 1) := by decide +kernel
theorem dX4_doubt_1 : decode cX4_doubt 1 = .ok (.istore_n 2, 1) := by decide +kernel
theorem dX4_doubt_2 : decode cX4_doubt 2 = .ok (.iconst 0, 1) := by decide +kernel
theorem dX4_doubt_3 : decode cX4_doubt 3 = .ok (.istore_n 3, 1) := by decide +kernel
theorem dX4_doubt_4 : decode cX4_doubt 4 = .ok (.iload_n 3, 1) := by decide +kernel
theorem dX4_doubt_5 : decode cX4_doubt 5 = .ok (.bipush 13, 2) := by decide +kernel
theorem dX4_doubt_7 : decode cX4_doubt 7 = .ok (.if_icmp .ge 35, 3) := by decide +kernel
theorem dX4_doubt_10 : decode cX4_doubt 10 = .ok (.iload_n 3, 1) := by decide +kernel
theorem dX4_doubt_11 : decode cX4_doubt 11 = .ok (.aload_n 0, 1) := by decide +kernel
theorem dX4_doubt_12 : decode cX4_doubt 12 = .ok (.getfield 49, 3) := by decide +kernel
theorem dX4_doubt_15 : decode cX4_doubt 15 = .ok (.if_icmp .eq 21, 3) := by decide +kernel
theorem dX4_doubt_18 : decode cX4_doubt 18 = .ok (.aload_n 0, 1) := by decide +kernel
theorem dX4_doubt_19 : decode cX4_doubt 19 = .ok (.getfield 9, 3) := by decide +kernel
theorem dX4_doubt_22 : decode cX4_doubt 22 = .ok (.iload_n 3, 1) := by decide +kernel
theorem dX4_doubt_23 : decode cX4_doubt 23 = .ok (.iaload, 1) := by decide +kernel
theorem dX4_doubt_24 : decode cX4_doubt 24 = .ok (.aload_n 0, 1) := by decide +kernel
theorem dX4_doubt_25 : decode cX4_doubt 25 = .ok (.getfield 46, 3) := by decide +kernel
theorem dX4_doubt_28 : decode cX4_doubt 28 = .ok (.iload_n 1, 1) := by decide +kernel
theorem dX4_doubt_29 : decode cX4_doubt 29 = .ok (.iadd, 1) := by decide +kernel
theorem dX4_doubt_30 : decode cX4_doubt 30 = .ok (.if_icmp .gt 6, 3) := by decide +kernel
theorem dX4_doubt_33 : decode cX4_doubt 33 = .ok (.iinc 2 1, 3) := by decide +kernel
theorem dX4_doubt_36 : decode cX4_doubt 36 = .ok (.iinc 3 1, 3) := by decide +kernel
theorem dX4_doubt_39 : decode cX4_doubt 39 = .ok (.goto (-35), 3) := by decide +kernel
theorem dX4_doubt_42 : decode cX4_doubt 42 = .ok (.iload_n 2, 1) := by decide +kernel
theorem dX4_doubt_43 : decode cX4_doubt 43 = .ok (.ireturn, 1) := by decide +kernel
theorem dX5_init_0 : decode cX5_init 0 = .ok (.aload_n 0, 1) := by decide +kernel
theorem dX5_init_1 : decode cX5_init 1 = .ok (.invokespecial 3, 3) := by decide +kernel
theorem dX5_init_4 : decode cX5_init 4 = .ok (.aload_n 0, 1) := by decide +kernel
theorem dX5_init_5 : decode cX5_init 5 = .ok (.bipush 48, 2) := by decide +kernel
theorem dX5_init_7 : decode cX5_init 7 = .ok (.newarray .int, 2) := by decide +kernel
theorem dX5_init_9 : decode cX5_init 9 = .ok (.putfield 9, 3) := by decide +kernel
theorem dX5_init_12 : decode cX5_init 12 = .ok (.aload_n 0, 1) := by decide +kernel
theorem dX5_init_13 : decode cX5_init 13 = .ok (.bipush 48, 2) := by decide +kernel
theorem dX5_init_15 : decode cX5_init 15 = .ok (.newarray .int, 2) := by decide +kernel
theorem dX5_init_17 : decode cX5_init 17 = .ok (.putfield 15, 3) := by decide +kernel
theorem dX5_init_20 : decode cX5_init 20 = .ok (.aload_n 0, 1) := by decide +kernel
theorem dX5_init_21 : decode cX5_init 21 = .ok (.bipush 48, 2) := by decide +kernel
theorem dX5_init_23 : decode cX5_init 23 = .ok (.newarray .int, 2) := by decide +kernel
theorem dX5_init_25 : decode cX5_init 25 = .ok (.putfield 18, 3) := by decide +kernel
theorem dX5_init_28 : decode cX5_init 28 = .ok (.aload_n 0, 1) := by decide +kernel
theorem dX5_init_29 : decode cX5_init 29 = .ok (.bipush 48, 2) := by decide +kernel
theorem dX5_init_31 : decode cX5_init 31 = .ok (.newarray .int, 2) := by decide +kernel
theorem dX5_init_33 : decode cX5_init 33 = .ok (.putfield 21, 3) := by decide +kernel
theorem dX5_init_36 : decode cX5_init 36 = .ok (.return_, 1) := by decide +kernel
theorem dX5_draw_0 : decode cX5_draw 0 = .ok (.aload_n 0, 1) := by decide +kernel
theorem dX5_draw_1 : decode cX5_draw 1 = .ok (.aload_n 1, 1) := by decide +kernel
theorem dX5_draw_2 : decode cX5_draw 2 = .ok (.iload_n 2, 1) := by decide +kernel
theorem dX5_draw_3 : decode cX5_draw 3 = .ok (.iload 5, 2) := by decide +kernel
theorem dX5_draw_5 : decode cX5_draw 5 = .ok (.invokevirtual 24, 3) := by decide +kernel
theorem dX5_draw_8 : decode cX5_draw 8 = .ok (.iload_n 3, 1) := by decide +kernel
theorem dX5_draw_9 : decode cX5_draw 9 = .ok (.iload 4, 2) := by decide +kernel
theorem dX5_draw_11 : decode cX5_draw 11 = .ok (.imul, 1) := by decide +kernel
theorem dX5_draw_12 : decode cX5_draw 12 = .ok (.iconst 4, 1) := by decide +kernel
theorem dX5_draw_13 : decode cX5_draw 13 = .ok (.idiv, 1) := by decide +kernel
theorem dX5_draw_14 : decode cX5_draw 14 = .ok (.istore 6, 2) := by decide +kernel
theorem dX5_draw_16 : decode cX5_draw 16 = .ok (.aload_n 1, 1) := by decide +kernel
theorem dX5_draw_17 : decode cX5_draw 17 = .ok (.getfield 28, 3) := by decide +kernel
theorem dX5_draw_20 : decode cX5_draw 20 = .ok (.bipush 10, 2) := by decide +kernel
theorem dX5_draw_22 : decode cX5_draw 22 = .ok (.iaload, 1) := by decide +kernel
theorem dX5_draw_23 : decode cX5_draw 23 = .ok (.istore 7, 2) := by decide +kernel
theorem dX5_draw_25 : decode cX5_draw 25 = .ok (.aload_n 1, 1) := by decide +kernel
theorem dX5_draw_26 : decode cX5_draw 26 = .ok (.getfield 28, 3) := by decide +kernel
theorem dX5_draw_29 : decode cX5_draw 29 = .ok (.bipush 9, 2) := by decide +kernel
theorem dX5_draw_31 : decode cX5_draw 31 = .ok (.iaload, 1) := by decide +kernel
theorem dX5_draw_32 : decode cX5_draw 32 = .ok (.istore 8, 2) := by decide +kernel
theorem dX5_draw_34 : decode cX5_draw 34 = .ok (.aload_n 1, 1) := by decide +kernel
theorem dX5_draw_35 : decode cX5_draw 35 = .ok (.invokevirtual 33, 3) := by decide +kernel
theorem dX5_draw_38 : decode cX5_draw 38 = .ok (.istore 9, 2) := by decide +kernel
theorem dX5_draw_40 : decode cX5_draw 40 = .ok (.aload_n 1, 1) := by decide +kernel
theorem dX5_draw_41 : decode cX5_draw 41 = .ok (.invokevirtual 37, 3) := by decide +kernel
theorem dX5_draw_44 : decode cX5_draw 44 = .ok (.istore 10, 2) := by decide +kernel
theorem dX5_draw_46 : decode cX5_draw 46 = .ok (.iload 7, 2) := by decide +kernel
theorem dX5_draw_48 : decode cX5_draw 48 = .ok (.istore 11, 2) := by decide +kernel
theorem dX5_draw_50 : decode cX5_draw 50 = .ok (.iconst 0, 1) := by decide +kernel
theorem dX5_draw_51 : decode cX5_draw 51 = .ok (.istore 12, 2) := by decide +kernel
theorem dX5_draw_53 : decode cX5_draw 53 = .ok (.aload_n 0, 1) := by decide +kernel
theorem dX5_draw_54 : decode cX5_draw 54 = .ok (.lconst 0, 1) := by decide +kernel
theorem dX5_draw_55 : decode cX5_draw 55 = .ok (.putfield 40, 3) := by decide +kernel
theorem dX5_draw_58 : decode cX5_draw 58 = .ok (.iconst 1, 1) := by decide +kernel
theorem dX5_draw_59 : decode cX5_draw 59 = .ok (.istore 13, 2) := by decide +kernel
theorem dX5_draw_61 : decode cX5_draw 61 = .ok (.iload 13, 2) := by decide +kernel
theorem dX5_draw_63 : decode cX5_draw 63 = .ok (.sipush 144, 3) := by decide +kernel
theorem dX5_draw_66 : decode cX5_draw 66 = .ok (.if_icmp .ge 165, 3) := by decide +kernel
theorem dX5_draw_69 : decode cX5_draw 69 = .ok (.iload 13, 2) := by decide +kernel
theorem dX5_draw_71 : decode cX5_draw 71 = .ok (.bipush 48, 2) := by decide +kernel
theorem dX5_draw_73 : decode cX5_draw 73 = .ok (.irem, 1) := by decide +kernel
theorem dX5_draw_74 : decode cX5_draw 74 = .ok (.istore 14, 2) := by decide +kernel
theorem dX5_draw_76 : decode cX5_draw 76 = .ok (.iload 11, 2) := by decide +kernel
theorem dX5_draw_78 : decode cX5_draw 78 = .ok (.aload_n 0, 1) := by decide +kernel
theorem dX5_draw_79 : decode cX5_draw 79 = .ok (.getfield 9, 3) := by decide +kernel
theorem dX5_draw_82 : decode cX5_draw 82 = .ok (.iload 12, 2) := by decide +kernel
theorem dX5_draw_84 : decode cX5_draw 84 = .ok (.iaload, 1) := by decide +kernel
theorem dX5_draw_85 : decode cX5_draw 85 = .ok (.aload_n 0, 1) := by decide +kernel
theorem dX5_draw_86 : decode cX5_draw 86 = .ok (.getfield 9, 3) := by decide +kernel
theorem dX5_draw_89 : decode cX5_draw 89 = .ok (.iload 14, 2) := by decide +kernel
theorem dX5_draw_91 : decode cX5_draw 91 = .ok (.iaload, 1) := by decide +kernel
theorem dX5_draw_92 : decode cX5_draw 92 = .ok (.invokestatic 44, 3) := by decide +kernel
theorem dX5_draw_95 : decode cX5_draw 95 = .ok (.istore 11, 2) := by decide +kernel
theorem dX5_draw_97 : decode cX5_draw 97 = .ok (.iload 6, 2) := by decide +kernel
theorem dX5_draw_99 : decode cX5_draw 99 = .ok (.iload 11, 2) := by decide +kernel
theorem dX5_draw_101 : decode cX5_draw 101 = .ok (.isub, 1) := by decide +kernel
theorem dX5_draw_102 : decode cX5_draw 102 = .ok (.aload_n 0, 1) := by decide +kernel
theorem dX5_draw_103 : decode cX5_draw 103 = .ok (.getfield 15, 3) := by decide +kernel
theorem dX5_draw_106 : decode cX5_draw 106 = .ok (.iload 14, 2) := by decide +kernel
theorem dX5_draw_108 : decode cX5_draw 108 = .ok (.iaload, 1) := by decide +kernel
theorem dX5_draw_109 : decode cX5_draw 109 = .ok (.aload_n 0, 1) := by decide +kernel
theorem dX5_draw_110 : decode cX5_draw 110 = .ok (.getfield 15, 3) := by decide +kernel
theorem dX5_draw_113 : decode cX5_draw 113 = .ok (.iload 14, 2) := by decide +kernel
theorem dX5_draw_115 : decode cX5_draw 115 = .ok (.iaload, 1) := by decide +kernel
theorem dX5_draw_116 : decode cX5_draw 116 = .ok (.iload 9, 2) := by decide +kernel
theorem dX5_draw_118 : decode cX5_draw 118 = .ok (.iadd, 1) := by decide +kernel
theorem dX5_draw_119 : decode cX5_draw 119 = .ok (.invokestatic 44, 3) := by decide +kernel
theorem dX5_draw_122 : decode cX5_draw 122 = .ok (.istore 15, 2) := by decide +kernel
theorem dX5_draw_124 : decode cX5_draw 124 = .ok (.iload 15, 2) := by decide +kernel
theorem dX5_draw_126 : decode cX5_draw 126 = .ok (.ifCond .le 31, 3) := by decide +kernel
theorem dX5_draw_129 : decode cX5_draw 129 = .ok (.iload 13, 2) := by decide +kernel
theorem dX5_draw_131 : decode cX5_draw 131 = .ok (.bipush 96, 2) := by decide +kernel
theorem dX5_draw_133 : decode cX5_draw 133 = .ok (.if_icmp .lt 24, 3) := by decide +kernel
theorem dX5_draw_136 : decode cX5_draw 136 = .ok (.aload_n 0, 1) := by decide +kernel
theorem dX5_draw_137 : decode cX5_draw 137 = .ok (.dup, 1) := by decide +kernel
theorem dX5_draw_138 : decode cX5_draw 138 = .ok (.getfield 40, 3) := by decide +kernel
theorem dX5_draw_141 : decode cX5_draw 141 = .ok (.iload 15, 2) := by decide +kernel
theorem dX5_draw_143 : decode cX5_draw 143 = .ok (.i2l, 1) := by decide +kernel
theorem dX5_draw_144 : decode cX5_draw 144 = .ok (.aload_n 0, 1) := by decide +kernel
theorem dX5_draw_145 : decode cX5_draw 145 = .ok (.getfield 9, 3) := by decide +kernel
theorem dX5_draw_148 : decode cX5_draw 148 = .ok (.iload 14, 2) := by decide +kernel
theorem dX5_draw_150 : decode cX5_draw 150 = .ok (.iaload, 1) := by decide +kernel
theorem dX5_draw_151 : decode cX5_draw 151 = .ok (.i2l, 1) := by decide +kernel
theorem dX5_draw_152 : decode cX5_draw 152 = .ok (.lmul, 1) := by decide +kernel
theorem dX5_draw_153 : decode cX5_draw 153 = .ok (.ladd, 1) := by decide +kernel
theorem dX5_draw_154 : decode cX5_draw 154 = .ok (.putfield 40, 3) := by decide +kernel
theorem dX5_draw_157 : decode cX5_draw 157 = .ok (.iload 11, 2) := by decide +kernel
theorem dX5_draw_159 : decode cX5_draw 159 = .ok (.iload 15, 2) := by decide +kernel
theorem dX5_draw_161 : decode cX5_draw 161 = .ok (.iadd, 1) := by decide +kernel
theorem dX5_draw_162 : decode cX5_draw 162 = .ok (.istore 11, 2) := by decide +kernel
theorem dX5_draw_164 : decode cX5_draw 164 = .ok (.iload 11, 2) := by decide +kernel
theorem dX5_draw_166 : decode cX5_draw 166 = .ok (.iload 7, 2) := by decide +kernel
theorem dX5_draw_168 : decode cX5_draw 168 = .ok (.iload 11, 2) := by decide +kernel
theorem dX5_draw_170 : decode cX5_draw 170 = .ok (.isub, 1) := by decide +kernel
theorem dX5_draw_171 : decode cX5_draw 171 = .ok (.aload_n 0, 1) := by decide +kernel
theorem dX5_draw_172 : decode cX5_draw 172 = .ok (.getfield 18, 3) := by decide +kernel
theorem dX5_draw_175 : decode cX5_draw 175 = .ok (.iload 14, 2) := by decide +kernel
theorem dX5_draw_177 : decode cX5_draw 177 = .ok (.iaload, 1) := by decide +kernel
theorem dX5_draw_178 : decode cX5_draw 178 = .ok (.aload_n 0, 1) := by decide +kernel
theorem dX5_draw_179 : decode cX5_draw 179 = .ok (.getfield 18, 3) := by decide +kernel
theorem dX5_draw_182 : decode cX5_draw 182 = .ok (.iload 14, 2) := by decide +kernel
theorem dX5_draw_184 : decode cX5_draw 184 = .ok (.iaload, 1) := by decide +kernel
theorem dX5_draw_185 : decode cX5_draw 185 = .ok (.iload 8, 2) := by decide +kernel
theorem dX5_draw_187 : decode cX5_draw 187 = .ok (.iadd, 1) := by decide +kernel
theorem dX5_draw_188 : decode cX5_draw 188 = .ok (.invokestatic 44, 3) := by decide +kernel
theorem dX5_draw_191 : decode cX5_draw 191 = .ok (.iadd, 1) := by decide +kernel
theorem dX5_draw_192 : decode cX5_draw 192 = .ok (.istore 11, 2) := by decide +kernel
theorem dX5_draw_194 : decode cX5_draw 194 = .ok (.iload 11, 2) := by decide +kernel
theorem dX5_draw_196 : decode cX5_draw 196 = .ok (.iload 6, 2) := by decide +kernel
theorem dX5_draw_198 : decode cX5_draw 198 = .ok (.iload 11, 2) := by decide +kernel
theorem dX5_draw_200 : decode cX5_draw 200 = .ok (.isub, 1) := by decide +kernel
theorem dX5_draw_201 : decode cX5_draw 201 = .ok (.iload 10, 2) := by decide +kernel
theorem dX5_draw_203 : decode cX5_draw 203 = .ok (.sipush 200, 3) := by decide +kernel
theorem dX5_draw_206 : decode cX5_draw 206 = .ok (.invokestatic 44, 3) := by decide +kernel
theorem dX5_draw_209 : decode cX5_draw 209 = .ok (.iadd, 1) := by decide +kernel
theorem dX5_draw_210 : decode cX5_draw 210 = .ok (.istore 11, 2) := by decide +kernel
theorem dX5_draw_212 : decode cX5_draw 212 = .ok (.aload_n 0, 1) := by decide +kernel
theorem dX5_draw_213 : decode cX5_draw 213 = .ok (.getfield 21, 3) := by decide +kernel
theorem dX5_draw_216 : decode cX5_draw 216 = .ok (.iload 14, 2) := by decide +kernel
theorem dX5_draw_218 : decode cX5_draw 218 = .ok (.iload 11, 2) := by decide +kernel
theorem dX5_draw_220 : decode cX5_draw 220 = .ok (.iastore, 1) := by decide +kernel
theorem dX5_draw_221 : decode cX5_draw 221 = .ok (.iload 14, 2) := by decide +kernel
theorem dX5_draw_223 : decode cX5_draw 223 = .ok (.istore 12, 2) := by decide +kernel
theorem dX5_draw_225 : decode cX5_draw 225 = .ok (.iinc 13 1, 3) := by decide +kernel
theorem dX5_draw_228 : decode cX5_draw 228 = .ok (.goto (-167), 3) := by decide +kernel
theorem dX5_draw_231 : decode cX5_draw 231 = .ok (.return_, 1) := by decide +kernel
theorem dX5_measure_0 : decode cX5_measure 0 = .ok (.lconst 0, 1) := by decide +kernel
theorem dX5_measure_1 : decode cX5_measure 1 = .ok (.lstore 5, 2) := by decide +kernel
theorem dX5_measure_3 : decode cX5_measure 3 = .ok (.lconst 0, 1) := by decide +kernel
theorem dX5_measure_4 : decode cX5_measure 4 = .ok (.lstore 7, 2) := by decide +kernel
theorem dX5_measure_6 : decode cX5_measure 6 = .ok (.iconst 0, 1) := by decide +kernel
theorem dX5_measure_7 : decode cX5_measure 7 = .ok (.istore 9, 2) := by decide +kernel
theorem dX5_measure_9 : decode cX5_measure 9 = .ok (.iload 9, 2) := by decide +kernel
theorem dX5_measure_11 : decode cX5_measure 11 = .ok (.iconst 2, 1) := by decide +kernel
theorem dX5_measure_12 : decode cX5_measure 12 = .ok (.if_icmp .ge 38, 3) := by decide +kernel
theorem dX5_measure_15 : decode cX5_measure 15 = .ok (.aload_n 0, 1) := by decide +kernel
theorem dX5_measure_16 : decode cX5_measure 16 = .ok (.aload_n 1, 1) := by decide +kernel
theorem dX5_measure_17 : decode cX5_measure 17 = .ok (.iload_n 2, 1) := by decide +kernel
theorem dX5_measure_18 : decode cX5_measure 18 = .ok (.iload_n 3, 1) := by decide +kernel
theorem dX5_measure_19 : decode cX5_measure 19 = .ok (.iload 4, 2) := by decide +kernel
theorem dX5_measure_21 : decode cX5_measure 21 = .ok (.iload 9, 2) := by decide +kernel
theorem dX5_measure_23 : decode cX5_measure 23 = .ok (.invokevirtual 48, 3) := by decide +kernel
theorem dX5_measure_26 : decode cX5_measure 26 = .ok (.lload 5, 2) := by decide +kernel
theorem dX5_measure_28 : decode cX5_measure 28 = .ok (.aload_n 0, 1) := by decide +kernel
theorem dX5_measure_29 : decode cX5_measure 29 = .ok (.invokevirtual 52, 3) := by decide +kernel
theorem dX5_measure_32 : decode cX5_measure 32 = .ok (.ladd, 1) := by decide +kernel
theorem dX5_measure_33 : decode cX5_measure 33 = .ok (.lstore 5, 2) := by decide +kernel
theorem dX5_measure_35 : decode cX5_measure 35 = .ok (.lload 7, 2) := by decide +kernel
theorem dX5_measure_37 : decode cX5_measure 37 = .ok (.aload_n 0, 1) := by decide +kernel
theorem dX5_measure_38 : decode cX5_measure 38 = .ok (.getfield 40, 3) := by decide +kernel
theorem dX5_measure_41 : decode cX5_measure 41 = .ok (.ladd, 1) := by decide +kernel
theorem dX5_measure_42 : decode cX5_measure 42 = .ok (.lstore 7, 2) := by decide +kernel
theorem dX5_measure_44 : decode cX5_measure 44 = .ok (.iinc 9 1, 3) := by decide +kernel
theorem dX5_measure_47 : decode cX5_measure 47 = .ok (.goto (-38), 3) := by decide +kernel
theorem dX5_measure_50 : decode cX5_measure 50 = .ok (.aload_n 0, 1) := by decide +kernel
theorem dX5_measure_51 : decode cX5_measure 51 = .ok (.lload 5, 2) := by decide +kernel
theorem dX5_measure_53 : decode cX5_measure 53 = .ok (.ldc2_w 56, 3) := by decide +kernel
theorem dX5_measure_56 : decode cX5_measure 56 = .ok (.ldiv, 1) := by decide +kernel
theorem dX5_measure_57 : decode cX5_measure 57 = .ok (.l2i, 1) := by decide +kernel
theorem dX5_measure_58 : decode cX5_measure 58 = .ok (.putfield 58, 3) := by decide +kernel
theorem dX5_measure_61 : decode cX5_measure 61 = .ok (.aload_n 0, 1) := by decide +kernel
theorem dX5_measure_62 : decode cX5_measure 62 = .ok (.lload 7, 2) := by decide +kernel
theorem dX5_measure_64 : decode cX5_measure 64 = .ok (.ldc2_w 62, 3) := by decide +kernel
theorem dX5_measure_67 : decode cX5_measure 67 = .ok (.ldiv, 1) := by decide +kernel
theorem dX5_measure_68 : decode cX5_measure 68 = .ok (.l2i, 1) := by decide +kernel
theorem dX5_measure_69 : decode cX5_measure 69 = .ok (.putfield 64, 3) := by decide +kernel
theorem dX5_measure_72 : decode cX5_measure 72 = .ok (.return_, 1) := by decide +kernel
theorem dX5_mean_0 : decode cX5_mean 0 = .ok (.iconst 0, 1) := by decide +kernel
theorem dX5_mean_1 : decode cX5_mean 1 = .ok (.istore_n 1, 1) := by decide +kernel
theorem dX5_mean_2 : decode cX5_mean 2 = .ok (.iconst 0, 1) := by decide +kernel
theorem dX5_mean_3 : decode cX5_mean 3 = .ok (.istore_n 2, 1) := by decide +kernel
theorem dX5_mean_4 : decode cX5_mean 4 = .ok (.iload_n 2, 1) := by decide +kernel
theorem dX5_mean_5 : decode cX5_mean 5 = .ok (.bipush 48, 2) := by decide +kernel
theorem dX5_mean_7 : decode cX5_mean 7 = .ok (.if_icmp .ge 18, 3) := by decide +kernel
theorem dX5_mean_10 : decode cX5_mean 10 = .ok (.iload_n 1, 1) := by decide +kernel
theorem dX5_mean_11 : decode cX5_mean 11 = .ok (.aload_n 0, 1) := by decide +kernel
theorem dX5_mean_12 : decode cX5_mean 12 = .ok (.getfield 21, 3) := by decide +kernel
theorem dX5_mean_15 : decode cX5_mean 15 = .ok (.iload_n 2, 1) := by decide +kernel
theorem dX5_mean_16 : decode cX5_mean 16 = .ok (.iaload, 1) := by decide +kernel
theorem dX5_mean_17 : decode cX5_mean 17 = .ok (.iadd, 1) := by decide +kernel
theorem dX5_mean_18 : decode cX5_mean 18 = .ok (.istore_n 1, 1) := by decide +kernel
theorem dX5_mean_19 : decode cX5_mean 19 = .ok (.iinc 2 1, 3) := by decide +kernel
theorem dX5_mean_22 : decode cX5_mean 22 = .ok (.goto (-18), 3) := by decide +kernel
theorem dX5_mean_25 : decode cX5_mean 25 = .ok (.iload_n 1, 1) := by decide +kernel
theorem dX5_mean_26 : decode cX5_mean 26 = .ok (.bipush 48, 2) := by decide +kernel
theorem dX5_mean_28 : decode cX5_mean 28 = .ok (.idiv, 1) := by decide +kernel
theorem dX5_mean_29 : decode cX5_mean 29 = .ok (.ireturn, 1) := by decide +kernel
theorem dX5_peak_0 : decode cX5_peak 0 = .ok (.aload_n 0, 1) := by decide +kernel
theorem dX5_peak_1 : decode cX5_peak 1 = .ok (.getfield 21, 3) := by decide +kernel
theorem dX5_peak_4 : decode cX5_peak 4 = .ok (.iconst 0, 1) := by decide +kernel
theorem dX5_peak_5 : decode cX5_peak 5 = .ok (.iaload, 1) := by decide +kernel
theorem dX5_peak_6 : decode cX5_peak 6 = .ok (.istore_n 1, 1) := by decide +kernel
theorem dX5_peak_7 : decode cX5_peak 7 = .ok (.iconst 1, 1) := by decide +kernel
theorem dX5_peak_8 : decode cX5_peak 8 = .ok (.istore_n 2, 1) := by decide +kernel
theorem dX5_peak_9 : decode cX5_peak 9 = .ok (.iload_n 2, 1) := by decide +kernel
theorem dX5_peak_10 : decode cX5_peak 10 = .ok (.bipush 48, 2) := by decide +kernel
theorem dX5_peak_12 : decode cX5_peak 12 = .ok (.if_icmp .ge 20, 3) := by decide +kernel
theorem dX5_peak_15 : decode cX5_peak 15 = .ok (.iload_n 1, 1) := by decide +kernel
theorem dX5_peak_16 : decode cX5_peak 16 = .ok (.aload_n 0, 1) := by decide +kernel
theorem dX5_peak_17 : decode cX5_peak 17 = .ok (.getfield 21, 3) := by decide +kernel
theorem dX5_peak_20 : decode cX5_peak 20 = .ok (.iload_n 2, 1) := by decide +kernel
theorem dX5_peak_21 : decode cX5_peak 21 = .ok (.iaload, 1) := by decide +kernel
theorem dX5_peak_22 : decode cX5_peak 22 = .ok (.invokestatic 67, 3) := by decide +kernel
theorem dX5_peak_25 : decode cX5_peak 25 = .ok (.istore_n 1, 1) := by decide +kernel
theorem dX5_peak_26 : decode cX5_peak 26 = .ok (.iinc 2 1, 3) := by decide +kernel
theorem dX5_peak_29 : decode cX5_peak 29 = .ok (.goto (-20), 3) := by decide +kernel
theorem dX5_peak_32 : decode cX5_peak 32 = .ok (.iload_n 1, 1) := by decide +kernel
theorem dX5_peak_33 : decode cX5_peak 33 = .ok (.ireturn, 1) := by decide +kernel
theorem dX5_loop_0 : decode cX5_loop 0 = .ok (.iconst 0, 1) := by decide +kernel
theorem dX5_loop_1 : decode cX5_loop 1 = .ok (.istore_n 1, 1) := by decide +kernel
theorem dX5_loop_2 : decode cX5_loop 2 = .ok (.iconst 1, 1) := by decide +kernel
theorem dX5_loop_3 : decode cX5_loop 3 = .ok (.istore_n 2, 1) := by decide +kernel
theorem dX5_loop_4 : decode cX5_loop 4 = .ok (.iload_n 2, 1) := by decide +kernel
theorem dX5_loop_5 : decode cX5_loop 5 = .ok (.bipush 24, 2) := by decide +kernel
theorem dX5_loop_7 : decode cX5_loop 7 = .ok (.if_icmp .ge 35, 3) := by decide +kernel
theorem dX5_loop_10 : decode cX5_loop 10 = .ok (.iload_n 1, 1) := by decide +kernel
theorem dX5_loop_11 : decode cX5_loop 11 = .ok (.aload_n 0, 1) := by decide +kernel
theorem dX5_loop_12 : decode cX5_loop 12 = .ok (.getfield 21, 3) := by decide +kernel
theorem dX5_loop_15 : decode cX5_loop 15 = .ok (.iload_n 2, 1) := by decide +kernel
theorem dX5_loop_16 : decode cX5_loop 16 = .ok (.iaload, 1) := by decide +kernel
theorem dX5_loop_17 : decode cX5_loop 17 = .ok (.aload_n 0, 1) := by decide +kernel
theorem dX5_loop_18 : decode cX5_loop 18 = .ok (.getfield 21, 3) := by decide +kernel
theorem dX5_loop_21 : decode cX5_loop 21 = .ok (.bipush 48, 2) := by decide +kernel
theorem dX5_loop_23 : decode cX5_loop 23 = .ok (.iload_n 2, 1) := by decide +kernel
theorem dX5_loop_24 : decode cX5_loop 24 = .ok (.isub, 1) := by decide +kernel
theorem dX5_loop_25 : decode cX5_loop 25 = .ok (.iaload, 1) := by decide +kernel
theorem dX5_loop_26 : decode cX5_loop 26 = .ok (.if_icmp .ge 7, 3) := by decide +kernel
theorem dX5_loop_29 : decode cX5_loop 29 = .ok (.iconst 1, 1) := by decide +kernel
theorem dX5_loop_30 : decode cX5_loop 30 = .ok (.goto 4, 3) := by decide +kernel
theorem dX5_loop_33 : decode cX5_loop 33 = .ok (.iconst 0, 1) := by decide +kernel
theorem dX5_loop_34 : decode cX5_loop 34 = .ok (.iadd, 1) := by decide +kernel
theorem dX5_loop_35 : decode cX5_loop 35 = .ok (.istore_n 1, 1) := by decide +kernel
theorem dX5_loop_36 : decode cX5_loop 36 = .ok (.iinc 2 1, 3) := by decide +kernel
theorem dX5_loop_39 : decode cX5_loop 39 = .ok (.goto (-35), 3) := by decide +kernel
theorem dX5_loop_42 : decode cX5_loop 42 = .ok (.iload_n 1, 1) := by decide +kernel
theorem dX5_loop_43 : decode cX5_loop 43 = .ok (.ireturn, 1) := by decide +kernel
theorem dX5_prepare_0 : decode cX5_prepare 0 = .ok (.aload_n 1, 1) := by decide +kernel
theorem dX5_prepare_1 : decode cX5_prepare 1 = .ok (.iload_n 2, 1) := by decide +kernel
theorem dX5_prepare_2 : decode cX5_prepare 2 = .ok (.invokevirtual 73, 3) := by decide +kernel
theorem dX5_prepare_5 : decode cX5_prepare 5 = .ok (.istore 4, 2) := by decide +kernel
theorem dX5_prepare_7 : decode cX5_prepare 7 = .ok (.iconst 0, 1) := by decide +kernel
theorem dX5_prepare_8 : decode cX5_prepare 8 = .ok (.istore 5, 2) := by decide +kernel
theorem dX5_prepare_10 : decode cX5_prepare 10 = .ok (.iload 5, 2) := by decide +kernel
theorem dX5_prepare_12 : decode cX5_prepare 12 = .ok (.bipush 48, 2) := by decide +kernel
theorem dX5_prepare_14 : decode cX5_prepare 14 = .ok (.if_icmp .ge 89, 3) := by decide +kernel
theorem dX5_prepare_17 : decode cX5_prepare 17 = .ok (.aload_n 1, 1) := by decide +kernel
theorem dX5_prepare_18 : decode cX5_prepare 18 = .ok (.iload 5, 2) := by decide +kernel
theorem dX5_prepare_20 : decode cX5_prepare 20 = .ok (.invokevirtual 77, 3) := by decide +kernel
theorem dX5_prepare_23 : decode cX5_prepare 23 = .ok (.istore 6, 2) := by decide +kernel
theorem dX5_prepare_25 : decode cX5_prepare 25 = .ok (.aload_n 0, 1) := by decide +kernel
theorem dX5_prepare_26 : decode cX5_prepare 26 = .ok (.getfield 9, 3) := by decide +kernel
theorem dX5_prepare_29 : decode cX5_prepare 29 = .ok (.iload 5, 2) := by decide +kernel
theorem dX5_prepare_31 : decode cX5_prepare 31 = .ok (.aload_n 1, 1) := by decide +kernel
theorem dX5_prepare_32 : decode cX5_prepare 32 = .ok (.getfield 28, 3) := by decide +kernel
theorem dX5_prepare_35 : decode cX5_prepare 35 = .ok (.bipush 7, 2) := by decide +kernel
theorem dX5_prepare_37 : decode cX5_prepare 37 = .ok (.iaload, 1) := by decide +kernel
theorem dX5_prepare_38 : decode cX5_prepare 38 = .ok (.iload_n 3, 1) := by decide +kernel
theorem dX5_prepare_39 : decode cX5_prepare 39 = .ok (.ifCond .ne 8, 3) := by decide +kernel
theorem dX5_prepare_42 : decode cX5_prepare 42 = .ok (.iload 6, 2) := by decide +kernel
theorem dX5_prepare_44 : decode cX5_prepare 44 = .ok (.goto 9, 3) := by decide +kernel
theorem dX5_prepare_47 : decode cX5_prepare 47 = .ok (.sipush 1000, 3) := by decide +kernel
theorem dX5_prepare_50 : decode cX5_prepare 50 = .ok (.iload 6, 2) := by decide +kernel
theorem dX5_prepare_52 : decode cX5_prepare 52 = .ok (.isub, 1) := by decide +kernel
theorem dX5_prepare_53 : decode cX5_prepare 53 = .ok (.iadd, 1) := by decide +kernel
theorem dX5_prepare_54 : decode cX5_prepare 54 = .ok (.iastore, 1) := by decide +kernel
theorem dX5_prepare_55 : decode cX5_prepare 55 = .ok (.aload_n 1, 1) := by decide +kernel
theorem dX5_prepare_56 : decode cX5_prepare 56 = .ok (.iload_n 2, 1) := by decide +kernel
theorem dX5_prepare_57 : decode cX5_prepare 57 = .ok (.iload 5, 2) := by decide +kernel
theorem dX5_prepare_59 : decode cX5_prepare 59 = .ok (.invokevirtual 80, 3) := by decide +kernel
theorem dX5_prepare_62 : decode cX5_prepare 62 = .ok (.iload 4, 2) := by decide +kernel
theorem dX5_prepare_64 : decode cX5_prepare 64 = .ok (.iadd, 1) := by decide +kernel
theorem dX5_prepare_65 : decode cX5_prepare 65 = .ok (.istore 7, 2) := by decide +kernel
theorem dX5_prepare_67 : decode cX5_prepare 67 = .ok (.aload_n 0, 1) := by decide +kernel
theorem dX5_prepare_68 : decode cX5_prepare 68 = .ok (.getfield 15, 3) := by decide +kernel
theorem dX5_prepare_71 : decode cX5_prepare 71 = .ok (.iload 5, 2) := by decide +kernel
theorem dX5_prepare_73 : decode cX5_prepare 73 = .ok (.aload_n 1, 1) := by decide +kernel
theorem dX5_prepare_74 : decode cX5_prepare 74 = .ok (.iload 7, 2) := by decide +kernel
theorem dX5_prepare_76 : decode cX5_prepare 76 = .ok (.iload_n 3, 1) := by decide +kernel
theorem dX5_prepare_77 : decode cX5_prepare 77 = .ok (.iconst 0, 1) := by decide +kernel
theorem dX5_prepare_78 : decode cX5_prepare 78 = .ok (.invokevirtual 83, 3) := by decide +kernel
theorem dX5_prepare_81 : decode cX5_prepare 81 = .ok (.iastore, 1) := by decide +kernel
theorem dX5_prepare_82 : decode cX5_prepare 82 = .ok (.aload_n 0, 1) := by decide +kernel
theorem dX5_prepare_83 : decode cX5_prepare 83 = .ok (.getfield 18, 3) := by decide +kernel
theorem dX5_prepare_86 : decode cX5_prepare 86 = .ok (.iload 5, 2) := by decide +kernel
theorem dX5_prepare_88 : decode cX5_prepare 88 = .ok (.aload_n 1, 1) := by decide +kernel
theorem dX5_prepare_89 : decode cX5_prepare 89 = .ok (.iload 7, 2) := by decide +kernel
theorem dX5_prepare_91 : decode cX5_prepare 91 = .ok (.iload_n 3, 1) := by decide +kernel
theorem dX5_prepare_92 : decode cX5_prepare 92 = .ok (.iconst 1, 1) := by decide +kernel
theorem dX5_prepare_93 : decode cX5_prepare 93 = .ok (.invokevirtual 83, 3) := by decide +kernel
theorem dX5_prepare_96 : decode cX5_prepare 96 = .ok (.iastore, 1) := by decide +kernel
theorem dX5_prepare_97 : decode cX5_prepare 97 = .ok (.iinc 5 1, 3) := by decide +kernel
theorem dX5_prepare_100 : decode cX5_prepare 100 = .ok (.goto (-90), 3) := by decide +kernel
theorem dX5_prepare_103 : decode cX5_prepare 103 = .ok (.return_, 1) := by decide +kernel
theorem dX5_pushed_0 : decode cX5_pushed 0 = .ok (.lconst 0, 1) := by decide +kernel
theorem dX5_pushed_1 : decode cX5_pushed 1 = .ok (.lstore_n 1, 1) := by decide +kernel
theorem dX5_pushed_2 : decode cX5_pushed 2 = .ok (.iconst 0, 1) := by decide +kernel
theorem dX5_pushed_3 : decode cX5_pushed 3 = .ok (.istore_n 3, 1) := by decide +kernel
theorem dX5_pushed_4 : decode cX5_pushed 4 = .ok (.iload_n 3, 1) := by decide +kernel
theorem dX5_pushed_5 : decode cX5_pushed 5 = .ok (.bipush 48, 2) := by decide +kernel
theorem dX5_pushed_7 : decode cX5_pushed 7 = .ok (.if_icmp .ge 51, 3) := by decide +kernel
theorem dX5_pushed_10 : decode cX5_pushed 10 = .ok (.iload_n 3, 1) := by decide +kernel
theorem dX5_pushed_11 : decode cX5_pushed 11 = .ok (.iconst 1, 1) := by decide +kernel
theorem dX5_pushed_12 : decode cX5_pushed 12 = .ok (.iadd, 1) := by decide +kernel
theorem dX5_pushed_13 : decode cX5_pushed 13 = .ok (.bipush 48, 2) := by decide +kernel
theorem dX5_pushed_15 : decode cX5_pushed 15 = .ok (.irem, 1) := by decide +kernel
theorem dX5_pushed_16 : decode cX5_pushed 16 = .ok (.istore 4, 2) := by decide +kernel
theorem dX5_pushed_18 : decode cX5_pushed 18 = .ok (.lload_n 1, 1) := by decide +kernel
theorem dX5_pushed_19 : decode cX5_pushed 19 = .ok (.aload_n 0, 1) := by decide +kernel
theorem dX5_pushed_20 : decode cX5_pushed 20 = .ok (.getfield 21, 3) := by decide +kernel
theorem dX5_pushed_23 : decode cX5_pushed 23 = .ok (.iload_n 3, 1) := by decide +kernel
theorem dX5_pushed_24 : decode cX5_pushed 24 = .ok (.iaload, 1) := by decide +kernel
theorem dX5_pushed_25 : decode cX5_pushed 25 = .ok (.aload_n 0, 1) := by decide +kernel
theorem dX5_pushed_26 : decode cX5_pushed 26 = .ok (.getfield 21, 3) := by decide +kernel
theorem dX5_pushed_29 : decode cX5_pushed 29 = .ok (.iload 4, 2) := by decide +kernel
theorem dX5_pushed_31 : decode cX5_pushed 31 = .ok (.iaload, 1) := by decide +kernel
theorem dX5_pushed_32 : decode cX5_pushed 32 = .ok (.iadd, 1) := by decide +kernel
theorem dX5_pushed_33 : decode cX5_pushed 33 = .ok (.i2l, 1) := by decide +kernel
theorem dX5_pushed_34 : decode cX5_pushed 34 = .ok (.aload_n 0, 1) := by decide +kernel
theorem dX5_pushed_35 : decode cX5_pushed 35 = .ok (.getfield 9, 3) := by decide +kernel
theorem dX5_pushed_38 : decode cX5_pushed 38 = .ok (.iload 4, 2) := by decide +kernel
theorem dX5_pushed_40 : decode cX5_pushed 40 = .ok (.iaload, 1) := by decide +kernel
theorem dX5_pushed_41 : decode cX5_pushed 41 = .ok (.aload_n 0, 1) := by decide +kernel
theorem dX5_pushed_42 : decode cX5_pushed 42 = .ok (.getfield 9, 3) := by decide +kernel
theorem dX5_pushed_45 : decode cX5_pushed 45 = .ok (.iload_n 3, 1) := by decide +kernel
theorem dX5_pushed_46 : decode cX5_pushed 46 = .ok (.iaload, 1) := by decide +kernel
theorem dX5_pushed_47 : decode cX5_pushed 47 = .ok (.isub, 1) := by decide +kernel
theorem dX5_pushed_48 : decode cX5_pushed 48 = .ok (.i2l, 1) := by decide +kernel
theorem dX5_pushed_49 : decode cX5_pushed 49 = .ok (.lmul, 1) := by decide +kernel
theorem dX5_pushed_50 : decode cX5_pushed 50 = .ok (.ladd, 1) := by decide +kernel
theorem dX5_pushed_51 : decode cX5_pushed 51 = .ok (.lstore_n 1, 1) := by decide +kernel
theorem dX5_pushed_52 : decode cX5_pushed 52 = .ok (.iinc 3 1, 3) := by decide +kernel
theorem dX5_pushed_55 : decode cX5_pushed 55 = .ok (.goto (-51), 3) := by decide +kernel
theorem dX5_pushed_58 : decode cX5_pushed 58 = .ok (.lload_n 1, 1) := by decide +kernel
theorem dX5_pushed_59 : decode cX5_pushed 59 = .ok (.lreturn, 1) := by decide +kernel
theorem dX6_init_0 : decode cX6_init 0 = .ok (.aload_n 0, 1) := by decide +kernel
theorem dX6_init_1 : decode cX6_init 1 = .ok (.invokespecial 3, 3) := by decide +kernel
theorem dX6_init_4 : decode cX6_init 4 = .ok (.aload_n 0, 1) := by decide +kernel
theorem dX6_init_5 : decode cX6_init 5 = .ok (.bipush 24, 2) := by decide +kernel
theorem dX6_init_7 : decode cX6_init 7 = .ok (.newarray .int, 2) := by decide +kernel
theorem dX6_init_9 : decode cX6_init 9 = .ok (.putfield 9, 3) := by decide +kernel
theorem dX6_init_12 : decode cX6_init 12 = .ok (.aload_n 0, 1) := by decide +kernel
theorem dX6_init_13 : decode cX6_init 13 = .ok (.bipush 24, 2) := by decide +kernel
theorem dX6_init_15 : decode cX6_init 15 = .ok (.newarray .int, 2) := by decide +kernel
theorem dX6_init_17 : decode cX6_init 17 = .ok (.putfield 15, 3) := by decide +kernel
theorem dX6_init_20 : decode cX6_init 20 = .ok (.aload_n 0, 1) := by decide +kernel
theorem dX6_init_21 : decode cX6_init 21 = .ok (.bipush 30, 2) := by decide +kernel
theorem dX6_init_23 : decode cX6_init 23 = .ok (.newarray .int, 2) := by decide +kernel
theorem dX6_init_25 : decode cX6_init 25 = .ok (.putfield 18, 3) := by decide +kernel
theorem dX6_init_28 : decode cX6_init 28 = .ok (.aload_n 0, 1) := by decide +kernel
theorem dX6_init_29 : decode cX6_init 29 = .ok (.bipush 11, 2) := by decide +kernel
theorem dX6_init_31 : decode cX6_init 31 = .ok (.sipush 1001, 3) := by decide +kernel
theorem dX6_init_34 : decode cX6_init 34 = .ok (.multianewarray 21 2, 4) := by decide +kernel
theorem dX6_init_38 : decode cX6_init 38 = .ok (.putfield 23, 3) := by decide +kernel
theorem dX6_init_41 : decode cX6_init 41 = .ok (.aload_n 0, 1) := by decide +kernel
theorem dX6_init_42 : decode cX6_init 42 = .ok (.bipush 40, 2) := by decide +kernel
theorem dX6_init_44 : decode cX6_init 44 = .ok (.newarray .int, 2) := by decide +kernel
theorem dX6_init_46 : decode cX6_init 46 = .ok (.putfield 26, 3) := by decide +kernel
theorem dX6_init_49 : decode cX6_init 49 = .ok (.return_, 1) := by decide +kernel
theorem dX6_takesRoad_0 : decode cX6_takesRoad 0 = .ok (.aload_n 0, 1) := by decide +kernel
theorem dX6_takesRoad_1 : decode cX6_takesRoad 1 = .ok (.iconst 0, 1) := by decide +kernel
theorem dX6_takesRoad_2 : decode cX6_takesRoad 2 = .ok (.iload_n 3, 1) := by decide +kernel
theorem dX6_takesRoad_3 : decode cX6_takesRoad 3 = .ok (.bipush 10, 2) := by decide +kernel
theorem dX6_takesRoad_5 : decode cX6_takesRoad 5 = .ok (.invokestatic 29, 3) := by decide +kernel
theorem dX6_takesRoad_8 : decode cX6_takesRoad 8 = .ok (.invokestatic 35, 3) := by decide +kernel
theorem dX6_takesRoad_11 : decode cX6_takesRoad 11 = .ok (.putfield 38, 3) := by decide +kernel
theorem dX6_takesRoad_14 : decode cX6_takesRoad 14 = .ok (.iconst 0, 1) := by decide +kernel
theorem dX6_takesRoad_15 : decode cX6_takesRoad 15 = .ok (.istore 4, 2) := by decide +kernel
theorem dX6_takesRoad_17 : decode cX6_takesRoad 17 = .ok (.iload 4, 2) := by decide +kernel
theorem dX6_takesRoad_19 : decode cX6_takesRoad 19 = .ok (.aload_n 0, 1) := by decide +kernel
theorem dX6_takesRoad_20 : decode cX6_takesRoad 20 = .ok (.getfield 38, 3) := by decide +kernel
theorem dX6_takesRoad_23 : decode cX6_takesRoad 23 = .ok (.if_icmp .ge 122, 3) := by decide +kernel
theorem dX6_takesRoad_26 : decode cX6_takesRoad 26 = .ok (.iconst 3, 1) := by decide +kernel
theorem dX6_takesRoad_27 : decode cX6_takesRoad 27 = .ok (.iload 4, 2) := by decide +kernel
theorem dX6_takesRoad_29 : decode cX6_takesRoad 29 = .ok (.imul, 1) := by decide +kernel
theorem dX6_takesRoad_30 : decode cX6_takesRoad 30 = .ok (.istore 5, 2) := by decide +kernel
theorem dX6_takesRoad_32 : decode cX6_takesRoad 32 = .ok (.aload_n 0, 1) := by decide +kernel
theorem dX6_takesRoad_33 : decode cX6_takesRoad 33 = .ok (.getfield 18, 3) := by decide +kernel
theorem dX6_takesRoad_36 : decode cX6_takesRoad 36 = .ok (.iload 5, 2) := by decide +kernel
theorem dX6_takesRoad_38 : decode cX6_takesRoad 38 = .ok (.aload_n 1, 1) := by decide +kernel
theorem dX6_takesRoad_39 : decode cX6_takesRoad 39 = .ok (.iload_n 2, 1) := by decide +kernel
theorem dX6_takesRoad_40 : decode cX6_takesRoad 40 = .ok (.iload 5, 2) := by decide +kernel
theorem dX6_takesRoad_42 : decode cX6_takesRoad 42 = .ok (.iadd, 1) := by decide +kernel
theorem dX6_takesRoad_43 : decode cX6_takesRoad 43 = .ok (.invokevirtual 42, 3) := by decide +kernel
theorem dX6_takesRoad_46 : decode cX6_takesRoad 46 = .ok (.iastore, 1) := by decide +kernel
theorem dX6_takesRoad_47 : decode cX6_takesRoad 47 = .ok (.aload_n 0, 1) := by decide +kernel
theorem dX6_takesRoad_48 : decode cX6_takesRoad 48 = .ok (.getfield 18, 3) := by decide +kernel
theorem dX6_takesRoad_51 : decode cX6_takesRoad 51 = .ok (.iload 5, 2) := by decide +kernel
theorem dX6_takesRoad_53 : decode cX6_takesRoad 53 = .ok (.iconst 1, 1) := by decide +kernel
theorem dX6_takesRoad_54 : decode cX6_takesRoad 54 = .ok (.iadd, 1) := by decide +kernel
theorem dX6_takesRoad_55 : decode cX6_takesRoad 55 = .ok (.aload_n 1, 1) := by decide +kernel
theorem dX6_takesRoad_56 : decode cX6_takesRoad 56 = .ok (.iload_n 2, 1) := by decide +kernel
theorem dX6_takesRoad_57 : decode cX6_takesRoad 57 = .ok (.iload 5, 2) := by decide +kernel
theorem dX6_takesRoad_59 : decode cX6_takesRoad 59 = .ok (.iadd, 1) := by decide +kernel
theorem dX6_takesRoad_60 : decode cX6_takesRoad 60 = .ok (.iconst 1, 1) := by decide +kernel
theorem dX6_takesRoad_61 : decode cX6_takesRoad 61 = .ok (.iadd, 1) := by decide +kernel
theorem dX6_takesRoad_62 : decode cX6_takesRoad 62 = .ok (.invokevirtual 42, 3) := by decide +kernel
theorem dX6_takesRoad_65 : decode cX6_takesRoad 65 = .ok (.iastore, 1) := by decide +kernel
theorem dX6_takesRoad_66 : decode cX6_takesRoad 66 = .ok (.aload_n 0, 1) := by decide +kernel
theorem dX6_takesRoad_67 : decode cX6_takesRoad 67 = .ok (.getfield 18, 3) := by decide +kernel
theorem dX6_takesRoad_70 : decode cX6_takesRoad 70 = .ok (.iload 5, 2) := by decide +kernel
theorem dX6_takesRoad_72 : decode cX6_takesRoad 72 = .ok (.iconst 2, 1) := by decide +kernel
theorem dX6_takesRoad_73 : decode cX6_takesRoad 73 = .ok (.iadd, 1) := by decide +kernel
theorem dX6_takesRoad_74 : decode cX6_takesRoad 74 = .ok (.aload_n 1, 1) := by decide +kernel
theorem dX6_takesRoad_75 : decode cX6_takesRoad 75 = .ok (.iload_n 2, 1) := by decide +kernel
theorem dX6_takesRoad_76 : decode cX6_takesRoad 76 = .ok (.iload 5, 2) := by decide +kernel
theorem dX6_takesRoad_78 : decode cX6_takesRoad 78 = .ok (.iadd, 1) := by decide +kernel
theorem dX6_takesRoad_79 : decode cX6_takesRoad 79 = .ok (.iconst 2, 1) := by decide +kernel
theorem dX6_takesRoad_80 : decode cX6_takesRoad 80 = .ok (.iadd, 1) := by decide +kernel
theorem dX6_takesRoad_81 : decode cX6_takesRoad 81 = .ok (.invokevirtual 42, 3) := by decide +kernel
theorem dX6_takesRoad_84 : decode cX6_takesRoad 84 = .ok (.iastore, 1) := by decide +kernel
theorem dX6_takesRoad_85 : decode cX6_takesRoad 85 = .ok (.aload_n 0, 1) := by decide +kernel
theorem dX6_takesRoad_86 : decode cX6_takesRoad 86 = .ok (.getfield 18, 3) := by decide +kernel
theorem dX6_takesRoad_89 : decode cX6_takesRoad 89 = .ok (.iload 5, 2) := by decide +kernel
theorem dX6_takesRoad_91 : decode cX6_takesRoad 91 = .ok (.iaload, 1) := by decide +kernel
theorem dX6_takesRoad_92 : decode cX6_takesRoad 92 = .ok (.iconst 1, 1) := by decide +kernel
theorem dX6_takesRoad_93 : decode cX6_takesRoad 93 = .ok (.bipush 50, 2) := by decide +kernel
theorem dX6_takesRoad_95 : decode cX6_takesRoad 95 = .ok (.invokestatic 48, 3) := by decide +kernel
theorem dX6_takesRoad_98 : decode cX6_takesRoad 98 = .ok (.ifCond .eq 39, 3) := by decide +kernel
theorem dX6_takesRoad_101 : decode cX6_takesRoad 101 = .ok (.aload_n 0, 1) := by decide +kernel
theorem dX6_takesRoad_102 : decode cX6_takesRoad 102 = .ok (.getfield 18, 3) := by decide +kernel
theorem dX6_takesRoad_105 : decode cX6_takesRoad 105 = .ok (.iload 5, 2) := by decide +kernel
theorem dX6_takesRoad_107 : decode cX6_takesRoad 107 = .ok (.iconst 1, 1) := by decide +kernel
theorem dX6_takesRoad_108 : decode cX6_takesRoad 108 = .ok (.iadd, 1) := by decide +kernel
theorem dX6_takesRoad_109 : decode cX6_takesRoad 109 = .ok (.iaload, 1) := by decide +kernel
theorem dX6_takesRoad_110 : decode cX6_takesRoad 110 = .ok (.iconst 0, 1) := by decide +kernel
theorem dX6_takesRoad_111 : decode cX6_takesRoad 111 = .ok (.sipush 2000, 3) := by decide +kernel
theorem dX6_takesRoad_114 : decode cX6_takesRoad 114 = .ok (.invokestatic 48, 3) := by decide +kernel
theorem dX6_takesRoad_117 : decode cX6_takesRoad 117 = .ok (.ifCond .eq 20, 3) := by decide +kernel
theorem dX6_takesRoad_120 : decode cX6_takesRoad 120 = .ok (.aload_n 0, 1) := by decide +kernel
theorem dX6_takesRoad_121 : decode cX6_takesRoad 121 = .ok (.getfield 18, 3) := by decide +kernel
theorem dX6_takesRoad_124 : decode cX6_takesRoad 124 = .ok (.iload 5, 2) := by decide +kernel
theorem dX6_takesRoad_126 : decode cX6_takesRoad 126 = .ok (.iconst 2, 1) := by decide +kernel
theorem dX6_takesRoad_127 : decode cX6_takesRoad 127 = .ok (.iadd, 1) := by decide +kernel
theorem dX6_takesRoad_128 : decode cX6_takesRoad 128 = .ok (.iaload, 1) := by decide +kernel
theorem dX6_takesRoad_129 : decode cX6_takesRoad 129 = .ok (.iconst 0, 1) := by decide +kernel
theorem dX6_takesRoad_130 : decode cX6_takesRoad 130 = .ok (.iconst 1, 1) := by decide +kernel
theorem dX6_takesRoad_131 : decode cX6_takesRoad 131 = .ok (.invokestatic 48, 3) := by decide +kernel
theorem dX6_takesRoad_134 : decode cX6_takesRoad 134 = .ok (.ifCond .ne 5, 3) := by decide +kernel
theorem dX6_takesRoad_137 : decode cX6_takesRoad 137 = .ok (.iconst 0, 1) := by decide +kernel
theorem dX6_takesRoad_138 : decode cX6_takesRoad 138 = .ok (.ireturn, 1) := by decide +kernel
theorem dX6_takesRoad_139 : decode cX6_takesRoad 139 = .ok (.iinc 4 1, 3) := by decide +kernel
theorem dX6_takesRoad_142 : decode cX6_takesRoad 142 = .ok (.goto (-125), 3) := by decide +kernel
theorem dX6_takesRoad_145 : decode cX6_takesRoad 145 = .ok (.iconst 1, 1) := by decide +kernel
theorem dX6_takesRoad_146 : decode cX6_takesRoad 146 = .ok (.ireturn, 1) := by decide +kernel
theorem dX6_tryOut_0 : decode cX6_tryOut 0 = .ok (.iconst 0, 1) := by decide +kernel
theorem dX6_tryOut_1 : decode cX6_tryOut 1 = .ok (.istore 4, 2) := by decide +kernel
theorem dX6_tryOut_3 : decode cX6_tryOut 3 = .ok (.iload 4, 2) := by decide +kernel
theorem dX6_tryOut_5 : decode cX6_tryOut 5 = .ok (.bipush 24, 2) := by decide +kernel
theorem dX6_tryOut_7 : decode cX6_tryOut 7 = .ok (.if_icmp .ge 47, 3) := by decide +kernel
theorem dX6_tryOut_10 : decode cX6_tryOut 10 = .ok (.aload_n 3, 1) := by decide +kernel
theorem dX6_tryOut_11 : decode cX6_tryOut 11 = .ok (.aload_n 1, 1) := by decide +kernel
theorem dX6_tryOut_12 : decode cX6_tryOut 12 = .ok (.iload 4, 2) := by decide +kernel
theorem dX6_tryOut_14 : decode cX6_tryOut 14 = .ok (.invokestatic 52, 3) := by decide +kernel
theorem dX6_tryOut_17 : decode cX6_tryOut 17 = .ok (.iload_n 2, 1) := by decide +kernel
theorem dX6_tryOut_18 : decode cX6_tryOut 18 = .ok (.iload 4, 2) := by decide +kernel
theorem dX6_tryOut_20 : decode cX6_tryOut 20 = .ok (.invokestatic 55, 3) := by decide +kernel
theorem dX6_tryOut_23 : decode cX6_tryOut 23 = .ok (.invokevirtual 58, 3) := by decide +kernel
theorem dX6_tryOut_26 : decode cX6_tryOut 26 = .ok (.aload_n 0, 1) := by decide +kernel
theorem dX6_tryOut_27 : decode cX6_tryOut 27 = .ok (.getfield 9, 3) := by decide +kernel
theorem dX6_tryOut_30 : decode cX6_tryOut 30 = .ok (.iload 4, 2) := by decide +kernel
theorem dX6_tryOut_32 : decode cX6_tryOut 32 = .ok (.aload_n 3, 1) := by decide +kernel
theorem dX6_tryOut_33 : decode cX6_tryOut 33 = .ok (.getfield 64, 3) := by decide +kernel
theorem dX6_tryOut_36 : decode cX6_tryOut 36 = .ok (.iastore, 1) := by decide +kernel
theorem dX6_tryOut_37 : decode cX6_tryOut 37 = .ok (.aload_n 0, 1) := by decide +kernel
theorem dX6_tryOut_38 : decode cX6_tryOut 38 = .ok (.getfield 15, 3) := by decide +kernel
theorem dX6_tryOut_41 : decode cX6_tryOut 41 = .ok (.iload 4, 2) := by decide +kernel
theorem dX6_tryOut_43 : decode cX6_tryOut 43 = .ok (.aload_n 3, 1) := by decide +kernel
theorem dX6_tryOut_44 : decode cX6_tryOut 44 = .ok (.getfield 67, 3) := by decide +kernel
theorem dX6_tryOut_47 : decode cX6_tryOut 47 = .ok (.iastore, 1) := by decide +kernel
theorem dX6_tryOut_48 : decode cX6_tryOut 48 = .ok (.iinc 4 1, 3) := by decide +kernel
theorem dX6_tryOut_51 : decode cX6_tryOut 51 = .ok (.goto (-48), 3) := by decide +kernel
theorem dX6_tryOut_54 : decode cX6_tryOut 54 = .ok (.return_, 1) := by decide +kernel
theorem dX6_choose_0 : decode cX6_choose 0 = .ok (.iconst 0, 1) := by decide +kernel
theorem dX6_choose_1 : decode cX6_choose 1 = .ok (.iload_n 1, 1) := by decide +kernel
theorem dX6_choose_2 : decode cX6_choose 2 = .ok (.sipush 1000, 3) := by decide +kernel
theorem dX6_choose_5 : decode cX6_choose 5 = .ok (.invokestatic 29, 3) := by decide +kernel
theorem dX6_choose_8 : decode cX6_choose 8 = .ok (.invokestatic 35, 3) := by decide +kernel
theorem dX6_choose_11 : decode cX6_choose 11 = .ok (.istore_n 2, 1) := by decide +kernel
theorem dX6_choose_12 : decode cX6_choose 12 = .ok (.aload_n 0, 1) := by decide +kernel
theorem dX6_choose_13 : decode cX6_choose 13 = .ok (.getfield 23, 3) := by decide +kernel
theorem dX6_choose_16 : decode cX6_choose 16 = .ok (.aload_n 0, 1) := by decide +kernel
theorem dX6_choose_17 : decode cX6_choose 17 = .ok (.getfield 38, 3) := by decide +kernel
theorem dX6_choose_20 : decode cX6_choose 20 = .ok (.aaload, 1) := by decide +kernel
theorem dX6_choose_21 : decode cX6_choose 21 = .ok (.iconst 0, 1) := by decide +kernel
theorem dX6_choose_22 : decode cX6_choose 22 = .ok (.invokestatic 70, 3) := by decide +kernel
theorem dX6_choose_25 : decode cX6_choose 25 = .ok (.aload_n 0, 1) := by decide +kernel
theorem dX6_choose_26 : decode cX6_choose 26 = .ok (.getfield 38, 3) := by decide +kernel
theorem dX6_choose_29 : decode cX6_choose 29 = .ok (.iconst 1, 1) := by decide +kernel
theorem dX6_choose_30 : decode cX6_choose 30 = .ok (.isub, 1) := by decide +kernel
theorem dX6_choose_31 : decode cX6_choose 31 = .ok (.istore_n 3, 1) := by decide +kernel
theorem dX6_choose_32 : decode cX6_choose 32 = .ok (.iload_n 3, 1) := by decide +kernel
theorem dX6_choose_33 : decode cX6_choose 33 = .ok (.ifCond .lt 15, 3) := by decide +kernel
theorem dX6_choose_36 : decode cX6_choose 36 = .ok (.aload_n 0, 1) := by decide +kernel
theorem dX6_choose_37 : decode cX6_choose 37 = .ok (.iload_n 3, 1) := by decide +kernel
theorem dX6_choose_38 : decode cX6_choose 38 = .ok (.iload_n 2, 1) := by decide +kernel
theorem dX6_choose_39 : decode cX6_choose 39 = .ok (.invokevirtual 76, 3) := by decide +kernel
theorem dX6_choose_42 : decode cX6_choose 42 = .ok (.iinc 3 (-1), 3) := by decide +kernel
theorem dX6_choose_45 : decode cX6_choose 45 = .ok (.goto (-13), 3) := by decide +kernel
theorem dX6_choose_48 : decode cX6_choose 48 = .ok (.aload_n 0, 1) := by decide +kernel
theorem dX6_choose_49 : decode cX6_choose 49 = .ok (.getfield 23, 3) := by decide +kernel
theorem dX6_choose_52 : decode cX6_choose 52 = .ok (.iconst 0, 1) := by decide +kernel
theorem dX6_choose_53 : decode cX6_choose 53 = .ok (.aaload, 1) := by decide +kernel
theorem dX6_choose_54 : decode cX6_choose 54 = .ok (.iload_n 2, 1) := by decide +kernel
theorem dX6_choose_55 : decode cX6_choose 55 = .ok (.iaload, 1) := by decide +kernel
theorem dX6_choose_56 : decode cX6_choose 56 = .ok (.istore_n 3, 1) := by decide +kernel
theorem dX6_choose_57 : decode cX6_choose 57 = .ok (.iload_n 3, 1) := by decide +kernel
theorem dX6_choose_58 : decode cX6_choose 58 = .ok (.ldc 80, 2) := by decide +kernel
theorem dX6_choose_60 : decode cX6_choose 60 = .ok (.if_icmp .ne 6, 3) := by decide +kernel
theorem dX6_choose_63 : decode cX6_choose 63 = .ok (.ldc 81, 2) := by decide +kernel
theorem dX6_choose_65 : decode cX6_choose 65 = .ok (.ireturn, 1) := by decide +kernel
theorem dX6_choose_66 : decode cX6_choose 66 = .ok (.iconst 0, 1) := by decide +kernel
theorem dX6_choose_67 : decode cX6_choose 67 = .ok (.istore 4, 2) := by decide +kernel
theorem dX6_choose_69 : decode cX6_choose 69 = .ok (.iload 4, 2) := by decide +kernel
theorem dX6_choose_71 : decode cX6_choose 71 = .ok (.aload_n 0, 1) := by decide +kernel
theorem dX6_choose_72 : decode cX6_choose 72 = .ok (.getfield 38, 3) := by decide +kernel
theorem dX6_choose_75 : decode cX6_choose 75 = .ok (.if_icmp .ge 19, 3) := by decide +kernel
theorem dX6_choose_78 : decode cX6_choose 78 = .ok (.iload_n 2, 1) := by decide +kernel
theorem dX6_choose_79 : decode cX6_choose 79 = .ok (.aload_n 0, 1) := by decide +kernel
theorem dX6_choose_80 : decode cX6_choose 80 = .ok (.iload 4, 2) := by decide +kernel
theorem dX6_choose_82 : decode cX6_choose 82 = .ok (.iload_n 2, 1) := by decide +kernel
theorem dX6_choose_83 : decode cX6_choose 83 = .ok (.invokevirtual 82, 3) := by decide +kernel
theorem dX6_choose_86 : decode cX6_choose 86 = .ok (.isub, 1) := by decide +kernel
theorem dX6_choose_87 : decode cX6_choose 87 = .ok (.istore_n 2, 1) := by decide +kernel
theorem dX6_choose_88 : decode cX6_choose 88 = .ok (.iinc 4 1, 3) := by decide +kernel
theorem dX6_choose_91 : decode cX6_choose 91 = .ok (.goto (-22), 3) := by decide +kernel
theorem dX6_choose_94 : decode cX6_choose 94 = .ok (.aload_n 0, 1) := by decide +kernel
theorem dX6_choose_95 : decode cX6_choose 95 = .ok (.aload_n 0, 1) := by decide +kernel
theorem dX6_choose_96 : decode cX6_choose 96 = .ok (.getfield 38, 3) := by decide +kernel
theorem dX6_choose_99 : decode cX6_choose 99 = .ok (.putfield 85, 3) := by decide +kernel
theorem dX6_choose_102 : decode cX6_choose 102 = .ok (.iload_n 3, 1) := by decide +kernel
theorem dX6_choose_103 : decode cX6_choose 103 = .ok (.ireturn, 1) := by decide +kernel
theorem dX6_weigh_0 : decode cX6_weigh 0 = .ok (.aload_n 0, 1) := by decide +kernel
theorem dX6_weigh_1 : decode cX6_weigh 1 = .ok (.getfield 23, 3) := by decide +kernel
theorem dX6_weigh_4 : decode cX6_weigh 4 = .ok (.iload_n 1, 1) := by decide +kernel
theorem dX6_weigh_5 : decode cX6_weigh 5 = .ok (.aaload, 1) := by decide +kernel
theorem dX6_weigh_6 : decode cX6_weigh 6 = .ok (.astore_n 3, 1) := by decide +kernel
theorem dX6_weigh_7 : decode cX6_weigh 7 = .ok (.aload_n 0, 1) := by decide +kernel
theorem dX6_weigh_8 : decode cX6_weigh 8 = .ok (.getfield 23, 3) := by decide +kernel
theorem dX6_weigh_11 : decode cX6_weigh 11 = .ok (.iload_n 1, 1) := by decide +kernel
theorem dX6_weigh_12 : decode cX6_weigh 12 = .ok (.iconst 1, 1) := by decide +kernel
theorem dX6_weigh_13 : decode cX6_weigh 13 = .ok (.iadd, 1) := by decide +kernel
theorem dX6_weigh_14 : decode cX6_weigh 14 = .ok (.aaload, 1) := by decide +kernel
theorem dX6_weigh_15 : decode cX6_weigh 15 = .ok (.astore 4, 2) := by decide +kernel
theorem dX6_weigh_17 : decode cX6_weigh 17 = .ok (.aload_n 3, 1) := by decide +kernel
theorem dX6_weigh_18 : decode cX6_weigh 18 = .ok (.ldc 80, 2) := by decide +kernel
theorem dX6_weigh_20 : decode cX6_weigh 20 = .ok (.invokestatic 70, 3) := by decide +kernel
theorem dX6_weigh_23 : decode cX6_weigh 23 = .ok (.iconst 0, 1) := by decide +kernel
theorem dX6_weigh_24 : decode cX6_weigh 24 = .ok (.istore 5, 2) := by decide +kernel
theorem dX6_weigh_26 : decode cX6_weigh 26 = .ok (.iload 5, 2) := by decide +kernel
theorem dX6_weigh_28 : decode cX6_weigh 28 = .ok (.bipush 24, 2) := by decide +kernel
theorem dX6_weigh_30 : decode cX6_weigh 30 = .ok (.if_icmp .ge 83, 3) := by decide +kernel
theorem dX6_weigh_33 : decode cX6_weigh 33 = .ok (.aload_n 0, 1) := by decide +kernel
theorem dX6_weigh_34 : decode cX6_weigh 34 = .ok (.iload_n 1, 1) := by decide +kernel
theorem dX6_weigh_35 : decode cX6_weigh 35 = .ok (.iload 5, 2) := by decide +kernel
theorem dX6_weigh_37 : decode cX6_weigh 37 = .ok (.invokevirtual 88, 3) := by decide +kernel
theorem dX6_weigh_40 : decode cX6_weigh 40 = .ok (.istore 6, 2) := by decide +kernel
theorem dX6_weigh_42 : decode cX6_weigh 42 = .ok (.aload_n 0, 1) := by decide +kernel
theorem dX6_weigh_43 : decode cX6_weigh 43 = .ok (.iload_n 1, 1) := by decide +kernel
theorem dX6_weigh_44 : decode cX6_weigh 44 = .ok (.iload 5, 2) := by decide +kernel
theorem dX6_weigh_46 : decode cX6_weigh 46 = .ok (.invokevirtual 91, 3) := by decide +kernel
theorem dX6_weigh_49 : decode cX6_weigh 49 = .ok (.istore 7, 2) := by decide +kernel
theorem dX6_weigh_51 : decode cX6_weigh 51 = .ok (.iload 6, 2) := by decide +kernel
theorem dX6_weigh_53 : decode cX6_weigh 53 = .ok (.istore 8, 2) := by decide +kernel
theorem dX6_weigh_55 : decode cX6_weigh 55 = .ok (.iload 6, 2) := by decide +kernel
theorem dX6_weigh_57 : decode cX6_weigh 57 = .ok (.ifCond .le 50, 3) := by decide +kernel
theorem dX6_weigh_60 : decode cX6_weigh 60 = .ok (.iload 8, 2) := by decide +kernel
theorem dX6_weigh_62 : decode cX6_weigh 62 = .ok (.iload_n 2, 1) := by decide +kernel
theorem dX6_weigh_63 : decode cX6_weigh 63 = .ok (.if_icmp .gt 44, 3) := by decide +kernel
theorem dX6_weigh_66 : decode cX6_weigh 66 = .ok (.aload 4, 2) := by decide +kernel
theorem dX6_weigh_68 : decode cX6_weigh 68 = .ok (.iload 8, 2) := by decide +kernel
theorem dX6_weigh_70 : decode cX6_weigh 70 = .ok (.iload 6, 2) := by decide +kernel
theorem dX6_weigh_72 : decode cX6_weigh 72 = .ok (.isub, 1) := by decide +kernel
theorem dX6_weigh_73 : decode cX6_weigh 73 = .ok (.iaload, 1) := by decide +kernel
theorem dX6_weigh_74 : decode cX6_weigh 74 = .ok (.ldc 80, 2) := by decide +kernel
theorem dX6_weigh_76 : decode cX6_weigh 76 = .ok (.if_icmp .eq 25, 3) := by decide +kernel
theorem dX6_weigh_79 : decode cX6_weigh 79 = .ok (.aload_n 3, 1) := by decide +kernel
theorem dX6_weigh_80 : decode cX6_weigh 80 = .ok (.iload 8, 2) := by decide +kernel
theorem dX6_weigh_82 : decode cX6_weigh 82 = .ok (.aload_n 3, 1) := by decide +kernel
theorem dX6_weigh_83 : decode cX6_weigh 83 = .ok (.iload 8, 2) := by decide +kernel
theorem dX6_weigh_85 : decode cX6_weigh 85 = .ok (.iaload, 1) := by decide +kernel
theorem dX6_weigh_86 : decode cX6_weigh 86 = .ok (.iload 7, 2) := by decide +kernel
theorem dX6_weigh_88 : decode cX6_weigh 88 = .ok (.aload 4, 2) := by decide +kernel
theorem dX6_weigh_90 : decode cX6_weigh 90 = .ok (.iload 8, 2) := by decide +kernel
theorem dX6_weigh_92 : decode cX6_weigh 92 = .ok (.iload 6, 2) := by decide +kernel
theorem dX6_weigh_94 : decode cX6_weigh 94 = .ok (.isub, 1) := by decide +kernel
theorem dX6_weigh_95 : decode cX6_weigh 95 = .ok (.iaload, 1) := by decide +kernel
theorem dX6_weigh_96 : decode cX6_weigh 96 = .ok (.iadd, 1) := by decide +kernel
theorem dX6_weigh_97 : decode cX6_weigh 97 = .ok (.invokestatic 29, 3) := by decide +kernel
theorem dX6_weigh_100 : decode cX6_weigh 100 = .ok (.iastore, 1) := by decide +kernel
theorem dX6_weigh_101 : decode cX6_weigh 101 = .ok (.iinc 8 1, 3) := by decide +kernel
theorem dX6_weigh_104 : decode cX6_weigh 104 = .ok (.goto (-49), 3) := by decide +kernel
theorem dX6_weigh_107 : decode cX6_weigh 107 = .ok (.iinc 5 1, 3) := by decide +kernel
theorem dX6_weigh_110 : decode cX6_weigh 110 = .ok (.goto (-84), 3) := by decide +kernel
theorem dX6_weigh_113 : decode cX6_weigh 113 = .ok (.return_, 1) := by decide +kernel
theorem dX6_keepBest_0 : decode cX6_keepBest 0 = .ok (.iconst 0, 1) := by decide +kernel
theorem dX6_keepBest_1 : decode cX6_keepBest 1 = .ok (.istore_n 3, 1) := by decide +kernel
theorem dX6_keepBest_2 : decode cX6_keepBest 2 = .ok (.iload_n 3, 1) := by decide +kernel
theorem dX6_keepBest_3 : decode cX6_keepBest 3 = .ok (.bipush 24, 2) := by decide +kernel
theorem dX6_keepBest_5 : decode cX6_keepBest 5 = .ok (.if_icmp .ge 134, 3) := by decide +kernel
theorem dX6_keepBest_8 : decode cX6_keepBest 8 = .ok (.aload_n 0, 1) := by decide +kernel
theorem dX6_keepBest_9 : decode cX6_keepBest 9 = .ok (.iload_n 1, 1) := by decide +kernel
theorem dX6_keepBest_10 : decode cX6_keepBest 10 = .ok (.iload_n 3, 1) := by decide +kernel
theorem dX6_keepBest_11 : decode cX6_keepBest 11 = .ok (.invokevirtual 88, 3) := by decide +kernel
theorem dX6_keepBest_14 : decode cX6_keepBest 14 = .ok (.istore 4, 2) := by decide +kernel
theorem dX6_keepBest_16 : decode cX6_keepBest 16 = .ok (.aload_n 0, 1) := by decide +kernel
theorem dX6_keepBest_17 : decode cX6_keepBest 17 = .ok (.iload_n 1, 1) := by decide +kernel
theorem dX6_keepBest_18 : decode cX6_keepBest 18 = .ok (.iload_n 3, 1) := by decide +kernel
theorem dX6_keepBest_19 : decode cX6_keepBest 19 = .ok (.invokevirtual 91, 3) := by decide +kernel
theorem dX6_keepBest_22 : decode cX6_keepBest 22 = .ok (.istore 5, 2) := by decide +kernel
theorem dX6_keepBest_24 : decode cX6_keepBest 24 = .ok (.iload 4, 2) := by decide +kernel
theorem dX6_keepBest_26 : decode cX6_keepBest 26 = .ok (.ifCond .le 107, 3) := by decide +kernel
theorem dX6_keepBest_29 : decode cX6_keepBest 29 = .ok (.iload 4, 2) := by decide +kernel
theorem dX6_keepBest_31 : decode cX6_keepBest 31 = .ok (.iload_n 2, 1) := by decide +kernel
theorem dX6_keepBest_32 : decode cX6_keepBest 32 = .ok (.if_icmp .gt 101, 3) := by decide +kernel
theorem dX6_keepBest_35 : decode cX6_keepBest 35 = .ok (.aload_n 0, 1) := by decide +kernel
theorem dX6_keepBest_36 : decode cX6_keepBest 36 = .ok (.getfield 23, 3) := by decide +kernel
theorem dX6_keepBest_39 : decode cX6_keepBest 39 = .ok (.iload_n 1, 1) := by decide +kernel
theorem dX6_keepBest_40 : decode cX6_keepBest 40 = .ok (.iconst 1, 1) := by decide +kernel
theorem dX6_keepBest_41 : decode cX6_keepBest 41 = .ok (.iadd, 1) := by decide +kernel
theorem dX6_keepBest_42 : decode cX6_keepBest 42 = .ok (.aaload, 1) := by decide +kernel
theorem dX6_keepBest_43 : decode cX6_keepBest 43 = .ok (.iload_n 2, 1) := by decide +kernel
theorem dX6_keepBest_44 : decode cX6_keepBest 44 = .ok (.iload 4, 2) := by decide +kernel
theorem dX6_keepBest_46 : decode cX6_keepBest 46 = .ok (.isub, 1) := by decide +kernel
theorem dX6_keepBest_47 : decode cX6_keepBest 47 = .ok (.iaload, 1) := by decide +kernel
theorem dX6_keepBest_48 : decode cX6_keepBest 48 = .ok (.ldc 80, 2) := by decide +kernel
theorem dX6_keepBest_50 : decode cX6_keepBest 50 = .ok (.if_icmp .eq 83, 3) := by decide +kernel
theorem dX6_keepBest_53 : decode cX6_keepBest 53 = .ok (.iload 5, 2) := by decide +kernel
theorem dX6_keepBest_55 : decode cX6_keepBest 55 = .ok (.aload_n 0, 1) := by decide +kernel
theorem dX6_keepBest_56 : decode cX6_keepBest 56 = .ok (.getfield 23, 3) := by decide +kernel
theorem dX6_keepBest_59 : decode cX6_keepBest 59 = .ok (.iload_n 1, 1) := by decide +kernel
theorem dX6_keepBest_60 : decode cX6_keepBest 60 = .ok (.iconst 1, 1) := by decide +kernel
theorem dX6_keepBest_61 : decode cX6_keepBest 61 = .ok (.iadd, 1) := by decide +kernel
theorem dX6_keepBest_62 : decode cX6_keepBest 62 = .ok (.aaload, 1) := by decide +kernel
theorem dX6_keepBest_63 : decode cX6_keepBest 63 = .ok (.iload_n 2, 1) := by decide +kernel
theorem dX6_keepBest_64 : decode cX6_keepBest 64 = .ok (.iload 4, 2) := by decide +kernel
theorem dX6_keepBest_66 : decode cX6_keepBest 66 = .ok (.isub, 1) := by decide +kernel
theorem dX6_keepBest_67 : decode cX6_keepBest 67 = .ok (.iaload, 1) := by decide +kernel
theorem dX6_keepBest_68 : decode cX6_keepBest 68 = .ok (.iadd, 1) := by decide +kernel
theorem dX6_keepBest_69 : decode cX6_keepBest 69 = .ok (.aload_n 0, 1) := by decide +kernel
theorem dX6_keepBest_70 : decode cX6_keepBest 70 = .ok (.getfield 23, 3) := by decide +kernel
theorem dX6_keepBest_73 : decode cX6_keepBest 73 = .ok (.iload_n 1, 1) := by decide +kernel
theorem dX6_keepBest_74 : decode cX6_keepBest 74 = .ok (.aaload, 1) := by decide +kernel
theorem dX6_keepBest_75 : decode cX6_keepBest 75 = .ok (.iload_n 2, 1) := by decide +kernel
theorem dX6_keepBest_76 : decode cX6_keepBest 76 = .ok (.iaload, 1) := by decide +kernel
theorem dX6_keepBest_77 : decode cX6_keepBest 77 = .ok (.if_icmp .ne 56, 3) := by decide +kernel
theorem dX6_keepBest_80 : decode cX6_keepBest 80 = .ok (.aload_n 0, 1) := by decide +kernel
theorem dX6_keepBest_81 : decode cX6_keepBest 81 = .ok (.getfield 26, 3) := by decide +kernel
theorem dX6_keepBest_84 : decode cX6_keepBest 84 = .ok (.iconst 4, 1) := by decide +kernel
theorem dX6_keepBest_85 : decode cX6_keepBest 85 = .ok (.iload_n 1, 1) := by decide +kernel
theorem dX6_keepBest_86 : decode cX6_keepBest 86 = .ok (.imul, 1) := by decide +kernel
theorem dX6_keepBest_87 : decode cX6_keepBest 87 = .ok (.iload_n 3, 1) := by decide +kernel
theorem dX6_keepBest_88 : decode cX6_keepBest 88 = .ok (.invokestatic 52, 3) := by decide +kernel
theorem dX6_keepBest_91 : decode cX6_keepBest 91 = .ok (.iastore, 1) := by decide +kernel
theorem dX6_keepBest_92 : decode cX6_keepBest 92 = .ok (.aload_n 0, 1) := by decide +kernel
theorem dX6_keepBest_93 : decode cX6_keepBest 93 = .ok (.getfield 26, 3) := by decide +kernel
theorem dX6_keepBest_96 : decode cX6_keepBest 96 = .ok (.iconst 4, 1) := by decide +kernel
theorem dX6_keepBest_97 : decode cX6_keepBest 97 = .ok (.iload_n 1, 1) := by decide +kernel
theorem dX6_keepBest_98 : decode cX6_keepBest 98 = .ok (.imul, 1) := by decide +kernel
theorem dX6_keepBest_99 : decode cX6_keepBest 99 = .ok (.iconst 1, 1) := by decide +kernel
theorem dX6_keepBest_100 : decode cX6_keepBest 100 = .ok (.iadd, 1) := by decide +kernel
theorem dX6_keepBest_101 : decode cX6_keepBest 101 = .ok (.iload_n 3, 1) := by decide +kernel
theorem dX6_keepBest_102 : decode cX6_keepBest 102 = .ok (.invokestatic 55, 3) := by decide +kernel
theorem dX6_keepBest_105 : decode cX6_keepBest 105 = .ok (.iastore, 1) := by decide +kernel
theorem dX6_keepBest_106 : decode cX6_keepBest 106 = .ok (.aload_n 0, 1) := by decide +kernel
theorem dX6_keepBest_107 : decode cX6_keepBest 107 = .ok (.getfield 26, 3) := by decide +kernel
theorem dX6_keepBest_110 : decode cX6_keepBest 110 = .ok (.iconst 4, 1) := by decide +kernel
theorem dX6_keepBest_111 : decode cX6_keepBest 111 = .ok (.iload_n 1, 1) := by decide +kernel
theorem dX6_keepBest_112 : decode cX6_keepBest 112 = .ok (.imul, 1) := by decide +kernel
theorem dX6_keepBest_113 : decode cX6_keepBest 113 = .ok (.iconst 2, 1) := by decide +kernel
theorem dX6_keepBest_114 : decode cX6_keepBest 114 = .ok (.iadd, 1) := by decide +kernel
theorem dX6_keepBest_115 : decode cX6_keepBest 115 = .ok (.iload 4, 2) := by decide +kernel
theorem dX6_keepBest_117 : decode cX6_keepBest 117 = .ok (.iastore, 1) := by decide +kernel
theorem dX6_keepBest_118 : decode cX6_keepBest 118 = .ok (.aload_n 0, 1) := by decide +kernel
theorem dX6_keepBest_119 : decode cX6_keepBest 119 = .ok (.getfield 26, 3) := by decide +kernel
theorem dX6_keepBest_122 : decode cX6_keepBest 122 = .ok (.iconst 4, 1) := by decide +kernel
theorem dX6_keepBest_123 : decode cX6_keepBest 123 = .ok (.iload_n 1, 1) := by decide +kernel
theorem dX6_keepBest_124 : decode cX6_keepBest 124 = .ok (.imul, 1) := by decide +kernel
theorem dX6_keepBest_125 : decode cX6_keepBest 125 = .ok (.iconst 3, 1) := by decide +kernel
theorem dX6_keepBest_126 : decode cX6_keepBest 126 = .ok (.iadd, 1) := by decide +kernel
theorem dX6_keepBest_127 : decode cX6_keepBest 127 = .ok (.iload 5, 2) := by decide +kernel
theorem dX6_keepBest_129 : decode cX6_keepBest 129 = .ok (.iastore, 1) := by decide +kernel
theorem dX6_keepBest_130 : decode cX6_keepBest 130 = .ok (.iload 4, 2) := by decide +kernel
theorem dX6_keepBest_132 : decode cX6_keepBest 132 = .ok (.ireturn, 1) := by decide +kernel
theorem dX6_keepBest_133 : decode cX6_keepBest 133 = .ok (.iinc 3 1, 3) := by decide +kernel
theorem dX6_keepBest_136 : decode cX6_keepBest 136 = .ok (.goto (-134), 3) := by decide +kernel
theorem dX6_keepBest_139 : decode cX6_keepBest 139 = .ok (.iconst 0, 1) := by decide +kernel
theorem dX6_keepBest_140 : decode cX6_keepBest 140 = .ok (.ireturn, 1) := by decide +kernel
theorem dX6_lasting_0 : decode cX6_lasting 0 = .ok (.iconst 3, 1) := by decide +kernel
theorem dX6_lasting_1 : decode cX6_lasting 1 = .ok (.iload_n 1, 1) := by decide +kernel
theorem dX6_lasting_2 : decode cX6_lasting 2 = .ok (.imul, 1) := by decide +kernel
theorem dX6_lasting_3 : decode cX6_lasting 3 = .ok (.istore_n 3, 1) := by decide +kernel
theorem dX6_lasting_4 : decode cX6_lasting 4 = .ok (.bipush 60, 2) := by decide +kernel
theorem dX6_lasting_6 : decode cX6_lasting 6 = .ok (.aload_n 0, 1) := by decide +kernel
theorem dX6_lasting_7 : decode cX6_lasting 7 = .ok (.getfield 9, 3) := by decide +kernel
theorem dX6_lasting_10 : decode cX6_lasting 10 = .ok (.iload_n 2, 1) := by decide +kernel
theorem dX6_lasting_11 : decode cX6_lasting 11 = .ok (.iaload, 1) := by decide +kernel
theorem dX6_lasting_12 : decode cX6_lasting 12 = .ok (.aload_n 0, 1) := by decide +kernel
theorem dX6_lasting_13 : decode cX6_lasting 13 = .ok (.getfield 18, 3) := by decide +kernel
theorem dX6_lasting_16 : decode cX6_lasting 16 = .ok (.iload_n 3, 1) := by decide +kernel
theorem dX6_lasting_17 : decode cX6_lasting 17 = .ok (.iconst 1, 1) := by decide +kernel
theorem dX6_lasting_18 : decode cX6_lasting 18 = .ok (.iadd, 1) := by decide +kernel
theorem dX6_lasting_19 : decode cX6_lasting 19 = .ok (.iaload, 1) := by decide +kernel
theorem dX6_lasting_20 : decode cX6_lasting 20 = .ok (.isub, 1) := by decide +kernel
theorem dX6_lasting_21 : decode cX6_lasting 21 = .ok (.bipush 10, 2) := by decide +kernel
theorem dX6_lasting_23 : decode cX6_lasting 23 = .ok (.idiv, 1) := by decide +kernel
theorem dX6_lasting_24 : decode cX6_lasting 24 = .ok (.invokestatic 29, 3) := by decide +kernel
theorem dX6_lasting_27 : decode cX6_lasting 27 = .ok (.istore 4, 2) := by decide +kernel
theorem dX6_lasting_29 : decode cX6_lasting 29 = .ok (.iload 4, 2) := by decide +kernel
theorem dX6_lasting_31 : decode cX6_lasting 31 = .ok (.iconst 1, 1) := by decide +kernel
theorem dX6_lasting_32 : decode cX6_lasting 32 = .ok (.if_icmp .ge 5, 3) := by decide +kernel
theorem dX6_lasting_35 : decode cX6_lasting 35 = .ok (.iconst 0, 1) := by decide +kernel
theorem dX6_lasting_36 : decode cX6_lasting 36 = .ok (.ireturn, 1) := by decide +kernel
theorem dX6_lasting_37 : decode cX6_lasting 37 = .ok (.bipush 60, 2) := by decide +kernel
theorem dX6_lasting_39 : decode cX6_lasting 39 = .ok (.aload_n 0, 1) := by decide +kernel
theorem dX6_lasting_40 : decode cX6_lasting 40 = .ok (.getfield 18, 3) := by decide +kernel
theorem dX6_lasting_43 : decode cX6_lasting 43 = .ok (.iload_n 3, 1) := by decide +kernel
theorem dX6_lasting_44 : decode cX6_lasting 44 = .ok (.iaload, 1) := by decide +kernel
theorem dX6_lasting_45 : decode cX6_lasting 45 = .ok (.imul, 1) := by decide +kernel
theorem dX6_lasting_46 : decode cX6_lasting 46 = .ok (.istore 5, 2) := by decide +kernel
theorem dX6_lasting_48 : decode cX6_lasting 48 = .ok (.iload 5, 2) := by decide +kernel
theorem dX6_lasting_50 : decode cX6_lasting 50 = .ok (.iload 4, 2) := by decide +kernel
theorem dX6_lasting_52 : decode cX6_lasting 52 = .ok (.idiv, 1) := by decide +kernel
theorem dX6_lasting_53 : decode cX6_lasting 53 = .ok (.iload 5, 2) := by decide +kernel
theorem dX6_lasting_55 : decode cX6_lasting 55 = .ok (.iload 4, 2) := by decide +kernel
theorem dX6_lasting_57 : decode cX6_lasting 57 = .ok (.irem, 1) := by decide +kernel
theorem dX6_lasting_58 : decode cX6_lasting 58 = .ok (.ifCond .le 7, 3) := by decide +kernel
theorem dX6_lasting_61 : decode cX6_lasting 61 = .ok (.iconst 1, 1) := by decide +kernel
theorem dX6_lasting_62 : decode cX6_lasting 62 = .ok (.goto 4, 3) := by decide +kernel
theorem dX6_lasting_65 : decode cX6_lasting 65 = .ok (.iconst 0, 1) := by decide +kernel
theorem dX6_lasting_66 : decode cX6_lasting 66 = .ok (.iadd, 1) := by decide +kernel
theorem dX6_lasting_67 : decode cX6_lasting 67 = .ok (.istore 6, 2) := by decide +kernel
theorem dX6_lasting_69 : decode cX6_lasting 69 = .ok (.aload_n 0, 1) := by decide +kernel
theorem dX6_lasting_70 : decode cX6_lasting 70 = .ok (.getfield 18, 3) := by decide +kernel
theorem dX6_lasting_73 : decode cX6_lasting 73 = .ok (.iload_n 3, 1) := by decide +kernel
theorem dX6_lasting_74 : decode cX6_lasting 74 = .ok (.iconst 2, 1) := by decide +kernel
theorem dX6_lasting_75 : decode cX6_lasting 75 = .ok (.iadd, 1) := by decide +kernel
theorem dX6_lasting_76 : decode cX6_lasting 76 = .ok (.iaload, 1) := by decide +kernel
theorem dX6_lasting_77 : decode cX6_lasting 77 = .ok (.iconst 1, 1) := by decide +kernel
theorem dX6_lasting_78 : decode cX6_lasting 78 = .ok (.if_icmp .ne 10, 3) := by decide +kernel
theorem dX6_lasting_81 : decode cX6_lasting 81 = .ok (.iload 6, 2) := by decide +kernel
theorem dX6_lasting_83 : decode cX6_lasting 83 = .ok (.iconst 3, 1) := by decide +kernel
theorem dX6_lasting_84 : decode cX6_lasting 84 = .ok (.iadd, 1) := by decide +kernel
theorem dX6_lasting_85 : decode cX6_lasting 85 = .ok (.goto 5, 3) := by decide +kernel
theorem dX6_lasting_88 : decode cX6_lasting 88 = .ok (.iload 6, 2) := by decide +kernel
theorem dX6_lasting_90 : decode cX6_lasting 90 = .ok (.ireturn, 1) := by decide +kernel
theorem dX6_burning_0 : decode cX6_burning 0 = .ok (.aload_n 0, 1) := by decide +kernel
theorem dX6_burning_1 : decode cX6_burning 1 = .ok (.getfield 15, 3) := by decide +kernel
theorem dX6_burning_4 : decode cX6_burning 4 = .ok (.iload_n 2, 1) := by decide +kernel
theorem dX6_burning_5 : decode cX6_burning 5 = .ok (.iaload, 1) := by decide +kernel
theorem dX6_burning_6 : decode cX6_burning 6 = .ok (.aload_n 0, 1) := by decide +kernel
theorem dX6_burning_7 : decode cX6_burning 7 = .ok (.getfield 18, 3) := by decide +kernel
theorem dX6_burning_10 : decode cX6_burning 10 = .ok (.iconst 3, 1) := by decide +kernel
theorem dX6_burning_11 : decode cX6_burning 11 = .ok (.iload_n 1, 1) := by decide +kernel
theorem dX6_burning_12 : decode cX6_burning 12 = .ok (.imul, 1) := by decide +kernel
theorem dX6_burning_13 : decode cX6_burning 13 = .ok (.iaload, 1) := by decide +kernel
theorem dX6_burning_14 : decode cX6_burning 14 = .ok (.imul, 1) := by decide +kernel
theorem dX6_burning_15 : decode cX6_burning 15 = .ok (.bipush 100, 2) := by decide +kernel
theorem dX6_burning_17 : decode cX6_burning 17 = .ok (.idiv, 1) := by decide +kernel
theorem dX6_burning_18 : decode cX6_burning 18 = .ok (.ireturn, 1) := by decide +kernel
theorem dX6_notchOf_0 : decode cX6_notchOf 0 = .ok (.iconst 1, 1) := by decide +kernel
theorem dX6_notchOf_1 : decode cX6_notchOf 1 = .ok (.iload_n 0, 1) := by decide +kernel
theorem dX6_notchOf_2 : decode cX6_notchOf 2 = .ok (.iconst 4, 1) := by decide +kernel
theorem dX6_notchOf_3 : decode cX6_notchOf 3 = .ok (.idiv, 1) := by decide +kernel
theorem dX6_notchOf_4 : decode cX6_notchOf 4 = .ok (.iadd, 1) := by decide +kernel
theorem dX6_notchOf_5 : decode cX6_notchOf 5 = .ok (.ireturn, 1) := by decide +kernel
theorem dX6_regulatorOf_0 : decode cX6_regulatorOf 0 = .ok (.iconst 1, 1) := by decide +kernel
theorem dX6_regulatorOf_1 : decode cX6_regulatorOf 1 = .ok (.iload_n 0, 1) := by decide +kernel
theorem dX6_regulatorOf_2 : decode cX6_regulatorOf 2 = .ok (.iconst 4, 1) := by decide +kernel
theorem dX6_regulatorOf_3 : decode cX6_regulatorOf 3 = .ok (.irem, 1) := by decide +kernel
theorem dX6_regulatorOf_4 : decode cX6_regulatorOf 4 = .ok (.iadd, 1) := by decide +kernel
theorem dX6_regulatorOf_5 : decode cX6_regulatorOf 5 = .ok (.ireturn, 1) := by decide +kernel
theorem dX7_init_0 : decode cX7_init 0 = .ok (.aload_n 0, 1) := by decide +kernel
theorem dX7_init_1 : decode cX7_init 1 = .ok (.invokespecial 3, 3) := by decide +kernel
theorem dX7_init_4 : decode cX7_init 4 = .ok (.aload_n 0, 1) := by decide +kernel
theorem dX7_init_5 : decode cX7_init 5 = .ok (.bipush 60, 2) := by decide +kernel
theorem dX7_init_7 : decode cX7_init 7 = .ok (.newarray .int, 2) := by decide +kernel
theorem dX7_init_9 : decode cX7_init 9 = .ok (.putfield 9, 3) := by decide +kernel
theorem dX7_init_12 : decode cX7_init 12 = .ok (.return_, 1) := by decide +kernel
theorem dX7_begin_0 : decode cX7_begin 0 = .ok (.aload_n 0, 1) := by decide +kernel
theorem dX7_begin_1 : decode cX7_begin 1 = .ok (.iconst 1, 1) := by decide +kernel
theorem dX7_begin_2 : decode cX7_begin 2 = .ok (.putfield 15, 3) := by decide +kernel
theorem dX7_begin_5 : decode cX7_begin 5 = .ok (.aload_n 0, 1) := by decide +kernel
theorem dX7_begin_6 : decode cX7_begin 6 = .ok (.iload_n 1, 1) := by decide +kernel
theorem dX7_begin_7 : decode cX7_begin 7 = .ok (.putfield 19, 3) := by decide +kernel
theorem dX7_begin_10 : decode cX7_begin 10 = .ok (.aload_n 0, 1) := by decide +kernel
theorem dX7_begin_11 : decode cX7_begin 11 = .ok (.iload_n 2, 1) := by decide +kernel
theorem dX7_begin_12 : decode cX7_begin 12 = .ok (.putfield 23, 3) := by decide +kernel
theorem dX7_begin_15 : decode cX7_begin 15 = .ok (.aload_n 0, 1) := by decide +kernel
theorem dX7_begin_16 : decode cX7_begin 16 = .ok (.getfield 9, 3) := by decide +kernel
theorem dX7_begin_19 : decode cX7_begin 19 = .ok (.iconst 0, 1) := by decide +kernel
theorem dX7_begin_20 : decode cX7_begin 20 = .ok (.invokestatic 26, 3) := by decide +kernel
theorem dX7_begin_23 : decode cX7_begin 23 = .ok (.return_, 1) := by decide +kernel
theorem dX7_has_0 : decode cX7_has 0 = .ok (.iload_n 1, 1) := by decide +kernel
theorem dX7_has_1 : decode cX7_has 1 = .ok (.ifCond .lt 29, 3) := by decide +kernel
theorem dX7_has_4 : decode cX7_has 4 = .ok (.iload_n 2, 1) := by decide +kernel
theorem dX7_has_5 : decode cX7_has 5 = .ok (.ifCond .lt 25, 3) := by decide +kernel
theorem dX7_has_8 : decode cX7_has 8 = .ok (.iload_n 2, 1) := by decide +kernel
theorem dX7_has_9 : decode cX7_has 9 = .ok (.aload_n 0, 1) := by decide +kernel
theorem dX7_has_10 : decode cX7_has 10 = .ok (.getfield 23, 3) := by decide +kernel
theorem dX7_has_13 : decode cX7_has 13 = .ok (.if_icmp .gt 17, 3) := by decide +kernel
theorem dX7_has_16 : decode cX7_has 16 = .ok (.iload_n 1, 1) := by decide +kernel
theorem dX7_has_17 : decode cX7_has 17 = .ok (.aload_n 0, 1) := by decide +kernel
theorem dX7_has_18 : decode cX7_has 18 = .ok (.getfield 23, 3) := by decide +kernel
theorem dX7_has_21 : decode cX7_has 21 = .ok (.iload_n 2, 1) := by decide +kernel
theorem dX7_has_22 : decode cX7_has 22 = .ok (.isub, 1) := by decide +kernel
theorem dX7_has_23 : decode cX7_has 23 = .ok (.if_icmp .gt 7, 3) := by decide +kernel
theorem dX7_has_26 : decode cX7_has 26 = .ok (.iconst 1, 1) := by decide +kernel
theorem dX7_has_27 : decode cX7_has 27 = .ok (.goto 4, 3) := by decide +kernel
theorem dX7_has_30 : decode cX7_has 30 = .ok (.iconst 0, 1) := by decide +kernel
theorem dX7_has_31 : decode cX7_has 31 = .ok (.ireturn, 1) := by decide +kernel
theorem dX7_read_0 : decode cX7_read 0 = .ok (.iload_n 1, 1) := by decide +kernel
theorem dX7_read_1 : decode cX7_read 1 = .ok (.iconst 0, 1) := by decide +kernel
theorem dX7_read_2 : decode cX7_read 2 = .ok (.bipush 59, 2) := by decide +kernel
theorem dX7_read_4 : decode cX7_read 4 = .ok (.invokestatic 32, 3) := by decide +kernel
theorem dX7_read_7 : decode cX7_read 7 = .ok (.ifCond .eq 12, 3) := by decide +kernel
theorem dX7_read_10 : decode cX7_read 10 = .ok (.aload_n 0, 1) := by decide +kernel
theorem dX7_read_11 : decode cX7_read 11 = .ok (.getfield 9, 3) := by decide +kernel
theorem dX7_read_14 : decode cX7_read 14 = .ok (.iload_n 1, 1) := by decide +kernel
theorem dX7_read_15 : decode cX7_read 15 = .ok (.iaload, 1) := by decide +kernel
theorem dX7_read_16 : decode cX7_read 16 = .ok (.goto 4, 3) := by decide +kernel
theorem dX7_read_19 : decode cX7_read 19 = .ok (.iconst 0, 1) := by decide +kernel
theorem dX7_read_20 : decode cX7_read 20 = .ok (.ireturn, 1) := by decide +kernel
theorem dX7_write_0 : decode cX7_write 0 = .ok (.iload_n 1, 1) := by decide +kernel
theorem dX7_write_1 : decode cX7_write 1 = .ok (.iconst 0, 1) := by decide +kernel
theorem dX7_write_2 : decode cX7_write 2 = .ok (.bipush 59, 2) := by decide +kernel
theorem dX7_write_4 : decode cX7_write 4 = .ok (.invokestatic 32, 3) := by decide +kernel
theorem dX7_write_7 : decode cX7_write 7 = .ok (.ifCond .ne 5, 3) := by decide +kernel
theorem dX7_write_10 : decode cX7_write 10 = .ok (.iconst 0, 1) := by decide +kernel
theorem dX7_write_11 : decode cX7_write 11 = .ok (.ireturn, 1) := by decide +kernel
theorem dX7_write_12 : decode cX7_write 12 = .ok (.aload_n 0, 1) := by decide +kernel
theorem dX7_write_13 : decode cX7_write 13 = .ok (.getfield 19, 3) := by decide +kernel
theorem dX7_write_16 : decode cX7_write 16 = .ok (.ifCond .ne 14, 3) := by decide +kernel
theorem dX7_write_19 : decode cX7_write 19 = .ok (.aload_n 0, 1) := by decide +kernel
theorem dX7_write_20 : decode cX7_write 20 = .ok (.getfield 9, 3) := by decide +kernel
theorem dX7_write_23 : decode cX7_write 23 = .ok (.iload_n 1, 1) := by decide +kernel
theorem dX7_write_24 : decode cX7_write 24 = .ok (.iload_n 2, 1) := by decide +kernel
theorem dX7_write_25 : decode cX7_write 25 = .ok (.i2b, 1) := by decide +kernel
theorem dX7_write_26 : decode cX7_write 26 = .ok (.iastore, 1) := by decide +kernel
theorem dX7_write_27 : decode cX7_write 27 = .ok (.goto 29, 3) := by decide +kernel
theorem dX7_write_30 : decode cX7_write 30 = .ok (.aload_n 0, 1) := by decide +kernel
theorem dX7_write_31 : decode cX7_write 31 = .ok (.getfield 19, 3) := by decide +kernel
theorem dX7_write_34 : decode cX7_write 34 = .ok (.iconst 1, 1) := by decide +kernel
theorem dX7_write_35 : decode cX7_write 35 = .ok (.if_icmp .ne 14, 3) := by decide +kernel
theorem dX7_write_38 : decode cX7_write 38 = .ok (.aload_n 0, 1) := by decide +kernel
theorem dX7_write_39 : decode cX7_write 39 = .ok (.getfield 9, 3) := by decide +kernel
theorem dX7_write_42 : decode cX7_write 42 = .ok (.iload_n 1, 1) := by decide +kernel
theorem dX7_write_43 : decode cX7_write 43 = .ok (.iload_n 2, 1) := by decide +kernel
theorem dX7_write_44 : decode cX7_write 44 = .ok (.i2s, 1) := by decide +kernel
theorem dX7_write_45 : decode cX7_write 45 = .ok (.iastore, 1) := by decide +kernel
theorem dX7_write_46 : decode cX7_write 46 = .ok (.goto 10, 3) := by decide +kernel
theorem dX7_write_49 : decode cX7_write 49 = .ok (.aload_n 0, 1) := by decide +kernel
theorem dX7_write_50 : decode cX7_write 50 = .ok (.getfield 9, 3) := by decide +kernel
theorem dX7_write_53 : decode cX7_write 53 = .ok (.iload_n 1, 1) := by decide +kernel
theorem dX7_write_54 : decode cX7_write 54 = .ok (.iload_n 2, 1) := by decide +kernel
theorem dX7_write_55 : decode cX7_write 55 = .ok (.iastore, 1) := by decide +kernel
theorem dX7_write_56 : decode cX7_write 56 = .ok (.aload_n 0, 1) := by decide +kernel
theorem dX7_write_57 : decode cX7_write 57 = .ok (.getfield 9, 3) := by decide +kernel
theorem dX7_write_60 : decode cX7_write 60 = .ok (.iload_n 1, 1) := by decide +kernel
theorem dX7_write_61 : decode cX7_write 61 = .ok (.iaload, 1) := by decide +kernel
theorem dX7_write_62 : decode cX7_write 62 = .ok (.ireturn, 1) := by decide +kernel
theorem dX7_holdsWithin_0 : decode cX7_holdsWithin 0 = .ok (.iconst 0, 1) := by decide +kernel
theorem dX7_holdsWithin_1 : decode cX7_holdsWithin 1 = .ok (.istore 5, 2) := by decide +kernel
theorem dX7_holdsWithin_3 : decode cX7_holdsWithin 3 = .ok (.iload 5, 2) := by decide +kernel
theorem dX7_holdsWithin_5 : decode cX7_holdsWithin 5 = .ok (.iload_n 2, 1) := by decide +kernel
theorem dX7_holdsWithin_6 : decode cX7_holdsWithin 6 = .ok (.if_icmp .ge 28, 3) := by decide +kernel
theorem dX7_holdsWithin_9 : decode cX7_holdsWithin 9 = .ok (.aload_n 0, 1) := by decide +kernel
theorem dX7_holdsWithin_10 : decode cX7_holdsWithin 10 = .ok (.iload_n 1, 1) := by decide +kernel
theorem dX7_holdsWithin_11 : decode cX7_holdsWithin 11 = .ok (.iload 5, 2) := by decide +kernel
theorem dX7_holdsWithin_13 : decode cX7_holdsWithin 13 = .ok (.iadd, 1) := by decide +kernel
theorem dX7_holdsWithin_14 : decode cX7_holdsWithin 14 = .ok (.invokevirtual 36, 3) := by decide +kernel
theorem dX7_holdsWithin_17 : decode cX7_holdsWithin 17 = .ok (.iload_n 3, 1) := by decide +kernel
theorem dX7_holdsWithin_18 : decode cX7_holdsWithin 18 = .ok (.iload 4, 2) := by decide +kernel
theorem dX7_holdsWithin_20 : decode cX7_holdsWithin 20 = .ok (.invokestatic 32, 3) := by decide +kernel
theorem dX7_holdsWithin_23 : decode cX7_holdsWithin 23 = .ok (.ifCond .ne 5, 3) := by decide +kernel
theorem dX7_holdsWithin_26 : decode cX7_holdsWithin 26 = .ok (.iconst 0, 1) := by decide +kernel
theorem dX7_holdsWithin_27 : decode cX7_holdsWithin 27 = .ok (.ireturn, 1) := by decide +kernel
theorem dX7_holdsWithin_28 : decode cX7_holdsWithin 28 = .ok (.iinc 5 1, 3) := by decide +kernel
theorem dX7_holdsWithin_31 : decode cX7_holdsWithin 31 = .ok (.goto (-28), 3) := by decide +kernel
theorem dX7_holdsWithin_34 : decode cX7_holdsWithin 34 = .ok (.iconst 1, 1) := by decide +kernel
theorem dX7_holdsWithin_35 : decode cX7_holdsWithin 35 = .ok (.ireturn, 1) := by decide +kernel
theorem dJ9_floorMod_7cf53_0 : decode cJ9_floorMod_7cf53 0 = .ok (.iload_n 0, 1) := by decide +kernel
theorem dJ9_floorMod_7cf53_1 : decode cJ9_floorMod_7cf53 1 = .ok (.iload_n 1, 1) := by decide +kernel
theorem dJ9_floorMod_7cf53_2 : decode cJ9_floorMod_7cf53 2 = .ok (.irem, 1) := by decide +kernel
theorem dJ9_floorMod_7cf53_3 : decode cJ9_floorMod_7cf53 3 = .ok (.istore_n 2, 1) := by decide +kernel
theorem dJ9_floorMod_7cf53_4 : decode cJ9_floorMod_7cf53 4 = .ok (.iload_n 0, 1) := by decide +kernel
theorem dJ9_floorMod_7cf53_5 : decode cJ9_floorMod_7cf53 5 = .ok (.iload_n 1, 1) := by decide +kernel
theorem dJ9_floorMod_7cf53_6 : decode cJ9_floorMod_7cf53 6 = .ok (.ixor, 1) := by decide +kernel
theorem dJ9_floorMod_7cf53_7 : decode cJ9_floorMod_7cf53 7 = .ok (.ifCond .ge 11, 3) := by decide +kernel
theorem dJ9_floorMod_7cf53_10 : decode cJ9_floorMod_7cf53 10 = .ok (.iload_n 2, 1) := by decide +kernel
theorem dJ9_floorMod_7cf53_11 : decode cJ9_floorMod_7cf53 11 = .ok (.ifCond .eq 7, 3) := by decide +kernel
theorem dJ9_floorMod_7cf53_14 : decode cJ9_floorMod_7cf53 14 = .ok (.iload_n 2, 1) := by decide +kernel
theorem dJ9_floorMod_7cf53_15 : decode cJ9_floorMod_7cf53 15 = .ok (.iload_n 1, 1) := by decide +kernel
theorem dJ9_floorMod_7cf53_16 : decode cJ9_floorMod_7cf53 16 = .ok (.iadd, 1) := by decide +kernel
theorem dJ9_floorMod_7cf53_17 : decode cJ9_floorMod_7cf53 17 = .ok (.ireturn, 1) := by decide +kernel
theorem dJ9_floorMod_7cf53_18 : decode cJ9_floorMod_7cf53 18 = .ok (.iload_n 2, 1) := by decide +kernel
theorem dJ9_floorMod_7cf53_19 : decode cJ9_floorMod_7cf53 19 = .ok (.ireturn, 1) := by decide +kernel
theorem dJ9_abs_0f7a4_0 : decode cJ9_abs_0f7a4 0 = .ok (.iload_n 0, 1) := by decide +kernel
theorem dJ9_abs_0f7a4_1 : decode cJ9_abs_0f7a4 1 = .ok (.ifCond .ge 8, 3) := by decide +kernel
theorem dJ9_abs_0f7a4_4 : decode cJ9_abs_0f7a4 4 = .ok (.iload_n 0, 1) := by decide +kernel
theorem dJ9_abs_0f7a4_5 : decode cJ9_abs_0f7a4 5 = .ok (.ineg, 1) := by decide +kernel
theorem dJ9_abs_0f7a4_6 : decode cJ9_abs_0f7a4 6 = .ok (.goto 4, 3) := by decide +kernel
theorem dJ9_abs_0f7a4_9 : decode cJ9_abs_0f7a4 9 = .ok (.iload_n 0, 1) := by decide +kernel
theorem dJ9_abs_0f7a4_10 : decode cJ9_abs_0f7a4 10 = .ok (.ireturn, 1) := by decide +kernel
theorem dJ9_max_7cf53_0 : decode cJ9_max_7cf53 0 = .ok (.iload_n 0, 1) := by decide +kernel
theorem dJ9_max_7cf53_1 : decode cJ9_max_7cf53 1 = .ok (.iload_n 1, 1) := by decide +kernel
theorem dJ9_max_7cf53_2 : decode cJ9_max_7cf53 2 = .ok (.if_icmp .lt 7, 3) := by decide +kernel
theorem dJ9_max_7cf53_5 : decode cJ9_max_7cf53 5 = .ok (.iload_n 0, 1) := by decide +kernel
theorem dJ9_max_7cf53_6 : decode cJ9_max_7cf53 6 = .ok (.goto 4, 3) := by decide +kernel
theorem dJ9_max_7cf53_9 : decode cJ9_max_7cf53 9 = .ok (.iload_n 1, 1) := by decide +kernel
theorem dJ9_max_7cf53_10 : decode cJ9_max_7cf53 10 = .ok (.ireturn, 1) := by decide +kernel
theorem dJ9_min_7cf53_0 : decode cJ9_min_7cf53 0 = .ok (.iload_n 0, 1) := by decide +kernel
theorem dJ9_min_7cf53_1 : decode cJ9_min_7cf53 1 = .ok (.iload_n 1, 1) := by decide +kernel
theorem dJ9_min_7cf53_2 : decode cJ9_min_7cf53 2 = .ok (.if_icmp .gt 7, 3) := by decide +kernel
theorem dJ9_min_7cf53_5 : decode cJ9_min_7cf53 5 = .ok (.iload_n 0, 1) := by decide +kernel
theorem dJ9_min_7cf53_6 : decode cJ9_min_7cf53 6 = .ok (.goto 4, 3) := by decide +kernel
theorem dJ9_min_7cf53_9 : decode cJ9_min_7cf53 9 = .ok (.iload_n 1, 1) := by decide +kernel
theorem dJ9_min_7cf53_10 : decode cJ9_min_7cf53 10 = .ok (.ireturn, 1) := by decide +kernel
theorem dJ7_fill_53178_0 : decode cJ7_fill_53178 0 = .ok (.iconst 0, 1) := by decide +kernel
theorem dJ7_fill_53178_1 : decode cJ7_fill_53178 1 = .ok (.istore_n 2, 1) := by decide +kernel
theorem dJ7_fill_53178_2 : decode cJ7_fill_53178 2 = .ok (.aload_n 0, 1) := by decide +kernel
theorem dJ7_fill_53178_3 : decode cJ7_fill_53178 3 = .ok (.arraylength, 1) := by decide +kernel
theorem dJ7_fill_53178_4 : decode cJ7_fill_53178 4 = .ok (.istore_n 3, 1) := by decide +kernel
theorem dJ7_fill_53178_5 : decode cJ7_fill_53178 5 = .ok (.iload_n 2, 1) := by decide +kernel
theorem dJ7_fill_53178_6 : decode cJ7_fill_53178 6 = .ok (.iload_n 3, 1) := by decide +kernel
theorem dJ7_fill_53178_7 : decode cJ7_fill_53178 7 = .ok (.if_icmp .ge 13, 3) := by decide +kernel
theorem dJ7_fill_53178_10 : decode cJ7_fill_53178 10 = .ok (.aload_n 0, 1) := by decide +kernel
theorem dJ7_fill_53178_11 : decode cJ7_fill_53178 11 = .ok (.iload_n 2, 1) := by decide +kernel
theorem dJ7_fill_53178_12 : decode cJ7_fill_53178 12 = .ok (.iload_n 1, 1) := by decide +kernel
theorem dJ7_fill_53178_13 : decode cJ7_fill_53178 13 = .ok (.iastore, 1) := by decide +kernel
theorem dJ7_fill_53178_14 : decode cJ7_fill_53178 14 = .ok (.iinc 2 1, 3) := by decide +kernel
theorem dJ7_fill_53178_17 : decode cJ7_fill_53178 17 = .ok (.goto (-12), 3) := by decide +kernel
theorem dJ7_fill_53178_20 : decode cJ7_fill_53178 20 = .ok (.return_, 1) := by decide +kernel
