theorem dX8_init_0 : decode cX8_init 0 = .ok (.aload_n 0, 1) := by decide +kernel
theorem dX8_init_1 : decode cX8_init 1 = .ok (.invokespecial 1, 3) := by decide +kernel
theorem dX8_init_4 : decode cX8_init 4 = .ok (.aload_n 0, 1) := by decide +kernel
theorem dX8_init_5 : decode cX8_init 5 = .ok (.bipush 8, 2) := by decide +kernel
theorem dX8_init_7 : decode cX8_init 7 = .ok (.anewarray 9, 3) := by decide +kernel
theorem dX8_init_10 : decode cX8_init 10 = .ok (.putfield 11, 3) := by decide +kernel
theorem dX8_init_13 : decode cX8_init 13 = .ok (.aload_n 0, 1) := by decide +kernel
theorem dX8_init_14 : decode cX8_init 14 = .ok (.bipush 6, 2) := by decide +kernel
theorem dX8_init_16 : decode cX8_init 16 = .ok (.anewarray 15, 3) := by decide +kernel
theorem dX8_init_19 : decode cX8_init 19 = .ok (.putfield 17, 3) := by decide +kernel
theorem dX8_init_22 : decode cX8_init 22 = .ok (.aload_n 0, 1) := by decide +kernel
theorem dX8_init_23 : decode cX8_init 23 = .ok (.bipush 6, 2) := by decide +kernel
theorem dX8_init_25 : decode cX8_init 25 = .ok (.anewarray 21, 3) := by decide +kernel
theorem dX8_init_28 : decode cX8_init 28 = .ok (.putfield 23, 3) := by decide +kernel
theorem dX8_init_31 : decode cX8_init 31 = .ok (.aload_n 0, 1) := by decide +kernel
theorem dX8_init_32 : decode cX8_init 32 = .ok (.new 15, 3) := by decide +kernel
theorem dX8_init_35 : decode cX8_init 35 = .ok (.dup, 1) := by decide +kernel
theorem dX8_init_36 : decode cX8_init 36 = .ok (.invokespecial 27, 3) := by decide +kernel
theorem dX8_init_39 : decode cX8_init 39 = .ok (.putfield 28, 3) := by decide +kernel
theorem dX8_init_42 : decode cX8_init 42 = .ok (.aload_n 0, 1) := by decide +kernel
theorem dX8_init_43 : decode cX8_init 43 = .ok (.new 21, 3) := by decide +kernel
theorem dX8_init_46 : decode cX8_init 46 = .ok (.dup, 1) := by decide +kernel
theorem dX8_init_47 : decode cX8_init 47 = .ok (.invokespecial 32, 3) := by decide +kernel
theorem dX8_init_50 : decode cX8_init 50 = .ok (.putfield 33, 3) := by decide +kernel
theorem dX8_init_53 : decode cX8_init 53 = .ok (.aload_n 0, 1) := by decide +kernel
theorem dX8_init_54 : decode cX8_init 54 = .ok (.new 37, 3) := by decide +kernel
theorem dX8_init_57 : decode cX8_init 57 = .ok (.dup, 1) := by decide +kernel
theorem dX8_init_58 : decode cX8_init 58 = .ok (.invokespecial 39, 3) := by decide +kernel
theorem dX8_init_61 : decode cX8_init 61 = .ok (.putfield 40, 3) := by decide +kernel
theorem dX8_init_64 : decode cX8_init 64 = .ok (.aload_n 0, 1) := by decide +kernel
theorem dX8_init_65 : decode cX8_init 65 = .ok (.new 44, 3) := by decide +kernel
theorem dX8_init_68 : decode cX8_init 68 = .ok (.dup, 1) := by decide +kernel
theorem dX8_init_69 : decode cX8_init 69 = .ok (.invokespecial 46, 3) := by decide +kernel
theorem dX8_init_72 : decode cX8_init 72 = .ok (.putfield 47, 3) := by decide +kernel
theorem dX8_init_75 : decode cX8_init 75 = .ok (.aload_n 0, 1) := by decide +kernel
theorem dX8_init_76 : decode cX8_init 76 = .ok (.new 51, 3) := by decide +kernel
theorem dX8_init_79 : decode cX8_init 79 = .ok (.dup, 1) := by decide +kernel
theorem dX8_init_80 : decode cX8_init 80 = .ok (.invokespecial 53, 3) := by decide +kernel
theorem dX8_init_83 : decode cX8_init 83 = .ok (.putfield 54, 3) := by decide +kernel
theorem dX8_init_86 : decode cX8_init 86 = .ok (.aload_n 0, 1) := by decide +kernel
theorem dX8_init_87 : decode cX8_init 87 = .ok (.new 58, 3) := by decide +kernel
theorem dX8_init_90 : decode cX8_init 90 = .ok (.dup, 1) := by decide +kernel
theorem dX8_init_91 : decode cX8_init 91 = .ok (.invokespecial 60, 3) := by decide +kernel
theorem dX8_init_94 : decode cX8_init 94 = .ok (.putfield 61, 3) := by decide +kernel
theorem dX8_init_97 : decode cX8_init 97 = .ok (.aload_n 0, 1) := by decide +kernel
theorem dX8_init_98 : decode cX8_init 98 = .ok (.new 65, 3) := by decide +kernel
theorem dX8_init_101 : decode cX8_init 101 = .ok (.dup, 1) := by decide +kernel
theorem dX8_init_102 : decode cX8_init 102 = .ok (.invokespecial 67, 3) := by decide +kernel
theorem dX8_init_105 : decode cX8_init 105 = .ok (.putfield 68, 3) := by decide +kernel
theorem dX8_init_108 : decode cX8_init 108 = .ok (.aload_n 0, 1) := by decide +kernel
theorem dX8_init_109 : decode cX8_init 109 = .ok (.bipush 16, 2) := by decide +kernel
theorem dX8_init_111 : decode cX8_init 111 = .ok (.newarray .int, 2) := by decide +kernel
theorem dX8_init_113 : decode cX8_init 113 = .ok (.putfield 72, 3) := by decide +kernel
theorem dX8_init_116 : decode cX8_init 116 = .ok (.iconst 0, 1) := by decide +kernel
theorem dX8_init_117 : decode cX8_init 117 = .ok (.istore_n 1, 1) := by decide +kernel
theorem dX8_init_118 : decode cX8_init 118 = .ok (.iload_n 1, 1) := by decide +kernel
theorem dX8_init_119 : decode cX8_init 119 = .ok (.aload_n 0, 1) := by decide +kernel
theorem dX8_init_120 : decode cX8_init 120 = .ok (.getfield 11, 3) := by decide +kernel
theorem dX8_init_123 : decode cX8_init 123 = .ok (.arraylength, 1) := by decide +kernel
theorem dX8_init_124 : decode cX8_init 124 = .ok (.if_icmp .ge 22, 3) := by decide +kernel
theorem dX8_init_127 : decode cX8_init 127 = .ok (.aload_n 0, 1) := by decide +kernel
theorem dX8_init_128 : decode cX8_init 128 = .ok (.getfield 11, 3) := by decide +kernel
theorem dX8_init_131 : decode cX8_init 131 = .ok (.iload_n 1, 1) := by decide +kernel
theorem dX8_init_132 : decode cX8_init 132 = .ok (.new 9, 3) := by decide +kernel
theorem dX8_init_135 : decode cX8_init 135 = .ok (.dup, 1) := by decide +kernel
theorem dX8_init_136 : decode cX8_init 136 = .ok (.invokespecial 76, 3) := by decide +kernel
theorem dX8_init_139 : decode cX8_init 139 = .ok (.aastore, 1) := by decide +kernel
theorem dX8_init_140 : decode cX8_init 140 = .ok (.iinc 1 1, 3) := by decide +kernel
theorem dX8_init_143 : decode cX8_init 143 = .ok (.goto (-25), 3) := by decide +kernel
theorem dX8_init_146 : decode cX8_init 146 = .ok (.iconst 0, 1) := by decide +kernel
theorem dX8_init_147 : decode cX8_init 147 = .ok (.istore_n 1, 1) := by decide +kernel
theorem dX8_init_148 : decode cX8_init 148 = .ok (.iload_n 1, 1) := by decide +kernel
theorem dX8_init_149 : decode cX8_init 149 = .ok (.aload_n 0, 1) := by decide +kernel
theorem dX8_init_150 : decode cX8_init 150 = .ok (.getfield 17, 3) := by decide +kernel
theorem dX8_init_153 : decode cX8_init 153 = .ok (.arraylength, 1) := by decide +kernel
theorem dX8_init_154 : decode cX8_init 154 = .ok (.if_icmp .ge 22, 3) := by decide +kernel
theorem dX8_init_157 : decode cX8_init 157 = .ok (.aload_n 0, 1) := by decide +kernel
theorem dX8_init_158 : decode cX8_init 158 = .ok (.getfield 17, 3) := by decide +kernel
theorem dX8_init_161 : decode cX8_init 161 = .ok (.iload_n 1, 1) := by decide +kernel
theorem dX8_init_162 : decode cX8_init 162 = .ok (.new 15, 3) := by decide +kernel
theorem dX8_init_165 : decode cX8_init 165 = .ok (.dup, 1) := by decide +kernel
theorem dX8_init_166 : decode cX8_init 166 = .ok (.invokespecial 27, 3) := by decide +kernel
theorem dX8_init_169 : decode cX8_init 169 = .ok (.aastore, 1) := by decide +kernel
theorem dX8_init_170 : decode cX8_init 170 = .ok (.iinc 1 1, 3) := by decide +kernel
theorem dX8_init_173 : decode cX8_init 173 = .ok (.goto (-25), 3) := by decide +kernel
theorem dX8_init_176 : decode cX8_init 176 = .ok (.iconst 0, 1) := by decide +kernel
theorem dX8_init_177 : decode cX8_init 177 = .ok (.istore_n 1, 1) := by decide +kernel
theorem dX8_init_178 : decode cX8_init 178 = .ok (.iload_n 1, 1) := by decide +kernel
theorem dX8_init_179 : decode cX8_init 179 = .ok (.aload_n 0, 1) := by decide +kernel
theorem dX8_init_180 : decode cX8_init 180 = .ok (.getfield 23, 3) := by decide +kernel
theorem dX8_init_183 : decode cX8_init 183 = .ok (.arraylength, 1) := by decide +kernel
theorem dX8_init_184 : decode cX8_init 184 = .ok (.if_icmp .ge 22, 3) := by decide +kernel
theorem dX8_init_187 : decode cX8_init 187 = .ok (.aload_n 0, 1) := by decide +kernel
theorem dX8_init_188 : decode cX8_init 188 = .ok (.getfield 23, 3) := by decide +kernel
theorem dX8_init_191 : decode cX8_init 191 = .ok (.iload_n 1, 1) := by decide +kernel
theorem dX8_init_192 : decode cX8_init 192 = .ok (.new 21, 3) := by decide +kernel
theorem dX8_init_195 : decode cX8_init 195 = .ok (.dup, 1) := by decide +kernel
theorem dX8_init_196 : decode cX8_init 196 = .ok (.invokespecial 32, 3) := by decide +kernel
theorem dX8_init_199 : decode cX8_init 199 = .ok (.aastore, 1) := by decide +kernel
theorem dX8_init_200 : decode cX8_init 200 = .ok (.iinc 1 1, 3) := by decide +kernel
theorem dX8_init_203 : decode cX8_init 203 = .ok (.goto (-25), 3) := by decide +kernel
theorem dX8_init_206 : decode cX8_init 206 = .ok (.return_, 1) := by decide +kernel
theorem dX8_sheet_0 : decode cX8_sheet 0 = .ok (.iload_n 1, 1) := by decide +kernel
theorem dX8_sheet_1 : decode cX8_sheet 1 = .ok (.iconst 0, 1) := by decide +kernel
theorem dX8_sheet_2 : decode cX8_sheet 2 = .ok (.bipush 7, 2) := by decide +kernel
theorem dX8_sheet_4 : decode cX8_sheet 4 = .ok (.invokestatic 77, 3) := by decide +kernel
theorem dX8_sheet_7 : decode cX8_sheet 7 = .ok (.ifCond .eq 18, 3) := by decide +kernel
theorem dX8_sheet_10 : decode cX8_sheet 10 = .ok (.iload_n 2, 1) := by decide +kernel
theorem dX8_sheet_11 : decode cX8_sheet 11 = .ok (.iconst 0, 1) := by decide +kernel
theorem dX8_sheet_12 : decode cX8_sheet 12 = .ok (.iconst 2, 1) := by decide +kernel
theorem dX8_sheet_13 : decode cX8_sheet 13 = .ok (.invokestatic 77, 3) := by decide +kernel
theorem dX8_sheet_16 : decode cX8_sheet 16 = .ok (.ifCond .eq 9, 3) := by decide +kernel
theorem dX8_sheet_19 : decode cX8_sheet 19 = .ok (.iload_n 3, 1) := by decide +kernel
theorem dX8_sheet_20 : decode cX8_sheet 20 = .ok (.bipush 60, 2) := by decide +kernel
theorem dX8_sheet_22 : decode cX8_sheet 22 = .ok (.if_icmp .le 6, 3) := by decide +kernel
theorem dX8_sheet_25 : decode cX8_sheet 25 = .ok (.ldc 81, 2) := by decide +kernel
theorem dX8_sheet_27 : decode cX8_sheet 27 = .ok (.ireturn, 1) := by decide +kernel
theorem dX8_sheet_28 : decode cX8_sheet 28 = .ok (.iload_n 3, 1) := by decide +kernel
theorem dX8_sheet_29 : decode cX8_sheet 29 = .ok (.ifCond .ge 9, 3) := by decide +kernel
theorem dX8_sheet_32 : decode cX8_sheet 32 = .ok (.aload_n 0, 1) := by decide +kernel
theorem dX8_sheet_33 : decode cX8_sheet 33 = .ok (.iconst 4, 1) := by decide +kernel
theorem dX8_sheet_34 : decode cX8_sheet 34 = .ok (.invokevirtual 82, 3) := by decide +kernel
theorem dX8_sheet_37 : decode cX8_sheet 37 = .ok (.ireturn, 1) := by decide +kernel
theorem dX8_sheet_38 : decode cX8_sheet 38 = .ok (.aload_n 0, 1) := by decide +kernel
theorem dX8_sheet_39 : decode cX8_sheet 39 = .ok (.getfield 11, 3) := by decide +kernel
theorem dX8_sheet_42 : decode cX8_sheet 42 = .ok (.iload_n 1, 1) := by decide +kernel
theorem dX8_sheet_43 : decode cX8_sheet 43 = .ok (.aaload, 1) := by decide +kernel
theorem dX8_sheet_44 : decode cX8_sheet 44 = .ok (.iload_n 2, 1) := by decide +kernel
theorem dX8_sheet_45 : decode cX8_sheet 45 = .ok (.iload_n 3, 1) := by decide +kernel
theorem dX8_sheet_46 : decode cX8_sheet 46 = .ok (.invokevirtual 86, 3) := by decide +kernel
theorem dX8_sheet_49 : decode cX8_sheet 49 = .ok (.aload_n 0, 1) := by decide +kernel
theorem dX8_sheet_50 : decode cX8_sheet 50 = .ok (.iload_n 3, 1) := by decide +kernel
theorem dX8_sheet_51 : decode cX8_sheet 51 = .ok (.invokevirtual 90, 3) := by decide +kernel
theorem dX8_sheet_54 : decode cX8_sheet 54 = .ok (.ireturn, 1) := by decide +kernel
theorem dX8_set_0 : decode cX8_set 0 = .ok (.iload_n 1, 1) := by decide +kernel
theorem dX8_set_1 : decode cX8_set 1 = .ok (.iconst 0, 1) := by decide +kernel
theorem dX8_set_2 : decode cX8_set 2 = .ok (.bipush 7, 2) := by decide +kernel
theorem dX8_set_4 : decode cX8_set 4 = .ok (.invokestatic 77, 3) := by decide +kernel
theorem dX8_set_7 : decode cX8_set 7 = .ok (.ifCond .ne 6, 3) := by decide +kernel
theorem dX8_set_10 : decode cX8_set 10 = .ok (.ldc 81, 2) := by decide +kernel
theorem dX8_set_12 : decode cX8_set 12 = .ok (.ireturn, 1) := by decide +kernel
theorem dX8_set_13 : decode cX8_set 13 = .ok (.aload_n 0, 1) := by decide +kernel
theorem dX8_set_14 : decode cX8_set 14 = .ok (.iload_n 1, 1) := by decide +kernel
theorem dX8_set_15 : decode cX8_set 15 = .ok (.invokevirtual 93, 3) := by decide +kernel
theorem dX8_set_18 : decode cX8_set 18 = .ok (.astore 4, 2) := by decide +kernel
theorem dX8_set_20 : decode cX8_set 20 = .ok (.aload 4, 2) := by decide +kernel
theorem dX8_set_22 : decode cX8_set 22 = .ok (.ifnonnull 9, 3) := by decide +kernel
theorem dX8_set_25 : decode cX8_set 25 = .ok (.aload_n 0, 1) := by decide +kernel
theorem dX8_set_26 : decode cX8_set 26 = .ok (.iconst 1, 1) := by decide +kernel
theorem dX8_set_27 : decode cX8_set 27 = .ok (.invokevirtual 82, 3) := by decide +kernel
theorem dX8_set_30 : decode cX8_set 30 = .ok (.ireturn, 1) := by decide +kernel
theorem dX8_set_31 : decode cX8_set 31 = .ok (.aload 4, 2) := by decide +kernel
theorem dX8_set_33 : decode cX8_set 33 = .ok (.iload_n 2, 1) := by decide +kernel
theorem dX8_set_34 : decode cX8_set 34 = .ok (.iconst 1, 1) := by decide +kernel
theorem dX8_set_35 : decode cX8_set 35 = .ok (.invokevirtual 97, 3) := by decide +kernel
theorem dX8_set_38 : decode cX8_set 38 = .ok (.ifCond .ne 9, 3) := by decide +kernel
theorem dX8_set_41 : decode cX8_set 41 = .ok (.aload_n 0, 1) := by decide +kernel
theorem dX8_set_42 : decode cX8_set 42 = .ok (.iconst 2, 1) := by decide +kernel
theorem dX8_set_43 : decode cX8_set 43 = .ok (.invokevirtual 82, 3) := by decide +kernel
theorem dX8_set_46 : decode cX8_set 46 = .ok (.ireturn, 1) := by decide +kernel
theorem dX8_set_47 : decode cX8_set 47 = .ok (.aload_n 0, 1) := by decide +kernel
theorem dX8_set_48 : decode cX8_set 48 = .ok (.aload 4, 2) := by decide +kernel
theorem dX8_set_50 : decode cX8_set 50 = .ok (.iload_n 2, 1) := by decide +kernel
theorem dX8_set_51 : decode cX8_set 51 = .ok (.iload_n 3, 1) := by decide +kernel
theorem dX8_set_52 : decode cX8_set 52 = .ok (.invokevirtual 101, 3) := by decide +kernel
theorem dX8_set_55 : decode cX8_set 55 = .ok (.invokevirtual 90, 3) := by decide +kernel
theorem dX8_set_58 : decode cX8_set 58 = .ok (.ireturn, 1) := by decide +kernel
theorem dX8_copy_0 : decode cX8_copy 0 = .ok (.iload_n 1, 1) := by decide +kernel
theorem dX8_copy_1 : decode cX8_copy 1 = .ok (.iconst 0, 1) := by decide +kernel
theorem dX8_copy_2 : decode cX8_copy 2 = .ok (.bipush 7, 2) := by decide +kernel
theorem dX8_copy_4 : decode cX8_copy 4 = .ok (.invokestatic 77, 3) := by decide +kernel
theorem dX8_copy_7 : decode cX8_copy 7 = .ok (.ifCond .eq 13, 3) := by decide +kernel
theorem dX8_copy_10 : decode cX8_copy 10 = .ok (.iload_n 3, 1) := by decide +kernel
theorem dX8_copy_11 : decode cX8_copy 11 = .ok (.iconst 0, 1) := by decide +kernel
theorem dX8_copy_12 : decode cX8_copy 12 = .ok (.bipush 7, 2) := by decide +kernel
theorem dX8_copy_14 : decode cX8_copy 14 = .ok (.invokestatic 77, 3) := by decide +kernel
theorem dX8_copy_17 : decode cX8_copy 17 = .ok (.ifCond .ne 6, 3) := by decide +kernel
theorem dX8_copy_20 : decode cX8_copy 20 = .ok (.ldc 81, 2) := by decide +kernel
theorem dX8_copy_22 : decode cX8_copy 22 = .ok (.ireturn, 1) := by decide +kernel
theorem dX8_copy_23 : decode cX8_copy 23 = .ok (.aload_n 0, 1) := by decide +kernel
theorem dX8_copy_24 : decode cX8_copy 24 = .ok (.iload_n 1, 1) := by decide +kernel
theorem dX8_copy_25 : decode cX8_copy 25 = .ok (.invokevirtual 93, 3) := by decide +kernel
theorem dX8_copy_28 : decode cX8_copy 28 = .ok (.astore 6, 2) := by decide +kernel
theorem dX8_copy_30 : decode cX8_copy 30 = .ok (.aload_n 0, 1) := by decide +kernel
theorem dX8_copy_31 : decode cX8_copy 31 = .ok (.iload_n 3, 1) := by decide +kernel
theorem dX8_copy_32 : decode cX8_copy 32 = .ok (.invokevirtual 93, 3) := by decide +kernel
theorem dX8_copy_35 : decode cX8_copy 35 = .ok (.astore 7, 2) := by decide +kernel
theorem dX8_copy_37 : decode cX8_copy 37 = .ok (.aload 6, 2) := by decide +kernel
theorem dX8_copy_39 : decode cX8_copy 39 = .ok (.ifnull 8, 3) := by decide +kernel
theorem dX8_copy_42 : decode cX8_copy 42 = .ok (.aload 7, 2) := by decide +kernel
theorem dX8_copy_44 : decode cX8_copy 44 = .ok (.ifnonnull 9, 3) := by decide +kernel
theorem dX8_copy_47 : decode cX8_copy 47 = .ok (.aload_n 0, 1) := by decide +kernel
theorem dX8_copy_48 : decode cX8_copy 48 = .ok (.iconst 1, 1) := by decide +kernel
theorem dX8_copy_49 : decode cX8_copy 49 = .ok (.invokevirtual 82, 3) := by decide +kernel
theorem dX8_copy_52 : decode cX8_copy 52 = .ok (.ireturn, 1) := by decide +kernel
theorem dX8_copy_53 : decode cX8_copy 53 = .ok (.aload 6, 2) := by decide +kernel
theorem dX8_copy_55 : decode cX8_copy 55 = .ok (.getfield 105, 3) := by decide +kernel
theorem dX8_copy_58 : decode cX8_copy 58 = .ok (.aload 7, 2) := by decide +kernel
theorem dX8_copy_60 : decode cX8_copy 60 = .ok (.getfield 105, 3) := by decide +kernel
theorem dX8_copy_63 : decode cX8_copy 63 = .ok (.if_icmp .eq 9, 3) := by decide +kernel
theorem dX8_copy_66 : decode cX8_copy 66 = .ok (.aload_n 0, 1) := by decide +kernel
theorem dX8_copy_67 : decode cX8_copy 67 = .ok (.iconst 5, 1) := by decide +kernel
theorem dX8_copy_68 : decode cX8_copy 68 = .ok (.invokevirtual 82, 3) := by decide +kernel
theorem dX8_copy_71 : decode cX8_copy 71 = .ok (.ireturn, 1) := by decide +kernel
theorem dX8_copy_72 : decode cX8_copy 72 = .ok (.aload 6, 2) := by decide +kernel
theorem dX8_copy_74 : decode cX8_copy 74 = .ok (.iload_n 2, 1) := by decide +kernel
theorem dX8_copy_75 : decode cX8_copy 75 = .ok (.iload 5, 2) := by decide +kernel
theorem dX8_copy_77 : decode cX8_copy 77 = .ok (.invokevirtual 97, 3) := by decide +kernel
theorem dX8_copy_80 : decode cX8_copy 80 = .ok (.ifCond .eq 15, 3) := by decide +kernel
theorem dX8_copy_83 : decode cX8_copy 83 = .ok (.aload 7, 2) := by decide +kernel
theorem dX8_copy_85 : decode cX8_copy 85 = .ok (.iload 4, 2) := by decide +kernel
theorem dX8_copy_87 : decode cX8_copy 87 = .ok (.iload 5, 2) := by decide +kernel
theorem dX8_copy_89 : decode cX8_copy 89 = .ok (.invokevirtual 97, 3) := by decide +kernel
theorem dX8_copy_92 : decode cX8_copy 92 = .ok (.ifCond .ne 9, 3) := by decide +kernel
theorem dX8_copy_95 : decode cX8_copy 95 = .ok (.aload_n 0, 1) := by decide +kernel
theorem dX8_copy_96 : decode cX8_copy 96 = .ok (.iconst 2, 1) := by decide +kernel
theorem dX8_copy_97 : decode cX8_copy 97 = .ok (.invokevirtual 82, 3) := by decide +kernel
theorem dX8_copy_100 : decode cX8_copy 100 = .ok (.ireturn, 1) := by decide +kernel
theorem dX8_copy_101 : decode cX8_copy 101 = .ok (.aload 6, 2) := by decide +kernel
theorem dX8_copy_103 : decode cX8_copy 103 = .ok (.getfield 109, 3) := by decide +kernel
theorem dX8_copy_106 : decode cX8_copy 106 = .ok (.iload_n 2, 1) := by decide +kernel
theorem dX8_copy_107 : decode cX8_copy 107 = .ok (.aload 7, 2) := by decide +kernel
theorem dX8_copy_109 : decode cX8_copy 109 = .ok (.getfield 109, 3) := by decide +kernel
theorem dX8_copy_112 : decode cX8_copy 112 = .ok (.iload 4, 2) := by decide +kernel
theorem dX8_copy_114 : decode cX8_copy 114 = .ok (.iload 5, 2) := by decide +kernel
theorem dX8_copy_116 : decode cX8_copy 116 = .ok (.invokestatic 112, 3) := by decide +kernel
theorem dX8_copy_119 : decode cX8_copy 119 = .ok (.aload_n 0, 1) := by decide +kernel
theorem dX8_copy_120 : decode cX8_copy 120 = .ok (.iload 5, 2) := by decide +kernel
theorem dX8_copy_122 : decode cX8_copy 122 = .ok (.invokevirtual 90, 3) := by decide +kernel
theorem dX8_copy_125 : decode cX8_copy 125 = .ok (.ireturn, 1) := by decide +kernel
theorem dX8_drop_0 : decode cX8_drop 0 = .ok (.iload_n 1, 1) := by decide +kernel
theorem dX8_drop_1 : decode cX8_drop 1 = .ok (.iconst 0, 1) := by decide +kernel
theorem dX8_drop_2 : decode cX8_drop 2 = .ok (.bipush 7, 2) := by decide +kernel
theorem dX8_drop_4 : decode cX8_drop 4 = .ok (.invokestatic 77, 3) := by decide +kernel
theorem dX8_drop_7 : decode cX8_drop 7 = .ok (.ifCond .ne 6, 3) := by decide +kernel
theorem dX8_drop_10 : decode cX8_drop 10 = .ok (.ldc 81, 2) := by decide +kernel
theorem dX8_drop_12 : decode cX8_drop 12 = .ok (.ireturn, 1) := by decide +kernel
theorem dX8_drop_13 : decode cX8_drop 13 = .ok (.aload_n 0, 1) := by decide +kernel
theorem dX8_drop_14 : decode cX8_drop 14 = .ok (.iload_n 1, 1) := by decide +kernel
theorem dX8_drop_15 : decode cX8_drop 15 = .ok (.invokevirtual 93, 3) := by decide +kernel
theorem dX8_drop_18 : decode cX8_drop 18 = .ok (.astore_n 2, 1) := by decide +kernel
theorem dX8_drop_19 : decode cX8_drop 19 = .ok (.aload_n 2, 1) := by decide +kernel
theorem dX8_drop_20 : decode cX8_drop 20 = .ok (.ifnonnull 9, 3) := by decide +kernel
theorem dX8_drop_23 : decode cX8_drop 23 = .ok (.aload_n 0, 1) := by decide +kernel
theorem dX8_drop_24 : decode cX8_drop 24 = .ok (.iconst 1, 1) := by decide +kernel
theorem dX8_drop_25 : decode cX8_drop 25 = .ok (.invokevirtual 82, 3) := by decide +kernel
theorem dX8_drop_28 : decode cX8_drop 28 = .ok (.ireturn, 1) := by decide +kernel
theorem dX8_drop_29 : decode cX8_drop 29 = .ok (.aload_n 2, 1) := by decide +kernel
theorem dX8_drop_30 : decode cX8_drop 30 = .ok (.iconst 0, 1) := by decide +kernel
theorem dX8_drop_31 : decode cX8_drop 31 = .ok (.putfield 118, 3) := by decide +kernel
theorem dX8_drop_34 : decode cX8_drop 34 = .ok (.aload_n 0, 1) := by decide +kernel
theorem dX8_drop_35 : decode cX8_drop 35 = .ok (.aload_n 2, 1) := by decide +kernel
theorem dX8_drop_36 : decode cX8_drop 36 = .ok (.getfield 122, 3) := by decide +kernel
theorem dX8_drop_39 : decode cX8_drop 39 = .ok (.invokevirtual 90, 3) := by decide +kernel
theorem dX8_drop_42 : decode cX8_drop 42 = .ok (.ireturn, 1) := by decide +kernel
theorem dX8_engine_0 : decode cX8_engine 0 = .ok (.iload_n 1, 1) := by decide +kernel
theorem dX8_engine_1 : decode cX8_engine 1 = .ok (.invokestatic 125, 3) := by decide +kernel
theorem dX8_engine_4 : decode cX8_engine 4 = .ok (.ifCond .eq 13, 3) := by decide +kernel
theorem dX8_engine_7 : decode cX8_engine 7 = .ok (.iload_n 2, 1) := by decide +kernel
theorem dX8_engine_8 : decode cX8_engine 8 = .ok (.iconst 0, 1) := by decide +kernel
theorem dX8_engine_9 : decode cX8_engine 9 = .ok (.bipush 7, 2) := by decide +kernel
theorem dX8_engine_11 : decode cX8_engine 11 = .ok (.invokestatic 77, 3) := by decide +kernel
theorem dX8_engine_14 : decode cX8_engine 14 = .ok (.ifCond .ne 6, 3) := by decide +kernel
theorem dX8_engine_17 : decode cX8_engine 17 = .ok (.ldc 81, 2) := by decide +kernel
theorem dX8_engine_19 : decode cX8_engine 19 = .ok (.ireturn, 1) := by decide +kernel
theorem dX8_engine_20 : decode cX8_engine 20 = .ok (.aload_n 0, 1) := by decide +kernel
theorem dX8_engine_21 : decode cX8_engine 21 = .ok (.iload_n 2, 1) := by decide +kernel
theorem dX8_engine_22 : decode cX8_engine 22 = .ok (.invokevirtual 93, 3) := by decide +kernel
theorem dX8_engine_25 : decode cX8_engine 25 = .ok (.astore 4, 2) := by decide +kernel
theorem dX8_engine_27 : decode cX8_engine 27 = .ok (.aload 4, 2) := by decide +kernel
theorem dX8_engine_29 : decode cX8_engine 29 = .ok (.ifnonnull 9, 3) := by decide +kernel
theorem dX8_engine_32 : decode cX8_engine 32 = .ok (.aload_n 0, 1) := by decide +kernel
theorem dX8_engine_33 : decode cX8_engine 33 = .ok (.iconst 1, 1) := by decide +kernel
theorem dX8_engine_34 : decode cX8_engine 34 = .ok (.invokevirtual 82, 3) := by decide +kernel
theorem dX8_engine_37 : decode cX8_engine 37 = .ok (.ireturn, 1) := by decide +kernel
theorem dX8_engine_38 : decode cX8_engine 38 = .ok (.aload 4, 2) := by decide +kernel
theorem dX8_engine_40 : decode cX8_engine 40 = .ok (.iload_n 3, 1) := by decide +kernel
theorem dX8_engine_41 : decode cX8_engine 41 = .ok (.bipush 11, 2) := by decide +kernel
theorem dX8_engine_43 : decode cX8_engine 43 = .ok (.invokevirtual 97, 3) := by decide +kernel
theorem dX8_engine_46 : decode cX8_engine 46 = .ok (.ifCond .ne 9, 3) := by decide +kernel
theorem dX8_engine_49 : decode cX8_engine 49 = .ok (.aload_n 0, 1) := by decide +kernel
theorem dX8_engine_50 : decode cX8_engine 50 = .ok (.iconst 2, 1) := by decide +kernel
theorem dX8_engine_51 : decode cX8_engine 51 = .ok (.invokevirtual 82, 3) := by decide +kernel
theorem dX8_engine_54 : decode cX8_engine 54 = .ok (.ireturn, 1) := by decide +kernel
theorem dX8_engine_55 : decode cX8_engine 55 = .ok (.iconst 0, 1) := by decide +kernel
theorem dX8_engine_56 : decode cX8_engine 56 = .ok (.istore 5, 2) := by decide +kernel
theorem dX8_engine_58 : decode cX8_engine 58 = .ok (.iload 5, 2) := by decide +kernel
theorem dX8_engine_60 : decode cX8_engine 60 = .ok (.bipush 11, 2) := by decide +kernel
theorem dX8_engine_62 : decode cX8_engine 62 = .ok (.if_icmp .ge 29, 3) := by decide +kernel
theorem dX8_engine_65 : decode cX8_engine 65 = .ok (.iload 5, 2) := by decide +kernel
theorem dX8_engine_67 : decode cX8_engine 67 = .ok (.aload 4, 2) := by decide +kernel
theorem dX8_engine_69 : decode cX8_engine 69 = .ok (.iload_n 3, 1) := by decide +kernel
theorem dX8_engine_70 : decode cX8_engine 70 = .ok (.iload 5, 2) := by decide +kernel
theorem dX8_engine_72 : decode cX8_engine 72 = .ok (.iadd, 1) := by decide +kernel
theorem dX8_engine_73 : decode cX8_engine 73 = .ok (.invokevirtual 129, 3) := by decide +kernel
theorem dX8_engine_76 : decode cX8_engine 76 = .ok (.invokestatic 132, 3) := by decide +kernel
theorem dX8_engine_79 : decode cX8_engine 79 = .ok (.ifCond .ne 6, 3) := by decide +kernel
theorem dX8_engine_82 : decode cX8_engine 82 = .ok (.ldc 81, 2) := by decide +kernel
theorem dX8_engine_84 : decode cX8_engine 84 = .ok (.ireturn, 1) := by decide +kernel
theorem dX8_engine_85 : decode cX8_engine 85 = .ok (.iinc 5 1, 3) := by decide +kernel
theorem dX8_engine_88 : decode cX8_engine 88 = .ok (.goto (-30), 3) := by decide +kernel
theorem dX8_engine_91 : decode cX8_engine 91 = .ok (.aload_n 0, 1) := by decide +kernel
theorem dX8_engine_92 : decode cX8_engine 92 = .ok (.getfield 17, 3) := by decide +kernel
theorem dX8_engine_95 : decode cX8_engine 95 = .ok (.iload_n 1, 1) := by decide +kernel
theorem dX8_engine_96 : decode cX8_engine 96 = .ok (.aaload, 1) := by decide +kernel
theorem dX8_engine_97 : decode cX8_engine 97 = .ok (.aload 4, 2) := by decide +kernel
theorem dX8_engine_99 : decode cX8_engine 99 = .ok (.iload_n 3, 1) := by decide +kernel
theorem dX8_engine_100 : decode cX8_engine 100 = .ok (.invokevirtual 135, 3) := by decide +kernel
theorem dX8_engine_103 : decode cX8_engine 103 = .ok (.aload_n 0, 1) := by decide +kernel
theorem dX8_engine_104 : decode cX8_engine 104 = .ok (.getfield 23, 3) := by decide +kernel
theorem dX8_engine_107 : decode cX8_engine 107 = .ok (.iload_n 1, 1) := by decide +kernel
theorem dX8_engine_108 : decode cX8_engine 108 = .ok (.aaload, 1) := by decide +kernel
theorem dX8_engine_109 : decode cX8_engine 109 = .ok (.iconst 0, 1) := by decide +kernel
theorem dX8_engine_110 : decode cX8_engine 110 = .ok (.putfield 139, 3) := by decide +kernel
theorem dX8_engine_113 : decode cX8_engine 113 = .ok (.aload_n 0, 1) := by decide +kernel
theorem dX8_engine_114 : decode cX8_engine 114 = .ok (.iconst 1, 1) := by decide +kernel
theorem dX8_engine_115 : decode cX8_engine 115 = .ok (.invokevirtual 90, 3) := by decide +kernel
theorem dX8_engine_118 : decode cX8_engine 118 = .ok (.ireturn, 1) := by decide +kernel
theorem dX8_adjust_0 : decode cX8_adjust 0 = .ok (.iload_n 1, 1) := by decide +kernel
theorem dX8_adjust_1 : decode cX8_adjust 1 = .ok (.invokestatic 125, 3) := by decide +kernel
theorem dX8_adjust_4 : decode cX8_adjust 4 = .ok (.ifCond .eq 11, 3) := by decide +kernel
theorem dX8_adjust_7 : decode cX8_adjust 7 = .ok (.iload_n 2, 1) := by decide +kernel
theorem dX8_adjust_8 : decode cX8_adjust 8 = .ok (.iload_n 3, 1) := by decide +kernel
theorem dX8_adjust_9 : decode cX8_adjust 9 = .ok (.invokestatic 132, 3) := by decide +kernel
theorem dX8_adjust_12 : decode cX8_adjust 12 = .ok (.ifCond .ne 6, 3) := by decide +kernel
theorem dX8_adjust_15 : decode cX8_adjust 15 = .ok (.ldc 81, 2) := by decide +kernel
theorem dX8_adjust_17 : decode cX8_adjust 17 = .ok (.ireturn, 1) := by decide +kernel
theorem dX8_adjust_18 : decode cX8_adjust 18 = .ok (.aload_n 0, 1) := by decide +kernel
theorem dX8_adjust_19 : decode cX8_adjust 19 = .ok (.iload_n 1, 1) := by decide +kernel
theorem dX8_adjust_20 : decode cX8_adjust 20 = .ok (.invokevirtual 142, 3) := by decide +kernel
theorem dX8_adjust_23 : decode cX8_adjust 23 = .ok (.astore 4, 2) := by decide +kernel
theorem dX8_adjust_25 : decode cX8_adjust 25 = .ok (.aload 4, 2) := by decide +kernel
theorem dX8_adjust_27 : decode cX8_adjust 27 = .ok (.ifnonnull 9, 3) := by decide +kernel
theorem dX8_adjust_30 : decode cX8_adjust 30 = .ok (.aload_n 0, 1) := by decide +kernel
theorem dX8_adjust_31 : decode cX8_adjust 31 = .ok (.iconst 1, 1) := by decide +kernel
theorem dX8_adjust_32 : decode cX8_adjust 32 = .ok (.invokevirtual 82, 3) := by decide +kernel
theorem dX8_adjust_35 : decode cX8_adjust 35 = .ok (.ireturn, 1) := by decide +kernel
theorem dX8_adjust_36 : decode cX8_adjust 36 = .ok (.aload 4, 2) := by decide +kernel
theorem dX8_adjust_38 : decode cX8_adjust 38 = .ok (.getfield 146, 3) := by decide +kernel
theorem dX8_adjust_41 : decode cX8_adjust 41 = .ok (.iload_n 2, 1) := by decide +kernel
theorem dX8_adjust_42 : decode cX8_adjust 42 = .ok (.iaload, 1) := by decide +kernel
theorem dX8_adjust_43 : decode cX8_adjust 43 = .ok (.istore 5, 2) := by decide +kernel
theorem dX8_adjust_45 : decode cX8_adjust 45 = .ok (.aload 4, 2) := by decide +kernel
theorem dX8_adjust_47 : decode cX8_adjust 47 = .ok (.getfield 146, 3) := by decide +kernel
theorem dX8_adjust_50 : decode cX8_adjust 50 = .ok (.iload_n 2, 1) := by decide +kernel
theorem dX8_adjust_51 : decode cX8_adjust 51 = .ok (.iload_n 3, 1) := by decide +kernel
theorem dX8_adjust_52 : decode cX8_adjust 52 = .ok (.iastore, 1) := by decide +kernel
theorem dX8_adjust_53 : decode cX8_adjust 53 = .ok (.aload_n 0, 1) := by decide +kernel
theorem dX8_adjust_54 : decode cX8_adjust 54 = .ok (.iload 5, 2) := by decide +kernel
theorem dX8_adjust_56 : decode cX8_adjust 56 = .ok (.invokevirtual 90, 3) := by decide +kernel
theorem dX8_adjust_59 : decode cX8_adjust 59 = .ok (.ireturn, 1) := by decide +kernel
theorem dX8_sicken_0 : decode cX8_sicken 0 = .ok (.iload_n 1, 1) := by decide +kernel
theorem dX8_sicken_1 : decode cX8_sicken 1 = .ok (.invokestatic 125, 3) := by decide +kernel
theorem dX8_sicken_4 : decode cX8_sicken 4 = .ok (.ifCond .eq 10, 3) := by decide +kernel
theorem dX8_sicken_7 : decode cX8_sicken 7 = .ok (.iload_n 2, 1) := by decide +kernel
theorem dX8_sicken_8 : decode cX8_sicken 8 = .ok (.invokestatic 149, 3) := by decide +kernel
theorem dX8_sicken_11 : decode cX8_sicken 11 = .ok (.ifCond .ne 6, 3) := by decide +kernel
theorem dX8_sicken_14 : decode cX8_sicken 14 = .ok (.ldc 81, 2) := by decide +kernel
theorem dX8_sicken_16 : decode cX8_sicken 16 = .ok (.ireturn, 1) := by decide +kernel
theorem dX8_sicken_17 : decode cX8_sicken 17 = .ok (.aload_n 0, 1) := by decide +kernel
theorem dX8_sicken_18 : decode cX8_sicken 18 = .ok (.iload_n 1, 1) := by decide +kernel
theorem dX8_sicken_19 : decode cX8_sicken 19 = .ok (.invokevirtual 142, 3) := by decide +kernel
theorem dX8_sicken_22 : decode cX8_sicken 22 = .ok (.astore_n 3, 1) := by decide +kernel
theorem dX8_sicken_23 : decode cX8_sicken 23 = .ok (.aload_n 3, 1) := by decide +kernel
theorem dX8_sicken_24 : decode cX8_sicken 24 = .ok (.ifnonnull 9, 3) := by decide +kernel
theorem dX8_sicken_27 : decode cX8_sicken 27 = .ok (.aload_n 0, 1) := by decide +kernel
theorem dX8_sicken_28 : decode cX8_sicken 28 = .ok (.iconst 1, 1) := by decide +kernel
theorem dX8_sicken_29 : decode cX8_sicken 29 = .ok (.invokevirtual 82, 3) := by decide +kernel
theorem dX8_sicken_32 : decode cX8_sicken 32 = .ok (.ireturn, 1) := by decide +kernel
theorem dX8_sicken_33 : decode cX8_sicken 33 = .ok (.aload_n 3, 1) := by decide +kernel
theorem dX8_sicken_34 : decode cX8_sicken 34 = .ok (.getfield 152, 3) := by decide +kernel
theorem dX8_sicken_37 : decode cX8_sicken 37 = .ok (.istore 4, 2) := by decide +kernel
theorem dX8_sicken_39 : decode cX8_sicken 39 = .ok (.aload_n 3, 1) := by decide +kernel
theorem dX8_sicken_40 : decode cX8_sicken 40 = .ok (.iload_n 2, 1) := by decide +kernel
theorem dX8_sicken_41 : decode cX8_sicken 41 = .ok (.putfield 152, 3) := by decide +kernel
theorem dX8_sicken_44 : decode cX8_sicken 44 = .ok (.aload_n 0, 1) := by decide +kernel
theorem dX8_sicken_45 : decode cX8_sicken 45 = .ok (.iload 4, 2) := by decide +kernel
theorem dX8_sicken_47 : decode cX8_sicken 47 = .ok (.invokevirtual 90, 3) := by decide +kernel
theorem dX8_sicken_50 : decode cX8_sicken 50 = .ok (.ireturn, 1) := by decide +kernel
theorem dX8_twin_0 : decode cX8_twin 0 = .ok (.iload_n 1, 1) := by decide +kernel
theorem dX8_twin_1 : decode cX8_twin 1 = .ok (.invokestatic 125, 3) := by decide +kernel
theorem dX8_twin_4 : decode cX8_twin 4 = .ok (.ifCond .eq 10, 3) := by decide +kernel
theorem dX8_twin_7 : decode cX8_twin 7 = .ok (.iload_n 2, 1) := by decide +kernel
theorem dX8_twin_8 : decode cX8_twin 8 = .ok (.invokestatic 125, 3) := by decide +kernel
theorem dX8_twin_11 : decode cX8_twin 11 = .ok (.ifCond .ne 6, 3) := by decide +kernel
theorem dX8_twin_14 : decode cX8_twin 14 = .ok (.ldc 81, 2) := by decide +kernel
theorem dX8_twin_16 : decode cX8_twin 16 = .ok (.ireturn, 1) := by decide +kernel
theorem dX8_twin_17 : decode cX8_twin 17 = .ok (.aload_n 0, 1) := by decide +kernel
theorem dX8_twin_18 : decode cX8_twin 18 = .ok (.iload_n 2, 1) := by decide +kernel
theorem dX8_twin_19 : decode cX8_twin 19 = .ok (.invokevirtual 142, 3) := by decide +kernel
theorem dX8_twin_22 : decode cX8_twin 22 = .ok (.astore_n 3, 1) := by decide +kernel
theorem dX8_twin_23 : decode cX8_twin 23 = .ok (.aload_n 3, 1) := by decide +kernel
theorem dX8_twin_24 : decode cX8_twin 24 = .ok (.ifnonnull 9, 3) := by decide +kernel
theorem dX8_twin_27 : decode cX8_twin 27 = .ok (.aload_n 0, 1) := by decide +kernel
theorem dX8_twin_28 : decode cX8_twin 28 = .ok (.iconst 1, 1) := by decide +kernel
theorem dX8_twin_29 : decode cX8_twin 29 = .ok (.invokevirtual 82, 3) := by decide +kernel
theorem dX8_twin_32 : decode cX8_twin 32 = .ok (.ireturn, 1) := by decide +kernel
theorem dX8_twin_33 : decode cX8_twin 33 = .ok (.aload_n 0, 1) := by decide +kernel
theorem dX8_twin_34 : decode cX8_twin 34 = .ok (.getfield 17, 3) := by decide +kernel
theorem dX8_twin_37 : decode cX8_twin 37 = .ok (.iload_n 1, 1) := by decide +kernel
theorem dX8_twin_38 : decode cX8_twin 38 = .ok (.aaload, 1) := by decide +kernel
theorem dX8_twin_39 : decode cX8_twin 39 = .ok (.aload_n 3, 1) := by decide +kernel
theorem dX8_twin_40 : decode cX8_twin 40 = .ok (.invokevirtual 155, 3) := by decide +kernel
theorem dX8_twin_43 : decode cX8_twin 43 = .ok (.aload_n 0, 1) := by decide +kernel
theorem dX8_twin_44 : decode cX8_twin 44 = .ok (.getfield 23, 3) := by decide +kernel
theorem dX8_twin_47 : decode cX8_twin 47 = .ok (.iload_n 1, 1) := by decide +kernel
theorem dX8_twin_48 : decode cX8_twin 48 = .ok (.aaload, 1) := by decide +kernel
theorem dX8_twin_49 : decode cX8_twin 49 = .ok (.iconst 0, 1) := by decide +kernel
theorem dX8_twin_50 : decode cX8_twin 50 = .ok (.putfield 139, 3) := by decide +kernel
theorem dX8_twin_53 : decode cX8_twin 53 = .ok (.aload_n 0, 1) := by decide +kernel
theorem dX8_twin_54 : decode cX8_twin 54 = .ok (.iconst 1, 1) := by decide +kernel
theorem dX8_twin_55 : decode cX8_twin 55 = .ok (.invokevirtual 90, 3) := by decide +kernel
theorem dX8_twin_58 : decode cX8_twin 58 = .ok (.ireturn, 1) := by decide +kernel
theorem dX8_clear_0 : decode cX8_clear 0 = .ok (.iload_n 1, 1) := by decide +kernel
theorem dX8_clear_1 : decode cX8_clear 1 = .ok (.invokestatic 125, 3) := by decide +kernel
theorem dX8_clear_4 : decode cX8_clear 4 = .ok (.ifCond .ne 6, 3) := by decide +kernel
theorem dX8_clear_7 : decode cX8_clear 7 = .ok (.ldc 81, 2) := by decide +kernel
theorem dX8_clear_9 : decode cX8_clear 9 = .ok (.ireturn, 1) := by decide +kernel
theorem dX8_clear_10 : decode cX8_clear 10 = .ok (.aload_n 0, 1) := by decide +kernel
theorem dX8_clear_11 : decode cX8_clear 11 = .ok (.iload_n 1, 1) := by decide +kernel
theorem dX8_clear_12 : decode cX8_clear 12 = .ok (.invokevirtual 142, 3) := by decide +kernel
theorem dX8_clear_15 : decode cX8_clear 15 = .ok (.astore_n 2, 1) := by decide +kernel
theorem dX8_clear_16 : decode cX8_clear 16 = .ok (.aload_n 2, 1) := by decide +kernel
theorem dX8_clear_17 : decode cX8_clear 17 = .ok (.ifnonnull 5, 3) := by decide +kernel
theorem dX8_clear_20 : decode cX8_clear 20 = .ok (.iconst 0, 1) := by decide +kernel
theorem dX8_clear_21 : decode cX8_clear 21 = .ok (.ireturn, 1) := by decide +kernel
theorem dX8_clear_22 : decode cX8_clear 22 = .ok (.aload_n 2, 1) := by decide +kernel
theorem dX8_clear_23 : decode cX8_clear 23 = .ok (.iconst 0, 1) := by decide +kernel
theorem dX8_clear_24 : decode cX8_clear 24 = .ok (.putfield 159, 3) := by decide +kernel
theorem dX8_clear_27 : decode cX8_clear 27 = .ok (.aload_n 0, 1) := by decide +kernel
theorem dX8_clear_28 : decode cX8_clear 28 = .ok (.getfield 23, 3) := by decide +kernel
theorem dX8_clear_31 : decode cX8_clear 31 = .ok (.iload_n 1, 1) := by decide +kernel
theorem dX8_clear_32 : decode cX8_clear 32 = .ok (.aaload, 1) := by decide +kernel
theorem dX8_clear_33 : decode cX8_clear 33 = .ok (.iconst 0, 1) := by decide +kernel
theorem dX8_clear_34 : decode cX8_clear 34 = .ok (.putfield 139, 3) := by decide +kernel
theorem dX8_clear_37 : decode cX8_clear 37 = .ok (.iconst 1, 1) := by decide +kernel
theorem dX8_clear_38 : decode cX8_clear 38 = .ok (.ireturn, 1) := by decide +kernel
theorem dX8_number_0 : decode cX8_number 0 = .ok (.iload_n 1, 1) := by decide +kernel
theorem dX8_number_1 : decode cX8_number 1 = .ok (.invokestatic 125, 3) := by decide +kernel
theorem dX8_number_4 : decode cX8_number 4 = .ok (.ifCond .eq 13, 3) := by decide +kernel
theorem dX8_number_7 : decode cX8_number 7 = .ok (.iload_n 2, 1) := by decide +kernel
theorem dX8_number_8 : decode cX8_number 8 = .ok (.iconst 0, 1) := by decide +kernel
theorem dX8_number_9 : decode cX8_number 9 = .ok (.bipush 11, 2) := by decide +kernel
theorem dX8_number_11 : decode cX8_number 11 = .ok (.invokestatic 77, 3) := by decide +kernel
theorem dX8_number_14 : decode cX8_number 14 = .ok (.ifCond .ne 6, 3) := by decide +kernel
theorem dX8_number_17 : decode cX8_number 17 = .ok (.ldc 81, 2) := by decide +kernel
theorem dX8_number_19 : decode cX8_number 19 = .ok (.ireturn, 1) := by decide +kernel
theorem dX8_number_20 : decode cX8_number 20 = .ok (.aload_n 0, 1) := by decide +kernel
theorem dX8_number_21 : decode cX8_number 21 = .ok (.iload_n 1, 1) := by decide +kernel
theorem dX8_number_22 : decode cX8_number 22 = .ok (.invokevirtual 142, 3) := by decide +kernel
theorem dX8_number_25 : decode cX8_number 25 = .ok (.astore_n 3, 1) := by decide +kernel
theorem dX8_number_26 : decode cX8_number 26 = .ok (.aload_n 3, 1) := by decide +kernel
theorem dX8_number_27 : decode cX8_number 27 = .ok (.ifnonnull 9, 3) := by decide +kernel
theorem dX8_number_30 : decode cX8_number 30 = .ok (.aload_n 0, 1) := by decide +kernel
theorem dX8_number_31 : decode cX8_number 31 = .ok (.iconst 1, 1) := by decide +kernel
theorem dX8_number_32 : decode cX8_number 32 = .ok (.invokevirtual 82, 3) := by decide +kernel
theorem dX8_number_35 : decode cX8_number 35 = .ok (.ireturn, 1) := by decide +kernel
theorem dX8_number_36 : decode cX8_number 36 = .ok (.aload_n 0, 1) := by decide +kernel
theorem dX8_number_37 : decode cX8_number 37 = .ok (.iload_n 2, 1) := by decide +kernel
theorem dX8_number_38 : decode cX8_number 38 = .ok (.bipush 11, 2) := by decide +kernel
theorem dX8_number_40 : decode cX8_number 40 = .ok (.if_icmp .ge 12, 3) := by decide +kernel
theorem dX8_number_43 : decode cX8_number 43 = .ok (.aload_n 3, 1) := by decide +kernel
theorem dX8_number_44 : decode cX8_number 44 = .ok (.getfield 146, 3) := by decide +kernel
theorem dX8_number_47 : decode cX8_number 47 = .ok (.iload_n 2, 1) := by decide +kernel
theorem dX8_number_48 : decode cX8_number 48 = .ok (.iaload, 1) := by decide +kernel
theorem dX8_number_49 : decode cX8_number 49 = .ok (.goto 7, 3) := by decide +kernel
theorem dX8_number_52 : decode cX8_number 52 = .ok (.aload_n 3, 1) := by decide +kernel
theorem dX8_number_53 : decode cX8_number 53 = .ok (.getfield 152, 3) := by decide +kernel
theorem dX8_number_56 : decode cX8_number 56 = .ok (.invokevirtual 90, 3) := by decide +kernel
theorem dX8_number_59 : decode cX8_number 59 = .ok (.ireturn, 1) := by decide +kernel
theorem dX8_piston_0 : decode cX8_piston 0 = .ok (.iload_n 1, 1) := by decide +kernel
theorem dX8_piston_1 : decode cX8_piston 1 = .ok (.invokestatic 125, 3) := by decide +kernel
theorem dX8_piston_4 : decode cX8_piston 4 = .ok (.ifCond .eq 10, 3) := by decide +kernel
theorem dX8_piston_7 : decode cX8_piston 7 = .ok (.iload_n 2, 1) := by decide +kernel
theorem dX8_piston_8 : decode cX8_piston 8 = .ok (.invokestatic 160, 3) := by decide +kernel
theorem dX8_piston_11 : decode cX8_piston 11 = .ok (.ifCond .ne 6, 3) := by decide +kernel
theorem dX8_piston_14 : decode cX8_piston 14 = .ok (.ldc 81, 2) := by decide +kernel
theorem dX8_piston_16 : decode cX8_piston 16 = .ok (.ireturn, 1) := by decide +kernel
theorem dX8_piston_17 : decode cX8_piston 17 = .ok (.aload_n 0, 1) := by decide +kernel
theorem dX8_piston_18 : decode cX8_piston 18 = .ok (.iload_n 1, 1) := by decide +kernel
theorem dX8_piston_19 : decode cX8_piston 19 = .ok (.invokevirtual 142, 3) := by decide +kernel
theorem dX8_piston_22 : decode cX8_piston 22 = .ok (.astore_n 3, 1) := by decide +kernel
theorem dX8_piston_23 : decode cX8_piston 23 = .ok (.aload_n 3, 1) := by decide +kernel
theorem dX8_piston_24 : decode cX8_piston 24 = .ok (.ifnonnull 9, 3) := by decide +kernel
theorem dX8_piston_27 : decode cX8_piston 27 = .ok (.aload_n 0, 1) := by decide +kernel
theorem dX8_piston_28 : decode cX8_piston 28 = .ok (.iconst 1, 1) := by decide +kernel
theorem dX8_piston_29 : decode cX8_piston 29 = .ok (.invokevirtual 82, 3) := by decide +kernel
theorem dX8_piston_32 : decode cX8_piston 32 = .ok (.ireturn, 1) := by decide +kernel
theorem dX8_piston_33 : decode cX8_piston 33 = .ok (.aload_n 0, 1) := by decide +kernel
theorem dX8_piston_34 : decode cX8_piston 34 = .ok (.aload_n 3, 1) := by decide +kernel
theorem dX8_piston_35 : decode cX8_piston 35 = .ok (.iload_n 2, 1) := by decide +kernel
theorem dX8_piston_36 : decode cX8_piston 36 = .ok (.invokevirtual 163, 3) := by decide +kernel
theorem dX8_piston_39 : decode cX8_piston 39 = .ok (.invokevirtual 90, 3) := by decide +kernel
theorem dX8_piston_42 : decode cX8_piston 42 = .ok (.ireturn, 1) := by decide +kernel
theorem dX8_valve_0 : decode cX8_valve 0 = .ok (.iload_n 1, 1) := by decide +kernel
theorem dX8_valve_1 : decode cX8_valve 1 = .ok (.invokestatic 125, 3) := by decide +kernel
theorem dX8_valve_4 : decode cX8_valve 4 = .ok (.ifCond .eq 17, 3) := by decide +kernel
theorem dX8_valve_7 : decode cX8_valve 7 = .ok (.iload_n 2, 1) := by decide +kernel
theorem dX8_valve_8 : decode cX8_valve 8 = .ok (.invokestatic 166, 3) := by decide +kernel
theorem dX8_valve_11 : decode cX8_valve 11 = .ok (.ifCond .eq 10, 3) := by decide +kernel
theorem dX8_valve_14 : decode cX8_valve 14 = .ok (.iload_n 3, 1) := by decide +kernel
theorem dX8_valve_15 : decode cX8_valve 15 = .ok (.invokestatic 160, 3) := by decide +kernel
theorem dX8_valve_18 : decode cX8_valve 18 = .ok (.ifCond .ne 6, 3) := by decide +kernel
theorem dX8_valve_21 : decode cX8_valve 21 = .ok (.ldc 81, 2) := by decide +kernel
theorem dX8_valve_23 : decode cX8_valve 23 = .ok (.ireturn, 1) := by decide +kernel
theorem dX8_valve_24 : decode cX8_valve 24 = .ok (.aload_n 0, 1) := by decide +kernel
theorem dX8_valve_25 : decode cX8_valve 25 = .ok (.iload_n 1, 1) := by decide +kernel
theorem dX8_valve_26 : decode cX8_valve 26 = .ok (.invokevirtual 142, 3) := by decide +kernel
theorem dX8_valve_29 : decode cX8_valve 29 = .ok (.astore 4, 2) := by decide +kernel
theorem dX8_valve_31 : decode cX8_valve 31 = .ok (.aload 4, 2) := by decide +kernel
theorem dX8_valve_33 : decode cX8_valve 33 = .ok (.ifnonnull 9, 3) := by decide +kernel
theorem dX8_valve_36 : decode cX8_valve 36 = .ok (.aload_n 0, 1) := by decide +kernel
theorem dX8_valve_37 : decode cX8_valve 37 = .ok (.iconst 1, 1) := by decide +kernel
theorem dX8_valve_38 : decode cX8_valve 38 = .ok (.invokevirtual 82, 3) := by decide +kernel
theorem dX8_valve_41 : decode cX8_valve 41 = .ok (.ireturn, 1) := by decide +kernel
theorem dX8_valve_42 : decode cX8_valve 42 = .ok (.aload_n 0, 1) := by decide +kernel
theorem dX8_valve_43 : decode cX8_valve 43 = .ok (.aload 4, 2) := by decide +kernel
theorem dX8_valve_45 : decode cX8_valve 45 = .ok (.iload_n 2, 1) := by decide +kernel
theorem dX8_valve_46 : decode cX8_valve 46 = .ok (.iload_n 3, 1) := by decide +kernel
theorem dX8_valve_47 : decode cX8_valve 47 = .ok (.invokevirtual 169, 3) := by decide +kernel
theorem dX8_valve_50 : decode cX8_valve 50 = .ok (.invokevirtual 90, 3) := by decide +kernel
theorem dX8_valve_53 : decode cX8_valve 53 = .ok (.ireturn, 1) := by decide +kernel
theorem dX8_open_0 : decode cX8_open 0 = .ok (.iload_n 1, 1) := by decide +kernel
theorem dX8_open_1 : decode cX8_open 1 = .ok (.invokestatic 125, 3) := by decide +kernel
theorem dX8_open_4 : decode cX8_open 4 = .ok (.ifCond .eq 35, 3) := by decide +kernel
theorem dX8_open_7 : decode cX8_open 7 = .ok (.iload_n 2, 1) := by decide +kernel
theorem dX8_open_8 : decode cX8_open 8 = .ok (.invokestatic 166, 3) := by decide +kernel
theorem dX8_open_11 : decode cX8_open 11 = .ok (.ifCond .eq 28, 3) := by decide +kernel
theorem dX8_open_14 : decode cX8_open 14 = .ok (.iload_n 3, 1) := by decide +kernel
theorem dX8_open_15 : decode cX8_open 15 = .ok (.invokestatic 172, 3) := by decide +kernel
theorem dX8_open_18 : decode cX8_open 18 = .ok (.ifCond .eq 21, 3) := by decide +kernel
theorem dX8_open_21 : decode cX8_open 21 = .ok (.iload 4, 2) := by decide +kernel
theorem dX8_open_23 : decode cX8_open 23 = .ok (.invokestatic 160, 3) := by decide +kernel
theorem dX8_open_26 : decode cX8_open 26 = .ok (.ifCond .eq 13, 3) := by decide +kernel
theorem dX8_open_29 : decode cX8_open 29 = .ok (.iload 5, 2) := by decide +kernel
theorem dX8_open_31 : decode cX8_open 31 = .ok (.iconst 0, 1) := by decide +kernel
theorem dX8_open_32 : decode cX8_open 32 = .ok (.iconst 1, 1) := by decide +kernel
theorem dX8_open_33 : decode cX8_open 33 = .ok (.invokestatic 77, 3) := by decide +kernel
theorem dX8_open_36 : decode cX8_open 36 = .ok (.ifCond .ne 6, 3) := by decide +kernel
theorem dX8_open_39 : decode cX8_open 39 = .ok (.ldc 81, 2) := by decide +kernel
theorem dX8_open_41 : decode cX8_open 41 = .ok (.ireturn, 1) := by decide +kernel
theorem dX8_open_42 : decode cX8_open 42 = .ok (.aload_n 0, 1) := by decide +kernel
theorem dX8_open_43 : decode cX8_open 43 = .ok (.iload_n 1, 1) := by decide +kernel
theorem dX8_open_44 : decode cX8_open 44 = .ok (.invokevirtual 142, 3) := by decide +kernel
theorem dX8_open_47 : decode cX8_open 47 = .ok (.astore 6, 2) := by decide +kernel
theorem dX8_open_49 : decode cX8_open 49 = .ok (.aload 6, 2) := by decide +kernel
theorem dX8_open_51 : decode cX8_open 51 = .ok (.ifnonnull 9, 3) := by decide +kernel
theorem dX8_open_54 : decode cX8_open 54 = .ok (.aload_n 0, 1) := by decide +kernel
theorem dX8_open_55 : decode cX8_open 55 = .ok (.iconst 1, 1) := by decide +kernel
theorem dX8_open_56 : decode cX8_open 56 = .ok (.invokevirtual 82, 3) := by decide +kernel
theorem dX8_open_59 : decode cX8_open 59 = .ok (.ireturn, 1) := by decide +kernel
theorem dX8_open_60 : decode cX8_open 60 = .ok (.aload_n 0, 1) := by decide +kernel
theorem dX8_open_61 : decode cX8_open 61 = .ok (.aload 6, 2) := by decide +kernel
theorem dX8_open_63 : decode cX8_open 63 = .ok (.aload 6, 2) := by decide +kernel
theorem dX8_open_65 : decode cX8_open 65 = .ok (.iload_n 2, 1) := by decide +kernel
theorem dX8_open_66 : decode cX8_open 66 = .ok (.iload 4, 2) := by decide +kernel
theorem dX8_open_68 : decode cX8_open 68 = .ok (.invokevirtual 169, 3) := by decide +kernel
theorem dX8_open_71 : decode cX8_open 71 = .ok (.iload_n 3, 1) := by decide +kernel
theorem dX8_open_72 : decode cX8_open 72 = .ok (.iload 5, 2) := by decide +kernel
theorem dX8_open_74 : decode cX8_open 74 = .ok (.invokevirtual 175, 3) := by decide +kernel
theorem dX8_open_77 : decode cX8_open 77 = .ok (.invokevirtual 90, 3) := by decide +kernel
theorem dX8_open_80 : decode cX8_open 80 = .ok (.ireturn, 1) := by decide +kernel
theorem dX8_event_0 : decode cX8_event 0 = .ok (.iload_n 1, 1) := by decide +kernel
theorem dX8_event_1 : decode cX8_event 1 = .ok (.invokestatic 125, 3) := by decide +kernel
theorem dX8_event_4 : decode cX8_event 4 = .ok (.ifCond .eq 27, 3) := by decide +kernel
theorem dX8_event_7 : decode cX8_event 7 = .ok (.iload_n 2, 1) := by decide +kernel
theorem dX8_event_8 : decode cX8_event 8 = .ok (.invokestatic 166, 3) := by decide +kernel
theorem dX8_event_11 : decode cX8_event 11 = .ok (.ifCond .eq 20, 3) := by decide +kernel
theorem dX8_event_14 : decode cX8_event 14 = .ok (.iload_n 3, 1) := by decide +kernel
theorem dX8_event_15 : decode cX8_event 15 = .ok (.invokestatic 172, 3) := by decide +kernel
theorem dX8_event_18 : decode cX8_event 18 = .ok (.ifCond .eq 13, 3) := by decide +kernel
theorem dX8_event_21 : decode cX8_event 21 = .ok (.iload 4, 2) := by decide +kernel
theorem dX8_event_23 : decode cX8_event 23 = .ok (.iconst 0, 1) := by decide +kernel
theorem dX8_event_24 : decode cX8_event 24 = .ok (.iconst 3, 1) := by decide +kernel
theorem dX8_event_25 : decode cX8_event 25 = .ok (.invokestatic 77, 3) := by decide +kernel
theorem dX8_event_28 : decode cX8_event 28 = .ok (.ifCond .ne 6, 3) := by decide +kernel
theorem dX8_event_31 : decode cX8_event 31 = .ok (.ldc 81, 2) := by decide +kernel
theorem dX8_event_33 : decode cX8_event 33 = .ok (.ireturn, 1) := by decide +kernel
theorem dX8_event_34 : decode cX8_event 34 = .ok (.aload_n 0, 1) := by decide +kernel
theorem dX8_event_35 : decode cX8_event 35 = .ok (.iload_n 1, 1) := by decide +kernel
theorem dX8_event_36 : decode cX8_event 36 = .ok (.invokevirtual 142, 3) := by decide +kernel
theorem dX8_event_39 : decode cX8_event 39 = .ok (.astore 5, 2) := by decide +kernel
theorem dX8_event_41 : decode cX8_event 41 = .ok (.aload 5, 2) := by decide +kernel
theorem dX8_event_43 : decode cX8_event 43 = .ok (.ifnonnull 9, 3) := by decide +kernel
theorem dX8_event_46 : decode cX8_event 46 = .ok (.aload_n 0, 1) := by decide +kernel
theorem dX8_event_47 : decode cX8_event 47 = .ok (.iconst 1, 1) := by decide +kernel
theorem dX8_event_48 : decode cX8_event 48 = .ok (.invokevirtual 82, 3) := by decide +kernel
theorem dX8_event_51 : decode cX8_event 51 = .ok (.ireturn, 1) := by decide +kernel
theorem dX8_event_52 : decode cX8_event 52 = .ok (.aload_n 0, 1) := by decide +kernel
theorem dX8_event_53 : decode cX8_event 53 = .ok (.aload_n 0, 1) := by decide +kernel
theorem dX8_event_54 : decode cX8_event 54 = .ok (.getfield 40, 3) := by decide +kernel
theorem dX8_event_57 : decode cX8_event 57 = .ok (.aload 5, 2) := by decide +kernel
theorem dX8_event_59 : decode cX8_event 59 = .ok (.iload_n 2, 1) := by decide +kernel
theorem dX8_event_60 : decode cX8_event 60 = .ok (.iload_n 3, 1) := by decide +kernel
theorem dX8_event_61 : decode cX8_event 61 = .ok (.iload 4, 2) := by decide +kernel
theorem dX8_event_63 : decode cX8_event 63 = .ok (.invokevirtual 179, 3) := by decide +kernel
theorem dX8_event_66 : decode cX8_event 66 = .ok (.invokevirtual 90, 3) := by decide +kernel
theorem dX8_event_69 : decode cX8_event 69 = .ok (.ireturn, 1) := by decide +kernel
theorem dX8_valves_0 : decode cX8_valves 0 = .ok (.iload_n 1, 1) := by decide +kernel
theorem dX8_valves_1 : decode cX8_valves 1 = .ok (.invokestatic 125, 3) := by decide +kernel
theorem dX8_valves_4 : decode cX8_valves 4 = .ok (.ifCond .eq 12, 3) := by decide +kernel
theorem dX8_valves_7 : decode cX8_valves 7 = .ok (.iload_n 2, 1) := by decide +kernel
theorem dX8_valves_8 : decode cX8_valves 8 = .ok (.iconst 0, 1) := by decide +kernel
theorem dX8_valves_9 : decode cX8_valves 9 = .ok (.iconst 1, 1) := by decide +kernel
theorem dX8_valves_10 : decode cX8_valves 10 = .ok (.invokestatic 77, 3) := by decide +kernel
theorem dX8_valves_13 : decode cX8_valves 13 = .ok (.ifCond .ne 6, 3) := by decide +kernel
theorem dX8_valves_16 : decode cX8_valves 16 = .ok (.ldc 81, 2) := by decide +kernel
theorem dX8_valves_18 : decode cX8_valves 18 = .ok (.ireturn, 1) := by decide +kernel
theorem dX8_valves_19 : decode cX8_valves 19 = .ok (.aload_n 0, 1) := by decide +kernel
theorem dX8_valves_20 : decode cX8_valves 20 = .ok (.iload_n 1, 1) := by decide +kernel
theorem dX8_valves_21 : decode cX8_valves 21 = .ok (.invokevirtual 142, 3) := by decide +kernel
theorem dX8_valves_24 : decode cX8_valves 24 = .ok (.astore_n 3, 1) := by decide +kernel
theorem dX8_valves_25 : decode cX8_valves 25 = .ok (.aload_n 3, 1) := by decide +kernel
theorem dX8_valves_26 : decode cX8_valves 26 = .ok (.ifnonnull 9, 3) := by decide +kernel
theorem dX8_valves_29 : decode cX8_valves 29 = .ok (.aload_n 0, 1) := by decide +kernel
theorem dX8_valves_30 : decode cX8_valves 30 = .ok (.iconst 1, 1) := by decide +kernel
theorem dX8_valves_31 : decode cX8_valves 31 = .ok (.invokevirtual 82, 3) := by decide +kernel
theorem dX8_valves_34 : decode cX8_valves 34 = .ok (.ireturn, 1) := by decide +kernel
theorem dX8_valves_35 : decode cX8_valves 35 = .ok (.aload_n 0, 1) := by decide +kernel
theorem dX8_valves_36 : decode cX8_valves 36 = .ok (.iload_n 2, 1) := by decide +kernel
theorem dX8_valves_37 : decode cX8_valves 37 = .ok (.ifCond .ne 14, 3) := by decide +kernel
theorem dX8_valves_40 : decode cX8_valves 40 = .ok (.aload_n 0, 1) := by decide +kernel
theorem dX8_valves_41 : decode cX8_valves 41 = .ok (.getfield 40, 3) := by decide +kernel
theorem dX8_valves_44 : decode cX8_valves 44 = .ok (.aload_n 3, 1) := by decide +kernel
theorem dX8_valves_45 : decode cX8_valves 45 = .ok (.invokevirtual 183, 3) := by decide +kernel
theorem dX8_valves_48 : decode cX8_valves 48 = .ok (.goto 7, 3) := by decide +kernel
theorem dX8_valves_51 : decode cX8_valves 51 = .ok (.aload_n 3, 1) := by decide +kernel
theorem dX8_valves_52 : decode cX8_valves 52 = .ok (.invokevirtual 187, 3) := by decide +kernel
theorem dX8_valves_55 : decode cX8_valves 55 = .ok (.invokevirtual 90, 3) := by decide +kernel
theorem dX8_valves_58 : decode cX8_valves 58 = .ok (.ireturn, 1) := by decide +kernel
theorem dX8_setting_0 : decode cX8_setting 0 = .ok (.iload_n 1, 1) := by decide +kernel
theorem dX8_setting_1 : decode cX8_setting 1 = .ok (.invokestatic 125, 3) := by decide +kernel
theorem dX8_setting_4 : decode cX8_setting 4 = .ok (.ifCond .eq 12, 3) := by decide +kernel
theorem dX8_setting_7 : decode cX8_setting 7 = .ok (.iload_n 2, 1) := by decide +kernel
theorem dX8_setting_8 : decode cX8_setting 8 = .ok (.iconst 0, 1) := by decide +kernel
theorem dX8_setting_9 : decode cX8_setting 9 = .ok (.iconst 2, 1) := by decide +kernel
theorem dX8_setting_10 : decode cX8_setting 10 = .ok (.invokestatic 77, 3) := by decide +kernel
theorem dX8_setting_13 : decode cX8_setting 13 = .ok (.ifCond .ne 6, 3) := by decide +kernel
theorem dX8_setting_16 : decode cX8_setting 16 = .ok (.ldc 81, 2) := by decide +kernel
theorem dX8_setting_18 : decode cX8_setting 18 = .ok (.ireturn, 1) := by decide +kernel
theorem dX8_setting_19 : decode cX8_setting 19 = .ok (.aload_n 0, 1) := by decide +kernel
theorem dX8_setting_20 : decode cX8_setting 20 = .ok (.iload_n 1, 1) := by decide +kernel
theorem dX8_setting_21 : decode cX8_setting 21 = .ok (.invokevirtual 142, 3) := by decide +kernel
theorem dX8_setting_24 : decode cX8_setting 24 = .ok (.astore_n 3, 1) := by decide +kernel
theorem dX8_setting_25 : decode cX8_setting 25 = .ok (.aload_n 3, 1) := by decide +kernel
theorem dX8_setting_26 : decode cX8_setting 26 = .ok (.ifnonnull 9, 3) := by decide +kernel
theorem dX8_setting_29 : decode cX8_setting 29 = .ok (.aload_n 0, 1) := by decide +kernel
theorem dX8_setting_30 : decode cX8_setting 30 = .ok (.iconst 1, 1) := by decide +kernel
theorem dX8_setting_31 : decode cX8_setting 31 = .ok (.invokevirtual 82, 3) := by decide +kernel
theorem dX8_setting_34 : decode cX8_setting 34 = .ok (.ireturn, 1) := by decide +kernel
theorem dX8_setting_35 : decode cX8_setting 35 = .ok (.aload_n 0, 1) := by decide +kernel
theorem dX8_setting_36 : decode cX8_setting 36 = .ok (.getfield 40, 3) := by decide +kernel
theorem dX8_setting_39 : decode cX8_setting 39 = .ok (.aload_n 3, 1) := by decide +kernel
theorem dX8_setting_40 : decode cX8_setting 40 = .ok (.aload_n 0, 1) := by decide +kernel
theorem dX8_setting_41 : decode cX8_setting 41 = .ok (.getfield 28, 3) := by decide +kernel
theorem dX8_setting_44 : decode cX8_setting 44 = .ok (.invokevirtual 191, 3) := by decide +kernel
theorem dX8_setting_47 : decode cX8_setting 47 = .ok (.iload_n 2, 1) := by decide +kernel
theorem dX8_setting_48 : decode cX8_setting 48 = .ok (.ifCond .ne 15, 3) := by decide +kernel
theorem dX8_setting_51 : decode cX8_setting 51 = .ok (.aload_n 0, 1) := by decide +kernel
theorem dX8_setting_52 : decode cX8_setting 52 = .ok (.aload_n 0, 1) := by decide +kernel
theorem dX8_setting_53 : decode cX8_setting 53 = .ok (.getfield 40, 3) := by decide +kernel
theorem dX8_setting_56 : decode cX8_setting 56 = .ok (.getfield 195, 3) := by decide +kernel
theorem dX8_setting_59 : decode cX8_setting 59 = .ok (.invokevirtual 90, 3) := by decide +kernel
theorem dX8_setting_62 : decode cX8_setting 62 = .ok (.ireturn, 1) := by decide +kernel
theorem dX8_setting_63 : decode cX8_setting 63 = .ok (.aload_n 0, 1) := by decide +kernel
theorem dX8_setting_64 : decode cX8_setting 64 = .ok (.iload_n 2, 1) := by decide +kernel
theorem dX8_setting_65 : decode cX8_setting 65 = .ok (.iconst 1, 1) := by decide +kernel
theorem dX8_setting_66 : decode cX8_setting 66 = .ok (.if_icmp .ne 13, 3) := by decide +kernel
theorem dX8_setting_69 : decode cX8_setting 69 = .ok (.aload_n 0, 1) := by decide +kernel
theorem dX8_setting_70 : decode cX8_setting 70 = .ok (.getfield 40, 3) := by decide +kernel
theorem dX8_setting_73 : decode cX8_setting 73 = .ok (.getfield 198, 3) := by decide +kernel
theorem dX8_setting_76 : decode cX8_setting 76 = .ok (.goto 10, 3) := by decide +kernel
theorem dX8_setting_79 : decode cX8_setting 79 = .ok (.aload_n 0, 1) := by decide +kernel
theorem dX8_setting_80 : decode cX8_setting 80 = .ok (.getfield 40, 3) := by decide +kernel
theorem dX8_setting_83 : decode cX8_setting 83 = .ok (.getfield 201, 3) := by decide +kernel
theorem dX8_setting_86 : decode cX8_setting 86 = .ok (.invokevirtual 90, 3) := by decide +kernel
theorem dX8_setting_89 : decode cX8_setting 89 = .ok (.ireturn, 1) := by decide +kernel
theorem dX8_tune_0 : decode cX8_tune 0 = .ok (.iload_n 1, 1) := by decide +kernel
theorem dX8_tune_1 : decode cX8_tune 1 = .ok (.invokestatic 125, 3) := by decide +kernel
theorem dX8_tune_4 : decode cX8_tune 4 = .ok (.ifCond .ne 6, 3) := by decide +kernel
theorem dX8_tune_7 : decode cX8_tune 7 = .ok (.ldc 81, 2) := by decide +kernel
theorem dX8_tune_9 : decode cX8_tune 9 = .ok (.ireturn, 1) := by decide +kernel
theorem dX8_tune_10 : decode cX8_tune 10 = .ok (.aload_n 0, 1) := by decide +kernel
theorem dX8_tune_11 : decode cX8_tune 11 = .ok (.iload_n 1, 1) := by decide +kernel
theorem dX8_tune_12 : decode cX8_tune 12 = .ok (.invokevirtual 142, 3) := by decide +kernel
theorem dX8_tune_15 : decode cX8_tune 15 = .ok (.astore_n 2, 1) := by decide +kernel
theorem dX8_tune_16 : decode cX8_tune 16 = .ok (.aload_n 2, 1) := by decide +kernel
theorem dX8_tune_17 : decode cX8_tune 17 = .ok (.ifnonnull 9, 3) := by decide +kernel
theorem dX8_tune_20 : decode cX8_tune 20 = .ok (.aload_n 0, 1) := by decide +kernel
theorem dX8_tune_21 : decode cX8_tune 21 = .ok (.iconst 1, 1) := by decide +kernel
theorem dX8_tune_22 : decode cX8_tune 22 = .ok (.invokevirtual 82, 3) := by decide +kernel
theorem dX8_tune_25 : decode cX8_tune 25 = .ok (.ireturn, 1) := by decide +kernel
theorem dX8_tune_26 : decode cX8_tune 26 = .ok (.aload_n 0, 1) := by decide +kernel
theorem dX8_tune_27 : decode cX8_tune 27 = .ok (.getfield 40, 3) := by decide +kernel
theorem dX8_tune_30 : decode cX8_tune 30 = .ok (.aload_n 2, 1) := by decide +kernel
theorem dX8_tune_31 : decode cX8_tune 31 = .ok (.invokevirtual 183, 3) := by decide +kernel
theorem dX8_tune_34 : decode cX8_tune 34 = .ok (.istore_n 3, 1) := by decide +kernel
theorem dX8_tune_35 : decode cX8_tune 35 = .ok (.aload_n 0, 1) := by decide +kernel
theorem dX8_tune_36 : decode cX8_tune 36 = .ok (.getfield 40, 3) := by decide +kernel
theorem dX8_tune_39 : decode cX8_tune 39 = .ok (.aload_n 2, 1) := by decide +kernel
theorem dX8_tune_40 : decode cX8_tune 40 = .ok (.aload_n 0, 1) := by decide +kernel
theorem dX8_tune_41 : decode cX8_tune 41 = .ok (.getfield 28, 3) := by decide +kernel
theorem dX8_tune_44 : decode cX8_tune 44 = .ok (.invokevirtual 191, 3) := by decide +kernel
theorem dX8_tune_47 : decode cX8_tune 47 = .ok (.aload_n 2, 1) := by decide +kernel
theorem dX8_tune_48 : decode cX8_tune 48 = .ok (.getfield 146, 3) := by decide +kernel
theorem dX8_tune_51 : decode cX8_tune 51 = .ok (.iconst 2, 1) := by decide +kernel
theorem dX8_tune_52 : decode cX8_tune 52 = .ok (.aload_n 0, 1) := by decide +kernel
theorem dX8_tune_53 : decode cX8_tune 53 = .ok (.getfield 40, 3) := by decide +kernel
theorem dX8_tune_56 : decode cX8_tune 56 = .ok (.getfield 195, 3) := by decide +kernel
theorem dX8_tune_59 : decode cX8_tune 59 = .ok (.iastore, 1) := by decide +kernel
theorem dX8_tune_60 : decode cX8_tune 60 = .ok (.aload_n 2, 1) := by decide +kernel
theorem dX8_tune_61 : decode cX8_tune 61 = .ok (.getfield 146, 3) := by decide +kernel
theorem dX8_tune_64 : decode cX8_tune 64 = .ok (.iconst 3, 1) := by decide +kernel
theorem dX8_tune_65 : decode cX8_tune 65 = .ok (.aload_n 0, 1) := by decide +kernel
theorem dX8_tune_66 : decode cX8_tune 66 = .ok (.getfield 40, 3) := by decide +kernel
theorem dX8_tune_69 : decode cX8_tune 69 = .ok (.getfield 198, 3) := by decide +kernel
theorem dX8_tune_72 : decode cX8_tune 72 = .ok (.iastore, 1) := by decide +kernel
theorem dX8_tune_73 : decode cX8_tune 73 = .ok (.aload_n 0, 1) := by decide +kernel
theorem dX8_tune_74 : decode cX8_tune 74 = .ok (.iload_n 3, 1) := by decide +kernel
theorem dX8_tune_75 : decode cX8_tune 75 = .ok (.invokevirtual 90, 3) := by decide +kernel
theorem dX8_tune_78 : decode cX8_tune 78 = .ok (.ireturn, 1) := by decide +kernel
theorem dX8_card_0 : decode cX8_card 0 = .ok (.iload_n 1, 1) := by decide +kernel
theorem dX8_card_1 : decode cX8_card 1 = .ok (.invokestatic 125, 3) := by decide +kernel
theorem dX8_card_4 : decode cX8_card 4 = .ok (.ifCond .eq 44, 3) := by decide +kernel
theorem dX8_card_7 : decode cX8_card 7 = .ok (.iload_n 2, 1) := by decide +kernel
theorem dX8_card_8 : decode cX8_card 8 = .ok (.invokestatic 166, 3) := by decide +kernel
theorem dX8_card_11 : decode cX8_card 11 = .ok (.ifCond .eq 37, 3) := by decide +kernel
theorem dX8_card_14 : decode cX8_card 14 = .ok (.iload_n 3, 1) := by decide +kernel
theorem dX8_card_15 : decode cX8_card 15 = .ok (.invokestatic 204, 3) := by decide +kernel
theorem dX8_card_18 : decode cX8_card 18 = .ok (.ifCond .eq 30, 3) := by decide +kernel
theorem dX8_card_21 : decode cX8_card 21 = .ok (.iload 4, 2) := by decide +kernel
theorem dX8_card_23 : decode cX8_card 23 = .ok (.invokestatic 207, 3) := by decide +kernel
theorem dX8_card_26 : decode cX8_card 26 = .ok (.ifCond .eq 22, 3) := by decide +kernel
theorem dX8_card_29 : decode cX8_card 29 = .ok (.iload 5, 2) := by decide +kernel
theorem dX8_card_31 : decode cX8_card 31 = .ok (.invokestatic 172, 3) := by decide +kernel
theorem dX8_card_34 : decode cX8_card 34 = .ok (.ifCond .eq 14, 3) := by decide +kernel
theorem dX8_card_37 : decode cX8_card 37 = .ok (.iload 6, 2) := by decide +kernel
theorem dX8_card_39 : decode cX8_card 39 = .ok (.iconst 0, 1) := by decide +kernel
theorem dX8_card_40 : decode cX8_card 40 = .ok (.bipush 47, 2) := by decide +kernel
theorem dX8_card_42 : decode cX8_card 42 = .ok (.invokestatic 77, 3) := by decide +kernel
theorem dX8_card_45 : decode cX8_card 45 = .ok (.ifCond .ne 6, 3) := by decide +kernel
theorem dX8_card_48 : decode cX8_card 48 = .ok (.ldc 81, 2) := by decide +kernel
theorem dX8_card_50 : decode cX8_card 50 = .ok (.ireturn, 1) := by decide +kernel
theorem dX8_card_51 : decode cX8_card 51 = .ok (.aload_n 0, 1) := by decide +kernel
theorem dX8_card_52 : decode cX8_card 52 = .ok (.iload_n 1, 1) := by decide +kernel
theorem dX8_card_53 : decode cX8_card 53 = .ok (.invokevirtual 142, 3) := by decide +kernel
theorem dX8_card_56 : decode cX8_card 56 = .ok (.astore 7, 2) := by decide +kernel
theorem dX8_card_58 : decode cX8_card 58 = .ok (.aload 7, 2) := by decide +kernel
theorem dX8_card_60 : decode cX8_card 60 = .ok (.ifnonnull 9, 3) := by decide +kernel
theorem dX8_card_63 : decode cX8_card 63 = .ok (.aload_n 0, 1) := by decide +kernel
theorem dX8_card_64 : decode cX8_card 64 = .ok (.iconst 1, 1) := by decide +kernel
theorem dX8_card_65 : decode cX8_card 65 = .ok (.invokevirtual 82, 3) := by decide +kernel
theorem dX8_card_68 : decode cX8_card 68 = .ok (.ireturn, 1) := by decide +kernel
theorem dX8_card_69 : decode cX8_card 69 = .ok (.aload_n 0, 1) := by decide +kernel
theorem dX8_card_70 : decode cX8_card 70 = .ok (.getfield 47, 3) := by decide +kernel
theorem dX8_card_73 : decode cX8_card 73 = .ok (.aload 7, 2) := by decide +kernel
theorem dX8_card_75 : decode cX8_card 75 = .ok (.iload_n 2, 1) := by decide +kernel
theorem dX8_card_76 : decode cX8_card 76 = .ok (.iload_n 3, 1) := by decide +kernel
theorem dX8_card_77 : decode cX8_card 77 = .ok (.iload 4, 2) := by decide +kernel
theorem dX8_card_79 : decode cX8_card 79 = .ok (.iload 5, 2) := by decide +kernel
theorem dX8_card_81 : decode cX8_card 81 = .ok (.invokevirtual 210, 3) := by decide +kernel
theorem dX8_card_84 : decode cX8_card 84 = .ok (.aload_n 0, 1) := by decide +kernel
theorem dX8_card_85 : decode cX8_card 85 = .ok (.aload_n 0, 1) := by decide +kernel
theorem dX8_card_86 : decode cX8_card 86 = .ok (.getfield 47, 3) := by decide +kernel
theorem dX8_card_89 : decode cX8_card 89 = .ok (.getfield 214, 3) := by decide +kernel
theorem dX8_card_92 : decode cX8_card 92 = .ok (.iload 6, 2) := by decide +kernel
theorem dX8_card_94 : decode cX8_card 94 = .ok (.iaload, 1) := by decide +kernel
theorem dX8_card_95 : decode cX8_card 95 = .ok (.invokevirtual 90, 3) := by decide +kernel
theorem dX8_card_98 : decode cX8_card 98 = .ok (.ireturn, 1) := by decide +kernel
theorem dX8_look_0 : decode cX8_look 0 = .ok (.iload_n 1, 1) := by decide +kernel
theorem dX8_look_1 : decode cX8_look 1 = .ok (.invokestatic 125, 3) := by decide +kernel
theorem dX8_look_4 : decode cX8_look 4 = .ok (.ifCond .eq 43, 3) := by decide +kernel
theorem dX8_look_7 : decode cX8_look 7 = .ok (.iload_n 2, 1) := by decide +kernel
theorem dX8_look_8 : decode cX8_look 8 = .ok (.invokestatic 166, 3) := by decide +kernel
theorem dX8_look_11 : decode cX8_look 11 = .ok (.ifCond .eq 36, 3) := by decide +kernel
theorem dX8_look_14 : decode cX8_look 14 = .ok (.iload_n 3, 1) := by decide +kernel
theorem dX8_look_15 : decode cX8_look 15 = .ok (.invokestatic 204, 3) := by decide +kernel
theorem dX8_look_18 : decode cX8_look 18 = .ok (.ifCond .eq 29, 3) := by decide +kernel
theorem dX8_look_21 : decode cX8_look 21 = .ok (.iload 4, 2) := by decide +kernel
theorem dX8_look_23 : decode cX8_look 23 = .ok (.invokestatic 207, 3) := by decide +kernel
theorem dX8_look_26 : decode cX8_look 26 = .ok (.ifCond .eq 21, 3) := by decide +kernel
theorem dX8_look_29 : decode cX8_look 29 = .ok (.iload 5, 2) := by decide +kernel
theorem dX8_look_31 : decode cX8_look 31 = .ok (.invokestatic 172, 3) := by decide +kernel
theorem dX8_look_34 : decode cX8_look 34 = .ok (.ifCond .eq 13, 3) := by decide +kernel
theorem dX8_look_37 : decode cX8_look 37 = .ok (.iload 6, 2) := by decide +kernel
theorem dX8_look_39 : decode cX8_look 39 = .ok (.iconst 0, 1) := by decide +kernel
theorem dX8_look_40 : decode cX8_look 40 = .ok (.iconst 2, 1) := by decide +kernel
theorem dX8_look_41 : decode cX8_look 41 = .ok (.invokestatic 77, 3) := by decide +kernel
theorem dX8_look_44 : decode cX8_look 44 = .ok (.ifCond .ne 6, 3) := by decide +kernel
theorem dX8_look_47 : decode cX8_look 47 = .ok (.ldc 81, 2) := by decide +kernel
theorem dX8_look_49 : decode cX8_look 49 = .ok (.ireturn, 1) := by decide +kernel
theorem dX8_look_50 : decode cX8_look 50 = .ok (.aload_n 0, 1) := by decide +kernel
theorem dX8_look_51 : decode cX8_look 51 = .ok (.iload_n 1, 1) := by decide +kernel
theorem dX8_look_52 : decode cX8_look 52 = .ok (.invokevirtual 142, 3) := by decide +kernel
theorem dX8_look_55 : decode cX8_look 55 = .ok (.astore 7, 2) := by decide +kernel
theorem dX8_look_57 : decode cX8_look 57 = .ok (.aload 7, 2) := by decide +kernel
theorem dX8_look_59 : decode cX8_look 59 = .ok (.ifnonnull 9, 3) := by decide +kernel
theorem dX8_look_62 : decode cX8_look 62 = .ok (.aload_n 0, 1) := by decide +kernel
theorem dX8_look_63 : decode cX8_look 63 = .ok (.iconst 1, 1) := by decide +kernel
theorem dX8_look_64 : decode cX8_look 64 = .ok (.invokevirtual 82, 3) := by decide +kernel
theorem dX8_look_67 : decode cX8_look 67 = .ok (.ireturn, 1) := by decide +kernel
theorem dX8_look_68 : decode cX8_look 68 = .ok (.aload_n 0, 1) := by decide +kernel
theorem dX8_look_69 : decode cX8_look 69 = .ok (.getfield 47, 3) := by decide +kernel
theorem dX8_look_72 : decode cX8_look 72 = .ok (.aload 7, 2) := by decide +kernel
theorem dX8_look_74 : decode cX8_look 74 = .ok (.iload_n 2, 1) := by decide +kernel
theorem dX8_look_75 : decode cX8_look 75 = .ok (.iload_n 3, 1) := by decide +kernel
theorem dX8_look_76 : decode cX8_look 76 = .ok (.iload 4, 2) := by decide +kernel
theorem dX8_look_78 : decode cX8_look 78 = .ok (.iload 5, 2) := by decide +kernel
theorem dX8_look_80 : decode cX8_look 80 = .ok (.invokevirtual 210, 3) := by decide +kernel
theorem dX8_look_83 : decode cX8_look 83 = .ok (.iload 6, 2) := by decide +kernel
theorem dX8_look_85 : decode cX8_look 85 = .ok (.ifCond .ne 15, 3) := by decide +kernel
theorem dX8_look_88 : decode cX8_look 88 = .ok (.aload_n 0, 1) := by decide +kernel
theorem dX8_look_89 : decode cX8_look 89 = .ok (.aload_n 0, 1) := by decide +kernel
theorem dX8_look_90 : decode cX8_look 90 = .ok (.getfield 47, 3) := by decide +kernel
theorem dX8_look_93 : decode cX8_look 93 = .ok (.invokevirtual 217, 3) := by decide +kernel
theorem dX8_look_96 : decode cX8_look 96 = .ok (.invokevirtual 90, 3) := by decide +kernel
theorem dX8_look_99 : decode cX8_look 99 = .ok (.ireturn, 1) := by decide +kernel
theorem dX8_look_100 : decode cX8_look 100 = .ok (.aload_n 0, 1) := by decide +kernel
theorem dX8_look_101 : decode cX8_look 101 = .ok (.iload 6, 2) := by decide +kernel
theorem dX8_look_103 : decode cX8_look 103 = .ok (.iconst 1, 1) := by decide +kernel
theorem dX8_look_104 : decode cX8_look 104 = .ok (.if_icmp .ne 13, 3) := by decide +kernel
theorem dX8_look_107 : decode cX8_look 107 = .ok (.aload_n 0, 1) := by decide +kernel
theorem dX8_look_108 : decode cX8_look 108 = .ok (.getfield 47, 3) := by decide +kernel
theorem dX8_look_111 : decode cX8_look 111 = .ok (.invokevirtual 220, 3) := by decide +kernel
theorem dX8_look_114 : decode cX8_look 114 = .ok (.goto 10, 3) := by decide +kernel
theorem dX8_look_117 : decode cX8_look 117 = .ok (.aload_n 0, 1) := by decide +kernel
theorem dX8_look_118 : decode cX8_look 118 = .ok (.getfield 47, 3) := by decide +kernel
theorem dX8_look_121 : decode cX8_look 121 = .ok (.invokevirtual 223, 3) := by decide +kernel
theorem dX8_look_124 : decode cX8_look 124 = .ok (.invokevirtual 90, 3) := by decide +kernel
theorem dX8_look_127 : decode cX8_look 127 = .ok (.ireturn, 1) := by decide +kernel
theorem dX8_work_0 : decode cX8_work 0 = .ok (.iload_n 1, 1) := by decide +kernel
theorem dX8_work_1 : decode cX8_work 1 = .ok (.invokestatic 125, 3) := by decide +kernel
theorem dX8_work_4 : decode cX8_work 4 = .ok (.ifCond .eq 35, 3) := by decide +kernel
theorem dX8_work_7 : decode cX8_work 7 = .ok (.iload_n 2, 1) := by decide +kernel
theorem dX8_work_8 : decode cX8_work 8 = .ok (.invokestatic 166, 3) := by decide +kernel
theorem dX8_work_11 : decode cX8_work 11 = .ok (.ifCond .eq 28, 3) := by decide +kernel
theorem dX8_work_14 : decode cX8_work 14 = .ok (.iload_n 3, 1) := by decide +kernel
theorem dX8_work_15 : decode cX8_work 15 = .ok (.invokestatic 204, 3) := by decide +kernel
theorem dX8_work_18 : decode cX8_work 18 = .ok (.ifCond .eq 21, 3) := by decide +kernel
theorem dX8_work_21 : decode cX8_work 21 = .ok (.iload 4, 2) := by decide +kernel
theorem dX8_work_23 : decode cX8_work 23 = .ok (.invokestatic 207, 3) := by decide +kernel
theorem dX8_work_26 : decode cX8_work 26 = .ok (.ifCond .eq 13, 3) := by decide +kernel
theorem dX8_work_29 : decode cX8_work 29 = .ok (.iload 5, 2) := by decide +kernel
theorem dX8_work_31 : decode cX8_work 31 = .ok (.iconst 0, 1) := by decide +kernel
theorem dX8_work_32 : decode cX8_work 32 = .ok (.iconst 1, 1) := by decide +kernel
theorem dX8_work_33 : decode cX8_work 33 = .ok (.invokestatic 77, 3) := by decide +kernel
theorem dX8_work_36 : decode cX8_work 36 = .ok (.ifCond .ne 6, 3) := by decide +kernel
theorem dX8_work_39 : decode cX8_work 39 = .ok (.ldc 81, 2) := by decide +kernel
theorem dX8_work_41 : decode cX8_work 41 = .ok (.ireturn, 1) := by decide +kernel
theorem dX8_work_42 : decode cX8_work 42 = .ok (.aload_n 0, 1) := by decide +kernel
theorem dX8_work_43 : decode cX8_work 43 = .ok (.iload_n 1, 1) := by decide +kernel
theorem dX8_work_44 : decode cX8_work 44 = .ok (.invokevirtual 142, 3) := by decide +kernel
theorem dX8_work_47 : decode cX8_work 47 = .ok (.astore 6, 2) := by decide +kernel
theorem dX8_work_49 : decode cX8_work 49 = .ok (.aload 6, 2) := by decide +kernel
theorem dX8_work_51 : decode cX8_work 51 = .ok (.ifnonnull 9, 3) := by decide +kernel
theorem dX8_work_54 : decode cX8_work 54 = .ok (.aload_n 0, 1) := by decide +kernel
theorem dX8_work_55 : decode cX8_work 55 = .ok (.iconst 1, 1) := by decide +kernel
theorem dX8_work_56 : decode cX8_work 56 = .ok (.invokevirtual 82, 3) := by decide +kernel
theorem dX8_work_59 : decode cX8_work 59 = .ok (.ireturn, 1) := by decide +kernel
theorem dX8_work_60 : decode cX8_work 60 = .ok (.aload_n 0, 1) := by decide +kernel
theorem dX8_work_61 : decode cX8_work 61 = .ok (.getfield 47, 3) := by decide +kernel
theorem dX8_work_64 : decode cX8_work 64 = .ok (.aload 6, 2) := by decide +kernel
theorem dX8_work_66 : decode cX8_work 66 = .ok (.iload_n 2, 1) := by decide +kernel
theorem dX8_work_67 : decode cX8_work 67 = .ok (.iload_n 3, 1) := by decide +kernel
theorem dX8_work_68 : decode cX8_work 68 = .ok (.iload 4, 2) := by decide +kernel
theorem dX8_work_70 : decode cX8_work 70 = .ok (.invokevirtual 226, 3) := by decide +kernel
theorem dX8_work_73 : decode cX8_work 73 = .ok (.aload_n 0, 1) := by decide +kernel
theorem dX8_work_74 : decode cX8_work 74 = .ok (.iload 5, 2) := by decide +kernel
theorem dX8_work_76 : decode cX8_work 76 = .ok (.ifCond .ne 13, 3) := by decide +kernel
theorem dX8_work_79 : decode cX8_work 79 = .ok (.aload_n 0, 1) := by decide +kernel
theorem dX8_work_80 : decode cX8_work 80 = .ok (.getfield 47, 3) := by decide +kernel
theorem dX8_work_83 : decode cX8_work 83 = .ok (.getfield 230, 3) := by decide +kernel
theorem dX8_work_86 : decode cX8_work 86 = .ok (.goto 10, 3) := by decide +kernel
theorem dX8_work_89 : decode cX8_work 89 = .ok (.aload_n 0, 1) := by decide +kernel
theorem dX8_work_90 : decode cX8_work 90 = .ok (.getfield 47, 3) := by decide +kernel
theorem dX8_work_93 : decode cX8_work 93 = .ok (.getfield 233, 3) := by decide +kernel
theorem dX8_work_96 : decode cX8_work 96 = .ok (.invokevirtual 90, 3) := by decide +kernel
theorem dX8_work_99 : decode cX8_work 99 = .ok (.ireturn, 1) := by decide +kernel
theorem dX8_find_0 : decode cX8_find 0 = .ok (.iload_n 1, 1) := by decide +kernel
theorem dX8_find_1 : decode cX8_find 1 = .ok (.invokestatic 125, 3) := by decide +kernel
theorem dX8_find_4 : decode cX8_find 4 = .ok (.ifCond .eq 28, 3) := by decide +kernel
theorem dX8_find_7 : decode cX8_find 7 = .ok (.iload_n 2, 1) := by decide +kernel
theorem dX8_find_8 : decode cX8_find 8 = .ok (.invokestatic 166, 3) := by decide +kernel
theorem dX8_find_11 : decode cX8_find 11 = .ok (.ifCond .eq 21, 3) := by decide +kernel
theorem dX8_find_14 : decode cX8_find 14 = .ok (.iload_n 3, 1) := by decide +kernel
theorem dX8_find_15 : decode cX8_find 15 = .ok (.invokestatic 204, 3) := by decide +kernel
theorem dX8_find_18 : decode cX8_find 18 = .ok (.ifCond .eq 14, 3) := by decide +kernel
theorem dX8_find_21 : decode cX8_find 21 = .ok (.iload 4, 2) := by decide +kernel
theorem dX8_find_23 : decode cX8_find 23 = .ok (.iconst 0, 1) := by decide +kernel
theorem dX8_find_24 : decode cX8_find 24 = .ok (.bipush 7, 2) := by decide +kernel
theorem dX8_find_26 : decode cX8_find 26 = .ok (.invokestatic 77, 3) := by decide +kernel
theorem dX8_find_29 : decode cX8_find 29 = .ok (.ifCond .ne 6, 3) := by decide +kernel
theorem dX8_find_32 : decode cX8_find 32 = .ok (.ldc 81, 2) := by decide +kernel
theorem dX8_find_34 : decode cX8_find 34 = .ok (.ireturn, 1) := by decide +kernel
theorem dX8_find_35 : decode cX8_find 35 = .ok (.aload_n 0, 1) := by decide +kernel
theorem dX8_find_36 : decode cX8_find 36 = .ok (.iload 4, 2) := by decide +kernel
theorem dX8_find_38 : decode cX8_find 38 = .ok (.invokevirtual 93, 3) := by decide +kernel
theorem dX8_find_41 : decode cX8_find 41 = .ok (.astore 6, 2) := by decide +kernel
theorem dX8_find_43 : decode cX8_find 43 = .ok (.aload_n 0, 1) := by decide +kernel
theorem dX8_find_44 : decode cX8_find 44 = .ok (.iload_n 1, 1) := by decide +kernel
theorem dX8_find_45 : decode cX8_find 45 = .ok (.invokevirtual 142, 3) := by decide +kernel
theorem dX8_find_48 : decode cX8_find 48 = .ok (.ifnull 8, 3) := by decide +kernel
theorem dX8_find_51 : decode cX8_find 51 = .ok (.aload 6, 2) := by decide +kernel
theorem dX8_find_53 : decode cX8_find 53 = .ok (.ifnonnull 9, 3) := by decide +kernel
theorem dX8_find_56 : decode cX8_find 56 = .ok (.aload_n 0, 1) := by decide +kernel
theorem dX8_find_57 : decode cX8_find 57 = .ok (.iconst 1, 1) := by decide +kernel
theorem dX8_find_58 : decode cX8_find 58 = .ok (.invokevirtual 82, 3) := by decide +kernel
theorem dX8_find_61 : decode cX8_find 61 = .ok (.ireturn, 1) := by decide +kernel
theorem dX8_find_62 : decode cX8_find 62 = .ok (.aload 6, 2) := by decide +kernel
theorem dX8_find_64 : decode cX8_find 64 = .ok (.iload 5, 2) := by decide +kernel
theorem dX8_find_66 : decode cX8_find 66 = .ok (.bipush 48, 2) := by decide +kernel
theorem dX8_find_68 : decode cX8_find 68 = .ok (.invokevirtual 97, 3) := by decide +kernel
theorem dX8_find_71 : decode cX8_find 71 = .ok (.ifCond .ne 9, 3) := by decide +kernel
theorem dX8_find_74 : decode cX8_find 74 = .ok (.aload_n 0, 1) := by decide +kernel
theorem dX8_find_75 : decode cX8_find 75 = .ok (.iconst 2, 1) := by decide +kernel
theorem dX8_find_76 : decode cX8_find 76 = .ok (.invokevirtual 82, 3) := by decide +kernel
theorem dX8_find_79 : decode cX8_find 79 = .ok (.ireturn, 1) := by decide +kernel
theorem dX8_find_80 : decode cX8_find 80 = .ok (.aload 6, 2) := by decide +kernel
theorem dX8_find_82 : decode cX8_find 82 = .ok (.iload 5, 2) := by decide +kernel
theorem dX8_find_84 : decode cX8_find 84 = .ok (.bipush 48, 2) := by decide +kernel
theorem dX8_find_86 : decode cX8_find 86 = .ok (.iconst (-1), 1) := by decide +kernel
theorem dX8_find_87 : decode cX8_find 87 = .ok (.sipush 5000, 3) := by decide +kernel
theorem dX8_find_90 : decode cX8_find 90 = .ok (.invokevirtual 236, 3) := by decide +kernel
theorem dX8_find_93 : decode cX8_find 93 = .ok (.ifCond .ne 6, 3) := by decide +kernel
theorem dX8_find_96 : decode cX8_find 96 = .ok (.ldc 81, 2) := by decide +kernel
theorem dX8_find_98 : decode cX8_find 98 = .ok (.ireturn, 1) := by decide +kernel
theorem dX8_find_99 : decode cX8_find 99 = .ok (.aload_n 0, 1) := by decide +kernel
theorem dX8_find_100 : decode cX8_find 100 = .ok (.getfield 23, 3) := by decide +kernel
theorem dX8_find_103 : decode cX8_find 103 = .ok (.iload_n 1, 1) := by decide +kernel
theorem dX8_find_104 : decode cX8_find 104 = .ok (.aaload, 1) := by decide +kernel
theorem dX8_find_105 : decode cX8_find 105 = .ok (.astore 7, 2) := by decide +kernel
theorem dX8_find_107 : decode cX8_find 107 = .ok (.aload 7, 2) := by decide +kernel
theorem dX8_find_109 : decode cX8_find 109 = .ok (.aload 6, 2) := by decide +kernel
theorem dX8_find_111 : decode cX8_find 111 = .ok (.iload 5, 2) := by decide +kernel
theorem dX8_find_113 : decode cX8_find 113 = .ok (.invokevirtual 240, 3) := by decide +kernel
theorem dX8_find_116 : decode cX8_find 116 = .ok (.aload 7, 2) := by decide +kernel
theorem dX8_find_118 : decode cX8_find 118 = .ok (.iload_n 2, 1) := by decide +kernel
theorem dX8_find_119 : decode cX8_find 119 = .ok (.putfield 243, 3) := by decide +kernel
theorem dX8_find_122 : decode cX8_find 122 = .ok (.aload 7, 2) := by decide +kernel
theorem dX8_find_124 : decode cX8_find 124 = .ok (.iload_n 3, 1) := by decide +kernel
theorem dX8_find_125 : decode cX8_find 125 = .ok (.putfield 246, 3) := by decide +kernel
theorem dX8_find_128 : decode cX8_find 128 = .ok (.aload 7, 2) := by decide +kernel
theorem dX8_find_130 : decode cX8_find 130 = .ok (.iconst 1, 1) := by decide +kernel
theorem dX8_find_131 : decode cX8_find 131 = .ok (.putfield 139, 3) := by decide +kernel
theorem dX8_find_134 : decode cX8_find 134 = .ok (.aload_n 0, 1) := by decide +kernel
theorem dX8_find_135 : decode cX8_find 135 = .ok (.aload 7, 2) := by decide +kernel
theorem dX8_find_137 : decode cX8_find 137 = .ok (.invokevirtual 249, 3) := by decide +kernel
theorem dX8_find_140 : decode cX8_find 140 = .ok (.invokevirtual 90, 3) := by decide +kernel
theorem dX8_find_143 : decode cX8_find 143 = .ok (.ireturn, 1) := by decide +kernel
theorem dX8_misfit_0 : decode cX8_misfit 0 = .ok (.iload_n 1, 1) := by decide +kernel
theorem dX8_misfit_1 : decode cX8_misfit 1 = .ok (.invokestatic 125, 3) := by decide +kernel
theorem dX8_misfit_4 : decode cX8_misfit 4 = .ok (.ifCond .eq 10, 3) := by decide +kernel
theorem dX8_misfit_7 : decode cX8_misfit 7 = .ok (.iload_n 2, 1) := by decide +kernel
theorem dX8_misfit_8 : decode cX8_misfit 8 = .ok (.invokestatic 149, 3) := by decide +kernel
theorem dX8_misfit_11 : decode cX8_misfit 11 = .ok (.ifCond .ne 6, 3) := by decide +kernel
theorem dX8_misfit_14 : decode cX8_misfit 14 = .ok (.ldc 81, 2) := by decide +kernel
theorem dX8_misfit_16 : decode cX8_misfit 16 = .ok (.ireturn, 1) := by decide +kernel
theorem dX8_misfit_17 : decode cX8_misfit 17 = .ok (.aload_n 0, 1) := by decide +kernel
theorem dX8_misfit_18 : decode cX8_misfit 18 = .ok (.iload_n 1, 1) := by decide +kernel
theorem dX8_misfit_19 : decode cX8_misfit 19 = .ok (.invokevirtual 142, 3) := by decide +kernel
theorem dX8_misfit_22 : decode cX8_misfit 22 = .ok (.astore_n 3, 1) := by decide +kernel
theorem dX8_misfit_23 : decode cX8_misfit 23 = .ok (.aload_n 0, 1) := by decide +kernel
theorem dX8_misfit_24 : decode cX8_misfit 24 = .ok (.getfield 23, 3) := by decide +kernel
theorem dX8_misfit_27 : decode cX8_misfit 27 = .ok (.iload_n 1, 1) := by decide +kernel
theorem dX8_misfit_28 : decode cX8_misfit 28 = .ok (.aaload, 1) := by decide +kernel
theorem dX8_misfit_29 : decode cX8_misfit 29 = .ok (.astore 4, 2) := by decide +kernel
theorem dX8_misfit_31 : decode cX8_misfit 31 = .ok (.aload_n 3, 1) := by decide +kernel
theorem dX8_misfit_32 : decode cX8_misfit 32 = .ok (.ifnull 11, 3) := by decide +kernel
theorem dX8_misfit_35 : decode cX8_misfit 35 = .ok (.aload 4, 2) := by decide +kernel
theorem dX8_misfit_37 : decode cX8_misfit 37 = .ok (.getfield 139, 3) := by decide +kernel
theorem dX8_misfit_40 : decode cX8_misfit 40 = .ok (.ifCond .ne 6, 3) := by decide +kernel
theorem dX8_misfit_43 : decode cX8_misfit 43 = .ok (.ldc 252, 2) := by decide +kernel
theorem dX8_misfit_45 : decode cX8_misfit 45 = .ok (.ireturn, 1) := by decide +kernel
theorem dX8_misfit_46 : decode cX8_misfit 46 = .ok (.aload_n 0, 1) := by decide +kernel
theorem dX8_misfit_47 : decode cX8_misfit 47 = .ok (.getfield 28, 3) := by decide +kernel
theorem dX8_misfit_50 : decode cX8_misfit 50 = .ok (.aload_n 3, 1) := by decide +kernel
theorem dX8_misfit_51 : decode cX8_misfit 51 = .ok (.invokevirtual 155, 3) := by decide +kernel
theorem dX8_misfit_54 : decode cX8_misfit 54 = .ok (.aload_n 0, 1) := by decide +kernel
theorem dX8_misfit_55 : decode cX8_misfit 55 = .ok (.aload_n 0, 1) := by decide +kernel
theorem dX8_misfit_56 : decode cX8_misfit 56 = .ok (.getfield 54, 3) := by decide +kernel
theorem dX8_misfit_59 : decode cX8_misfit 59 = .ok (.aload 4, 2) := by decide +kernel
theorem dX8_misfit_61 : decode cX8_misfit 61 = .ok (.aload_n 0, 1) := by decide +kernel
theorem dX8_misfit_62 : decode cX8_misfit 62 = .ok (.getfield 28, 3) := by decide +kernel
theorem dX8_misfit_65 : decode cX8_misfit 65 = .ok (.iload_n 2, 1) := by decide +kernel
theorem dX8_misfit_66 : decode cX8_misfit 66 = .ok (.aload_n 0, 1) := by decide +kernel
theorem dX8_misfit_67 : decode cX8_misfit 67 = .ok (.getfield 47, 3) := by decide +kernel
theorem dX8_misfit_70 : decode cX8_misfit 70 = .ok (.invokevirtual 253, 3) := by decide +kernel
theorem dX8_misfit_73 : decode cX8_misfit 73 = .ok (.invokevirtual 90, 3) := by decide +kernel
theorem dX8_misfit_76 : decode cX8_misfit 76 = .ok (.ireturn, 1) := by decide +kernel
theorem dX8_named_0 : decode cX8_named 0 = .ok (.iload_n 1, 1) := by decide +kernel
theorem dX8_named_1 : decode cX8_named 1 = .ok (.invokestatic 125, 3) := by decide +kernel
theorem dX8_named_4 : decode cX8_named 4 = .ok (.ifCond .eq 28, 3) := by decide +kernel
theorem dX8_named_7 : decode cX8_named 7 = .ok (.iload_n 2, 1) := by decide +kernel
theorem dX8_named_8 : decode cX8_named 8 = .ok (.iconst 0, 1) := by decide +kernel
theorem dX8_named_9 : decode cX8_named 9 = .ok (.iconst 2, 1) := by decide +kernel
theorem dX8_named_10 : decode cX8_named 10 = .ok (.invokestatic 77, 3) := by decide +kernel
theorem dX8_named_13 : decode cX8_named 13 = .ok (.ifCond .eq 19, 3) := by decide +kernel
theorem dX8_named_16 : decode cX8_named 16 = .ok (.iload_n 2, 1) := by decide +kernel
theorem dX8_named_17 : decode cX8_named 17 = .ok (.iconst 2, 1) := by decide +kernel
theorem dX8_named_18 : decode cX8_named 18 = .ok (.if_icmp .ne 17, 3) := by decide +kernel
theorem dX8_named_21 : decode cX8_named 21 = .ok (.iload_n 3, 1) := by decide +kernel
theorem dX8_named_22 : decode cX8_named 22 = .ok (.iconst 0, 1) := by decide +kernel
theorem dX8_named_23 : decode cX8_named 23 = .ok (.ldc_w 257, 3) := by decide +kernel
theorem dX8_named_26 : decode cX8_named 26 = .ok (.invokestatic 77, 3) := by decide +kernel
theorem dX8_named_29 : decode cX8_named 29 = .ok (.ifCond .ne 6, 3) := by decide +kernel
theorem dX8_named_32 : decode cX8_named 32 = .ok (.ldc 81, 2) := by decide +kernel
theorem dX8_named_34 : decode cX8_named 34 = .ok (.ireturn, 1) := by decide +kernel
theorem dX8_named_35 : decode cX8_named 35 = .ok (.aload_n 0, 1) := by decide +kernel
theorem dX8_named_36 : decode cX8_named 36 = .ok (.iload_n 1, 1) := by decide +kernel
theorem dX8_named_37 : decode cX8_named 37 = .ok (.invokevirtual 142, 3) := by decide +kernel
theorem dX8_named_40 : decode cX8_named 40 = .ok (.astore 4, 2) := by decide +kernel
theorem dX8_named_42 : decode cX8_named 42 = .ok (.aload_n 0, 1) := by decide +kernel
theorem dX8_named_43 : decode cX8_named 43 = .ok (.getfield 23, 3) := by decide +kernel
theorem dX8_named_46 : decode cX8_named 46 = .ok (.iload_n 1, 1) := by decide +kernel
theorem dX8_named_47 : decode cX8_named 47 = .ok (.aaload, 1) := by decide +kernel
theorem dX8_named_48 : decode cX8_named 48 = .ok (.astore 5, 2) := by decide +kernel
theorem dX8_named_50 : decode cX8_named 50 = .ok (.aload 4, 2) := by decide +kernel
theorem dX8_named_52 : decode cX8_named 52 = .ok (.ifnull 11, 3) := by decide +kernel
theorem dX8_named_55 : decode cX8_named 55 = .ok (.aload 5, 2) := by decide +kernel
theorem dX8_named_57 : decode cX8_named 57 = .ok (.getfield 139, 3) := by decide +kernel
theorem dX8_named_60 : decode cX8_named 60 = .ok (.ifCond .ne 6, 3) := by decide +kernel
theorem dX8_named_63 : decode cX8_named 63 = .ok (.ldc 252, 2) := by decide +kernel
theorem dX8_named_65 : decode cX8_named 65 = .ok (.ireturn, 1) := by decide +kernel
theorem dX8_named_66 : decode cX8_named 66 = .ok (.aload_n 0, 1) := by decide +kernel
theorem dX8_named_67 : decode cX8_named 67 = .ok (.getfield 28, 3) := by decide +kernel
theorem dX8_named_70 : decode cX8_named 70 = .ok (.aload 4, 2) := by decide +kernel
theorem dX8_named_72 : decode cX8_named 72 = .ok (.invokevirtual 155, 3) := by decide +kernel
theorem dX8_named_75 : decode cX8_named 75 = .ok (.aload_n 0, 1) := by decide +kernel
theorem dX8_named_76 : decode cX8_named 76 = .ok (.getfield 54, 3) := by decide +kernel
theorem dX8_named_79 : decode cX8_named 79 = .ok (.aload 5, 2) := by decide +kernel
theorem dX8_named_81 : decode cX8_named 81 = .ok (.aload_n 0, 1) := by decide +kernel
theorem dX8_named_82 : decode cX8_named 82 = .ok (.getfield 28, 3) := by decide +kernel
theorem dX8_named_85 : decode cX8_named 85 = .ok (.aload_n 0, 1) := by decide +kernel
theorem dX8_named_86 : decode cX8_named 86 = .ok (.getfield 47, 3) := by decide +kernel
theorem dX8_named_89 : decode cX8_named 89 = .ok (.invokevirtual 258, 3) := by decide +kernel
theorem dX8_named_92 : decode cX8_named 92 = .ok (.iload_n 2, 1) := by decide +kernel
theorem dX8_named_93 : decode cX8_named 93 = .ok (.ifCond .ne 15, 3) := by decide +kernel
theorem dX8_named_96 : decode cX8_named 96 = .ok (.aload_n 0, 1) := by decide +kernel
theorem dX8_named_97 : decode cX8_named 97 = .ok (.aload_n 0, 1) := by decide +kernel
theorem dX8_named_98 : decode cX8_named 98 = .ok (.getfield 54, 3) := by decide +kernel
theorem dX8_named_101 : decode cX8_named 101 = .ok (.getfield 262, 3) := by decide +kernel
theorem dX8_named_104 : decode cX8_named 104 = .ok (.invokevirtual 90, 3) := by decide +kernel
theorem dX8_named_107 : decode cX8_named 107 = .ok (.ireturn, 1) := by decide +kernel
theorem dX8_named_108 : decode cX8_named 108 = .ok (.aload_n 0, 1) := by decide +kernel
theorem dX8_named_109 : decode cX8_named 109 = .ok (.iload_n 2, 1) := by decide +kernel
theorem dX8_named_110 : decode cX8_named 110 = .ok (.iconst 1, 1) := by decide +kernel
theorem dX8_named_111 : decode cX8_named 111 = .ok (.if_icmp .ne 13, 3) := by decide +kernel
theorem dX8_named_114 : decode cX8_named 114 = .ok (.aload_n 0, 1) := by decide +kernel
theorem dX8_named_115 : decode cX8_named 115 = .ok (.getfield 54, 3) := by decide +kernel
theorem dX8_named_118 : decode cX8_named 118 = .ok (.getfield 265, 3) := by decide +kernel
theorem dX8_named_121 : decode cX8_named 121 = .ok (.goto 11, 3) := by decide +kernel
theorem dX8_named_124 : decode cX8_named 124 = .ok (.aload_n 0, 1) := by decide +kernel
theorem dX8_named_125 : decode cX8_named 125 = .ok (.getfield 54, 3) := by decide +kernel
theorem dX8_named_128 : decode cX8_named 128 = .ok (.iload_n 3, 1) := by decide +kernel
theorem dX8_named_129 : decode cX8_named 129 = .ok (.invokevirtual 268, 3) := by decide +kernel
theorem dX8_named_132 : decode cX8_named 132 = .ok (.invokevirtual 90, 3) := by decide +kernel
theorem dX8_named_135 : decode cX8_named 135 = .ok (.ireturn, 1) := by decide +kernel
theorem dX8_whose_0 : decode cX8_whose 0 = .ok (.iload_n 1, 1) := by decide +kernel
theorem dX8_whose_1 : decode cX8_whose 1 = .ok (.iconst 0, 1) := by decide +kernel
theorem dX8_whose_2 : decode cX8_whose 2 = .ok (.bipush 7, 2) := by decide +kernel
theorem dX8_whose_4 : decode cX8_whose 4 = .ok (.invokestatic 77, 3) := by decide +kernel
theorem dX8_whose_7 : decode cX8_whose 7 = .ok (.ifCond .eq 20, 3) := by decide +kernel
theorem dX8_whose_10 : decode cX8_whose 10 = .ok (.iload_n 3, 1) := by decide +kernel
theorem dX8_whose_11 : decode cX8_whose 11 = .ok (.invokestatic 204, 3) := by decide +kernel
theorem dX8_whose_14 : decode cX8_whose 14 = .ok (.ifCond .eq 13, 3) := by decide +kernel
theorem dX8_whose_17 : decode cX8_whose 17 = .ok (.iload 4, 2) := by decide +kernel
theorem dX8_whose_19 : decode cX8_whose 19 = .ok (.iconst 0, 1) := by decide +kernel
theorem dX8_whose_20 : decode cX8_whose 20 = .ok (.iconst 2, 1) := by decide +kernel
theorem dX8_whose_21 : decode cX8_whose 21 = .ok (.invokestatic 77, 3) := by decide +kernel
theorem dX8_whose_24 : decode cX8_whose 24 = .ok (.ifCond .ne 6, 3) := by decide +kernel
theorem dX8_whose_27 : decode cX8_whose 27 = .ok (.ldc 81, 2) := by decide +kernel
theorem dX8_whose_29 : decode cX8_whose 29 = .ok (.ireturn, 1) := by decide +kernel
theorem dX8_whose_30 : decode cX8_whose 30 = .ok (.aload_n 0, 1) := by decide +kernel
theorem dX8_whose_31 : decode cX8_whose 31 = .ok (.iload_n 1, 1) := by decide +kernel
theorem dX8_whose_32 : decode cX8_whose 32 = .ok (.invokevirtual 93, 3) := by decide +kernel
theorem dX8_whose_35 : decode cX8_whose 35 = .ok (.astore 5, 2) := by decide +kernel
theorem dX8_whose_37 : decode cX8_whose 37 = .ok (.aload 5, 2) := by decide +kernel
theorem dX8_whose_39 : decode cX8_whose 39 = .ok (.ifnonnull 9, 3) := by decide +kernel
theorem dX8_whose_42 : decode cX8_whose 42 = .ok (.aload_n 0, 1) := by decide +kernel
theorem dX8_whose_43 : decode cX8_whose 43 = .ok (.iconst 1, 1) := by decide +kernel
theorem dX8_whose_44 : decode cX8_whose 44 = .ok (.invokevirtual 82, 3) := by decide +kernel
theorem dX8_whose_47 : decode cX8_whose 47 = .ok (.ireturn, 1) := by decide +kernel
theorem dX8_whose_48 : decode cX8_whose 48 = .ok (.aload 5, 2) := by decide +kernel
theorem dX8_whose_50 : decode cX8_whose 50 = .ok (.iload_n 2, 1) := by decide +kernel
theorem dX8_whose_51 : decode cX8_whose 51 = .ok (.bipush 48, 2) := by decide +kernel
theorem dX8_whose_53 : decode cX8_whose 53 = .ok (.invokevirtual 97, 3) := by decide +kernel
theorem dX8_whose_56 : decode cX8_whose 56 = .ok (.ifCond .ne 9, 3) := by decide +kernel
theorem dX8_whose_59 : decode cX8_whose 59 = .ok (.aload_n 0, 1) := by decide +kernel
theorem dX8_whose_60 : decode cX8_whose 60 = .ok (.iconst 2, 1) := by decide +kernel
theorem dX8_whose_61 : decode cX8_whose 61 = .ok (.invokevirtual 82, 3) := by decide +kernel
theorem dX8_whose_64 : decode cX8_whose 64 = .ok (.ireturn, 1) := by decide +kernel
theorem dX8_whose_65 : decode cX8_whose 65 = .ok (.aload 5, 2) := by decide +kernel
theorem dX8_whose_67 : decode cX8_whose 67 = .ok (.iload_n 2, 1) := by decide +kernel
theorem dX8_whose_68 : decode cX8_whose 68 = .ok (.bipush 48, 2) := by decide +kernel
theorem dX8_whose_70 : decode cX8_whose 70 = .ok (.iconst (-1), 1) := by decide +kernel
theorem dX8_whose_71 : decode cX8_whose 71 = .ok (.sipush 5000, 3) := by decide +kernel
theorem dX8_whose_74 : decode cX8_whose 74 = .ok (.invokevirtual 236, 3) := by decide +kernel
theorem dX8_whose_77 : decode cX8_whose 77 = .ok (.ifCond .ne 6, 3) := by decide +kernel
theorem dX8_whose_80 : decode cX8_whose 80 = .ok (.ldc 81, 2) := by decide +kernel
theorem dX8_whose_82 : decode cX8_whose 82 = .ok (.ireturn, 1) := by decide +kernel
theorem dX8_whose_83 : decode cX8_whose 83 = .ok (.aload_n 0, 1) := by decide +kernel
theorem dX8_whose_84 : decode cX8_whose 84 = .ok (.getfield 33, 3) := by decide +kernel
theorem dX8_whose_87 : decode cX8_whose 87 = .ok (.aload 5, 2) := by decide +kernel
theorem dX8_whose_89 : decode cX8_whose 89 = .ok (.iload_n 2, 1) := by decide +kernel
theorem dX8_whose_90 : decode cX8_whose 90 = .ok (.invokevirtual 240, 3) := by decide +kernel
theorem dX8_whose_93 : decode cX8_whose 93 = .ok (.aload_n 0, 1) := by decide +kernel
theorem dX8_whose_94 : decode cX8_whose 94 = .ok (.aload_n 0, 1) := by decide +kernel
theorem dX8_whose_95 : decode cX8_whose 95 = .ok (.iload_n 3, 1) := by decide +kernel
theorem dX8_whose_96 : decode cX8_whose 96 = .ok (.iload 4, 2) := by decide +kernel
theorem dX8_whose_98 : decode cX8_whose 98 = .ok (.invokevirtual 271, 3) := by decide +kernel
theorem dX8_whose_101 : decode cX8_whose 101 = .ok (.invokevirtual 90, 3) := by decide +kernel
theorem dX8_whose_104 : decode cX8_whose 104 = .ok (.ireturn, 1) := by decide +kernel
theorem dX8_next_0 : decode cX8_next 0 = .ok (.iload_n 1, 1) := by decide +kernel
theorem dX8_next_1 : decode cX8_next 1 = .ok (.invokestatic 125, 3) := by decide +kernel
theorem dX8_next_4 : decode cX8_next 4 = .ok (.ifCond .eq 30, 3) := by decide +kernel
theorem dX8_next_7 : decode cX8_next 7 = .ok (.iload_n 2, 1) := by decide +kernel
theorem dX8_next_8 : decode cX8_next 8 = .ok (.invokestatic 149, 3) := by decide +kernel
theorem dX8_next_11 : decode cX8_next 11 = .ok (.ifCond .eq 23, 3) := by decide +kernel
theorem dX8_next_14 : decode cX8_next 14 = .ok (.iload_n 3, 1) := by decide +kernel
theorem dX8_next_15 : decode cX8_next 15 = .ok (.invokestatic 149, 3) := by decide +kernel
theorem dX8_next_18 : decode cX8_next 18 = .ok (.ifCond .eq 16, 3) := by decide +kernel
theorem dX8_next_21 : decode cX8_next 21 = .ok (.iload_n 2, 1) := by decide +kernel
theorem dX8_next_22 : decode cX8_next 22 = .ok (.iload_n 3, 1) := by decide +kernel
theorem dX8_next_23 : decode cX8_next 23 = .ok (.if_icmp .eq 11, 3) := by decide +kernel
theorem dX8_next_26 : decode cX8_next 26 = .ok (.iload 4, 2) := by decide +kernel
theorem dX8_next_28 : decode cX8_next 28 = .ok (.invokestatic 204, 3) := by decide +kernel
theorem dX8_next_31 : decode cX8_next 31 = .ok (.ifCond .ne 6, 3) := by decide +kernel
theorem dX8_next_34 : decode cX8_next 34 = .ok (.ldc 81, 2) := by decide +kernel
theorem dX8_next_36 : decode cX8_next 36 = .ok (.ireturn, 1) := by decide +kernel
theorem dX8_next_37 : decode cX8_next 37 = .ok (.aload_n 0, 1) := by decide +kernel
theorem dX8_next_38 : decode cX8_next 38 = .ok (.iload_n 1, 1) := by decide +kernel
theorem dX8_next_39 : decode cX8_next 39 = .ok (.invokevirtual 142, 3) := by decide +kernel
theorem dX8_next_42 : decode cX8_next 42 = .ok (.astore 5, 2) := by decide +kernel
theorem dX8_next_44 : decode cX8_next 44 = .ok (.aload 5, 2) := by decide +kernel
theorem dX8_next_46 : decode cX8_next 46 = .ok (.ifnonnull 9, 3) := by decide +kernel
theorem dX8_next_49 : decode cX8_next 49 = .ok (.aload_n 0, 1) := by decide +kernel
theorem dX8_next_50 : decode cX8_next 50 = .ok (.iconst 1, 1) := by decide +kernel
theorem dX8_next_51 : decode cX8_next 51 = .ok (.invokevirtual 82, 3) := by decide +kernel
theorem dX8_next_54 : decode cX8_next 54 = .ok (.ireturn, 1) := by decide +kernel
theorem dX8_next_55 : decode cX8_next 55 = .ok (.aload_n 0, 1) := by decide +kernel
theorem dX8_next_56 : decode cX8_next 56 = .ok (.getfield 28, 3) := by decide +kernel
theorem dX8_next_59 : decode cX8_next 59 = .ok (.aload 5, 2) := by decide +kernel
theorem dX8_next_61 : decode cX8_next 61 = .ok (.invokevirtual 155, 3) := by decide +kernel
theorem dX8_next_64 : decode cX8_next 64 = .ok (.aload_n 0, 1) := by decide +kernel
theorem dX8_next_65 : decode cX8_next 65 = .ok (.aload_n 0, 1) := by decide +kernel
theorem dX8_next_66 : decode cX8_next 66 = .ok (.iload_n 2, 1) := by decide +kernel
theorem dX8_next_67 : decode cX8_next 67 = .ok (.iload_n 3, 1) := by decide +kernel
theorem dX8_next_68 : decode cX8_next 68 = .ok (.iload 4, 2) := by decide +kernel
theorem dX8_next_70 : decode cX8_next 70 = .ok (.invokevirtual 274, 3) := by decide +kernel
theorem dX8_next_73 : decode cX8_next 73 = .ok (.invokevirtual 90, 3) := by decide +kernel
theorem dX8_next_76 : decode cX8_next 76 = .ok (.ireturn, 1) := by decide +kernel
theorem dX8_run_0 : decode cX8_run 0 = .ok (.iload_n 1, 1) := by decide +kernel
theorem dX8_run_1 : decode cX8_run 1 = .ok (.invokestatic 125, 3) := by decide +kernel
theorem dX8_run_4 : decode cX8_run 4 = .ok (.ifCond .eq 43, 3) := by decide +kernel
theorem dX8_run_7 : decode cX8_run 7 = .ok (.iload_n 2, 1) := by decide +kernel
theorem dX8_run_8 : decode cX8_run 8 = .ok (.invokestatic 204, 3) := by decide +kernel
theorem dX8_run_11 : decode cX8_run 11 = .ok (.ifCond .eq 36, 3) := by decide +kernel
theorem dX8_run_14 : decode cX8_run 14 = .ok (.iload_n 3, 1) := by decide +kernel
theorem dX8_run_15 : decode cX8_run 15 = .ok (.iconst 0, 1) := by decide +kernel
theorem dX8_run_16 : decode cX8_run 16 = .ok (.sipush 1000, 3) := by decide +kernel
theorem dX8_run_19 : decode cX8_run 19 = .ok (.invokestatic 77, 3) := by decide +kernel
theorem dX8_run_22 : decode cX8_run 22 = .ok (.ifCond .eq 25, 3) := by decide +kernel
theorem dX8_run_25 : decode cX8_run 25 = .ok (.iload 4, 2) := by decide +kernel
theorem dX8_run_27 : decode cX8_run 27 = .ok (.iconst 0, 1) := by decide +kernel
theorem dX8_run_28 : decode cX8_run 28 = .ok (.bipush 7, 2) := by decide +kernel
theorem dX8_run_30 : decode cX8_run 30 = .ok (.invokestatic 77, 3) := by decide +kernel
theorem dX8_run_33 : decode cX8_run 33 = .ok (.ifCond .eq 14, 3) := by decide +kernel
theorem dX8_run_36 : decode cX8_run 36 = .ok (.iload 6, 2) := by decide +kernel
theorem dX8_run_38 : decode cX8_run 38 = .ok (.iconst 1, 1) := by decide +kernel
theorem dX8_run_39 : decode cX8_run 39 = .ok (.bipush 10, 2) := by decide +kernel
theorem dX8_run_41 : decode cX8_run 41 = .ok (.invokestatic 77, 3) := by decide +kernel
theorem dX8_run_44 : decode cX8_run 44 = .ok (.ifCond .ne 6, 3) := by decide +kernel
theorem dX8_run_47 : decode cX8_run 47 = .ok (.ldc 81, 2) := by decide +kernel
theorem dX8_run_49 : decode cX8_run 49 = .ok (.ireturn, 1) := by decide +kernel
theorem dX8_run_50 : decode cX8_run 50 = .ok (.aload_n 0, 1) := by decide +kernel
theorem dX8_run_51 : decode cX8_run 51 = .ok (.iload_n 1, 1) := by decide +kernel
theorem dX8_run_52 : decode cX8_run 52 = .ok (.invokevirtual 142, 3) := by decide +kernel
theorem dX8_run_55 : decode cX8_run 55 = .ok (.astore 7, 2) := by decide +kernel
theorem dX8_run_57 : decode cX8_run 57 = .ok (.aload_n 0, 1) := by decide +kernel
theorem dX8_run_58 : decode cX8_run 58 = .ok (.iload 4, 2) := by decide +kernel
theorem dX8_run_60 : decode cX8_run 60 = .ok (.invokevirtual 93, 3) := by decide +kernel
theorem dX8_run_63 : decode cX8_run 63 = .ok (.astore 8, 2) := by decide +kernel
theorem dX8_run_65 : decode cX8_run 65 = .ok (.aload 7, 2) := by decide +kernel
theorem dX8_run_67 : decode cX8_run 67 = .ok (.ifnull 8, 3) := by decide +kernel
theorem dX8_run_70 : decode cX8_run 70 = .ok (.aload 8, 2) := by decide +kernel
theorem dX8_run_72 : decode cX8_run 72 = .ok (.ifnonnull 9, 3) := by decide +kernel
theorem dX8_run_75 : decode cX8_run 75 = .ok (.aload_n 0, 1) := by decide +kernel
theorem dX8_run_76 : decode cX8_run 76 = .ok (.iconst 1, 1) := by decide +kernel
theorem dX8_run_77 : decode cX8_run 77 = .ok (.invokevirtual 82, 3) := by decide +kernel
theorem dX8_run_80 : decode cX8_run 80 = .ok (.ireturn, 1) := by decide +kernel
theorem dX8_run_81 : decode cX8_run 81 = .ok (.aload 8, 2) := by decide +kernel
theorem dX8_run_83 : decode cX8_run 83 = .ok (.iload 5, 2) := by decide +kernel
theorem dX8_run_85 : decode cX8_run 85 = .ok (.iconst 3, 1) := by decide +kernel
theorem dX8_run_86 : decode cX8_run 86 = .ok (.iload 6, 2) := by decide +kernel
theorem dX8_run_88 : decode cX8_run 88 = .ok (.imul, 1) := by decide +kernel
theorem dX8_run_89 : decode cX8_run 89 = .ok (.invokevirtual 97, 3) := by decide +kernel
theorem dX8_run_92 : decode cX8_run 92 = .ok (.ifCond .ne 9, 3) := by decide +kernel
theorem dX8_run_95 : decode cX8_run 95 = .ok (.aload_n 0, 1) := by decide +kernel
theorem dX8_run_96 : decode cX8_run 96 = .ok (.iconst 2, 1) := by decide +kernel
theorem dX8_run_97 : decode cX8_run 97 = .ok (.invokevirtual 82, 3) := by decide +kernel
theorem dX8_run_100 : decode cX8_run 100 = .ok (.ireturn, 1) := by decide +kernel
theorem dX8_run_101 : decode cX8_run 101 = .ok (.aload_n 0, 1) := by decide +kernel
theorem dX8_run_102 : decode cX8_run 102 = .ok (.getfield 61, 3) := by decide +kernel
theorem dX8_run_105 : decode cX8_run 105 = .ok (.aload 8, 2) := by decide +kernel
theorem dX8_run_107 : decode cX8_run 107 = .ok (.iload 5, 2) := by decide +kernel
theorem dX8_run_109 : decode cX8_run 109 = .ok (.iload 6, 2) := by decide +kernel
theorem dX8_run_111 : decode cX8_run 111 = .ok (.invokevirtual 277, 3) := by decide +kernel
theorem dX8_run_114 : decode cX8_run 114 = .ok (.ifCond .ne 6, 3) := by decide +kernel
theorem dX8_run_117 : decode cX8_run 117 = .ok (.ldc 81, 2) := by decide +kernel
theorem dX8_run_119 : decode cX8_run 119 = .ok (.ireturn, 1) := by decide +kernel
theorem dX8_run_120 : decode cX8_run 120 = .ok (.aload_n 0, 1) := by decide +kernel
theorem dX8_run_121 : decode cX8_run 121 = .ok (.getfield 61, 3) := by decide +kernel
theorem dX8_run_124 : decode cX8_run 124 = .ok (.aload 7, 2) := by decide +kernel
theorem dX8_run_126 : decode cX8_run 126 = .ok (.iload_n 2, 1) := by decide +kernel
theorem dX8_run_127 : decode cX8_run 127 = .ok (.aload_n 0, 1) := by decide +kernel
theorem dX8_run_128 : decode cX8_run 128 = .ok (.getfield 47, 3) := by decide +kernel
theorem dX8_run_131 : decode cX8_run 131 = .ok (.invokevirtual 281, 3) := by decide +kernel
theorem dX8_run_134 : decode cX8_run 134 = .ok (.aload_n 0, 1) := by decide +kernel
theorem dX8_run_135 : decode cX8_run 135 = .ok (.aload_n 0, 1) := by decide +kernel
theorem dX8_run_136 : decode cX8_run 136 = .ok (.getfield 61, 3) := by decide +kernel
theorem dX8_run_139 : decode cX8_run 139 = .ok (.iload_n 3, 1) := by decide +kernel
theorem dX8_run_140 : decode cX8_run 140 = .ok (.invokevirtual 285, 3) := by decide +kernel
theorem dX8_run_143 : decode cX8_run 143 = .ok (.invokevirtual 90, 3) := by decide +kernel
theorem dX8_run_146 : decode cX8_run 146 = .ok (.ireturn, 1) := by decide +kernel
theorem dX8_plan_0 : decode cX8_plan 0 = .ok (.iload_n 2, 1) := by decide +kernel
theorem dX8_plan_1 : decode cX8_plan 1 = .ok (.iconst 0, 1) := by decide +kernel
theorem dX8_plan_2 : decode cX8_plan 2 = .ok (.iconst 3, 1) := by decide +kernel
theorem dX8_plan_3 : decode cX8_plan 3 = .ok (.invokestatic 77, 3) := by decide +kernel
theorem dX8_plan_6 : decode cX8_plan 6 = .ok (.ifCond .ne 6, 3) := by decide +kernel
theorem dX8_plan_9 : decode cX8_plan 9 = .ok (.ldc 81, 2) := by decide +kernel
theorem dX8_plan_11 : decode cX8_plan 11 = .ok (.ireturn, 1) := by decide +kernel
theorem dX8_plan_12 : decode cX8_plan 12 = .ok (.aload_n 0, 1) := by decide +kernel
theorem dX8_plan_13 : decode cX8_plan 13 = .ok (.getfield 61, 3) := by decide +kernel
theorem dX8_plan_16 : decode cX8_plan 16 = .ok (.getfield 288, 3) := by decide +kernel
theorem dX8_plan_19 : decode cX8_plan 19 = .ok (.ifCond .ne 6, 3) := by decide +kernel
theorem dX8_plan_22 : decode cX8_plan 22 = .ok (.ldc 252, 2) := by decide +kernel
theorem dX8_plan_24 : decode cX8_plan 24 = .ok (.ireturn, 1) := by decide +kernel
theorem dX8_plan_25 : decode cX8_plan 25 = .ok (.iload_n 1, 1) := by decide +kernel
theorem dX8_plan_26 : decode cX8_plan 26 = .ok (.iconst 0, 1) := by decide +kernel
theorem dX8_plan_27 : decode cX8_plan 27 = .ok (.aload_n 0, 1) := by decide +kernel
theorem dX8_plan_28 : decode cX8_plan 28 = .ok (.getfield 61, 3) := by decide +kernel
theorem dX8_plan_31 : decode cX8_plan 31 = .ok (.getfield 288, 3) := by decide +kernel
theorem dX8_plan_34 : decode cX8_plan 34 = .ok (.iconst 1, 1) := by decide +kernel
theorem dX8_plan_35 : decode cX8_plan 35 = .ok (.isub, 1) := by decide +kernel
theorem dX8_plan_36 : decode cX8_plan 36 = .ok (.invokestatic 77, 3) := by decide +kernel
theorem dX8_plan_39 : decode cX8_plan 39 = .ok (.ifCond .eq 19, 3) := by decide +kernel
theorem dX8_plan_42 : decode cX8_plan 42 = .ok (.aload_n 0, 1) := by decide +kernel
theorem dX8_plan_43 : decode cX8_plan 43 = .ok (.getfield 61, 3) := by decide +kernel
theorem dX8_plan_46 : decode cX8_plan 46 = .ok (.getfield 291, 3) := by decide +kernel
theorem dX8_plan_49 : decode cX8_plan 49 = .ok (.iconst 4, 1) := by decide +kernel
theorem dX8_plan_50 : decode cX8_plan 50 = .ok (.iload_n 1, 1) := by decide +kernel
theorem dX8_plan_51 : decode cX8_plan 51 = .ok (.imul, 1) := by decide +kernel
theorem dX8_plan_52 : decode cX8_plan 52 = .ok (.iload_n 2, 1) := by decide +kernel
theorem dX8_plan_53 : decode cX8_plan 53 = .ok (.iadd, 1) := by decide +kernel
theorem dX8_plan_54 : decode cX8_plan 54 = .ok (.iaload, 1) := by decide +kernel
theorem dX8_plan_55 : decode cX8_plan 55 = .ok (.goto 6, 3) := by decide +kernel
theorem dX8_plan_58 : decode cX8_plan 58 = .ok (.ldc_w 293, 3) := by decide +kernel
theorem dX8_plan_61 : decode cX8_plan 61 = .ok (.ireturn, 1) := by decide +kernel
theorem dX8_stoke_0 : decode cX8_stoke 0 = .ok (.iload_n 1, 1) := by decide +kernel
theorem dX8_stoke_1 : decode cX8_stoke 1 = .ok (.iconst 1, 1) := by decide +kernel
theorem dX8_stoke_2 : decode cX8_stoke 2 = .ok (.sipush 1000, 3) := by decide +kernel
theorem dX8_stoke_5 : decode cX8_stoke 5 = .ok (.invokestatic 77, 3) := by decide +kernel
theorem dX8_stoke_8 : decode cX8_stoke 8 = .ok (.ifCond .ne 6, 3) := by decide +kernel
theorem dX8_stoke_11 : decode cX8_stoke 11 = .ok (.ldc 81, 2) := by decide +kernel
theorem dX8_stoke_13 : decode cX8_stoke 13 = .ok (.ireturn, 1) := by decide +kernel
theorem dX8_stoke_14 : decode cX8_stoke 14 = .ok (.aload_n 0, 1) := by decide +kernel
theorem dX8_stoke_15 : decode cX8_stoke 15 = .ok (.getfield 68, 3) := by decide +kernel
theorem dX8_stoke_18 : decode cX8_stoke 18 = .ok (.getfield 294, 3) := by decide +kernel
theorem dX8_stoke_21 : decode cX8_stoke 21 = .ok (.iload_n 1, 1) := by decide +kernel
theorem dX8_stoke_22 : decode cX8_stoke 22 = .ok (.iadd, 1) := by decide +kernel
theorem dX8_stoke_23 : decode cX8_stoke 23 = .ok (.sipush 10000, 3) := by decide +kernel
theorem dX8_stoke_26 : decode cX8_stoke 26 = .ok (.if_icmp .le 7, 3) := by decide +kernel
theorem dX8_stoke_29 : decode cX8_stoke 29 = .ok (.ldc_w 297, 3) := by decide +kernel
theorem dX8_stoke_32 : decode cX8_stoke 32 = .ok (.ireturn, 1) := by decide +kernel
theorem dX8_stoke_33 : decode cX8_stoke 33 = .ok (.aload_n 0, 1) := by decide +kernel
theorem dX8_stoke_34 : decode cX8_stoke 34 = .ok (.getfield 68, 3) := by decide +kernel
theorem dX8_stoke_37 : decode cX8_stoke 37 = .ok (.dup, 1) := by decide +kernel
theorem dX8_stoke_38 : decode cX8_stoke 38 = .ok (.getfield 294, 3) := by decide +kernel
theorem dX8_stoke_41 : decode cX8_stoke 41 = .ok (.iload_n 1, 1) := by decide +kernel
theorem dX8_stoke_42 : decode cX8_stoke 42 = .ok (.iadd, 1) := by decide +kernel
theorem dX8_stoke_43 : decode cX8_stoke 43 = .ok (.putfield 294, 3) := by decide +kernel
theorem dX8_stoke_46 : decode cX8_stoke 46 = .ok (.aload_n 0, 1) := by decide +kernel
theorem dX8_stoke_47 : decode cX8_stoke 47 = .ok (.getfield 68, 3) := by decide +kernel
theorem dX8_stoke_50 : decode cX8_stoke 50 = .ok (.getfield 294, 3) := by decide +kernel
theorem dX8_stoke_53 : decode cX8_stoke 53 = .ok (.ireturn, 1) := by decide +kernel
theorem dX8_minute_0 : decode cX8_minute 0 = .ok (.iload_n 1, 1) := by decide +kernel
theorem dX8_minute_1 : decode cX8_minute 1 = .ok (.invokestatic 125, 3) := by decide +kernel
theorem dX8_minute_4 : decode cX8_minute 4 = .ok (.ifCond .eq 17, 3) := by decide +kernel
theorem dX8_minute_7 : decode cX8_minute 7 = .ok (.iload_n 2, 1) := by decide +kernel
theorem dX8_minute_8 : decode cX8_minute 8 = .ok (.invokestatic 166, 3) := by decide +kernel
theorem dX8_minute_11 : decode cX8_minute 11 = .ok (.ifCond .eq 10, 3) := by decide +kernel
theorem dX8_minute_14 : decode cX8_minute 14 = .ok (.iload_n 3, 1) := by decide +kernel
theorem dX8_minute_15 : decode cX8_minute 15 = .ok (.invokestatic 207, 3) := by decide +kernel
theorem dX8_minute_18 : decode cX8_minute 18 = .ok (.ifCond .ne 6, 3) := by decide +kernel
theorem dX8_minute_21 : decode cX8_minute 21 = .ok (.ldc 81, 2) := by decide +kernel
theorem dX8_minute_23 : decode cX8_minute 23 = .ok (.ireturn, 1) := by decide +kernel
theorem dX8_minute_24 : decode cX8_minute 24 = .ok (.aload_n 0, 1) := by decide +kernel
theorem dX8_minute_25 : decode cX8_minute 25 = .ok (.iload_n 1, 1) := by decide +kernel
theorem dX8_minute_26 : decode cX8_minute 26 = .ok (.invokevirtual 142, 3) := by decide +kernel
theorem dX8_minute_29 : decode cX8_minute 29 = .ok (.astore 4, 2) := by decide +kernel
theorem dX8_minute_31 : decode cX8_minute 31 = .ok (.aload 4, 2) := by decide +kernel
theorem dX8_minute_33 : decode cX8_minute 33 = .ok (.ifnonnull 9, 3) := by decide +kernel
theorem dX8_minute_36 : decode cX8_minute 36 = .ok (.aload_n 0, 1) := by decide +kernel
theorem dX8_minute_37 : decode cX8_minute 37 = .ok (.iconst 1, 1) := by decide +kernel
theorem dX8_minute_38 : decode cX8_minute 38 = .ok (.invokevirtual 82, 3) := by decide +kernel
theorem dX8_minute_41 : decode cX8_minute 41 = .ok (.ireturn, 1) := by decide +kernel
theorem dX8_minute_42 : decode cX8_minute 42 = .ok (.aload_n 0, 1) := by decide +kernel
theorem dX8_minute_43 : decode cX8_minute 43 = .ok (.getfield 68, 3) := by decide +kernel
theorem dX8_minute_46 : decode cX8_minute 46 = .ok (.invokevirtual 298, 3) := by decide +kernel
theorem dX8_minute_49 : decode cX8_minute 49 = .ok (.aload_n 0, 1) := by decide +kernel
theorem dX8_minute_50 : decode cX8_minute 50 = .ok (.getfield 47, 3) := by decide +kernel
theorem dX8_minute_53 : decode cX8_minute 53 = .ok (.aload 4, 2) := by decide +kernel
theorem dX8_minute_55 : decode cX8_minute 55 = .ok (.iload_n 2, 1) := by decide +kernel
theorem dX8_minute_56 : decode cX8_minute 56 = .ok (.aload_n 0, 1) := by decide +kernel
theorem dX8_minute_57 : decode cX8_minute 57 = .ok (.getfield 68, 3) := by decide +kernel
theorem dX8_minute_60 : decode cX8_minute 60 = .ok (.getfield 301, 3) := by decide +kernel
theorem dX8_minute_63 : decode cX8_minute 63 = .ok (.sipush 2000, 3) := by decide +kernel
theorem dX8_minute_66 : decode cX8_minute 66 = .ok (.invokestatic 304, 3) := by decide +kernel
theorem dX8_minute_69 : decode cX8_minute 69 = .ok (.iload_n 3, 1) := by decide +kernel
theorem dX8_minute_70 : decode cX8_minute 70 = .ok (.invokevirtual 226, 3) := by decide +kernel
theorem dX8_minute_73 : decode cX8_minute 73 = .ok (.aload_n 0, 1) := by decide +kernel
theorem dX8_minute_74 : decode cX8_minute 74 = .ok (.getfield 68, 3) := by decide +kernel
theorem dX8_minute_77 : decode cX8_minute 77 = .ok (.aload_n 0, 1) := by decide +kernel
theorem dX8_minute_78 : decode cX8_minute 78 = .ok (.getfield 47, 3) := by decide +kernel
theorem dX8_minute_81 : decode cX8_minute 81 = .ok (.getfield 233, 3) := by decide +kernel
theorem dX8_minute_84 : decode cX8_minute 84 = .ok (.bipush 100, 2) := by decide +kernel
theorem dX8_minute_86 : decode cX8_minute 86 = .ok (.idiv, 1) := by decide +kernel
theorem dX8_minute_87 : decode cX8_minute 87 = .ok (.invokevirtual 309, 3) := by decide +kernel
theorem dX8_minute_90 : decode cX8_minute 90 = .ok (.aload_n 0, 1) := by decide +kernel
theorem dX8_minute_91 : decode cX8_minute 91 = .ok (.getfield 68, 3) := by decide +kernel
theorem dX8_minute_94 : decode cX8_minute 94 = .ok (.invokevirtual 313, 3) := by decide +kernel
theorem dX8_minute_97 : decode cX8_minute 97 = .ok (.aload_n 0, 1) := by decide +kernel
theorem dX8_minute_98 : decode cX8_minute 98 = .ok (.aload_n 0, 1) := by decide +kernel
theorem dX8_minute_99 : decode cX8_minute 99 = .ok (.getfield 68, 3) := by decide +kernel
theorem dX8_minute_102 : decode cX8_minute 102 = .ok (.getfield 301, 3) := by decide +kernel
theorem dX8_minute_105 : decode cX8_minute 105 = .ok (.invokevirtual 90, 3) := by decide +kernel
theorem dX8_minute_108 : decode cX8_minute 108 = .ok (.ireturn, 1) := by decide +kernel
theorem dX8_fire_0 : decode cX8_fire 0 = .ok (.iload_n 1, 1) := by decide +kernel
theorem dX8_fire_1 : decode cX8_fire 1 = .ok (.iconst 0, 1) := by decide +kernel
theorem dX8_fire_2 : decode cX8_fire 2 = .ok (.iconst 5, 1) := by decide +kernel
theorem dX8_fire_3 : decode cX8_fire 3 = .ok (.invokestatic 77, 3) := by decide +kernel
theorem dX8_fire_6 : decode cX8_fire 6 = .ok (.ifCond .eq 14, 3) := by decide +kernel
theorem dX8_fire_9 : decode cX8_fire 9 = .ok (.aload_n 0, 1) := by decide +kernel
theorem dX8_fire_10 : decode cX8_fire 10 = .ok (.getfield 68, 3) := by decide +kernel
theorem dX8_fire_13 : decode cX8_fire 13 = .ok (.iload_n 1, 1) := by decide +kernel
theorem dX8_fire_14 : decode cX8_fire 14 = .ok (.invokevirtual 316, 3) := by decide +kernel
theorem dX8_fire_17 : decode cX8_fire 17 = .ok (.goto 5, 3) := by decide +kernel
theorem dX8_fire_20 : decode cX8_fire 20 = .ok (.ldc 81, 2) := by decide +kernel
theorem dX8_fire_22 : decode cX8_fire 22 = .ok (.ireturn, 1) := by decide +kernel
theorem dX8_kind_0 : decode cX8_kind 0 = .ok (.iload_n 1, 1) := by decide +kernel
theorem dX8_kind_1 : decode cX8_kind 1 = .ok (.invokestatic 125, 3) := by decide +kernel
theorem dX8_kind_4 : decode cX8_kind 4 = .ok (.ifCond .ne 6, 3) := by decide +kernel
theorem dX8_kind_7 : decode cX8_kind 7 = .ok (.ldc 81, 2) := by decide +kernel
theorem dX8_kind_9 : decode cX8_kind 9 = .ok (.ireturn, 1) := by decide +kernel
theorem dX8_kind_10 : decode cX8_kind 10 = .ok (.aload_n 0, 1) := by decide +kernel
theorem dX8_kind_11 : decode cX8_kind 11 = .ok (.iload_n 1, 1) := by decide +kernel
theorem dX8_kind_12 : decode cX8_kind 12 = .ok (.invokevirtual 142, 3) := by decide +kernel
theorem dX8_kind_15 : decode cX8_kind 15 = .ok (.astore_n 2, 1) := by decide +kernel
theorem dX8_kind_16 : decode cX8_kind 16 = .ok (.aload_n 2, 1) := by decide +kernel
theorem dX8_kind_17 : decode cX8_kind 17 = .ok (.ifnonnull 9, 3) := by decide +kernel
theorem dX8_kind_20 : decode cX8_kind 20 = .ok (.aload_n 0, 1) := by decide +kernel
theorem dX8_kind_21 : decode cX8_kind 21 = .ok (.iconst 1, 1) := by decide +kernel
theorem dX8_kind_22 : decode cX8_kind 22 = .ok (.invokevirtual 82, 3) := by decide +kernel
theorem dX8_kind_25 : decode cX8_kind 25 = .ok (.ireturn, 1) := by decide +kernel
theorem dX8_kind_26 : decode cX8_kind 26 = .ok (.aload_n 0, 1) := by decide +kernel
theorem dX8_kind_27 : decode cX8_kind 27 = .ok (.aload_n 0, 1) := by decide +kernel
theorem dX8_kind_28 : decode cX8_kind 28 = .ok (.aload_n 2, 1) := by decide +kernel
theorem dX8_kind_29 : decode cX8_kind 29 = .ok (.invokevirtual 319, 3) := by decide +kernel
theorem dX8_kind_32 : decode cX8_kind 32 = .ok (.invokevirtual 90, 3) := by decide +kernel
theorem dX8_kind_35 : decode cX8_kind 35 = .ok (.ireturn, 1) := by decide +kernel
theorem dX8_is_0 : decode cX8_is 0 = .ok (.iload_n 1, 1) := by decide +kernel
theorem dX8_is_1 : decode cX8_is 1 = .ok (.invokestatic 125, 3) := by decide +kernel
theorem dX8_is_4 : decode cX8_is 4 = .ok (.ifCond .eq 12, 3) := by decide +kernel
theorem dX8_is_7 : decode cX8_is 7 = .ok (.iload_n 2, 1) := by decide +kernel
theorem dX8_is_8 : decode cX8_is 8 = .ok (.iconst 0, 1) := by decide +kernel
theorem dX8_is_9 : decode cX8_is 9 = .ok (.iconst 4, 1) := by decide +kernel
theorem dX8_is_10 : decode cX8_is 10 = .ok (.invokestatic 77, 3) := by decide +kernel
theorem dX8_is_13 : decode cX8_is 13 = .ok (.ifCond .ne 6, 3) := by decide +kernel
theorem dX8_is_16 : decode cX8_is 16 = .ok (.ldc 81, 2) := by decide +kernel
theorem dX8_is_18 : decode cX8_is 18 = .ok (.ireturn, 1) := by decide +kernel
theorem dX8_is_19 : decode cX8_is 19 = .ok (.aload_n 0, 1) := by decide +kernel
theorem dX8_is_20 : decode cX8_is 20 = .ok (.iload_n 1, 1) := by decide +kernel
theorem dX8_is_21 : decode cX8_is 21 = .ok (.invokevirtual 142, 3) := by decide +kernel
theorem dX8_is_24 : decode cX8_is 24 = .ok (.astore_n 3, 1) := by decide +kernel
theorem dX8_is_25 : decode cX8_is 25 = .ok (.aload_n 3, 1) := by decide +kernel
theorem dX8_is_26 : decode cX8_is 26 = .ok (.ifnull 19, 3) := by decide +kernel
theorem dX8_is_29 : decode cX8_is 29 = .ok (.aload_n 0, 1) := by decide +kernel
theorem dX8_is_30 : decode cX8_is 30 = .ok (.aload_n 3, 1) := by decide +kernel
theorem dX8_is_31 : decode cX8_is 31 = .ok (.invokevirtual 319, 3) := by decide +kernel
theorem dX8_is_34 : decode cX8_is 34 = .ok (.iload_n 2, 1) := by decide +kernel
theorem dX8_is_35 : decode cX8_is 35 = .ok (.invokestatic 322, 3) := by decide +kernel
theorem dX8_is_38 : decode cX8_is 38 = .ok (.ifCond .eq 7, 3) := by decide +kernel
theorem dX8_is_41 : decode cX8_is 41 = .ok (.iconst 1, 1) := by decide +kernel
theorem dX8_is_42 : decode cX8_is 42 = .ok (.goto 4, 3) := by decide +kernel
theorem dX8_is_45 : decode cX8_is 45 = .ok (.iconst 0, 1) := by decide +kernel
theorem dX8_is_46 : decode cX8_is 46 = .ok (.ireturn, 1) := by decide +kernel
theorem dX8_as_0 : decode cX8_as 0 = .ok (.iload_n 1, 1) := by decide +kernel
theorem dX8_as_1 : decode cX8_as 1 = .ok (.invokestatic 125, 3) := by decide +kernel
theorem dX8_as_4 : decode cX8_as 4 = .ok (.ifCond .eq 12, 3) := by decide +kernel
theorem dX8_as_7 : decode cX8_as 7 = .ok (.iload_n 2, 1) := by decide +kernel
theorem dX8_as_8 : decode cX8_as 8 = .ok (.iconst 0, 1) := by decide +kernel
theorem dX8_as_9 : decode cX8_as 9 = .ok (.iconst 4, 1) := by decide +kernel
theorem dX8_as_10 : decode cX8_as 10 = .ok (.invokestatic 77, 3) := by decide +kernel
theorem dX8_as_13 : decode cX8_as 13 = .ok (.ifCond .ne 6, 3) := by decide +kernel
theorem dX8_as_16 : decode cX8_as 16 = .ok (.ldc 81, 2) := by decide +kernel
theorem dX8_as_18 : decode cX8_as 18 = .ok (.ireturn, 1) := by decide +kernel
theorem dX8_as_19 : decode cX8_as 19 = .ok (.aload_n 0, 1) := by decide +kernel
theorem dX8_as_20 : decode cX8_as 20 = .ok (.iload_n 1, 1) := by decide +kernel
theorem dX8_as_21 : decode cX8_as 21 = .ok (.invokevirtual 142, 3) := by decide +kernel
theorem dX8_as_24 : decode cX8_as 24 = .ok (.astore_n 3, 1) := by decide +kernel
theorem dX8_as_25 : decode cX8_as 25 = .ok (.aload_n 3, 1) := by decide +kernel
theorem dX8_as_26 : decode cX8_as 26 = .ok (.ifnonnull 9, 3) := by decide +kernel
theorem dX8_as_29 : decode cX8_as 29 = .ok (.aload_n 0, 1) := by decide +kernel
theorem dX8_as_30 : decode cX8_as 30 = .ok (.iconst 1, 1) := by decide +kernel
theorem dX8_as_31 : decode cX8_as 31 = .ok (.invokevirtual 82, 3) := by decide +kernel
theorem dX8_as_34 : decode cX8_as 34 = .ok (.ireturn, 1) := by decide +kernel
theorem dX8_as_35 : decode cX8_as 35 = .ok (.aload_n 0, 1) := by decide +kernel
theorem dX8_as_36 : decode cX8_as 36 = .ok (.aload_n 3, 1) := by decide +kernel
theorem dX8_as_37 : decode cX8_as 37 = .ok (.invokevirtual 319, 3) := by decide +kernel
theorem dX8_as_40 : decode cX8_as 40 = .ok (.iload_n 2, 1) := by decide +kernel
theorem dX8_as_41 : decode cX8_as 41 = .ok (.invokestatic 322, 3) := by decide +kernel
theorem dX8_as_44 : decode cX8_as 44 = .ok (.ifCond .ne 9, 3) := by decide +kernel
theorem dX8_as_47 : decode cX8_as 47 = .ok (.aload_n 0, 1) := by decide +kernel
theorem dX8_as_48 : decode cX8_as 48 = .ok (.iconst 3, 1) := by decide +kernel
theorem dX8_as_49 : decode cX8_as 49 = .ok (.invokevirtual 82, 3) := by decide +kernel
theorem dX8_as_52 : decode cX8_as 52 = .ok (.ireturn, 1) := by decide +kernel
theorem dX8_as_53 : decode cX8_as 53 = .ok (.aload_n 0, 1) := by decide +kernel
theorem dX8_as_54 : decode cX8_as 54 = .ok (.aload_n 3, 1) := by decide +kernel
theorem dX8_as_55 : decode cX8_as 55 = .ok (.getfield 146, 3) := by decide +kernel
theorem dX8_as_58 : decode cX8_as 58 = .ok (.iconst 1, 1) := by decide +kernel
theorem dX8_as_59 : decode cX8_as 59 = .ok (.iaload, 1) := by decide +kernel
theorem dX8_as_60 : decode cX8_as 60 = .ok (.invokevirtual 90, 3) := by decide +kernel
theorem dX8_as_63 : decode cX8_as 63 = .ok (.ireturn, 1) := by decide +kernel
theorem dX8_ask_0 : decode cX8_ask 0 = .ok (.iload_n 1, 1) := by decide +kernel
theorem dX8_ask_1 : decode cX8_ask 1 = .ok (.invokestatic 125, 3) := by decide +kernel
theorem dX8_ask_4 : decode cX8_ask 4 = .ok (.ifCond .eq 12, 3) := by decide +kernel
theorem dX8_ask_7 : decode cX8_ask 7 = .ok (.iload_n 2, 1) := by decide +kernel
theorem dX8_ask_8 : decode cX8_ask 8 = .ok (.iconst 0, 1) := by decide +kernel
theorem dX8_ask_9 : decode cX8_ask 9 = .ok (.iconst 1, 1) := by decide +kernel
theorem dX8_ask_10 : decode cX8_ask 10 = .ok (.invokestatic 77, 3) := by decide +kernel
theorem dX8_ask_13 : decode cX8_ask 13 = .ok (.ifCond .ne 6, 3) := by decide +kernel
theorem dX8_ask_16 : decode cX8_ask 16 = .ok (.ldc 81, 2) := by decide +kernel
theorem dX8_ask_18 : decode cX8_ask 18 = .ok (.ireturn, 1) := by decide +kernel
theorem dX8_ask_19 : decode cX8_ask 19 = .ok (.aload_n 0, 1) := by decide +kernel
theorem dX8_ask_20 : decode cX8_ask 20 = .ok (.iconst 0, 1) := by decide +kernel
theorem dX8_ask_21 : decode cX8_ask 21 = .ok (.putfield 325, 3) := by decide +kernel
theorem dX8_ask_24 : decode cX8_ask 24 = .ok (.aload_n 0, 1) := by decide +kernel
theorem dX8_ask_25 : decode cX8_ask 25 = .ok (.iload_n 1, 1) := by decide +kernel
theorem dX8_ask_26 : decode cX8_ask 26 = .ok (.invokevirtual 142, 3) := by decide +kernel
theorem dX8_ask_29 : decode cX8_ask 29 = .ok (.astore_n 3, 1) := by decide +kernel
theorem dX8_ask_30 : decode cX8_ask 30 = .ok (.aload_n 3, 1) := by decide +kernel
theorem dX8_ask_31 : decode cX8_ask 31 = .ok (.ifnonnull 9, 3) := by decide +kernel
theorem dX8_ask_34 : decode cX8_ask 34 = .ok (.aload_n 0, 1) := by decide +kernel
theorem dX8_ask_35 : decode cX8_ask 35 = .ok (.iconst 1, 1) := by decide +kernel
theorem dX8_ask_36 : decode cX8_ask 36 = .ok (.invokevirtual 82, 3) := by decide +kernel
theorem dX8_ask_39 : decode cX8_ask 39 = .ok (.ireturn, 1) := by decide +kernel
theorem dX8_ask_40 : decode cX8_ask 40 = .ok (.aload_n 0, 1) := by decide +kernel
theorem dX8_ask_41 : decode cX8_ask 41 = .ok (.aload_n 3, 1) := by decide +kernel
theorem dX8_ask_42 : decode cX8_ask 42 = .ok (.invokevirtual 319, 3) := by decide +kernel
theorem dX8_ask_45 : decode cX8_ask 45 = .ok (.istore 4, 2) := by decide +kernel
theorem dX8_ask_47 : decode cX8_ask 47 = .ok (.aload_n 0, 1) := by decide +kernel
theorem dX8_ask_48 : decode cX8_ask 48 = .ok (.iload_n 2, 1) := by decide +kernel
theorem dX8_ask_49 : decode cX8_ask 49 = .ok (.ifCond .ne 13, 3) := by decide +kernel
theorem dX8_ask_52 : decode cX8_ask 52 = .ok (.aload_n 0, 1) := by decide +kernel
theorem dX8_ask_53 : decode cX8_ask 53 = .ok (.aload_n 3, 1) := by decide +kernel
theorem dX8_ask_54 : decode cX8_ask 54 = .ok (.iload 4, 2) := by decide +kernel
theorem dX8_ask_56 : decode cX8_ask 56 = .ok (.invokevirtual 328, 3) := by decide +kernel
theorem dX8_ask_59 : decode cX8_ask 59 = .ok (.goto 10, 3) := by decide +kernel
theorem dX8_ask_62 : decode cX8_ask 62 = .ok (.aload_n 0, 1) := by decide +kernel
theorem dX8_ask_63 : decode cX8_ask 63 = .ok (.aload_n 3, 1) := by decide +kernel
theorem dX8_ask_64 : decode cX8_ask 64 = .ok (.iload 4, 2) := by decide +kernel
theorem dX8_ask_66 : decode cX8_ask 66 = .ok (.invokevirtual 332, 3) := by decide +kernel
theorem dX8_ask_69 : decode cX8_ask 69 = .ok (.invokevirtual 90, 3) := by decide +kernel
theorem dX8_ask_72 : decode cX8_ask 72 = .ok (.ireturn, 1) := by decide +kernel
theorem dX8_trace_0 : decode cX8_trace 0 = .ok (.iload_n 1, 1) := by decide +kernel
theorem dX8_trace_1 : decode cX8_trace 1 = .ok (.iconst 0, 1) := by decide +kernel
theorem dX8_trace_2 : decode cX8_trace 2 = .ok (.aload_n 0, 1) := by decide +kernel
theorem dX8_trace_3 : decode cX8_trace 3 = .ok (.getfield 325, 3) := by decide +kernel
theorem dX8_trace_6 : decode cX8_trace 6 = .ok (.iconst 1, 1) := by decide +kernel
theorem dX8_trace_7 : decode cX8_trace 7 = .ok (.isub, 1) := by decide +kernel
theorem dX8_trace_8 : decode cX8_trace 8 = .ok (.invokestatic 77, 3) := by decide +kernel
theorem dX8_trace_11 : decode cX8_trace 11 = .ok (.ifCond .eq 12, 3) := by decide +kernel
theorem dX8_trace_14 : decode cX8_trace 14 = .ok (.aload_n 0, 1) := by decide +kernel
theorem dX8_trace_15 : decode cX8_trace 15 = .ok (.getfield 72, 3) := by decide +kernel
theorem dX8_trace_18 : decode cX8_trace 18 = .ok (.iload_n 1, 1) := by decide +kernel
theorem dX8_trace_19 : decode cX8_trace 19 = .ok (.iaload, 1) := by decide +kernel
theorem dX8_trace_20 : decode cX8_trace 20 = .ok (.goto 6, 3) := by decide +kernel
theorem dX8_trace_23 : decode cX8_trace 23 = .ok (.ldc_w 293, 3) := by decide +kernel
theorem dX8_trace_26 : decode cX8_trace 26 = .ok (.ireturn, 1) := by decide +kernel
theorem dX8_count_0 : decode cX8_count 0 = .ok (.iload_n 1, 1) := by decide +kernel
theorem dX8_count_1 : decode cX8_count 1 = .ok (.iconst 0, 1) := by decide +kernel
theorem dX8_count_2 : decode cX8_count 2 = .ok (.bipush 7, 2) := by decide +kernel
theorem dX8_count_4 : decode cX8_count 4 = .ok (.invokestatic 77, 3) := by decide +kernel
theorem dX8_count_7 : decode cX8_count 7 = .ok (.ifCond .ne 6, 3) := by decide +kernel
theorem dX8_count_10 : decode cX8_count 10 = .ok (.ldc 81, 2) := by decide +kernel
theorem dX8_count_12 : decode cX8_count 12 = .ok (.ireturn, 1) := by decide +kernel
theorem dX8_count_13 : decode cX8_count 13 = .ok (.iload_n 1, 1) := by decide +kernel
theorem dX8_count_14 : decode cX8_count 14 = .ok (.tableswitch 82 0 6 #[42, 47, 53, 59, 65, 71, 77], 42) := by decide +kernel
theorem dX8_count_56 : decode cX8_count 56 = .ok (.aload_n 0, 1) := by decide +kernel
theorem dX8_count_57 : decode cX8_count 57 = .ok (.invokevirtual 335, 3) := by decide +kernel
theorem dX8_count_60 : decode cX8_count 60 = .ok (.ireturn, 1) := by decide +kernel
theorem dX8_count_61 : decode cX8_count 61 = .ok (.aload_n 0, 1) := by decide +kernel
theorem dX8_count_62 : decode cX8_count 62 = .ok (.iconst 0, 1) := by decide +kernel
theorem dX8_count_63 : decode cX8_count 63 = .ok (.invokevirtual 338, 3) := by decide +kernel
theorem dX8_count_66 : decode cX8_count 66 = .ok (.ireturn, 1) := by decide +kernel
theorem dX8_count_67 : decode cX8_count 67 = .ok (.aload_n 0, 1) := by decide +kernel
theorem dX8_count_68 : decode cX8_count 68 = .ok (.iconst 1, 1) := by decide +kernel
theorem dX8_count_69 : decode cX8_count 69 = .ok (.invokevirtual 338, 3) := by decide +kernel
theorem dX8_count_72 : decode cX8_count 72 = .ok (.ireturn, 1) := by decide +kernel
theorem dX8_count_73 : decode cX8_count 73 = .ok (.aload_n 0, 1) := by decide +kernel
theorem dX8_count_74 : decode cX8_count 74 = .ok (.iconst 2, 1) := by decide +kernel
theorem dX8_count_75 : decode cX8_count 75 = .ok (.invokevirtual 338, 3) := by decide +kernel
theorem dX8_count_78 : decode cX8_count 78 = .ok (.ireturn, 1) := by decide +kernel
theorem dX8_count_79 : decode cX8_count 79 = .ok (.aload_n 0, 1) := by decide +kernel
theorem dX8_count_80 : decode cX8_count 80 = .ok (.iconst 3, 1) := by decide +kernel
theorem dX8_count_81 : decode cX8_count 81 = .ok (.invokevirtual 338, 3) := by decide +kernel
theorem dX8_count_84 : decode cX8_count 84 = .ok (.ireturn, 1) := by decide +kernel
theorem dX8_count_85 : decode cX8_count 85 = .ok (.aload_n 0, 1) := by decide +kernel
theorem dX8_count_86 : decode cX8_count 86 = .ok (.iconst 4, 1) := by decide +kernel
theorem dX8_count_87 : decode cX8_count 87 = .ok (.invokevirtual 338, 3) := by decide +kernel
theorem dX8_count_90 : decode cX8_count 90 = .ok (.ireturn, 1) := by decide +kernel
theorem dX8_count_91 : decode cX8_count 91 = .ok (.aload_n 0, 1) := by decide +kernel
theorem dX8_count_92 : decode cX8_count 92 = .ok (.invokevirtual 341, 3) := by decide +kernel
theorem dX8_count_95 : decode cX8_count 95 = .ok (.ireturn, 1) := by decide +kernel
theorem dX8_count_96 : decode cX8_count 96 = .ok (.aload_n 0, 1) := by decide +kernel
theorem dX8_count_97 : decode cX8_count 97 = .ok (.getfield 61, 3) := by decide +kernel
theorem dX8_count_100 : decode cX8_count 100 = .ok (.getfield 288, 3) := by decide +kernel
theorem dX8_count_103 : decode cX8_count 103 = .ok (.ireturn, 1) := by decide +kernel
theorem dX8_status_0 : decode cX8_status 0 = .ok (.aload_n 0, 1) := by decide +kernel
theorem dX8_status_1 : decode cX8_status 1 = .ok (.getfield 344, 3) := by decide +kernel
theorem dX8_status_4 : decode cX8_status 4 = .ok (.ireturn, 1) := by decide +kernel
theorem dX8_within_0 : decode cX8_within 0 = .ok (.iload_n 0, 1) := by decide +kernel
theorem dX8_within_1 : decode cX8_within 1 = .ok (.iload_n 1, 1) := by decide +kernel
theorem dX8_within_2 : decode cX8_within 2 = .ok (.if_icmp .lt 12, 3) := by decide +kernel
theorem dX8_within_5 : decode cX8_within 5 = .ok (.iload_n 0, 1) := by decide +kernel
theorem dX8_within_6 : decode cX8_within 6 = .ok (.iload_n 2, 1) := by decide +kernel
theorem dX8_within_7 : decode cX8_within 7 = .ok (.if_icmp .gt 7, 3) := by decide +kernel
theorem dX8_within_10 : decode cX8_within 10 = .ok (.iconst 1, 1) := by decide +kernel
theorem dX8_within_11 : decode cX8_within 11 = .ok (.goto 4, 3) := by decide +kernel
theorem dX8_within_14 : decode cX8_within 14 = .ok (.iconst 0, 1) := by decide +kernel
theorem dX8_within_15 : decode cX8_within 15 = .ok (.ireturn, 1) := by decide +kernel
theorem dX8_isPlace_0 : decode cX8_isPlace 0 = .ok (.iload_n 0, 1) := by decide +kernel
theorem dX8_isPlace_1 : decode cX8_isPlace 1 = .ok (.iconst 0, 1) := by decide +kernel
theorem dX8_isPlace_2 : decode cX8_isPlace 2 = .ok (.iconst 5, 1) := by decide +kernel
theorem dX8_isPlace_3 : decode cX8_isPlace 3 = .ok (.invokestatic 77, 3) := by decide +kernel
theorem dX8_isPlace_6 : decode cX8_isPlace 6 = .ok (.ireturn, 1) := by decide +kernel
theorem dX8_isNumber_0 : decode cX8_isNumber 0 = .ok (.iload_n 0, 1) := by decide +kernel
theorem dX8_isNumber_1 : decode cX8_isNumber 1 = .ok (.iconst 0, 1) := by decide +kernel
theorem dX8_isNumber_2 : decode cX8_isNumber 2 = .ok (.bipush 10, 2) := by decide +kernel
theorem dX8_isNumber_4 : decode cX8_isNumber 4 = .ok (.invokestatic 77, 3) := by decide +kernel
theorem dX8_isNumber_7 : decode cX8_isNumber 7 = .ok (.ifCond .ne 5, 3) := by decide +kernel
theorem dX8_isNumber_10 : decode cX8_isNumber 10 = .ok (.iconst 0, 1) := by decide +kernel
theorem dX8_isNumber_11 : decode cX8_isNumber 11 = .ok (.ireturn, 1) := by decide +kernel
theorem dX8_isNumber_12 : decode cX8_isNumber 12 = .ok (.iload_n 0, 1) := by decide +kernel
theorem dX8_isNumber_13 : decode cX8_isNumber 13 = .ok (.ifCond .ne 14, 3) := by decide +kernel
theorem dX8_isNumber_16 : decode cX8_isNumber 16 = .ok (.iload_n 1, 1) := by decide +kernel
theorem dX8_isNumber_17 : decode cX8_isNumber 17 = .ok (.ifCond .eq 10, 3) := by decide +kernel
theorem dX8_isNumber_20 : decode cX8_isNumber 20 = .ok (.iload_n 1, 1) := by decide +kernel
theorem dX8_isNumber_21 : decode cX8_isNumber 21 = .ok (.iconst 4, 1) := by decide +kernel
theorem dX8_isNumber_22 : decode cX8_isNumber 22 = .ok (.if_icmp .ge 5, 3) := by decide +kernel
theorem dX8_isNumber_25 : decode cX8_isNumber 25 = .ok (.iconst 0, 1) := by decide +kernel
theorem dX8_isNumber_26 : decode cX8_isNumber 26 = .ok (.ireturn, 1) := by decide +kernel
theorem dX8_isNumber_27 : decode cX8_isNumber 27 = .ok (.iload_n 1, 1) := by decide +kernel
theorem dX8_isNumber_28 : decode cX8_isNumber 28 = .ok (.getstatic 347, 3) := by decide +kernel
theorem dX8_isNumber_31 : decode cX8_isNumber 31 = .ok (.iload_n 0, 1) := by decide +kernel
theorem dX8_isNumber_32 : decode cX8_isNumber 32 = .ok (.iaload, 1) := by decide +kernel
theorem dX8_isNumber_33 : decode cX8_isNumber 33 = .ok (.getstatic 350, 3) := by decide +kernel
theorem dX8_isNumber_36 : decode cX8_isNumber 36 = .ok (.iload_n 0, 1) := by decide +kernel
theorem dX8_isNumber_37 : decode cX8_isNumber 37 = .ok (.iaload, 1) := by decide +kernel
theorem dX8_isNumber_38 : decode cX8_isNumber 38 = .ok (.invokestatic 77, 3) := by decide +kernel
theorem dX8_isNumber_41 : decode cX8_isNumber 41 = .ok (.ireturn, 1) := by decide +kernel
theorem dX8_isSickness_0 : decode cX8_isSickness 0 = .ok (.iload_n 0, 1) := by decide +kernel
theorem dX8_isSickness_1 : decode cX8_isSickness 1 = .ok (.iconst 0, 1) := by decide +kernel
theorem dX8_isSickness_2 : decode cX8_isSickness 2 = .ok (.bipush 12, 2) := by decide +kernel
theorem dX8_isSickness_4 : decode cX8_isSickness 4 = .ok (.invokestatic 77, 3) := by decide +kernel
theorem dX8_isSickness_7 : decode cX8_isSickness 7 = .ok (.ireturn, 1) := by decide +kernel
theorem dX8_isNotch_0 : decode cX8_isNotch 0 = .ok (.iload_n 0, 1) := by decide +kernel
theorem dX8_isNotch_1 : decode cX8_isNotch 1 = .ok (.bipush (-6), 2) := by decide +kernel
theorem dX8_isNotch_3 : decode cX8_isNotch 3 = .ok (.bipush 6, 2) := by decide +kernel
theorem dX8_isNotch_5 : decode cX8_isNotch 5 = .ok (.invokestatic 77, 3) := by decide +kernel
theorem dX8_isNotch_8 : decode cX8_isNotch 8 = .ok (.ireturn, 1) := by decide +kernel
theorem dX8_isEnd_0 : decode cX8_isEnd 0 = .ok (.iload_n 0, 1) := by decide +kernel
theorem dX8_isEnd_1 : decode cX8_isEnd 1 = .ok (.iconst 0, 1) := by decide +kernel
theorem dX8_isEnd_2 : decode cX8_isEnd 2 = .ok (.iconst 1, 1) := by decide +kernel
theorem dX8_isEnd_3 : decode cX8_isEnd 3 = .ok (.invokestatic 77, 3) := by decide +kernel
theorem dX8_isEnd_6 : decode cX8_isEnd 6 = .ok (.ireturn, 1) := by decide +kernel
theorem dX8_isTurned_0 : decode cX8_isTurned 0 = .ok (.iload_n 0, 1) := by decide +kernel
theorem dX8_isTurned_1 : decode cX8_isTurned 1 = .ok (.sipush (-1000), 3) := by decide +kernel
theorem dX8_isTurned_4 : decode cX8_isTurned 4 = .ok (.sipush 1000, 3) := by decide +kernel
theorem dX8_isTurned_7 : decode cX8_isTurned 7 = .ok (.invokestatic 77, 3) := by decide +kernel
theorem dX8_isTurned_10 : decode cX8_isTurned 10 = .ok (.ireturn, 1) := by decide +kernel
theorem dX8_isBoiler_0 : decode cX8_isBoiler 0 = .ok (.iload_n 0, 1) := by decide +kernel
theorem dX8_isBoiler_1 : decode cX8_isBoiler 1 = .ok (.iconst 0, 1) := by decide +kernel
theorem dX8_isBoiler_2 : decode cX8_isBoiler 2 = .ok (.sipush 2000, 3) := by decide +kernel
theorem dX8_isBoiler_5 : decode cX8_isBoiler 5 = .ok (.invokestatic 77, 3) := by decide +kernel
theorem dX8_isBoiler_8 : decode cX8_isBoiler 8 = .ok (.ireturn, 1) := by decide +kernel
theorem dX8_isRegulator_0 : decode cX8_isRegulator 0 = .ok (.iload_n 0, 1) := by decide +kernel
theorem dX8_isRegulator_1 : decode cX8_isRegulator 1 = .ok (.iconst 0, 1) := by decide +kernel
theorem dX8_isRegulator_2 : decode cX8_isRegulator 2 = .ok (.iconst 4, 1) := by decide +kernel
theorem dX8_isRegulator_3 : decode cX8_isRegulator 3 = .ok (.invokestatic 77, 3) := by decide +kernel
theorem dX8_isRegulator_6 : decode cX8_isRegulator 6 = .ok (.ireturn, 1) := by decide +kernel
theorem dX8_found_0 : decode cX8_found 0 = .ok (.aload_n 0, 1) := by decide +kernel
theorem dX8_found_1 : decode cX8_found 1 = .ok (.iload_n 1, 1) := by decide +kernel
theorem dX8_found_2 : decode cX8_found 2 = .ok (.putfield 344, 3) := by decide +kernel
theorem dX8_found_5 : decode cX8_found 5 = .ok (.ldc_w 353, 3) := by decide +kernel
theorem dX8_found_8 : decode cX8_found 8 = .ok (.iload_n 1, 1) := by decide +kernel
theorem dX8_found_9 : decode cX8_found 9 = .ok (.isub, 1) := by decide +kernel
theorem dX8_found_10 : decode cX8_found 10 = .ok (.ireturn, 1) := by decide +kernel
theorem dX8_answered_0 : decode cX8_answered 0 = .ok (.aload_n 0, 1) := by decide +kernel
theorem dX8_answered_1 : decode cX8_answered 1 = .ok (.iconst 0, 1) := by decide +kernel
theorem dX8_answered_2 : decode cX8_answered 2 = .ok (.putfield 344, 3) := by decide +kernel
theorem dX8_answered_5 : decode cX8_answered 5 = .ok (.iload_n 1, 1) := by decide +kernel
theorem dX8_answered_6 : decode cX8_answered 6 = .ok (.ireturn, 1) := by decide +kernel
theorem dX8_sheetAt_0 : decode cX8_sheetAt 0 = .ok (.iload_n 1, 1) := by decide +kernel
theorem dX8_sheetAt_1 : decode cX8_sheetAt 1 = .ok (.iconst 0, 1) := by decide +kernel
theorem dX8_sheetAt_2 : decode cX8_sheetAt 2 = .ok (.bipush 7, 2) := by decide +kernel
theorem dX8_sheetAt_4 : decode cX8_sheetAt 4 = .ok (.invokestatic 77, 3) := by decide +kernel
theorem dX8_sheetAt_7 : decode cX8_sheetAt 7 = .ok (.ifCond .ne 5, 3) := by decide +kernel
theorem dX8_sheetAt_10 : decode cX8_sheetAt 10 = .ok (.aconst_null, 1) := by decide +kernel
theorem dX8_sheetAt_11 : decode cX8_sheetAt 11 = .ok (.areturn, 1) := by decide +kernel
theorem dX8_sheetAt_12 : decode cX8_sheetAt 12 = .ok (.aload_n 0, 1) := by decide +kernel
theorem dX8_sheetAt_13 : decode cX8_sheetAt 13 = .ok (.getfield 11, 3) := by decide +kernel
theorem dX8_sheetAt_16 : decode cX8_sheetAt 16 = .ok (.iload_n 1, 1) := by decide +kernel
theorem dX8_sheetAt_17 : decode cX8_sheetAt 17 = .ok (.aaload, 1) := by decide +kernel
theorem dX8_sheetAt_18 : decode cX8_sheetAt 18 = .ok (.astore_n 2, 1) := by decide +kernel
theorem dX8_sheetAt_19 : decode cX8_sheetAt 19 = .ok (.aload_n 2, 1) := by decide +kernel
theorem dX8_sheetAt_20 : decode cX8_sheetAt 20 = .ok (.ifnull 14, 3) := by decide +kernel
theorem dX8_sheetAt_23 : decode cX8_sheetAt 23 = .ok (.aload_n 2, 1) := by decide +kernel
theorem dX8_sheetAt_24 : decode cX8_sheetAt 24 = .ok (.getfield 118, 3) := by decide +kernel
theorem dX8_sheetAt_27 : decode cX8_sheetAt 27 = .ok (.ifCond .eq 7, 3) := by decide +kernel
theorem dX8_sheetAt_30 : decode cX8_sheetAt 30 = .ok (.aload_n 2, 1) := by decide +kernel
theorem dX8_sheetAt_31 : decode cX8_sheetAt 31 = .ok (.goto 4, 3) := by decide +kernel
theorem dX8_sheetAt_34 : decode cX8_sheetAt 34 = .ok (.aconst_null, 1) := by decide +kernel
theorem dX8_sheetAt_35 : decode cX8_sheetAt 35 = .ok (.areturn, 1) := by decide +kernel
theorem dX8_engineAt_0 : decode cX8_engineAt 0 = .ok (.iload_n 1, 1) := by decide +kernel
theorem dX8_engineAt_1 : decode cX8_engineAt 1 = .ok (.invokestatic 125, 3) := by decide +kernel
theorem dX8_engineAt_4 : decode cX8_engineAt 4 = .ok (.ifCond .ne 5, 3) := by decide +kernel
theorem dX8_engineAt_7 : decode cX8_engineAt 7 = .ok (.aconst_null, 1) := by decide +kernel
theorem dX8_engineAt_8 : decode cX8_engineAt 8 = .ok (.areturn, 1) := by decide +kernel
theorem dX8_engineAt_9 : decode cX8_engineAt 9 = .ok (.aload_n 0, 1) := by decide +kernel
theorem dX8_engineAt_10 : decode cX8_engineAt 10 = .ok (.getfield 17, 3) := by decide +kernel
theorem dX8_engineAt_13 : decode cX8_engineAt 13 = .ok (.iload_n 1, 1) := by decide +kernel
theorem dX8_engineAt_14 : decode cX8_engineAt 14 = .ok (.aaload, 1) := by decide +kernel
theorem dX8_engineAt_15 : decode cX8_engineAt 15 = .ok (.astore_n 2, 1) := by decide +kernel
theorem dX8_engineAt_16 : decode cX8_engineAt 16 = .ok (.aload_n 2, 1) := by decide +kernel
theorem dX8_engineAt_17 : decode cX8_engineAt 17 = .ok (.ifnull 14, 3) := by decide +kernel
theorem dX8_engineAt_20 : decode cX8_engineAt 20 = .ok (.aload_n 2, 1) := by decide +kernel
theorem dX8_engineAt_21 : decode cX8_engineAt 21 = .ok (.getfield 159, 3) := by decide +kernel
theorem dX8_engineAt_24 : decode cX8_engineAt 24 = .ok (.ifCond .eq 7, 3) := by decide +kernel
theorem dX8_engineAt_27 : decode cX8_engineAt 27 = .ok (.aload_n 2, 1) := by decide +kernel
theorem dX8_engineAt_28 : decode cX8_engineAt 28 = .ok (.goto 4, 3) := by decide +kernel
theorem dX8_engineAt_31 : decode cX8_engineAt 31 = .ok (.aconst_null, 1) := by decide +kernel
theorem dX8_engineAt_32 : decode cX8_engineAt 32 = .ok (.areturn, 1) := by decide +kernel
theorem dX8_cosine_0 : decode cX8_cosine 0 = .ok (.iload_n 0, 1) := by decide +kernel
theorem dX8_cosine_1 : decode cX8_cosine 1 = .ok (.bipush 48, 2) := by decide +kernel
theorem dX8_cosine_3 : decode cX8_cosine 3 = .ok (.irem, 1) := by decide +kernel
theorem dX8_cosine_4 : decode cX8_cosine 4 = .ok (.istore_n 1, 1) := by decide +kernel
theorem dX8_cosine_5 : decode cX8_cosine 5 = .ok (.getstatic 354, 3) := by decide +kernel
theorem dX8_cosine_8 : decode cX8_cosine 8 = .ok (.iload_n 1, 1) := by decide +kernel
theorem dX8_cosine_9 : decode cX8_cosine 9 = .ok (.ifCond .ge 10, 3) := by decide +kernel
theorem dX8_cosine_12 : decode cX8_cosine 12 = .ok (.iload_n 1, 1) := by decide +kernel
theorem dX8_cosine_13 : decode cX8_cosine 13 = .ok (.bipush 48, 2) := by decide +kernel
theorem dX8_cosine_15 : decode cX8_cosine 15 = .ok (.iadd, 1) := by decide +kernel
theorem dX8_cosine_16 : decode cX8_cosine 16 = .ok (.goto 4, 3) := by decide +kernel
theorem dX8_cosine_19 : decode cX8_cosine 19 = .ok (.iload_n 1, 1) := by decide +kernel
theorem dX8_cosine_20 : decode cX8_cosine 20 = .ok (.iaload, 1) := by decide +kernel
theorem dX8_cosine_21 : decode cX8_cosine 21 = .ok (.ireturn, 1) := by decide +kernel
theorem dX8_share_0 : decode cX8_share 0 = .ok (.iload_n 2, 1) := by decide +kernel
theorem dX8_share_1 : decode cX8_share 1 = .ok (.ifCond .le 11, 3) := by decide +kernel
theorem dX8_share_4 : decode cX8_share 4 = .ok (.iload_n 0, 1) := by decide +kernel
theorem dX8_share_5 : decode cX8_share 5 = .ok (.iload_n 1, 1) := by decide +kernel
theorem dX8_share_6 : decode cX8_share 6 = .ok (.imul, 1) := by decide +kernel
theorem dX8_share_7 : decode cX8_share 7 = .ok (.iload_n 2, 1) := by decide +kernel
theorem dX8_share_8 : decode cX8_share 8 = .ok (.idiv, 1) := by decide +kernel
theorem dX8_share_9 : decode cX8_share 9 = .ok (.goto 4, 3) := by decide +kernel
theorem dX8_share_12 : decode cX8_share 12 = .ok (.iconst 0, 1) := by decide +kernel
theorem dX8_share_13 : decode cX8_share 13 = .ok (.ireturn, 1) := by decide +kernel
theorem dX8_nearest_0 : decode cX8_nearest 0 = .ok (.ldc_w 293, 3) := by decide +kernel
theorem dX8_nearest_3 : decode cX8_nearest 3 = .ok (.istore_n 3, 1) := by decide +kernel
theorem dX8_nearest_4 : decode cX8_nearest 4 = .ok (.ldc_w 293, 3) := by decide +kernel
theorem dX8_nearest_7 : decode cX8_nearest 7 = .ok (.istore 4, 2) := by decide +kernel
theorem dX8_nearest_9 : decode cX8_nearest 9 = .ok (.ldc_w 293, 3) := by decide +kernel
theorem dX8_nearest_12 : decode cX8_nearest 12 = .ok (.istore 5, 2) := by decide +kernel
theorem dX8_nearest_14 : decode cX8_nearest 14 = .ok (.iconst 0, 1) := by decide +kernel
theorem dX8_nearest_15 : decode cX8_nearest 15 = .ok (.istore 6, 2) := by decide +kernel
theorem dX8_nearest_17 : decode cX8_nearest 17 = .ok (.iload 6, 2) := by decide +kernel
theorem dX8_nearest_19 : decode cX8_nearest 19 = .ok (.bipush 6, 2) := by decide +kernel
theorem dX8_nearest_21 : decode cX8_nearest 21 = .ok (.if_icmp .ge 94, 3) := by decide +kernel
theorem dX8_nearest_24 : decode cX8_nearest 24 = .ok (.aload_n 0, 1) := by decide +kernel
theorem dX8_nearest_25 : decode cX8_nearest 25 = .ok (.iload 6, 2) := by decide +kernel
theorem dX8_nearest_27 : decode cX8_nearest 27 = .ok (.invokevirtual 142, 3) := by decide +kernel
theorem dX8_nearest_30 : decode cX8_nearest 30 = .ok (.astore 7, 2) := by decide +kernel
theorem dX8_nearest_32 : decode cX8_nearest 32 = .ok (.bipush (-6), 2) := by decide +kernel
theorem dX8_nearest_34 : decode cX8_nearest 34 = .ok (.istore 8, 2) := by decide +kernel
theorem dX8_nearest_36 : decode cX8_nearest 36 = .ok (.aload 7, 2) := by decide +kernel
theorem dX8_nearest_38 : decode cX8_nearest 38 = .ok (.ifnull 71, 3) := by decide +kernel
theorem dX8_nearest_41 : decode cX8_nearest 41 = .ok (.iload 8, 2) := by decide +kernel
theorem dX8_nearest_43 : decode cX8_nearest 43 = .ok (.bipush 6, 2) := by decide +kernel
theorem dX8_nearest_45 : decode cX8_nearest 45 = .ok (.if_icmp .gt 64, 3) := by decide +kernel
theorem dX8_nearest_48 : decode cX8_nearest 48 = .ok (.aload_n 0, 1) := by decide +kernel
theorem dX8_nearest_49 : decode cX8_nearest 49 = .ok (.getfield 47, 3) := by decide +kernel
theorem dX8_nearest_52 : decode cX8_nearest 52 = .ok (.aload 7, 2) := by decide +kernel
theorem dX8_nearest_54 : decode cX8_nearest 54 = .ok (.iload 8, 2) := by decide +kernel
theorem dX8_nearest_56 : decode cX8_nearest 56 = .ok (.iload_n 1, 1) := by decide +kernel
theorem dX8_nearest_57 : decode cX8_nearest 57 = .ok (.iconst 4, 1) := by decide +kernel
theorem dX8_nearest_58 : decode cX8_nearest 58 = .ok (.iconst 0, 1) := by decide +kernel
theorem dX8_nearest_59 : decode cX8_nearest 59 = .ok (.invokevirtual 210, 3) := by decide +kernel
theorem dX8_nearest_62 : decode cX8_nearest 62 = .ok (.aload_n 0, 1) := by decide +kernel
theorem dX8_nearest_63 : decode cX8_nearest 63 = .ok (.getfield 33, 3) := by decide +kernel
theorem dX8_nearest_66 : decode cX8_nearest 66 = .ok (.aload_n 0, 1) := by decide +kernel
theorem dX8_nearest_67 : decode cX8_nearest 67 = .ok (.getfield 47, 3) := by decide +kernel
theorem dX8_nearest_70 : decode cX8_nearest 70 = .ok (.getfield 214, 3) := by decide +kernel
theorem dX8_nearest_73 : decode cX8_nearest 73 = .ok (.invokevirtual 357, 3) := by decide +kernel
theorem dX8_nearest_76 : decode cX8_nearest 76 = .ok (.istore 9, 2) := by decide +kernel
theorem dX8_nearest_78 : decode cX8_nearest 78 = .ok (.iload_n 3, 1) := by decide +kernel
theorem dX8_nearest_79 : decode cX8_nearest 79 = .ok (.ldc_w 293, 3) := by decide +kernel
theorem dX8_nearest_82 : decode cX8_nearest 82 = .ok (.if_icmp .eq 10, 3) := by decide +kernel
theorem dX8_nearest_85 : decode cX8_nearest 85 = .ok (.iload 9, 2) := by decide +kernel
theorem dX8_nearest_87 : decode cX8_nearest 87 = .ok (.iload 5, 2) := by decide +kernel
theorem dX8_nearest_89 : decode cX8_nearest 89 = .ok (.if_icmp .ge 14, 3) := by decide +kernel
theorem dX8_nearest_92 : decode cX8_nearest 92 = .ok (.iload 6, 2) := by decide +kernel
theorem dX8_nearest_94 : decode cX8_nearest 94 = .ok (.istore_n 3, 1) := by decide +kernel
theorem dX8_nearest_95 : decode cX8_nearest 95 = .ok (.iload 8, 2) := by decide +kernel
theorem dX8_nearest_97 : decode cX8_nearest 97 = .ok (.istore 4, 2) := by decide +kernel
theorem dX8_nearest_99 : decode cX8_nearest 99 = .ok (.iload 9, 2) := by decide +kernel
theorem dX8_nearest_101 : decode cX8_nearest 101 = .ok (.istore 5, 2) := by decide +kernel
theorem dX8_nearest_103 : decode cX8_nearest 103 = .ok (.iinc 8 1, 3) := by decide +kernel
theorem dX8_nearest_106 : decode cX8_nearest 106 = .ok (.goto (-70), 3) := by decide +kernel
theorem dX8_nearest_109 : decode cX8_nearest 109 = .ok (.iinc 6 1, 3) := by decide +kernel
theorem dX8_nearest_112 : decode cX8_nearest 112 = .ok (.goto (-95), 3) := by decide +kernel
theorem dX8_nearest_115 : decode cX8_nearest 115 = .ok (.iload_n 2, 1) := by decide +kernel
theorem dX8_nearest_116 : decode cX8_nearest 116 = .ok (.ifCond .ne 5, 3) := by decide +kernel
theorem dX8_nearest_119 : decode cX8_nearest 119 = .ok (.iload_n 3, 1) := by decide +kernel
theorem dX8_nearest_120 : decode cX8_nearest 120 = .ok (.ireturn, 1) := by decide +kernel
theorem dX8_nearest_121 : decode cX8_nearest 121 = .ok (.iload_n 2, 1) := by decide +kernel
theorem dX8_nearest_122 : decode cX8_nearest 122 = .ok (.iconst 1, 1) := by decide +kernel
theorem dX8_nearest_123 : decode cX8_nearest 123 = .ok (.if_icmp .ne 8, 3) := by decide +kernel
theorem dX8_nearest_126 : decode cX8_nearest 126 = .ok (.iload 4, 2) := by decide +kernel
theorem dX8_nearest_128 : decode cX8_nearest 128 = .ok (.goto 5, 3) := by decide +kernel
theorem dX8_nearest_131 : decode cX8_nearest 131 = .ok (.iload 5, 2) := by decide +kernel
theorem dX8_nearest_133 : decode cX8_nearest 133 = .ok (.ireturn, 1) := by decide +kernel
theorem dX8_farthestApart_0 : decode cX8_farthestApart 0 = .ok (.bipush (-6), 2) := by decide +kernel
theorem dX8_farthestApart_2 : decode cX8_farthestApart 2 = .ok (.istore 4, 2) := by decide +kernel
theorem dX8_farthestApart_4 : decode cX8_farthestApart 4 = .ok (.iconst (-1), 1) := by decide +kernel
theorem dX8_farthestApart_5 : decode cX8_farthestApart 5 = .ok (.istore 5, 2) := by decide +kernel
theorem dX8_farthestApart_7 : decode cX8_farthestApart 7 = .ok (.bipush (-6), 2) := by decide +kernel
theorem dX8_farthestApart_9 : decode cX8_farthestApart 9 = .ok (.istore 6, 2) := by decide +kernel
theorem dX8_farthestApart_11 : decode cX8_farthestApart 11 = .ok (.iload 6, 2) := by decide +kernel
theorem dX8_farthestApart_13 : decode cX8_farthestApart 13 = .ok (.bipush 6, 2) := by decide +kernel
theorem dX8_farthestApart_15 : decode cX8_farthestApart 15 = .ok (.if_icmp .gt 109, 3) := by decide +kernel
theorem dX8_farthestApart_18 : decode cX8_farthestApart 18 = .ok (.aload_n 0, 1) := by decide +kernel
theorem dX8_farthestApart_19 : decode cX8_farthestApart 19 = .ok (.getfield 28, 3) := by decide +kernel
theorem dX8_farthestApart_22 : decode cX8_farthestApart 22 = .ok (.iload_n 1, 1) := by decide +kernel
theorem dX8_farthestApart_23 : decode cX8_farthestApart 23 = .ok (.putfield 152, 3) := by decide +kernel
theorem dX8_farthestApart_26 : decode cX8_farthestApart 26 = .ok (.aload_n 0, 1) := by decide +kernel
theorem dX8_farthestApart_27 : decode cX8_farthestApart 27 = .ok (.getfield 47, 3) := by decide +kernel
theorem dX8_farthestApart_30 : decode cX8_farthestApart 30 = .ok (.aload_n 0, 1) := by decide +kernel
theorem dX8_farthestApart_31 : decode cX8_farthestApart 31 = .ok (.getfield 28, 3) := by decide +kernel
theorem dX8_farthestApart_34 : decode cX8_farthestApart 34 = .ok (.iload 6, 2) := by decide +kernel
theorem dX8_farthestApart_36 : decode cX8_farthestApart 36 = .ok (.iload_n 3, 1) := by decide +kernel
theorem dX8_farthestApart_37 : decode cX8_farthestApart 37 = .ok (.iconst 4, 1) := by decide +kernel
theorem dX8_farthestApart_38 : decode cX8_farthestApart 38 = .ok (.iconst 0, 1) := by decide +kernel
theorem dX8_farthestApart_39 : decode cX8_farthestApart 39 = .ok (.invokevirtual 210, 3) := by decide +kernel
theorem dX8_farthestApart_42 : decode cX8_farthestApart 42 = .ok (.aload_n 0, 1) := by decide +kernel
theorem dX8_farthestApart_43 : decode cX8_farthestApart 43 = .ok (.getfield 47, 3) := by decide +kernel
theorem dX8_farthestApart_46 : decode cX8_farthestApart 46 = .ok (.getfield 214, 3) := by decide +kernel
theorem dX8_farthestApart_49 : decode cX8_farthestApart 49 = .ok (.iconst 0, 1) := by decide +kernel
theorem dX8_farthestApart_50 : decode cX8_farthestApart 50 = .ok (.aload_n 0, 1) := by decide +kernel
theorem dX8_farthestApart_51 : decode cX8_farthestApart 51 = .ok (.getfield 33, 3) := by decide +kernel
theorem dX8_farthestApart_54 : decode cX8_farthestApart 54 = .ok (.getfield 361, 3) := by decide +kernel
theorem dX8_farthestApart_57 : decode cX8_farthestApart 57 = .ok (.iconst 0, 1) := by decide +kernel
theorem dX8_farthestApart_58 : decode cX8_farthestApart 58 = .ok (.bipush 48, 2) := by decide +kernel
theorem dX8_farthestApart_60 : decode cX8_farthestApart 60 = .ok (.invokestatic 112, 3) := by decide +kernel
theorem dX8_farthestApart_63 : decode cX8_farthestApart 63 = .ok (.aload_n 0, 1) := by decide +kernel
theorem dX8_farthestApart_64 : decode cX8_farthestApart 64 = .ok (.getfield 28, 3) := by decide +kernel
theorem dX8_farthestApart_67 : decode cX8_farthestApart 67 = .ok (.iload_n 2, 1) := by decide +kernel
theorem dX8_farthestApart_68 : decode cX8_farthestApart 68 = .ok (.putfield 152, 3) := by decide +kernel
theorem dX8_farthestApart_71 : decode cX8_farthestApart 71 = .ok (.aload_n 0, 1) := by decide +kernel
theorem dX8_farthestApart_72 : decode cX8_farthestApart 72 = .ok (.getfield 47, 3) := by decide +kernel
theorem dX8_farthestApart_75 : decode cX8_farthestApart 75 = .ok (.aload_n 0, 1) := by decide +kernel
theorem dX8_farthestApart_76 : decode cX8_farthestApart 76 = .ok (.getfield 28, 3) := by decide +kernel
theorem dX8_farthestApart_79 : decode cX8_farthestApart 79 = .ok (.iload 6, 2) := by decide +kernel
theorem dX8_farthestApart_81 : decode cX8_farthestApart 81 = .ok (.iload_n 3, 1) := by decide +kernel
theorem dX8_farthestApart_82 : decode cX8_farthestApart 82 = .ok (.iconst 4, 1) := by decide +kernel
theorem dX8_farthestApart_83 : decode cX8_farthestApart 83 = .ok (.iconst 0, 1) := by decide +kernel
theorem dX8_farthestApart_84 : decode cX8_farthestApart 84 = .ok (.invokevirtual 210, 3) := by decide +kernel
theorem dX8_farthestApart_87 : decode cX8_farthestApart 87 = .ok (.aload_n 0, 1) := by decide +kernel
theorem dX8_farthestApart_88 : decode cX8_farthestApart 88 = .ok (.getfield 33, 3) := by decide +kernel
theorem dX8_farthestApart_91 : decode cX8_farthestApart 91 = .ok (.aload_n 0, 1) := by decide +kernel
theorem dX8_farthestApart_92 : decode cX8_farthestApart 92 = .ok (.getfield 47, 3) := by decide +kernel
theorem dX8_farthestApart_95 : decode cX8_farthestApart 95 = .ok (.getfield 214, 3) := by decide +kernel
theorem dX8_farthestApart_98 : decode cX8_farthestApart 98 = .ok (.invokevirtual 357, 3) := by decide +kernel
theorem dX8_farthestApart_101 : decode cX8_farthestApart 101 = .ok (.istore 7, 2) := by decide +kernel
theorem dX8_farthestApart_103 : decode cX8_farthestApart 103 = .ok (.iload 7, 2) := by decide +kernel
theorem dX8_farthestApart_105 : decode cX8_farthestApart 105 = .ok (.iload 5, 2) := by decide +kernel
theorem dX8_farthestApart_107 : decode cX8_farthestApart 107 = .ok (.if_icmp .le 11, 3) := by decide +kernel
theorem dX8_farthestApart_110 : decode cX8_farthestApart 110 = .ok (.iload 6, 2) := by decide +kernel
theorem dX8_farthestApart_112 : decode cX8_farthestApart 112 = .ok (.istore 4, 2) := by decide +kernel
theorem dX8_farthestApart_114 : decode cX8_farthestApart 114 = .ok (.iload 7, 2) := by decide +kernel
theorem dX8_farthestApart_116 : decode cX8_farthestApart 116 = .ok (.istore 5, 2) := by decide +kernel
theorem dX8_farthestApart_118 : decode cX8_farthestApart 118 = .ok (.iinc 6 1, 3) := by decide +kernel
theorem dX8_farthestApart_121 : decode cX8_farthestApart 121 = .ok (.goto (-110), 3) := by decide +kernel
theorem dX8_farthestApart_124 : decode cX8_farthestApart 124 = .ok (.iload 4, 2) := by decide +kernel
theorem dX8_farthestApart_126 : decode cX8_farthestApart 126 = .ok (.ireturn, 1) := by decide +kernel
theorem dX8_toldKind_0 : decode cX8_toldKind 0 = .ok (.aload_n 1, 1) := by decide +kernel
theorem dX8_toldKind_1 : decode cX8_toldKind 1 = .ok (.getfield 152, 3) := by decide +kernel
theorem dX8_toldKind_4 : decode cX8_toldKind 4 = .ok (.ifCond .eq 33, 3) := by decide +kernel
theorem dX8_toldKind_7 : decode cX8_toldKind 7 = .ok (.aload_n 0, 1) := by decide +kernel
theorem dX8_toldKind_8 : decode cX8_toldKind 8 = .ok (.getfield 47, 3) := by decide +kernel
theorem dX8_toldKind_11 : decode cX8_toldKind 11 = .ok (.aload_n 1, 1) := by decide +kernel
theorem dX8_toldKind_12 : decode cX8_toldKind 12 = .ok (.bipush 6, 2) := by decide +kernel
theorem dX8_toldKind_14 : decode cX8_toldKind 14 = .ok (.sipush 1000, 3) := by decide +kernel
theorem dX8_toldKind_17 : decode cX8_toldKind 17 = .ok (.iconst 4, 1) := by decide +kernel
theorem dX8_toldKind_18 : decode cX8_toldKind 18 = .ok (.invokevirtual 226, 3) := by decide +kernel
theorem dX8_toldKind_21 : decode cX8_toldKind 21 = .ok (.aload_n 0, 1) := by decide +kernel
theorem dX8_toldKind_22 : decode cX8_toldKind 22 = .ok (.getfield 47, 3) := by decide +kernel
theorem dX8_toldKind_25 : decode cX8_toldKind 25 = .ok (.getfield 230, 3) := by decide +kernel
theorem dX8_toldKind_28 : decode cX8_toldKind 28 = .ok (.ifCond .gt 7, 3) := by decide +kernel
theorem dX8_toldKind_31 : decode cX8_toldKind 31 = .ok (.iconst 4, 1) := by decide +kernel
theorem dX8_toldKind_32 : decode cX8_toldKind 32 = .ok (.goto 4, 3) := by decide +kernel
theorem dX8_toldKind_35 : decode cX8_toldKind 35 = .ok (.iconst 3, 1) := by decide +kernel
theorem dX8_toldKind_36 : decode cX8_toldKind 36 = .ok (.ireturn, 1) := by decide +kernel
theorem dX8_toldKind_37 : decode cX8_toldKind 37 = .ok (.aload_n 0, 1) := by decide +kernel
theorem dX8_toldKind_38 : decode cX8_toldKind 38 = .ok (.getfield 40, 3) := by decide +kernel
theorem dX8_toldKind_41 : decode cX8_toldKind 41 = .ok (.aload_n 1, 1) := by decide +kernel
theorem dX8_toldKind_42 : decode cX8_toldKind 42 = .ok (.invokevirtual 183, 3) := by decide +kernel
theorem dX8_toldKind_45 : decode cX8_toldKind 45 = .ok (.bipush 6, 2) := by decide +kernel
theorem dX8_toldKind_47 : decode cX8_toldKind 47 = .ok (.if_icmp .gt 7, 3) := by decide +kernel
theorem dX8_toldKind_50 : decode cX8_toldKind 50 = .ok (.iconst 2, 1) := by decide +kernel
theorem dX8_toldKind_51 : decode cX8_toldKind 51 = .ok (.goto 4, 3) := by decide +kernel
theorem dX8_toldKind_54 : decode cX8_toldKind 54 = .ok (.iconst 1, 1) := by decide +kernel
theorem dX8_toldKind_55 : decode cX8_toldKind 55 = .ok (.ireturn, 1) := by decide +kernel
theorem dX8_belongs_0 : decode cX8_belongs 0 = .ok (.iload_n 1, 1) := by decide +kernel
theorem dX8_belongs_1 : decode cX8_belongs 1 = .ok (.ifCond .eq 28, 3) := by decide +kernel
theorem dX8_belongs_4 : decode cX8_belongs 4 = .ok (.iload_n 1, 1) := by decide +kernel
theorem dX8_belongs_5 : decode cX8_belongs 5 = .ok (.iload_n 0, 1) := by decide +kernel
theorem dX8_belongs_6 : decode cX8_belongs 6 = .ok (.if_icmp .eq 23, 3) := by decide +kernel
theorem dX8_belongs_9 : decode cX8_belongs 9 = .ok (.iload_n 1, 1) := by decide +kernel
theorem dX8_belongs_10 : decode cX8_belongs 10 = .ok (.iconst 1, 1) := by decide +kernel
theorem dX8_belongs_11 : decode cX8_belongs 11 = .ok (.if_icmp .ne 8, 3) := by decide +kernel
theorem dX8_belongs_14 : decode cX8_belongs 14 = .ok (.iload_n 0, 1) := by decide +kernel
theorem dX8_belongs_15 : decode cX8_belongs 15 = .ok (.iconst 2, 1) := by decide +kernel
theorem dX8_belongs_16 : decode cX8_belongs 16 = .ok (.if_icmp .eq 13, 3) := by decide +kernel
theorem dX8_belongs_19 : decode cX8_belongs 19 = .ok (.iload_n 1, 1) := by decide +kernel
theorem dX8_belongs_20 : decode cX8_belongs 20 = .ok (.iconst 3, 1) := by decide +kernel
theorem dX8_belongs_21 : decode cX8_belongs 21 = .ok (.if_icmp .ne 12, 3) := by decide +kernel
theorem dX8_belongs_24 : decode cX8_belongs 24 = .ok (.iload_n 0, 1) := by decide +kernel
theorem dX8_belongs_25 : decode cX8_belongs 25 = .ok (.iconst 4, 1) := by decide +kernel
theorem dX8_belongs_26 : decode cX8_belongs 26 = .ok (.if_icmp .ne 7, 3) := by decide +kernel
theorem dX8_belongs_29 : decode cX8_belongs 29 = .ok (.iconst 1, 1) := by decide +kernel
theorem dX8_belongs_30 : decode cX8_belongs 30 = .ok (.goto 4, 3) := by decide +kernel
theorem dX8_belongs_33 : decode cX8_belongs 33 = .ok (.iconst 0, 1) := by decide +kernel
theorem dX8_belongs_34 : decode cX8_belongs 34 = .ok (.ireturn, 1) := by decide +kernel
theorem dX8_askWorth_0 : decode cX8_askWorth 0 = .ok (.iload_n 2, 1) := by decide +kernel
theorem dX8_askWorth_1 : decode cX8_askWorth 1 = .ok (.tableswitch 67 1 4 #[31, 37, 55, 61], 31) := by decide +kernel
theorem dX8_askWorth_32 : decode cX8_askWorth 32 = .ok (.aload_n 0, 1) := by decide +kernel
theorem dX8_askWorth_33 : decode cX8_askWorth 33 = .ok (.aload_n 1, 1) := by decide +kernel
theorem dX8_askWorth_34 : decode cX8_askWorth 34 = .ok (.invokevirtual 362, 3) := by decide +kernel
theorem dX8_askWorth_37 : decode cX8_askWorth 37 = .ok (.ireturn, 1) := by decide +kernel
theorem dX8_askWorth_38 : decode cX8_askWorth 38 = .ok (.aload_n 0, 1) := by decide +kernel
theorem dX8_askWorth_39 : decode cX8_askWorth 39 = .ok (.bipush 12, 2) := by decide +kernel
theorem dX8_askWorth_41 : decode cX8_askWorth 41 = .ok (.invokevirtual 365, 3) := by decide +kernel
theorem dX8_askWorth_44 : decode cX8_askWorth 44 = .ok (.aload_n 0, 1) := by decide +kernel
theorem dX8_askWorth_45 : decode cX8_askWorth 45 = .ok (.aload_n 1, 1) := by decide +kernel
theorem dX8_askWorth_46 : decode cX8_askWorth 46 = .ok (.invokevirtual 362, 3) := by decide +kernel
theorem dX8_askWorth_49 : decode cX8_askWorth 49 = .ok (.aload_n 0, 1) := by decide +kernel
theorem dX8_askWorth_50 : decode cX8_askWorth 50 = .ok (.aload_n 1, 1) := by decide +kernel
theorem dX8_askWorth_51 : decode cX8_askWorth 51 = .ok (.invokevirtual 368, 3) := by decide +kernel
theorem dX8_askWorth_54 : decode cX8_askWorth 54 = .ok (.iadd, 1) := by decide +kernel
theorem dX8_askWorth_55 : decode cX8_askWorth 55 = .ok (.ireturn, 1) := by decide +kernel
theorem dX8_askWorth_56 : decode cX8_askWorth 56 = .ok (.aload_n 0, 1) := by decide +kernel
theorem dX8_askWorth_57 : decode cX8_askWorth 57 = .ok (.aload_n 1, 1) := by decide +kernel
theorem dX8_askWorth_58 : decode cX8_askWorth 58 = .ok (.invokevirtual 371, 3) := by decide +kernel
theorem dX8_askWorth_61 : decode cX8_askWorth 61 = .ok (.ireturn, 1) := by decide +kernel
theorem dX8_askWorth_62 : decode cX8_askWorth 62 = .ok (.aload_n 0, 1) := by decide +kernel
theorem dX8_askWorth_63 : decode cX8_askWorth 63 = .ok (.aload_n 1, 1) := by decide +kernel
theorem dX8_askWorth_64 : decode cX8_askWorth 64 = .ok (.invokevirtual 374, 3) := by decide +kernel
theorem dX8_askWorth_67 : decode cX8_askWorth 67 = .ok (.ireturn, 1) := by decide +kernel
theorem dX8_askWorth_68 : decode cX8_askWorth 68 = .ok (.aload_n 0, 1) := by decide +kernel
theorem dX8_askWorth_69 : decode cX8_askWorth 69 = .ok (.aload_n 1, 1) := by decide +kernel
theorem dX8_askWorth_70 : decode cX8_askWorth 70 = .ok (.invokevirtual 377, 3) := by decide +kernel
theorem dX8_askWorth_73 : decode cX8_askWorth 73 = .ok (.ireturn, 1) := by decide +kernel
theorem dX8_worthOfAny_0 : decode cX8_worthOfAny 0 = .ok (.aload_n 0, 1) := by decide +kernel
theorem dX8_worthOfAny_1 : decode cX8_worthOfAny 1 = .ok (.bipush 10, 2) := by decide +kernel
theorem dX8_worthOfAny_3 : decode cX8_worthOfAny 3 = .ok (.invokevirtual 365, 3) := by decide +kernel
theorem dX8_worthOfAny_6 : decode cX8_worthOfAny 6 = .ok (.aload_n 1, 1) := by decide +kernel
theorem dX8_worthOfAny_7 : decode cX8_worthOfAny 7 = .ok (.getfield 146, 3) := by decide +kernel
theorem dX8_worthOfAny_10 : decode cX8_worthOfAny 10 = .ok (.iconst 1, 1) := by decide +kernel
theorem dX8_worthOfAny_11 : decode cX8_worthOfAny 11 = .ok (.iaload, 1) := by decide +kernel
theorem dX8_worthOfAny_12 : decode cX8_worthOfAny 12 = .ok (.ireturn, 1) := by decide +kernel
theorem dX8_worthOfSound_0 : decode cX8_worthOfSound 0 = .ok (.aload_n 0, 1) := by decide +kernel
theorem dX8_worthOfSound_1 : decode cX8_worthOfSound 1 = .ok (.bipush 11, 2) := by decide +kernel
theorem dX8_worthOfSound_3 : decode cX8_worthOfSound 3 = .ok (.invokevirtual 365, 3) := by decide +kernel
theorem dX8_worthOfSound_6 : decode cX8_worthOfSound 6 = .ok (.aload_n 0, 1) := by decide +kernel
theorem dX8_worthOfSound_7 : decode cX8_worthOfSound 7 = .ok (.aload_n 1, 1) := by decide +kernel
theorem dX8_worthOfSound_8 : decode cX8_worthOfSound 8 = .ok (.invokevirtual 377, 3) := by decide +kernel
theorem dX8_worthOfSound_11 : decode cX8_worthOfSound 11 = .ok (.aload_n 1, 1) := by decide +kernel
theorem dX8_worthOfSound_12 : decode cX8_worthOfSound 12 = .ok (.invokevirtual 187, 3) := by decide +kernel
theorem dX8_worthOfSound_15 : decode cX8_worthOfSound 15 = .ok (.iadd, 1) := by decide +kernel
theorem dX8_worthOfSound_16 : decode cX8_worthOfSound 16 = .ok (.ireturn, 1) := by decide +kernel
theorem dX8_worthOfSick_0 : decode cX8_worthOfSick 0 = .ok (.aload_n 0, 1) := by decide +kernel
theorem dX8_worthOfSick_1 : decode cX8_worthOfSick 1 = .ok (.bipush 13, 2) := by decide +kernel
theorem dX8_worthOfSick_3 : decode cX8_worthOfSick 3 = .ok (.invokevirtual 365, 3) := by decide +kernel
theorem dX8_worthOfSick_6 : decode cX8_worthOfSick 6 = .ok (.aload_n 0, 1) := by decide +kernel
theorem dX8_worthOfSick_7 : decode cX8_worthOfSick 7 = .ok (.aload_n 1, 1) := by decide +kernel
theorem dX8_worthOfSick_8 : decode cX8_worthOfSick 8 = .ok (.invokevirtual 377, 3) := by decide +kernel
theorem dX8_worthOfSick_11 : decode cX8_worthOfSick 11 = .ok (.aload_n 1, 1) := by decide +kernel
theorem dX8_worthOfSick_12 : decode cX8_worthOfSick 12 = .ok (.getfield 152, 3) := by decide +kernel
theorem dX8_worthOfSick_15 : decode cX8_worthOfSick 15 = .ok (.isub, 1) := by decide +kernel
theorem dX8_worthOfSick_16 : decode cX8_worthOfSick 16 = .ok (.ireturn, 1) := by decide +kernel
theorem dX8_worthOfStuck_0 : decode cX8_worthOfStuck 0 = .ok (.aload_n 0, 1) := by decide +kernel
theorem dX8_worthOfStuck_1 : decode cX8_worthOfStuck 1 = .ok (.bipush 14, 2) := by decide +kernel
theorem dX8_worthOfStuck_3 : decode cX8_worthOfStuck 3 = .ok (.invokevirtual 365, 3) := by decide +kernel
theorem dX8_worthOfStuck_6 : decode cX8_worthOfStuck 6 = .ok (.iconst 2, 1) := by decide +kernel
theorem dX8_worthOfStuck_7 : decode cX8_worthOfStuck 7 = .ok (.aload_n 0, 1) := by decide +kernel
theorem dX8_worthOfStuck_8 : decode cX8_worthOfStuck 8 = .ok (.aload_n 1, 1) := by decide +kernel
theorem dX8_worthOfStuck_9 : decode cX8_worthOfStuck 9 = .ok (.invokevirtual 371, 3) := by decide +kernel
theorem dX8_worthOfStuck_12 : decode cX8_worthOfStuck 12 = .ok (.imul, 1) := by decide +kernel
theorem dX8_worthOfStuck_13 : decode cX8_worthOfStuck 13 = .ok (.ireturn, 1) := by decide +kernel
theorem dX8_askMark_0 : decode cX8_askMark 0 = .ok (.iload_n 2, 1) := by decide +kernel
theorem dX8_askMark_1 : decode cX8_askMark 1 = .ok (.tableswitch 57 2 4 #[27, 33, 40], 27) := by decide +kernel
theorem dX8_askMark_28 : decode cX8_askMark 28 = .ok (.aload_n 0, 1) := by decide +kernel
theorem dX8_askMark_29 : decode cX8_askMark 29 = .ok (.aload_n 1, 1) := by decide +kernel
theorem dX8_askMark_30 : decode cX8_askMark 30 = .ok (.invokevirtual 368, 3) := by decide +kernel
theorem dX8_askMark_33 : decode cX8_askMark 33 = .ok (.ireturn, 1) := by decide +kernel
theorem dX8_askMark_34 : decode cX8_askMark 34 = .ok (.aload_n 0, 1) := by decide +kernel
theorem dX8_askMark_35 : decode cX8_askMark 35 = .ok (.aload_n 1, 1) := by decide +kernel
theorem dX8_askMark_36 : decode cX8_askMark 36 = .ok (.iload_n 2, 1) := by decide +kernel
theorem dX8_askMark_37 : decode cX8_askMark 37 = .ok (.invokevirtual 380, 3) := by decide +kernel
theorem dX8_askMark_40 : decode cX8_askMark 40 = .ok (.ireturn, 1) := by decide +kernel
theorem dX8_askMark_41 : decode cX8_askMark 41 = .ok (.aload_n 0, 1) := by decide +kernel
theorem dX8_askMark_42 : decode cX8_askMark 42 = .ok (.bipush 23, 2) := by decide +kernel
theorem dX8_askMark_44 : decode cX8_askMark 44 = .ok (.invokevirtual 365, 3) := by decide +kernel
theorem dX8_askMark_47 : decode cX8_askMark 47 = .ok (.aload_n 0, 1) := by decide +kernel
theorem dX8_askMark_48 : decode cX8_askMark 48 = .ok (.aload_n 1, 1) := by decide +kernel
theorem dX8_askMark_49 : decode cX8_askMark 49 = .ok (.iload_n 2, 1) := by decide +kernel
theorem dX8_askMark_50 : decode cX8_askMark 50 = .ok (.invokevirtual 380, 3) := by decide +kernel
theorem dX8_askMark_53 : decode cX8_askMark 53 = .ok (.sipush 1000, 3) := by decide +kernel
theorem dX8_askMark_56 : decode cX8_askMark 56 = .ok (.isub, 1) := by decide +kernel
theorem dX8_askMark_57 : decode cX8_askMark 57 = .ok (.ireturn, 1) := by decide +kernel
theorem dX8_askMark_58 : decode cX8_askMark 58 = .ok (.aload_n 0, 1) := by decide +kernel
theorem dX8_askMark_59 : decode cX8_askMark 59 = .ok (.aload_n 1, 1) := by decide +kernel
theorem dX8_askMark_60 : decode cX8_askMark 60 = .ok (.invokevirtual 383, 3) := by decide +kernel
theorem dX8_askMark_63 : decode cX8_askMark 63 = .ok (.ireturn, 1) := by decide +kernel
theorem dX8_markOfAny_0 : decode cX8_markOfAny 0 = .ok (.aload_n 0, 1) := by decide +kernel
theorem dX8_markOfAny_1 : decode cX8_markOfAny 1 = .ok (.bipush 20, 2) := by decide +kernel
theorem dX8_markOfAny_3 : decode cX8_markOfAny 3 = .ok (.invokevirtual 365, 3) := by decide +kernel
theorem dX8_markOfAny_6 : decode cX8_markOfAny 6 = .ok (.aload_n 1, 1) := by decide +kernel
theorem dX8_markOfAny_7 : decode cX8_markOfAny 7 = .ok (.getfield 146, 3) := by decide +kernel
theorem dX8_markOfAny_10 : decode cX8_markOfAny 10 = .ok (.iconst 4, 1) := by decide +kernel
theorem dX8_markOfAny_11 : decode cX8_markOfAny 11 = .ok (.iaload, 1) := by decide +kernel
theorem dX8_markOfAny_12 : decode cX8_markOfAny 12 = .ok (.ireturn, 1) := by decide +kernel
theorem dX8_markOfEven_0 : decode cX8_markOfEven 0 = .ok (.aload_n 0, 1) := by decide +kernel
theorem dX8_markOfEven_1 : decode cX8_markOfEven 1 = .ok (.bipush 21, 2) := by decide +kernel
theorem dX8_markOfEven_3 : decode cX8_markOfEven 3 = .ok (.invokevirtual 365, 3) := by decide +kernel
theorem dX8_markOfEven_6 : decode cX8_markOfEven 6 = .ok (.aload_n 0, 1) := by decide +kernel
theorem dX8_markOfEven_7 : decode cX8_markOfEven 7 = .ok (.aload_n 1, 1) := by decide +kernel
theorem dX8_markOfEven_8 : decode cX8_markOfEven 8 = .ok (.invokevirtual 383, 3) := by decide +kernel
theorem dX8_markOfEven_11 : decode cX8_markOfEven 11 = .ok (.bipush 100, 2) := by decide +kernel
theorem dX8_markOfEven_13 : decode cX8_markOfEven 13 = .ok (.iadd, 1) := by decide +kernel
theorem dX8_markOfEven_14 : decode cX8_markOfEven 14 = .ok (.ireturn, 1) := by decide +kernel
theorem dX8_markOfSick_0 : decode cX8_markOfSick 0 = .ok (.aload_n 0, 1) := by decide +kernel
theorem dX8_markOfSick_1 : decode cX8_markOfSick 1 = .ok (.bipush 22, 2) := by decide +kernel
theorem dX8_markOfSick_3 : decode cX8_markOfSick 3 = .ok (.invokevirtual 365, 3) := by decide +kernel
theorem dX8_markOfSick_6 : decode cX8_markOfSick 6 = .ok (.aload_n 0, 1) := by decide +kernel
theorem dX8_markOfSick_7 : decode cX8_markOfSick 7 = .ok (.aload_n 1, 1) := by decide +kernel
theorem dX8_markOfSick_8 : decode cX8_markOfSick 8 = .ok (.invokevirtual 383, 3) := by decide +kernel
theorem dX8_markOfSick_11 : decode cX8_markOfSick 11 = .ok (.istore_n 3, 1) := by decide +kernel
theorem dX8_markOfSick_12 : decode cX8_markOfSick 12 = .ok (.iload_n 3, 1) := by decide +kernel
theorem dX8_markOfSick_13 : decode cX8_markOfSick 13 = .ok (.iload_n 2, 1) := by decide +kernel
theorem dX8_markOfSick_14 : decode cX8_markOfSick 14 = .ok (.iconst 4, 1) := by decide +kernel
theorem dX8_markOfSick_15 : decode cX8_markOfSick 15 = .ok (.if_icmp .ne 11, 3) := by decide +kernel
theorem dX8_markOfSick_18 : decode cX8_markOfSick 18 = .ok (.aload_n 0, 1) := by decide +kernel
theorem dX8_markOfSick_19 : decode cX8_markOfSick 19 = .ok (.aload_n 1, 1) := by decide +kernel
theorem dX8_markOfSick_20 : decode cX8_markOfSick 20 = .ok (.invokevirtual 374, 3) := by decide +kernel
theorem dX8_markOfSick_23 : decode cX8_markOfSick 23 = .ok (.goto 8, 3) := by decide +kernel
theorem dX8_markOfSick_26 : decode cX8_markOfSick 26 = .ok (.aload_n 0, 1) := by decide +kernel
theorem dX8_markOfSick_27 : decode cX8_markOfSick 27 = .ok (.aload_n 1, 1) := by decide +kernel
theorem dX8_markOfSick_28 : decode cX8_markOfSick 28 = .ok (.invokevirtual 371, 3) := by decide +kernel
theorem dX8_markOfSick_31 : decode cX8_markOfSick 31 = .ok (.iadd, 1) := by decide +kernel
theorem dX8_markOfSick_32 : decode cX8_markOfSick 32 = .ok (.ireturn, 1) := by decide +kernel
theorem dX8_leave_0 : decode cX8_leave 0 = .ok (.aload_n 0, 1) := by decide +kernel
theorem dX8_leave_1 : decode cX8_leave 1 = .ok (.getfield 325, 3) := by decide +kernel
theorem dX8_leave_4 : decode cX8_leave 4 = .ok (.iconst 0, 1) := by decide +kernel
theorem dX8_leave_5 : decode cX8_leave 5 = .ok (.bipush 15, 2) := by decide +kernel
theorem dX8_leave_7 : decode cX8_leave 7 = .ok (.invokestatic 77, 3) := by decide +kernel
theorem dX8_leave_10 : decode cX8_leave 10 = .ok (.ifCond .eq 23, 3) := by decide +kernel
theorem dX8_leave_13 : decode cX8_leave 13 = .ok (.aload_n 0, 1) := by decide +kernel
theorem dX8_leave_14 : decode cX8_leave 14 = .ok (.getfield 72, 3) := by decide +kernel
theorem dX8_leave_17 : decode cX8_leave 17 = .ok (.aload_n 0, 1) := by decide +kernel
theorem dX8_leave_18 : decode cX8_leave 18 = .ok (.getfield 325, 3) := by decide +kernel
theorem dX8_leave_21 : decode cX8_leave 21 = .ok (.iload_n 1, 1) := by decide +kernel
theorem dX8_leave_22 : decode cX8_leave 22 = .ok (.iastore, 1) := by decide +kernel
theorem dX8_leave_23 : decode cX8_leave 23 = .ok (.aload_n 0, 1) := by decide +kernel
theorem dX8_leave_24 : decode cX8_leave 24 = .ok (.dup, 1) := by decide +kernel
theorem dX8_leave_25 : decode cX8_leave 25 = .ok (.getfield 325, 3) := by decide +kernel
theorem dX8_leave_28 : decode cX8_leave 28 = .ok (.iconst 1, 1) := by decide +kernel
theorem dX8_leave_29 : decode cX8_leave 29 = .ok (.iadd, 1) := by decide +kernel
theorem dX8_leave_30 : decode cX8_leave 30 = .ok (.putfield 325, 3) := by decide +kernel
theorem dX8_leave_33 : decode cX8_leave 33 = .ok (.return_, 1) := by decide +kernel
theorem dX8_countSheets_0 : decode cX8_countSheets 0 = .ok (.iconst 0, 1) := by decide +kernel
theorem dX8_countSheets_1 : decode cX8_countSheets 1 = .ok (.istore_n 1, 1) := by decide +kernel
theorem dX8_countSheets_2 : decode cX8_countSheets 2 = .ok (.iconst 0, 1) := by decide +kernel
theorem dX8_countSheets_3 : decode cX8_countSheets 3 = .ok (.istore_n 2, 1) := by decide +kernel
theorem dX8_countSheets_4 : decode cX8_countSheets 4 = .ok (.iload_n 2, 1) := by decide +kernel
theorem dX8_countSheets_5 : decode cX8_countSheets 5 = .ok (.bipush 8, 2) := by decide +kernel
theorem dX8_countSheets_7 : decode cX8_countSheets 7 = .ok (.if_icmp .ge 25, 3) := by decide +kernel
theorem dX8_countSheets_10 : decode cX8_countSheets 10 = .ok (.iload_n 1, 1) := by decide +kernel
theorem dX8_countSheets_11 : decode cX8_countSheets 11 = .ok (.aload_n 0, 1) := by decide +kernel
theorem dX8_countSheets_12 : decode cX8_countSheets 12 = .ok (.iload_n 2, 1) := by decide +kernel
theorem dX8_countSheets_13 : decode cX8_countSheets 13 = .ok (.invokevirtual 93, 3) := by decide +kernel
theorem dX8_countSheets_16 : decode cX8_countSheets 16 = .ok (.ifnull 7, 3) := by decide +kernel
theorem dX8_countSheets_19 : decode cX8_countSheets 19 = .ok (.iconst 1, 1) := by decide +kernel
theorem dX8_countSheets_20 : decode cX8_countSheets 20 = .ok (.goto 4, 3) := by decide +kernel
theorem dX8_countSheets_23 : decode cX8_countSheets 23 = .ok (.iconst 0, 1) := by decide +kernel
theorem dX8_countSheets_24 : decode cX8_countSheets 24 = .ok (.iadd, 1) := by decide +kernel
theorem dX8_countSheets_25 : decode cX8_countSheets 25 = .ok (.istore_n 1, 1) := by decide +kernel
theorem dX8_countSheets_26 : decode cX8_countSheets 26 = .ok (.iinc 2 1, 3) := by decide +kernel
theorem dX8_countSheets_29 : decode cX8_countSheets 29 = .ok (.goto (-25), 3) := by decide +kernel
theorem dX8_countSheets_32 : decode cX8_countSheets 32 = .ok (.iload_n 1, 1) := by decide +kernel
theorem dX8_countSheets_33 : decode cX8_countSheets 33 = .ok (.ireturn, 1) := by decide +kernel
theorem dX8_countEngines_0 : decode cX8_countEngines 0 = .ok (.iconst 0, 1) := by decide +kernel
theorem dX8_countEngines_1 : decode cX8_countEngines 1 = .ok (.istore_n 2, 1) := by decide +kernel
theorem dX8_countEngines_2 : decode cX8_countEngines 2 = .ok (.iconst 0, 1) := by decide +kernel
theorem dX8_countEngines_3 : decode cX8_countEngines 3 = .ok (.istore_n 3, 1) := by decide +kernel
theorem dX8_countEngines_4 : decode cX8_countEngines 4 = .ok (.iload_n 3, 1) := by decide +kernel
theorem dX8_countEngines_5 : decode cX8_countEngines 5 = .ok (.bipush 6, 2) := by decide +kernel
theorem dX8_countEngines_7 : decode cX8_countEngines 7 = .ok (.if_icmp .ge 41, 3) := by decide +kernel
theorem dX8_countEngines_10 : decode cX8_countEngines 10 = .ok (.aload_n 0, 1) := by decide +kernel
theorem dX8_countEngines_11 : decode cX8_countEngines 11 = .ok (.iload_n 3, 1) := by decide +kernel
theorem dX8_countEngines_12 : decode cX8_countEngines 12 = .ok (.invokevirtual 142, 3) := by decide +kernel
theorem dX8_countEngines_15 : decode cX8_countEngines 15 = .ok (.astore 4, 2) := by decide +kernel
theorem dX8_countEngines_17 : decode cX8_countEngines 17 = .ok (.aload 4, 2) := by decide +kernel
theorem dX8_countEngines_19 : decode cX8_countEngines 19 = .ok (.ifnull 23, 3) := by decide +kernel
theorem dX8_countEngines_22 : decode cX8_countEngines 22 = .ok (.iload_n 1, 1) := by decide +kernel
theorem dX8_countEngines_23 : decode cX8_countEngines 23 = .ok (.ifCond .eq 16, 3) := by decide +kernel
theorem dX8_countEngines_26 : decode cX8_countEngines 26 = .ok (.aload_n 0, 1) := by decide +kernel
theorem dX8_countEngines_27 : decode cX8_countEngines 27 = .ok (.aload 4, 2) := by decide +kernel
theorem dX8_countEngines_29 : decode cX8_countEngines 29 = .ok (.invokevirtual 319, 3) := by decide +kernel
theorem dX8_countEngines_32 : decode cX8_countEngines 32 = .ok (.iload_n 1, 1) := by decide +kernel
theorem dX8_countEngines_33 : decode cX8_countEngines 33 = .ok (.invokestatic 322, 3) := by decide +kernel
theorem dX8_countEngines_36 : decode cX8_countEngines 36 = .ok (.ifCond .eq 6, 3) := by decide +kernel
theorem dX8_countEngines_39 : decode cX8_countEngines 39 = .ok (.iinc 2 1, 3) := by decide +kernel
theorem dX8_countEngines_42 : decode cX8_countEngines 42 = .ok (.iinc 3 1, 3) := by decide +kernel
theorem dX8_countEngines_45 : decode cX8_countEngines 45 = .ok (.goto (-41), 3) := by decide +kernel
theorem dX8_countEngines_48 : decode cX8_countEngines 48 = .ok (.iload_n 2, 1) := by decide +kernel
theorem dX8_countEngines_49 : decode cX8_countEngines 49 = .ok (.ireturn, 1) := by decide +kernel
theorem dX8_countFoundCards_0 : decode cX8_countFoundCards 0 = .ok (.iconst 0, 1) := by decide +kernel
theorem dX8_countFoundCards_1 : decode cX8_countFoundCards 1 = .ok (.istore_n 1, 1) := by decide +kernel
theorem dX8_countFoundCards_2 : decode cX8_countFoundCards 2 = .ok (.iconst 0, 1) := by decide +kernel
theorem dX8_countFoundCards_3 : decode cX8_countFoundCards 3 = .ok (.istore_n 2, 1) := by decide +kernel
theorem dX8_countFoundCards_4 : decode cX8_countFoundCards 4 = .ok (.iload_n 2, 1) := by decide +kernel
theorem dX8_countFoundCards_5 : decode cX8_countFoundCards 5 = .ok (.bipush 6, 2) := by decide +kernel
theorem dX8_countFoundCards_7 : decode cX8_countFoundCards 7 = .ok (.if_icmp .ge 29, 3) := by decide +kernel
theorem dX8_countFoundCards_10 : decode cX8_countFoundCards 10 = .ok (.iload_n 1, 1) := by decide +kernel
theorem dX8_countFoundCards_11 : decode cX8_countFoundCards 11 = .ok (.aload_n 0, 1) := by decide +kernel
theorem dX8_countFoundCards_12 : decode cX8_countFoundCards 12 = .ok (.getfield 23, 3) := by decide +kernel
theorem dX8_countFoundCards_15 : decode cX8_countFoundCards 15 = .ok (.iload_n 2, 1) := by decide +kernel
theorem dX8_countFoundCards_16 : decode cX8_countFoundCards 16 = .ok (.aaload, 1) := by decide +kernel
theorem dX8_countFoundCards_17 : decode cX8_countFoundCards 17 = .ok (.getfield 139, 3) := by decide +kernel
theorem dX8_countFoundCards_20 : decode cX8_countFoundCards 20 = .ok (.ifCond .eq 7, 3) := by decide +kernel
theorem dX8_countFoundCards_23 : decode cX8_countFoundCards 23 = .ok (.iconst 1, 1) := by decide +kernel
theorem dX8_countFoundCards_24 : decode cX8_countFoundCards 24 = .ok (.goto 4, 3) := by decide +kernel
theorem dX8_countFoundCards_27 : decode cX8_countFoundCards 27 = .ok (.iconst 0, 1) := by decide +kernel
theorem dX8_countFoundCards_28 : decode cX8_countFoundCards 28 = .ok (.iadd, 1) := by decide +kernel
theorem dX8_countFoundCards_29 : decode cX8_countFoundCards 29 = .ok (.istore_n 1, 1) := by decide +kernel
theorem dX8_countFoundCards_30 : decode cX8_countFoundCards 30 = .ok (.iinc 2 1, 3) := by decide +kernel
theorem dX8_countFoundCards_33 : decode cX8_countFoundCards 33 = .ok (.goto (-29), 3) := by decide +kernel
theorem dX8_countFoundCards_36 : decode cX8_countFoundCards 36 = .ok (.iload_n 1, 1) := by decide +kernel
theorem dX8_countFoundCards_37 : decode cX8_countFoundCards 37 = .ok (.ireturn, 1) := by decide +kernel
