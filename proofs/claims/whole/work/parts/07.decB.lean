theorem dX10_init_0 : decode cX10_init 0 = .ok (.aload_n 0, 1) := by decide +kernel
theorem dX10_init_1 : decode cX10_init 1 = .ok (.invokespecial 3, 3) := by decide +kernel
theorem dX10_init_4 : decode cX10_init 4 = .ok (.aload_n 0, 1) := by decide +kernel
theorem dX10_init_5 : decode cX10_init 5 = .ok (.new 9, 3) := by decide +kernel
theorem dX10_init_8 : decode cX10_init 8 = .ok (.dup, 1) := by decide +kernel
theorem dX10_init_9 : decode cX10_init 9 = .ok (.bipush 6, 2) := by decide +kernel
theorem dX10_init_11 : decode cX10_init 11 = .ok (.invokespecial 11, 3) := by decide +kernel
theorem dX10_init_14 : decode cX10_init 14 = .ok (.putfield 14, 3) := by decide +kernel
theorem dX10_init_17 : decode cX10_init 17 = .ok (.aload_n 0, 1) := by decide +kernel
theorem dX10_init_18 : decode cX10_init 18 = .ok (.iconst 4, 1) := by decide +kernel
theorem dX10_init_19 : decode cX10_init 19 = .ok (.anewarray 18, 3) := by decide +kernel
theorem dX10_init_22 : decode cX10_init 22 = .ok (.putfield 20, 3) := by decide +kernel
theorem dX10_init_25 : decode cX10_init 25 = .ok (.iconst 0, 1) := by decide +kernel
theorem dX10_init_26 : decode cX10_init 26 = .ok (.istore_n 1, 1) := by decide +kernel
theorem dX10_init_27 : decode cX10_init 27 = .ok (.iload_n 1, 1) := by decide +kernel
theorem dX10_init_28 : decode cX10_init 28 = .ok (.iconst 4, 1) := by decide +kernel
theorem dX10_init_29 : decode cX10_init 29 = .ok (.if_icmp .ge 26, 3) := by decide +kernel
theorem dX10_init_32 : decode cX10_init 32 = .ok (.aload_n 0, 1) := by decide +kernel
theorem dX10_init_33 : decode cX10_init 33 = .ok (.getfield 20, 3) := by decide +kernel
theorem dX10_init_36 : decode cX10_init 36 = .ok (.iload_n 1, 1) := by decide +kernel
theorem dX10_init_37 : decode cX10_init 37 = .ok (.new 18, 3) := by decide +kernel
theorem dX10_init_40 : decode cX10_init 40 = .ok (.dup, 1) := by decide +kernel
theorem dX10_init_41 : decode cX10_init 41 = .ok (.aload_n 0, 1) := by decide +kernel
theorem dX10_init_42 : decode cX10_init 42 = .ok (.getfield 14, 3) := by decide +kernel
theorem dX10_init_45 : decode cX10_init 45 = .ok (.invokespecial 24, 3) := by decide +kernel
theorem dX10_init_48 : decode cX10_init 48 = .ok (.aastore, 1) := by decide +kernel
theorem dX10_init_49 : decode cX10_init 49 = .ok (.iinc 1 1, 3) := by decide +kernel
theorem dX10_init_52 : decode cX10_init 52 = .ok (.goto (-25), 3) := by decide +kernel
theorem dX10_init_55 : decode cX10_init 55 = .ok (.aload_n 0, 1) := by decide +kernel
theorem dX10_init_56 : decode cX10_init 56 = .ok (.new 27, 3) := by decide +kernel
theorem dX10_init_59 : decode cX10_init 59 = .ok (.dup, 1) := by decide +kernel
theorem dX10_init_60 : decode cX10_init 60 = .ok (.aload_n 0, 1) := by decide +kernel
theorem dX10_init_61 : decode cX10_init 61 = .ok (.getfield 14, 3) := by decide +kernel
theorem dX10_init_64 : decode cX10_init 64 = .ok (.invokespecial 29, 3) := by decide +kernel
theorem dX10_init_67 : decode cX10_init 67 = .ok (.putfield 30, 3) := by decide +kernel
theorem dX10_init_70 : decode cX10_init 70 = .ok (.aload_n 0, 1) := by decide +kernel
theorem dX10_init_71 : decode cX10_init 71 = .ok (.new 34, 3) := by decide +kernel
theorem dX10_init_74 : decode cX10_init 74 = .ok (.dup, 1) := by decide +kernel
theorem dX10_init_75 : decode cX10_init 75 = .ok (.invokespecial 36, 3) := by decide +kernel
theorem dX10_init_78 : decode cX10_init 78 = .ok (.putfield 37, 3) := by decide +kernel
theorem dX10_init_81 : decode cX10_init 81 = .ok (.aload_n 0, 1) := by decide +kernel
theorem dX10_init_82 : decode cX10_init 82 = .ok (.new 41, 3) := by decide +kernel
theorem dX10_init_85 : decode cX10_init 85 = .ok (.dup, 1) := by decide +kernel
theorem dX10_init_86 : decode cX10_init 86 = .ok (.aload_n 0, 1) := by decide +kernel
theorem dX10_init_87 : decode cX10_init 87 = .ok (.getfield 14, 3) := by decide +kernel
theorem dX10_init_90 : decode cX10_init 90 = .ok (.invokespecial 43, 3) := by decide +kernel
theorem dX10_init_93 : decode cX10_init 93 = .ok (.putfield 44, 3) := by decide +kernel
theorem dX10_init_96 : decode cX10_init 96 = .ok (.aload_n 0, 1) := by decide +kernel
theorem dX10_init_97 : decode cX10_init 97 = .ok (.new 48, 3) := by decide +kernel
theorem dX10_init_100 : decode cX10_init 100 = .ok (.dup, 1) := by decide +kernel
theorem dX10_init_101 : decode cX10_init 101 = .ok (.aload_n 0, 1) := by decide +kernel
theorem dX10_init_102 : decode cX10_init 102 = .ok (.getfield 14, 3) := by decide +kernel
theorem dX10_init_105 : decode cX10_init 105 = .ok (.invokespecial 50, 3) := by decide +kernel
theorem dX10_init_108 : decode cX10_init 108 = .ok (.putfield 51, 3) := by decide +kernel
theorem dX10_init_111 : decode cX10_init 111 = .ok (.aload_n 0, 1) := by decide +kernel
theorem dX10_init_112 : decode cX10_init 112 = .ok (.new 55, 3) := by decide +kernel
theorem dX10_init_115 : decode cX10_init 115 = .ok (.dup, 1) := by decide +kernel
theorem dX10_init_116 : decode cX10_init 116 = .ok (.aload_n 0, 1) := by decide +kernel
theorem dX10_init_117 : decode cX10_init 117 = .ok (.getfield 14, 3) := by decide +kernel
theorem dX10_init_120 : decode cX10_init 120 = .ok (.invokespecial 57, 3) := by decide +kernel
theorem dX10_init_123 : decode cX10_init 123 = .ok (.putfield 58, 3) := by decide +kernel
theorem dX10_init_126 : decode cX10_init 126 = .ok (.aload_n 0, 1) := by decide +kernel
theorem dX10_init_127 : decode cX10_init 127 = .ok (.new 62, 3) := by decide +kernel
theorem dX10_init_130 : decode cX10_init 130 = .ok (.dup, 1) := by decide +kernel
theorem dX10_init_131 : decode cX10_init 131 = .ok (.aload_n 0, 1) := by decide +kernel
theorem dX10_init_132 : decode cX10_init 132 = .ok (.getfield 14, 3) := by decide +kernel
theorem dX10_init_135 : decode cX10_init 135 = .ok (.aload_n 0, 1) := by decide +kernel
theorem dX10_init_136 : decode cX10_init 136 = .ok (.getfield 44, 3) := by decide +kernel
theorem dX10_init_139 : decode cX10_init 139 = .ok (.invokespecial 64, 3) := by decide +kernel
theorem dX10_init_142 : decode cX10_init 142 = .ok (.putfield 67, 3) := by decide +kernel
theorem dX10_init_145 : decode cX10_init 145 = .ok (.aload_n 0, 1) := by decide +kernel
theorem dX10_init_146 : decode cX10_init 146 = .ok (.new 71, 3) := by decide +kernel
theorem dX10_init_149 : decode cX10_init 149 = .ok (.dup, 1) := by decide +kernel
theorem dX10_init_150 : decode cX10_init 150 = .ok (.aload_n 0, 1) := by decide +kernel
theorem dX10_init_151 : decode cX10_init 151 = .ok (.getfield 14, 3) := by decide +kernel
theorem dX10_init_154 : decode cX10_init 154 = .ok (.invokespecial 73, 3) := by decide +kernel
theorem dX10_init_157 : decode cX10_init 157 = .ok (.putfield 74, 3) := by decide +kernel
theorem dX10_init_160 : decode cX10_init 160 = .ok (.aload_n 0, 1) := by decide +kernel
theorem dX10_init_161 : decode cX10_init 161 = .ok (.sipush 1024, 3) := by decide +kernel
theorem dX10_init_164 : decode cX10_init 164 = .ok (.newarray .int, 2) := by decide +kernel
theorem dX10_init_166 : decode cX10_init 166 = .ok (.putfield 78, 3) := by decide +kernel
theorem dX10_init_169 : decode cX10_init 169 = .ok (.aload_n 0, 1) := by decide +kernel
theorem dX10_init_170 : decode cX10_init 170 = .ok (.new 18, 3) := by decide +kernel
theorem dX10_init_173 : decode cX10_init 173 = .ok (.dup, 1) := by decide +kernel
theorem dX10_init_174 : decode cX10_init 174 = .ok (.aload_n 0, 1) := by decide +kernel
theorem dX10_init_175 : decode cX10_init 175 = .ok (.getfield 14, 3) := by decide +kernel
theorem dX10_init_178 : decode cX10_init 178 = .ok (.invokespecial 24, 3) := by decide +kernel
theorem dX10_init_181 : decode cX10_init 181 = .ok (.putfield 82, 3) := by decide +kernel
theorem dX10_init_184 : decode cX10_init 184 = .ok (.aload_n 0, 1) := by decide +kernel
theorem dX10_init_185 : decode cX10_init 185 = .ok (.new 18, 3) := by decide +kernel
theorem dX10_init_188 : decode cX10_init 188 = .ok (.dup, 1) := by decide +kernel
theorem dX10_init_189 : decode cX10_init 189 = .ok (.aload_n 0, 1) := by decide +kernel
theorem dX10_init_190 : decode cX10_init 190 = .ok (.getfield 14, 3) := by decide +kernel
theorem dX10_init_193 : decode cX10_init 193 = .ok (.invokespecial 24, 3) := by decide +kernel
theorem dX10_init_196 : decode cX10_init 196 = .ok (.putfield 86, 3) := by decide +kernel
theorem dX10_init_199 : decode cX10_init 199 = .ok (.return_, 1) := by decide +kernel
theorem dX10_setGround_0 : decode cX10_setGround 0 = .ok (.iload_n 1, 1) := by decide +kernel
theorem dX10_setGround_1 : decode cX10_setGround 1 = .ok (.iconst 1, 1) := by decide +kernel
theorem dX10_setGround_2 : decode cX10_setGround 2 = .ok (.bipush 10, 2) := by decide +kernel
theorem dX10_setGround_4 : decode cX10_setGround 4 = .ok (.invokestatic 89, 3) := by decide +kernel
theorem dX10_setGround_7 : decode cX10_setGround 7 = .ok (.aload_n 0, 1) := by decide +kernel
theorem dX10_setGround_8 : decode cX10_setGround 8 = .ok (.getfield 14, 3) := by decide +kernel
theorem dX10_setGround_11 : decode cX10_setGround 11 = .ok (.getfield 93, 3) := by decide +kernel
theorem dX10_setGround_14 : decode cX10_setGround 14 = .ok (.istore_n 2, 1) := by decide +kernel
theorem dX10_setGround_15 : decode cX10_setGround 15 = .ok (.aload_n 0, 1) := by decide +kernel
theorem dX10_setGround_16 : decode cX10_setGround 16 = .ok (.getfield 30, 3) := by decide +kernel
theorem dX10_setGround_19 : decode cX10_setGround 19 = .ok (.aload_n 0, 1) := by decide +kernel
theorem dX10_setGround_20 : decode cX10_setGround 20 = .ok (.getfield 14, 3) := by decide +kernel
theorem dX10_setGround_23 : decode cX10_setGround 23 = .ok (.aload_n 0, 1) := by decide +kernel
theorem dX10_setGround_24 : decode cX10_setGround 24 = .ok (.getfield 20, 3) := by decide +kernel
theorem dX10_setGround_27 : decode cX10_setGround 27 = .ok (.invokevirtual 97, 3) := by decide +kernel
theorem dX10_setGround_30 : decode cX10_setGround 30 = .ok (.aload_n 0, 1) := by decide +kernel
theorem dX10_setGround_31 : decode cX10_setGround 31 = .ok (.getfield 14, 3) := by decide +kernel
theorem dX10_setGround_34 : decode cX10_setGround 34 = .ok (.iload_n 1, 1) := by decide +kernel
theorem dX10_setGround_35 : decode cX10_setGround 35 = .ok (.invokevirtual 101, 3) := by decide +kernel
theorem dX10_setGround_38 : decode cX10_setGround 38 = .ok (.iconst 0, 1) := by decide +kernel
theorem dX10_setGround_39 : decode cX10_setGround 39 = .ok (.istore_n 3, 1) := by decide +kernel
theorem dX10_setGround_40 : decode cX10_setGround 40 = .ok (.iload_n 3, 1) := by decide +kernel
theorem dX10_setGround_41 : decode cX10_setGround 41 = .ok (.iconst 4, 1) := by decide +kernel
theorem dX10_setGround_42 : decode cX10_setGround 42 = .ok (.if_icmp .ge 18, 3) := by decide +kernel
theorem dX10_setGround_45 : decode cX10_setGround 45 = .ok (.aload_n 0, 1) := by decide +kernel
theorem dX10_setGround_46 : decode cX10_setGround 46 = .ok (.getfield 20, 3) := by decide +kernel
theorem dX10_setGround_49 : decode cX10_setGround 49 = .ok (.iload_n 3, 1) := by decide +kernel
theorem dX10_setGround_50 : decode cX10_setGround 50 = .ok (.aaload, 1) := by decide +kernel
theorem dX10_setGround_51 : decode cX10_setGround 51 = .ok (.invokevirtual 104, 3) := by decide +kernel
theorem dX10_setGround_54 : decode cX10_setGround 54 = .ok (.iinc 3 1, 3) := by decide +kernel
theorem dX10_setGround_57 : decode cX10_setGround 57 = .ok (.goto (-17), 3) := by decide +kernel
theorem dX10_setGround_60 : decode cX10_setGround 60 = .ok (.iload_n 2, 1) := by decide +kernel
theorem dX10_setGround_61 : decode cX10_setGround 61 = .ok (.ireturn, 1) := by decide +kernel
theorem dX10_add_0 : decode cX10_add 0 = .ok (.iload_n 1, 1) := by decide +kernel
theorem dX10_add_1 : decode cX10_add 1 = .ok (.invokestatic 107, 3) := by decide +kernel
theorem dX10_add_4 : decode cX10_add 4 = .ok (.aload_n 0, 1) := by decide +kernel
theorem dX10_add_5 : decode cX10_add 5 = .ok (.iload_n 2, 1) := by decide +kernel
theorem dX10_add_6 : decode cX10_add 6 = .ok (.invokevirtual 110, 3) := by decide +kernel
theorem dX10_add_9 : decode cX10_add 9 = .ok (.aload_n 0, 1) := by decide +kernel
theorem dX10_add_10 : decode cX10_add 10 = .ok (.getfield 30, 3) := by decide +kernel
theorem dX10_add_13 : decode cX10_add 13 = .ok (.aload_n 0, 1) := by decide +kernel
theorem dX10_add_14 : decode cX10_add 14 = .ok (.getfield 14, 3) := by decide +kernel
theorem dX10_add_17 : decode cX10_add 17 = .ok (.aload_n 0, 1) := by decide +kernel
theorem dX10_add_18 : decode cX10_add 18 = .ok (.getfield 20, 3) := by decide +kernel
theorem dX10_add_21 : decode cX10_add 21 = .ok (.invokevirtual 97, 3) := by decide +kernel
theorem dX10_add_24 : decode cX10_add 24 = .ok (.aload_n 0, 1) := by decide +kernel
theorem dX10_add_25 : decode cX10_add 25 = .ok (.getfield 20, 3) := by decide +kernel
theorem dX10_add_28 : decode cX10_add 28 = .ok (.iload_n 1, 1) := by decide +kernel
theorem dX10_add_29 : decode cX10_add 29 = .ok (.aaload, 1) := by decide +kernel
theorem dX10_add_30 : decode cX10_add 30 = .ok (.iload_n 2, 1) := by decide +kernel
theorem dX10_add_31 : decode cX10_add 31 = .ok (.invokevirtual 113, 3) := by decide +kernel
theorem dX10_add_34 : decode cX10_add 34 = .ok (.ifCond .ne 7, 3) := by decide +kernel
theorem dX10_add_37 : decode cX10_add 37 = .ok (.iconst 1, 1) := by decide +kernel
theorem dX10_add_38 : decode cX10_add 38 = .ok (.goto 4, 3) := by decide +kernel
theorem dX10_add_41 : decode cX10_add 41 = .ok (.iconst 0, 1) := by decide +kernel
theorem dX10_add_42 : decode cX10_add 42 = .ok (.istore_n 3, 1) := by decide +kernel
theorem dX10_add_43 : decode cX10_add 43 = .ok (.aload_n 0, 1) := by decide +kernel
theorem dX10_add_44 : decode cX10_add 44 = .ok (.getfield 20, 3) := by decide +kernel
theorem dX10_add_47 : decode cX10_add 47 = .ok (.iload_n 1, 1) := by decide +kernel
theorem dX10_add_48 : decode cX10_add 48 = .ok (.aaload, 1) := by decide +kernel
theorem dX10_add_49 : decode cX10_add 49 = .ok (.iload_n 2, 1) := by decide +kernel
theorem dX10_add_50 : decode cX10_add 50 = .ok (.invokevirtual 117, 3) := by decide +kernel
theorem dX10_add_53 : decode cX10_add 53 = .ok (.iload_n 3, 1) := by decide +kernel
theorem dX10_add_54 : decode cX10_add 54 = .ok (.ireturn, 1) := by decide +kernel
theorem dX10_remove_0 : decode cX10_remove 0 = .ok (.iload_n 1, 1) := by decide +kernel
theorem dX10_remove_1 : decode cX10_remove 1 = .ok (.invokestatic 107, 3) := by decide +kernel
theorem dX10_remove_4 : decode cX10_remove 4 = .ok (.aload_n 0, 1) := by decide +kernel
theorem dX10_remove_5 : decode cX10_remove 5 = .ok (.iload_n 2, 1) := by decide +kernel
theorem dX10_remove_6 : decode cX10_remove 6 = .ok (.invokevirtual 110, 3) := by decide +kernel
theorem dX10_remove_9 : decode cX10_remove 9 = .ok (.aload_n 0, 1) := by decide +kernel
theorem dX10_remove_10 : decode cX10_remove 10 = .ok (.getfield 30, 3) := by decide +kernel
theorem dX10_remove_13 : decode cX10_remove 13 = .ok (.aload_n 0, 1) := by decide +kernel
theorem dX10_remove_14 : decode cX10_remove 14 = .ok (.getfield 14, 3) := by decide +kernel
theorem dX10_remove_17 : decode cX10_remove 17 = .ok (.aload_n 0, 1) := by decide +kernel
theorem dX10_remove_18 : decode cX10_remove 18 = .ok (.getfield 20, 3) := by decide +kernel
theorem dX10_remove_21 : decode cX10_remove 21 = .ok (.invokevirtual 97, 3) := by decide +kernel
theorem dX10_remove_24 : decode cX10_remove 24 = .ok (.aload_n 0, 1) := by decide +kernel
theorem dX10_remove_25 : decode cX10_remove 25 = .ok (.getfield 20, 3) := by decide +kernel
theorem dX10_remove_28 : decode cX10_remove 28 = .ok (.iload_n 1, 1) := by decide +kernel
theorem dX10_remove_29 : decode cX10_remove 29 = .ok (.aaload, 1) := by decide +kernel
theorem dX10_remove_30 : decode cX10_remove 30 = .ok (.iload_n 2, 1) := by decide +kernel
theorem dX10_remove_31 : decode cX10_remove 31 = .ok (.invokevirtual 113, 3) := by decide +kernel
theorem dX10_remove_34 : decode cX10_remove 34 = .ok (.istore_n 3, 1) := by decide +kernel
theorem dX10_remove_35 : decode cX10_remove 35 = .ok (.aload_n 0, 1) := by decide +kernel
theorem dX10_remove_36 : decode cX10_remove 36 = .ok (.getfield 20, 3) := by decide +kernel
theorem dX10_remove_39 : decode cX10_remove 39 = .ok (.iload_n 1, 1) := by decide +kernel
theorem dX10_remove_40 : decode cX10_remove 40 = .ok (.aaload, 1) := by decide +kernel
theorem dX10_remove_41 : decode cX10_remove 41 = .ok (.iload_n 2, 1) := by decide +kernel
theorem dX10_remove_42 : decode cX10_remove 42 = .ok (.invokevirtual 120, 3) := by decide +kernel
theorem dX10_remove_45 : decode cX10_remove 45 = .ok (.iload_n 3, 1) := by decide +kernel
theorem dX10_remove_46 : decode cX10_remove 46 = .ok (.ireturn, 1) := by decide +kernel
theorem dX10_has_0 : decode cX10_has 0 = .ok (.iload_n 1, 1) := by decide +kernel
theorem dX10_has_1 : decode cX10_has 1 = .ok (.invokestatic 107, 3) := by decide +kernel
theorem dX10_has_4 : decode cX10_has 4 = .ok (.aload_n 0, 1) := by decide +kernel
theorem dX10_has_5 : decode cX10_has 5 = .ok (.iload_n 2, 1) := by decide +kernel
theorem dX10_has_6 : decode cX10_has 6 = .ok (.invokevirtual 110, 3) := by decide +kernel
theorem dX10_has_9 : decode cX10_has 9 = .ok (.aload_n 0, 1) := by decide +kernel
theorem dX10_has_10 : decode cX10_has 10 = .ok (.getfield 20, 3) := by decide +kernel
theorem dX10_has_13 : decode cX10_has 13 = .ok (.iload_n 1, 1) := by decide +kernel
theorem dX10_has_14 : decode cX10_has 14 = .ok (.aaload, 1) := by decide +kernel
theorem dX10_has_15 : decode cX10_has 15 = .ok (.iload_n 2, 1) := by decide +kernel
theorem dX10_has_16 : decode cX10_has 16 = .ok (.invokevirtual 113, 3) := by decide +kernel
theorem dX10_has_19 : decode cX10_has 19 = .ok (.ireturn, 1) := by decide +kernel
theorem dX10_size_0 : decode cX10_size 0 = .ok (.iload_n 1, 1) := by decide +kernel
theorem dX10_size_1 : decode cX10_size 1 = .ok (.invokestatic 107, 3) := by decide +kernel
theorem dX10_size_4 : decode cX10_size 4 = .ok (.iload_n 2, 1) := by decide +kernel
theorem dX10_size_5 : decode cX10_size 5 = .ok (.iconst (-1), 1) := by decide +kernel
theorem dX10_size_6 : decode cX10_size 6 = .ok (.if_icmp .ne 13, 3) := by decide +kernel
theorem dX10_size_9 : decode cX10_size 9 = .ok (.aload_n 0, 1) := by decide +kernel
theorem dX10_size_10 : decode cX10_size 10 = .ok (.getfield 20, 3) := by decide +kernel
theorem dX10_size_13 : decode cX10_size 13 = .ok (.iload_n 1, 1) := by decide +kernel
theorem dX10_size_14 : decode cX10_size 14 = .ok (.aaload, 1) := by decide +kernel
theorem dX10_size_15 : decode cX10_size 15 = .ok (.invokevirtual 123, 3) := by decide +kernel
theorem dX10_size_18 : decode cX10_size 18 = .ok (.ireturn, 1) := by decide +kernel
theorem dX10_size_19 : decode cX10_size 19 = .ok (.iload_n 2, 1) := by decide +kernel
theorem dX10_size_20 : decode cX10_size 20 = .ok (.iconst 0, 1) := by decide +kernel
theorem dX10_size_21 : decode cX10_size 21 = .ok (.aload_n 0, 1) := by decide +kernel
theorem dX10_size_22 : decode cX10_size 22 = .ok (.getfield 14, 3) := by decide +kernel
theorem dX10_size_25 : decode cX10_size 25 = .ok (.getfield 93, 3) := by decide +kernel
theorem dX10_size_28 : decode cX10_size 28 = .ok (.invokestatic 89, 3) := by decide +kernel
theorem dX10_size_31 : decode cX10_size 31 = .ok (.aload_n 0, 1) := by decide +kernel
theorem dX10_size_32 : decode cX10_size 32 = .ok (.getfield 20, 3) := by decide +kernel
theorem dX10_size_35 : decode cX10_size 35 = .ok (.iload_n 1, 1) := by decide +kernel
theorem dX10_size_36 : decode cX10_size 36 = .ok (.aaload, 1) := by decide +kernel
theorem dX10_size_37 : decode cX10_size 37 = .ok (.iload_n 2, 1) := by decide +kernel
theorem dX10_size_38 : decode cX10_size 38 = .ok (.invokevirtual 127, 3) := by decide +kernel
theorem dX10_size_41 : decode cX10_size 41 = .ok (.ireturn, 1) := by decide +kernel
theorem dX10_get_0 : decode cX10_get 0 = .ok (.iload_n 1, 1) := by decide +kernel
theorem dX10_get_1 : decode cX10_get 1 = .ok (.invokestatic 107, 3) := by decide +kernel
theorem dX10_get_4 : decode cX10_get 4 = .ok (.iload_n 2, 1) := by decide +kernel
theorem dX10_get_5 : decode cX10_get 5 = .ok (.invokestatic 131, 3) := by decide +kernel
theorem dX10_get_8 : decode cX10_get 8 = .ok (.aload_n 0, 1) := by decide +kernel
theorem dX10_get_9 : decode cX10_get 9 = .ok (.getfield 20, 3) := by decide +kernel
theorem dX10_get_12 : decode cX10_get 12 = .ok (.iload_n 1, 1) := by decide +kernel
theorem dX10_get_13 : decode cX10_get 13 = .ok (.aaload, 1) := by decide +kernel
theorem dX10_get_14 : decode cX10_get 14 = .ok (.iload_n 2, 1) := by decide +kernel
theorem dX10_get_15 : decode cX10_get 15 = .ok (.invokevirtual 134, 3) := by decide +kernel
theorem dX10_get_18 : decode cX10_get 18 = .ok (.ireturn, 1) := by decide +kernel
theorem dX10_degree_0 : decode cX10_degree 0 = .ok (.iload_n 1, 1) := by decide +kernel
theorem dX10_degree_1 : decode cX10_degree 1 = .ok (.invokestatic 107, 3) := by decide +kernel
theorem dX10_degree_4 : decode cX10_degree 4 = .ok (.aload_n 0, 1) := by decide +kernel
theorem dX10_degree_5 : decode cX10_degree 5 = .ok (.iload_n 2, 1) := by decide +kernel
theorem dX10_degree_6 : decode cX10_degree 6 = .ok (.invokevirtual 137, 3) := by decide +kernel
theorem dX10_degree_9 : decode cX10_degree 9 = .ok (.aload_n 0, 1) := by decide +kernel
theorem dX10_degree_10 : decode cX10_degree 10 = .ok (.getfield 20, 3) := by decide +kernel
theorem dX10_degree_13 : decode cX10_degree 13 = .ok (.iload_n 1, 1) := by decide +kernel
theorem dX10_degree_14 : decode cX10_degree 14 = .ok (.aaload, 1) := by decide +kernel
theorem dX10_degree_15 : decode cX10_degree 15 = .ok (.iload_n 2, 1) := by decide +kernel
theorem dX10_degree_16 : decode cX10_degree 16 = .ok (.invokevirtual 140, 3) := by decide +kernel
theorem dX10_degree_19 : decode cX10_degree 19 = .ok (.ireturn, 1) := by decide +kernel
theorem dX10_combine_0 : decode cX10_combine 0 = .ok (.iload_n 1, 1) := by decide +kernel
theorem dX10_combine_1 : decode cX10_combine 1 = .ok (.invokestatic 107, 3) := by decide +kernel
theorem dX10_combine_4 : decode cX10_combine 4 = .ok (.iload_n 3, 1) := by decide +kernel
theorem dX10_combine_5 : decode cX10_combine 5 = .ok (.invokestatic 107, 3) := by decide +kernel
theorem dX10_combine_8 : decode cX10_combine 8 = .ok (.iload 4, 2) := by decide +kernel
theorem dX10_combine_10 : decode cX10_combine 10 = .ok (.invokestatic 107, 3) := by decide +kernel
theorem dX10_combine_13 : decode cX10_combine 13 = .ok (.iload_n 2, 1) := by decide +kernel
theorem dX10_combine_14 : decode cX10_combine 14 = .ok (.iconst 0, 1) := by decide +kernel
theorem dX10_combine_15 : decode cX10_combine 15 = .ok (.iconst 3, 1) := by decide +kernel
theorem dX10_combine_16 : decode cX10_combine 16 = .ok (.invokestatic 89, 3) := by decide +kernel
theorem dX10_combine_19 : decode cX10_combine 19 = .ok (.aload_n 0, 1) := by decide +kernel
theorem dX10_combine_20 : decode cX10_combine 20 = .ok (.getfield 82, 3) := by decide +kernel
theorem dX10_combine_23 : decode cX10_combine 23 = .ok (.iload_n 2, 1) := by decide +kernel
theorem dX10_combine_24 : decode cX10_combine 24 = .ok (.aload_n 0, 1) := by decide +kernel
theorem dX10_combine_25 : decode cX10_combine 25 = .ok (.getfield 20, 3) := by decide +kernel
theorem dX10_combine_28 : decode cX10_combine 28 = .ok (.iload_n 3, 1) := by decide +kernel
theorem dX10_combine_29 : decode cX10_combine 29 = .ok (.aaload, 1) := by decide +kernel
theorem dX10_combine_30 : decode cX10_combine 30 = .ok (.aload_n 0, 1) := by decide +kernel
theorem dX10_combine_31 : decode cX10_combine 31 = .ok (.getfield 20, 3) := by decide +kernel
theorem dX10_combine_34 : decode cX10_combine 34 = .ok (.iload 4, 2) := by decide +kernel
theorem dX10_combine_36 : decode cX10_combine 36 = .ok (.aaload, 1) := by decide +kernel
theorem dX10_combine_37 : decode cX10_combine 37 = .ok (.invokestatic 143, 3) := by decide +kernel
theorem dX10_combine_40 : decode cX10_combine 40 = .ok (.aload_n 0, 1) := by decide +kernel
theorem dX10_combine_41 : decode cX10_combine 41 = .ok (.iload_n 1, 1) := by decide +kernel
theorem dX10_combine_42 : decode cX10_combine 42 = .ok (.invokevirtual 147, 3) := by decide +kernel
theorem dX10_combine_45 : decode cX10_combine 45 = .ok (.ireturn, 1) := by decide +kernel
theorem dX10_derive_0 : decode cX10_derive 0 = .ok (.iload_n 1, 1) := by decide +kernel
theorem dX10_derive_1 : decode cX10_derive 1 = .ok (.invokestatic 107, 3) := by decide +kernel
theorem dX10_derive_4 : decode cX10_derive 4 = .ok (.iload_n 3, 1) := by decide +kernel
theorem dX10_derive_5 : decode cX10_derive 5 = .ok (.invokestatic 107, 3) := by decide +kernel
theorem dX10_derive_8 : decode cX10_derive 8 = .ok (.iload_n 2, 1) := by decide +kernel
theorem dX10_derive_9 : decode cX10_derive 9 = .ok (.iconst 0, 1) := by decide +kernel
theorem dX10_derive_10 : decode cX10_derive 10 = .ok (.bipush 9, 2) := by decide +kernel
theorem dX10_derive_12 : decode cX10_derive 12 = .ok (.invokestatic 89, 3) := by decide +kernel
theorem dX10_derive_15 : decode cX10_derive 15 = .ok (.aload_n 0, 1) := by decide +kernel
theorem dX10_derive_16 : decode cX10_derive 16 = .ok (.getfield 44, 3) := by decide +kernel
theorem dX10_derive_19 : decode cX10_derive 19 = .ok (.aload_n 0, 1) := by decide +kernel
theorem dX10_derive_20 : decode cX10_derive 20 = .ok (.getfield 82, 3) := by decide +kernel
theorem dX10_derive_23 : decode cX10_derive 23 = .ok (.iload_n 2, 1) := by decide +kernel
theorem dX10_derive_24 : decode cX10_derive 24 = .ok (.aload_n 0, 1) := by decide +kernel
theorem dX10_derive_25 : decode cX10_derive 25 = .ok (.getfield 20, 3) := by decide +kernel
theorem dX10_derive_28 : decode cX10_derive 28 = .ok (.iload_n 3, 1) := by decide +kernel
theorem dX10_derive_29 : decode cX10_derive 29 = .ok (.aaload, 1) := by decide +kernel
theorem dX10_derive_30 : decode cX10_derive 30 = .ok (.invokevirtual 150, 3) := by decide +kernel
theorem dX10_derive_33 : decode cX10_derive 33 = .ok (.aload_n 0, 1) := by decide +kernel
theorem dX10_derive_34 : decode cX10_derive 34 = .ok (.iload_n 1, 1) := by decide +kernel
theorem dX10_derive_35 : decode cX10_derive 35 = .ok (.invokevirtual 147, 3) := by decide +kernel
theorem dX10_derive_38 : decode cX10_derive 38 = .ok (.ireturn, 1) := by decide +kernel
theorem dX10_compress_0 : decode cX10_compress 0 = .ok (.iload_n 1, 1) := by decide +kernel
theorem dX10_compress_1 : decode cX10_compress 1 = .ok (.invokestatic 107, 3) := by decide +kernel
theorem dX10_compress_4 : decode cX10_compress 4 = .ok (.aload_n 0, 1) := by decide +kernel
theorem dX10_compress_5 : decode cX10_compress 5 = .ok (.iload_n 2, 1) := by decide +kernel
theorem dX10_compress_6 : decode cX10_compress 6 = .ok (.invokevirtual 137, 3) := by decide +kernel
theorem dX10_compress_9 : decode cX10_compress 9 = .ok (.aload_n 0, 1) := by decide +kernel
theorem dX10_compress_10 : decode cX10_compress 10 = .ok (.iload_n 3, 1) := by decide +kernel
theorem dX10_compress_11 : decode cX10_compress 11 = .ok (.invokevirtual 137, 3) := by decide +kernel
theorem dX10_compress_14 : decode cX10_compress 14 = .ok (.iload_n 3, 1) := by decide +kernel
theorem dX10_compress_15 : decode cX10_compress 15 = .ok (.iload_n 2, 1) := by decide +kernel
theorem dX10_compress_16 : decode cX10_compress 16 = .ok (.if_icmp .ne 13, 3) := by decide +kernel
theorem dX10_compress_19 : decode cX10_compress 19 = .ok (.new 153, 3) := by decide +kernel
theorem dX10_compress_22 : decode cX10_compress 22 = .ok (.dup, 1) := by decide +kernel
theorem dX10_compress_23 : decode cX10_compress 23 = .ok (.ldc 155, 2) := by decide +kernel
theorem dX10_compress_25 : decode cX10_compress 25 = .ok (.invokespecial 157, 3) := by decide +kernel
theorem dX10_compress_28 : decode cX10_compress 28 = .ok (.athrow, 1) := by decide +kernel
theorem dX10_compress_29 : decode cX10_compress 29 = .ok (.aload_n 0, 1) := by decide +kernel
theorem dX10_compress_30 : decode cX10_compress 30 = .ok (.getfield 30, 3) := by decide +kernel
theorem dX10_compress_33 : decode cX10_compress 33 = .ok (.aload_n 0, 1) := by decide +kernel
theorem dX10_compress_34 : decode cX10_compress 34 = .ok (.getfield 14, 3) := by decide +kernel
theorem dX10_compress_37 : decode cX10_compress 37 = .ok (.aload_n 0, 1) := by decide +kernel
theorem dX10_compress_38 : decode cX10_compress 38 = .ok (.getfield 20, 3) := by decide +kernel
theorem dX10_compress_41 : decode cX10_compress 41 = .ok (.invokevirtual 97, 3) := by decide +kernel
theorem dX10_compress_44 : decode cX10_compress 44 = .ok (.aload_n 0, 1) := by decide +kernel
theorem dX10_compress_45 : decode cX10_compress 45 = .ok (.getfield 51, 3) := by decide +kernel
theorem dX10_compress_48 : decode cX10_compress 48 = .ok (.aload_n 0, 1) := by decide +kernel
theorem dX10_compress_49 : decode cX10_compress 49 = .ok (.getfield 20, 3) := by decide +kernel
theorem dX10_compress_52 : decode cX10_compress 52 = .ok (.iload_n 1, 1) := by decide +kernel
theorem dX10_compress_53 : decode cX10_compress 53 = .ok (.aaload, 1) := by decide +kernel
theorem dX10_compress_54 : decode cX10_compress 54 = .ok (.iload_n 2, 1) := by decide +kernel
theorem dX10_compress_55 : decode cX10_compress 55 = .ok (.iload_n 3, 1) := by decide +kernel
theorem dX10_compress_56 : decode cX10_compress 56 = .ok (.invokevirtual 160, 3) := by decide +kernel
theorem dX10_compress_59 : decode cX10_compress 59 = .ok (.ireturn, 1) := by decide +kernel
theorem dX10_shift_0 : decode cX10_shift 0 = .ok (.iload_n 1, 1) := by decide +kernel
theorem dX10_shift_1 : decode cX10_shift 1 = .ok (.invokestatic 107, 3) := by decide +kernel
theorem dX10_shift_4 : decode cX10_shift 4 = .ok (.aload_n 0, 1) := by decide +kernel
theorem dX10_shift_5 : decode cX10_shift 5 = .ok (.getfield 30, 3) := by decide +kernel
theorem dX10_shift_8 : decode cX10_shift 8 = .ok (.aload_n 0, 1) := by decide +kernel
theorem dX10_shift_9 : decode cX10_shift 9 = .ok (.getfield 14, 3) := by decide +kernel
theorem dX10_shift_12 : decode cX10_shift 12 = .ok (.aload_n 0, 1) := by decide +kernel
theorem dX10_shift_13 : decode cX10_shift 13 = .ok (.getfield 20, 3) := by decide +kernel
theorem dX10_shift_16 : decode cX10_shift 16 = .ok (.invokevirtual 97, 3) := by decide +kernel
theorem dX10_shift_19 : decode cX10_shift 19 = .ok (.aload_n 0, 1) := by decide +kernel
theorem dX10_shift_20 : decode cX10_shift 20 = .ok (.getfield 51, 3) := by decide +kernel
theorem dX10_shift_23 : decode cX10_shift 23 = .ok (.aload_n 0, 1) := by decide +kernel
theorem dX10_shift_24 : decode cX10_shift 24 = .ok (.getfield 20, 3) := by decide +kernel
theorem dX10_shift_27 : decode cX10_shift 27 = .ok (.iload_n 1, 1) := by decide +kernel
theorem dX10_shift_28 : decode cX10_shift 28 = .ok (.aaload, 1) := by decide +kernel
theorem dX10_shift_29 : decode cX10_shift 29 = .ok (.invokevirtual 164, 3) := by decide +kernel
theorem dX10_shift_32 : decode cX10_shift 32 = .ok (.ireturn, 1) := by decide +kernel
theorem dX10_trace_0 : decode cX10_trace 0 = .ok (.iload_n 1, 1) := by decide +kernel
theorem dX10_trace_1 : decode cX10_trace 1 = .ok (.invokestatic 107, 3) := by decide +kernel
theorem dX10_trace_4 : decode cX10_trace 4 = .ok (.iload_n 2, 1) := by decide +kernel
theorem dX10_trace_5 : decode cX10_trace 5 = .ok (.invokestatic 107, 3) := by decide +kernel
theorem dX10_trace_8 : decode cX10_trace 8 = .ok (.aload_n 0, 1) := by decide +kernel
theorem dX10_trace_9 : decode cX10_trace 9 = .ok (.iload_n 3, 1) := by decide +kernel
theorem dX10_trace_10 : decode cX10_trace 10 = .ok (.invokevirtual 110, 3) := by decide +kernel
theorem dX10_trace_13 : decode cX10_trace 13 = .ok (.aload_n 0, 1) := by decide +kernel
theorem dX10_trace_14 : decode cX10_trace 14 = .ok (.getfield 82, 3) := by decide +kernel
theorem dX10_trace_17 : decode cX10_trace 17 = .ok (.aload_n 0, 1) := by decide +kernel
theorem dX10_trace_18 : decode cX10_trace 18 = .ok (.getfield 20, 3) := by decide +kernel
theorem dX10_trace_21 : decode cX10_trace 21 = .ok (.iload_n 2, 1) := by decide +kernel
theorem dX10_trace_22 : decode cX10_trace 22 = .ok (.aaload, 1) := by decide +kernel
theorem dX10_trace_23 : decode cX10_trace 23 = .ok (.invokevirtual 168, 3) := by decide +kernel
theorem dX10_trace_26 : decode cX10_trace 26 = .ok (.iconst 0, 1) := by decide +kernel
theorem dX10_trace_27 : decode cX10_trace 27 = .ok (.istore 4, 2) := by decide +kernel
theorem dX10_trace_29 : decode cX10_trace 29 = .ok (.iload 4, 2) := by decide +kernel
theorem dX10_trace_31 : decode cX10_trace 31 = .ok (.aload_n 0, 1) := by decide +kernel
theorem dX10_trace_32 : decode cX10_trace 32 = .ok (.getfield 14, 3) := by decide +kernel
theorem dX10_trace_35 : decode cX10_trace 35 = .ok (.getfield 93, 3) := by decide +kernel
theorem dX10_trace_38 : decode cX10_trace 38 = .ok (.if_icmp .ge 27, 3) := by decide +kernel
theorem dX10_trace_41 : decode cX10_trace 41 = .ok (.iload_n 3, 1) := by decide +kernel
theorem dX10_trace_42 : decode cX10_trace 42 = .ok (.iload 4, 2) := by decide +kernel
theorem dX10_trace_44 : decode cX10_trace 44 = .ok (.invokestatic 172, 3) := by decide +kernel
theorem dX10_trace_47 : decode cX10_trace 47 = .ok (.ifCond .ne 12, 3) := by decide +kernel
theorem dX10_trace_50 : decode cX10_trace 50 = .ok (.aload_n 0, 1) := by decide +kernel
theorem dX10_trace_51 : decode cX10_trace 51 = .ok (.getfield 82, 3) := by decide +kernel
theorem dX10_trace_54 : decode cX10_trace 54 = .ok (.iload 4, 2) := by decide +kernel
theorem dX10_trace_56 : decode cX10_trace 56 = .ok (.invokevirtual 176, 3) := by decide +kernel
theorem dX10_trace_59 : decode cX10_trace 59 = .ok (.iinc 4 1, 3) := by decide +kernel
theorem dX10_trace_62 : decode cX10_trace 62 = .ok (.goto (-33), 3) := by decide +kernel
theorem dX10_trace_65 : decode cX10_trace 65 = .ok (.aload_n 0, 1) := by decide +kernel
theorem dX10_trace_66 : decode cX10_trace 66 = .ok (.iload_n 1, 1) := by decide +kernel
theorem dX10_trace_67 : decode cX10_trace 67 = .ok (.invokevirtual 147, 3) := by decide +kernel
theorem dX10_trace_70 : decode cX10_trace 70 = .ok (.ireturn, 1) := by decide +kernel
theorem dX10_segment_0 : decode cX10_segment 0 = .ok (.iload_n 1, 1) := by decide +kernel
theorem dX10_segment_1 : decode cX10_segment 1 = .ok (.invokestatic 107, 3) := by decide +kernel
theorem dX10_segment_4 : decode cX10_segment 4 = .ok (.iload_n 2, 1) := by decide +kernel
theorem dX10_segment_5 : decode cX10_segment 5 = .ok (.iconst 0, 1) := by decide +kernel
theorem dX10_segment_6 : decode cX10_segment 6 = .ok (.aload_n 0, 1) := by decide +kernel
theorem dX10_segment_7 : decode cX10_segment 7 = .ok (.getfield 14, 3) := by decide +kernel
theorem dX10_segment_10 : decode cX10_segment 10 = .ok (.getfield 93, 3) := by decide +kernel
theorem dX10_segment_13 : decode cX10_segment 13 = .ok (.invokestatic 89, 3) := by decide +kernel
theorem dX10_segment_16 : decode cX10_segment 16 = .ok (.iload_n 3, 1) := by decide +kernel
theorem dX10_segment_17 : decode cX10_segment 17 = .ok (.iconst 0, 1) := by decide +kernel
theorem dX10_segment_18 : decode cX10_segment 18 = .ok (.aload_n 0, 1) := by decide +kernel
theorem dX10_segment_19 : decode cX10_segment 19 = .ok (.getfield 14, 3) := by decide +kernel
theorem dX10_segment_22 : decode cX10_segment 22 = .ok (.getfield 93, 3) := by decide +kernel
theorem dX10_segment_25 : decode cX10_segment 25 = .ok (.iload_n 2, 1) := by decide +kernel
theorem dX10_segment_26 : decode cX10_segment 26 = .ok (.invokestatic 179, 3) := by decide +kernel
theorem dX10_segment_29 : decode cX10_segment 29 = .ok (.l2i, 1) := by decide +kernel
theorem dX10_segment_30 : decode cX10_segment 30 = .ok (.invokestatic 89, 3) := by decide +kernel
theorem dX10_segment_33 : decode cX10_segment 33 = .ok (.iconst (-1), 1) := by decide +kernel
theorem dX10_segment_34 : decode cX10_segment 34 = .ok (.istore 4, 2) := by decide +kernel
theorem dX10_segment_36 : decode cX10_segment 36 = .ok (.iload_n 3, 1) := by decide +kernel
theorem dX10_segment_37 : decode cX10_segment 37 = .ok (.istore 5, 2) := by decide +kernel
theorem dX10_segment_39 : decode cX10_segment 39 = .ok (.aload_n 0, 1) := by decide +kernel
theorem dX10_segment_40 : decode cX10_segment 40 = .ok (.getfield 82, 3) := by decide +kernel
theorem dX10_segment_43 : decode cX10_segment 43 = .ok (.invokevirtual 104, 3) := by decide +kernel
theorem dX10_segment_46 : decode cX10_segment 46 = .ok (.iconst 0, 1) := by decide +kernel
theorem dX10_segment_47 : decode cX10_segment 47 = .ok (.istore 6, 2) := by decide +kernel
theorem dX10_segment_49 : decode cX10_segment 49 = .ok (.iload 6, 2) := by decide +kernel
theorem dX10_segment_51 : decode cX10_segment 51 = .ok (.aload_n 0, 1) := by decide +kernel
theorem dX10_segment_52 : decode cX10_segment 52 = .ok (.getfield 14, 3) := by decide +kernel
theorem dX10_segment_55 : decode cX10_segment 55 = .ok (.invokevirtual 185, 3) := by decide +kernel
theorem dX10_segment_58 : decode cX10_segment 58 = .ok (.if_icmp .gt 39, 3) := by decide +kernel
theorem dX10_segment_61 : decode cX10_segment 61 = .ok (.iload 5, 2) := by decide +kernel
theorem dX10_segment_63 : decode cX10_segment 63 = .ok (.ifCond .le 34, 3) := by decide +kernel
theorem dX10_segment_66 : decode cX10_segment 66 = .ok (.iload 6, 2) := by decide +kernel
theorem dX10_segment_68 : decode cX10_segment 68 = .ok (.invokestatic 188, 3) := by decide +kernel
theorem dX10_segment_71 : decode cX10_segment 71 = .ok (.iload_n 2, 1) := by decide +kernel
theorem dX10_segment_72 : decode cX10_segment 72 = .ok (.if_icmp .ne 19, 3) := by decide +kernel
theorem dX10_segment_75 : decode cX10_segment 75 = .ok (.aload_n 0, 1) := by decide +kernel
theorem dX10_segment_76 : decode cX10_segment 76 = .ok (.getfield 82, 3) := by decide +kernel
theorem dX10_segment_79 : decode cX10_segment 79 = .ok (.iload 6, 2) := by decide +kernel
theorem dX10_segment_81 : decode cX10_segment 81 = .ok (.invokevirtual 117, 3) := by decide +kernel
theorem dX10_segment_84 : decode cX10_segment 84 = .ok (.iload 6, 2) := by decide +kernel
theorem dX10_segment_86 : decode cX10_segment 86 = .ok (.istore 4, 2) := by decide +kernel
theorem dX10_segment_88 : decode cX10_segment 88 = .ok (.iinc 5 (-1), 3) := by decide +kernel
theorem dX10_segment_91 : decode cX10_segment 91 = .ok (.iinc 6 1, 3) := by decide +kernel
theorem dX10_segment_94 : decode cX10_segment 94 = .ok (.goto (-45), 3) := by decide +kernel
theorem dX10_segment_97 : decode cX10_segment 97 = .ok (.aload_n 0, 1) := by decide +kernel
theorem dX10_segment_98 : decode cX10_segment 98 = .ok (.iload_n 1, 1) := by decide +kernel
theorem dX10_segment_99 : decode cX10_segment 99 = .ok (.invokevirtual 147, 3) := by decide +kernel
theorem dX10_segment_102 : decode cX10_segment 102 = .ok (.pop, 1) := by decide +kernel
theorem dX10_segment_103 : decode cX10_segment 103 = .ok (.iload 4, 2) := by decide +kernel
theorem dX10_segment_105 : decode cX10_segment 105 = .ok (.ireturn, 1) := by decide +kernel
theorem dX10_rank_0 : decode cX10_rank 0 = .ok (.iload_n 1, 1) := by decide +kernel
theorem dX10_rank_1 : decode cX10_rank 1 = .ok (.iconst 0, 1) := by decide +kernel
theorem dX10_rank_2 : decode cX10_rank 2 = .ok (.sipush 1023, 3) := by decide +kernel
theorem dX10_rank_5 : decode cX10_rank 5 = .ok (.invokestatic 89, 3) := by decide +kernel
theorem dX10_rank_8 : decode cX10_rank 8 = .ok (.iload_n 1, 1) := by decide +kernel
theorem dX10_rank_9 : decode cX10_rank 9 = .ok (.invokestatic 193, 3) := by decide +kernel
theorem dX10_rank_12 : decode cX10_rank 12 = .ok (.ireturn, 1) := by decide +kernel
theorem dX10_unrank_0 : decode cX10_unrank 0 = .ok (.iload_n 1, 1) := by decide +kernel
theorem dX10_unrank_1 : decode cX10_unrank 1 = .ok (.iconst 0, 1) := by decide +kernel
theorem dX10_unrank_2 : decode cX10_unrank 2 = .ok (.bipush 10, 2) := by decide +kernel
theorem dX10_unrank_4 : decode cX10_unrank 4 = .ok (.invokestatic 89, 3) := by decide +kernel
theorem dX10_unrank_7 : decode cX10_unrank 7 = .ok (.iload_n 2, 1) := by decide +kernel
theorem dX10_unrank_8 : decode cX10_unrank 8 = .ok (.invokestatic 131, 3) := by decide +kernel
theorem dX10_unrank_11 : decode cX10_unrank 11 = .ok (.iload_n 1, 1) := by decide +kernel
theorem dX10_unrank_12 : decode cX10_unrank 12 = .ok (.iload_n 2, 1) := by decide +kernel
theorem dX10_unrank_13 : decode cX10_unrank 13 = .ok (.invokestatic 196, 3) := by decide +kernel
theorem dX10_unrank_16 : decode cX10_unrank 16 = .ok (.ireturn, 1) := by decide +kernel
theorem dX10_cascade_0 : decode cX10_cascade 0 = .ok (.iload_n 1, 1) := by decide +kernel
theorem dX10_cascade_1 : decode cX10_cascade 1 = .ok (.iconst 1, 1) := by decide +kernel
theorem dX10_cascade_2 : decode cX10_cascade 2 = .ok (.ldc 200, 2) := by decide +kernel
theorem dX10_cascade_4 : decode cX10_cascade 4 = .ok (.invokestatic 89, 3) := by decide +kernel
theorem dX10_cascade_7 : decode cX10_cascade 7 = .ok (.iload_n 2, 1) := by decide +kernel
theorem dX10_cascade_8 : decode cX10_cascade 8 = .ok (.iconst 1, 1) := by decide +kernel
theorem dX10_cascade_9 : decode cX10_cascade 9 = .ok (.bipush 10, 2) := by decide +kernel
theorem dX10_cascade_11 : decode cX10_cascade 11 = .ok (.invokestatic 89, 3) := by decide +kernel
theorem dX10_cascade_14 : decode cX10_cascade 14 = .ok (.iload_n 3, 1) := by decide +kernel
theorem dX10_cascade_15 : decode cX10_cascade 15 = .ok (.invokestatic 131, 3) := by decide +kernel
theorem dX10_cascade_18 : decode cX10_cascade 18 = .ok (.iload_n 1, 1) := by decide +kernel
theorem dX10_cascade_19 : decode cX10_cascade 19 = .ok (.iload_n 2, 1) := by decide +kernel
theorem dX10_cascade_20 : decode cX10_cascade 20 = .ok (.iload_n 3, 1) := by decide +kernel
theorem dX10_cascade_21 : decode cX10_cascade 21 = .ok (.invokestatic 201, 3) := by decide +kernel
theorem dX10_cascade_24 : decode cX10_cascade 24 = .ok (.ireturn, 1) := by decide +kernel
theorem dX10_shadowBound_0 : decode cX10_shadowBound 0 = .ok (.iload_n 1, 1) := by decide +kernel
theorem dX10_shadowBound_1 : decode cX10_shadowBound 1 = .ok (.iconst 0, 1) := by decide +kernel
theorem dX10_shadowBound_2 : decode cX10_shadowBound 2 = .ok (.ldc 200, 2) := by decide +kernel
theorem dX10_shadowBound_4 : decode cX10_shadowBound 4 = .ok (.invokestatic 89, 3) := by decide +kernel
theorem dX10_shadowBound_7 : decode cX10_shadowBound 7 = .ok (.iload_n 2, 1) := by decide +kernel
theorem dX10_shadowBound_8 : decode cX10_shadowBound 8 = .ok (.iconst 1, 1) := by decide +kernel
theorem dX10_shadowBound_9 : decode cX10_shadowBound 9 = .ok (.bipush 10, 2) := by decide +kernel
theorem dX10_shadowBound_11 : decode cX10_shadowBound 11 = .ok (.invokestatic 89, 3) := by decide +kernel
theorem dX10_shadowBound_14 : decode cX10_shadowBound 14 = .ok (.iload_n 1, 1) := by decide +kernel
theorem dX10_shadowBound_15 : decode cX10_shadowBound 15 = .ok (.iload_n 2, 1) := by decide +kernel
theorem dX10_shadowBound_16 : decode cX10_shadowBound 16 = .ok (.invokestatic 205, 3) := by decide +kernel
theorem dX10_shadowBound_19 : decode cX10_shadowBound 19 = .ok (.ireturn, 1) := by decide +kernel
theorem dX10_excess_0 : decode cX10_excess 0 = .ok (.iload_n 1, 1) := by decide +kernel
theorem dX10_excess_1 : decode cX10_excess 1 = .ok (.invokestatic 107, 3) := by decide +kernel
theorem dX10_excess_4 : decode cX10_excess 4 = .ok (.iload_n 2, 1) := by decide +kernel
theorem dX10_excess_5 : decode cX10_excess 5 = .ok (.iconst 1, 1) := by decide +kernel
theorem dX10_excess_6 : decode cX10_excess 6 = .ok (.aload_n 0, 1) := by decide +kernel
theorem dX10_excess_7 : decode cX10_excess 7 = .ok (.getfield 14, 3) := by decide +kernel
theorem dX10_excess_10 : decode cX10_excess 10 = .ok (.getfield 93, 3) := by decide +kernel
theorem dX10_excess_13 : decode cX10_excess 13 = .ok (.invokestatic 89, 3) := by decide +kernel
theorem dX10_excess_16 : decode cX10_excess 16 = .ok (.aload_n 0, 1) := by decide +kernel
theorem dX10_excess_17 : decode cX10_excess 17 = .ok (.aload_n 0, 1) := by decide +kernel
theorem dX10_excess_18 : decode cX10_excess 18 = .ok (.getfield 20, 3) := by decide +kernel
theorem dX10_excess_21 : decode cX10_excess 21 = .ok (.iload_n 1, 1) := by decide +kernel
theorem dX10_excess_22 : decode cX10_excess 22 = .ok (.aaload, 1) := by decide +kernel
theorem dX10_excess_23 : decode cX10_excess 23 = .ok (.iload_n 2, 1) := by decide +kernel
theorem dX10_excess_24 : decode cX10_excess 24 = .ok (.invokevirtual 208, 3) := by decide +kernel
theorem dX10_excess_27 : decode cX10_excess 27 = .ok (.ireturn, 1) := by decide +kernel
theorem dX10_is_0 : decode cX10_is 0 = .ok (.iload_n 1, 1) := by decide +kernel
theorem dX10_is_1 : decode cX10_is 1 = .ok (.invokestatic 107, 3) := by decide +kernel
theorem dX10_is_4 : decode cX10_is 4 = .ok (.iload_n 2, 1) := by decide +kernel
theorem dX10_is_5 : decode cX10_is 5 = .ok (.iconst 0, 1) := by decide +kernel
theorem dX10_is_6 : decode cX10_is 6 = .ok (.iconst 5, 1) := by decide +kernel
theorem dX10_is_7 : decode cX10_is 7 = .ok (.invokestatic 89, 3) := by decide +kernel
theorem dX10_is_10 : decode cX10_is 10 = .ok (.aload_n 0, 1) := by decide +kernel
theorem dX10_is_11 : decode cX10_is 11 = .ok (.aload_n 0, 1) := by decide +kernel
theorem dX10_is_12 : decode cX10_is 12 = .ok (.getfield 20, 3) := by decide +kernel
theorem dX10_is_15 : decode cX10_is 15 = .ok (.iload_n 1, 1) := by decide +kernel
theorem dX10_is_16 : decode cX10_is 16 = .ok (.aaload, 1) := by decide +kernel
theorem dX10_is_17 : decode cX10_is 17 = .ok (.iload_n 2, 1) := by decide +kernel
theorem dX10_is_18 : decode cX10_is 18 = .ok (.invokevirtual 212, 3) := by decide +kernel
theorem dX10_is_21 : decode cX10_is 21 = .ok (.ireturn, 1) := by decide +kernel
theorem dX10_weight_0 : decode cX10_weight 0 = .ok (.iload_n 1, 1) := by decide +kernel
theorem dX10_weight_1 : decode cX10_weight 1 = .ok (.invokestatic 107, 3) := by decide +kernel
theorem dX10_weight_4 : decode cX10_weight 4 = .ok (.aload_n 0, 1) := by decide +kernel
theorem dX10_weight_5 : decode cX10_weight 5 = .ok (.aload_n 0, 1) := by decide +kernel
theorem dX10_weight_6 : decode cX10_weight 6 = .ok (.getfield 20, 3) := by decide +kernel
theorem dX10_weight_9 : decode cX10_weight 9 = .ok (.iload_n 1, 1) := by decide +kernel
theorem dX10_weight_10 : decode cX10_weight 10 = .ok (.aaload, 1) := by decide +kernel
theorem dX10_weight_11 : decode cX10_weight 11 = .ok (.iload_n 2, 1) := by decide +kernel
theorem dX10_weight_12 : decode cX10_weight 12 = .ok (.invokevirtual 216, 3) := by decide +kernel
theorem dX10_weight_15 : decode cX10_weight 15 = .ok (.lreturn, 1) := by decide +kernel
theorem dX10_dimension_0 : decode cX10_dimension 0 = .ok (.iload_n 1, 1) := by decide +kernel
theorem dX10_dimension_1 : decode cX10_dimension 1 = .ok (.invokestatic 107, 3) := by decide +kernel
theorem dX10_dimension_4 : decode cX10_dimension 4 = .ok (.aload_n 0, 1) := by decide +kernel
theorem dX10_dimension_5 : decode cX10_dimension 5 = .ok (.getfield 58, 3) := by decide +kernel
theorem dX10_dimension_8 : decode cX10_dimension 8 = .ok (.aload_n 0, 1) := by decide +kernel
theorem dX10_dimension_9 : decode cX10_dimension 9 = .ok (.getfield 20, 3) := by decide +kernel
theorem dX10_dimension_12 : decode cX10_dimension 12 = .ok (.iload_n 1, 1) := by decide +kernel
theorem dX10_dimension_13 : decode cX10_dimension 13 = .ok (.aaload, 1) := by decide +kernel
theorem dX10_dimension_14 : decode cX10_dimension 14 = .ok (.invokevirtual 220, 3) := by decide +kernel
theorem dX10_dimension_17 : decode cX10_dimension 17 = .ok (.invokestatic 223, 3) := by decide +kernel
theorem dX10_dimension_20 : decode cX10_dimension 20 = .ok (.ireturn, 1) := by decide +kernel
theorem dX10_shattered_0 : decode cX10_shattered 0 = .ok (.iload_n 1, 1) := by decide +kernel
theorem dX10_shattered_1 : decode cX10_shattered 1 = .ok (.invokestatic 107, 3) := by decide +kernel
theorem dX10_shattered_4 : decode cX10_shattered 4 = .ok (.aload_n 0, 1) := by decide +kernel
theorem dX10_shattered_5 : decode cX10_shattered 5 = .ok (.getfield 58, 3) := by decide +kernel
theorem dX10_shattered_8 : decode cX10_shattered 8 = .ok (.aload_n 0, 1) := by decide +kernel
theorem dX10_shattered_9 : decode cX10_shattered 9 = .ok (.getfield 20, 3) := by decide +kernel
theorem dX10_shattered_12 : decode cX10_shattered 12 = .ok (.iload_n 1, 1) := by decide +kernel
theorem dX10_shattered_13 : decode cX10_shattered 13 = .ok (.aaload, 1) := by decide +kernel
theorem dX10_shattered_14 : decode cX10_shattered 14 = .ok (.invokevirtual 220, 3) := by decide +kernel
theorem dX10_shattered_17 : decode cX10_shattered 17 = .ok (.ireturn, 1) := by decide +kernel
theorem dX10_crossing_0 : decode cX10_crossing 0 = .ok (.iload_n 1, 1) := by decide +kernel
theorem dX10_crossing_1 : decode cX10_crossing 1 = .ok (.invokestatic 107, 3) := by decide +kernel
theorem dX10_crossing_4 : decode cX10_crossing 4 = .ok (.iload_n 2, 1) := by decide +kernel
theorem dX10_crossing_5 : decode cX10_crossing 5 = .ok (.invokestatic 107, 3) := by decide +kernel
theorem dX10_crossing_8 : decode cX10_crossing 8 = .ok (.aload_n 0, 1) := by decide +kernel
theorem dX10_crossing_9 : decode cX10_crossing 9 = .ok (.aload_n 0, 1) := by decide +kernel
theorem dX10_crossing_10 : decode cX10_crossing 10 = .ok (.getfield 20, 3) := by decide +kernel
theorem dX10_crossing_13 : decode cX10_crossing 13 = .ok (.iload_n 1, 1) := by decide +kernel
theorem dX10_crossing_14 : decode cX10_crossing 14 = .ok (.aaload, 1) := by decide +kernel
theorem dX10_crossing_15 : decode cX10_crossing 15 = .ok (.aload_n 0, 1) := by decide +kernel
theorem dX10_crossing_16 : decode cX10_crossing 16 = .ok (.getfield 20, 3) := by decide +kernel
theorem dX10_crossing_19 : decode cX10_crossing 19 = .ok (.iload_n 2, 1) := by decide +kernel
theorem dX10_crossing_20 : decode cX10_crossing 20 = .ok (.aaload, 1) := by decide +kernel
theorem dX10_crossing_21 : decode cX10_crossing 21 = .ok (.invokevirtual 226, 3) := by decide +kernel
theorem dX10_crossing_24 : decode cX10_crossing 24 = .ok (.ireturn, 1) := by decide +kernel
theorem dX10_sunflower_0 : decode cX10_sunflower 0 = .ok (.iload_n 1, 1) := by decide +kernel
theorem dX10_sunflower_1 : decode cX10_sunflower 1 = .ok (.invokestatic 107, 3) := by decide +kernel
theorem dX10_sunflower_4 : decode cX10_sunflower 4 = .ok (.aload_n 0, 1) := by decide +kernel
theorem dX10_sunflower_5 : decode cX10_sunflower 5 = .ok (.getfield 67, 3) := by decide +kernel
theorem dX10_sunflower_8 : decode cX10_sunflower 8 = .ok (.aload_n 0, 1) := by decide +kernel
theorem dX10_sunflower_9 : decode cX10_sunflower 9 = .ok (.getfield 20, 3) := by decide +kernel
theorem dX10_sunflower_12 : decode cX10_sunflower 12 = .ok (.iload_n 1, 1) := by decide +kernel
theorem dX10_sunflower_13 : decode cX10_sunflower 13 = .ok (.aaload, 1) := by decide +kernel
theorem dX10_sunflower_14 : decode cX10_sunflower 14 = .ok (.invokevirtual 230, 3) := by decide +kernel
theorem dX10_sunflower_17 : decode cX10_sunflower 17 = .ok (.ireturn, 1) := by decide +kernel
theorem dX10_pairs_0 : decode cX10_pairs 0 = .ok (.iload_n 1, 1) := by decide +kernel
theorem dX10_pairs_1 : decode cX10_pairs 1 = .ok (.invokestatic 107, 3) := by decide +kernel
theorem dX10_pairs_4 : decode cX10_pairs 4 = .ok (.iload_n 2, 1) := by decide +kernel
theorem dX10_pairs_5 : decode cX10_pairs 5 = .ok (.iconst 0, 1) := by decide +kernel
theorem dX10_pairs_6 : decode cX10_pairs 6 = .ok (.aload_n 0, 1) := by decide +kernel
theorem dX10_pairs_7 : decode cX10_pairs 7 = .ok (.getfield 14, 3) := by decide +kernel
theorem dX10_pairs_10 : decode cX10_pairs 10 = .ok (.getfield 93, 3) := by decide +kernel
theorem dX10_pairs_13 : decode cX10_pairs 13 = .ok (.invokestatic 89, 3) := by decide +kernel
theorem dX10_pairs_16 : decode cX10_pairs 16 = .ok (.aload_n 0, 1) := by decide +kernel
theorem dX10_pairs_17 : decode cX10_pairs 17 = .ok (.getfield 74, 3) := by decide +kernel
theorem dX10_pairs_20 : decode cX10_pairs 20 = .ok (.aload_n 0, 1) := by decide +kernel
theorem dX10_pairs_21 : decode cX10_pairs 21 = .ok (.getfield 20, 3) := by decide +kernel
theorem dX10_pairs_24 : decode cX10_pairs 24 = .ok (.iload_n 1, 1) := by decide +kernel
theorem dX10_pairs_25 : decode cX10_pairs 25 = .ok (.aaload, 1) := by decide +kernel
theorem dX10_pairs_26 : decode cX10_pairs 26 = .ok (.invokevirtual 233, 3) := by decide +kernel
theorem dX10_pairs_29 : decode cX10_pairs 29 = .ok (.aload_n 0, 1) := by decide +kernel
theorem dX10_pairs_30 : decode cX10_pairs 30 = .ok (.getfield 74, 3) := by decide +kernel
theorem dX10_pairs_33 : decode cX10_pairs 33 = .ok (.iload_n 2, 1) := by decide +kernel
theorem dX10_pairs_34 : decode cX10_pairs 34 = .ok (.invokevirtual 236, 3) := by decide +kernel
theorem dX10_pairs_37 : decode cX10_pairs 37 = .ok (.ireturn, 1) := by decide +kernel
theorem dX10_type_0 : decode cX10_type 0 = .ok (.iload_n 1, 1) := by decide +kernel
theorem dX10_type_1 : decode cX10_type 1 = .ok (.iconst 0, 1) := by decide +kernel
theorem dX10_type_2 : decode cX10_type 2 = .ok (.bipush 127, 2) := by decide +kernel
theorem dX10_type_4 : decode cX10_type 4 = .ok (.invokestatic 89, 3) := by decide +kernel
theorem dX10_type_7 : decode cX10_type 7 = .ok (.aload_n 0, 1) := by decide +kernel
theorem dX10_type_8 : decode cX10_type 8 = .ok (.getfield 37, 3) := by decide +kernel
theorem dX10_type_11 : decode cX10_type 11 = .ok (.getfield 239, 3) := by decide +kernel
theorem dX10_type_14 : decode cX10_type 14 = .ok (.bipush 120, 2) := by decide +kernel
theorem dX10_type_16 : decode cX10_type 16 = .ok (.if_icmp .lt 13, 3) := by decide +kernel
theorem dX10_type_19 : decode cX10_type 19 = .ok (.new 242, 3) := by decide +kernel
theorem dX10_type_22 : decode cX10_type 22 = .ok (.dup, 1) := by decide +kernel
theorem dX10_type_23 : decode cX10_type 23 = .ok (.ldc 244, 2) := by decide +kernel
theorem dX10_type_25 : decode cX10_type 25 = .ok (.invokespecial 246, 3) := by decide +kernel
theorem dX10_type_28 : decode cX10_type 28 = .ok (.athrow, 1) := by decide +kernel
theorem dX10_type_29 : decode cX10_type 29 = .ok (.aload_n 0, 1) := by decide +kernel
theorem dX10_type_30 : decode cX10_type 30 = .ok (.getfield 37, 3) := by decide +kernel
theorem dX10_type_33 : decode cX10_type 33 = .ok (.iload_n 1, 1) := by decide +kernel
theorem dX10_type_34 : decode cX10_type 34 = .ok (.invokevirtual 247, 3) := by decide +kernel
theorem dX10_type_37 : decode cX10_type 37 = .ok (.aload_n 0, 1) := by decide +kernel
theorem dX10_type_38 : decode cX10_type 38 = .ok (.getfield 37, 3) := by decide +kernel
theorem dX10_type_41 : decode cX10_type 41 = .ok (.getfield 239, 3) := by decide +kernel
theorem dX10_type_44 : decode cX10_type 44 = .ok (.ireturn, 1) := by decide +kernel
theorem dX10_clearText_0 : decode cX10_clearText 0 = .ok (.aload_n 0, 1) := by decide +kernel
theorem dX10_clearText_1 : decode cX10_clearText 1 = .ok (.getfield 37, 3) := by decide +kernel
theorem dX10_clearText_4 : decode cX10_clearText 4 = .ok (.getfield 239, 3) := by decide +kernel
theorem dX10_clearText_7 : decode cX10_clearText 7 = .ok (.istore_n 1, 1) := by decide +kernel
theorem dX10_clearText_8 : decode cX10_clearText 8 = .ok (.aload_n 0, 1) := by decide +kernel
theorem dX10_clearText_9 : decode cX10_clearText 9 = .ok (.getfield 37, 3) := by decide +kernel
theorem dX10_clearText_12 : decode cX10_clearText 12 = .ok (.iconst 0, 1) := by decide +kernel
theorem dX10_clearText_13 : decode cX10_clearText 13 = .ok (.putfield 239, 3) := by decide +kernel
theorem dX10_clearText_16 : decode cX10_clearText 16 = .ok (.iload_n 1, 1) := by decide +kernel
theorem dX10_clearText_17 : decode cX10_clearText 17 = .ok (.ireturn, 1) := by decide +kernel
theorem dX10_read_0 : decode cX10_read 0 = .ok (.iload_n 1, 1) := by decide +kernel
theorem dX10_read_1 : decode cX10_read 1 = .ok (.invokestatic 107, 3) := by decide +kernel
theorem dX10_read_4 : decode cX10_read 4 = .ok (.aload_n 0, 1) := by decide +kernel
theorem dX10_read_5 : decode cX10_read 5 = .ok (.getfield 37, 3) := by decide +kernel
theorem dX10_read_8 : decode cX10_read 8 = .ok (.aload_n 0, 1) := by decide +kernel
theorem dX10_read_9 : decode cX10_read 9 = .ok (.getfield 82, 3) := by decide +kernel
theorem dX10_read_12 : decode cX10_read 12 = .ok (.aload_n 0, 1) := by decide +kernel
theorem dX10_read_13 : decode cX10_read 13 = .ok (.getfield 14, 3) := by decide +kernel
theorem dX10_read_16 : decode cX10_read 16 = .ok (.getfield 93, 3) := by decide +kernel
theorem dX10_read_19 : decode cX10_read 19 = .ok (.invokevirtual 250, 3) := by decide +kernel
theorem dX10_read_22 : decode cX10_read 22 = .ok (.istore_n 2, 1) := by decide +kernel
theorem dX10_read_23 : decode cX10_read 23 = .ok (.iload_n 2, 1) := by decide +kernel
theorem dX10_read_24 : decode cX10_read 24 = .ok (.iconst (-1), 1) := by decide +kernel
theorem dX10_read_25 : decode cX10_read 25 = .ok (.if_icmp .ne 11, 3) := by decide +kernel
theorem dX10_read_28 : decode cX10_read 28 = .ok (.aload_n 0, 1) := by decide +kernel
theorem dX10_read_29 : decode cX10_read 29 = .ok (.iload_n 1, 1) := by decide +kernel
theorem dX10_read_30 : decode cX10_read 30 = .ok (.invokevirtual 147, 3) := by decide +kernel
theorem dX10_read_33 : decode cX10_read 33 = .ok (.goto 7, 3) := by decide +kernel
theorem dX10_read_36 : decode cX10_read 36 = .ok (.bipush (-10), 2) := by decide +kernel
theorem dX10_read_38 : decode cX10_read 38 = .ok (.iload_n 2, 1) := by decide +kernel
theorem dX10_read_39 : decode cX10_read 39 = .ok (.isub, 1) := by decide +kernel
theorem dX10_read_40 : decode cX10_read 40 = .ok (.ireturn, 1) := by decide +kernel
theorem dX10_undo_0 : decode cX10_undo 0 = .ok (.aload_n 0, 1) := by decide +kernel
theorem dX10_undo_1 : decode cX10_undo 1 = .ok (.getfield 30, 3) := by decide +kernel
theorem dX10_undo_4 : decode cX10_undo 4 = .ok (.getfield 253, 3) := by decide +kernel
theorem dX10_undo_7 : decode cX10_undo 7 = .ok (.ifCond .ne 14, 3) := by decide +kernel
theorem dX10_undo_10 : decode cX10_undo 10 = .ok (.new 242, 3) := by decide +kernel
theorem dX10_undo_13 : decode cX10_undo 13 = .ok (.dup, 1) := by decide +kernel
theorem dX10_undo_14 : decode cX10_undo 14 = .ok (.ldc_w 256, 3) := by decide +kernel
theorem dX10_undo_17 : decode cX10_undo 17 = .ok (.invokespecial 246, 3) := by decide +kernel
theorem dX10_undo_20 : decode cX10_undo 20 = .ok (.athrow, 1) := by decide +kernel
theorem dX10_undo_21 : decode cX10_undo 21 = .ok (.aload_n 0, 1) := by decide +kernel
theorem dX10_undo_22 : decode cX10_undo 22 = .ok (.getfield 30, 3) := by decide +kernel
theorem dX10_undo_25 : decode cX10_undo 25 = .ok (.aload_n 0, 1) := by decide +kernel
theorem dX10_undo_26 : decode cX10_undo 26 = .ok (.getfield 14, 3) := by decide +kernel
theorem dX10_undo_29 : decode cX10_undo 29 = .ok (.aload_n 0, 1) := by decide +kernel
theorem dX10_undo_30 : decode cX10_undo 30 = .ok (.getfield 20, 3) := by decide +kernel
theorem dX10_undo_33 : decode cX10_undo 33 = .ok (.invokevirtual 258, 3) := by decide +kernel
theorem dX10_undo_36 : decode cX10_undo 36 = .ok (.aload_n 0, 1) := by decide +kernel
theorem dX10_undo_37 : decode cX10_undo 37 = .ok (.getfield 30, 3) := by decide +kernel
theorem dX10_undo_40 : decode cX10_undo 40 = .ok (.getfield 253, 3) := by decide +kernel
theorem dX10_undo_43 : decode cX10_undo 43 = .ok (.ireturn, 1) := by decide +kernel
theorem dX10_digest_0 : decode cX10_digest 0 = .ok (.ldc2_w 261, 3) := by decide +kernel
theorem dX10_digest_3 : decode cX10_digest 3 = .ok (.lstore_n 1, 1) := by decide +kernel
theorem dX10_digest_4 : decode cX10_digest 4 = .ok (.lload_n 1, 1) := by decide +kernel
theorem dX10_digest_5 : decode cX10_digest 5 = .ok (.aload_n 0, 1) := by decide +kernel
theorem dX10_digest_6 : decode cX10_digest 6 = .ok (.getfield 30, 3) := by decide +kernel
theorem dX10_digest_9 : decode cX10_digest 9 = .ok (.getfield 253, 3) := by decide +kernel
theorem dX10_digest_12 : decode cX10_digest 12 = .ok (.i2l, 1) := by decide +kernel
theorem dX10_digest_13 : decode cX10_digest 13 = .ok (.invokestatic 263, 3) := by decide +kernel
theorem dX10_digest_16 : decode cX10_digest 16 = .ok (.lstore_n 1, 1) := by decide +kernel
theorem dX10_digest_17 : decode cX10_digest 17 = .ok (.lload_n 1, 1) := by decide +kernel
theorem dX10_digest_18 : decode cX10_digest 18 = .ok (.aload_n 0, 1) := by decide +kernel
theorem dX10_digest_19 : decode cX10_digest 19 = .ok (.getfield 37, 3) := by decide +kernel
theorem dX10_digest_22 : decode cX10_digest 22 = .ok (.getfield 239, 3) := by decide +kernel
theorem dX10_digest_25 : decode cX10_digest 25 = .ok (.i2l, 1) := by decide +kernel
theorem dX10_digest_26 : decode cX10_digest 26 = .ok (.invokestatic 263, 3) := by decide +kernel
theorem dX10_digest_29 : decode cX10_digest 29 = .ok (.lstore_n 1, 1) := by decide +kernel
theorem dX10_digest_30 : decode cX10_digest 30 = .ok (.lload_n 1, 1) := by decide +kernel
theorem dX10_digest_31 : decode cX10_digest 31 = .ok (.aload_n 0, 1) := by decide +kernel
theorem dX10_digest_32 : decode cX10_digest 32 = .ok (.getfield 14, 3) := by decide +kernel
theorem dX10_digest_35 : decode cX10_digest 35 = .ok (.getfield 93, 3) := by decide +kernel
theorem dX10_digest_38 : decode cX10_digest 38 = .ok (.i2l, 1) := by decide +kernel
theorem dX10_digest_39 : decode cX10_digest 39 = .ok (.invokestatic 263, 3) := by decide +kernel
theorem dX10_digest_42 : decode cX10_digest 42 = .ok (.lstore_n 1, 1) := by decide +kernel
theorem dX10_digest_43 : decode cX10_digest 43 = .ok (.iconst 0, 1) := by decide +kernel
theorem dX10_digest_44 : decode cX10_digest 44 = .ok (.istore_n 3, 1) := by decide +kernel
theorem dX10_digest_45 : decode cX10_digest 45 = .ok (.iload_n 3, 1) := by decide +kernel
theorem dX10_digest_46 : decode cX10_digest 46 = .ok (.iconst 4, 1) := by decide +kernel
theorem dX10_digest_47 : decode cX10_digest 47 = .ok (.if_icmp .ge 45, 3) := by decide +kernel
theorem dX10_digest_50 : decode cX10_digest 50 = .ok (.aload_n 0, 1) := by decide +kernel
theorem dX10_digest_51 : decode cX10_digest 51 = .ok (.lload_n 1, 1) := by decide +kernel
theorem dX10_digest_52 : decode cX10_digest 52 = .ok (.aload_n 0, 1) := by decide +kernel
theorem dX10_digest_53 : decode cX10_digest 53 = .ok (.getfield 20, 3) := by decide +kernel
theorem dX10_digest_56 : decode cX10_digest 56 = .ok (.iload_n 3, 1) := by decide +kernel
theorem dX10_digest_57 : decode cX10_digest 57 = .ok (.aaload, 1) := by decide +kernel
theorem dX10_digest_58 : decode cX10_digest 58 = .ok (.invokevirtual 267, 3) := by decide +kernel
theorem dX10_digest_61 : decode cX10_digest 61 = .ok (.lstore_n 1, 1) := by decide +kernel
theorem dX10_digest_62 : decode cX10_digest 62 = .ok (.aload_n 0, 1) := by decide +kernel
theorem dX10_digest_63 : decode cX10_digest 63 = .ok (.lload_n 1, 1) := by decide +kernel
theorem dX10_digest_64 : decode cX10_digest 64 = .ok (.aload_n 0, 1) := by decide +kernel
theorem dX10_digest_65 : decode cX10_digest 65 = .ok (.getfield 20, 3) := by decide +kernel
theorem dX10_digest_68 : decode cX10_digest 68 = .ok (.iload_n 3, 1) := by decide +kernel
theorem dX10_digest_69 : decode cX10_digest 69 = .ok (.aaload, 1) := by decide +kernel
theorem dX10_digest_70 : decode cX10_digest 70 = .ok (.invokevirtual 271, 3) := by decide +kernel
theorem dX10_digest_73 : decode cX10_digest 73 = .ok (.lstore_n 1, 1) := by decide +kernel
theorem dX10_digest_74 : decode cX10_digest 74 = .ok (.aload_n 0, 1) := by decide +kernel
theorem dX10_digest_75 : decode cX10_digest 75 = .ok (.lload_n 1, 1) := by decide +kernel
theorem dX10_digest_76 : decode cX10_digest 76 = .ok (.aload_n 0, 1) := by decide +kernel
theorem dX10_digest_77 : decode cX10_digest 77 = .ok (.getfield 20, 3) := by decide +kernel
theorem dX10_digest_80 : decode cX10_digest 80 = .ok (.iload_n 3, 1) := by decide +kernel
theorem dX10_digest_81 : decode cX10_digest 81 = .ok (.aaload, 1) := by decide +kernel
theorem dX10_digest_82 : decode cX10_digest 82 = .ok (.invokevirtual 274, 3) := by decide +kernel
theorem dX10_digest_85 : decode cX10_digest 85 = .ok (.lstore_n 1, 1) := by decide +kernel
theorem dX10_digest_86 : decode cX10_digest 86 = .ok (.iinc 3 1, 3) := by decide +kernel
theorem dX10_digest_89 : decode cX10_digest 89 = .ok (.goto (-44), 3) := by decide +kernel
theorem dX10_digest_92 : decode cX10_digest 92 = .ok (.iconst 0, 1) := by decide +kernel
theorem dX10_digest_93 : decode cX10_digest 93 = .ok (.istore_n 3, 1) := by decide +kernel
theorem dX10_digest_94 : decode cX10_digest 94 = .ok (.iload_n 3, 1) := by decide +kernel
theorem dX10_digest_95 : decode cX10_digest 95 = .ok (.iconst 4, 1) := by decide +kernel
theorem dX10_digest_96 : decode cX10_digest 96 = .ok (.if_icmp .ge 47, 3) := by decide +kernel
theorem dX10_digest_99 : decode cX10_digest 99 = .ok (.iconst 0, 1) := by decide +kernel
theorem dX10_digest_100 : decode cX10_digest 100 = .ok (.istore 4, 2) := by decide +kernel
theorem dX10_digest_102 : decode cX10_digest 102 = .ok (.iload 4, 2) := by decide +kernel
theorem dX10_digest_104 : decode cX10_digest 104 = .ok (.iconst 4, 1) := by decide +kernel
theorem dX10_digest_105 : decode cX10_digest 105 = .ok (.if_icmp .ge 32, 3) := by decide +kernel
theorem dX10_digest_108 : decode cX10_digest 108 = .ok (.lload_n 1, 1) := by decide +kernel
theorem dX10_digest_109 : decode cX10_digest 109 = .ok (.aload_n 0, 1) := by decide +kernel
theorem dX10_digest_110 : decode cX10_digest 110 = .ok (.aload_n 0, 1) := by decide +kernel
theorem dX10_digest_111 : decode cX10_digest 111 = .ok (.getfield 20, 3) := by decide +kernel
theorem dX10_digest_114 : decode cX10_digest 114 = .ok (.iload_n 3, 1) := by decide +kernel
theorem dX10_digest_115 : decode cX10_digest 115 = .ok (.aaload, 1) := by decide +kernel
theorem dX10_digest_116 : decode cX10_digest 116 = .ok (.aload_n 0, 1) := by decide +kernel
theorem dX10_digest_117 : decode cX10_digest 117 = .ok (.getfield 20, 3) := by decide +kernel
theorem dX10_digest_120 : decode cX10_digest 120 = .ok (.iload 4, 2) := by decide +kernel
theorem dX10_digest_122 : decode cX10_digest 122 = .ok (.aaload, 1) := by decide +kernel
theorem dX10_digest_123 : decode cX10_digest 123 = .ok (.invokevirtual 226, 3) := by decide +kernel
theorem dX10_digest_126 : decode cX10_digest 126 = .ok (.i2l, 1) := by decide +kernel
theorem dX10_digest_127 : decode cX10_digest 127 = .ok (.invokestatic 263, 3) := by decide +kernel
theorem dX10_digest_130 : decode cX10_digest 130 = .ok (.lstore_n 1, 1) := by decide +kernel
theorem dX10_digest_131 : decode cX10_digest 131 = .ok (.iinc 4 1, 3) := by decide +kernel
theorem dX10_digest_134 : decode cX10_digest 134 = .ok (.goto (-32), 3) := by decide +kernel
theorem dX10_digest_137 : decode cX10_digest 137 = .ok (.iinc 3 1, 3) := by decide +kernel
theorem dX10_digest_140 : decode cX10_digest 140 = .ok (.goto (-46), 3) := by decide +kernel
theorem dX10_digest_143 : decode cX10_digest 143 = .ok (.lload_n 1, 1) := by decide +kernel
theorem dX10_digest_144 : decode cX10_digest 144 = .ok (.lreturn, 1) := by decide +kernel
theorem dX10_checkFamily_0 : decode cX10_checkFamily 0 = .ok (.iload_n 0, 1) := by decide +kernel
theorem dX10_checkFamily_1 : decode cX10_checkFamily 1 = .ok (.ifCond .lt 8, 3) := by decide +kernel
theorem dX10_checkFamily_4 : decode cX10_checkFamily 4 = .ok (.iload_n 0, 1) := by decide +kernel
theorem dX10_checkFamily_5 : decode cX10_checkFamily 5 = .ok (.iconst 4, 1) := by decide +kernel
theorem dX10_checkFamily_6 : decode cX10_checkFamily 6 = .ok (.if_icmp .lt 14, 3) := by decide +kernel
theorem dX10_checkFamily_9 : decode cX10_checkFamily 9 = .ok (.new 277, 3) := by decide +kernel
theorem dX10_checkFamily_12 : decode cX10_checkFamily 12 = .ok (.dup, 1) := by decide +kernel
theorem dX10_checkFamily_13 : decode cX10_checkFamily 13 = .ok (.ldc_w 279, 3) := by decide +kernel
theorem dX10_checkFamily_16 : decode cX10_checkFamily 16 = .ok (.invokespecial 281, 3) := by decide +kernel
theorem dX10_checkFamily_19 : decode cX10_checkFamily 19 = .ok (.athrow, 1) := by decide +kernel
theorem dX10_checkFamily_20 : decode cX10_checkFamily 20 = .ok (.return_, 1) := by decide +kernel
theorem dX10_checkRange_0 : decode cX10_checkRange 0 = .ok (.iload_n 0, 1) := by decide +kernel
theorem dX10_checkRange_1 : decode cX10_checkRange 1 = .ok (.iload_n 1, 1) := by decide +kernel
theorem dX10_checkRange_2 : decode cX10_checkRange 2 = .ok (.if_icmp .lt 8, 3) := by decide +kernel
theorem dX10_checkRange_5 : decode cX10_checkRange 5 = .ok (.iload_n 0, 1) := by decide +kernel
theorem dX10_checkRange_6 : decode cX10_checkRange 6 = .ok (.iload_n 2, 1) := by decide +kernel
theorem dX10_checkRange_7 : decode cX10_checkRange 7 = .ok (.if_icmp .le 14, 3) := by decide +kernel
theorem dX10_checkRange_10 : decode cX10_checkRange 10 = .ok (.new 153, 3) := by decide +kernel
theorem dX10_checkRange_13 : decode cX10_checkRange 13 = .ok (.dup, 1) := by decide +kernel
theorem dX10_checkRange_14 : decode cX10_checkRange 14 = .ok (.ldc_w 282, 3) := by decide +kernel
theorem dX10_checkRange_17 : decode cX10_checkRange 17 = .ok (.invokespecial 157, 3) := by decide +kernel
theorem dX10_checkRange_20 : decode cX10_checkRange 20 = .ok (.athrow, 1) := by decide +kernel
theorem dX10_checkRange_21 : decode cX10_checkRange 21 = .ok (.return_, 1) := by decide +kernel
theorem dX10_checkNotNegative_0 : decode cX10_checkNotNegative 0 = .ok (.iload_n 0, 1) := by decide +kernel
theorem dX10_checkNotNegative_1 : decode cX10_checkNotNegative 1 = .ok (.ifCond .ge 14, 3) := by decide +kernel
theorem dX10_checkNotNegative_4 : decode cX10_checkNotNegative 4 = .ok (.new 153, 3) := by decide +kernel
theorem dX10_checkNotNegative_7 : decode cX10_checkNotNegative 7 = .ok (.dup, 1) := by decide +kernel
theorem dX10_checkNotNegative_8 : decode cX10_checkNotNegative 8 = .ok (.ldc_w 284, 3) := by decide +kernel
theorem dX10_checkNotNegative_11 : decode cX10_checkNotNegative 11 = .ok (.invokespecial 157, 3) := by decide +kernel
theorem dX10_checkNotNegative_14 : decode cX10_checkNotNegative 14 = .ok (.athrow, 1) := by decide +kernel
theorem dX10_checkNotNegative_15 : decode cX10_checkNotNegative 15 = .ok (.return_, 1) := by decide +kernel
theorem dX10_checkSet_0 : decode cX10_checkSet 0 = .ok (.iload_n 1, 1) := by decide +kernel
theorem dX10_checkSet_1 : decode cX10_checkSet 1 = .ok (.iconst 0, 1) := by decide +kernel
theorem dX10_checkSet_2 : decode cX10_checkSet 2 = .ok (.aload_n 0, 1) := by decide +kernel
theorem dX10_checkSet_3 : decode cX10_checkSet 3 = .ok (.getfield 14, 3) := by decide +kernel
theorem dX10_checkSet_6 : decode cX10_checkSet 6 = .ok (.invokevirtual 185, 3) := by decide +kernel
theorem dX10_checkSet_9 : decode cX10_checkSet 9 = .ok (.invokestatic 89, 3) := by decide +kernel
theorem dX10_checkSet_12 : decode cX10_checkSet 12 = .ok (.return_, 1) := by decide +kernel
theorem dX10_checkElement_0 : decode cX10_checkElement 0 = .ok (.iload_n 1, 1) := by decide +kernel
theorem dX10_checkElement_1 : decode cX10_checkElement 1 = .ok (.iconst 0, 1) := by decide +kernel
theorem dX10_checkElement_2 : decode cX10_checkElement 2 = .ok (.aload_n 0, 1) := by decide +kernel
theorem dX10_checkElement_3 : decode cX10_checkElement 3 = .ok (.getfield 14, 3) := by decide +kernel
theorem dX10_checkElement_6 : decode cX10_checkElement 6 = .ok (.getfield 93, 3) := by decide +kernel
theorem dX10_checkElement_9 : decode cX10_checkElement 9 = .ok (.iconst 1, 1) := by decide +kernel
theorem dX10_checkElement_10 : decode cX10_checkElement 10 = .ok (.isub, 1) := by decide +kernel
theorem dX10_checkElement_11 : decode cX10_checkElement 11 = .ok (.invokestatic 89, 3) := by decide +kernel
theorem dX10_checkElement_14 : decode cX10_checkElement 14 = .ok (.return_, 1) := by decide +kernel
theorem dX10_holds_0 : decode cX10_holds 0 = .ok (.iload_n 0, 1) := by decide +kernel
theorem dX10_holds_1 : decode cX10_holds 1 = .ok (.iload_n 1, 1) := by decide +kernel
theorem dX10_holds_2 : decode cX10_holds 2 = .ok (.ishr, 1) := by decide +kernel
theorem dX10_holds_3 : decode cX10_holds 3 = .ok (.iconst 1, 1) := by decide +kernel
theorem dX10_holds_4 : decode cX10_holds 4 = .ok (.iand, 1) := by decide +kernel
theorem dX10_holds_5 : decode cX10_holds 5 = .ok (.iconst 1, 1) := by decide +kernel
theorem dX10_holds_6 : decode cX10_holds 6 = .ok (.if_icmp .ne 7, 3) := by decide +kernel
theorem dX10_holds_9 : decode cX10_holds 9 = .ok (.iconst 1, 1) := by decide +kernel
theorem dX10_holds_10 : decode cX10_holds 10 = .ok (.goto 4, 3) := by decide +kernel
theorem dX10_holds_13 : decode cX10_holds 13 = .ok (.iconst 0, 1) := by decide +kernel
theorem dX10_holds_14 : decode cX10_holds 14 = .ok (.ireturn, 1) := by decide +kernel
theorem dX10_branchEnd_0 : decode cX10_branchEnd 0 = .ok (.iload_n 0, 1) := by decide +kernel
theorem dX10_branchEnd_1 : decode cX10_branchEnd 1 = .ok (.ifCond .ne 9, 3) := by decide +kernel
theorem dX10_branchEnd_4 : decode cX10_branchEnd 4 = .ok (.iload_n 1, 1) := by decide +kernel
theorem dX10_branchEnd_5 : decode cX10_branchEnd 5 = .ok (.iconst 1, 1) := by decide +kernel
theorem dX10_branchEnd_6 : decode cX10_branchEnd 6 = .ok (.iadd, 1) := by decide +kernel
theorem dX10_branchEnd_7 : decode cX10_branchEnd 7 = .ok (.goto 9, 3) := by decide +kernel
theorem dX10_branchEnd_10 : decode cX10_branchEnd 10 = .ok (.iload_n 0, 1) := by decide +kernel
theorem dX10_branchEnd_11 : decode cX10_branchEnd 11 = .ok (.iload_n 0, 1) := by decide +kernel
theorem dX10_branchEnd_12 : decode cX10_branchEnd 12 = .ok (.iload_n 0, 1) := by decide +kernel
theorem dX10_branchEnd_13 : decode cX10_branchEnd 13 = .ok (.ineg, 1) := by decide +kernel
theorem dX10_branchEnd_14 : decode cX10_branchEnd 14 = .ok (.iand, 1) := by decide +kernel
theorem dX10_branchEnd_15 : decode cX10_branchEnd 15 = .ok (.iadd, 1) := by decide +kernel
theorem dX10_branchEnd_16 : decode cX10_branchEnd 16 = .ok (.ireturn, 1) := by decide +kernel
theorem dX10_sizeOrNone_0 : decode cX10_sizeOrNone 0 = .ok (.iload_n 0, 1) := by decide +kernel
theorem dX10_sizeOrNone_1 : decode cX10_sizeOrNone 1 = .ok (.iconst (-1), 1) := by decide +kernel
theorem dX10_sizeOrNone_2 : decode cX10_sizeOrNone 2 = .ok (.if_icmp .ne 7, 3) := by decide +kernel
theorem dX10_sizeOrNone_5 : decode cX10_sizeOrNone 5 = .ok (.iconst (-1), 1) := by decide +kernel
theorem dX10_sizeOrNone_6 : decode cX10_sizeOrNone 6 = .ok (.goto 7, 3) := by decide +kernel
theorem dX10_sizeOrNone_9 : decode cX10_sizeOrNone 9 = .ok (.iload_n 0, 1) := by decide +kernel
theorem dX10_sizeOrNone_10 : decode cX10_sizeOrNone 10 = .ok (.invokestatic 188, 3) := by decide +kernel
theorem dX10_sizeOrNone_13 : decode cX10_sizeOrNone 13 = .ok (.ireturn, 1) := by decide +kernel
theorem dX10_lay_0 : decode cX10_lay 0 = .ok (.aload_n 0, 1) := by decide +kernel
theorem dX10_lay_1 : decode cX10_lay 1 = .ok (.getfield 30, 3) := by decide +kernel
theorem dX10_lay_4 : decode cX10_lay 4 = .ok (.aload_n 0, 1) := by decide +kernel
theorem dX10_lay_5 : decode cX10_lay 5 = .ok (.getfield 14, 3) := by decide +kernel
theorem dX10_lay_8 : decode cX10_lay 8 = .ok (.aload_n 0, 1) := by decide +kernel
theorem dX10_lay_9 : decode cX10_lay 9 = .ok (.getfield 20, 3) := by decide +kernel
theorem dX10_lay_12 : decode cX10_lay 12 = .ok (.invokevirtual 97, 3) := by decide +kernel
theorem dX10_lay_15 : decode cX10_lay 15 = .ok (.aload_n 0, 1) := by decide +kernel
theorem dX10_lay_16 : decode cX10_lay 16 = .ok (.getfield 20, 3) := by decide +kernel
theorem dX10_lay_19 : decode cX10_lay 19 = .ok (.iload_n 1, 1) := by decide +kernel
theorem dX10_lay_20 : decode cX10_lay 20 = .ok (.aaload, 1) := by decide +kernel
theorem dX10_lay_21 : decode cX10_lay 21 = .ok (.aload_n 0, 1) := by decide +kernel
theorem dX10_lay_22 : decode cX10_lay 22 = .ok (.getfield 82, 3) := by decide +kernel
theorem dX10_lay_25 : decode cX10_lay 25 = .ok (.invokevirtual 168, 3) := by decide +kernel
theorem dX10_lay_28 : decode cX10_lay 28 = .ok (.aload_n 0, 1) := by decide +kernel
theorem dX10_lay_29 : decode cX10_lay 29 = .ok (.getfield 82, 3) := by decide +kernel
theorem dX10_lay_32 : decode cX10_lay 32 = .ok (.invokevirtual 123, 3) := by decide +kernel
theorem dX10_lay_35 : decode cX10_lay 35 = .ok (.ireturn, 1) := by decide +kernel
theorem dX10_combineInto_0 : decode cX10_combineInto 0 = .ok (.aload_n 0, 1) := by decide +kernel
theorem dX10_combineInto_1 : decode cX10_combineInto 1 = .ok (.aload_n 2, 1) := by decide +kernel
theorem dX10_combineInto_2 : decode cX10_combineInto 2 = .ok (.invokevirtual 168, 3) := by decide +kernel
theorem dX10_combineInto_5 : decode cX10_combineInto 5 = .ok (.iload_n 1, 1) := by decide +kernel
theorem dX10_combineInto_6 : decode cX10_combineInto 6 = .ok (.tableswitch 50 0 2 #[26, 34, 42], 26) := by decide +kernel
theorem dX10_combineInto_32 : decode cX10_combineInto 32 = .ok (.aload_n 0, 1) := by decide +kernel
theorem dX10_combineInto_33 : decode cX10_combineInto 33 = .ok (.aload_n 3, 1) := by decide +kernel
theorem dX10_combineInto_34 : decode cX10_combineInto 34 = .ok (.invokevirtual 286, 3) := by decide +kernel
theorem dX10_combineInto_37 : decode cX10_combineInto 37 = .ok (.goto 24, 3) := by decide +kernel
theorem dX10_combineInto_40 : decode cX10_combineInto 40 = .ok (.aload_n 0, 1) := by decide +kernel
theorem dX10_combineInto_41 : decode cX10_combineInto 41 = .ok (.aload_n 3, 1) := by decide +kernel
theorem dX10_combineInto_42 : decode cX10_combineInto 42 = .ok (.invokevirtual 289, 3) := by decide +kernel
theorem dX10_combineInto_45 : decode cX10_combineInto 45 = .ok (.goto 16, 3) := by decide +kernel
theorem dX10_combineInto_48 : decode cX10_combineInto 48 = .ok (.aload_n 0, 1) := by decide +kernel
theorem dX10_combineInto_49 : decode cX10_combineInto 49 = .ok (.aload_n 3, 1) := by decide +kernel
theorem dX10_combineInto_50 : decode cX10_combineInto 50 = .ok (.invokevirtual 292, 3) := by decide +kernel
theorem dX10_combineInto_53 : decode cX10_combineInto 53 = .ok (.goto 8, 3) := by decide +kernel
theorem dX10_combineInto_56 : decode cX10_combineInto 56 = .ok (.aload_n 0, 1) := by decide +kernel
theorem dX10_combineInto_57 : decode cX10_combineInto 57 = .ok (.aload_n 3, 1) := by decide +kernel
theorem dX10_combineInto_58 : decode cX10_combineInto 58 = .ok (.invokevirtual 295, 3) := by decide +kernel
theorem dX10_combineInto_61 : decode cX10_combineInto 61 = .ok (.return_, 1) := by decide +kernel
theorem dX10_excessOf_0 : decode cX10_excessOf 0 = .ok (.aload_n 0, 1) := by decide +kernel
theorem dX10_excessOf_1 : decode cX10_excessOf 1 = .ok (.getfield 86, 3) := by decide +kernel
theorem dX10_excessOf_4 : decode cX10_excessOf 4 = .ok (.aload_n 1, 1) := by decide +kernel
theorem dX10_excessOf_5 : decode cX10_excessOf 5 = .ok (.invokevirtual 168, 3) := by decide +kernel
theorem dX10_excessOf_8 : decode cX10_excessOf 8 = .ok (.aload_n 0, 1) := by decide +kernel
theorem dX10_excessOf_9 : decode cX10_excessOf 9 = .ok (.getfield 86, 3) := by decide +kernel
theorem dX10_excessOf_12 : decode cX10_excessOf 12 = .ok (.iload_n 2, 1) := by decide +kernel
theorem dX10_excessOf_13 : decode cX10_excessOf 13 = .ok (.invokevirtual 298, 3) := by decide +kernel
theorem dX10_excessOf_16 : decode cX10_excessOf 16 = .ok (.aload_n 0, 1) := by decide +kernel
theorem dX10_excessOf_17 : decode cX10_excessOf 17 = .ok (.getfield 82, 3) := by decide +kernel
theorem dX10_excessOf_20 : decode cX10_excessOf 20 = .ok (.aload_n 0, 1) := by decide +kernel
theorem dX10_excessOf_21 : decode cX10_excessOf 21 = .ok (.getfield 86, 3) := by decide +kernel
theorem dX10_excessOf_24 : decode cX10_excessOf 24 = .ok (.invokevirtual 301, 3) := by decide +kernel
theorem dX10_excessOf_27 : decode cX10_excessOf 27 = .ok (.aload_n 0, 1) := by decide +kernel
theorem dX10_excessOf_28 : decode cX10_excessOf 28 = .ok (.getfield 82, 3) := by decide +kernel
theorem dX10_excessOf_31 : decode cX10_excessOf 31 = .ok (.invokevirtual 123, 3) := by decide +kernel
theorem dX10_excessOf_34 : decode cX10_excessOf 34 = .ok (.aload_n 0, 1) := by decide +kernel
theorem dX10_excessOf_35 : decode cX10_excessOf 35 = .ok (.getfield 86, 3) := by decide +kernel
theorem dX10_excessOf_38 : decode cX10_excessOf 38 = .ok (.invokevirtual 123, 3) := by decide +kernel
theorem dX10_excessOf_41 : decode cX10_excessOf 41 = .ok (.iload_n 2, 1) := by decide +kernel
theorem dX10_excessOf_42 : decode cX10_excessOf 42 = .ok (.invokestatic 205, 3) := by decide +kernel
theorem dX10_excessOf_45 : decode cX10_excessOf 45 = .ok (.isub, 1) := by decide +kernel
theorem dX10_excessOf_46 : decode cX10_excessOf 46 = .ok (.ireturn, 1) := by decide +kernel
theorem dX10_hasProperty_0 : decode cX10_hasProperty 0 = .ok (.iload_n 2, 1) := by decide +kernel
theorem dX10_hasProperty_1 : decode cX10_hasProperty 1 = .ok (.tableswitch 146 0 4 #[35, 56, 72, 93, 114], 35) := by decide +kernel
theorem dX10_hasProperty_36 : decode cX10_hasProperty 36 = .ok (.aload_n 0, 1) := by decide +kernel
theorem dX10_hasProperty_37 : decode cX10_hasProperty 37 = .ok (.getfield 44, 3) := by decide +kernel
theorem dX10_hasProperty_40 : decode cX10_hasProperty 40 = .ok (.aload_n 0, 1) := by decide +kernel
theorem dX10_hasProperty_41 : decode cX10_hasProperty 41 = .ok (.getfield 82, 3) := by decide +kernel
theorem dX10_hasProperty_44 : decode cX10_hasProperty 44 = .ok (.aload_n 1, 1) := by decide +kernel
theorem dX10_hasProperty_45 : decode cX10_hasProperty 45 = .ok (.invokevirtual 304, 3) := by decide +kernel
theorem dX10_hasProperty_48 : decode cX10_hasProperty 48 = .ok (.aload_n 0, 1) := by decide +kernel
theorem dX10_hasProperty_49 : decode cX10_hasProperty 49 = .ok (.getfield 82, 3) := by decide +kernel
theorem dX10_hasProperty_52 : decode cX10_hasProperty 52 = .ok (.aload_n 1, 1) := by decide +kernel
theorem dX10_hasProperty_53 : decode cX10_hasProperty 53 = .ok (.invokevirtual 308, 3) := by decide +kernel
theorem dX10_hasProperty_56 : decode cX10_hasProperty 56 = .ok (.ireturn, 1) := by decide +kernel
theorem dX10_hasProperty_57 : decode cX10_hasProperty 57 = .ok (.aload_n 0, 1) := by decide +kernel
theorem dX10_hasProperty_58 : decode cX10_hasProperty 58 = .ok (.aload_n 1, 1) := by decide +kernel
theorem dX10_hasProperty_59 : decode cX10_hasProperty 59 = .ok (.aload_n 1, 1) := by decide +kernel
theorem dX10_hasProperty_60 : decode cX10_hasProperty 60 = .ok (.invokevirtual 226, 3) := by decide +kernel
theorem dX10_hasProperty_63 : decode cX10_hasProperty 63 = .ok (.iconst (-1), 1) := by decide +kernel
theorem dX10_hasProperty_64 : decode cX10_hasProperty 64 = .ok (.if_icmp .ne 7, 3) := by decide +kernel
theorem dX10_hasProperty_67 : decode cX10_hasProperty 67 = .ok (.iconst 1, 1) := by decide +kernel
theorem dX10_hasProperty_68 : decode cX10_hasProperty 68 = .ok (.goto 4, 3) := by decide +kernel
theorem dX10_hasProperty_71 : decode cX10_hasProperty 71 = .ok (.iconst 0, 1) := by decide +kernel
theorem dX10_hasProperty_72 : decode cX10_hasProperty 72 = .ok (.ireturn, 1) := by decide +kernel
theorem dX10_hasProperty_73 : decode cX10_hasProperty 73 = .ok (.aload_n 0, 1) := by decide +kernel
theorem dX10_hasProperty_74 : decode cX10_hasProperty 74 = .ok (.getfield 44, 3) := by decide +kernel
theorem dX10_hasProperty_77 : decode cX10_hasProperty 77 = .ok (.aload_n 0, 1) := by decide +kernel
theorem dX10_hasProperty_78 : decode cX10_hasProperty 78 = .ok (.getfield 82, 3) := by decide +kernel
theorem dX10_hasProperty_81 : decode cX10_hasProperty 81 = .ok (.aload_n 1, 1) := by decide +kernel
theorem dX10_hasProperty_82 : decode cX10_hasProperty 82 = .ok (.invokevirtual 312, 3) := by decide +kernel
theorem dX10_hasProperty_85 : decode cX10_hasProperty 85 = .ok (.aload_n 0, 1) := by decide +kernel
theorem dX10_hasProperty_86 : decode cX10_hasProperty 86 = .ok (.getfield 82, 3) := by decide +kernel
theorem dX10_hasProperty_89 : decode cX10_hasProperty 89 = .ok (.aload_n 1, 1) := by decide +kernel
theorem dX10_hasProperty_90 : decode cX10_hasProperty 90 = .ok (.invokevirtual 308, 3) := by decide +kernel
theorem dX10_hasProperty_93 : decode cX10_hasProperty 93 = .ok (.ireturn, 1) := by decide +kernel
theorem dX10_hasProperty_94 : decode cX10_hasProperty 94 = .ok (.aload_n 0, 1) := by decide +kernel
theorem dX10_hasProperty_95 : decode cX10_hasProperty 95 = .ok (.getfield 44, 3) := by decide +kernel
theorem dX10_hasProperty_98 : decode cX10_hasProperty 98 = .ok (.aload_n 0, 1) := by decide +kernel
theorem dX10_hasProperty_99 : decode cX10_hasProperty 99 = .ok (.getfield 82, 3) := by decide +kernel
theorem dX10_hasProperty_102 : decode cX10_hasProperty 102 = .ok (.aload_n 1, 1) := by decide +kernel
theorem dX10_hasProperty_103 : decode cX10_hasProperty 103 = .ok (.invokevirtual 315, 3) := by decide +kernel
theorem dX10_hasProperty_106 : decode cX10_hasProperty 106 = .ok (.aload_n 0, 1) := by decide +kernel
theorem dX10_hasProperty_107 : decode cX10_hasProperty 107 = .ok (.getfield 82, 3) := by decide +kernel
theorem dX10_hasProperty_110 : decode cX10_hasProperty 110 = .ok (.aload_n 1, 1) := by decide +kernel
theorem dX10_hasProperty_111 : decode cX10_hasProperty 111 = .ok (.invokevirtual 308, 3) := by decide +kernel
theorem dX10_hasProperty_114 : decode cX10_hasProperty 114 = .ok (.ireturn, 1) := by decide +kernel
theorem dX10_hasProperty_115 : decode cX10_hasProperty 115 = .ok (.aload_n 0, 1) := by decide +kernel
theorem dX10_hasProperty_116 : decode cX10_hasProperty 116 = .ok (.getfield 82, 3) := by decide +kernel
theorem dX10_hasProperty_119 : decode cX10_hasProperty 119 = .ok (.aload_n 1, 1) := by decide +kernel
theorem dX10_hasProperty_120 : decode cX10_hasProperty 120 = .ok (.invokevirtual 301, 3) := by decide +kernel
theorem dX10_hasProperty_123 : decode cX10_hasProperty 123 = .ok (.aload_n 0, 1) := by decide +kernel
theorem dX10_hasProperty_124 : decode cX10_hasProperty 124 = .ok (.getfield 82, 3) := by decide +kernel
theorem dX10_hasProperty_127 : decode cX10_hasProperty 127 = .ok (.aload_n 1, 1) := by decide +kernel
theorem dX10_hasProperty_128 : decode cX10_hasProperty 128 = .ok (.invokevirtual 292, 3) := by decide +kernel
theorem dX10_hasProperty_131 : decode cX10_hasProperty 131 = .ok (.aload_n 0, 1) := by decide +kernel
theorem dX10_hasProperty_132 : decode cX10_hasProperty 132 = .ok (.getfield 82, 3) := by decide +kernel
theorem dX10_hasProperty_135 : decode cX10_hasProperty 135 = .ok (.invokevirtual 123, 3) := by decide +kernel
theorem dX10_hasProperty_138 : decode cX10_hasProperty 138 = .ok (.ifCond .ne 7, 3) := by decide +kernel
theorem dX10_hasProperty_141 : decode cX10_hasProperty 141 = .ok (.iconst 1, 1) := by decide +kernel
theorem dX10_hasProperty_142 : decode cX10_hasProperty 142 = .ok (.goto 4, 3) := by decide +kernel
theorem dX10_hasProperty_145 : decode cX10_hasProperty 145 = .ok (.iconst 0, 1) := by decide +kernel
theorem dX10_hasProperty_146 : decode cX10_hasProperty 146 = .ok (.ireturn, 1) := by decide +kernel
theorem dX10_hasProperty_147 : decode cX10_hasProperty 147 = .ok (.aload_n 0, 1) := by decide +kernel
theorem dX10_hasProperty_148 : decode cX10_hasProperty 148 = .ok (.getfield 51, 3) := by decide +kernel
theorem dX10_hasProperty_151 : decode cX10_hasProperty 151 = .ok (.aload_n 1, 1) := by decide +kernel
theorem dX10_hasProperty_152 : decode cX10_hasProperty 152 = .ok (.invokevirtual 318, 3) := by decide +kernel
theorem dX10_hasProperty_155 : decode cX10_hasProperty 155 = .ok (.ireturn, 1) := by decide +kernel
theorem dX10_weightOf_0 : decode cX10_weightOf 0 = .ok (.lconst 0, 1) := by decide +kernel
theorem dX10_weightOf_1 : decode cX10_weightOf 1 = .ok (.lstore_n 3, 1) := by decide +kernel
theorem dX10_weightOf_2 : decode cX10_weightOf 2 = .ok (.iconst 0, 1) := by decide +kernel
theorem dX10_weightOf_3 : decode cX10_weightOf 3 = .ok (.istore 5, 2) := by decide +kernel
theorem dX10_weightOf_5 : decode cX10_weightOf 5 = .ok (.iload 5, 2) := by decide +kernel
theorem dX10_weightOf_7 : decode cX10_weightOf 7 = .ok (.aload_n 0, 1) := by decide +kernel
theorem dX10_weightOf_8 : decode cX10_weightOf 8 = .ok (.getfield 14, 3) := by decide +kernel
theorem dX10_weightOf_11 : decode cX10_weightOf 11 = .ok (.getfield 93, 3) := by decide +kernel
theorem dX10_weightOf_14 : decode cX10_weightOf 14 = .ok (.if_icmp .gt 44, 3) := by decide +kernel
theorem dX10_weightOf_17 : decode cX10_weightOf 17 = .ok (.lconst 1, 1) := by decide +kernel
theorem dX10_weightOf_18 : decode cX10_weightOf 18 = .ok (.aload_n 0, 1) := by decide +kernel
theorem dX10_weightOf_19 : decode cX10_weightOf 19 = .ok (.getfield 14, 3) := by decide +kernel
theorem dX10_weightOf_22 : decode cX10_weightOf 22 = .ok (.getfield 93, 3) := by decide +kernel
theorem dX10_weightOf_25 : decode cX10_weightOf 25 = .ok (.iload 5, 2) := by decide +kernel
theorem dX10_weightOf_27 : decode cX10_weightOf 27 = .ok (.invokestatic 179, 3) := by decide +kernel
theorem dX10_weightOf_30 : decode cX10_weightOf 30 = .ok (.invokestatic 321, 3) := by decide +kernel
theorem dX10_weightOf_33 : decode cX10_weightOf 33 = .ok (.lstore 6, 2) := by decide +kernel
theorem dX10_weightOf_35 : decode cX10_weightOf 35 = .ok (.lload_n 3, 1) := by decide +kernel
theorem dX10_weightOf_36 : decode cX10_weightOf 36 = .ok (.aload_n 1, 1) := by decide +kernel
theorem dX10_weightOf_37 : decode cX10_weightOf 37 = .ok (.iload 5, 2) := by decide +kernel
theorem dX10_weightOf_39 : decode cX10_weightOf 39 = .ok (.invokevirtual 127, 3) := by decide +kernel
theorem dX10_weightOf_42 : decode cX10_weightOf 42 = .ok (.i2l, 1) := by decide +kernel
theorem dX10_weightOf_43 : decode cX10_weightOf 43 = .ok (.ldc2_w 326, 3) := by decide +kernel
theorem dX10_weightOf_46 : decode cX10_weightOf 46 = .ok (.lload 6, 2) := by decide +kernel
theorem dX10_weightOf_48 : decode cX10_weightOf 48 = .ok (.ldiv, 1) := by decide +kernel
theorem dX10_weightOf_49 : decode cX10_weightOf 49 = .ok (.lmul, 1) := by decide +kernel
theorem dX10_weightOf_50 : decode cX10_weightOf 50 = .ok (.ladd, 1) := by decide +kernel
theorem dX10_weightOf_51 : decode cX10_weightOf 51 = .ok (.lstore_n 3, 1) := by decide +kernel
theorem dX10_weightOf_52 : decode cX10_weightOf 52 = .ok (.iinc 5 1, 3) := by decide +kernel
theorem dX10_weightOf_55 : decode cX10_weightOf 55 = .ok (.goto (-50), 3) := by decide +kernel
theorem dX10_weightOf_58 : decode cX10_weightOf 58 = .ok (.lconst 1, 1) := by decide +kernel
theorem dX10_weightOf_59 : decode cX10_weightOf 59 = .ok (.lload_n 3, 1) := by decide +kernel
theorem dX10_weightOf_60 : decode cX10_weightOf 60 = .ok (.ldc2_w 326, 3) := by decide +kernel
theorem dX10_weightOf_63 : decode cX10_weightOf 63 = .ok (.invokestatic 328, 3) := by decide +kernel
theorem dX10_weightOf_66 : decode cX10_weightOf 66 = .ok (.invokestatic 321, 3) := by decide +kernel
theorem dX10_weightOf_69 : decode cX10_weightOf 69 = .ok (.lstore 5, 2) := by decide +kernel
theorem dX10_weightOf_71 : decode cX10_weightOf 71 = .ok (.iload_n 2, 1) := by decide +kernel
theorem dX10_weightOf_72 : decode cX10_weightOf 72 = .ok (.ifCond .eq 9, 3) := by decide +kernel
theorem dX10_weightOf_75 : decode cX10_weightOf 75 = .ok (.ldc2_w 326, 3) := by decide +kernel
theorem dX10_weightOf_78 : decode cX10_weightOf 78 = .ok (.goto 4, 3) := by decide +kernel
theorem dX10_weightOf_81 : decode cX10_weightOf 81 = .ok (.lload_n 3, 1) := by decide +kernel
theorem dX10_weightOf_82 : decode cX10_weightOf 82 = .ok (.lload 5, 2) := by decide +kernel
theorem dX10_weightOf_84 : decode cX10_weightOf 84 = .ok (.ldiv, 1) := by decide +kernel
theorem dX10_weightOf_85 : decode cX10_weightOf 85 = .ok (.lreturn, 1) := by decide +kernel
theorem dX10_firstDisjointPair_0 : decode cX10_firstDisjointPair 0 = .ok (.aload_n 0, 1) := by decide +kernel
theorem dX10_firstDisjointPair_1 : decode cX10_firstDisjointPair 1 = .ok (.getfield 82, 3) := by decide +kernel
theorem dX10_firstDisjointPair_4 : decode cX10_firstDisjointPair 4 = .ok (.aload_n 2, 1) := by decide +kernel
theorem dX10_firstDisjointPair_5 : decode cX10_firstDisjointPair 5 = .ok (.invokevirtual 168, 3) := by decide +kernel
theorem dX10_firstDisjointPair_8 : decode cX10_firstDisjointPair 8 = .ok (.aload_n 0, 1) := by decide +kernel
theorem dX10_firstDisjointPair_9 : decode cX10_firstDisjointPair 9 = .ok (.getfield 82, 3) := by decide +kernel
theorem dX10_firstDisjointPair_12 : decode cX10_firstDisjointPair 12 = .ok (.invokevirtual 331, 3) := by decide +kernel
theorem dX10_firstDisjointPair_15 : decode cX10_firstDisjointPair 15 = .ok (.aload_n 0, 1) := by decide +kernel
theorem dX10_firstDisjointPair_16 : decode cX10_firstDisjointPair 16 = .ok (.getfield 82, 3) := by decide +kernel
theorem dX10_firstDisjointPair_19 : decode cX10_firstDisjointPair 19 = .ok (.invokevirtual 334, 3) := by decide +kernel
theorem dX10_firstDisjointPair_22 : decode cX10_firstDisjointPair 22 = .ok (.aload_n 0, 1) := by decide +kernel
theorem dX10_firstDisjointPair_23 : decode cX10_firstDisjointPair 23 = .ok (.getfield 82, 3) := by decide +kernel
theorem dX10_firstDisjointPair_26 : decode cX10_firstDisjointPair 26 = .ok (.aload_n 1, 1) := by decide +kernel
theorem dX10_firstDisjointPair_27 : decode cX10_firstDisjointPair 27 = .ok (.invokevirtual 289, 3) := by decide +kernel
theorem dX10_firstDisjointPair_30 : decode cX10_firstDisjointPair 30 = .ok (.aload_n 0, 1) := by decide +kernel
theorem dX10_firstDisjointPair_31 : decode cX10_firstDisjointPair 31 = .ok (.getfield 82, 3) := by decide +kernel
theorem dX10_firstDisjointPair_34 : decode cX10_firstDisjointPair 34 = .ok (.iconst 0, 1) := by decide +kernel
theorem dX10_firstDisjointPair_35 : decode cX10_firstDisjointPair 35 = .ok (.invokevirtual 134, 3) := by decide +kernel
theorem dX10_firstDisjointPair_38 : decode cX10_firstDisjointPair 38 = .ok (.istore_n 3, 1) := by decide +kernel
theorem dX10_firstDisjointPair_39 : decode cX10_firstDisjointPair 39 = .ok (.iload_n 3, 1) := by decide +kernel
theorem dX10_firstDisjointPair_40 : decode cX10_firstDisjointPair 40 = .ok (.iconst (-1), 1) := by decide +kernel
theorem dX10_firstDisjointPair_41 : decode cX10_firstDisjointPair 41 = .ok (.if_icmp .ne 5, 3) := by decide +kernel
theorem dX10_firstDisjointPair_44 : decode cX10_firstDisjointPair 44 = .ok (.iconst (-1), 1) := by decide +kernel
theorem dX10_firstDisjointPair_45 : decode cX10_firstDisjointPair 45 = .ok (.ireturn, 1) := by decide +kernel
theorem dX10_firstDisjointPair_46 : decode cX10_firstDisjointPair 46 = .ok (.aload_n 0, 1) := by decide +kernel
theorem dX10_firstDisjointPair_47 : decode cX10_firstDisjointPair 47 = .ok (.getfield 82, 3) := by decide +kernel
theorem dX10_firstDisjointPair_50 : decode cX10_firstDisjointPair 50 = .ok (.aload_n 2, 1) := by decide +kernel
theorem dX10_firstDisjointPair_51 : decode cX10_firstDisjointPair 51 = .ok (.invokevirtual 168, 3) := by decide +kernel
theorem dX10_firstDisjointPair_54 : decode cX10_firstDisjointPair 54 = .ok (.iconst 0, 1) := by decide +kernel
theorem dX10_firstDisjointPair_55 : decode cX10_firstDisjointPair 55 = .ok (.istore 4, 2) := by decide +kernel
theorem dX10_firstDisjointPair_57 : decode cX10_firstDisjointPair 57 = .ok (.iload 4, 2) := by decide +kernel
theorem dX10_firstDisjointPair_59 : decode cX10_firstDisjointPair 59 = .ok (.aload_n 0, 1) := by decide +kernel
theorem dX10_firstDisjointPair_60 : decode cX10_firstDisjointPair 60 = .ok (.getfield 14, 3) := by decide +kernel
theorem dX10_firstDisjointPair_63 : decode cX10_firstDisjointPair 63 = .ok (.getfield 93, 3) := by decide +kernel
theorem dX10_firstDisjointPair_66 : decode cX10_firstDisjointPair 66 = .ok (.if_icmp .ge 27, 3) := by decide +kernel
theorem dX10_firstDisjointPair_69 : decode cX10_firstDisjointPair 69 = .ok (.iload_n 3, 1) := by decide +kernel
theorem dX10_firstDisjointPair_70 : decode cX10_firstDisjointPair 70 = .ok (.iload 4, 2) := by decide +kernel
theorem dX10_firstDisjointPair_72 : decode cX10_firstDisjointPair 72 = .ok (.invokestatic 172, 3) := by decide +kernel
theorem dX10_firstDisjointPair_75 : decode cX10_firstDisjointPair 75 = .ok (.ifCond .eq 12, 3) := by decide +kernel
theorem dX10_firstDisjointPair_78 : decode cX10_firstDisjointPair 78 = .ok (.aload_n 0, 1) := by decide +kernel
theorem dX10_firstDisjointPair_79 : decode cX10_firstDisjointPair 79 = .ok (.getfield 82, 3) := by decide +kernel
theorem dX10_firstDisjointPair_82 : decode cX10_firstDisjointPair 82 = .ok (.iload 4, 2) := by decide +kernel
theorem dX10_firstDisjointPair_84 : decode cX10_firstDisjointPair 84 = .ok (.invokevirtual 337, 3) := by decide +kernel
theorem dX10_firstDisjointPair_87 : decode cX10_firstDisjointPair 87 = .ok (.iinc 4 1, 3) := by decide +kernel
theorem dX10_firstDisjointPair_90 : decode cX10_firstDisjointPair 90 = .ok (.goto (-33), 3) := by decide +kernel
theorem dX10_firstDisjointPair_93 : decode cX10_firstDisjointPair 93 = .ok (.sipush 1024, 3) := by decide +kernel
theorem dX10_firstDisjointPair_96 : decode cX10_firstDisjointPair 96 = .ok (.iload_n 3, 1) := by decide +kernel
theorem dX10_firstDisjointPair_97 : decode cX10_firstDisjointPair 97 = .ok (.imul, 1) := by decide +kernel
theorem dX10_firstDisjointPair_98 : decode cX10_firstDisjointPair 98 = .ok (.aload_n 0, 1) := by decide +kernel
theorem dX10_firstDisjointPair_99 : decode cX10_firstDisjointPair 99 = .ok (.getfield 82, 3) := by decide +kernel
theorem dX10_firstDisjointPair_102 : decode cX10_firstDisjointPair 102 = .ok (.iconst 0, 1) := by decide +kernel
theorem dX10_firstDisjointPair_103 : decode cX10_firstDisjointPair 103 = .ok (.invokevirtual 134, 3) := by decide +kernel
theorem dX10_firstDisjointPair_106 : decode cX10_firstDisjointPair 106 = .ok (.iadd, 1) := by decide +kernel
theorem dX10_firstDisjointPair_107 : decode cX10_firstDisjointPair 107 = .ok (.ireturn, 1) := by decide +kernel
theorem dX10_mix_0 : decode cX10_mix 0 = .ok (.ldc2_w 340, 3) := by decide +kernel
theorem dX10_mix_3 : decode cX10_mix 3 = .ok (.lload_n 0, 1) := by decide +kernel
theorem dX10_mix_4 : decode cX10_mix 4 = .ok (.lmul, 1) := by decide +kernel
theorem dX10_mix_5 : decode cX10_mix 5 = .ok (.lload_n 2, 1) := by decide +kernel
theorem dX10_mix_6 : decode cX10_mix 6 = .ok (.ladd, 1) := by decide +kernel
theorem dX10_mix_7 : decode cX10_mix 7 = .ok (.lreturn, 1) := by decide +kernel
theorem dX10_mixMembers_0 : decode cX10_mixMembers 0 = .ok (.aload_n 3, 1) := by decide +kernel
theorem dX10_mixMembers_1 : decode cX10_mixMembers 1 = .ok (.aload_n 0, 1) := by decide +kernel
theorem dX10_mixMembers_2 : decode cX10_mixMembers 2 = .ok (.getfield 78, 3) := by decide +kernel
theorem dX10_mixMembers_5 : decode cX10_mixMembers 5 = .ok (.invokevirtual 342, 3) := by decide +kernel
theorem dX10_mixMembers_8 : decode cX10_mixMembers 8 = .ok (.istore 4, 2) := by decide +kernel
theorem dX10_mixMembers_10 : decode cX10_mixMembers 10 = .ok (.lload_n 1, 1) := by decide +kernel
theorem dX10_mixMembers_11 : decode cX10_mixMembers 11 = .ok (.iload 4, 2) := by decide +kernel
theorem dX10_mixMembers_13 : decode cX10_mixMembers 13 = .ok (.i2l, 1) := by decide +kernel
theorem dX10_mixMembers_14 : decode cX10_mixMembers 14 = .ok (.invokestatic 263, 3) := by decide +kernel
theorem dX10_mixMembers_17 : decode cX10_mixMembers 17 = .ok (.lstore 5, 2) := by decide +kernel
theorem dX10_mixMembers_19 : decode cX10_mixMembers 19 = .ok (.iconst 0, 1) := by decide +kernel
theorem dX10_mixMembers_20 : decode cX10_mixMembers 20 = .ok (.istore 7, 2) := by decide +kernel
theorem dX10_mixMembers_22 : decode cX10_mixMembers 22 = .ok (.iload 7, 2) := by decide +kernel
theorem dX10_mixMembers_24 : decode cX10_mixMembers 24 = .ok (.iload 4, 2) := by decide +kernel
theorem dX10_mixMembers_26 : decode cX10_mixMembers 26 = .ok (.if_icmp .ge 34, 3) := by decide +kernel
theorem dX10_mixMembers_29 : decode cX10_mixMembers 29 = .ok (.iload 7, 2) := by decide +kernel
theorem dX10_mixMembers_31 : decode cX10_mixMembers 31 = .ok (.aload_n 0, 1) := by decide +kernel
theorem dX10_mixMembers_32 : decode cX10_mixMembers 32 = .ok (.getfield 78, 3) := by decide +kernel
theorem dX10_mixMembers_35 : decode cX10_mixMembers 35 = .ok (.arraylength, 1) := by decide +kernel
theorem dX10_mixMembers_36 : decode cX10_mixMembers 36 = .ok (.if_icmp .ge 24, 3) := by decide +kernel
theorem dX10_mixMembers_39 : decode cX10_mixMembers 39 = .ok (.lload 5, 2) := by decide +kernel
theorem dX10_mixMembers_41 : decode cX10_mixMembers 41 = .ok (.aload_n 0, 1) := by decide +kernel
theorem dX10_mixMembers_42 : decode cX10_mixMembers 42 = .ok (.getfield 78, 3) := by decide +kernel
theorem dX10_mixMembers_45 : decode cX10_mixMembers 45 = .ok (.iload 7, 2) := by decide +kernel
theorem dX10_mixMembers_47 : decode cX10_mixMembers 47 = .ok (.iaload, 1) := by decide +kernel
theorem dX10_mixMembers_48 : decode cX10_mixMembers 48 = .ok (.i2l, 1) := by decide +kernel
theorem dX10_mixMembers_49 : decode cX10_mixMembers 49 = .ok (.invokestatic 263, 3) := by decide +kernel
theorem dX10_mixMembers_52 : decode cX10_mixMembers 52 = .ok (.lstore 5, 2) := by decide +kernel
theorem dX10_mixMembers_54 : decode cX10_mixMembers 54 = .ok (.iinc 7 1, 3) := by decide +kernel
theorem dX10_mixMembers_57 : decode cX10_mixMembers 57 = .ok (.goto (-35), 3) := by decide +kernel
theorem dX10_mixMembers_60 : decode cX10_mixMembers 60 = .ok (.iconst 0, 1) := by decide +kernel
theorem dX10_mixMembers_61 : decode cX10_mixMembers 61 = .ok (.istore 7, 2) := by decide +kernel
theorem dX10_mixMembers_63 : decode cX10_mixMembers 63 = .ok (.iload 7, 2) := by decide +kernel
theorem dX10_mixMembers_65 : decode cX10_mixMembers 65 = .ok (.aload_n 0, 1) := by decide +kernel
theorem dX10_mixMembers_66 : decode cX10_mixMembers 66 = .ok (.getfield 14, 3) := by decide +kernel
theorem dX10_mixMembers_69 : decode cX10_mixMembers 69 = .ok (.getfield 93, 3) := by decide +kernel
theorem dX10_mixMembers_72 : decode cX10_mixMembers 72 = .ok (.if_icmp .ge 23, 3) := by decide +kernel
theorem dX10_mixMembers_75 : decode cX10_mixMembers 75 = .ok (.lload 5, 2) := by decide +kernel
theorem dX10_mixMembers_77 : decode cX10_mixMembers 77 = .ok (.aload_n 3, 1) := by decide +kernel
theorem dX10_mixMembers_78 : decode cX10_mixMembers 78 = .ok (.iload 7, 2) := by decide +kernel
theorem dX10_mixMembers_80 : decode cX10_mixMembers 80 = .ok (.invokevirtual 140, 3) := by decide +kernel
theorem dX10_mixMembers_83 : decode cX10_mixMembers 83 = .ok (.i2l, 1) := by decide +kernel
theorem dX10_mixMembers_84 : decode cX10_mixMembers 84 = .ok (.invokestatic 263, 3) := by decide +kernel
theorem dX10_mixMembers_87 : decode cX10_mixMembers 87 = .ok (.lstore 5, 2) := by decide +kernel
theorem dX10_mixMembers_89 : decode cX10_mixMembers 89 = .ok (.iinc 7 1, 3) := by decide +kernel
theorem dX10_mixMembers_92 : decode cX10_mixMembers 92 = .ok (.goto (-29), 3) := by decide +kernel
theorem dX10_mixMembers_95 : decode cX10_mixMembers 95 = .ok (.lload 5, 2) := by decide +kernel
theorem dX10_mixMembers_97 : decode cX10_mixMembers 97 = .ok (.lreturn, 1) := by decide +kernel
theorem dX10_mixProperties_0 : decode cX10_mixProperties 0 = .ok (.lload_n 1, 1) := by decide +kernel
theorem dX10_mixProperties_1 : decode cX10_mixProperties 1 = .ok (.lstore 4, 2) := by decide +kernel
theorem dX10_mixProperties_3 : decode cX10_mixProperties 3 = .ok (.iconst 0, 1) := by decide +kernel
theorem dX10_mixProperties_4 : decode cX10_mixProperties 4 = .ok (.istore 6, 2) := by decide +kernel
theorem dX10_mixProperties_6 : decode cX10_mixProperties 6 = .ok (.iload 6, 2) := by decide +kernel
theorem dX10_mixProperties_8 : decode cX10_mixProperties 8 = .ok (.iconst 5, 1) := by decide +kernel
theorem dX10_mixProperties_9 : decode cX10_mixProperties 9 = .ok (.if_icmp .gt 31, 3) := by decide +kernel
theorem dX10_mixProperties_12 : decode cX10_mixProperties 12 = .ok (.lload 4, 2) := by decide +kernel
theorem dX10_mixProperties_14 : decode cX10_mixProperties 14 = .ok (.aload_n 0, 1) := by decide +kernel
theorem dX10_mixProperties_15 : decode cX10_mixProperties 15 = .ok (.aload_n 3, 1) := by decide +kernel
theorem dX10_mixProperties_16 : decode cX10_mixProperties 16 = .ok (.iload 6, 2) := by decide +kernel
theorem dX10_mixProperties_18 : decode cX10_mixProperties 18 = .ok (.invokevirtual 212, 3) := by decide +kernel
theorem dX10_mixProperties_21 : decode cX10_mixProperties 21 = .ok (.ifCond .eq 7, 3) := by decide +kernel
theorem dX10_mixProperties_24 : decode cX10_mixProperties 24 = .ok (.lconst 1, 1) := by decide +kernel
theorem dX10_mixProperties_25 : decode cX10_mixProperties 25 = .ok (.goto 4, 3) := by decide +kernel
theorem dX10_mixProperties_28 : decode cX10_mixProperties 28 = .ok (.lconst 0, 1) := by decide +kernel
theorem dX10_mixProperties_29 : decode cX10_mixProperties 29 = .ok (.invokestatic 263, 3) := by decide +kernel
theorem dX10_mixProperties_32 : decode cX10_mixProperties 32 = .ok (.lstore 4, 2) := by decide +kernel
theorem dX10_mixProperties_34 : decode cX10_mixProperties 34 = .ok (.iinc 6 1, 3) := by decide +kernel
theorem dX10_mixProperties_37 : decode cX10_mixProperties 37 = .ok (.goto (-31), 3) := by decide +kernel
theorem dX10_mixProperties_40 : decode cX10_mixProperties 40 = .ok (.lload 4, 2) := by decide +kernel
theorem dX10_mixProperties_42 : decode cX10_mixProperties 42 = .ok (.aload_n 0, 1) := by decide +kernel
theorem dX10_mixProperties_43 : decode cX10_mixProperties 43 = .ok (.aload_n 3, 1) := by decide +kernel
theorem dX10_mixProperties_44 : decode cX10_mixProperties 44 = .ok (.iconst 0, 1) := by decide +kernel
theorem dX10_mixProperties_45 : decode cX10_mixProperties 45 = .ok (.invokevirtual 216, 3) := by decide +kernel
theorem dX10_mixProperties_48 : decode cX10_mixProperties 48 = .ok (.invokestatic 263, 3) := by decide +kernel
theorem dX10_mixProperties_51 : decode cX10_mixProperties 51 = .ok (.lstore 4, 2) := by decide +kernel
theorem dX10_mixProperties_53 : decode cX10_mixProperties 53 = .ok (.lload 4, 2) := by decide +kernel
theorem dX10_mixProperties_55 : decode cX10_mixProperties 55 = .ok (.aload_n 0, 1) := by decide +kernel
theorem dX10_mixProperties_56 : decode cX10_mixProperties 56 = .ok (.aload_n 3, 1) := by decide +kernel
theorem dX10_mixProperties_57 : decode cX10_mixProperties 57 = .ok (.iconst 1, 1) := by decide +kernel
theorem dX10_mixProperties_58 : decode cX10_mixProperties 58 = .ok (.invokevirtual 216, 3) := by decide +kernel
theorem dX10_mixProperties_61 : decode cX10_mixProperties 61 = .ok (.invokestatic 263, 3) := by decide +kernel
theorem dX10_mixProperties_64 : decode cX10_mixProperties 64 = .ok (.lreturn, 1) := by decide +kernel
theorem dX10_mixStructure_0 : decode cX10_mixStructure 0 = .ok (.aload_n 0, 1) := by decide +kernel
theorem dX10_mixStructure_1 : decode cX10_mixStructure 1 = .ok (.getfield 58, 3) := by decide +kernel
theorem dX10_mixStructure_4 : decode cX10_mixStructure 4 = .ok (.aload_n 3, 1) := by decide +kernel
theorem dX10_mixStructure_5 : decode cX10_mixStructure 5 = .ok (.invokevirtual 220, 3) := by decide +kernel
theorem dX10_mixStructure_8 : decode cX10_mixStructure 8 = .ok (.istore 4, 2) := by decide +kernel
theorem dX10_mixStructure_10 : decode cX10_mixStructure 10 = .ok (.lload_n 1, 1) := by decide +kernel
theorem dX10_mixStructure_11 : decode cX10_mixStructure 11 = .ok (.iload 4, 2) := by decide +kernel
theorem dX10_mixStructure_13 : decode cX10_mixStructure 13 = .ok (.invokestatic 223, 3) := by decide +kernel
theorem dX10_mixStructure_16 : decode cX10_mixStructure 16 = .ok (.i2l, 1) := by decide +kernel
theorem dX10_mixStructure_17 : decode cX10_mixStructure 17 = .ok (.invokestatic 263, 3) := by decide +kernel
theorem dX10_mixStructure_20 : decode cX10_mixStructure 20 = .ok (.lstore 5, 2) := by decide +kernel
theorem dX10_mixStructure_22 : decode cX10_mixStructure 22 = .ok (.lload 5, 2) := by decide +kernel
theorem dX10_mixStructure_24 : decode cX10_mixStructure 24 = .ok (.iload 4, 2) := by decide +kernel
theorem dX10_mixStructure_26 : decode cX10_mixStructure 26 = .ok (.i2l, 1) := by decide +kernel
theorem dX10_mixStructure_27 : decode cX10_mixStructure 27 = .ok (.invokestatic 263, 3) := by decide +kernel
theorem dX10_mixStructure_30 : decode cX10_mixStructure 30 = .ok (.lstore 5, 2) := by decide +kernel
theorem dX10_mixStructure_32 : decode cX10_mixStructure 32 = .ok (.lload 5, 2) := by decide +kernel
theorem dX10_mixStructure_34 : decode cX10_mixStructure 34 = .ok (.aload_n 0, 1) := by decide +kernel
theorem dX10_mixStructure_35 : decode cX10_mixStructure 35 = .ok (.getfield 67, 3) := by decide +kernel
theorem dX10_mixStructure_38 : decode cX10_mixStructure 38 = .ok (.aload_n 3, 1) := by decide +kernel
theorem dX10_mixStructure_39 : decode cX10_mixStructure 39 = .ok (.invokevirtual 230, 3) := by decide +kernel
theorem dX10_mixStructure_42 : decode cX10_mixStructure 42 = .ok (.i2l, 1) := by decide +kernel
theorem dX10_mixStructure_43 : decode cX10_mixStructure 43 = .ok (.invokestatic 263, 3) := by decide +kernel
theorem dX10_mixStructure_46 : decode cX10_mixStructure 46 = .ok (.lstore 5, 2) := by decide +kernel
theorem dX10_mixStructure_48 : decode cX10_mixStructure 48 = .ok (.aload_n 0, 1) := by decide +kernel
theorem dX10_mixStructure_49 : decode cX10_mixStructure 49 = .ok (.getfield 74, 3) := by decide +kernel
theorem dX10_mixStructure_52 : decode cX10_mixStructure 52 = .ok (.aload_n 3, 1) := by decide +kernel
theorem dX10_mixStructure_53 : decode cX10_mixStructure 53 = .ok (.invokevirtual 233, 3) := by decide +kernel
theorem dX10_mixStructure_56 : decode cX10_mixStructure 56 = .ok (.iconst 0, 1) := by decide +kernel
theorem dX10_mixStructure_57 : decode cX10_mixStructure 57 = .ok (.istore 7, 2) := by decide +kernel
theorem dX10_mixStructure_59 : decode cX10_mixStructure 59 = .ok (.iload 7, 2) := by decide +kernel
theorem dX10_mixStructure_61 : decode cX10_mixStructure 61 = .ok (.aload_n 0, 1) := by decide +kernel
theorem dX10_mixStructure_62 : decode cX10_mixStructure 62 = .ok (.getfield 14, 3) := by decide +kernel
theorem dX10_mixStructure_65 : decode cX10_mixStructure 65 = .ok (.getfield 93, 3) := by decide +kernel
theorem dX10_mixStructure_68 : decode cX10_mixStructure 68 = .ok (.if_icmp .gt 26, 3) := by decide +kernel
theorem dX10_mixStructure_71 : decode cX10_mixStructure 71 = .ok (.lload 5, 2) := by decide +kernel
theorem dX10_mixStructure_73 : decode cX10_mixStructure 73 = .ok (.aload_n 0, 1) := by decide +kernel
theorem dX10_mixStructure_74 : decode cX10_mixStructure 74 = .ok (.getfield 74, 3) := by decide +kernel
theorem dX10_mixStructure_77 : decode cX10_mixStructure 77 = .ok (.iload 7, 2) := by decide +kernel
theorem dX10_mixStructure_79 : decode cX10_mixStructure 79 = .ok (.invokevirtual 236, 3) := by decide +kernel
theorem dX10_mixStructure_82 : decode cX10_mixStructure 82 = .ok (.i2l, 1) := by decide +kernel
theorem dX10_mixStructure_83 : decode cX10_mixStructure 83 = .ok (.invokestatic 263, 3) := by decide +kernel
theorem dX10_mixStructure_86 : decode cX10_mixStructure 86 = .ok (.lstore 5, 2) := by decide +kernel
theorem dX10_mixStructure_88 : decode cX10_mixStructure 88 = .ok (.iinc 7 1, 3) := by decide +kernel
theorem dX10_mixStructure_91 : decode cX10_mixStructure 91 = .ok (.goto (-32), 3) := by decide +kernel
theorem dX10_mixStructure_94 : decode cX10_mixStructure 94 = .ok (.iconst 1, 1) := by decide +kernel
theorem dX10_mixStructure_95 : decode cX10_mixStructure 95 = .ok (.istore 7, 2) := by decide +kernel
theorem dX10_mixStructure_97 : decode cX10_mixStructure 97 = .ok (.iload 7, 2) := by decide +kernel
theorem dX10_mixStructure_99 : decode cX10_mixStructure 99 = .ok (.aload_n 0, 1) := by decide +kernel
theorem dX10_mixStructure_100 : decode cX10_mixStructure 100 = .ok (.getfield 14, 3) := by decide +kernel
theorem dX10_mixStructure_103 : decode cX10_mixStructure 103 = .ok (.getfield 93, 3) := by decide +kernel
theorem dX10_mixStructure_106 : decode cX10_mixStructure 106 = .ok (.if_icmp .gt 24, 3) := by decide +kernel
theorem dX10_mixStructure_109 : decode cX10_mixStructure 109 = .ok (.lload 5, 2) := by decide +kernel
theorem dX10_mixStructure_111 : decode cX10_mixStructure 111 = .ok (.aload_n 0, 1) := by decide +kernel
theorem dX10_mixStructure_112 : decode cX10_mixStructure 112 = .ok (.aload_n 3, 1) := by decide +kernel
theorem dX10_mixStructure_113 : decode cX10_mixStructure 113 = .ok (.iload 7, 2) := by decide +kernel
theorem dX10_mixStructure_115 : decode cX10_mixStructure 115 = .ok (.invokevirtual 208, 3) := by decide +kernel
theorem dX10_mixStructure_118 : decode cX10_mixStructure 118 = .ok (.i2l, 1) := by decide +kernel
theorem dX10_mixStructure_119 : decode cX10_mixStructure 119 = .ok (.invokestatic 263, 3) := by decide +kernel
theorem dX10_mixStructure_122 : decode cX10_mixStructure 122 = .ok (.lstore 5, 2) := by decide +kernel
theorem dX10_mixStructure_124 : decode cX10_mixStructure 124 = .ok (.iinc 7 1, 3) := by decide +kernel
theorem dX10_mixStructure_127 : decode cX10_mixStructure 127 = .ok (.goto (-30), 3) := by decide +kernel
theorem dX10_mixStructure_130 : decode cX10_mixStructure 130 = .ok (.lload 5, 2) := by decide +kernel
theorem dX10_mixStructure_132 : decode cX10_mixStructure 132 = .ok (.lreturn, 1) := by decide +kernel
