theorem dX0_binomial_0 : decode cX0_binomial 0 = .ok (.iload_n 1, 1) := by decide +kernel
theorem dX0_binomial_1 : decode cX0_binomial 1 = .ok (.ifCond .lt 8, 3) := by decide +kernel
theorem dX0_binomial_4 : decode cX0_binomial 4 = .ok (.iload_n 1, 1) := by decide +kernel
theorem dX0_binomial_5 : decode cX0_binomial 5 = .ok (.iload_n 0, 1) := by decide +kernel
theorem dX0_binomial_6 : decode cX0_binomial 6 = .ok (.if_icmp .le 5, 3) := by decide +kernel
theorem dX0_binomial_9 : decode cX0_binomial 9 = .ok (.lconst 0, 1) := by decide +kernel
theorem dX0_binomial_10 : decode cX0_binomial 10 = .ok (.lreturn, 1) := by decide +kernel
theorem dX0_binomial_11 : decode cX0_binomial 11 = .ok (.lconst 1, 1) := by decide +kernel
theorem dX0_binomial_12 : decode cX0_binomial 12 = .ok (.lstore_n 2, 1) := by decide +kernel
theorem dX0_binomial_13 : decode cX0_binomial 13 = .ok (.iconst 1, 1) := by decide +kernel
theorem dX0_binomial_14 : decode cX0_binomial 14 = .ok (.istore 4, 2) := by decide +kernel
theorem dX0_binomial_16 : decode cX0_binomial 16 = .ok (.iload 4, 2) := by decide +kernel
theorem dX0_binomial_18 : decode cX0_binomial 18 = .ok (.iload_n 1, 1) := by decide +kernel
theorem dX0_binomial_19 : decode cX0_binomial 19 = .ok (.if_icmp .gt 23, 3) := by decide +kernel
theorem dX0_binomial_22 : decode cX0_binomial 22 = .ok (.lload_n 2, 1) := by decide +kernel
theorem dX0_binomial_23 : decode cX0_binomial 23 = .ok (.iload_n 0, 1) := by decide +kernel
theorem dX0_binomial_24 : decode cX0_binomial 24 = .ok (.iload_n 1, 1) := by decide +kernel
theorem dX0_binomial_25 : decode cX0_binomial 25 = .ok (.isub, 1) := by decide +kernel
theorem dX0_binomial_26 : decode cX0_binomial 26 = .ok (.iload 4, 2) := by decide +kernel
theorem dX0_binomial_28 : decode cX0_binomial 28 = .ok (.iadd, 1) := by decide +kernel
theorem dX0_binomial_29 : decode cX0_binomial 29 = .ok (.i2l, 1) := by decide +kernel
theorem dX0_binomial_30 : decode cX0_binomial 30 = .ok (.lmul, 1) := by decide +kernel
theorem dX0_binomial_31 : decode cX0_binomial 31 = .ok (.iload 4, 2) := by decide +kernel
theorem dX0_binomial_33 : decode cX0_binomial 33 = .ok (.i2l, 1) := by decide +kernel
theorem dX0_binomial_34 : decode cX0_binomial 34 = .ok (.ldiv, 1) := by decide +kernel
theorem dX0_binomial_35 : decode cX0_binomial 35 = .ok (.lstore_n 2, 1) := by decide +kernel
theorem dX0_binomial_36 : decode cX0_binomial 36 = .ok (.iinc 4 1, 3) := by decide +kernel
theorem dX0_binomial_39 : decode cX0_binomial 39 = .ok (.goto (-23), 3) := by decide +kernel
theorem dX0_binomial_42 : decode cX0_binomial 42 = .ok (.lload_n 2, 1) := by decide +kernel
theorem dX0_binomial_43 : decode cX0_binomial 43 = .ok (.lreturn, 1) := by decide +kernel
theorem dX0_rankOf_0 : decode cX0_rankOf 0 = .ok (.lconst 0, 1) := by decide +kernel
theorem dX0_rankOf_1 : decode cX0_rankOf 1 = .ok (.lstore_n 1, 1) := by decide +kernel
theorem dX0_rankOf_2 : decode cX0_rankOf 2 = .ok (.iconst 0, 1) := by decide +kernel
theorem dX0_rankOf_3 : decode cX0_rankOf 3 = .ok (.istore_n 3, 1) := by decide +kernel
theorem dX0_rankOf_4 : decode cX0_rankOf 4 = .ok (.iconst 0, 1) := by decide +kernel
theorem dX0_rankOf_5 : decode cX0_rankOf 5 = .ok (.istore 4, 2) := by decide +kernel
theorem dX0_rankOf_7 : decode cX0_rankOf 7 = .ok (.iload 4, 2) := by decide +kernel
theorem dX0_rankOf_9 : decode cX0_rankOf 9 = .ok (.bipush 10, 2) := by decide +kernel
theorem dX0_rankOf_11 : decode cX0_rankOf 11 = .ok (.if_icmp .ge 30, 3) := by decide +kernel
theorem dX0_rankOf_14 : decode cX0_rankOf 14 = .ok (.iload_n 0, 1) := by decide +kernel
theorem dX0_rankOf_15 : decode cX0_rankOf 15 = .ok (.iload 4, 2) := by decide +kernel
theorem dX0_rankOf_17 : decode cX0_rankOf 17 = .ok (.invokestatic 9, 3) := by decide +kernel
theorem dX0_rankOf_20 : decode cX0_rankOf 20 = .ok (.ifCond .eq 15, 3) := by decide +kernel
theorem dX0_rankOf_23 : decode cX0_rankOf 23 = .ok (.iinc 3 1, 3) := by decide +kernel
theorem dX0_rankOf_26 : decode cX0_rankOf 26 = .ok (.lload_n 1, 1) := by decide +kernel
theorem dX0_rankOf_27 : decode cX0_rankOf 27 = .ok (.iload 4, 2) := by decide +kernel
theorem dX0_rankOf_29 : decode cX0_rankOf 29 = .ok (.iload_n 3, 1) := by decide +kernel
theorem dX0_rankOf_30 : decode cX0_rankOf 30 = .ok (.invokestatic 13, 3) := by decide +kernel
theorem dX0_rankOf_33 : decode cX0_rankOf 33 = .ok (.ladd, 1) := by decide +kernel
theorem dX0_rankOf_34 : decode cX0_rankOf 34 = .ok (.lstore_n 1, 1) := by decide +kernel
theorem dX0_rankOf_35 : decode cX0_rankOf 35 = .ok (.iinc 4 1, 3) := by decide +kernel
theorem dX0_rankOf_38 : decode cX0_rankOf 38 = .ok (.goto (-31), 3) := by decide +kernel
theorem dX0_rankOf_41 : decode cX0_rankOf 41 = .ok (.lload_n 1, 1) := by decide +kernel
theorem dX0_rankOf_42 : decode cX0_rankOf 42 = .ok (.l2i, 1) := by decide +kernel
theorem dX0_rankOf_43 : decode cX0_rankOf 43 = .ok (.ireturn, 1) := by decide +kernel
theorem dX0_setOf_0 : decode cX0_setOf 0 = .ok (.iload_n 1, 1) := by decide +kernel
theorem dX0_setOf_1 : decode cX0_setOf 1 = .ok (.i2l, 1) := by decide +kernel
theorem dX0_setOf_2 : decode cX0_setOf 2 = .ok (.bipush 10, 2) := by decide +kernel
theorem dX0_setOf_4 : decode cX0_setOf 4 = .ok (.iload_n 0, 1) := by decide +kernel
theorem dX0_setOf_5 : decode cX0_setOf 5 = .ok (.invokestatic 13, 3) := by decide +kernel
theorem dX0_setOf_8 : decode cX0_setOf 8 = .ok (.lcmp, 1) := by decide +kernel
theorem dX0_setOf_9 : decode cX0_setOf 9 = .ok (.ifCond .lt 5, 3) := by decide +kernel
theorem dX0_setOf_12 : decode cX0_setOf 12 = .ok (.iconst (-1), 1) := by decide +kernel
theorem dX0_setOf_13 : decode cX0_setOf 13 = .ok (.ireturn, 1) := by decide +kernel
theorem dX0_setOf_14 : decode cX0_setOf 14 = .ok (.iconst 0, 1) := by decide +kernel
theorem dX0_setOf_15 : decode cX0_setOf 15 = .ok (.istore_n 2, 1) := by decide +kernel
theorem dX0_setOf_16 : decode cX0_setOf 16 = .ok (.iload_n 0, 1) := by decide +kernel
theorem dX0_setOf_17 : decode cX0_setOf 17 = .ok (.istore_n 3, 1) := by decide +kernel
theorem dX0_setOf_18 : decode cX0_setOf 18 = .ok (.iload_n 1, 1) := by decide +kernel
theorem dX0_setOf_19 : decode cX0_setOf 19 = .ok (.i2l, 1) := by decide +kernel
theorem dX0_setOf_20 : decode cX0_setOf 20 = .ok (.lstore 4, 2) := by decide +kernel
theorem dX0_setOf_22 : decode cX0_setOf 22 = .ok (.bipush 9, 2) := by decide +kernel
theorem dX0_setOf_24 : decode cX0_setOf 24 = .ok (.istore 6, 2) := by decide +kernel
theorem dX0_setOf_26 : decode cX0_setOf 26 = .ok (.iload 6, 2) := by decide +kernel
theorem dX0_setOf_28 : decode cX0_setOf 28 = .ok (.ifCond .lt 46, 3) := by decide +kernel
theorem dX0_setOf_31 : decode cX0_setOf 31 = .ok (.iload_n 3, 1) := by decide +kernel
theorem dX0_setOf_32 : decode cX0_setOf 32 = .ok (.ifCond .le 42, 3) := by decide +kernel
theorem dX0_setOf_35 : decode cX0_setOf 35 = .ok (.iload 6, 2) := by decide +kernel
theorem dX0_setOf_37 : decode cX0_setOf 37 = .ok (.iload_n 3, 1) := by decide +kernel
theorem dX0_setOf_38 : decode cX0_setOf 38 = .ok (.invokestatic 13, 3) := by decide +kernel
theorem dX0_setOf_41 : decode cX0_setOf 41 = .ok (.lstore 7, 2) := by decide +kernel
theorem dX0_setOf_43 : decode cX0_setOf 43 = .ok (.lload 7, 2) := by decide +kernel
theorem dX0_setOf_45 : decode cX0_setOf 45 = .ok (.lload 4, 2) := by decide +kernel
theorem dX0_setOf_47 : decode cX0_setOf 47 = .ok (.lcmp, 1) := by decide +kernel
theorem dX0_setOf_48 : decode cX0_setOf 48 = .ok (.ifCond .gt 20, 3) := by decide +kernel
theorem dX0_setOf_51 : decode cX0_setOf 51 = .ok (.lload 4, 2) := by decide +kernel
theorem dX0_setOf_53 : decode cX0_setOf 53 = .ok (.lload 7, 2) := by decide +kernel
theorem dX0_setOf_55 : decode cX0_setOf 55 = .ok (.lsub, 1) := by decide +kernel
theorem dX0_setOf_56 : decode cX0_setOf 56 = .ok (.lstore 4, 2) := by decide +kernel
theorem dX0_setOf_58 : decode cX0_setOf 58 = .ok (.iload_n 2, 1) := by decide +kernel
theorem dX0_setOf_59 : decode cX0_setOf 59 = .ok (.iconst 1, 1) := by decide +kernel
theorem dX0_setOf_60 : decode cX0_setOf 60 = .ok (.iload 6, 2) := by decide +kernel
theorem dX0_setOf_62 : decode cX0_setOf 62 = .ok (.ishl, 1) := by decide +kernel
theorem dX0_setOf_63 : decode cX0_setOf 63 = .ok (.ior, 1) := by decide +kernel
theorem dX0_setOf_64 : decode cX0_setOf 64 = .ok (.istore_n 2, 1) := by decide +kernel
theorem dX0_setOf_65 : decode cX0_setOf 65 = .ok (.iinc 3 (-1), 3) := by decide +kernel
theorem dX0_setOf_68 : decode cX0_setOf 68 = .ok (.iinc 6 (-1), 3) := by decide +kernel
theorem dX0_setOf_71 : decode cX0_setOf 71 = .ok (.goto (-45), 3) := by decide +kernel
theorem dX0_setOf_74 : decode cX0_setOf 74 = .ok (.iload_n 2, 1) := by decide +kernel
theorem dX0_setOf_75 : decode cX0_setOf 75 = .ok (.ireturn, 1) := by decide +kernel
theorem dX0_cascadeNumber_0 : decode cX0_cascadeNumber 0 = .ok (.iload_n 0, 1) := by decide +kernel
theorem dX0_cascadeNumber_1 : decode cX0_cascadeNumber 1 = .ok (.istore_n 3, 1) := by decide +kernel
theorem dX0_cascadeNumber_2 : decode cX0_cascadeNumber 2 = .ok (.iload_n 1, 1) := by decide +kernel
theorem dX0_cascadeNumber_3 : decode cX0_cascadeNumber 3 = .ok (.istore 4, 2) := by decide +kernel
theorem dX0_cascadeNumber_5 : decode cX0_cascadeNumber 5 = .ok (.iload 4, 2) := by decide +kernel
theorem dX0_cascadeNumber_7 : decode cX0_cascadeNumber 7 = .ok (.iconst 1, 1) := by decide +kernel
theorem dX0_cascadeNumber_8 : decode cX0_cascadeNumber 8 = .ok (.if_icmp .lt 43, 3) := by decide +kernel
theorem dX0_cascadeNumber_11 : decode cX0_cascadeNumber 11 = .ok (.iload_n 3, 1) := by decide +kernel
theorem dX0_cascadeNumber_12 : decode cX0_cascadeNumber 12 = .ok (.ifCond .le 39, 3) := by decide +kernel
theorem dX0_cascadeNumber_15 : decode cX0_cascadeNumber 15 = .ok (.iload_n 3, 1) := by decide +kernel
theorem dX0_cascadeNumber_16 : decode cX0_cascadeNumber 16 = .ok (.iload 4, 2) := by decide +kernel
theorem dX0_cascadeNumber_18 : decode cX0_cascadeNumber 18 = .ok (.invokestatic 19, 3) := by decide +kernel
theorem dX0_cascadeNumber_21 : decode cX0_cascadeNumber 21 = .ok (.istore 5, 2) := by decide +kernel
theorem dX0_cascadeNumber_23 : decode cX0_cascadeNumber 23 = .ok (.iload_n 1, 1) := by decide +kernel
theorem dX0_cascadeNumber_24 : decode cX0_cascadeNumber 24 = .ok (.iload 4, 2) := by decide +kernel
theorem dX0_cascadeNumber_26 : decode cX0_cascadeNumber 26 = .ok (.isub, 1) := by decide +kernel
theorem dX0_cascadeNumber_27 : decode cX0_cascadeNumber 27 = .ok (.iload_n 2, 1) := by decide +kernel
theorem dX0_cascadeNumber_28 : decode cX0_cascadeNumber 28 = .ok (.if_icmp .ne 6, 3) := by decide +kernel
theorem dX0_cascadeNumber_31 : decode cX0_cascadeNumber 31 = .ok (.iload 5, 2) := by decide +kernel
theorem dX0_cascadeNumber_33 : decode cX0_cascadeNumber 33 = .ok (.ireturn, 1) := by decide +kernel
theorem dX0_cascadeNumber_34 : decode cX0_cascadeNumber 34 = .ok (.iload_n 3, 1) := by decide +kernel
theorem dX0_cascadeNumber_35 : decode cX0_cascadeNumber 35 = .ok (.iload 5, 2) := by decide +kernel
theorem dX0_cascadeNumber_37 : decode cX0_cascadeNumber 37 = .ok (.iload 4, 2) := by decide +kernel
theorem dX0_cascadeNumber_39 : decode cX0_cascadeNumber 39 = .ok (.invokestatic 13, 3) := by decide +kernel
theorem dX0_cascadeNumber_42 : decode cX0_cascadeNumber 42 = .ok (.l2i, 1) := by decide +kernel
theorem dX0_cascadeNumber_43 : decode cX0_cascadeNumber 43 = .ok (.isub, 1) := by decide +kernel
theorem dX0_cascadeNumber_44 : decode cX0_cascadeNumber 44 = .ok (.istore_n 3, 1) := by decide +kernel
theorem dX0_cascadeNumber_45 : decode cX0_cascadeNumber 45 = .ok (.iinc 4 (-1), 3) := by decide +kernel
theorem dX0_cascadeNumber_48 : decode cX0_cascadeNumber 48 = .ok (.goto (-43), 3) := by decide +kernel
theorem dX0_cascadeNumber_51 : decode cX0_cascadeNumber 51 = .ok (.iconst (-1), 1) := by decide +kernel
theorem dX0_cascadeNumber_52 : decode cX0_cascadeNumber 52 = .ok (.ireturn, 1) := by decide +kernel
theorem dX0_leastShadow_0 : decode cX0_leastShadow 0 = .ok (.iload_n 0, 1) := by decide +kernel
theorem dX0_leastShadow_1 : decode cX0_leastShadow 1 = .ok (.istore_n 2, 1) := by decide +kernel
theorem dX0_leastShadow_2 : decode cX0_leastShadow 2 = .ok (.lconst 0, 1) := by decide +kernel
theorem dX0_leastShadow_3 : decode cX0_leastShadow 3 = .ok (.lstore_n 3, 1) := by decide +kernel
theorem dX0_leastShadow_4 : decode cX0_leastShadow 4 = .ok (.iload_n 1, 1) := by decide +kernel
theorem dX0_leastShadow_5 : decode cX0_leastShadow 5 = .ok (.istore 5, 2) := by decide +kernel
theorem dX0_leastShadow_7 : decode cX0_leastShadow 7 = .ok (.iload 5, 2) := by decide +kernel
theorem dX0_leastShadow_9 : decode cX0_leastShadow 9 = .ok (.iconst 1, 1) := by decide +kernel
theorem dX0_leastShadow_10 : decode cX0_leastShadow 10 = .ok (.if_icmp .lt 44, 3) := by decide +kernel
theorem dX0_leastShadow_13 : decode cX0_leastShadow 13 = .ok (.iload_n 2, 1) := by decide +kernel
theorem dX0_leastShadow_14 : decode cX0_leastShadow 14 = .ok (.ifCond .le 40, 3) := by decide +kernel
theorem dX0_leastShadow_17 : decode cX0_leastShadow 17 = .ok (.iload_n 2, 1) := by decide +kernel
theorem dX0_leastShadow_18 : decode cX0_leastShadow 18 = .ok (.iload 5, 2) := by decide +kernel
theorem dX0_leastShadow_20 : decode cX0_leastShadow 20 = .ok (.invokestatic 19, 3) := by decide +kernel
theorem dX0_leastShadow_23 : decode cX0_leastShadow 23 = .ok (.istore 6, 2) := by decide +kernel
theorem dX0_leastShadow_25 : decode cX0_leastShadow 25 = .ok (.lload_n 3, 1) := by decide +kernel
theorem dX0_leastShadow_26 : decode cX0_leastShadow 26 = .ok (.iload 6, 2) := by decide +kernel
theorem dX0_leastShadow_28 : decode cX0_leastShadow 28 = .ok (.iload 5, 2) := by decide +kernel
theorem dX0_leastShadow_30 : decode cX0_leastShadow 30 = .ok (.iconst 1, 1) := by decide +kernel
theorem dX0_leastShadow_31 : decode cX0_leastShadow 31 = .ok (.isub, 1) := by decide +kernel
theorem dX0_leastShadow_32 : decode cX0_leastShadow 32 = .ok (.invokestatic 13, 3) := by decide +kernel
theorem dX0_leastShadow_35 : decode cX0_leastShadow 35 = .ok (.ladd, 1) := by decide +kernel
theorem dX0_leastShadow_36 : decode cX0_leastShadow 36 = .ok (.lstore_n 3, 1) := by decide +kernel
theorem dX0_leastShadow_37 : decode cX0_leastShadow 37 = .ok (.iload_n 2, 1) := by decide +kernel
theorem dX0_leastShadow_38 : decode cX0_leastShadow 38 = .ok (.iload 6, 2) := by decide +kernel
theorem dX0_leastShadow_40 : decode cX0_leastShadow 40 = .ok (.iload 5, 2) := by decide +kernel
theorem dX0_leastShadow_42 : decode cX0_leastShadow 42 = .ok (.invokestatic 13, 3) := by decide +kernel
theorem dX0_leastShadow_45 : decode cX0_leastShadow 45 = .ok (.l2i, 1) := by decide +kernel
theorem dX0_leastShadow_46 : decode cX0_leastShadow 46 = .ok (.isub, 1) := by decide +kernel
theorem dX0_leastShadow_47 : decode cX0_leastShadow 47 = .ok (.istore_n 2, 1) := by decide +kernel
theorem dX0_leastShadow_48 : decode cX0_leastShadow 48 = .ok (.iinc 5 (-1), 3) := by decide +kernel
theorem dX0_leastShadow_51 : decode cX0_leastShadow 51 = .ok (.goto (-44), 3) := by decide +kernel
theorem dX0_leastShadow_54 : decode cX0_leastShadow 54 = .ok (.lload_n 3, 1) := by decide +kernel
theorem dX0_leastShadow_55 : decode cX0_leastShadow 55 = .ok (.l2i, 1) := by decide +kernel
theorem dX0_leastShadow_56 : decode cX0_leastShadow 56 = .ok (.ireturn, 1) := by decide +kernel
theorem dX0_greatestDivisor_0 : decode cX0_greatestDivisor 0 = .ok (.lload_n 0, 1) := by decide +kernel
theorem dX0_greatestDivisor_1 : decode cX0_greatestDivisor 1 = .ok (.lstore 4, 2) := by decide +kernel
theorem dX0_greatestDivisor_3 : decode cX0_greatestDivisor 3 = .ok (.lload_n 2, 1) := by decide +kernel
theorem dX0_greatestDivisor_4 : decode cX0_greatestDivisor 4 = .ok (.lstore 6, 2) := by decide +kernel
theorem dX0_greatestDivisor_6 : decode cX0_greatestDivisor 6 = .ok (.iconst 0, 1) := by decide +kernel
theorem dX0_greatestDivisor_7 : decode cX0_greatestDivisor 7 = .ok (.istore 8, 2) := by decide +kernel
theorem dX0_greatestDivisor_9 : decode cX0_greatestDivisor 9 = .ok (.iload 8, 2) := by decide +kernel
theorem dX0_greatestDivisor_11 : decode cX0_greatestDivisor 11 = .ok (.sipush 1000, 3) := by decide +kernel
theorem dX0_greatestDivisor_14 : decode cX0_greatestDivisor 14 = .ok (.if_icmp .ge 31, 3) := by decide +kernel
theorem dX0_greatestDivisor_17 : decode cX0_greatestDivisor 17 = .ok (.lload 6, 2) := by decide +kernel
theorem dX0_greatestDivisor_19 : decode cX0_greatestDivisor 19 = .ok (.lconst 0, 1) := by decide +kernel
theorem dX0_greatestDivisor_20 : decode cX0_greatestDivisor 20 = .ok (.lcmp, 1) := by decide +kernel
theorem dX0_greatestDivisor_21 : decode cX0_greatestDivisor 21 = .ok (.ifCond .eq 24, 3) := by decide +kernel
theorem dX0_greatestDivisor_24 : decode cX0_greatestDivisor 24 = .ok (.lload 4, 2) := by decide +kernel
theorem dX0_greatestDivisor_26 : decode cX0_greatestDivisor 26 = .ok (.lload 6, 2) := by decide +kernel
theorem dX0_greatestDivisor_28 : decode cX0_greatestDivisor 28 = .ok (.lrem, 1) := by decide +kernel
theorem dX0_greatestDivisor_29 : decode cX0_greatestDivisor 29 = .ok (.lstore 9, 2) := by decide +kernel
theorem dX0_greatestDivisor_31 : decode cX0_greatestDivisor 31 = .ok (.lload 6, 2) := by decide +kernel
theorem dX0_greatestDivisor_33 : decode cX0_greatestDivisor 33 = .ok (.lstore 4, 2) := by decide +kernel
theorem dX0_greatestDivisor_35 : decode cX0_greatestDivisor 35 = .ok (.lload 9, 2) := by decide +kernel
theorem dX0_greatestDivisor_37 : decode cX0_greatestDivisor 37 = .ok (.lstore 6, 2) := by decide +kernel
theorem dX0_greatestDivisor_39 : decode cX0_greatestDivisor 39 = .ok (.iinc 8 1, 3) := by decide +kernel
theorem dX0_greatestDivisor_42 : decode cX0_greatestDivisor 42 = .ok (.goto (-33), 3) := by decide +kernel
theorem dX0_greatestDivisor_45 : decode cX0_greatestDivisor 45 = .ok (.lload 4, 2) := by decide +kernel
theorem dX0_greatestDivisor_47 : decode cX0_greatestDivisor 47 = .ok (.lreturn, 1) := by decide +kernel
theorem dX0_greatestTop_0 : decode cX0_greatestTop 0 = .ok (.iload_n 1, 1) := by decide +kernel
theorem dX0_greatestTop_1 : decode cX0_greatestTop 1 = .ok (.iconst 1, 1) := by decide +kernel
theorem dX0_greatestTop_2 : decode cX0_greatestTop 2 = .ok (.if_icmp .ne 5, 3) := by decide +kernel
theorem dX0_greatestTop_5 : decode cX0_greatestTop 5 = .ok (.iload_n 0, 1) := by decide +kernel
theorem dX0_greatestTop_6 : decode cX0_greatestTop 6 = .ok (.ireturn, 1) := by decide +kernel
theorem dX0_greatestTop_7 : decode cX0_greatestTop 7 = .ok (.iload_n 1, 1) := by decide +kernel
theorem dX0_greatestTop_8 : decode cX0_greatestTop 8 = .ok (.istore_n 2, 1) := by decide +kernel
theorem dX0_greatestTop_9 : decode cX0_greatestTop 9 = .ok (.iload_n 2, 1) := by decide +kernel
theorem dX0_greatestTop_10 : decode cX0_greatestTop 10 = .ok (.sipush 1500, 3) := by decide +kernel
theorem dX0_greatestTop_13 : decode cX0_greatestTop 13 = .ok (.if_icmp .ge 22, 3) := by decide +kernel
theorem dX0_greatestTop_16 : decode cX0_greatestTop 16 = .ok (.iload_n 2, 1) := by decide +kernel
theorem dX0_greatestTop_17 : decode cX0_greatestTop 17 = .ok (.iconst 1, 1) := by decide +kernel
theorem dX0_greatestTop_18 : decode cX0_greatestTop 18 = .ok (.iadd, 1) := by decide +kernel
theorem dX0_greatestTop_19 : decode cX0_greatestTop 19 = .ok (.iload_n 1, 1) := by decide +kernel
theorem dX0_greatestTop_20 : decode cX0_greatestTop 20 = .ok (.invokestatic 13, 3) := by decide +kernel
theorem dX0_greatestTop_23 : decode cX0_greatestTop 23 = .ok (.iload_n 0, 1) := by decide +kernel
theorem dX0_greatestTop_24 : decode cX0_greatestTop 24 = .ok (.i2l, 1) := by decide +kernel
theorem dX0_greatestTop_25 : decode cX0_greatestTop 25 = .ok (.lcmp, 1) := by decide +kernel
theorem dX0_greatestTop_26 : decode cX0_greatestTop 26 = .ok (.ifCond .gt 9, 3) := by decide +kernel
theorem dX0_greatestTop_29 : decode cX0_greatestTop 29 = .ok (.iinc 2 1, 3) := by decide +kernel
theorem dX0_greatestTop_32 : decode cX0_greatestTop 32 = .ok (.goto (-23), 3) := by decide +kernel
theorem dX0_greatestTop_35 : decode cX0_greatestTop 35 = .ok (.iload_n 2, 1) := by decide +kernel
theorem dX0_greatestTop_36 : decode cX0_greatestTop 36 = .ok (.ireturn, 1) := by decide +kernel
theorem dX1_init_0 : decode cX1_init 0 = .ok (.aload_n 0, 1) := by decide +kernel
theorem dX1_init_1 : decode cX1_init 1 = .ok (.invokespecial 1, 3) := by decide +kernel
theorem dX1_init_4 : decode cX1_init 4 = .ok (.aload_n 0, 1) := by decide +kernel
theorem dX1_init_5 : decode cX1_init 5 = .ok (.aload_n 1, 1) := by decide +kernel
theorem dX1_init_6 : decode cX1_init 6 = .ok (.putfield 7, 3) := by decide +kernel
theorem dX1_init_9 : decode cX1_init 9 = .ok (.aload_n 0, 1) := by decide +kernel
theorem dX1_init_10 : decode cX1_init 10 = .ok (.new 13, 3) := by decide +kernel
theorem dX1_init_13 : decode cX1_init 13 = .ok (.dup, 1) := by decide +kernel
theorem dX1_init_14 : decode cX1_init 14 = .ok (.aload_n 1, 1) := by decide +kernel
theorem dX1_init_15 : decode cX1_init 15 = .ok (.invokespecial 15, 3) := by decide +kernel
theorem dX1_init_18 : decode cX1_init 18 = .ok (.putfield 18, 3) := by decide +kernel
theorem dX1_init_21 : decode cX1_init 21 = .ok (.aload_n 0, 1) := by decide +kernel
theorem dX1_init_22 : decode cX1_init 22 = .ok (.new 13, 3) := by decide +kernel
theorem dX1_init_25 : decode cX1_init 25 = .ok (.dup, 1) := by decide +kernel
theorem dX1_init_26 : decode cX1_init 26 = .ok (.aload_n 1, 1) := by decide +kernel
theorem dX1_init_27 : decode cX1_init 27 = .ok (.invokespecial 15, 3) := by decide +kernel
theorem dX1_init_30 : decode cX1_init 30 = .ok (.putfield 22, 3) := by decide +kernel
theorem dX1_init_33 : decode cX1_init 33 = .ok (.aload_n 0, 1) := by decide +kernel
theorem dX1_init_34 : decode cX1_init 34 = .ok (.new 13, 3) := by decide +kernel
theorem dX1_init_37 : decode cX1_init 37 = .ok (.dup, 1) := by decide +kernel
theorem dX1_init_38 : decode cX1_init 38 = .ok (.aload_n 1, 1) := by decide +kernel
theorem dX1_init_39 : decode cX1_init 39 = .ok (.invokespecial 15, 3) := by decide +kernel
theorem dX1_init_42 : decode cX1_init 42 = .ok (.putfield 25, 3) := by decide +kernel
theorem dX1_init_45 : decode cX1_init 45 = .ok (.return_, 1) := by decide +kernel
theorem dX1_replace_0 : decode cX1_replace 0 = .ok (.aload_n 0, 1) := by decide +kernel
theorem dX1_replace_1 : decode cX1_replace 1 = .ok (.aload_n 0, 1) := by decide +kernel
theorem dX1_replace_2 : decode cX1_replace 2 = .ok (.getfield 22, 3) := by decide +kernel
theorem dX1_replace_5 : decode cX1_replace 5 = .ok (.aload_n 1, 1) := by decide +kernel
theorem dX1_replace_6 : decode cX1_replace 6 = .ok (.iload_n 2, 1) := by decide +kernel
theorem dX1_replace_7 : decode cX1_replace 7 = .ok (.iload_n 3, 1) := by decide +kernel
theorem dX1_replace_8 : decode cX1_replace 8 = .ok (.invokevirtual 28, 3) := by decide +kernel
theorem dX1_replace_11 : decode cX1_replace 11 = .ok (.aload_n 0, 1) := by decide +kernel
theorem dX1_replace_12 : decode cX1_replace 12 = .ok (.getfield 22, 3) := by decide +kernel
theorem dX1_replace_15 : decode cX1_replace 15 = .ok (.aload_n 1, 1) := by decide +kernel
theorem dX1_replace_16 : decode cX1_replace 16 = .ok (.invokevirtual 32, 3) := by decide +kernel
theorem dX1_replace_19 : decode cX1_replace 19 = .ok (.aload_n 0, 1) := by decide +kernel
theorem dX1_replace_20 : decode cX1_replace 20 = .ok (.aload_n 0, 1) := by decide +kernel
theorem dX1_replace_21 : decode cX1_replace 21 = .ok (.getfield 25, 3) := by decide +kernel
theorem dX1_replace_24 : decode cX1_replace 24 = .ok (.aload_n 0, 1) := by decide +kernel
theorem dX1_replace_25 : decode cX1_replace 25 = .ok (.getfield 22, 3) := by decide +kernel
theorem dX1_replace_28 : decode cX1_replace 28 = .ok (.iload_n 3, 1) := by decide +kernel
theorem dX1_replace_29 : decode cX1_replace 29 = .ok (.iload_n 2, 1) := by decide +kernel
theorem dX1_replace_30 : decode cX1_replace 30 = .ok (.invokevirtual 28, 3) := by decide +kernel
theorem dX1_replace_33 : decode cX1_replace 33 = .ok (.aload_n 1, 1) := by decide +kernel
theorem dX1_replace_34 : decode cX1_replace 34 = .ok (.aload_n 0, 1) := by decide +kernel
theorem dX1_replace_35 : decode cX1_replace 35 = .ok (.getfield 25, 3) := by decide +kernel
theorem dX1_replace_38 : decode cX1_replace 38 = .ok (.invokevirtual 32, 3) := by decide +kernel
theorem dX1_replace_41 : decode cX1_replace 41 = .ok (.aload_n 1, 1) := by decide +kernel
theorem dX1_replace_42 : decode cX1_replace 42 = .ok (.aload_n 0, 1) := by decide +kernel
theorem dX1_replace_43 : decode cX1_replace 43 = .ok (.getfield 22, 3) := by decide +kernel
theorem dX1_replace_46 : decode cX1_replace 46 = .ok (.invokevirtual 36, 3) := by decide +kernel
theorem dX1_replace_49 : decode cX1_replace 49 = .ok (.aload_n 0, 1) := by decide +kernel
theorem dX1_replace_50 : decode cX1_replace 50 = .ok (.getfield 22, 3) := by decide +kernel
theorem dX1_replace_53 : decode cX1_replace 53 = .ok (.invokevirtual 39, 3) := by decide +kernel
theorem dX1_replace_56 : decode cX1_replace 56 = .ok (.ireturn, 1) := by decide +kernel
theorem dX1_replaceAll_0 : decode cX1_replaceAll 0 = .ok (.iconst 0, 1) := by decide +kernel
theorem dX1_replaceAll_1 : decode cX1_replaceAll 1 = .ok (.istore_n 2, 1) := by decide +kernel
theorem dX1_replaceAll_2 : decode cX1_replaceAll 2 = .ok (.iconst 0, 1) := by decide +kernel
theorem dX1_replaceAll_3 : decode cX1_replaceAll 3 = .ok (.istore_n 3, 1) := by decide +kernel
theorem dX1_replaceAll_4 : decode cX1_replaceAll 4 = .ok (.iload_n 3, 1) := by decide +kernel
theorem dX1_replaceAll_5 : decode cX1_replaceAll 5 = .ok (.ldc 43, 2) := by decide +kernel
theorem dX1_replaceAll_7 : decode cX1_replaceAll 7 = .ok (.if_icmp .ge 29, 3) := by decide +kernel
theorem dX1_replaceAll_10 : decode cX1_replaceAll 10 = .ok (.aload_n 0, 1) := by decide +kernel
theorem dX1_replaceAll_11 : decode cX1_replaceAll 11 = .ok (.aload_n 1, 1) := by decide +kernel
theorem dX1_replaceAll_12 : decode cX1_replaceAll 12 = .ok (.invokevirtual 44, 3) := by decide +kernel
theorem dX1_replaceAll_15 : decode cX1_replaceAll 15 = .ok (.istore 4, 2) := by decide +kernel
theorem dX1_replaceAll_17 : decode cX1_replaceAll 17 = .ok (.iload_n 2, 1) := by decide +kernel
theorem dX1_replaceAll_18 : decode cX1_replaceAll 18 = .ok (.iload 4, 2) := by decide +kernel
theorem dX1_replaceAll_20 : decode cX1_replaceAll 20 = .ok (.iadd, 1) := by decide +kernel
theorem dX1_replaceAll_21 : decode cX1_replaceAll 21 = .ok (.istore_n 2, 1) := by decide +kernel
theorem dX1_replaceAll_22 : decode cX1_replaceAll 22 = .ok (.iload 4, 2) := by decide +kernel
theorem dX1_replaceAll_24 : decode cX1_replaceAll 24 = .ok (.ifCond .ne 6, 3) := by decide +kernel
theorem dX1_replaceAll_27 : decode cX1_replaceAll 27 = .ok (.goto 9, 3) := by decide +kernel
theorem dX1_replaceAll_30 : decode cX1_replaceAll 30 = .ok (.iinc 3 1, 3) := by decide +kernel
theorem dX1_replaceAll_33 : decode cX1_replaceAll 33 = .ok (.goto (-29), 3) := by decide +kernel
theorem dX1_replaceAll_36 : decode cX1_replaceAll 36 = .ok (.iload_n 2, 1) := by decide +kernel
theorem dX1_replaceAll_37 : decode cX1_replaceAll 37 = .ok (.ireturn, 1) := by decide +kernel
theorem dX1_changesNothing_0 : decode cX1_changesNothing 0 = .ok (.iconst 0, 1) := by decide +kernel
theorem dX1_changesNothing_1 : decode cX1_changesNothing 1 = .ok (.istore_n 2, 1) := by decide +kernel
theorem dX1_changesNothing_2 : decode cX1_changesNothing 2 = .ok (.iload_n 2, 1) := by decide +kernel
theorem dX1_changesNothing_3 : decode cX1_changesNothing 3 = .ok (.aload_n 0, 1) := by decide +kernel
theorem dX1_changesNothing_4 : decode cX1_changesNothing 4 = .ok (.getfield 7, 3) := by decide +kernel
theorem dX1_changesNothing_7 : decode cX1_changesNothing 7 = .ok (.getfield 48, 3) := by decide +kernel
theorem dX1_changesNothing_10 : decode cX1_changesNothing 10 = .ok (.iconst 1, 1) := by decide +kernel
theorem dX1_changesNothing_11 : decode cX1_changesNothing 11 = .ok (.isub, 1) := by decide +kernel
theorem dX1_changesNothing_12 : decode cX1_changesNothing 12 = .ok (.if_icmp .ge 61, 3) := by decide +kernel
theorem dX1_changesNothing_15 : decode cX1_changesNothing 15 = .ok (.iload_n 2, 1) := by decide +kernel
theorem dX1_changesNothing_16 : decode cX1_changesNothing 16 = .ok (.iconst 1, 1) := by decide +kernel
theorem dX1_changesNothing_17 : decode cX1_changesNothing 17 = .ok (.iadd, 1) := by decide +kernel
theorem dX1_changesNothing_18 : decode cX1_changesNothing 18 = .ok (.istore_n 3, 1) := by decide +kernel
theorem dX1_changesNothing_19 : decode cX1_changesNothing 19 = .ok (.iload_n 3, 1) := by decide +kernel
theorem dX1_changesNothing_20 : decode cX1_changesNothing 20 = .ok (.aload_n 0, 1) := by decide +kernel
theorem dX1_changesNothing_21 : decode cX1_changesNothing 21 = .ok (.getfield 7, 3) := by decide +kernel
theorem dX1_changesNothing_24 : decode cX1_changesNothing 24 = .ok (.getfield 48, 3) := by decide +kernel
theorem dX1_changesNothing_27 : decode cX1_changesNothing 27 = .ok (.if_icmp .ge 40, 3) := by decide +kernel
theorem dX1_changesNothing_30 : decode cX1_changesNothing 30 = .ok (.aload_n 0, 1) := by decide +kernel
theorem dX1_changesNothing_31 : decode cX1_changesNothing 31 = .ok (.aload_n 0, 1) := by decide +kernel
theorem dX1_changesNothing_32 : decode cX1_changesNothing 32 = .ok (.getfield 22, 3) := by decide +kernel
theorem dX1_changesNothing_35 : decode cX1_changesNothing 35 = .ok (.aload_n 1, 1) := by decide +kernel
theorem dX1_changesNothing_36 : decode cX1_changesNothing 36 = .ok (.iload_n 3, 1) := by decide +kernel
theorem dX1_changesNothing_37 : decode cX1_changesNothing 37 = .ok (.iload_n 2, 1) := by decide +kernel
theorem dX1_changesNothing_38 : decode cX1_changesNothing 38 = .ok (.invokevirtual 28, 3) := by decide +kernel
theorem dX1_changesNothing_41 : decode cX1_changesNothing 41 = .ok (.aload_n 0, 1) := by decide +kernel
theorem dX1_changesNothing_42 : decode cX1_changesNothing 42 = .ok (.getfield 22, 3) := by decide +kernel
theorem dX1_changesNothing_45 : decode cX1_changesNothing 45 = .ok (.aload_n 1, 1) := by decide +kernel
theorem dX1_changesNothing_46 : decode cX1_changesNothing 46 = .ok (.invokevirtual 32, 3) := by decide +kernel
theorem dX1_changesNothing_49 : decode cX1_changesNothing 49 = .ok (.aload_n 0, 1) := by decide +kernel
theorem dX1_changesNothing_50 : decode cX1_changesNothing 50 = .ok (.getfield 22, 3) := by decide +kernel
theorem dX1_changesNothing_53 : decode cX1_changesNothing 53 = .ok (.invokevirtual 39, 3) := by decide +kernel
theorem dX1_changesNothing_56 : decode cX1_changesNothing 56 = .ok (.ifCond .le 5, 3) := by decide +kernel
theorem dX1_changesNothing_59 : decode cX1_changesNothing 59 = .ok (.iconst 0, 1) := by decide +kernel
theorem dX1_changesNothing_60 : decode cX1_changesNothing 60 = .ok (.ireturn, 1) := by decide +kernel
theorem dX1_changesNothing_61 : decode cX1_changesNothing 61 = .ok (.iinc 3 1, 3) := by decide +kernel
theorem dX1_changesNothing_64 : decode cX1_changesNothing 64 = .ok (.goto (-45), 3) := by decide +kernel
theorem dX1_changesNothing_67 : decode cX1_changesNothing 67 = .ok (.iinc 2 1, 3) := by decide +kernel
theorem dX1_changesNothing_70 : decode cX1_changesNothing 70 = .ok (.goto (-68), 3) := by decide +kernel
theorem dX1_changesNothing_73 : decode cX1_changesNothing 73 = .ok (.iconst 1, 1) := by decide +kernel
theorem dX1_changesNothing_74 : decode cX1_changesNothing 74 = .ok (.ireturn, 1) := by decide +kernel
theorem dX1_replaceOnce_0 : decode cX1_replaceOnce 0 = .ok (.iconst 0, 1) := by decide +kernel
theorem dX1_replaceOnce_1 : decode cX1_replaceOnce 1 = .ok (.istore_n 2, 1) := by decide +kernel
theorem dX1_replaceOnce_2 : decode cX1_replaceOnce 2 = .ok (.iconst 0, 1) := by decide +kernel
theorem dX1_replaceOnce_3 : decode cX1_replaceOnce 3 = .ok (.istore_n 3, 1) := by decide +kernel
theorem dX1_replaceOnce_4 : decode cX1_replaceOnce 4 = .ok (.iload_n 3, 1) := by decide +kernel
theorem dX1_replaceOnce_5 : decode cX1_replaceOnce 5 = .ok (.aload_n 0, 1) := by decide +kernel
theorem dX1_replaceOnce_6 : decode cX1_replaceOnce 6 = .ok (.getfield 7, 3) := by decide +kernel
theorem dX1_replaceOnce_9 : decode cX1_replaceOnce 9 = .ok (.getfield 48, 3) := by decide +kernel
theorem dX1_replaceOnce_12 : decode cX1_replaceOnce 12 = .ok (.iconst 1, 1) := by decide +kernel
theorem dX1_replaceOnce_13 : decode cX1_replaceOnce 13 = .ok (.isub, 1) := by decide +kernel
theorem dX1_replaceOnce_14 : decode cX1_replaceOnce 14 = .ok (.if_icmp .ge 43, 3) := by decide +kernel
theorem dX1_replaceOnce_17 : decode cX1_replaceOnce 17 = .ok (.iload_n 3, 1) := by decide +kernel
theorem dX1_replaceOnce_18 : decode cX1_replaceOnce 18 = .ok (.iconst 1, 1) := by decide +kernel
theorem dX1_replaceOnce_19 : decode cX1_replaceOnce 19 = .ok (.iadd, 1) := by decide +kernel
theorem dX1_replaceOnce_20 : decode cX1_replaceOnce 20 = .ok (.istore 4, 2) := by decide +kernel
theorem dX1_replaceOnce_22 : decode cX1_replaceOnce 22 = .ok (.iload 4, 2) := by decide +kernel
theorem dX1_replaceOnce_24 : decode cX1_replaceOnce 24 = .ok (.aload_n 0, 1) := by decide +kernel
theorem dX1_replaceOnce_25 : decode cX1_replaceOnce 25 = .ok (.getfield 7, 3) := by decide +kernel
theorem dX1_replaceOnce_28 : decode cX1_replaceOnce 28 = .ok (.getfield 48, 3) := by decide +kernel
theorem dX1_replaceOnce_31 : decode cX1_replaceOnce 31 = .ok (.if_icmp .ge 20, 3) := by decide +kernel
theorem dX1_replaceOnce_34 : decode cX1_replaceOnce 34 = .ok (.iload_n 2, 1) := by decide +kernel
theorem dX1_replaceOnce_35 : decode cX1_replaceOnce 35 = .ok (.aload_n 0, 1) := by decide +kernel
theorem dX1_replaceOnce_36 : decode cX1_replaceOnce 36 = .ok (.aload_n 1, 1) := by decide +kernel
theorem dX1_replaceOnce_37 : decode cX1_replaceOnce 37 = .ok (.iload 4, 2) := by decide +kernel
theorem dX1_replaceOnce_39 : decode cX1_replaceOnce 39 = .ok (.iload_n 3, 1) := by decide +kernel
theorem dX1_replaceOnce_40 : decode cX1_replaceOnce 40 = .ok (.invokevirtual 54, 3) := by decide +kernel
theorem dX1_replaceOnce_43 : decode cX1_replaceOnce 43 = .ok (.iadd, 1) := by decide +kernel
theorem dX1_replaceOnce_44 : decode cX1_replaceOnce 44 = .ok (.istore_n 2, 1) := by decide +kernel
theorem dX1_replaceOnce_45 : decode cX1_replaceOnce 45 = .ok (.iinc 4 1, 3) := by decide +kernel
theorem dX1_replaceOnce_48 : decode cX1_replaceOnce 48 = .ok (.goto (-26), 3) := by decide +kernel
theorem dX1_replaceOnce_51 : decode cX1_replaceOnce 51 = .ok (.iinc 3 1, 3) := by decide +kernel
theorem dX1_replaceOnce_54 : decode cX1_replaceOnce 54 = .ok (.goto (-50), 3) := by decide +kernel
theorem dX1_replaceOnce_57 : decode cX1_replaceOnce 57 = .ok (.iload_n 2, 1) := by decide +kernel
theorem dX1_replaceOnce_58 : decode cX1_replaceOnce 58 = .ok (.ireturn, 1) := by decide +kernel
theorem dX1_layExchanged_0 : decode cX1_layExchanged 0 = .ok (.aload_n 0, 1) := by decide +kernel
theorem dX1_layExchanged_1 : decode cX1_layExchanged 1 = .ok (.getfield 18, 3) := by decide +kernel
theorem dX1_layExchanged_4 : decode cX1_layExchanged 4 = .ok (.invokevirtual 58, 3) := by decide +kernel
theorem dX1_layExchanged_7 : decode cX1_layExchanged 7 = .ok (.aload_n 0, 1) := by decide +kernel
theorem dX1_layExchanged_8 : decode cX1_layExchanged 8 = .ok (.getfield 18, 3) := by decide +kernel
theorem dX1_layExchanged_11 : decode cX1_layExchanged 11 = .ok (.aload_n 2, 1) := by decide +kernel
theorem dX1_layExchanged_12 : decode cX1_layExchanged 12 = .ok (.iload_n 3, 1) := by decide +kernel
theorem dX1_layExchanged_13 : decode cX1_layExchanged 13 = .ok (.invokevirtual 61, 3) := by decide +kernel
theorem dX1_layExchanged_16 : decode cX1_layExchanged 16 = .ok (.aload_n 1, 1) := by decide +kernel
theorem dX1_layExchanged_17 : decode cX1_layExchanged 17 = .ok (.invokevirtual 58, 3) := by decide +kernel
theorem dX1_layExchanged_20 : decode cX1_layExchanged 20 = .ok (.aload_n 1, 1) := by decide +kernel
theorem dX1_layExchanged_21 : decode cX1_layExchanged 21 = .ok (.aload_n 0, 1) := by decide +kernel
theorem dX1_layExchanged_22 : decode cX1_layExchanged 22 = .ok (.getfield 18, 3) := by decide +kernel
theorem dX1_layExchanged_25 : decode cX1_layExchanged 25 = .ok (.iload 4, 2) := by decide +kernel
theorem dX1_layExchanged_27 : decode cX1_layExchanged 27 = .ok (.invokevirtual 65, 3) := by decide +kernel
theorem dX1_layExchanged_30 : decode cX1_layExchanged 30 = .ok (.return_, 1) := by decide +kernel
theorem dX2_init_0 : decode cX2_init 0 = .ok (.aload_n 0, 1) := by decide +kernel
theorem dX2_init_1 : decode cX2_init 1 = .ok (.invokespecial 3, 3) := by decide +kernel
theorem dX2_init_4 : decode cX2_init 4 = .ok (.aload_n 0, 1) := by decide +kernel
theorem dX2_init_5 : decode cX2_init 5 = .ok (.aload_n 1, 1) := by decide +kernel
theorem dX2_init_6 : decode cX2_init 6 = .ok (.putfield 9, 3) := by decide +kernel
theorem dX2_init_9 : decode cX2_init 9 = .ok (.aload_n 0, 1) := by decide +kernel
theorem dX2_init_10 : decode cX2_init 10 = .ok (.new 15, 3) := by decide +kernel
theorem dX2_init_13 : decode cX2_init 13 = .ok (.dup, 1) := by decide +kernel
theorem dX2_init_14 : decode cX2_init 14 = .ok (.aload_n 1, 1) := by decide +kernel
theorem dX2_init_15 : decode cX2_init 15 = .ok (.invokespecial 17, 3) := by decide +kernel
theorem dX2_init_18 : decode cX2_init 18 = .ok (.putfield 20, 3) := by decide +kernel
theorem dX2_init_21 : decode cX2_init 21 = .ok (.aload_n 0, 1) := by decide +kernel
theorem dX2_init_22 : decode cX2_init 22 = .ok (.new 15, 3) := by decide +kernel
theorem dX2_init_25 : decode cX2_init 25 = .ok (.dup, 1) := by decide +kernel
theorem dX2_init_26 : decode cX2_init 26 = .ok (.aload_n 1, 1) := by decide +kernel
theorem dX2_init_27 : decode cX2_init 27 = .ok (.invokespecial 17, 3) := by decide +kernel
theorem dX2_init_30 : decode cX2_init 30 = .ok (.putfield 24, 3) := by decide +kernel
theorem dX2_init_33 : decode cX2_init 33 = .ok (.aload_n 0, 1) := by decide +kernel
theorem dX2_init_34 : decode cX2_init 34 = .ok (.new 15, 3) := by decide +kernel
theorem dX2_init_37 : decode cX2_init 37 = .ok (.dup, 1) := by decide +kernel
theorem dX2_init_38 : decode cX2_init 38 = .ok (.aload_n 1, 1) := by decide +kernel
theorem dX2_init_39 : decode cX2_init 39 = .ok (.invokespecial 17, 3) := by decide +kernel
theorem dX2_init_42 : decode cX2_init 42 = .ok (.putfield 27, 3) := by decide +kernel
theorem dX2_init_45 : decode cX2_init 45 = .ok (.return_, 1) := by decide +kernel
theorem dX2_lay_0 : decode cX2_lay 0 = .ok (.iload_n 2, 1) := by decide +kernel
theorem dX2_lay_1 : decode cX2_lay 1 = .ok (.tableswitch 139 0 8 #[51, 59, 67, 79, 91, 100, 109, 121, 130], 51) := by decide +kernel
theorem dX2_lay_52 : decode cX2_lay 52 = .ok (.aload_n 1, 1) := by decide +kernel
theorem dX2_lay_53 : decode cX2_lay 53 = .ok (.aload_n 3, 1) := by decide +kernel
theorem dX2_lay_54 : decode cX2_lay 54 = .ok (.invokevirtual 30, 3) := by decide +kernel
theorem dX2_lay_57 : decode cX2_lay 57 = .ok (.goto 89, 3) := by decide +kernel
theorem dX2_lay_60 : decode cX2_lay 60 = .ok (.aload_n 1, 1) := by decide +kernel
theorem dX2_lay_61 : decode cX2_lay 61 = .ok (.aload_n 3, 1) := by decide +kernel
theorem dX2_lay_62 : decode cX2_lay 62 = .ok (.invokevirtual 34, 3) := by decide +kernel
theorem dX2_lay_65 : decode cX2_lay 65 = .ok (.goto 81, 3) := by decide +kernel
theorem dX2_lay_68 : decode cX2_lay 68 = .ok (.aload_n 1, 1) := by decide +kernel
theorem dX2_lay_69 : decode cX2_lay 69 = .ok (.aload_n 3, 1) := by decide +kernel
theorem dX2_lay_70 : decode cX2_lay 70 = .ok (.invokevirtual 37, 3) := by decide +kernel
theorem dX2_lay_73 : decode cX2_lay 73 = .ok (.aload_n 1, 1) := by decide +kernel
theorem dX2_lay_74 : decode cX2_lay 74 = .ok (.invokevirtual 40, 3) := by decide +kernel
theorem dX2_lay_77 : decode cX2_lay 77 = .ok (.goto 69, 3) := by decide +kernel
theorem dX2_lay_80 : decode cX2_lay 80 = .ok (.aload_n 1, 1) := by decide +kernel
theorem dX2_lay_81 : decode cX2_lay 81 = .ok (.aload_n 3, 1) := by decide +kernel
theorem dX2_lay_82 : decode cX2_lay 82 = .ok (.invokevirtual 37, 3) := by decide +kernel
theorem dX2_lay_85 : decode cX2_lay 85 = .ok (.aload_n 1, 1) := by decide +kernel
theorem dX2_lay_86 : decode cX2_lay 86 = .ok (.invokevirtual 43, 3) := by decide +kernel
theorem dX2_lay_89 : decode cX2_lay 89 = .ok (.goto 57, 3) := by decide +kernel
theorem dX2_lay_92 : decode cX2_lay 92 = .ok (.aload_n 0, 1) := by decide +kernel
theorem dX2_lay_93 : decode cX2_lay 93 = .ok (.aload_n 1, 1) := by decide +kernel
theorem dX2_lay_94 : decode cX2_lay 94 = .ok (.aload_n 3, 1) := by decide +kernel
theorem dX2_lay_95 : decode cX2_lay 95 = .ok (.invokevirtual 46, 3) := by decide +kernel
theorem dX2_lay_98 : decode cX2_lay 98 = .ok (.goto 48, 3) := by decide +kernel
theorem dX2_lay_101 : decode cX2_lay 101 = .ok (.aload_n 0, 1) := by decide +kernel
theorem dX2_lay_102 : decode cX2_lay 102 = .ok (.aload_n 1, 1) := by decide +kernel
theorem dX2_lay_103 : decode cX2_lay 103 = .ok (.aload_n 3, 1) := by decide +kernel
theorem dX2_lay_104 : decode cX2_lay 104 = .ok (.invokevirtual 50, 3) := by decide +kernel
theorem dX2_lay_107 : decode cX2_lay 107 = .ok (.goto 39, 3) := by decide +kernel
theorem dX2_lay_110 : decode cX2_lay 110 = .ok (.aload_n 1, 1) := by decide +kernel
theorem dX2_lay_111 : decode cX2_lay 111 = .ok (.aload_n 3, 1) := by decide +kernel
theorem dX2_lay_112 : decode cX2_lay 112 = .ok (.invokevirtual 37, 3) := by decide +kernel
theorem dX2_lay_115 : decode cX2_lay 115 = .ok (.aload_n 1, 1) := by decide +kernel
theorem dX2_lay_116 : decode cX2_lay 116 = .ok (.invokevirtual 53, 3) := by decide +kernel
theorem dX2_lay_119 : decode cX2_lay 119 = .ok (.goto 27, 3) := by decide +kernel
theorem dX2_lay_122 : decode cX2_lay 122 = .ok (.aload_n 0, 1) := by decide +kernel
theorem dX2_lay_123 : decode cX2_lay 123 = .ok (.aload_n 1, 1) := by decide +kernel
theorem dX2_lay_124 : decode cX2_lay 124 = .ok (.aload_n 3, 1) := by decide +kernel
theorem dX2_lay_125 : decode cX2_lay 125 = .ok (.invokevirtual 56, 3) := by decide +kernel
theorem dX2_lay_128 : decode cX2_lay 128 = .ok (.goto 18, 3) := by decide +kernel
theorem dX2_lay_131 : decode cX2_lay 131 = .ok (.aload_n 0, 1) := by decide +kernel
theorem dX2_lay_132 : decode cX2_lay 132 = .ok (.aload_n 1, 1) := by decide +kernel
theorem dX2_lay_133 : decode cX2_lay 133 = .ok (.aload_n 3, 1) := by decide +kernel
theorem dX2_lay_134 : decode cX2_lay 134 = .ok (.invokevirtual 59, 3) := by decide +kernel
theorem dX2_lay_137 : decode cX2_lay 137 = .ok (.goto 9, 3) := by decide +kernel
theorem dX2_lay_140 : decode cX2_lay 140 = .ok (.aload_n 0, 1) := by decide +kernel
theorem dX2_lay_141 : decode cX2_lay 141 = .ok (.aload_n 1, 1) := by decide +kernel
theorem dX2_lay_142 : decode cX2_lay 142 = .ok (.aload_n 3, 1) := by decide +kernel
theorem dX2_lay_143 : decode cX2_lay 143 = .ok (.invokevirtual 62, 3) := by decide +kernel
theorem dX2_lay_146 : decode cX2_lay 146 = .ok (.return_, 1) := by decide +kernel
theorem dX2_layMinimal_0 : decode cX2_layMinimal 0 = .ok (.aload_n 0, 1) := by decide +kernel
theorem dX2_layMinimal_1 : decode cX2_layMinimal 1 = .ok (.getfield 20, 3) := by decide +kernel
theorem dX2_layMinimal_4 : decode cX2_layMinimal 4 = .ok (.aload_n 2, 1) := by decide +kernel
theorem dX2_layMinimal_5 : decode cX2_layMinimal 5 = .ok (.invokevirtual 34, 3) := by decide +kernel
theorem dX2_layMinimal_8 : decode cX2_layMinimal 8 = .ok (.aload_n 0, 1) := by decide +kernel
theorem dX2_layMinimal_9 : decode cX2_layMinimal 9 = .ok (.getfield 20, 3) := by decide +kernel
theorem dX2_layMinimal_12 : decode cX2_layMinimal 12 = .ok (.invokevirtual 43, 3) := by decide +kernel
theorem dX2_layMinimal_15 : decode cX2_layMinimal 15 = .ok (.aload_n 1, 1) := by decide +kernel
theorem dX2_layMinimal_16 : decode cX2_layMinimal 16 = .ok (.aload_n 2, 1) := by decide +kernel
theorem dX2_layMinimal_17 : decode cX2_layMinimal 17 = .ok (.invokevirtual 37, 3) := by decide +kernel
theorem dX2_layMinimal_20 : decode cX2_layMinimal 20 = .ok (.aload_n 1, 1) := by decide +kernel
theorem dX2_layMinimal_21 : decode cX2_layMinimal 21 = .ok (.aload_n 0, 1) := by decide +kernel
theorem dX2_layMinimal_22 : decode cX2_layMinimal 22 = .ok (.getfield 20, 3) := by decide +kernel
theorem dX2_layMinimal_25 : decode cX2_layMinimal 25 = .ok (.invokevirtual 65, 3) := by decide +kernel
theorem dX2_layMinimal_28 : decode cX2_layMinimal 28 = .ok (.return_, 1) := by decide +kernel
theorem dX2_layUnions_0 : decode cX2_layUnions 0 = .ok (.aload_n 1, 1) := by decide +kernel
theorem dX2_layUnions_1 : decode cX2_layUnions 1 = .ok (.invokevirtual 68, 3) := by decide +kernel
theorem dX2_layUnions_4 : decode cX2_layUnions 4 = .ok (.aload_n 1, 1) := by decide +kernel
theorem dX2_layUnions_5 : decode cX2_layUnions 5 = .ok (.invokevirtual 71, 3) := by decide +kernel
theorem dX2_layUnions_8 : decode cX2_layUnions 8 = .ok (.iconst 0, 1) := by decide +kernel
theorem dX2_layUnions_9 : decode cX2_layUnions 9 = .ok (.istore_n 3, 1) := by decide +kernel
theorem dX2_layUnions_10 : decode cX2_layUnions 10 = .ok (.iload_n 3, 1) := by decide +kernel
theorem dX2_layUnions_11 : decode cX2_layUnions 11 = .ok (.aload_n 0, 1) := by decide +kernel
theorem dX2_layUnions_12 : decode cX2_layUnions 12 = .ok (.getfield 9, 3) := by decide +kernel
theorem dX2_layUnions_15 : decode cX2_layUnions 15 = .ok (.getfield 74, 3) := by decide +kernel
theorem dX2_layUnions_18 : decode cX2_layUnions 18 = .ok (.if_icmp .ge 55, 3) := by decide +kernel
theorem dX2_layUnions_21 : decode cX2_layUnions 21 = .ok (.aload_n 0, 1) := by decide +kernel
theorem dX2_layUnions_22 : decode cX2_layUnions 22 = .ok (.getfield 24, 3) := by decide +kernel
theorem dX2_layUnions_25 : decode cX2_layUnions 25 = .ok (.aload_n 2, 1) := by decide +kernel
theorem dX2_layUnions_26 : decode cX2_layUnions 26 = .ok (.invokevirtual 37, 3) := by decide +kernel
theorem dX2_layUnions_29 : decode cX2_layUnions 29 = .ok (.aload_n 0, 1) := by decide +kernel
theorem dX2_layUnions_30 : decode cX2_layUnions 30 = .ok (.getfield 24, 3) := by decide +kernel
theorem dX2_layUnions_33 : decode cX2_layUnions 33 = .ok (.iload_n 3, 1) := by decide +kernel
theorem dX2_layUnions_34 : decode cX2_layUnions 34 = .ok (.invokevirtual 80, 3) := by decide +kernel
theorem dX2_layUnions_37 : decode cX2_layUnions 37 = .ok (.aload_n 0, 1) := by decide +kernel
theorem dX2_layUnions_38 : decode cX2_layUnions 38 = .ok (.getfield 24, 3) := by decide +kernel
theorem dX2_layUnions_41 : decode cX2_layUnions 41 = .ok (.invokevirtual 43, 3) := by decide +kernel
theorem dX2_layUnions_44 : decode cX2_layUnions 44 = .ok (.aload_n 0, 1) := by decide +kernel
theorem dX2_layUnions_45 : decode cX2_layUnions 45 = .ok (.getfield 24, 3) := by decide +kernel
theorem dX2_layUnions_48 : decode cX2_layUnions 48 = .ok (.invokevirtual 71, 3) := by decide +kernel
theorem dX2_layUnions_51 : decode cX2_layUnions 51 = .ok (.aload_n 0, 1) := by decide +kernel
theorem dX2_layUnions_52 : decode cX2_layUnions 52 = .ok (.getfield 24, 3) := by decide +kernel
theorem dX2_layUnions_55 : decode cX2_layUnions 55 = .ok (.iload_n 3, 1) := by decide +kernel
theorem dX2_layUnions_56 : decode cX2_layUnions 56 = .ok (.invokevirtual 80, 3) := by decide +kernel
theorem dX2_layUnions_59 : decode cX2_layUnions 59 = .ok (.aload_n 1, 1) := by decide +kernel
theorem dX2_layUnions_60 : decode cX2_layUnions 60 = .ok (.aload_n 0, 1) := by decide +kernel
theorem dX2_layUnions_61 : decode cX2_layUnions 61 = .ok (.getfield 24, 3) := by decide +kernel
theorem dX2_layUnions_64 : decode cX2_layUnions 64 = .ok (.invokevirtual 65, 3) := by decide +kernel
theorem dX2_layUnions_67 : decode cX2_layUnions 67 = .ok (.iinc 3 1, 3) := by decide +kernel
theorem dX2_layUnions_70 : decode cX2_layUnions 70 = .ok (.goto (-60), 3) := by decide +kernel
theorem dX2_layUnions_73 : decode cX2_layUnions 73 = .ok (.aload_n 2, 1) := by decide +kernel
theorem dX2_layUnions_74 : decode cX2_layUnions 74 = .ok (.iconst 0, 1) := by decide +kernel
theorem dX2_layUnions_75 : decode cX2_layUnions 75 = .ok (.invokevirtual 84, 3) := by decide +kernel
theorem dX2_layUnions_78 : decode cX2_layUnions 78 = .ok (.ifCond .ne 8, 3) := by decide +kernel
theorem dX2_layUnions_81 : decode cX2_layUnions 81 = .ok (.aload_n 1, 1) := by decide +kernel
theorem dX2_layUnions_82 : decode cX2_layUnions 82 = .ok (.iconst 0, 1) := by decide +kernel
theorem dX2_layUnions_83 : decode cX2_layUnions 83 = .ok (.invokevirtual 88, 3) := by decide +kernel
theorem dX2_layUnions_86 : decode cX2_layUnions 86 = .ok (.return_, 1) := by decide +kernel
theorem dX2_layIntersections_0 : decode cX2_layIntersections 0 = .ok (.aload_n 0, 1) := by decide +kernel
theorem dX2_layIntersections_1 : decode cX2_layIntersections 1 = .ok (.getfield 27, 3) := by decide +kernel
theorem dX2_layIntersections_4 : decode cX2_layIntersections 4 = .ok (.aload_n 2, 1) := by decide +kernel
theorem dX2_layIntersections_5 : decode cX2_layIntersections 5 = .ok (.invokevirtual 37, 3) := by decide +kernel
theorem dX2_layIntersections_8 : decode cX2_layIntersections 8 = .ok (.aload_n 0, 1) := by decide +kernel
theorem dX2_layIntersections_9 : decode cX2_layIntersections 9 = .ok (.getfield 27, 3) := by decide +kernel
theorem dX2_layIntersections_12 : decode cX2_layIntersections 12 = .ok (.invokevirtual 53, 3) := by decide +kernel
theorem dX2_layIntersections_15 : decode cX2_layIntersections 15 = .ok (.aload_n 0, 1) := by decide +kernel
theorem dX2_layIntersections_16 : decode cX2_layIntersections 16 = .ok (.aload_n 1, 1) := by decide +kernel
theorem dX2_layIntersections_17 : decode cX2_layIntersections 17 = .ok (.aload_n 0, 1) := by decide +kernel
theorem dX2_layIntersections_18 : decode cX2_layIntersections 18 = .ok (.getfield 27, 3) := by decide +kernel
theorem dX2_layIntersections_21 : decode cX2_layIntersections 21 = .ok (.invokevirtual 59, 3) := by decide +kernel
theorem dX2_layIntersections_24 : decode cX2_layIntersections 24 = .ok (.aload_n 1, 1) := by decide +kernel
theorem dX2_layIntersections_25 : decode cX2_layIntersections 25 = .ok (.invokevirtual 53, 3) := by decide +kernel
theorem dX2_layIntersections_28 : decode cX2_layIntersections 28 = .ok (.return_, 1) := by decide +kernel
theorem dX2_layMaximal_0 : decode cX2_layMaximal 0 = .ok (.aload_n 0, 1) := by decide +kernel
theorem dX2_layMaximal_1 : decode cX2_layMaximal 1 = .ok (.getfield 20, 3) := by decide +kernel
theorem dX2_layMaximal_4 : decode cX2_layMaximal 4 = .ok (.aload_n 2, 1) := by decide +kernel
theorem dX2_layMaximal_5 : decode cX2_layMaximal 5 = .ok (.invokevirtual 30, 3) := by decide +kernel
theorem dX2_layMaximal_8 : decode cX2_layMaximal 8 = .ok (.aload_n 0, 1) := by decide +kernel
theorem dX2_layMaximal_9 : decode cX2_layMaximal 9 = .ok (.getfield 20, 3) := by decide +kernel
theorem dX2_layMaximal_12 : decode cX2_layMaximal 12 = .ok (.invokevirtual 40, 3) := by decide +kernel
theorem dX2_layMaximal_15 : decode cX2_layMaximal 15 = .ok (.aload_n 1, 1) := by decide +kernel
theorem dX2_layMaximal_16 : decode cX2_layMaximal 16 = .ok (.aload_n 2, 1) := by decide +kernel
theorem dX2_layMaximal_17 : decode cX2_layMaximal 17 = .ok (.invokevirtual 37, 3) := by decide +kernel
theorem dX2_layMaximal_20 : decode cX2_layMaximal 20 = .ok (.aload_n 1, 1) := by decide +kernel
theorem dX2_layMaximal_21 : decode cX2_layMaximal 21 = .ok (.aload_n 0, 1) := by decide +kernel
theorem dX2_layMaximal_22 : decode cX2_layMaximal 22 = .ok (.getfield 20, 3) := by decide +kernel
theorem dX2_layMaximal_25 : decode cX2_layMaximal 25 = .ok (.invokevirtual 65, 3) := by decide +kernel
theorem dX2_layMaximal_28 : decode cX2_layMaximal 28 = .ok (.return_, 1) := by decide +kernel
theorem dX2_layBlocker_0 : decode cX2_layBlocker 0 = .ok (.aload_n 0, 1) := by decide +kernel
theorem dX2_layBlocker_1 : decode cX2_layBlocker 1 = .ok (.getfield 27, 3) := by decide +kernel
theorem dX2_layBlocker_4 : decode cX2_layBlocker 4 = .ok (.aload_n 2, 1) := by decide +kernel
theorem dX2_layBlocker_5 : decode cX2_layBlocker 5 = .ok (.invokevirtual 37, 3) := by decide +kernel
theorem dX2_layBlocker_8 : decode cX2_layBlocker 8 = .ok (.aload_n 0, 1) := by decide +kernel
theorem dX2_layBlocker_9 : decode cX2_layBlocker 9 = .ok (.getfield 27, 3) := by decide +kernel
theorem dX2_layBlocker_12 : decode cX2_layBlocker 12 = .ok (.invokevirtual 43, 3) := by decide +kernel
theorem dX2_layBlocker_15 : decode cX2_layBlocker 15 = .ok (.aload_n 0, 1) := by decide +kernel
theorem dX2_layBlocker_16 : decode cX2_layBlocker 16 = .ok (.getfield 27, 3) := by decide +kernel
theorem dX2_layBlocker_19 : decode cX2_layBlocker 19 = .ok (.invokevirtual 71, 3) := by decide +kernel
theorem dX2_layBlocker_22 : decode cX2_layBlocker 22 = .ok (.aload_n 0, 1) := by decide +kernel
theorem dX2_layBlocker_23 : decode cX2_layBlocker 23 = .ok (.getfield 27, 3) := by decide +kernel
theorem dX2_layBlocker_26 : decode cX2_layBlocker 26 = .ok (.invokevirtual 53, 3) := by decide +kernel
theorem dX2_layBlocker_29 : decode cX2_layBlocker 29 = .ok (.aload_n 0, 1) := by decide +kernel
theorem dX2_layBlocker_30 : decode cX2_layBlocker 30 = .ok (.aload_n 1, 1) := by decide +kernel
theorem dX2_layBlocker_31 : decode cX2_layBlocker 31 = .ok (.aload_n 0, 1) := by decide +kernel
theorem dX2_layBlocker_32 : decode cX2_layBlocker 32 = .ok (.getfield 27, 3) := by decide +kernel
theorem dX2_layBlocker_35 : decode cX2_layBlocker 35 = .ok (.invokevirtual 46, 3) := by decide +kernel
theorem dX2_layBlocker_38 : decode cX2_layBlocker 38 = .ok (.return_, 1) := by decide +kernel
theorem dX3_init_0 : decode cX3_init 0 = .ok (.aload_n 0, 1) := by decide +kernel
theorem dX3_init_1 : decode cX3_init 1 = .ok (.invokespecial 5, 3) := by decide +kernel
theorem dX3_init_4 : decode cX3_init 4 = .ok (.aload_n 0, 1) := by decide +kernel
theorem dX3_init_5 : decode cX3_init 5 = .ok (.aload_n 1, 1) := by decide +kernel
theorem dX3_init_6 : decode cX3_init 6 = .ok (.putfield 11, 3) := by decide +kernel
theorem dX3_init_9 : decode cX3_init 9 = .ok (.aload_n 0, 1) := by decide +kernel
theorem dX3_init_10 : decode cX3_init 10 = .ok (.bipush 16, 2) := by decide +kernel
theorem dX3_init_12 : decode cX3_init 12 = .ok (.newarray .long, 2) := by decide +kernel
theorem dX3_init_14 : decode cX3_init 14 = .ok (.putfield 15, 3) := by decide +kernel
theorem dX3_init_17 : decode cX3_init 17 = .ok (.return_, 1) := by decide +kernel
theorem dX3_clear_0 : decode cX3_clear 0 = .ok (.aload_n 0, 1) := by decide +kernel
theorem dX3_clear_1 : decode cX3_clear 1 = .ok (.getfield 15, 3) := by decide +kernel
theorem dX3_clear_4 : decode cX3_clear 4 = .ok (.lconst 0, 1) := by decide +kernel
theorem dX3_clear_5 : decode cX3_clear 5 = .ok (.invokestatic 19, 3) := by decide +kernel
theorem dX3_clear_8 : decode cX3_clear 8 = .ok (.return_, 1) := by decide +kernel
theorem dX3_copy_0 : decode cX3_copy 0 = .ok (.aload_n 1, 1) := by decide +kernel
theorem dX3_copy_1 : decode cX3_copy 1 = .ok (.getfield 15, 3) := by decide +kernel
theorem dX3_copy_4 : decode cX3_copy 4 = .ok (.iconst 0, 1) := by decide +kernel
theorem dX3_copy_5 : decode cX3_copy 5 = .ok (.aload_n 0, 1) := by decide +kernel
theorem dX3_copy_6 : decode cX3_copy 6 = .ok (.getfield 15, 3) := by decide +kernel
theorem dX3_copy_9 : decode cX3_copy 9 = .ok (.iconst 0, 1) := by decide +kernel
theorem dX3_copy_10 : decode cX3_copy 10 = .ok (.bipush 16, 2) := by decide +kernel
theorem dX3_copy_12 : decode cX3_copy 12 = .ok (.invokestatic 25, 3) := by decide +kernel
theorem dX3_copy_15 : decode cX3_copy 15 = .ok (.return_, 1) := by decide +kernel
theorem dX3_contains_0 : decode cX3_contains 0 = .ok (.aload_n 0, 1) := by decide +kernel
theorem dX3_contains_1 : decode cX3_contains 1 = .ok (.getfield 15, 3) := by decide +kernel
theorem dX3_contains_4 : decode cX3_contains 4 = .ok (.iload_n 1, 1) := by decide +kernel
theorem dX3_contains_5 : decode cX3_contains 5 = .ok (.invokestatic 31, 3) := by decide +kernel
theorem dX3_contains_8 : decode cX3_contains 8 = .ok (.laload, 1) := by decide +kernel
theorem dX3_contains_9 : decode cX3_contains 9 = .ok (.iload_n 1, 1) := by decide +kernel
theorem dX3_contains_10 : decode cX3_contains 10 = .ok (.invokestatic 35, 3) := by decide +kernel
theorem dX3_contains_13 : decode cX3_contains 13 = .ok (.land, 1) := by decide +kernel
theorem dX3_contains_14 : decode cX3_contains 14 = .ok (.lconst 0, 1) := by decide +kernel
theorem dX3_contains_15 : decode cX3_contains 15 = .ok (.lcmp, 1) := by decide +kernel
theorem dX3_contains_16 : decode cX3_contains 16 = .ok (.ifCond .eq 7, 3) := by decide +kernel
theorem dX3_contains_19 : decode cX3_contains 19 = .ok (.iconst 1, 1) := by decide +kernel
theorem dX3_contains_20 : decode cX3_contains 20 = .ok (.goto 4, 3) := by decide +kernel
theorem dX3_contains_23 : decode cX3_contains 23 = .ok (.iconst 0, 1) := by decide +kernel
theorem dX3_contains_24 : decode cX3_contains 24 = .ok (.ireturn, 1) := by decide +kernel
theorem dX3_put_0 : decode cX3_put 0 = .ok (.aload_n 0, 1) := by decide +kernel
theorem dX3_put_1 : decode cX3_put 1 = .ok (.getfield 15, 3) := by decide +kernel
theorem dX3_put_4 : decode cX3_put 4 = .ok (.iload_n 1, 1) := by decide +kernel
theorem dX3_put_5 : decode cX3_put 5 = .ok (.invokestatic 31, 3) := by decide +kernel
theorem dX3_put_8 : decode cX3_put 8 = .ok (.dup2, 1) := by decide +kernel
theorem dX3_put_9 : decode cX3_put 9 = .ok (.laload, 1) := by decide +kernel
theorem dX3_put_10 : decode cX3_put 10 = .ok (.iload_n 1, 1) := by decide +kernel
theorem dX3_put_11 : decode cX3_put 11 = .ok (.invokestatic 35, 3) := by decide +kernel
theorem dX3_put_14 : decode cX3_put 14 = .ok (.lor, 1) := by decide +kernel
theorem dX3_put_15 : decode cX3_put 15 = .ok (.lastore, 1) := by decide +kernel
theorem dX3_put_16 : decode cX3_put 16 = .ok (.return_, 1) := by decide +kernel
theorem dX3_drop_0 : decode cX3_drop 0 = .ok (.aload_n 0, 1) := by decide +kernel
theorem dX3_drop_1 : decode cX3_drop 1 = .ok (.getfield 15, 3) := by decide +kernel
theorem dX3_drop_4 : decode cX3_drop 4 = .ok (.iload_n 1, 1) := by decide +kernel
theorem dX3_drop_5 : decode cX3_drop 5 = .ok (.invokestatic 31, 3) := by decide +kernel
theorem dX3_drop_8 : decode cX3_drop 8 = .ok (.dup2, 1) := by decide +kernel
theorem dX3_drop_9 : decode cX3_drop 9 = .ok (.laload, 1) := by decide +kernel
theorem dX3_drop_10 : decode cX3_drop 10 = .ok (.iload_n 1, 1) := by decide +kernel
theorem dX3_drop_11 : decode cX3_drop 11 = .ok (.invokestatic 35, 3) := by decide +kernel
theorem dX3_drop_14 : decode cX3_drop 14 = .ok (.ldc2_w 39, 3) := by decide +kernel
theorem dX3_drop_17 : decode cX3_drop 17 = .ok (.lxor, 1) := by decide +kernel
theorem dX3_drop_18 : decode cX3_drop 18 = .ok (.land, 1) := by decide +kernel
theorem dX3_drop_19 : decode cX3_drop 19 = .ok (.lastore, 1) := by decide +kernel
theorem dX3_drop_20 : decode cX3_drop 20 = .ok (.return_, 1) := by decide +kernel
theorem dX3_count_0 : decode cX3_count 0 = .ok (.iconst 0, 1) := by decide +kernel
theorem dX3_count_1 : decode cX3_count 1 = .ok (.istore_n 1, 1) := by decide +kernel
theorem dX3_count_2 : decode cX3_count 2 = .ok (.iconst 0, 1) := by decide +kernel
theorem dX3_count_3 : decode cX3_count 3 = .ok (.istore_n 2, 1) := by decide +kernel
theorem dX3_count_4 : decode cX3_count 4 = .ok (.iload_n 2, 1) := by decide +kernel
theorem dX3_count_5 : decode cX3_count 5 = .ok (.aload_n 0, 1) := by decide +kernel
theorem dX3_count_6 : decode cX3_count 6 = .ok (.getfield 11, 3) := by decide +kernel
theorem dX3_count_9 : decode cX3_count 9 = .ok (.getfield 41, 3) := by decide +kernel
theorem dX3_count_12 : decode cX3_count 12 = .ok (.if_icmp .ge 21, 3) := by decide +kernel
theorem dX3_count_15 : decode cX3_count 15 = .ok (.iload_n 1, 1) := by decide +kernel
theorem dX3_count_16 : decode cX3_count 16 = .ok (.aload_n 0, 1) := by decide +kernel
theorem dX3_count_17 : decode cX3_count 17 = .ok (.getfield 15, 3) := by decide +kernel
theorem dX3_count_20 : decode cX3_count 20 = .ok (.iload_n 2, 1) := by decide +kernel
theorem dX3_count_21 : decode cX3_count 21 = .ok (.laload, 1) := by decide +kernel
theorem dX3_count_22 : decode cX3_count 22 = .ok (.invokestatic 46, 3) := by decide +kernel
theorem dX3_count_25 : decode cX3_count 25 = .ok (.iadd, 1) := by decide +kernel
theorem dX3_count_26 : decode cX3_count 26 = .ok (.istore_n 1, 1) := by decide +kernel
theorem dX3_count_27 : decode cX3_count 27 = .ok (.iinc 2 1, 3) := by decide +kernel
theorem dX3_count_30 : decode cX3_count 30 = .ok (.goto (-26), 3) := by decide +kernel
theorem dX3_count_33 : decode cX3_count 33 = .ok (.iload_n 1, 1) := by decide +kernel
theorem dX3_count_34 : decode cX3_count 34 = .ok (.ireturn, 1) := by decide +kernel
theorem dX3_countOfSize_0 : decode cX3_countOfSize 0 = .ok (.iconst 0, 1) := by decide +kernel
theorem dX3_countOfSize_1 : decode cX3_countOfSize 1 = .ok (.istore_n 2, 1) := by decide +kernel
theorem dX3_countOfSize_2 : decode cX3_countOfSize 2 = .ok (.iconst 0, 1) := by decide +kernel
theorem dX3_countOfSize_3 : decode cX3_countOfSize 3 = .ok (.istore_n 3, 1) := by decide +kernel
theorem dX3_countOfSize_4 : decode cX3_countOfSize 4 = .ok (.iload_n 3, 1) := by decide +kernel
theorem dX3_countOfSize_5 : decode cX3_countOfSize 5 = .ok (.aload_n 0, 1) := by decide +kernel
theorem dX3_countOfSize_6 : decode cX3_countOfSize 6 = .ok (.getfield 11, 3) := by decide +kernel
theorem dX3_countOfSize_9 : decode cX3_countOfSize 9 = .ok (.getfield 41, 3) := by decide +kernel
theorem dX3_countOfSize_12 : decode cX3_countOfSize 12 = .ok (.if_icmp .ge 27, 3) := by decide +kernel
theorem dX3_countOfSize_15 : decode cX3_countOfSize 15 = .ok (.iload_n 2, 1) := by decide +kernel
theorem dX3_countOfSize_16 : decode cX3_countOfSize 16 = .ok (.aload_n 0, 1) := by decide +kernel
theorem dX3_countOfSize_17 : decode cX3_countOfSize 17 = .ok (.getfield 15, 3) := by decide +kernel
theorem dX3_countOfSize_20 : decode cX3_countOfSize 20 = .ok (.iload_n 3, 1) := by decide +kernel
theorem dX3_countOfSize_21 : decode cX3_countOfSize 21 = .ok (.laload, 1) := by decide +kernel
theorem dX3_countOfSize_22 : decode cX3_countOfSize 22 = .ok (.iload_n 3, 1) := by decide +kernel
theorem dX3_countOfSize_23 : decode cX3_countOfSize 23 = .ok (.iload_n 1, 1) := by decide +kernel
theorem dX3_countOfSize_24 : decode cX3_countOfSize 24 = .ok (.invokestatic 52, 3) := by decide +kernel
theorem dX3_countOfSize_27 : decode cX3_countOfSize 27 = .ok (.land, 1) := by decide +kernel
theorem dX3_countOfSize_28 : decode cX3_countOfSize 28 = .ok (.invokestatic 46, 3) := by decide +kernel
theorem dX3_countOfSize_31 : decode cX3_countOfSize 31 = .ok (.iadd, 1) := by decide +kernel
theorem dX3_countOfSize_32 : decode cX3_countOfSize 32 = .ok (.istore_n 2, 1) := by decide +kernel
theorem dX3_countOfSize_33 : decode cX3_countOfSize 33 = .ok (.iinc 3 1, 3) := by decide +kernel
theorem dX3_countOfSize_36 : decode cX3_countOfSize 36 = .ok (.goto (-32), 3) := by decide +kernel
theorem dX3_countOfSize_39 : decode cX3_countOfSize 39 = .ok (.iload_n 2, 1) := by decide +kernel
theorem dX3_countOfSize_40 : decode cX3_countOfSize 40 = .ok (.ireturn, 1) := by decide +kernel
theorem dX3_countHolding_0 : decode cX3_countHolding 0 = .ok (.iconst 0, 1) := by decide +kernel
theorem dX3_countHolding_1 : decode cX3_countHolding 1 = .ok (.istore_n 2, 1) := by decide +kernel
theorem dX3_countHolding_2 : decode cX3_countHolding 2 = .ok (.iconst 0, 1) := by decide +kernel
theorem dX3_countHolding_3 : decode cX3_countHolding 3 = .ok (.istore_n 3, 1) := by decide +kernel
theorem dX3_countHolding_4 : decode cX3_countHolding 4 = .ok (.iload_n 3, 1) := by decide +kernel
theorem dX3_countHolding_5 : decode cX3_countHolding 5 = .ok (.aload_n 0, 1) := by decide +kernel
theorem dX3_countHolding_6 : decode cX3_countHolding 6 = .ok (.getfield 11, 3) := by decide +kernel
theorem dX3_countHolding_9 : decode cX3_countHolding 9 = .ok (.getfield 41, 3) := by decide +kernel
theorem dX3_countHolding_12 : decode cX3_countHolding 12 = .ok (.if_icmp .ge 31, 3) := by decide +kernel
theorem dX3_countHolding_15 : decode cX3_countHolding 15 = .ok (.iload_n 2, 1) := by decide +kernel
theorem dX3_countHolding_16 : decode cX3_countHolding 16 = .ok (.aload_n 0, 1) := by decide +kernel
theorem dX3_countHolding_17 : decode cX3_countHolding 17 = .ok (.getfield 15, 3) := by decide +kernel
theorem dX3_countHolding_20 : decode cX3_countHolding 20 = .ok (.iload_n 3, 1) := by decide +kernel
theorem dX3_countHolding_21 : decode cX3_countHolding 21 = .ok (.laload, 1) := by decide +kernel
theorem dX3_countHolding_22 : decode cX3_countHolding 22 = .ok (.iload_n 3, 1) := by decide +kernel
theorem dX3_countHolding_23 : decode cX3_countHolding 23 = .ok (.iload_n 1, 1) := by decide +kernel
theorem dX3_countHolding_24 : decode cX3_countHolding 24 = .ok (.invokestatic 56, 3) := by decide +kernel
theorem dX3_countHolding_27 : decode cX3_countHolding 27 = .ok (.ldc2_w 39, 3) := by decide +kernel
theorem dX3_countHolding_30 : decode cX3_countHolding 30 = .ok (.lxor, 1) := by decide +kernel
theorem dX3_countHolding_31 : decode cX3_countHolding 31 = .ok (.land, 1) := by decide +kernel
theorem dX3_countHolding_32 : decode cX3_countHolding 32 = .ok (.invokestatic 46, 3) := by decide +kernel
theorem dX3_countHolding_35 : decode cX3_countHolding 35 = .ok (.iadd, 1) := by decide +kernel
theorem dX3_countHolding_36 : decode cX3_countHolding 36 = .ok (.istore_n 2, 1) := by decide +kernel
theorem dX3_countHolding_37 : decode cX3_countHolding 37 = .ok (.iinc 3 1, 3) := by decide +kernel
theorem dX3_countHolding_40 : decode cX3_countHolding 40 = .ok (.goto (-36), 3) := by decide +kernel
theorem dX3_countHolding_43 : decode cX3_countHolding 43 = .ok (.iload_n 2, 1) := by decide +kernel
theorem dX3_countHolding_44 : decode cX3_countHolding 44 = .ok (.ireturn, 1) := by decide +kernel
theorem dX3_atIndex_0 : decode cX3_atIndex 0 = .ok (.iload_n 1, 1) := by decide +kernel
theorem dX3_atIndex_1 : decode cX3_atIndex 1 = .ok (.istore_n 2, 1) := by decide +kernel
theorem dX3_atIndex_2 : decode cX3_atIndex 2 = .ok (.iconst 0, 1) := by decide +kernel
theorem dX3_atIndex_3 : decode cX3_atIndex 3 = .ok (.istore_n 3, 1) := by decide +kernel
theorem dX3_atIndex_4 : decode cX3_atIndex 4 = .ok (.iload_n 3, 1) := by decide +kernel
theorem dX3_atIndex_5 : decode cX3_atIndex 5 = .ok (.aload_n 0, 1) := by decide +kernel
theorem dX3_atIndex_6 : decode cX3_atIndex 6 = .ok (.getfield 11, 3) := by decide +kernel
theorem dX3_atIndex_9 : decode cX3_atIndex 9 = .ok (.getfield 41, 3) := by decide +kernel
theorem dX3_atIndex_12 : decode cX3_atIndex 12 = .ok (.if_icmp .ge 47, 3) := by decide +kernel
theorem dX3_atIndex_15 : decode cX3_atIndex 15 = .ok (.aload_n 0, 1) := by decide +kernel
theorem dX3_atIndex_16 : decode cX3_atIndex 16 = .ok (.getfield 15, 3) := by decide +kernel
theorem dX3_atIndex_19 : decode cX3_atIndex 19 = .ok (.iload_n 3, 1) := by decide +kernel
theorem dX3_atIndex_20 : decode cX3_atIndex 20 = .ok (.laload, 1) := by decide +kernel
theorem dX3_atIndex_21 : decode cX3_atIndex 21 = .ok (.invokestatic 46, 3) := by decide +kernel
theorem dX3_atIndex_24 : decode cX3_atIndex 24 = .ok (.istore 4, 2) := by decide +kernel
theorem dX3_atIndex_26 : decode cX3_atIndex 26 = .ok (.iload_n 2, 1) := by decide +kernel
theorem dX3_atIndex_27 : decode cX3_atIndex 27 = .ok (.iload 4, 2) := by decide +kernel
theorem dX3_atIndex_29 : decode cX3_atIndex 29 = .ok (.if_icmp .ge 19, 3) := by decide +kernel
theorem dX3_atIndex_32 : decode cX3_atIndex 32 = .ok (.iload_n 3, 1) := by decide +kernel
theorem dX3_atIndex_33 : decode cX3_atIndex 33 = .ok (.bipush 64, 2) := by decide +kernel
theorem dX3_atIndex_35 : decode cX3_atIndex 35 = .ok (.imul, 1) := by decide +kernel
theorem dX3_atIndex_36 : decode cX3_atIndex 36 = .ok (.aload_n 0, 1) := by decide +kernel
theorem dX3_atIndex_37 : decode cX3_atIndex 37 = .ok (.getfield 15, 3) := by decide +kernel
theorem dX3_atIndex_40 : decode cX3_atIndex 40 = .ok (.iload_n 3, 1) := by decide +kernel
theorem dX3_atIndex_41 : decode cX3_atIndex 41 = .ok (.laload, 1) := by decide +kernel
theorem dX3_atIndex_42 : decode cX3_atIndex 42 = .ok (.iload_n 2, 1) := by decide +kernel
theorem dX3_atIndex_43 : decode cX3_atIndex 43 = .ok (.invokestatic 59, 3) := by decide +kernel
theorem dX3_atIndex_46 : decode cX3_atIndex 46 = .ok (.iadd, 1) := by decide +kernel
theorem dX3_atIndex_47 : decode cX3_atIndex 47 = .ok (.ireturn, 1) := by decide +kernel
theorem dX3_atIndex_48 : decode cX3_atIndex 48 = .ok (.iload_n 2, 1) := by decide +kernel
theorem dX3_atIndex_49 : decode cX3_atIndex 49 = .ok (.iload 4, 2) := by decide +kernel
theorem dX3_atIndex_51 : decode cX3_atIndex 51 = .ok (.isub, 1) := by decide +kernel
theorem dX3_atIndex_52 : decode cX3_atIndex 52 = .ok (.istore_n 2, 1) := by decide +kernel
theorem dX3_atIndex_53 : decode cX3_atIndex 53 = .ok (.iinc 3 1, 3) := by decide +kernel
theorem dX3_atIndex_56 : decode cX3_atIndex 56 = .ok (.goto (-52), 3) := by decide +kernel
theorem dX3_atIndex_59 : decode cX3_atIndex 59 = .ok (.iconst (-1), 1) := by decide +kernel
theorem dX3_atIndex_60 : decode cX3_atIndex 60 = .ok (.ireturn, 1) := by decide +kernel
theorem dX3_listInto_0 : decode cX3_listInto 0 = .ok (.iconst 0, 1) := by decide +kernel
theorem dX3_listInto_1 : decode cX3_listInto 1 = .ok (.istore_n 2, 1) := by decide +kernel
theorem dX3_listInto_2 : decode cX3_listInto 2 = .ok (.iconst 0, 1) := by decide +kernel
theorem dX3_listInto_3 : decode cX3_listInto 3 = .ok (.istore_n 3, 1) := by decide +kernel
theorem dX3_listInto_4 : decode cX3_listInto 4 = .ok (.iload_n 3, 1) := by decide +kernel
theorem dX3_listInto_5 : decode cX3_listInto 5 = .ok (.aload_n 0, 1) := by decide +kernel
theorem dX3_listInto_6 : decode cX3_listInto 6 = .ok (.getfield 11, 3) := by decide +kernel
theorem dX3_listInto_9 : decode cX3_listInto 9 = .ok (.getfield 41, 3) := by decide +kernel
theorem dX3_listInto_12 : decode cX3_listInto 12 = .ok (.if_icmp .ge 66, 3) := by decide +kernel
theorem dX3_listInto_15 : decode cX3_listInto 15 = .ok (.aload_n 0, 1) := by decide +kernel
theorem dX3_listInto_16 : decode cX3_listInto 16 = .ok (.getfield 15, 3) := by decide +kernel
theorem dX3_listInto_19 : decode cX3_listInto 19 = .ok (.iload_n 3, 1) := by decide +kernel
theorem dX3_listInto_20 : decode cX3_listInto 20 = .ok (.laload, 1) := by decide +kernel
theorem dX3_listInto_21 : decode cX3_listInto 21 = .ok (.lstore 4, 2) := by decide +kernel
theorem dX3_listInto_23 : decode cX3_listInto 23 = .ok (.lload 4, 2) := by decide +kernel
theorem dX3_listInto_25 : decode cX3_listInto 25 = .ok (.invokestatic 46, 3) := by decide +kernel
theorem dX3_listInto_28 : decode cX3_listInto 28 = .ok (.istore 6, 2) := by decide +kernel
theorem dX3_listInto_30 : decode cX3_listInto 30 = .ok (.iload 6, 2) := by decide +kernel
theorem dX3_listInto_32 : decode cX3_listInto 32 = .ok (.ifCond .le 40, 3) := by decide +kernel
theorem dX3_listInto_35 : decode cX3_listInto 35 = .ok (.iload_n 2, 1) := by decide +kernel
theorem dX3_listInto_36 : decode cX3_listInto 36 = .ok (.aload_n 1, 1) := by decide +kernel
theorem dX3_listInto_37 : decode cX3_listInto 37 = .ok (.arraylength, 1) := by decide +kernel
theorem dX3_listInto_38 : decode cX3_listInto 38 = .ok (.if_icmp .ge 34, 3) := by decide +kernel
theorem dX3_listInto_41 : decode cX3_listInto 41 = .ok (.aload_n 1, 1) := by decide +kernel
theorem dX3_listInto_42 : decode cX3_listInto 42 = .ok (.iload_n 2, 1) := by decide +kernel
theorem dX3_listInto_43 : decode cX3_listInto 43 = .ok (.iload_n 3, 1) := by decide +kernel
theorem dX3_listInto_44 : decode cX3_listInto 44 = .ok (.bipush 64, 2) := by decide +kernel
theorem dX3_listInto_46 : decode cX3_listInto 46 = .ok (.imul, 1) := by decide +kernel
theorem dX3_listInto_47 : decode cX3_listInto 47 = .ok (.lload 4, 2) := by decide +kernel
theorem dX3_listInto_49 : decode cX3_listInto 49 = .ok (.invokestatic 63, 3) := by decide +kernel
theorem dX3_listInto_52 : decode cX3_listInto 52 = .ok (.iadd, 1) := by decide +kernel
theorem dX3_listInto_53 : decode cX3_listInto 53 = .ok (.iastore, 1) := by decide +kernel
theorem dX3_listInto_54 : decode cX3_listInto 54 = .ok (.iinc 2 1, 3) := by decide +kernel
theorem dX3_listInto_57 : decode cX3_listInto 57 = .ok (.lload 4, 2) := by decide +kernel
theorem dX3_listInto_59 : decode cX3_listInto 59 = .ok (.lload 4, 2) := by decide +kernel
theorem dX3_listInto_61 : decode cX3_listInto 61 = .ok (.lconst 1, 1) := by decide +kernel
theorem dX3_listInto_62 : decode cX3_listInto 62 = .ok (.lsub, 1) := by decide +kernel
theorem dX3_listInto_63 : decode cX3_listInto 63 = .ok (.land, 1) := by decide +kernel
theorem dX3_listInto_64 : decode cX3_listInto 64 = .ok (.lstore 4, 2) := by decide +kernel
theorem dX3_listInto_66 : decode cX3_listInto 66 = .ok (.iinc 6 (-1), 3) := by decide +kernel
theorem dX3_listInto_69 : decode cX3_listInto 69 = .ok (.goto (-39), 3) := by decide +kernel
theorem dX3_listInto_72 : decode cX3_listInto 72 = .ok (.iinc 3 1, 3) := by decide +kernel
theorem dX3_listInto_75 : decode cX3_listInto 75 = .ok (.goto (-71), 3) := by decide +kernel
theorem dX3_listInto_78 : decode cX3_listInto 78 = .ok (.iload_n 2, 1) := by decide +kernel
theorem dX3_listInto_79 : decode cX3_listInto 79 = .ok (.ireturn, 1) := by decide +kernel
theorem dX3_sameAs_0 : decode cX3_sameAs 0 = .ok (.iconst 0, 1) := by decide +kernel
theorem dX3_sameAs_1 : decode cX3_sameAs 1 = .ok (.istore_n 2, 1) := by decide +kernel
theorem dX3_sameAs_2 : decode cX3_sameAs 2 = .ok (.iload_n 2, 1) := by decide +kernel
theorem dX3_sameAs_3 : decode cX3_sameAs 3 = .ok (.aload_n 0, 1) := by decide +kernel
theorem dX3_sameAs_4 : decode cX3_sameAs 4 = .ok (.getfield 11, 3) := by decide +kernel
theorem dX3_sameAs_7 : decode cX3_sameAs 7 = .ok (.getfield 41, 3) := by decide +kernel
theorem dX3_sameAs_10 : decode cX3_sameAs 10 = .ok (.if_icmp .ge 27, 3) := by decide +kernel
theorem dX3_sameAs_13 : decode cX3_sameAs 13 = .ok (.aload_n 0, 1) := by decide +kernel
theorem dX3_sameAs_14 : decode cX3_sameAs 14 = .ok (.getfield 15, 3) := by decide +kernel
theorem dX3_sameAs_17 : decode cX3_sameAs 17 = .ok (.iload_n 2, 1) := by decide +kernel
theorem dX3_sameAs_18 : decode cX3_sameAs 18 = .ok (.laload, 1) := by decide +kernel
theorem dX3_sameAs_19 : decode cX3_sameAs 19 = .ok (.aload_n 1, 1) := by decide +kernel
theorem dX3_sameAs_20 : decode cX3_sameAs 20 = .ok (.getfield 15, 3) := by decide +kernel
theorem dX3_sameAs_23 : decode cX3_sameAs 23 = .ok (.iload_n 2, 1) := by decide +kernel
theorem dX3_sameAs_24 : decode cX3_sameAs 24 = .ok (.laload, 1) := by decide +kernel
theorem dX3_sameAs_25 : decode cX3_sameAs 25 = .ok (.lcmp, 1) := by decide +kernel
theorem dX3_sameAs_26 : decode cX3_sameAs 26 = .ok (.ifCond .eq 5, 3) := by decide +kernel
theorem dX3_sameAs_29 : decode cX3_sameAs 29 = .ok (.iconst 0, 1) := by decide +kernel
theorem dX3_sameAs_30 : decode cX3_sameAs 30 = .ok (.ireturn, 1) := by decide +kernel
theorem dX3_sameAs_31 : decode cX3_sameAs 31 = .ok (.iinc 2 1, 3) := by decide +kernel
theorem dX3_sameAs_34 : decode cX3_sameAs 34 = .ok (.goto (-32), 3) := by decide +kernel
theorem dX3_sameAs_37 : decode cX3_sameAs 37 = .ok (.iconst 1, 1) := by decide +kernel
theorem dX3_sameAs_38 : decode cX3_sameAs 38 = .ok (.ireturn, 1) := by decide +kernel
theorem dX3_join_0 : decode cX3_join 0 = .ok (.iconst 0, 1) := by decide +kernel
theorem dX3_join_1 : decode cX3_join 1 = .ok (.istore_n 2, 1) := by decide +kernel
theorem dX3_join_2 : decode cX3_join 2 = .ok (.iload_n 2, 1) := by decide +kernel
theorem dX3_join_3 : decode cX3_join 3 = .ok (.aload_n 0, 1) := by decide +kernel
theorem dX3_join_4 : decode cX3_join 4 = .ok (.getfield 11, 3) := by decide +kernel
theorem dX3_join_7 : decode cX3_join 7 = .ok (.getfield 41, 3) := by decide +kernel
theorem dX3_join_10 : decode cX3_join 10 = .ok (.if_icmp .ge 24, 3) := by decide +kernel
theorem dX3_join_13 : decode cX3_join 13 = .ok (.aload_n 0, 1) := by decide +kernel
theorem dX3_join_14 : decode cX3_join 14 = .ok (.getfield 15, 3) := by decide +kernel
theorem dX3_join_17 : decode cX3_join 17 = .ok (.iload_n 2, 1) := by decide +kernel
theorem dX3_join_18 : decode cX3_join 18 = .ok (.dup2, 1) := by decide +kernel
theorem dX3_join_19 : decode cX3_join 19 = .ok (.laload, 1) := by decide +kernel
theorem dX3_join_20 : decode cX3_join 20 = .ok (.aload_n 1, 1) := by decide +kernel
theorem dX3_join_21 : decode cX3_join 21 = .ok (.getfield 15, 3) := by decide +kernel
theorem dX3_join_24 : decode cX3_join 24 = .ok (.iload_n 2, 1) := by decide +kernel
theorem dX3_join_25 : decode cX3_join 25 = .ok (.laload, 1) := by decide +kernel
theorem dX3_join_26 : decode cX3_join 26 = .ok (.lor, 1) := by decide +kernel
theorem dX3_join_27 : decode cX3_join 27 = .ok (.lastore, 1) := by decide +kernel
theorem dX3_join_28 : decode cX3_join 28 = .ok (.iinc 2 1, 3) := by decide +kernel
theorem dX3_join_31 : decode cX3_join 31 = .ok (.goto (-29), 3) := by decide +kernel
theorem dX3_join_34 : decode cX3_join 34 = .ok (.return_, 1) := by decide +kernel
theorem dX3_meet_0 : decode cX3_meet 0 = .ok (.iconst 0, 1) := by decide +kernel
theorem dX3_meet_1 : decode cX3_meet 1 = .ok (.istore_n 2, 1) := by decide +kernel
theorem dX3_meet_2 : decode cX3_meet 2 = .ok (.iload_n 2, 1) := by decide +kernel
theorem dX3_meet_3 : decode cX3_meet 3 = .ok (.aload_n 0, 1) := by decide +kernel
theorem dX3_meet_4 : decode cX3_meet 4 = .ok (.getfield 11, 3) := by decide +kernel
theorem dX3_meet_7 : decode cX3_meet 7 = .ok (.getfield 41, 3) := by decide +kernel
theorem dX3_meet_10 : decode cX3_meet 10 = .ok (.if_icmp .ge 24, 3) := by decide +kernel
theorem dX3_meet_13 : decode cX3_meet 13 = .ok (.aload_n 0, 1) := by decide +kernel
theorem dX3_meet_14 : decode cX3_meet 14 = .ok (.getfield 15, 3) := by decide +kernel
theorem dX3_meet_17 : decode cX3_meet 17 = .ok (.iload_n 2, 1) := by decide +kernel
theorem dX3_meet_18 : decode cX3_meet 18 = .ok (.dup2, 1) := by decide +kernel
theorem dX3_meet_19 : decode cX3_meet 19 = .ok (.laload, 1) := by decide +kernel
theorem dX3_meet_20 : decode cX3_meet 20 = .ok (.aload_n 1, 1) := by decide +kernel
theorem dX3_meet_21 : decode cX3_meet 21 = .ok (.getfield 15, 3) := by decide +kernel
theorem dX3_meet_24 : decode cX3_meet 24 = .ok (.iload_n 2, 1) := by decide +kernel
theorem dX3_meet_25 : decode cX3_meet 25 = .ok (.laload, 1) := by decide +kernel
theorem dX3_meet_26 : decode cX3_meet 26 = .ok (.land, 1) := by decide +kernel
theorem dX3_meet_27 : decode cX3_meet 27 = .ok (.lastore, 1) := by decide +kernel
theorem dX3_meet_28 : decode cX3_meet 28 = .ok (.iinc 2 1, 3) := by decide +kernel
theorem dX3_meet_31 : decode cX3_meet 31 = .ok (.goto (-29), 3) := by decide +kernel
theorem dX3_meet_34 : decode cX3_meet 34 = .ok (.return_, 1) := by decide +kernel
theorem dX3_subtract_0 : decode cX3_subtract 0 = .ok (.iconst 0, 1) := by decide +kernel
theorem dX3_subtract_1 : decode cX3_subtract 1 = .ok (.istore_n 2, 1) := by decide +kernel
theorem dX3_subtract_2 : decode cX3_subtract 2 = .ok (.iload_n 2, 1) := by decide +kernel
theorem dX3_subtract_3 : decode cX3_subtract 3 = .ok (.aload_n 0, 1) := by decide +kernel
theorem dX3_subtract_4 : decode cX3_subtract 4 = .ok (.getfield 11, 3) := by decide +kernel
theorem dX3_subtract_7 : decode cX3_subtract 7 = .ok (.getfield 41, 3) := by decide +kernel
theorem dX3_subtract_10 : decode cX3_subtract 10 = .ok (.if_icmp .ge 28, 3) := by decide +kernel
theorem dX3_subtract_13 : decode cX3_subtract 13 = .ok (.aload_n 0, 1) := by decide +kernel
theorem dX3_subtract_14 : decode cX3_subtract 14 = .ok (.getfield 15, 3) := by decide +kernel
theorem dX3_subtract_17 : decode cX3_subtract 17 = .ok (.iload_n 2, 1) := by decide +kernel
theorem dX3_subtract_18 : decode cX3_subtract 18 = .ok (.dup2, 1) := by decide +kernel
theorem dX3_subtract_19 : decode cX3_subtract 19 = .ok (.laload, 1) := by decide +kernel
theorem dX3_subtract_20 : decode cX3_subtract 20 = .ok (.aload_n 1, 1) := by decide +kernel
theorem dX3_subtract_21 : decode cX3_subtract 21 = .ok (.getfield 15, 3) := by decide +kernel
theorem dX3_subtract_24 : decode cX3_subtract 24 = .ok (.iload_n 2, 1) := by decide +kernel
theorem dX3_subtract_25 : decode cX3_subtract 25 = .ok (.laload, 1) := by decide +kernel
theorem dX3_subtract_26 : decode cX3_subtract 26 = .ok (.ldc2_w 39, 3) := by decide +kernel
theorem dX3_subtract_29 : decode cX3_subtract 29 = .ok (.lxor, 1) := by decide +kernel
theorem dX3_subtract_30 : decode cX3_subtract 30 = .ok (.land, 1) := by decide +kernel
theorem dX3_subtract_31 : decode cX3_subtract 31 = .ok (.lastore, 1) := by decide +kernel
theorem dX3_subtract_32 : decode cX3_subtract 32 = .ok (.iinc 2 1, 3) := by decide +kernel
theorem dX3_subtract_35 : decode cX3_subtract 35 = .ok (.goto (-33), 3) := by decide +kernel
theorem dX3_subtract_38 : decode cX3_subtract 38 = .ok (.return_, 1) := by decide +kernel
theorem dX3_differ_0 : decode cX3_differ 0 = .ok (.iconst 0, 1) := by decide +kernel
theorem dX3_differ_1 : decode cX3_differ 1 = .ok (.istore_n 2, 1) := by decide +kernel
theorem dX3_differ_2 : decode cX3_differ 2 = .ok (.iload_n 2, 1) := by decide +kernel
theorem dX3_differ_3 : decode cX3_differ 3 = .ok (.aload_n 0, 1) := by decide +kernel
theorem dX3_differ_4 : decode cX3_differ 4 = .ok (.getfield 11, 3) := by decide +kernel
theorem dX3_differ_7 : decode cX3_differ 7 = .ok (.getfield 41, 3) := by decide +kernel
theorem dX3_differ_10 : decode cX3_differ 10 = .ok (.if_icmp .ge 24, 3) := by decide +kernel
theorem dX3_differ_13 : decode cX3_differ 13 = .ok (.aload_n 0, 1) := by decide +kernel
theorem dX3_differ_14 : decode cX3_differ 14 = .ok (.getfield 15, 3) := by decide +kernel
theorem dX3_differ_17 : decode cX3_differ 17 = .ok (.iload_n 2, 1) := by decide +kernel
theorem dX3_differ_18 : decode cX3_differ 18 = .ok (.dup2, 1) := by decide +kernel
theorem dX3_differ_19 : decode cX3_differ 19 = .ok (.laload, 1) := by decide +kernel
theorem dX3_differ_20 : decode cX3_differ 20 = .ok (.aload_n 1, 1) := by decide +kernel
theorem dX3_differ_21 : decode cX3_differ 21 = .ok (.getfield 15, 3) := by decide +kernel
theorem dX3_differ_24 : decode cX3_differ 24 = .ok (.iload_n 2, 1) := by decide +kernel
theorem dX3_differ_25 : decode cX3_differ 25 = .ok (.laload, 1) := by decide +kernel
theorem dX3_differ_26 : decode cX3_differ 26 = .ok (.lxor, 1) := by decide +kernel
theorem dX3_differ_27 : decode cX3_differ 27 = .ok (.lastore, 1) := by decide +kernel
theorem dX3_differ_28 : decode cX3_differ 28 = .ok (.iinc 2 1, 3) := by decide +kernel
theorem dX3_differ_31 : decode cX3_differ 31 = .ok (.goto (-29), 3) := by decide +kernel
theorem dX3_differ_34 : decode cX3_differ 34 = .ok (.return_, 1) := by decide +kernel
theorem dX3_invert_0 : decode cX3_invert 0 = .ok (.aload_n 0, 1) := by decide +kernel
theorem dX3_invert_1 : decode cX3_invert 1 = .ok (.getfield 11, 3) := by decide +kernel
theorem dX3_invert_4 : decode cX3_invert 4 = .ok (.getfield 66, 3) := by decide +kernel
theorem dX3_invert_7 : decode cX3_invert 7 = .ok (.bipush 6, 2) := by decide +kernel
theorem dX3_invert_9 : decode cX3_invert 9 = .ok (.if_icmp .ge 19, 3) := by decide +kernel
theorem dX3_invert_12 : decode cX3_invert 12 = .ok (.lconst 1, 1) := by decide +kernel
theorem dX3_invert_13 : decode cX3_invert 13 = .ok (.iconst 1, 1) := by decide +kernel
theorem dX3_invert_14 : decode cX3_invert 14 = .ok (.aload_n 0, 1) := by decide +kernel
theorem dX3_invert_15 : decode cX3_invert 15 = .ok (.getfield 11, 3) := by decide +kernel
theorem dX3_invert_18 : decode cX3_invert 18 = .ok (.getfield 66, 3) := by decide +kernel
theorem dX3_invert_21 : decode cX3_invert 21 = .ok (.ishl, 1) := by decide +kernel
theorem dX3_invert_22 : decode cX3_invert 22 = .ok (.lshl, 1) := by decide +kernel
theorem dX3_invert_23 : decode cX3_invert 23 = .ok (.lconst 1, 1) := by decide +kernel
theorem dX3_invert_24 : decode cX3_invert 24 = .ok (.lsub, 1) := by decide +kernel
theorem dX3_invert_25 : decode cX3_invert 25 = .ok (.goto 6, 3) := by decide +kernel
theorem dX3_invert_28 : decode cX3_invert 28 = .ok (.ldc2_w 39, 3) := by decide +kernel
theorem dX3_invert_31 : decode cX3_invert 31 = .ok (.lstore_n 1, 1) := by decide +kernel
theorem dX3_invert_32 : decode cX3_invert 32 = .ok (.iconst 0, 1) := by decide +kernel
theorem dX3_invert_33 : decode cX3_invert 33 = .ok (.istore_n 3, 1) := by decide +kernel
theorem dX3_invert_34 : decode cX3_invert 34 = .ok (.iload_n 3, 1) := by decide +kernel
theorem dX3_invert_35 : decode cX3_invert 35 = .ok (.aload_n 0, 1) := by decide +kernel
theorem dX3_invert_36 : decode cX3_invert 36 = .ok (.getfield 11, 3) := by decide +kernel
theorem dX3_invert_39 : decode cX3_invert 39 = .ok (.getfield 41, 3) := by decide +kernel
theorem dX3_invert_42 : decode cX3_invert 42 = .ok (.if_icmp .ge 27, 3) := by decide +kernel
theorem dX3_invert_45 : decode cX3_invert 45 = .ok (.aload_n 0, 1) := by decide +kernel
theorem dX3_invert_46 : decode cX3_invert 46 = .ok (.getfield 15, 3) := by decide +kernel
theorem dX3_invert_49 : decode cX3_invert 49 = .ok (.iload_n 3, 1) := by decide +kernel
theorem dX3_invert_50 : decode cX3_invert 50 = .ok (.aload_n 0, 1) := by decide +kernel
theorem dX3_invert_51 : decode cX3_invert 51 = .ok (.getfield 15, 3) := by decide +kernel
theorem dX3_invert_54 : decode cX3_invert 54 = .ok (.iload_n 3, 1) := by decide +kernel
theorem dX3_invert_55 : decode cX3_invert 55 = .ok (.laload, 1) := by decide +kernel
theorem dX3_invert_56 : decode cX3_invert 56 = .ok (.ldc2_w 39, 3) := by decide +kernel
theorem dX3_invert_59 : decode cX3_invert 59 = .ok (.lxor, 1) := by decide +kernel
theorem dX3_invert_60 : decode cX3_invert 60 = .ok (.lload_n 1, 1) := by decide +kernel
theorem dX3_invert_61 : decode cX3_invert 61 = .ok (.land, 1) := by decide +kernel
theorem dX3_invert_62 : decode cX3_invert 62 = .ok (.lastore, 1) := by decide +kernel
theorem dX3_invert_63 : decode cX3_invert 63 = .ok (.iinc 3 1, 3) := by decide +kernel
theorem dX3_invert_66 : decode cX3_invert 66 = .ok (.goto (-32), 3) := by decide +kernel
theorem dX3_invert_69 : decode cX3_invert 69 = .ok (.return_, 1) := by decide +kernel
theorem dX3_keepOfSize_0 : decode cX3_keepOfSize 0 = .ok (.iconst 0, 1) := by decide +kernel
theorem dX3_keepOfSize_1 : decode cX3_keepOfSize 1 = .ok (.istore_n 2, 1) := by decide +kernel
theorem dX3_keepOfSize_2 : decode cX3_keepOfSize 2 = .ok (.iload_n 2, 1) := by decide +kernel
theorem dX3_keepOfSize_3 : decode cX3_keepOfSize 3 = .ok (.aload_n 0, 1) := by decide +kernel
theorem dX3_keepOfSize_4 : decode cX3_keepOfSize 4 = .ok (.getfield 11, 3) := by decide +kernel
theorem dX3_keepOfSize_7 : decode cX3_keepOfSize 7 = .ok (.getfield 41, 3) := by decide +kernel
theorem dX3_keepOfSize_10 : decode cX3_keepOfSize 10 = .ok (.if_icmp .ge 23, 3) := by decide +kernel
theorem dX3_keepOfSize_13 : decode cX3_keepOfSize 13 = .ok (.aload_n 0, 1) := by decide +kernel
theorem dX3_keepOfSize_14 : decode cX3_keepOfSize 14 = .ok (.getfield 15, 3) := by decide +kernel
theorem dX3_keepOfSize_17 : decode cX3_keepOfSize 17 = .ok (.iload_n 2, 1) := by decide +kernel
theorem dX3_keepOfSize_18 : decode cX3_keepOfSize 18 = .ok (.dup2, 1) := by decide +kernel
theorem dX3_keepOfSize_19 : decode cX3_keepOfSize 19 = .ok (.laload, 1) := by decide +kernel
theorem dX3_keepOfSize_20 : decode cX3_keepOfSize 20 = .ok (.iload_n 2, 1) := by decide +kernel
theorem dX3_keepOfSize_21 : decode cX3_keepOfSize 21 = .ok (.iload_n 1, 1) := by decide +kernel
theorem dX3_keepOfSize_22 : decode cX3_keepOfSize 22 = .ok (.invokestatic 52, 3) := by decide +kernel
theorem dX3_keepOfSize_25 : decode cX3_keepOfSize 25 = .ok (.land, 1) := by decide +kernel
theorem dX3_keepOfSize_26 : decode cX3_keepOfSize 26 = .ok (.lastore, 1) := by decide +kernel
theorem dX3_keepOfSize_27 : decode cX3_keepOfSize 27 = .ok (.iinc 2 1, 3) := by decide +kernel
theorem dX3_keepOfSize_30 : decode cX3_keepOfSize 30 = .ok (.goto (-28), 3) := by decide +kernel
theorem dX3_keepOfSize_33 : decode cX3_keepOfSize 33 = .ok (.return_, 1) := by decide +kernel
theorem dX3_keepLacking_0 : decode cX3_keepLacking 0 = .ok (.iconst 0, 1) := by decide +kernel
theorem dX3_keepLacking_1 : decode cX3_keepLacking 1 = .ok (.istore_n 2, 1) := by decide +kernel
theorem dX3_keepLacking_2 : decode cX3_keepLacking 2 = .ok (.iload_n 2, 1) := by decide +kernel
theorem dX3_keepLacking_3 : decode cX3_keepLacking 3 = .ok (.aload_n 0, 1) := by decide +kernel
theorem dX3_keepLacking_4 : decode cX3_keepLacking 4 = .ok (.getfield 11, 3) := by decide +kernel
theorem dX3_keepLacking_7 : decode cX3_keepLacking 7 = .ok (.getfield 41, 3) := by decide +kernel
theorem dX3_keepLacking_10 : decode cX3_keepLacking 10 = .ok (.if_icmp .ge 23, 3) := by decide +kernel
theorem dX3_keepLacking_13 : decode cX3_keepLacking 13 = .ok (.aload_n 0, 1) := by decide +kernel
theorem dX3_keepLacking_14 : decode cX3_keepLacking 14 = .ok (.getfield 15, 3) := by decide +kernel
theorem dX3_keepLacking_17 : decode cX3_keepLacking 17 = .ok (.iload_n 2, 1) := by decide +kernel
theorem dX3_keepLacking_18 : decode cX3_keepLacking 18 = .ok (.dup2, 1) := by decide +kernel
theorem dX3_keepLacking_19 : decode cX3_keepLacking 19 = .ok (.laload, 1) := by decide +kernel
theorem dX3_keepLacking_20 : decode cX3_keepLacking 20 = .ok (.iload_n 2, 1) := by decide +kernel
theorem dX3_keepLacking_21 : decode cX3_keepLacking 21 = .ok (.iload_n 1, 1) := by decide +kernel
theorem dX3_keepLacking_22 : decode cX3_keepLacking 22 = .ok (.invokestatic 56, 3) := by decide +kernel
theorem dX3_keepLacking_25 : decode cX3_keepLacking 25 = .ok (.land, 1) := by decide +kernel
theorem dX3_keepLacking_26 : decode cX3_keepLacking 26 = .ok (.lastore, 1) := by decide +kernel
theorem dX3_keepLacking_27 : decode cX3_keepLacking 27 = .ok (.iinc 2 1, 3) := by decide +kernel
theorem dX3_keepLacking_30 : decode cX3_keepLacking 30 = .ok (.goto (-28), 3) := by decide +kernel
theorem dX3_keepLacking_33 : decode cX3_keepLacking 33 = .ok (.return_, 1) := by decide +kernel
theorem dX3_keepHolding_0 : decode cX3_keepHolding 0 = .ok (.iconst 0, 1) := by decide +kernel
theorem dX3_keepHolding_1 : decode cX3_keepHolding 1 = .ok (.istore_n 2, 1) := by decide +kernel
theorem dX3_keepHolding_2 : decode cX3_keepHolding 2 = .ok (.iload_n 2, 1) := by decide +kernel
theorem dX3_keepHolding_3 : decode cX3_keepHolding 3 = .ok (.aload_n 0, 1) := by decide +kernel
theorem dX3_keepHolding_4 : decode cX3_keepHolding 4 = .ok (.getfield 11, 3) := by decide +kernel
theorem dX3_keepHolding_7 : decode cX3_keepHolding 7 = .ok (.getfield 41, 3) := by decide +kernel
theorem dX3_keepHolding_10 : decode cX3_keepHolding 10 = .ok (.if_icmp .ge 27, 3) := by decide +kernel
theorem dX3_keepHolding_13 : decode cX3_keepHolding 13 = .ok (.aload_n 0, 1) := by decide +kernel
theorem dX3_keepHolding_14 : decode cX3_keepHolding 14 = .ok (.getfield 15, 3) := by decide +kernel
theorem dX3_keepHolding_17 : decode cX3_keepHolding 17 = .ok (.iload_n 2, 1) := by decide +kernel
theorem dX3_keepHolding_18 : decode cX3_keepHolding 18 = .ok (.dup2, 1) := by decide +kernel
theorem dX3_keepHolding_19 : decode cX3_keepHolding 19 = .ok (.laload, 1) := by decide +kernel
theorem dX3_keepHolding_20 : decode cX3_keepHolding 20 = .ok (.iload_n 2, 1) := by decide +kernel
theorem dX3_keepHolding_21 : decode cX3_keepHolding 21 = .ok (.iload_n 1, 1) := by decide +kernel
theorem dX3_keepHolding_22 : decode cX3_keepHolding 22 = .ok (.invokestatic 56, 3) := by decide +kernel
theorem dX3_keepHolding_25 : decode cX3_keepHolding 25 = .ok (.ldc2_w 39, 3) := by decide +kernel
theorem dX3_keepHolding_28 : decode cX3_keepHolding 28 = .ok (.lxor, 1) := by decide +kernel
theorem dX3_keepHolding_29 : decode cX3_keepHolding 29 = .ok (.land, 1) := by decide +kernel
theorem dX3_keepHolding_30 : decode cX3_keepHolding 30 = .ok (.lastore, 1) := by decide +kernel
theorem dX3_keepHolding_31 : decode cX3_keepHolding 31 = .ok (.iinc 2 1, 3) := by decide +kernel
theorem dX3_keepHolding_34 : decode cX3_keepHolding 34 = .ok (.goto (-32), 3) := by decide +kernel
theorem dX3_keepHolding_37 : decode cX3_keepHolding 37 = .ok (.return_, 1) := by decide +kernel
theorem dX3_joinLowered_0 : decode cX3_joinLowered 0 = .ok (.iload_n 2, 1) := by decide +kernel
theorem dX3_joinLowered_1 : decode cX3_joinLowered 1 = .ok (.ifCond .lt 64, 3) := by decide +kernel
theorem dX3_joinLowered_4 : decode cX3_joinLowered 4 = .ok (.iload_n 2, 1) := by decide +kernel
theorem dX3_joinLowered_5 : decode cX3_joinLowered 5 = .ok (.getstatic 69, 3) := by decide +kernel
theorem dX3_joinLowered_8 : decode cX3_joinLowered 8 = .ok (.arraylength, 1) := by decide +kernel
theorem dX3_joinLowered_9 : decode cX3_joinLowered 9 = .ok (.if_icmp .ge 56, 3) := by decide +kernel
theorem dX3_joinLowered_12 : decode cX3_joinLowered 12 = .ok (.getstatic 69, 3) := by decide +kernel
theorem dX3_joinLowered_15 : decode cX3_joinLowered 15 = .ok (.iload_n 2, 1) := by decide +kernel
theorem dX3_joinLowered_16 : decode cX3_joinLowered 16 = .ok (.laload, 1) := by decide +kernel
theorem dX3_joinLowered_17 : decode cX3_joinLowered 17 = .ok (.lstore_n 3, 1) := by decide +kernel
theorem dX3_joinLowered_18 : decode cX3_joinLowered 18 = .ok (.iconst 0, 1) := by decide +kernel
theorem dX3_joinLowered_19 : decode cX3_joinLowered 19 = .ok (.istore 5, 2) := by decide +kernel
theorem dX3_joinLowered_21 : decode cX3_joinLowered 21 = .ok (.iload 5, 2) := by decide +kernel
theorem dX3_joinLowered_23 : decode cX3_joinLowered 23 = .ok (.aload_n 0, 1) := by decide +kernel
theorem dX3_joinLowered_24 : decode cX3_joinLowered 24 = .ok (.getfield 11, 3) := by decide +kernel
theorem dX3_joinLowered_27 : decode cX3_joinLowered 27 = .ok (.getfield 41, 3) := by decide +kernel
theorem dX3_joinLowered_30 : decode cX3_joinLowered 30 = .ok (.if_icmp .ge 32, 3) := by decide +kernel
theorem dX3_joinLowered_33 : decode cX3_joinLowered 33 = .ok (.aload_n 0, 1) := by decide +kernel
theorem dX3_joinLowered_34 : decode cX3_joinLowered 34 = .ok (.getfield 15, 3) := by decide +kernel
theorem dX3_joinLowered_37 : decode cX3_joinLowered 37 = .ok (.iload 5, 2) := by decide +kernel
theorem dX3_joinLowered_39 : decode cX3_joinLowered 39 = .ok (.dup2, 1) := by decide +kernel
theorem dX3_joinLowered_40 : decode cX3_joinLowered 40 = .ok (.laload, 1) := by decide +kernel
theorem dX3_joinLowered_41 : decode cX3_joinLowered 41 = .ok (.aload_n 1, 1) := by decide +kernel
theorem dX3_joinLowered_42 : decode cX3_joinLowered 42 = .ok (.getfield 15, 3) := by decide +kernel
theorem dX3_joinLowered_45 : decode cX3_joinLowered 45 = .ok (.iload 5, 2) := by decide +kernel
theorem dX3_joinLowered_47 : decode cX3_joinLowered 47 = .ok (.laload, 1) := by decide +kernel
theorem dX3_joinLowered_48 : decode cX3_joinLowered 48 = .ok (.iconst 1, 1) := by decide +kernel
theorem dX3_joinLowered_49 : decode cX3_joinLowered 49 = .ok (.iload_n 2, 1) := by decide +kernel
theorem dX3_joinLowered_50 : decode cX3_joinLowered 50 = .ok (.ishl, 1) := by decide +kernel
theorem dX3_joinLowered_51 : decode cX3_joinLowered 51 = .ok (.lushr, 1) := by decide +kernel
theorem dX3_joinLowered_52 : decode cX3_joinLowered 52 = .ok (.lload_n 3, 1) := by decide +kernel
theorem dX3_joinLowered_53 : decode cX3_joinLowered 53 = .ok (.land, 1) := by decide +kernel
theorem dX3_joinLowered_54 : decode cX3_joinLowered 54 = .ok (.lor, 1) := by decide +kernel
theorem dX3_joinLowered_55 : decode cX3_joinLowered 55 = .ok (.lastore, 1) := by decide +kernel
theorem dX3_joinLowered_56 : decode cX3_joinLowered 56 = .ok (.iinc 5 1, 3) := by decide +kernel
theorem dX3_joinLowered_59 : decode cX3_joinLowered 59 = .ok (.goto (-38), 3) := by decide +kernel
theorem dX3_joinLowered_62 : decode cX3_joinLowered 62 = .ok (.goto 59, 3) := by decide +kernel
theorem dX3_joinLowered_65 : decode cX3_joinLowered 65 = .ok (.iconst 1, 1) := by decide +kernel
theorem dX3_joinLowered_66 : decode cX3_joinLowered 66 = .ok (.iload_n 2, 1) := by decide +kernel
theorem dX3_joinLowered_67 : decode cX3_joinLowered 67 = .ok (.bipush 6, 2) := by decide +kernel
theorem dX3_joinLowered_69 : decode cX3_joinLowered 69 = .ok (.isub, 1) := by decide +kernel
theorem dX3_joinLowered_70 : decode cX3_joinLowered 70 = .ok (.ishl, 1) := by decide +kernel
theorem dX3_joinLowered_71 : decode cX3_joinLowered 71 = .ok (.istore_n 3, 1) := by decide +kernel
theorem dX3_joinLowered_72 : decode cX3_joinLowered 72 = .ok (.iconst 0, 1) := by decide +kernel
theorem dX3_joinLowered_73 : decode cX3_joinLowered 73 = .ok (.istore 4, 2) := by decide +kernel
theorem dX3_joinLowered_75 : decode cX3_joinLowered 75 = .ok (.iload 4, 2) := by decide +kernel
theorem dX3_joinLowered_77 : decode cX3_joinLowered 77 = .ok (.iload_n 3, 1) := by decide +kernel
theorem dX3_joinLowered_78 : decode cX3_joinLowered 78 = .ok (.iadd, 1) := by decide +kernel
theorem dX3_joinLowered_79 : decode cX3_joinLowered 79 = .ok (.aload_n 0, 1) := by decide +kernel
theorem dX3_joinLowered_80 : decode cX3_joinLowered 80 = .ok (.getfield 11, 3) := by decide +kernel
theorem dX3_joinLowered_83 : decode cX3_joinLowered 83 = .ok (.getfield 41, 3) := by decide +kernel
theorem dX3_joinLowered_86 : decode cX3_joinLowered 86 = .ok (.if_icmp .ge 35, 3) := by decide +kernel
theorem dX3_joinLowered_89 : decode cX3_joinLowered 89 = .ok (.iload 4, 2) := by decide +kernel
theorem dX3_joinLowered_91 : decode cX3_joinLowered 91 = .ok (.iload_n 3, 1) := by decide +kernel
theorem dX3_joinLowered_92 : decode cX3_joinLowered 92 = .ok (.iand, 1) := by decide +kernel
theorem dX3_joinLowered_93 : decode cX3_joinLowered 93 = .ok (.ifCond .ne 22, 3) := by decide +kernel
theorem dX3_joinLowered_96 : decode cX3_joinLowered 96 = .ok (.aload_n 0, 1) := by decide +kernel
theorem dX3_joinLowered_97 : decode cX3_joinLowered 97 = .ok (.getfield 15, 3) := by decide +kernel
theorem dX3_joinLowered_100 : decode cX3_joinLowered 100 = .ok (.iload 4, 2) := by decide +kernel
theorem dX3_joinLowered_102 : decode cX3_joinLowered 102 = .ok (.dup2, 1) := by decide +kernel
theorem dX3_joinLowered_103 : decode cX3_joinLowered 103 = .ok (.laload, 1) := by decide +kernel
theorem dX3_joinLowered_104 : decode cX3_joinLowered 104 = .ok (.aload_n 1, 1) := by decide +kernel
theorem dX3_joinLowered_105 : decode cX3_joinLowered 105 = .ok (.getfield 15, 3) := by decide +kernel
theorem dX3_joinLowered_108 : decode cX3_joinLowered 108 = .ok (.iload 4, 2) := by decide +kernel
theorem dX3_joinLowered_110 : decode cX3_joinLowered 110 = .ok (.iload_n 3, 1) := by decide +kernel
theorem dX3_joinLowered_111 : decode cX3_joinLowered 111 = .ok (.iadd, 1) := by decide +kernel
theorem dX3_joinLowered_112 : decode cX3_joinLowered 112 = .ok (.laload, 1) := by decide +kernel
theorem dX3_joinLowered_113 : decode cX3_joinLowered 113 = .ok (.lor, 1) := by decide +kernel
theorem dX3_joinLowered_114 : decode cX3_joinLowered 114 = .ok (.lastore, 1) := by decide +kernel
theorem dX3_joinLowered_115 : decode cX3_joinLowered 115 = .ok (.iinc 4 1, 3) := by decide +kernel
theorem dX3_joinLowered_118 : decode cX3_joinLowered 118 = .ok (.goto (-43), 3) := by decide +kernel
theorem dX3_joinLowered_121 : decode cX3_joinLowered 121 = .ok (.return_, 1) := by decide +kernel
theorem dX3_joinRaised_0 : decode cX3_joinRaised 0 = .ok (.iload_n 2, 1) := by decide +kernel
theorem dX3_joinRaised_1 : decode cX3_joinRaised 1 = .ok (.ifCond .lt 64, 3) := by decide +kernel
theorem dX3_joinRaised_4 : decode cX3_joinRaised 4 = .ok (.iload_n 2, 1) := by decide +kernel
theorem dX3_joinRaised_5 : decode cX3_joinRaised 5 = .ok (.getstatic 69, 3) := by decide +kernel
theorem dX3_joinRaised_8 : decode cX3_joinRaised 8 = .ok (.arraylength, 1) := by decide +kernel
theorem dX3_joinRaised_9 : decode cX3_joinRaised 9 = .ok (.if_icmp .ge 56, 3) := by decide +kernel
theorem dX3_joinRaised_12 : decode cX3_joinRaised 12 = .ok (.getstatic 69, 3) := by decide +kernel
theorem dX3_joinRaised_15 : decode cX3_joinRaised 15 = .ok (.iload_n 2, 1) := by decide +kernel
theorem dX3_joinRaised_16 : decode cX3_joinRaised 16 = .ok (.laload, 1) := by decide +kernel
theorem dX3_joinRaised_17 : decode cX3_joinRaised 17 = .ok (.lstore_n 3, 1) := by decide +kernel
theorem dX3_joinRaised_18 : decode cX3_joinRaised 18 = .ok (.iconst 0, 1) := by decide +kernel
theorem dX3_joinRaised_19 : decode cX3_joinRaised 19 = .ok (.istore 5, 2) := by decide +kernel
theorem dX3_joinRaised_21 : decode cX3_joinRaised 21 = .ok (.iload 5, 2) := by decide +kernel
theorem dX3_joinRaised_23 : decode cX3_joinRaised 23 = .ok (.aload_n 0, 1) := by decide +kernel
theorem dX3_joinRaised_24 : decode cX3_joinRaised 24 = .ok (.getfield 11, 3) := by decide +kernel
theorem dX3_joinRaised_27 : decode cX3_joinRaised 27 = .ok (.getfield 41, 3) := by decide +kernel
theorem dX3_joinRaised_30 : decode cX3_joinRaised 30 = .ok (.if_icmp .ge 32, 3) := by decide +kernel
theorem dX3_joinRaised_33 : decode cX3_joinRaised 33 = .ok (.aload_n 0, 1) := by decide +kernel
theorem dX3_joinRaised_34 : decode cX3_joinRaised 34 = .ok (.getfield 15, 3) := by decide +kernel
theorem dX3_joinRaised_37 : decode cX3_joinRaised 37 = .ok (.iload 5, 2) := by decide +kernel
theorem dX3_joinRaised_39 : decode cX3_joinRaised 39 = .ok (.dup2, 1) := by decide +kernel
theorem dX3_joinRaised_40 : decode cX3_joinRaised 40 = .ok (.laload, 1) := by decide +kernel
theorem dX3_joinRaised_41 : decode cX3_joinRaised 41 = .ok (.aload_n 1, 1) := by decide +kernel
theorem dX3_joinRaised_42 : decode cX3_joinRaised 42 = .ok (.getfield 15, 3) := by decide +kernel
theorem dX3_joinRaised_45 : decode cX3_joinRaised 45 = .ok (.iload 5, 2) := by decide +kernel
theorem dX3_joinRaised_47 : decode cX3_joinRaised 47 = .ok (.laload, 1) := by decide +kernel
theorem dX3_joinRaised_48 : decode cX3_joinRaised 48 = .ok (.lload_n 3, 1) := by decide +kernel
theorem dX3_joinRaised_49 : decode cX3_joinRaised 49 = .ok (.land, 1) := by decide +kernel
theorem dX3_joinRaised_50 : decode cX3_joinRaised 50 = .ok (.iconst 1, 1) := by decide +kernel
theorem dX3_joinRaised_51 : decode cX3_joinRaised 51 = .ok (.iload_n 2, 1) := by decide +kernel
theorem dX3_joinRaised_52 : decode cX3_joinRaised 52 = .ok (.ishl, 1) := by decide +kernel
theorem dX3_joinRaised_53 : decode cX3_joinRaised 53 = .ok (.lshl, 1) := by decide +kernel
theorem dX3_joinRaised_54 : decode cX3_joinRaised 54 = .ok (.lor, 1) := by decide +kernel
theorem dX3_joinRaised_55 : decode cX3_joinRaised 55 = .ok (.lastore, 1) := by decide +kernel
theorem dX3_joinRaised_56 : decode cX3_joinRaised 56 = .ok (.iinc 5 1, 3) := by decide +kernel
theorem dX3_joinRaised_59 : decode cX3_joinRaised 59 = .ok (.goto (-38), 3) := by decide +kernel
theorem dX3_joinRaised_62 : decode cX3_joinRaised 62 = .ok (.goto 57, 3) := by decide +kernel
theorem dX3_joinRaised_65 : decode cX3_joinRaised 65 = .ok (.iconst 1, 1) := by decide +kernel
theorem dX3_joinRaised_66 : decode cX3_joinRaised 66 = .ok (.iload_n 2, 1) := by decide +kernel
theorem dX3_joinRaised_67 : decode cX3_joinRaised 67 = .ok (.bipush 6, 2) := by decide +kernel
theorem dX3_joinRaised_69 : decode cX3_joinRaised 69 = .ok (.isub, 1) := by decide +kernel
theorem dX3_joinRaised_70 : decode cX3_joinRaised 70 = .ok (.ishl, 1) := by decide +kernel
theorem dX3_joinRaised_71 : decode cX3_joinRaised 71 = .ok (.istore_n 3, 1) := by decide +kernel
theorem dX3_joinRaised_72 : decode cX3_joinRaised 72 = .ok (.iload_n 3, 1) := by decide +kernel
theorem dX3_joinRaised_73 : decode cX3_joinRaised 73 = .ok (.istore 4, 2) := by decide +kernel
theorem dX3_joinRaised_75 : decode cX3_joinRaised 75 = .ok (.iload 4, 2) := by decide +kernel
theorem dX3_joinRaised_77 : decode cX3_joinRaised 77 = .ok (.aload_n 0, 1) := by decide +kernel
theorem dX3_joinRaised_78 : decode cX3_joinRaised 78 = .ok (.getfield 11, 3) := by decide +kernel
theorem dX3_joinRaised_81 : decode cX3_joinRaised 81 = .ok (.getfield 41, 3) := by decide +kernel
theorem dX3_joinRaised_84 : decode cX3_joinRaised 84 = .ok (.if_icmp .ge 35, 3) := by decide +kernel
theorem dX3_joinRaised_87 : decode cX3_joinRaised 87 = .ok (.iload 4, 2) := by decide +kernel
theorem dX3_joinRaised_89 : decode cX3_joinRaised 89 = .ok (.iload_n 3, 1) := by decide +kernel
theorem dX3_joinRaised_90 : decode cX3_joinRaised 90 = .ok (.iand, 1) := by decide +kernel
theorem dX3_joinRaised_91 : decode cX3_joinRaised 91 = .ok (.ifCond .eq 22, 3) := by decide +kernel
theorem dX3_joinRaised_94 : decode cX3_joinRaised 94 = .ok (.aload_n 0, 1) := by decide +kernel
theorem dX3_joinRaised_95 : decode cX3_joinRaised 95 = .ok (.getfield 15, 3) := by decide +kernel
theorem dX3_joinRaised_98 : decode cX3_joinRaised 98 = .ok (.iload 4, 2) := by decide +kernel
theorem dX3_joinRaised_100 : decode cX3_joinRaised 100 = .ok (.dup2, 1) := by decide +kernel
theorem dX3_joinRaised_101 : decode cX3_joinRaised 101 = .ok (.laload, 1) := by decide +kernel
theorem dX3_joinRaised_102 : decode cX3_joinRaised 102 = .ok (.aload_n 1, 1) := by decide +kernel
theorem dX3_joinRaised_103 : decode cX3_joinRaised 103 = .ok (.getfield 15, 3) := by decide +kernel
theorem dX3_joinRaised_106 : decode cX3_joinRaised 106 = .ok (.iload 4, 2) := by decide +kernel
theorem dX3_joinRaised_108 : decode cX3_joinRaised 108 = .ok (.iload_n 3, 1) := by decide +kernel
theorem dX3_joinRaised_109 : decode cX3_joinRaised 109 = .ok (.isub, 1) := by decide +kernel
theorem dX3_joinRaised_110 : decode cX3_joinRaised 110 = .ok (.laload, 1) := by decide +kernel
theorem dX3_joinRaised_111 : decode cX3_joinRaised 111 = .ok (.lor, 1) := by decide +kernel
theorem dX3_joinRaised_112 : decode cX3_joinRaised 112 = .ok (.lastore, 1) := by decide +kernel
theorem dX3_joinRaised_113 : decode cX3_joinRaised 113 = .ok (.iinc 4 1, 3) := by decide +kernel
theorem dX3_joinRaised_116 : decode cX3_joinRaised 116 = .ok (.goto (-41), 3) := by decide +kernel
theorem dX3_joinRaised_119 : decode cX3_joinRaised 119 = .ok (.return_, 1) := by decide +kernel
theorem dX3_forget_0 : decode cX3_forget 0 = .ok (.aload_n 0, 1) := by decide +kernel
theorem dX3_forget_1 : decode cX3_forget 1 = .ok (.aload_n 0, 1) := by decide +kernel
theorem dX3_forget_2 : decode cX3_forget 2 = .ok (.iload_n 1, 1) := by decide +kernel
theorem dX3_forget_3 : decode cX3_forget 3 = .ok (.invokevirtual 72, 3) := by decide +kernel
theorem dX3_forget_6 : decode cX3_forget 6 = .ok (.aload_n 0, 1) := by decide +kernel
theorem dX3_forget_7 : decode cX3_forget 7 = .ok (.iload_n 1, 1) := by decide +kernel
theorem dX3_forget_8 : decode cX3_forget 8 = .ok (.invokevirtual 76, 3) := by decide +kernel
theorem dX3_forget_11 : decode cX3_forget 11 = .ok (.return_, 1) := by decide +kernel
theorem dX3_closeUpwards_0 : decode cX3_closeUpwards 0 = .ok (.iconst 0, 1) := by decide +kernel
theorem dX3_closeUpwards_1 : decode cX3_closeUpwards 1 = .ok (.istore_n 1, 1) := by decide +kernel
theorem dX3_closeUpwards_2 : decode cX3_closeUpwards 2 = .ok (.iload_n 1, 1) := by decide +kernel
theorem dX3_closeUpwards_3 : decode cX3_closeUpwards 3 = .ok (.aload_n 0, 1) := by decide +kernel
theorem dX3_closeUpwards_4 : decode cX3_closeUpwards 4 = .ok (.getfield 11, 3) := by decide +kernel
theorem dX3_closeUpwards_7 : decode cX3_closeUpwards 7 = .ok (.getfield 66, 3) := by decide +kernel
theorem dX3_closeUpwards_10 : decode cX3_closeUpwards 10 = .ok (.if_icmp .ge 15, 3) := by decide +kernel
theorem dX3_closeUpwards_13 : decode cX3_closeUpwards 13 = .ok (.aload_n 0, 1) := by decide +kernel
theorem dX3_closeUpwards_14 : decode cX3_closeUpwards 14 = .ok (.aload_n 0, 1) := by decide +kernel
theorem dX3_closeUpwards_15 : decode cX3_closeUpwards 15 = .ok (.iload_n 1, 1) := by decide +kernel
theorem dX3_closeUpwards_16 : decode cX3_closeUpwards 16 = .ok (.invokevirtual 80, 3) := by decide +kernel
theorem dX3_closeUpwards_19 : decode cX3_closeUpwards 19 = .ok (.iinc 1 1, 3) := by decide +kernel
theorem dX3_closeUpwards_22 : decode cX3_closeUpwards 22 = .ok (.goto (-20), 3) := by decide +kernel
theorem dX3_closeUpwards_25 : decode cX3_closeUpwards 25 = .ok (.return_, 1) := by decide +kernel
theorem dX3_closeDownwards_0 : decode cX3_closeDownwards 0 = .ok (.iconst 0, 1) := by decide +kernel
theorem dX3_closeDownwards_1 : decode cX3_closeDownwards 1 = .ok (.istore_n 1, 1) := by decide +kernel
theorem dX3_closeDownwards_2 : decode cX3_closeDownwards 2 = .ok (.iload_n 1, 1) := by decide +kernel
theorem dX3_closeDownwards_3 : decode cX3_closeDownwards 3 = .ok (.aload_n 0, 1) := by decide +kernel
theorem dX3_closeDownwards_4 : decode cX3_closeDownwards 4 = .ok (.getfield 11, 3) := by decide +kernel
theorem dX3_closeDownwards_7 : decode cX3_closeDownwards 7 = .ok (.getfield 66, 3) := by decide +kernel
theorem dX3_closeDownwards_10 : decode cX3_closeDownwards 10 = .ok (.if_icmp .ge 15, 3) := by decide +kernel
theorem dX3_closeDownwards_13 : decode cX3_closeDownwards 13 = .ok (.aload_n 0, 1) := by decide +kernel
theorem dX3_closeDownwards_14 : decode cX3_closeDownwards 14 = .ok (.aload_n 0, 1) := by decide +kernel
theorem dX3_closeDownwards_15 : decode cX3_closeDownwards 15 = .ok (.iload_n 1, 1) := by decide +kernel
theorem dX3_closeDownwards_16 : decode cX3_closeDownwards 16 = .ok (.invokevirtual 72, 3) := by decide +kernel
theorem dX3_closeDownwards_19 : decode cX3_closeDownwards 19 = .ok (.iinc 1 1, 3) := by decide +kernel
theorem dX3_closeDownwards_22 : decode cX3_closeDownwards 22 = .ok (.goto (-20), 3) := by decide +kernel
theorem dX3_closeDownwards_25 : decode cX3_closeDownwards 25 = .ok (.return_, 1) := by decide +kernel
theorem dX3_becomeShadow_0 : decode cX3_becomeShadow 0 = .ok (.aload_n 0, 1) := by decide +kernel
theorem dX3_becomeShadow_1 : decode cX3_becomeShadow 1 = .ok (.invokevirtual 83, 3) := by decide +kernel
theorem dX3_becomeShadow_4 : decode cX3_becomeShadow 4 = .ok (.iconst 0, 1) := by decide +kernel
theorem dX3_becomeShadow_5 : decode cX3_becomeShadow 5 = .ok (.istore_n 2, 1) := by decide +kernel
theorem dX3_becomeShadow_6 : decode cX3_becomeShadow 6 = .ok (.iload_n 2, 1) := by decide +kernel
theorem dX3_becomeShadow_7 : decode cX3_becomeShadow 7 = .ok (.aload_n 0, 1) := by decide +kernel
theorem dX3_becomeShadow_8 : decode cX3_becomeShadow 8 = .ok (.getfield 11, 3) := by decide +kernel
theorem dX3_becomeShadow_11 : decode cX3_becomeShadow 11 = .ok (.getfield 66, 3) := by decide +kernel
theorem dX3_becomeShadow_14 : decode cX3_becomeShadow 14 = .ok (.if_icmp .ge 15, 3) := by decide +kernel
theorem dX3_becomeShadow_17 : decode cX3_becomeShadow 17 = .ok (.aload_n 0, 1) := by decide +kernel
theorem dX3_becomeShadow_18 : decode cX3_becomeShadow 18 = .ok (.aload_n 1, 1) := by decide +kernel
theorem dX3_becomeShadow_19 : decode cX3_becomeShadow 19 = .ok (.iload_n 2, 1) := by decide +kernel
theorem dX3_becomeShadow_20 : decode cX3_becomeShadow 20 = .ok (.invokevirtual 72, 3) := by decide +kernel
theorem dX3_becomeShadow_23 : decode cX3_becomeShadow 23 = .ok (.iinc 2 1, 3) := by decide +kernel
theorem dX3_becomeShadow_26 : decode cX3_becomeShadow 26 = .ok (.goto (-20), 3) := by decide +kernel
theorem dX3_becomeShadow_29 : decode cX3_becomeShadow 29 = .ok (.return_, 1) := by decide +kernel
theorem dX3_becomeUpperShadow_0 : decode cX3_becomeUpperShadow 0 = .ok (.aload_n 0, 1) := by decide +kernel
theorem dX3_becomeUpperShadow_1 : decode cX3_becomeUpperShadow 1 = .ok (.invokevirtual 83, 3) := by decide +kernel
theorem dX3_becomeUpperShadow_4 : decode cX3_becomeUpperShadow 4 = .ok (.iconst 0, 1) := by decide +kernel
theorem dX3_becomeUpperShadow_5 : decode cX3_becomeUpperShadow 5 = .ok (.istore_n 2, 1) := by decide +kernel
theorem dX3_becomeUpperShadow_6 : decode cX3_becomeUpperShadow 6 = .ok (.iload_n 2, 1) := by decide +kernel
theorem dX3_becomeUpperShadow_7 : decode cX3_becomeUpperShadow 7 = .ok (.aload_n 0, 1) := by decide +kernel
theorem dX3_becomeUpperShadow_8 : decode cX3_becomeUpperShadow 8 = .ok (.getfield 11, 3) := by decide +kernel
theorem dX3_becomeUpperShadow_11 : decode cX3_becomeUpperShadow 11 = .ok (.getfield 66, 3) := by decide +kernel
theorem dX3_becomeUpperShadow_14 : decode cX3_becomeUpperShadow 14 = .ok (.if_icmp .ge 15, 3) := by decide +kernel
theorem dX3_becomeUpperShadow_17 : decode cX3_becomeUpperShadow 17 = .ok (.aload_n 0, 1) := by decide +kernel
theorem dX3_becomeUpperShadow_18 : decode cX3_becomeUpperShadow 18 = .ok (.aload_n 1, 1) := by decide +kernel
theorem dX3_becomeUpperShadow_19 : decode cX3_becomeUpperShadow 19 = .ok (.iload_n 2, 1) := by decide +kernel
theorem dX3_becomeUpperShadow_20 : decode cX3_becomeUpperShadow 20 = .ok (.invokevirtual 80, 3) := by decide +kernel
theorem dX3_becomeUpperShadow_23 : decode cX3_becomeUpperShadow 23 = .ok (.iinc 2 1, 3) := by decide +kernel
theorem dX3_becomeUpperShadow_26 : decode cX3_becomeUpperShadow 26 = .ok (.goto (-20), 3) := by decide +kernel
theorem dX3_becomeUpperShadow_29 : decode cX3_becomeUpperShadow 29 = .ok (.return_, 1) := by decide +kernel
theorem dX3_mirror_0 : decode cX3_mirror 0 = .ok (.iconst 0, 1) := by decide +kernel
theorem dX3_mirror_1 : decode cX3_mirror 1 = .ok (.istore_n 1, 1) := by decide +kernel
theorem dX3_mirror_2 : decode cX3_mirror 2 = .ok (.iload_n 1, 1) := by decide +kernel
theorem dX3_mirror_3 : decode cX3_mirror 3 = .ok (.aload_n 0, 1) := by decide +kernel
theorem dX3_mirror_4 : decode cX3_mirror 4 = .ok (.getfield 11, 3) := by decide +kernel
theorem dX3_mirror_7 : decode cX3_mirror 7 = .ok (.getfield 66, 3) := by decide +kernel
theorem dX3_mirror_10 : decode cX3_mirror 10 = .ok (.if_icmp .ge 14, 3) := by decide +kernel
theorem dX3_mirror_13 : decode cX3_mirror 13 = .ok (.aload_n 0, 1) := by decide +kernel
theorem dX3_mirror_14 : decode cX3_mirror 14 = .ok (.iload_n 1, 1) := by decide +kernel
theorem dX3_mirror_15 : decode cX3_mirror 15 = .ok (.invokevirtual 86, 3) := by decide +kernel
theorem dX3_mirror_18 : decode cX3_mirror 18 = .ok (.iinc 1 1, 3) := by decide +kernel
theorem dX3_mirror_21 : decode cX3_mirror 21 = .ok (.goto (-19), 3) := by decide +kernel
theorem dX3_mirror_24 : decode cX3_mirror 24 = .ok (.return_, 1) := by decide +kernel
theorem dX3_exchange_0 : decode cX3_exchange 0 = .ok (.iload_n 1, 1) := by decide +kernel
theorem dX3_exchange_1 : decode cX3_exchange 1 = .ok (.ifCond .lt 75, 3) := by decide +kernel
theorem dX3_exchange_4 : decode cX3_exchange 4 = .ok (.iload_n 1, 1) := by decide +kernel
theorem dX3_exchange_5 : decode cX3_exchange 5 = .ok (.getstatic 69, 3) := by decide +kernel
theorem dX3_exchange_8 : decode cX3_exchange 8 = .ok (.arraylength, 1) := by decide +kernel
theorem dX3_exchange_9 : decode cX3_exchange 9 = .ok (.if_icmp .ge 67, 3) := by decide +kernel
theorem dX3_exchange_12 : decode cX3_exchange 12 = .ok (.getstatic 69, 3) := by decide +kernel
theorem dX3_exchange_15 : decode cX3_exchange 15 = .ok (.iload_n 1, 1) := by decide +kernel
theorem dX3_exchange_16 : decode cX3_exchange 16 = .ok (.laload, 1) := by decide +kernel
theorem dX3_exchange_17 : decode cX3_exchange 17 = .ok (.lstore_n 2, 1) := by decide +kernel
theorem dX3_exchange_18 : decode cX3_exchange 18 = .ok (.iconst 0, 1) := by decide +kernel
theorem dX3_exchange_19 : decode cX3_exchange 19 = .ok (.istore 4, 2) := by decide +kernel
theorem dX3_exchange_21 : decode cX3_exchange 21 = .ok (.iload 4, 2) := by decide +kernel
theorem dX3_exchange_23 : decode cX3_exchange 23 = .ok (.aload_n 0, 1) := by decide +kernel
theorem dX3_exchange_24 : decode cX3_exchange 24 = .ok (.getfield 11, 3) := by decide +kernel
theorem dX3_exchange_27 : decode cX3_exchange 27 = .ok (.getfield 41, 3) := by decide +kernel
theorem dX3_exchange_30 : decode cX3_exchange 30 = .ok (.if_icmp .ge 43, 3) := by decide +kernel
theorem dX3_exchange_33 : decode cX3_exchange 33 = .ok (.aload_n 0, 1) := by decide +kernel
theorem dX3_exchange_34 : decode cX3_exchange 34 = .ok (.getfield 15, 3) := by decide +kernel
theorem dX3_exchange_37 : decode cX3_exchange 37 = .ok (.iload 4, 2) := by decide +kernel
theorem dX3_exchange_39 : decode cX3_exchange 39 = .ok (.aload_n 0, 1) := by decide +kernel
theorem dX3_exchange_40 : decode cX3_exchange 40 = .ok (.getfield 15, 3) := by decide +kernel
theorem dX3_exchange_43 : decode cX3_exchange 43 = .ok (.iload 4, 2) := by decide +kernel
theorem dX3_exchange_45 : decode cX3_exchange 45 = .ok (.laload, 1) := by decide +kernel
theorem dX3_exchange_46 : decode cX3_exchange 46 = .ok (.iconst 1, 1) := by decide +kernel
theorem dX3_exchange_47 : decode cX3_exchange 47 = .ok (.iload_n 1, 1) := by decide +kernel
theorem dX3_exchange_48 : decode cX3_exchange 48 = .ok (.ishl, 1) := by decide +kernel
theorem dX3_exchange_49 : decode cX3_exchange 49 = .ok (.lushr, 1) := by decide +kernel
theorem dX3_exchange_50 : decode cX3_exchange 50 = .ok (.lload_n 2, 1) := by decide +kernel
theorem dX3_exchange_51 : decode cX3_exchange 51 = .ok (.land, 1) := by decide +kernel
theorem dX3_exchange_52 : decode cX3_exchange 52 = .ok (.aload_n 0, 1) := by decide +kernel
theorem dX3_exchange_53 : decode cX3_exchange 53 = .ok (.getfield 15, 3) := by decide +kernel
theorem dX3_exchange_56 : decode cX3_exchange 56 = .ok (.iload 4, 2) := by decide +kernel
theorem dX3_exchange_58 : decode cX3_exchange 58 = .ok (.laload, 1) := by decide +kernel
theorem dX3_exchange_59 : decode cX3_exchange 59 = .ok (.lload_n 2, 1) := by decide +kernel
theorem dX3_exchange_60 : decode cX3_exchange 60 = .ok (.land, 1) := by decide +kernel
theorem dX3_exchange_61 : decode cX3_exchange 61 = .ok (.iconst 1, 1) := by decide +kernel
theorem dX3_exchange_62 : decode cX3_exchange 62 = .ok (.iload_n 1, 1) := by decide +kernel
theorem dX3_exchange_63 : decode cX3_exchange 63 = .ok (.ishl, 1) := by decide +kernel
theorem dX3_exchange_64 : decode cX3_exchange 64 = .ok (.lshl, 1) := by decide +kernel
theorem dX3_exchange_65 : decode cX3_exchange 65 = .ok (.lor, 1) := by decide +kernel
theorem dX3_exchange_66 : decode cX3_exchange 66 = .ok (.lastore, 1) := by decide +kernel
theorem dX3_exchange_67 : decode cX3_exchange 67 = .ok (.iinc 4 1, 3) := by decide +kernel
theorem dX3_exchange_70 : decode cX3_exchange 70 = .ok (.goto (-49), 3) := by decide +kernel
theorem dX3_exchange_73 : decode cX3_exchange 73 = .ok (.goto 69, 3) := by decide +kernel
theorem dX3_exchange_76 : decode cX3_exchange 76 = .ok (.iconst 1, 1) := by decide +kernel
theorem dX3_exchange_77 : decode cX3_exchange 77 = .ok (.iload_n 1, 1) := by decide +kernel
theorem dX3_exchange_78 : decode cX3_exchange 78 = .ok (.bipush 6, 2) := by decide +kernel
theorem dX3_exchange_80 : decode cX3_exchange 80 = .ok (.isub, 1) := by decide +kernel
theorem dX3_exchange_81 : decode cX3_exchange 81 = .ok (.ishl, 1) := by decide +kernel
theorem dX3_exchange_82 : decode cX3_exchange 82 = .ok (.istore_n 2, 1) := by decide +kernel
theorem dX3_exchange_83 : decode cX3_exchange 83 = .ok (.iconst 0, 1) := by decide +kernel
theorem dX3_exchange_84 : decode cX3_exchange 84 = .ok (.istore_n 3, 1) := by decide +kernel
theorem dX3_exchange_85 : decode cX3_exchange 85 = .ok (.iload_n 3, 1) := by decide +kernel
theorem dX3_exchange_86 : decode cX3_exchange 86 = .ok (.iload_n 2, 1) := by decide +kernel
theorem dX3_exchange_87 : decode cX3_exchange 87 = .ok (.iadd, 1) := by decide +kernel
theorem dX3_exchange_88 : decode cX3_exchange 88 = .ok (.aload_n 0, 1) := by decide +kernel
theorem dX3_exchange_89 : decode cX3_exchange 89 = .ok (.getfield 11, 3) := by decide +kernel
theorem dX3_exchange_92 : decode cX3_exchange 92 = .ok (.getfield 41, 3) := by decide +kernel
theorem dX3_exchange_95 : decode cX3_exchange 95 = .ok (.if_icmp .ge 47, 3) := by decide +kernel
theorem dX3_exchange_98 : decode cX3_exchange 98 = .ok (.iload_n 3, 1) := by decide +kernel
theorem dX3_exchange_99 : decode cX3_exchange 99 = .ok (.iload_n 2, 1) := by decide +kernel
theorem dX3_exchange_100 : decode cX3_exchange 100 = .ok (.iand, 1) := by decide +kernel
theorem dX3_exchange_101 : decode cX3_exchange 101 = .ok (.ifCond .ne 35, 3) := by decide +kernel
theorem dX3_exchange_104 : decode cX3_exchange 104 = .ok (.aload_n 0, 1) := by decide +kernel
theorem dX3_exchange_105 : decode cX3_exchange 105 = .ok (.getfield 15, 3) := by decide +kernel
theorem dX3_exchange_108 : decode cX3_exchange 108 = .ok (.iload_n 3, 1) := by decide +kernel
theorem dX3_exchange_109 : decode cX3_exchange 109 = .ok (.laload, 1) := by decide +kernel
theorem dX3_exchange_110 : decode cX3_exchange 110 = .ok (.lstore 4, 2) := by decide +kernel
theorem dX3_exchange_112 : decode cX3_exchange 112 = .ok (.aload_n 0, 1) := by decide +kernel
theorem dX3_exchange_113 : decode cX3_exchange 113 = .ok (.getfield 15, 3) := by decide +kernel
theorem dX3_exchange_116 : decode cX3_exchange 116 = .ok (.iload_n 3, 1) := by decide +kernel
theorem dX3_exchange_117 : decode cX3_exchange 117 = .ok (.aload_n 0, 1) := by decide +kernel
theorem dX3_exchange_118 : decode cX3_exchange 118 = .ok (.getfield 15, 3) := by decide +kernel
theorem dX3_exchange_121 : decode cX3_exchange 121 = .ok (.iload_n 3, 1) := by decide +kernel
theorem dX3_exchange_122 : decode cX3_exchange 122 = .ok (.iload_n 2, 1) := by decide +kernel
theorem dX3_exchange_123 : decode cX3_exchange 123 = .ok (.iadd, 1) := by decide +kernel
theorem dX3_exchange_124 : decode cX3_exchange 124 = .ok (.laload, 1) := by decide +kernel
theorem dX3_exchange_125 : decode cX3_exchange 125 = .ok (.lastore, 1) := by decide +kernel
theorem dX3_exchange_126 : decode cX3_exchange 126 = .ok (.aload_n 0, 1) := by decide +kernel
theorem dX3_exchange_127 : decode cX3_exchange 127 = .ok (.getfield 15, 3) := by decide +kernel
theorem dX3_exchange_130 : decode cX3_exchange 130 = .ok (.iload_n 3, 1) := by decide +kernel
theorem dX3_exchange_131 : decode cX3_exchange 131 = .ok (.iload_n 2, 1) := by decide +kernel
theorem dX3_exchange_132 : decode cX3_exchange 132 = .ok (.iadd, 1) := by decide +kernel
theorem dX3_exchange_133 : decode cX3_exchange 133 = .ok (.lload 4, 2) := by decide +kernel
theorem dX3_exchange_135 : decode cX3_exchange 135 = .ok (.lastore, 1) := by decide +kernel
theorem dX3_exchange_136 : decode cX3_exchange 136 = .ok (.iinc 3 1, 3) := by decide +kernel
theorem dX3_exchange_139 : decode cX3_exchange 139 = .ok (.goto (-54), 3) := by decide +kernel
theorem dX3_exchange_142 : decode cX3_exchange 142 = .ok (.return_, 1) := by decide +kernel
theorem dX3_lowestBit_0 : decode cX3_lowestBit 0 = .ok (.lload_n 0, 1) := by decide +kernel
theorem dX3_lowestBit_1 : decode cX3_lowestBit 1 = .ok (.lload_n 0, 1) := by decide +kernel
theorem dX3_lowestBit_2 : decode cX3_lowestBit 2 = .ok (.lneg, 1) := by decide +kernel
theorem dX3_lowestBit_3 : decode cX3_lowestBit 3 = .ok (.land, 1) := by decide +kernel
theorem dX3_lowestBit_4 : decode cX3_lowestBit 4 = .ok (.lconst 1, 1) := by decide +kernel
theorem dX3_lowestBit_5 : decode cX3_lowestBit 5 = .ok (.lsub, 1) := by decide +kernel
theorem dX3_lowestBit_6 : decode cX3_lowestBit 6 = .ok (.invokestatic 46, 3) := by decide +kernel
theorem dX3_lowestBit_9 : decode cX3_lowestBit 9 = .ok (.ireturn, 1) := by decide +kernel
theorem dX3_bitAt_0 : decode cX3_bitAt 0 = .ok (.lload_n 0, 1) := by decide +kernel
theorem dX3_bitAt_1 : decode cX3_bitAt 1 = .ok (.lstore_n 3, 1) := by decide +kernel
theorem dX3_bitAt_2 : decode cX3_bitAt 2 = .ok (.iconst 0, 1) := by decide +kernel
theorem dX3_bitAt_3 : decode cX3_bitAt 3 = .ok (.istore 5, 2) := by decide +kernel
theorem dX3_bitAt_5 : decode cX3_bitAt 5 = .ok (.iload 5, 2) := by decide +kernel
theorem dX3_bitAt_7 : decode cX3_bitAt 7 = .ok (.iload_n 2, 1) := by decide +kernel
theorem dX3_bitAt_8 : decode cX3_bitAt 8 = .ok (.if_icmp .ge 15, 3) := by decide +kernel
theorem dX3_bitAt_11 : decode cX3_bitAt 11 = .ok (.lload_n 3, 1) := by decide +kernel
theorem dX3_bitAt_12 : decode cX3_bitAt 12 = .ok (.lload_n 3, 1) := by decide +kernel
theorem dX3_bitAt_13 : decode cX3_bitAt 13 = .ok (.lconst 1, 1) := by decide +kernel
theorem dX3_bitAt_14 : decode cX3_bitAt 14 = .ok (.lsub, 1) := by decide +kernel
theorem dX3_bitAt_15 : decode cX3_bitAt 15 = .ok (.land, 1) := by decide +kernel
theorem dX3_bitAt_16 : decode cX3_bitAt 16 = .ok (.lstore_n 3, 1) := by decide +kernel
theorem dX3_bitAt_17 : decode cX3_bitAt 17 = .ok (.iinc 5 1, 3) := by decide +kernel
theorem dX3_bitAt_20 : decode cX3_bitAt 20 = .ok (.goto (-15), 3) := by decide +kernel
theorem dX3_bitAt_23 : decode cX3_bitAt 23 = .ok (.lload_n 3, 1) := by decide +kernel
theorem dX3_bitAt_24 : decode cX3_bitAt 24 = .ok (.invokestatic 63, 3) := by decide +kernel
theorem dX3_bitAt_27 : decode cX3_bitAt 27 = .ok (.ireturn, 1) := by decide +kernel
theorem dX3_wordOf_0 : decode cX3_wordOf 0 = .ok (.iload_n 0, 1) := by decide +kernel
theorem dX3_wordOf_1 : decode cX3_wordOf 1 = .ok (.bipush 64, 2) := by decide +kernel
theorem dX3_wordOf_3 : decode cX3_wordOf 3 = .ok (.idiv, 1) := by decide +kernel
theorem dX3_wordOf_4 : decode cX3_wordOf 4 = .ok (.bipush 15, 2) := by decide +kernel
theorem dX3_wordOf_6 : decode cX3_wordOf 6 = .ok (.iand, 1) := by decide +kernel
theorem dX3_wordOf_7 : decode cX3_wordOf 7 = .ok (.ireturn, 1) := by decide +kernel
theorem dX3_bitOf_0 : decode cX3_bitOf 0 = .ok (.lconst 1, 1) := by decide +kernel
theorem dX3_bitOf_1 : decode cX3_bitOf 1 = .ok (.iload_n 0, 1) := by decide +kernel
theorem dX3_bitOf_2 : decode cX3_bitOf 2 = .ok (.bipush 63, 2) := by decide +kernel
theorem dX3_bitOf_4 : decode cX3_bitOf 4 = .ok (.iand, 1) := by decide +kernel
theorem dX3_bitOf_5 : decode cX3_bitOf 5 = .ok (.lshl, 1) := by decide +kernel
theorem dX3_bitOf_6 : decode cX3_bitOf 6 = .ok (.lreturn, 1) := by decide +kernel
theorem dX3_lacking_0 : decode cX3_lacking 0 = .ok (.iload_n 1, 1) := by decide +kernel
theorem dX3_lacking_1 : decode cX3_lacking 1 = .ok (.ifCond .lt 17, 3) := by decide +kernel
theorem dX3_lacking_4 : decode cX3_lacking 4 = .ok (.iload_n 1, 1) := by decide +kernel
theorem dX3_lacking_5 : decode cX3_lacking 5 = .ok (.getstatic 69, 3) := by decide +kernel
theorem dX3_lacking_8 : decode cX3_lacking 8 = .ok (.arraylength, 1) := by decide +kernel
theorem dX3_lacking_9 : decode cX3_lacking 9 = .ok (.if_icmp .ge 9, 3) := by decide +kernel
theorem dX3_lacking_12 : decode cX3_lacking 12 = .ok (.getstatic 69, 3) := by decide +kernel
theorem dX3_lacking_15 : decode cX3_lacking 15 = .ok (.iload_n 1, 1) := by decide +kernel
theorem dX3_lacking_16 : decode cX3_lacking 16 = .ok (.laload, 1) := by decide +kernel
theorem dX3_lacking_17 : decode cX3_lacking 17 = .ok (.lreturn, 1) := by decide +kernel
theorem dX3_lacking_18 : decode cX3_lacking 18 = .ok (.iload_n 0, 1) := by decide +kernel
theorem dX3_lacking_19 : decode cX3_lacking 19 = .ok (.iconst 1, 1) := by decide +kernel
theorem dX3_lacking_20 : decode cX3_lacking 20 = .ok (.iload_n 1, 1) := by decide +kernel
theorem dX3_lacking_21 : decode cX3_lacking 21 = .ok (.bipush 6, 2) := by decide +kernel
theorem dX3_lacking_23 : decode cX3_lacking 23 = .ok (.isub, 1) := by decide +kernel
theorem dX3_lacking_24 : decode cX3_lacking 24 = .ok (.ishl, 1) := by decide +kernel
theorem dX3_lacking_25 : decode cX3_lacking 25 = .ok (.iand, 1) := by decide +kernel
theorem dX3_lacking_26 : decode cX3_lacking 26 = .ok (.ifCond .ne 9, 3) := by decide +kernel
theorem dX3_lacking_29 : decode cX3_lacking 29 = .ok (.ldc2_w 39, 3) := by decide +kernel
theorem dX3_lacking_32 : decode cX3_lacking 32 = .ok (.goto 4, 3) := by decide +kernel
theorem dX3_lacking_35 : decode cX3_lacking 35 = .ok (.lconst 0, 1) := by decide +kernel
theorem dX3_lacking_36 : decode cX3_lacking 36 = .ok (.lreturn, 1) := by decide +kernel
theorem dX3_ofSize_0 : decode cX3_ofSize 0 = .ok (.iload_n 1, 1) := by decide +kernel
theorem dX3_ofSize_1 : decode cX3_ofSize 1 = .ok (.iload_n 0, 1) := by decide +kernel
theorem dX3_ofSize_2 : decode cX3_ofSize 2 = .ok (.invokestatic 89, 3) := by decide +kernel
theorem dX3_ofSize_5 : decode cX3_ofSize 5 = .ok (.isub, 1) := by decide +kernel
theorem dX3_ofSize_6 : decode cX3_ofSize 6 = .ok (.istore_n 2, 1) := by decide +kernel
theorem dX3_ofSize_7 : decode cX3_ofSize 7 = .ok (.iload_n 2, 1) := by decide +kernel
theorem dX3_ofSize_8 : decode cX3_ofSize 8 = .ok (.ifCond .lt 19, 3) := by decide +kernel
theorem dX3_ofSize_11 : decode cX3_ofSize 11 = .ok (.iload_n 2, 1) := by decide +kernel
theorem dX3_ofSize_12 : decode cX3_ofSize 12 = .ok (.getstatic 93, 3) := by decide +kernel
theorem dX3_ofSize_15 : decode cX3_ofSize 15 = .ok (.arraylength, 1) := by decide +kernel
theorem dX3_ofSize_16 : decode cX3_ofSize 16 = .ok (.if_icmp .ge 11, 3) := by decide +kernel
theorem dX3_ofSize_19 : decode cX3_ofSize 19 = .ok (.getstatic 93, 3) := by decide +kernel
theorem dX3_ofSize_22 : decode cX3_ofSize 22 = .ok (.iload_n 2, 1) := by decide +kernel
theorem dX3_ofSize_23 : decode cX3_ofSize 23 = .ok (.laload, 1) := by decide +kernel
theorem dX3_ofSize_24 : decode cX3_ofSize 24 = .ok (.goto 4, 3) := by decide +kernel
theorem dX3_ofSize_27 : decode cX3_ofSize 27 = .ok (.lconst 0, 1) := by decide +kernel
theorem dX3_ofSize_28 : decode cX3_ofSize 28 = .ok (.lreturn, 1) := by decide +kernel
theorem dX4_init_0 : decode cX4_init 0 = .ok (.aload_n 0, 1) := by decide +kernel
theorem dX4_init_1 : decode cX4_init 1 = .ok (.invokespecial 1, 3) := by decide +kernel
theorem dX4_init_4 : decode cX4_init 4 = .ok (.aload_n 0, 1) := by decide +kernel
theorem dX4_init_5 : decode cX4_init 5 = .ok (.iload_n 1, 1) := by decide +kernel
theorem dX4_init_6 : decode cX4_init 6 = .ok (.putfield 7, 3) := by decide +kernel
theorem dX4_init_9 : decode cX4_init 9 = .ok (.aload_n 0, 1) := by decide +kernel
theorem dX4_init_10 : decode cX4_init 10 = .ok (.iload_n 1, 1) := by decide +kernel
theorem dX4_init_11 : decode cX4_init 11 = .ok (.invokestatic 13, 3) := by decide +kernel
theorem dX4_init_14 : decode cX4_init 14 = .ok (.putfield 17, 3) := by decide +kernel
theorem dX4_init_17 : decode cX4_init 17 = .ok (.return_, 1) := by decide +kernel
theorem dX4_become_0 : decode cX4_become 0 = .ok (.aload_n 0, 1) := by decide +kernel
theorem dX4_become_1 : decode cX4_become 1 = .ok (.iload_n 1, 1) := by decide +kernel
theorem dX4_become_2 : decode cX4_become 2 = .ok (.putfield 7, 3) := by decide +kernel
theorem dX4_become_5 : decode cX4_become 5 = .ok (.aload_n 0, 1) := by decide +kernel
theorem dX4_become_6 : decode cX4_become 6 = .ok (.iload_n 1, 1) := by decide +kernel
theorem dX4_become_7 : decode cX4_become 7 = .ok (.invokestatic 13, 3) := by decide +kernel
theorem dX4_become_10 : decode cX4_become 10 = .ok (.putfield 17, 3) := by decide +kernel
theorem dX4_become_13 : decode cX4_become 13 = .ok (.return_, 1) := by decide +kernel
theorem dX4_everything_0 : decode cX4_everything 0 = .ok (.iconst 1, 1) := by decide +kernel
theorem dX4_everything_1 : decode cX4_everything 1 = .ok (.aload_n 0, 1) := by decide +kernel
theorem dX4_everything_2 : decode cX4_everything 2 = .ok (.getfield 7, 3) := by decide +kernel
theorem dX4_everything_5 : decode cX4_everything 5 = .ok (.ishl, 1) := by decide +kernel
theorem dX4_everything_6 : decode cX4_everything 6 = .ok (.iconst 1, 1) := by decide +kernel
theorem dX4_everything_7 : decode cX4_everything 7 = .ok (.isub, 1) := by decide +kernel
theorem dX4_everything_8 : decode cX4_everything 8 = .ok (.ireturn, 1) := by decide +kernel
theorem dX4_wordsFor_0 : decode cX4_wordsFor 0 = .ok (.iload_n 0, 1) := by decide +kernel
theorem dX4_wordsFor_1 : decode cX4_wordsFor 1 = .ok (.bipush 6, 2) := by decide +kernel
theorem dX4_wordsFor_3 : decode cX4_wordsFor 3 = .ok (.if_icmp .gt 7, 3) := by decide +kernel
theorem dX4_wordsFor_6 : decode cX4_wordsFor 6 = .ok (.iconst 1, 1) := by decide +kernel
theorem dX4_wordsFor_7 : decode cX4_wordsFor 7 = .ok (.goto 9, 3) := by decide +kernel
theorem dX4_wordsFor_10 : decode cX4_wordsFor 10 = .ok (.iconst 1, 1) := by decide +kernel
theorem dX4_wordsFor_11 : decode cX4_wordsFor 11 = .ok (.iload_n 0, 1) := by decide +kernel
theorem dX4_wordsFor_12 : decode cX4_wordsFor 12 = .ok (.bipush 6, 2) := by decide +kernel
theorem dX4_wordsFor_14 : decode cX4_wordsFor 14 = .ok (.isub, 1) := by decide +kernel
theorem dX4_wordsFor_15 : decode cX4_wordsFor 15 = .ok (.ishl, 1) := by decide +kernel
theorem dX4_wordsFor_16 : decode cX4_wordsFor 16 = .ok (.ireturn, 1) := by decide +kernel
theorem dX5_init_0 : decode cX5_init 0 = .ok (.aload_n 0, 1) := by decide +kernel
theorem dX5_init_1 : decode cX5_init 1 = .ok (.invokespecial 3, 3) := by decide +kernel
theorem dX5_init_4 : decode cX5_init 4 = .ok (.aload_n 0, 1) := by decide +kernel
theorem dX5_init_5 : decode cX5_init 5 = .ok (.iconst 4, 1) := by decide +kernel
theorem dX5_init_6 : decode cX5_init 6 = .ok (.newarray .int, 2) := by decide +kernel
theorem dX5_init_8 : decode cX5_init 8 = .ok (.putfield 11, 3) := by decide +kernel
theorem dX5_init_11 : decode cX5_init 11 = .ok (.aload_n 0, 1) := by decide +kernel
theorem dX5_init_12 : decode cX5_init 12 = .ok (.bipush 16, 2) := by decide +kernel
theorem dX5_init_14 : decode cX5_init 14 = .ok (.anewarray 15, 3) := by decide +kernel
theorem dX5_init_17 : decode cX5_init 17 = .ok (.putfield 17, 3) := by decide +kernel
theorem dX5_init_20 : decode cX5_init 20 = .ok (.iconst 0, 1) := by decide +kernel
theorem dX5_init_21 : decode cX5_init 21 = .ok (.istore_n 2, 1) := by decide +kernel
theorem dX5_init_22 : decode cX5_init 22 = .ok (.iload_n 2, 1) := by decide +kernel
theorem dX5_init_23 : decode cX5_init 23 = .ok (.aload_n 0, 1) := by decide +kernel
theorem dX5_init_24 : decode cX5_init 24 = .ok (.getfield 17, 3) := by decide +kernel
theorem dX5_init_27 : decode cX5_init 27 = .ok (.arraylength, 1) := by decide +kernel
theorem dX5_init_28 : decode cX5_init 28 = .ok (.if_icmp .ge 23, 3) := by decide +kernel
theorem dX5_init_31 : decode cX5_init 31 = .ok (.aload_n 0, 1) := by decide +kernel
theorem dX5_init_32 : decode cX5_init 32 = .ok (.getfield 17, 3) := by decide +kernel
theorem dX5_init_35 : decode cX5_init 35 = .ok (.iload_n 2, 1) := by decide +kernel
theorem dX5_init_36 : decode cX5_init 36 = .ok (.new 15, 3) := by decide +kernel
theorem dX5_init_39 : decode cX5_init 39 = .ok (.dup, 1) := by decide +kernel
theorem dX5_init_40 : decode cX5_init 40 = .ok (.aload_n 1, 1) := by decide +kernel
theorem dX5_init_41 : decode cX5_init 41 = .ok (.invokespecial 21, 3) := by decide +kernel
theorem dX5_init_44 : decode cX5_init 44 = .ok (.aastore, 1) := by decide +kernel
theorem dX5_init_45 : decode cX5_init 45 = .ok (.iinc 2 1, 3) := by decide +kernel
theorem dX5_init_48 : decode cX5_init 48 = .ok (.goto (-26), 3) := by decide +kernel
theorem dX5_init_51 : decode cX5_init 51 = .ok (.return_, 1) := by decide +kernel
theorem dX5_save_0 : decode cX5_save 0 = .ok (.aload_n 0, 1) := by decide +kernel
theorem dX5_save_1 : decode cX5_save 1 = .ok (.aload_n 0, 1) := by decide +kernel
theorem dX5_save_2 : decode cX5_save 2 = .ok (.getfield 24, 3) := by decide +kernel
theorem dX5_save_5 : decode cX5_save 5 = .ok (.iconst 1, 1) := by decide +kernel
theorem dX5_save_6 : decode cX5_save 6 = .ok (.iadd, 1) := by decide +kernel
theorem dX5_save_7 : decode cX5_save 7 = .ok (.iconst 4, 1) := by decide +kernel
theorem dX5_save_8 : decode cX5_save 8 = .ok (.irem, 1) := by decide +kernel
theorem dX5_save_9 : decode cX5_save 9 = .ok (.putfield 24, 3) := by decide +kernel
theorem dX5_save_12 : decode cX5_save 12 = .ok (.aload_n 0, 1) := by decide +kernel
theorem dX5_save_13 : decode cX5_save 13 = .ok (.getfield 11, 3) := by decide +kernel
theorem dX5_save_16 : decode cX5_save 16 = .ok (.aload_n 0, 1) := by decide +kernel
theorem dX5_save_17 : decode cX5_save 17 = .ok (.getfield 24, 3) := by decide +kernel
theorem dX5_save_20 : decode cX5_save 20 = .ok (.aload_n 1, 1) := by decide +kernel
theorem dX5_save_21 : decode cX5_save 21 = .ok (.getfield 28, 3) := by decide +kernel
theorem dX5_save_24 : decode cX5_save 24 = .ok (.iastore, 1) := by decide +kernel
theorem dX5_save_25 : decode cX5_save 25 = .ok (.iconst 0, 1) := by decide +kernel
theorem dX5_save_26 : decode cX5_save 26 = .ok (.istore_n 3, 1) := by decide +kernel
theorem dX5_save_27 : decode cX5_save 27 = .ok (.iload_n 3, 1) := by decide +kernel
theorem dX5_save_28 : decode cX5_save 28 = .ok (.iconst 4, 1) := by decide +kernel
theorem dX5_save_29 : decode cX5_save 29 = .ok (.if_icmp .ge 28, 3) := by decide +kernel
theorem dX5_save_32 : decode cX5_save 32 = .ok (.aload_n 0, 1) := by decide +kernel
theorem dX5_save_33 : decode cX5_save 33 = .ok (.getfield 17, 3) := by decide +kernel
theorem dX5_save_36 : decode cX5_save 36 = .ok (.aload_n 0, 1) := by decide +kernel
theorem dX5_save_37 : decode cX5_save 37 = .ok (.getfield 24, 3) := by decide +kernel
theorem dX5_save_40 : decode cX5_save 40 = .ok (.iconst 4, 1) := by decide +kernel
theorem dX5_save_41 : decode cX5_save 41 = .ok (.imul, 1) := by decide +kernel
theorem dX5_save_42 : decode cX5_save 42 = .ok (.iload_n 3, 1) := by decide +kernel
theorem dX5_save_43 : decode cX5_save 43 = .ok (.iadd, 1) := by decide +kernel
theorem dX5_save_44 : decode cX5_save 44 = .ok (.aaload, 1) := by decide +kernel
theorem dX5_save_45 : decode cX5_save 45 = .ok (.aload_n 2, 1) := by decide +kernel
theorem dX5_save_46 : decode cX5_save 46 = .ok (.iload_n 3, 1) := by decide +kernel
theorem dX5_save_47 : decode cX5_save 47 = .ok (.aaload, 1) := by decide +kernel
theorem dX5_save_48 : decode cX5_save 48 = .ok (.invokevirtual 32, 3) := by decide +kernel
theorem dX5_save_51 : decode cX5_save 51 = .ok (.iinc 3 1, 3) := by decide +kernel
theorem dX5_save_54 : decode cX5_save 54 = .ok (.goto (-27), 3) := by decide +kernel
theorem dX5_save_57 : decode cX5_save 57 = .ok (.aload_n 0, 1) := by decide +kernel
theorem dX5_save_58 : decode cX5_save 58 = .ok (.aload_n 0, 1) := by decide +kernel
theorem dX5_save_59 : decode cX5_save 59 = .ok (.getfield 36, 3) := by decide +kernel
theorem dX5_save_62 : decode cX5_save 62 = .ok (.iconst 1, 1) := by decide +kernel
theorem dX5_save_63 : decode cX5_save 63 = .ok (.iadd, 1) := by decide +kernel
theorem dX5_save_64 : decode cX5_save 64 = .ok (.iconst 4, 1) := by decide +kernel
theorem dX5_save_65 : decode cX5_save 65 = .ok (.invokestatic 39, 3) := by decide +kernel
theorem dX5_save_68 : decode cX5_save 68 = .ok (.putfield 36, 3) := by decide +kernel
theorem dX5_save_71 : decode cX5_save 71 = .ok (.return_, 1) := by decide +kernel
theorem dX5_restore_0 : decode cX5_restore 0 = .ok (.aload_n 1, 1) := by decide +kernel
theorem dX5_restore_1 : decode cX5_restore 1 = .ok (.aload_n 0, 1) := by decide +kernel
theorem dX5_restore_2 : decode cX5_restore 2 = .ok (.getfield 11, 3) := by decide +kernel
theorem dX5_restore_5 : decode cX5_restore 5 = .ok (.aload_n 0, 1) := by decide +kernel
theorem dX5_restore_6 : decode cX5_restore 6 = .ok (.getfield 24, 3) := by decide +kernel
theorem dX5_restore_9 : decode cX5_restore 9 = .ok (.iaload, 1) := by decide +kernel
theorem dX5_restore_10 : decode cX5_restore 10 = .ok (.invokevirtual 45, 3) := by decide +kernel
theorem dX5_restore_13 : decode cX5_restore 13 = .ok (.iconst 0, 1) := by decide +kernel
theorem dX5_restore_14 : decode cX5_restore 14 = .ok (.istore_n 3, 1) := by decide +kernel
theorem dX5_restore_15 : decode cX5_restore 15 = .ok (.iload_n 3, 1) := by decide +kernel
theorem dX5_restore_16 : decode cX5_restore 16 = .ok (.iconst 4, 1) := by decide +kernel
theorem dX5_restore_17 : decode cX5_restore 17 = .ok (.if_icmp .ge 28, 3) := by decide +kernel
theorem dX5_restore_20 : decode cX5_restore 20 = .ok (.aload_n 2, 1) := by decide +kernel
theorem dX5_restore_21 : decode cX5_restore 21 = .ok (.iload_n 3, 1) := by decide +kernel
theorem dX5_restore_22 : decode cX5_restore 22 = .ok (.aaload, 1) := by decide +kernel
theorem dX5_restore_23 : decode cX5_restore 23 = .ok (.aload_n 0, 1) := by decide +kernel
theorem dX5_restore_24 : decode cX5_restore 24 = .ok (.getfield 17, 3) := by decide +kernel
theorem dX5_restore_27 : decode cX5_restore 27 = .ok (.aload_n 0, 1) := by decide +kernel
theorem dX5_restore_28 : decode cX5_restore 28 = .ok (.getfield 24, 3) := by decide +kernel
theorem dX5_restore_31 : decode cX5_restore 31 = .ok (.iconst 4, 1) := by decide +kernel
theorem dX5_restore_32 : decode cX5_restore 32 = .ok (.imul, 1) := by decide +kernel
theorem dX5_restore_33 : decode cX5_restore 33 = .ok (.iload_n 3, 1) := by decide +kernel
theorem dX5_restore_34 : decode cX5_restore 34 = .ok (.iadd, 1) := by decide +kernel
theorem dX5_restore_35 : decode cX5_restore 35 = .ok (.aaload, 1) := by decide +kernel
theorem dX5_restore_36 : decode cX5_restore 36 = .ok (.invokevirtual 32, 3) := by decide +kernel
theorem dX5_restore_39 : decode cX5_restore 39 = .ok (.iinc 3 1, 3) := by decide +kernel
theorem dX5_restore_42 : decode cX5_restore 42 = .ok (.goto (-27), 3) := by decide +kernel
theorem dX5_restore_45 : decode cX5_restore 45 = .ok (.aload_n 0, 1) := by decide +kernel
theorem dX5_restore_46 : decode cX5_restore 46 = .ok (.aload_n 0, 1) := by decide +kernel
theorem dX5_restore_47 : decode cX5_restore 47 = .ok (.getfield 24, 3) := by decide +kernel
theorem dX5_restore_50 : decode cX5_restore 50 = .ok (.iconst 4, 1) := by decide +kernel
theorem dX5_restore_51 : decode cX5_restore 51 = .ok (.iadd, 1) := by decide +kernel
theorem dX5_restore_52 : decode cX5_restore 52 = .ok (.iconst 1, 1) := by decide +kernel
theorem dX5_restore_53 : decode cX5_restore 53 = .ok (.isub, 1) := by decide +kernel
theorem dX5_restore_54 : decode cX5_restore 54 = .ok (.iconst 4, 1) := by decide +kernel
theorem dX5_restore_55 : decode cX5_restore 55 = .ok (.irem, 1) := by decide +kernel
theorem dX5_restore_56 : decode cX5_restore 56 = .ok (.putfield 24, 3) := by decide +kernel
theorem dX5_restore_59 : decode cX5_restore 59 = .ok (.aload_n 0, 1) := by decide +kernel
theorem dX5_restore_60 : decode cX5_restore 60 = .ok (.dup, 1) := by decide +kernel
theorem dX5_restore_61 : decode cX5_restore 61 = .ok (.getfield 36, 3) := by decide +kernel
theorem dX5_restore_64 : decode cX5_restore 64 = .ok (.iconst 1, 1) := by decide +kernel
theorem dX5_restore_65 : decode cX5_restore 65 = .ok (.isub, 1) := by decide +kernel
theorem dX5_restore_66 : decode cX5_restore 66 = .ok (.putfield 36, 3) := by decide +kernel
theorem dX5_restore_69 : decode cX5_restore 69 = .ok (.return_, 1) := by decide +kernel
theorem dX6_init_0 : decode cX6_init 0 = .ok (.aload_n 0, 1) := by decide +kernel
theorem dX6_init_1 : decode cX6_init 1 = .ok (.invokespecial 3, 3) := by decide +kernel
theorem dX6_init_4 : decode cX6_init 4 = .ok (.aload_n 0, 1) := by decide +kernel
theorem dX6_init_5 : decode cX6_init 5 = .ok (.aload_n 1, 1) := by decide +kernel
theorem dX6_init_6 : decode cX6_init 6 = .ok (.putfield 9, 3) := by decide +kernel
theorem dX6_init_9 : decode cX6_init 9 = .ok (.aload_n 0, 1) := by decide +kernel
theorem dX6_init_10 : decode cX6_init 10 = .ok (.sipush 1024, 3) := by decide +kernel
theorem dX6_init_13 : decode cX6_init 13 = .ok (.newarray .int, 2) := by decide +kernel
theorem dX6_init_15 : decode cX6_init 15 = .ok (.putfield 15, 3) := by decide +kernel
theorem dX6_init_18 : decode cX6_init 18 = .ok (.aload_n 0, 1) := by decide +kernel
theorem dX6_init_19 : decode cX6_init 19 = .ok (.bipush 11, 2) := by decide +kernel
theorem dX6_init_21 : decode cX6_init 21 = .ok (.newarray .long, 2) := by decide +kernel
theorem dX6_init_23 : decode cX6_init 23 = .ok (.putfield 19, 3) := by decide +kernel
theorem dX6_init_26 : decode cX6_init 26 = .ok (.return_, 1) := by decide +kernel
theorem dX6_withCommon_0 : decode cX6_withCommon 0 = .ok (.iload_n 1, 1) := by decide +kernel
theorem dX6_withCommon_1 : decode cX6_withCommon 1 = .ok (.ifCond .lt 22, 3) := by decide +kernel
theorem dX6_withCommon_4 : decode cX6_withCommon 4 = .ok (.iload_n 1, 1) := by decide +kernel
theorem dX6_withCommon_5 : decode cX6_withCommon 5 = .ok (.aload_n 0, 1) := by decide +kernel
theorem dX6_withCommon_6 : decode cX6_withCommon 6 = .ok (.getfield 19, 3) := by decide +kernel
theorem dX6_withCommon_9 : decode cX6_withCommon 9 = .ok (.arraylength, 1) := by decide +kernel
theorem dX6_withCommon_10 : decode cX6_withCommon 10 = .ok (.if_icmp .ge 13, 3) := by decide +kernel
theorem dX6_withCommon_13 : decode cX6_withCommon 13 = .ok (.aload_n 0, 1) := by decide +kernel
theorem dX6_withCommon_14 : decode cX6_withCommon 14 = .ok (.getfield 19, 3) := by decide +kernel
theorem dX6_withCommon_17 : decode cX6_withCommon 17 = .ok (.iload_n 1, 1) := by decide +kernel
theorem dX6_withCommon_18 : decode cX6_withCommon 18 = .ok (.laload, 1) := by decide +kernel
theorem dX6_withCommon_19 : decode cX6_withCommon 19 = .ok (.l2i, 1) := by decide +kernel
theorem dX6_withCommon_20 : decode cX6_withCommon 20 = .ok (.goto 4, 3) := by decide +kernel
theorem dX6_withCommon_23 : decode cX6_withCommon 23 = .ok (.iconst 0, 1) := by decide +kernel
theorem dX6_withCommon_24 : decode cX6_withCommon 24 = .ok (.ireturn, 1) := by decide +kernel
theorem dX6_countAll_0 : decode cX6_countAll 0 = .ok (.aload_n 0, 1) := by decide +kernel
theorem dX6_countAll_1 : decode cX6_countAll 1 = .ok (.aload_n 1, 1) := by decide +kernel
theorem dX6_countAll_2 : decode cX6_countAll 2 = .ok (.invokevirtual 23, 3) := by decide +kernel
theorem dX6_countAll_5 : decode cX6_countAll 5 = .ok (.aload_n 0, 1) := by decide +kernel
theorem dX6_countAll_6 : decode cX6_countAll 6 = .ok (.invokevirtual 27, 3) := by decide +kernel
theorem dX6_countAll_9 : decode cX6_countAll 9 = .ok (.aload_n 0, 1) := by decide +kernel
theorem dX6_countAll_10 : decode cX6_countAll 10 = .ok (.getfield 9, 3) := by decide +kernel
theorem dX6_countAll_13 : decode cX6_countAll 13 = .ok (.getfield 30, 3) := by decide +kernel
theorem dX6_countAll_16 : decode cX6_countAll 16 = .ok (.istore_n 2, 1) := by decide +kernel
theorem dX6_countAll_17 : decode cX6_countAll 17 = .ok (.iload_n 2, 1) := by decide +kernel
theorem dX6_countAll_18 : decode cX6_countAll 18 = .ok (.ifCond .lt 51, 3) := by decide +kernel
theorem dX6_countAll_21 : decode cX6_countAll 21 = .ok (.iload_n 2, 1) := by decide +kernel
theorem dX6_countAll_22 : decode cX6_countAll 22 = .ok (.iconst 1, 1) := by decide +kernel
theorem dX6_countAll_23 : decode cX6_countAll 23 = .ok (.iadd, 1) := by decide +kernel
theorem dX6_countAll_24 : decode cX6_countAll 24 = .ok (.istore_n 3, 1) := by decide +kernel
theorem dX6_countAll_25 : decode cX6_countAll 25 = .ok (.iload_n 3, 1) := by decide +kernel
theorem dX6_countAll_26 : decode cX6_countAll 26 = .ok (.aload_n 0, 1) := by decide +kernel
theorem dX6_countAll_27 : decode cX6_countAll 27 = .ok (.getfield 9, 3) := by decide +kernel
theorem dX6_countAll_30 : decode cX6_countAll 30 = .ok (.getfield 30, 3) := by decide +kernel
theorem dX6_countAll_33 : decode cX6_countAll 33 = .ok (.if_icmp .gt 30, 3) := by decide +kernel
theorem dX6_countAll_36 : decode cX6_countAll 36 = .ok (.aload_n 0, 1) := by decide +kernel
theorem dX6_countAll_37 : decode cX6_countAll 37 = .ok (.getfield 19, 3) := by decide +kernel
theorem dX6_countAll_40 : decode cX6_countAll 40 = .ok (.iload_n 2, 1) := by decide +kernel
theorem dX6_countAll_41 : decode cX6_countAll 41 = .ok (.dup2, 1) := by decide +kernel
theorem dX6_countAll_42 : decode cX6_countAll 42 = .ok (.laload, 1) := by decide +kernel
theorem dX6_countAll_43 : decode cX6_countAll 43 = .ok (.iload_n 3, 1) := by decide +kernel
theorem dX6_countAll_44 : decode cX6_countAll 44 = .ok (.iload_n 2, 1) := by decide +kernel
theorem dX6_countAll_45 : decode cX6_countAll 45 = .ok (.invokestatic 36, 3) := by decide +kernel
theorem dX6_countAll_48 : decode cX6_countAll 48 = .ok (.aload_n 0, 1) := by decide +kernel
theorem dX6_countAll_49 : decode cX6_countAll 49 = .ok (.getfield 19, 3) := by decide +kernel
theorem dX6_countAll_52 : decode cX6_countAll 52 = .ok (.iload_n 3, 1) := by decide +kernel
theorem dX6_countAll_53 : decode cX6_countAll 53 = .ok (.laload, 1) := by decide +kernel
theorem dX6_countAll_54 : decode cX6_countAll 54 = .ok (.lmul, 1) := by decide +kernel
theorem dX6_countAll_55 : decode cX6_countAll 55 = .ok (.lsub, 1) := by decide +kernel
theorem dX6_countAll_56 : decode cX6_countAll 56 = .ok (.lastore, 1) := by decide +kernel
theorem dX6_countAll_57 : decode cX6_countAll 57 = .ok (.iinc 3 1, 3) := by decide +kernel
theorem dX6_countAll_60 : decode cX6_countAll 60 = .ok (.goto (-35), 3) := by decide +kernel
theorem dX6_countAll_63 : decode cX6_countAll 63 = .ok (.iinc 2 (-1), 3) := by decide +kernel
theorem dX6_countAll_66 : decode cX6_countAll 66 = .ok (.goto (-49), 3) := by decide +kernel
theorem dX6_countAll_69 : decode cX6_countAll 69 = .ok (.return_, 1) := by decide +kernel
theorem dX6_countAbove_0 : decode cX6_countAbove 0 = .ok (.aload_n 0, 1) := by decide +kernel
theorem dX6_countAbove_1 : decode cX6_countAbove 1 = .ok (.getfield 9, 3) := by decide +kernel
theorem dX6_countAbove_4 : decode cX6_countAbove 4 = .ok (.invokevirtual 42, 3) := by decide +kernel
theorem dX6_countAbove_7 : decode cX6_countAbove 7 = .ok (.istore_n 2, 1) := by decide +kernel
theorem dX6_countAbove_8 : decode cX6_countAbove 8 = .ok (.iconst 0, 1) := by decide +kernel
theorem dX6_countAbove_9 : decode cX6_countAbove 9 = .ok (.istore_n 3, 1) := by decide +kernel
theorem dX6_countAbove_10 : decode cX6_countAbove 10 = .ok (.iload_n 3, 1) := by decide +kernel
theorem dX6_countAbove_11 : decode cX6_countAbove 11 = .ok (.iload_n 2, 1) := by decide +kernel
theorem dX6_countAbove_12 : decode cX6_countAbove 12 = .ok (.if_icmp .gt 28, 3) := by decide +kernel
theorem dX6_countAbove_15 : decode cX6_countAbove 15 = .ok (.aload_n 0, 1) := by decide +kernel
theorem dX6_countAbove_16 : decode cX6_countAbove 16 = .ok (.getfield 15, 3) := by decide +kernel
theorem dX6_countAbove_19 : decode cX6_countAbove 19 = .ok (.iload_n 3, 1) := by decide +kernel
theorem dX6_countAbove_20 : decode cX6_countAbove 20 = .ok (.aload_n 1, 1) := by decide +kernel
theorem dX6_countAbove_21 : decode cX6_countAbove 21 = .ok (.iload_n 3, 1) := by decide +kernel
theorem dX6_countAbove_22 : decode cX6_countAbove 22 = .ok (.invokevirtual 46, 3) := by decide +kernel
theorem dX6_countAbove_25 : decode cX6_countAbove 25 = .ok (.ifCond .eq 7, 3) := by decide +kernel
theorem dX6_countAbove_28 : decode cX6_countAbove 28 = .ok (.iconst 1, 1) := by decide +kernel
theorem dX6_countAbove_29 : decode cX6_countAbove 29 = .ok (.goto 4, 3) := by decide +kernel
theorem dX6_countAbove_32 : decode cX6_countAbove 32 = .ok (.iconst 0, 1) := by decide +kernel
theorem dX6_countAbove_33 : decode cX6_countAbove 33 = .ok (.iastore, 1) := by decide +kernel
theorem dX6_countAbove_34 : decode cX6_countAbove 34 = .ok (.iinc 3 1, 3) := by decide +kernel
theorem dX6_countAbove_37 : decode cX6_countAbove 37 = .ok (.goto (-27), 3) := by decide +kernel
theorem dX6_countAbove_40 : decode cX6_countAbove 40 = .ok (.iconst 0, 1) := by decide +kernel
theorem dX6_countAbove_41 : decode cX6_countAbove 41 = .ok (.istore_n 3, 1) := by decide +kernel
theorem dX6_countAbove_42 : decode cX6_countAbove 42 = .ok (.iload_n 3, 1) := by decide +kernel
theorem dX6_countAbove_43 : decode cX6_countAbove 43 = .ok (.aload_n 0, 1) := by decide +kernel
theorem dX6_countAbove_44 : decode cX6_countAbove 44 = .ok (.getfield 9, 3) := by decide +kernel
theorem dX6_countAbove_47 : decode cX6_countAbove 47 = .ok (.getfield 30, 3) := by decide +kernel
theorem dX6_countAbove_50 : decode cX6_countAbove 50 = .ok (.if_icmp .ge 60, 3) := by decide +kernel
theorem dX6_countAbove_53 : decode cX6_countAbove 53 = .ok (.iconst 1, 1) := by decide +kernel
theorem dX6_countAbove_54 : decode cX6_countAbove 54 = .ok (.iload_n 3, 1) := by decide +kernel
theorem dX6_countAbove_55 : decode cX6_countAbove 55 = .ok (.ishl, 1) := by decide +kernel
theorem dX6_countAbove_56 : decode cX6_countAbove 56 = .ok (.istore 4, 2) := by decide +kernel
theorem dX6_countAbove_58 : decode cX6_countAbove 58 = .ok (.iconst 0, 1) := by decide +kernel
theorem dX6_countAbove_59 : decode cX6_countAbove 59 = .ok (.istore 5, 2) := by decide +kernel
theorem dX6_countAbove_61 : decode cX6_countAbove 61 = .ok (.iload 5, 2) := by decide +kernel
theorem dX6_countAbove_63 : decode cX6_countAbove 63 = .ok (.iload 4, 2) := by decide +kernel
theorem dX6_countAbove_65 : decode cX6_countAbove 65 = .ok (.iadd, 1) := by decide +kernel
theorem dX6_countAbove_66 : decode cX6_countAbove 66 = .ok (.iload_n 2, 1) := by decide +kernel
theorem dX6_countAbove_67 : decode cX6_countAbove 67 = .ok (.if_icmp .gt 37, 3) := by decide +kernel
theorem dX6_countAbove_70 : decode cX6_countAbove 70 = .ok (.iload 5, 2) := by decide +kernel
theorem dX6_countAbove_72 : decode cX6_countAbove 72 = .ok (.iload 4, 2) := by decide +kernel
theorem dX6_countAbove_74 : decode cX6_countAbove 74 = .ok (.iand, 1) := by decide +kernel
theorem dX6_countAbove_75 : decode cX6_countAbove 75 = .ok (.ifCond .ne 23, 3) := by decide +kernel
theorem dX6_countAbove_78 : decode cX6_countAbove 78 = .ok (.aload_n 0, 1) := by decide +kernel
theorem dX6_countAbove_79 : decode cX6_countAbove 79 = .ok (.getfield 15, 3) := by decide +kernel
theorem dX6_countAbove_82 : decode cX6_countAbove 82 = .ok (.iload 5, 2) := by decide +kernel
theorem dX6_countAbove_84 : decode cX6_countAbove 84 = .ok (.dup2, 1) := by decide +kernel
theorem dX6_countAbove_85 : decode cX6_countAbove 85 = .ok (.iaload, 1) := by decide +kernel
theorem dX6_countAbove_86 : decode cX6_countAbove 86 = .ok (.aload_n 0, 1) := by decide +kernel
theorem dX6_countAbove_87 : decode cX6_countAbove 87 = .ok (.getfield 15, 3) := by decide +kernel
theorem dX6_countAbove_90 : decode cX6_countAbove 90 = .ok (.iload 5, 2) := by decide +kernel
theorem dX6_countAbove_92 : decode cX6_countAbove 92 = .ok (.iload 4, 2) := by decide +kernel
theorem dX6_countAbove_94 : decode cX6_countAbove 94 = .ok (.iadd, 1) := by decide +kernel
theorem dX6_countAbove_95 : decode cX6_countAbove 95 = .ok (.iaload, 1) := by decide +kernel
theorem dX6_countAbove_96 : decode cX6_countAbove 96 = .ok (.iadd, 1) := by decide +kernel
theorem dX6_countAbove_97 : decode cX6_countAbove 97 = .ok (.iastore, 1) := by decide +kernel
theorem dX6_countAbove_98 : decode cX6_countAbove 98 = .ok (.iinc 5 1, 3) := by decide +kernel
theorem dX6_countAbove_101 : decode cX6_countAbove 101 = .ok (.goto (-40), 3) := by decide +kernel
theorem dX6_countAbove_104 : decode cX6_countAbove 104 = .ok (.iinc 3 1, 3) := by decide +kernel
theorem dX6_countAbove_107 : decode cX6_countAbove 107 = .ok (.goto (-65), 3) := by decide +kernel
theorem dX6_countAbove_110 : decode cX6_countAbove 110 = .ok (.return_, 1) := by decide +kernel
theorem dX6_countCommonSubsets_0 : decode cX6_countCommonSubsets 0 = .ok (.aload_n 0, 1) := by decide +kernel
theorem dX6_countCommonSubsets_1 : decode cX6_countCommonSubsets 1 = .ok (.getfield 19, 3) := by decide +kernel
theorem dX6_countCommonSubsets_4 : decode cX6_countCommonSubsets 4 = .ok (.lconst 0, 1) := by decide +kernel
theorem dX6_countCommonSubsets_5 : decode cX6_countCommonSubsets 5 = .ok (.invokestatic 52, 3) := by decide +kernel
theorem dX6_countCommonSubsets_8 : decode cX6_countCommonSubsets 8 = .ok (.iconst 0, 1) := by decide +kernel
theorem dX6_countCommonSubsets_9 : decode cX6_countCommonSubsets 9 = .ok (.istore_n 1, 1) := by decide +kernel
theorem dX6_countCommonSubsets_10 : decode cX6_countCommonSubsets 10 = .ok (.iload_n 1, 1) := by decide +kernel
theorem dX6_countCommonSubsets_11 : decode cX6_countCommonSubsets 11 = .ok (.aload_n 0, 1) := by decide +kernel
theorem dX6_countCommonSubsets_12 : decode cX6_countCommonSubsets 12 = .ok (.getfield 9, 3) := by decide +kernel
theorem dX6_countCommonSubsets_15 : decode cX6_countCommonSubsets 15 = .ok (.invokevirtual 42, 3) := by decide +kernel
theorem dX6_countCommonSubsets_18 : decode cX6_countCommonSubsets 18 = .ok (.if_icmp .gt 38, 3) := by decide +kernel
theorem dX6_countCommonSubsets_21 : decode cX6_countCommonSubsets 21 = .ok (.aload_n 0, 1) := by decide +kernel
theorem dX6_countCommonSubsets_22 : decode cX6_countCommonSubsets 22 = .ok (.getfield 15, 3) := by decide +kernel
theorem dX6_countCommonSubsets_25 : decode cX6_countCommonSubsets 25 = .ok (.iload_n 1, 1) := by decide +kernel
theorem dX6_countCommonSubsets_26 : decode cX6_countCommonSubsets 26 = .ok (.iaload, 1) := by decide +kernel
theorem dX6_countCommonSubsets_27 : decode cX6_countCommonSubsets 27 = .ok (.i2l, 1) := by decide +kernel
theorem dX6_countCommonSubsets_28 : decode cX6_countCommonSubsets 28 = .ok (.lstore_n 2, 1) := by decide +kernel
theorem dX6_countCommonSubsets_29 : decode cX6_countCommonSubsets 29 = .ok (.aload_n 0, 1) := by decide +kernel
theorem dX6_countCommonSubsets_30 : decode cX6_countCommonSubsets 30 = .ok (.getfield 19, 3) := by decide +kernel
theorem dX6_countCommonSubsets_33 : decode cX6_countCommonSubsets 33 = .ok (.iload_n 1, 1) := by decide +kernel
theorem dX6_countCommonSubsets_34 : decode cX6_countCommonSubsets 34 = .ok (.invokestatic 58, 3) := by decide +kernel
theorem dX6_countCommonSubsets_37 : decode cX6_countCommonSubsets 37 = .ok (.dup2, 1) := by decide +kernel
theorem dX6_countCommonSubsets_38 : decode cX6_countCommonSubsets 38 = .ok (.laload, 1) := by decide +kernel
theorem dX6_countCommonSubsets_39 : decode cX6_countCommonSubsets 39 = .ok (.lload_n 2, 1) := by decide +kernel
theorem dX6_countCommonSubsets_40 : decode cX6_countCommonSubsets 40 = .ok (.lload_n 2, 1) := by decide +kernel
theorem dX6_countCommonSubsets_41 : decode cX6_countCommonSubsets 41 = .ok (.lconst 1, 1) := by decide +kernel
theorem dX6_countCommonSubsets_42 : decode cX6_countCommonSubsets 42 = .ok (.lsub, 1) := by decide +kernel
theorem dX6_countCommonSubsets_43 : decode cX6_countCommonSubsets 43 = .ok (.lmul, 1) := by decide +kernel
theorem dX6_countCommonSubsets_44 : decode cX6_countCommonSubsets 44 = .ok (.ldc2_w 64, 3) := by decide +kernel
theorem dX6_countCommonSubsets_47 : decode cX6_countCommonSubsets 47 = .ok (.ldiv, 1) := by decide +kernel
theorem dX6_countCommonSubsets_48 : decode cX6_countCommonSubsets 48 = .ok (.ladd, 1) := by decide +kernel
theorem dX6_countCommonSubsets_49 : decode cX6_countCommonSubsets 49 = .ok (.lastore, 1) := by decide +kernel
theorem dX6_countCommonSubsets_50 : decode cX6_countCommonSubsets 50 = .ok (.iinc 1 1, 3) := by decide +kernel
theorem dX6_countCommonSubsets_53 : decode cX6_countCommonSubsets 53 = .ok (.goto (-43), 3) := by decide +kernel
theorem dX6_countCommonSubsets_56 : decode cX6_countCommonSubsets 56 = .ok (.return_, 1) := by decide +kernel
theorem dX7_init_0 : decode cX7_init 0 = .ok (.aload_n 0, 1) := by decide +kernel
theorem dX7_init_1 : decode cX7_init 1 = .ok (.invokespecial 3, 3) := by decide +kernel
theorem dX7_init_4 : decode cX7_init 4 = .ok (.aload_n 0, 1) := by decide +kernel
theorem dX7_init_5 : decode cX7_init 5 = .ok (.aload_n 1, 1) := by decide +kernel
theorem dX7_init_6 : decode cX7_init 6 = .ok (.putfield 9, 3) := by decide +kernel
theorem dX7_init_9 : decode cX7_init 9 = .ok (.aload_n 0, 1) := by decide +kernel
theorem dX7_init_10 : decode cX7_init 10 = .ok (.bipush 11, 2) := by decide +kernel
theorem dX7_init_12 : decode cX7_init 12 = .ok (.anewarray 15, 3) := by decide +kernel
theorem dX7_init_15 : decode cX7_init 15 = .ok (.putfield 17, 3) := by decide +kernel
theorem dX7_init_18 : decode cX7_init 18 = .ok (.iconst 0, 1) := by decide +kernel
theorem dX7_init_19 : decode cX7_init 19 = .ok (.istore_n 2, 1) := by decide +kernel
theorem dX7_init_20 : decode cX7_init 20 = .ok (.iload_n 2, 1) := by decide +kernel
theorem dX7_init_21 : decode cX7_init 21 = .ok (.aload_n 0, 1) := by decide +kernel
theorem dX7_init_22 : decode cX7_init 22 = .ok (.getfield 17, 3) := by decide +kernel
theorem dX7_init_25 : decode cX7_init 25 = .ok (.arraylength, 1) := by decide +kernel
theorem dX7_init_26 : decode cX7_init 26 = .ok (.if_icmp .ge 23, 3) := by decide +kernel
theorem dX7_init_29 : decode cX7_init 29 = .ok (.aload_n 0, 1) := by decide +kernel
theorem dX7_init_30 : decode cX7_init 30 = .ok (.getfield 17, 3) := by decide +kernel
theorem dX7_init_33 : decode cX7_init 33 = .ok (.iload_n 2, 1) := by decide +kernel
theorem dX7_init_34 : decode cX7_init 34 = .ok (.new 15, 3) := by decide +kernel
theorem dX7_init_37 : decode cX7_init 37 = .ok (.dup, 1) := by decide +kernel
theorem dX7_init_38 : decode cX7_init 38 = .ok (.aload_n 1, 1) := by decide +kernel
theorem dX7_init_39 : decode cX7_init 39 = .ok (.invokespecial 21, 3) := by decide +kernel
theorem dX7_init_42 : decode cX7_init 42 = .ok (.aastore, 1) := by decide +kernel
theorem dX7_init_43 : decode cX7_init 43 = .ok (.iinc 2 1, 3) := by decide +kernel
theorem dX7_init_46 : decode cX7_init 46 = .ok (.goto (-26), 3) := by decide +kernel
theorem dX7_init_49 : decode cX7_init 49 = .ok (.return_, 1) := by decide +kernel
theorem dX7_firstLargest_0 : decode cX7_firstLargest 0 = .ok (.aload_n 1, 1) := by decide +kernel
theorem dX7_firstLargest_1 : decode cX7_firstLargest 1 = .ok (.invokevirtual 24, 3) := by decide +kernel
theorem dX7_firstLargest_4 : decode cX7_firstLargest 4 = .ok (.ifCond .ne 5, 3) := by decide +kernel
theorem dX7_firstLargest_7 : decode cX7_firstLargest 7 = .ok (.iconst (-1), 1) := by decide +kernel
theorem dX7_firstLargest_8 : decode cX7_firstLargest 8 = .ok (.ireturn, 1) := by decide +kernel
theorem dX7_firstLargest_9 : decode cX7_firstLargest 9 = .ok (.aload_n 0, 1) := by decide +kernel
theorem dX7_firstLargest_10 : decode cX7_firstLargest 10 = .ok (.getfield 9, 3) := by decide +kernel
theorem dX7_firstLargest_13 : decode cX7_firstLargest 13 = .ok (.invokevirtual 28, 3) := by decide +kernel
theorem dX7_firstLargest_16 : decode cX7_firstLargest 16 = .ok (.istore_n 2, 1) := by decide +kernel
theorem dX7_firstLargest_17 : decode cX7_firstLargest 17 = .ok (.iconst 0, 1) := by decide +kernel
theorem dX7_firstLargest_18 : decode cX7_firstLargest 18 = .ok (.istore_n 3, 1) := by decide +kernel
theorem dX7_firstLargest_19 : decode cX7_firstLargest 19 = .ok (.iconst 0, 1) := by decide +kernel
theorem dX7_firstLargest_20 : decode cX7_firstLargest 20 = .ok (.istore 4, 2) := by decide +kernel
theorem dX7_firstLargest_22 : decode cX7_firstLargest 22 = .ok (.iconst 0, 1) := by decide +kernel
theorem dX7_firstLargest_23 : decode cX7_firstLargest 23 = .ok (.istore 5, 2) := by decide +kernel
theorem dX7_firstLargest_25 : decode cX7_firstLargest 25 = .ok (.iconst 0, 1) := by decide +kernel
theorem dX7_firstLargest_26 : decode cX7_firstLargest 26 = .ok (.istore 6, 2) := by decide +kernel
theorem dX7_firstLargest_28 : decode cX7_firstLargest 28 = .ok (.iload 6, 2) := by decide +kernel
theorem dX7_firstLargest_30 : decode cX7_firstLargest 30 = .ok (.iload_n 2, 1) := by decide +kernel
theorem dX7_firstLargest_31 : decode cX7_firstLargest 31 = .ok (.if_icmp .gt 85, 3) := by decide +kernel
theorem dX7_firstLargest_34 : decode cX7_firstLargest 34 = .ok (.iload 6, 2) := by decide +kernel
theorem dX7_firstLargest_36 : decode cX7_firstLargest 36 = .ok (.iload 5, 2) := by decide +kernel
theorem dX7_firstLargest_38 : decode cX7_firstLargest 38 = .ok (.if_icmp .ge 6, 3) := by decide +kernel
theorem dX7_firstLargest_41 : decode cX7_firstLargest 41 = .ok (.goto 69, 3) := by decide +kernel
theorem dX7_firstLargest_44 : decode cX7_firstLargest 44 = .ok (.iload_n 2, 1) := by decide +kernel
theorem dX7_firstLargest_45 : decode cX7_firstLargest 45 = .ok (.iload 6, 2) := by decide +kernel
theorem dX7_firstLargest_47 : decode cX7_firstLargest 47 = .ok (.ixor, 1) := by decide +kernel
theorem dX7_firstLargest_48 : decode cX7_firstLargest 48 = .ok (.istore 7, 2) := by decide +kernel
theorem dX7_firstLargest_50 : decode cX7_firstLargest 50 = .ok (.iload 7, 2) := by decide +kernel
theorem dX7_firstLargest_52 : decode cX7_firstLargest 52 = .ok (.invokestatic 33, 3) := by decide +kernel
theorem dX7_firstLargest_55 : decode cX7_firstLargest 55 = .ok (.istore 8, 2) := by decide +kernel
theorem dX7_firstLargest_57 : decode cX7_firstLargest 57 = .ok (.aload_n 0, 1) := by decide +kernel
theorem dX7_firstLargest_58 : decode cX7_firstLargest 58 = .ok (.aload_n 1, 1) := by decide +kernel
theorem dX7_firstLargest_59 : decode cX7_firstLargest 59 = .ok (.iload 6, 2) := by decide +kernel
theorem dX7_firstLargest_61 : decode cX7_firstLargest 61 = .ok (.invokevirtual 39, 3) := by decide +kernel
theorem dX7_firstLargest_64 : decode cX7_firstLargest 64 = .ok (.invokevirtual 24, 3) := by decide +kernel
theorem dX7_firstLargest_67 : decode cX7_firstLargest 67 = .ok (.iconst 1, 1) := by decide +kernel
theorem dX7_firstLargest_68 : decode cX7_firstLargest 68 = .ok (.iload 8, 2) := by decide +kernel
theorem dX7_firstLargest_70 : decode cX7_firstLargest 70 = .ok (.ishl, 1) := by decide +kernel
theorem dX7_firstLargest_71 : decode cX7_firstLargest 71 = .ok (.if_icmp .ne 17, 3) := by decide +kernel
theorem dX7_firstLargest_74 : decode cX7_firstLargest 74 = .ok (.iload 8, 2) := by decide +kernel
theorem dX7_firstLargest_76 : decode cX7_firstLargest 76 = .ok (.iload 4, 2) := by decide +kernel
theorem dX7_firstLargest_78 : decode cX7_firstLargest 78 = .ok (.if_icmp .lt 10, 3) := by decide +kernel
theorem dX7_firstLargest_81 : decode cX7_firstLargest 81 = .ok (.iload 7, 2) := by decide +kernel
theorem dX7_firstLargest_83 : decode cX7_firstLargest 83 = .ok (.istore_n 3, 1) := by decide +kernel
theorem dX7_firstLargest_84 : decode cX7_firstLargest 84 = .ok (.iload 8, 2) := by decide +kernel
theorem dX7_firstLargest_86 : decode cX7_firstLargest 86 = .ok (.istore 4, 2) := by decide +kernel
theorem dX7_firstLargest_88 : decode cX7_firstLargest 88 = .ok (.iload 8, 2) := by decide +kernel
theorem dX7_firstLargest_90 : decode cX7_firstLargest 90 = .ok (.iload 4, 2) := by decide +kernel
theorem dX7_firstLargest_92 : decode cX7_firstLargest 92 = .ok (.if_icmp .le 10, 3) := by decide +kernel
theorem dX7_firstLargest_95 : decode cX7_firstLargest 95 = .ok (.iload 6, 2) := by decide +kernel
theorem dX7_firstLargest_97 : decode cX7_firstLargest 97 = .ok (.iconst 1, 1) := by decide +kernel
theorem dX7_firstLargest_98 : decode cX7_firstLargest 98 = .ok (.iadd, 1) := by decide +kernel
theorem dX7_firstLargest_99 : decode cX7_firstLargest 99 = .ok (.goto 9, 3) := by decide +kernel
theorem dX7_firstLargest_102 : decode cX7_firstLargest 102 = .ok (.iload 6, 2) := by decide +kernel
theorem dX7_firstLargest_104 : decode cX7_firstLargest 104 = .ok (.iload_n 2, 1) := by decide +kernel
theorem dX7_firstLargest_105 : decode cX7_firstLargest 105 = .ok (.invokestatic 43, 3) := by decide +kernel
theorem dX7_firstLargest_108 : decode cX7_firstLargest 108 = .ok (.istore 5, 2) := by decide +kernel
theorem dX7_firstLargest_110 : decode cX7_firstLargest 110 = .ok (.iinc 6 1, 3) := by decide +kernel
theorem dX7_firstLargest_113 : decode cX7_firstLargest 113 = .ok (.goto (-85), 3) := by decide +kernel
theorem dX7_firstLargest_116 : decode cX7_firstLargest 116 = .ok (.iload_n 3, 1) := by decide +kernel
theorem dX7_firstLargest_117 : decode cX7_firstLargest 117 = .ok (.ireturn, 1) := by decide +kernel
theorem dX7_layTrace_0 : decode cX7_layTrace 0 = .ok (.iload_n 2, 1) := by decide +kernel
theorem dX7_layTrace_1 : decode cX7_layTrace 1 = .ok (.invokestatic 33, 3) := by decide +kernel
theorem dX7_layTrace_4 : decode cX7_layTrace 4 = .ok (.bipush 10, 2) := by decide +kernel
theorem dX7_layTrace_6 : decode cX7_layTrace 6 = .ok (.invokestatic 47, 3) := by decide +kernel
theorem dX7_layTrace_9 : decode cX7_layTrace 9 = .ok (.istore_n 3, 1) := by decide +kernel
theorem dX7_layTrace_10 : decode cX7_layTrace 10 = .ok (.aload_n 0, 1) := by decide +kernel
theorem dX7_layTrace_11 : decode cX7_layTrace 11 = .ok (.getfield 17, 3) := by decide +kernel
theorem dX7_layTrace_14 : decode cX7_layTrace 14 = .ok (.iload_n 3, 1) := by decide +kernel
theorem dX7_layTrace_15 : decode cX7_layTrace 15 = .ok (.aaload, 1) := by decide +kernel
theorem dX7_layTrace_16 : decode cX7_layTrace 16 = .ok (.astore 4, 2) := by decide +kernel
theorem dX7_layTrace_18 : decode cX7_layTrace 18 = .ok (.iload_n 3, 1) := by decide +kernel
theorem dX7_layTrace_19 : decode cX7_layTrace 19 = .ok (.ifCond .ne 12, 3) := by decide +kernel
theorem dX7_layTrace_22 : decode cX7_layTrace 22 = .ok (.aload 4, 2) := by decide +kernel
theorem dX7_layTrace_24 : decode cX7_layTrace 24 = .ok (.aload_n 1, 1) := by decide +kernel
theorem dX7_layTrace_25 : decode cX7_layTrace 25 = .ok (.invokevirtual 52, 3) := by decide +kernel
theorem dX7_layTrace_28 : decode cX7_layTrace 28 = .ok (.goto 26, 3) := by decide +kernel
theorem dX7_layTrace_31 : decode cX7_layTrace 31 = .ok (.aload 4, 2) := by decide +kernel
theorem dX7_layTrace_33 : decode cX7_layTrace 33 = .ok (.aload_n 0, 1) := by decide +kernel
theorem dX7_layTrace_34 : decode cX7_layTrace 34 = .ok (.getfield 17, 3) := by decide +kernel
theorem dX7_layTrace_37 : decode cX7_layTrace 37 = .ok (.iload_n 3, 1) := by decide +kernel
theorem dX7_layTrace_38 : decode cX7_layTrace 38 = .ok (.iconst 1, 1) := by decide +kernel
theorem dX7_layTrace_39 : decode cX7_layTrace 39 = .ok (.isub, 1) := by decide +kernel
theorem dX7_layTrace_40 : decode cX7_layTrace 40 = .ok (.aaload, 1) := by decide +kernel
theorem dX7_layTrace_41 : decode cX7_layTrace 41 = .ok (.invokevirtual 52, 3) := by decide +kernel
theorem dX7_layTrace_44 : decode cX7_layTrace 44 = .ok (.aload 4, 2) := by decide +kernel
theorem dX7_layTrace_46 : decode cX7_layTrace 46 = .ok (.iload_n 2, 1) := by decide +kernel
theorem dX7_layTrace_47 : decode cX7_layTrace 47 = .ok (.i2l, 1) := by decide +kernel
theorem dX7_layTrace_48 : decode cX7_layTrace 48 = .ok (.invokestatic 56, 3) := by decide +kernel
theorem dX7_layTrace_51 : decode cX7_layTrace 51 = .ok (.invokevirtual 60, 3) := by decide +kernel
theorem dX7_layTrace_54 : decode cX7_layTrace 54 = .ok (.aload 4, 2) := by decide +kernel
theorem dX7_layTrace_56 : decode cX7_layTrace 56 = .ok (.areturn, 1) := by decide +kernel
theorem dX8_init_0 : decode cX8_init 0 = .ok (.aload_n 0, 1) := by decide +kernel
theorem dX8_init_1 : decode cX8_init 1 = .ok (.invokespecial 3, 3) := by decide +kernel
theorem dX8_init_4 : decode cX8_init 4 = .ok (.aload_n 0, 1) := by decide +kernel
theorem dX8_init_5 : decode cX8_init 5 = .ok (.aload_n 1, 1) := by decide +kernel
theorem dX8_init_6 : decode cX8_init 6 = .ok (.putfield 9, 3) := by decide +kernel
theorem dX8_init_9 : decode cX8_init 9 = .ok (.aload_n 0, 1) := by decide +kernel
theorem dX8_init_10 : decode cX8_init 10 = .ok (.aload_n 2, 1) := by decide +kernel
theorem dX8_init_11 : decode cX8_init 11 = .ok (.putfield 15, 3) := by decide +kernel
theorem dX8_init_14 : decode cX8_init 14 = .ok (.aload_n 0, 1) := by decide +kernel
theorem dX8_init_15 : decode cX8_init 15 = .ok (.bipush 11, 2) := by decide +kernel
theorem dX8_init_17 : decode cX8_init 17 = .ok (.anewarray 19, 3) := by decide +kernel
theorem dX8_init_20 : decode cX8_init 20 = .ok (.putfield 21, 3) := by decide +kernel
theorem dX8_init_23 : decode cX8_init 23 = .ok (.iconst 0, 1) := by decide +kernel
theorem dX8_init_24 : decode cX8_init 24 = .ok (.istore_n 3, 1) := by decide +kernel
theorem dX8_init_25 : decode cX8_init 25 = .ok (.iload_n 3, 1) := by decide +kernel
theorem dX8_init_26 : decode cX8_init 26 = .ok (.aload_n 0, 1) := by decide +kernel
theorem dX8_init_27 : decode cX8_init 27 = .ok (.getfield 21, 3) := by decide +kernel
theorem dX8_init_30 : decode cX8_init 30 = .ok (.arraylength, 1) := by decide +kernel
theorem dX8_init_31 : decode cX8_init 31 = .ok (.if_icmp .ge 23, 3) := by decide +kernel
theorem dX8_init_34 : decode cX8_init 34 = .ok (.aload_n 0, 1) := by decide +kernel
theorem dX8_init_35 : decode cX8_init 35 = .ok (.getfield 21, 3) := by decide +kernel
theorem dX8_init_38 : decode cX8_init 38 = .ok (.iload_n 3, 1) := by decide +kernel
theorem dX8_init_39 : decode cX8_init 39 = .ok (.new 19, 3) := by decide +kernel
theorem dX8_init_42 : decode cX8_init 42 = .ok (.dup, 1) := by decide +kernel
theorem dX8_init_43 : decode cX8_init 43 = .ok (.aload_n 1, 1) := by decide +kernel
theorem dX8_init_44 : decode cX8_init 44 = .ok (.invokespecial 25, 3) := by decide +kernel
theorem dX8_init_47 : decode cX8_init 47 = .ok (.aastore, 1) := by decide +kernel
theorem dX8_init_48 : decode cX8_init 48 = .ok (.iinc 3 1, 3) := by decide +kernel
theorem dX8_init_51 : decode cX8_init 51 = .ok (.goto (-26), 3) := by decide +kernel
theorem dX8_init_54 : decode cX8_init 54 = .ok (.aload_n 0, 1) := by decide +kernel
theorem dX8_init_55 : decode cX8_init 55 = .ok (.new 19, 3) := by decide +kernel
theorem dX8_init_58 : decode cX8_init 58 = .ok (.dup, 1) := by decide +kernel
theorem dX8_init_59 : decode cX8_init 59 = .ok (.aload_n 1, 1) := by decide +kernel
theorem dX8_init_60 : decode cX8_init 60 = .ok (.invokespecial 25, 3) := by decide +kernel
theorem dX8_init_63 : decode cX8_init 63 = .ok (.putfield 28, 3) := by decide +kernel
theorem dX8_init_66 : decode cX8_init 66 = .ok (.aload_n 0, 1) := by decide +kernel
theorem dX8_init_67 : decode cX8_init 67 = .ok (.new 19, 3) := by decide +kernel
theorem dX8_init_70 : decode cX8_init 70 = .ok (.dup, 1) := by decide +kernel
theorem dX8_init_71 : decode cX8_init 71 = .ok (.aload_n 1, 1) := by decide +kernel
theorem dX8_init_72 : decode cX8_init 72 = .ok (.invokespecial 25, 3) := by decide +kernel
theorem dX8_init_75 : decode cX8_init 75 = .ok (.putfield 32, 3) := by decide +kernel
theorem dX8_init_78 : decode cX8_init 78 = .ok (.aload_n 0, 1) := by decide +kernel
theorem dX8_init_79 : decode cX8_init 79 = .ok (.sipush 1024, 3) := by decide +kernel
theorem dX8_init_82 : decode cX8_init 82 = .ok (.newarray .int, 2) := by decide +kernel
theorem dX8_init_84 : decode cX8_init 84 = .ok (.putfield 35, 3) := by decide +kernel
theorem dX8_init_87 : decode cX8_init 87 = .ok (.return_, 1) := by decide +kernel
theorem dX8_leastCore_0 : decode cX8_leastCore 0 = .ok (.aload_n 0, 1) := by decide +kernel
theorem dX8_leastCore_1 : decode cX8_leastCore 1 = .ok (.getfield 9, 3) := by decide +kernel
theorem dX8_leastCore_4 : decode cX8_leastCore 4 = .ok (.invokevirtual 39, 3) := by decide +kernel
theorem dX8_leastCore_7 : decode cX8_leastCore 7 = .ok (.istore_n 2, 1) := by decide +kernel
theorem dX8_leastCore_8 : decode cX8_leastCore 8 = .ok (.iconst 0, 1) := by decide +kernel
theorem dX8_leastCore_9 : decode cX8_leastCore 9 = .ok (.istore_n 3, 1) := by decide +kernel
theorem dX8_leastCore_10 : decode cX8_leastCore 10 = .ok (.iconst 0, 1) := by decide +kernel
theorem dX8_leastCore_11 : decode cX8_leastCore 11 = .ok (.istore 4, 2) := by decide +kernel
theorem dX8_leastCore_13 : decode cX8_leastCore 13 = .ok (.iload 4, 2) := by decide +kernel
theorem dX8_leastCore_15 : decode cX8_leastCore 15 = .ok (.iload_n 2, 1) := by decide +kernel
theorem dX8_leastCore_16 : decode cX8_leastCore 16 = .ok (.if_icmp .gt 79, 3) := by decide +kernel
theorem dX8_leastCore_19 : decode cX8_leastCore 19 = .ok (.iload 4, 2) := by decide +kernel
theorem dX8_leastCore_21 : decode cX8_leastCore 21 = .ok (.iload_n 3, 1) := by decide +kernel
theorem dX8_leastCore_22 : decode cX8_leastCore 22 = .ok (.if_icmp .ge 6, 3) := by decide +kernel
theorem dX8_leastCore_25 : decode cX8_leastCore 25 = .ok (.goto 64, 3) := by decide +kernel
theorem dX8_leastCore_28 : decode cX8_leastCore 28 = .ok (.aload_n 0, 1) := by decide +kernel
theorem dX8_leastCore_29 : decode cX8_leastCore 29 = .ok (.aload_n 1, 1) := by decide +kernel
theorem dX8_leastCore_30 : decode cX8_leastCore 30 = .ok (.iload 4, 2) := by decide +kernel
theorem dX8_leastCore_32 : decode cX8_leastCore 32 = .ok (.invokevirtual 45, 3) := by decide +kernel
theorem dX8_leastCore_35 : decode cX8_leastCore 35 = .ok (.astore 5, 2) := by decide +kernel
theorem dX8_leastCore_37 : decode cX8_leastCore 37 = .ok (.aload 5, 2) := by decide +kernel
theorem dX8_leastCore_39 : decode cX8_leastCore 39 = .ok (.invokevirtual 49, 3) := by decide +kernel
theorem dX8_leastCore_42 : decode cX8_leastCore 42 = .ok (.iconst 3, 1) := by decide +kernel
theorem dX8_leastCore_43 : decode cX8_leastCore 43 = .ok (.if_icmp .lt 7, 3) := by decide +kernel
theorem dX8_leastCore_46 : decode cX8_leastCore 46 = .ok (.iconst 1, 1) := by decide +kernel
theorem dX8_leastCore_47 : decode cX8_leastCore 47 = .ok (.goto 4, 3) := by decide +kernel
theorem dX8_leastCore_50 : decode cX8_leastCore 50 = .ok (.iconst 0, 1) := by decide +kernel
theorem dX8_leastCore_51 : decode cX8_leastCore 51 = .ok (.istore 6, 2) := by decide +kernel
theorem dX8_leastCore_53 : decode cX8_leastCore 53 = .ok (.iload 6, 2) := by decide +kernel
theorem dX8_leastCore_55 : decode cX8_leastCore 55 = .ok (.ifCond .eq 15, 3) := by decide +kernel
theorem dX8_leastCore_58 : decode cX8_leastCore 58 = .ok (.aload_n 0, 1) := by decide +kernel
theorem dX8_leastCore_59 : decode cX8_leastCore 59 = .ok (.aload 5, 2) := by decide +kernel
theorem dX8_leastCore_61 : decode cX8_leastCore 61 = .ok (.invokevirtual 52, 3) := by decide +kernel
theorem dX8_leastCore_64 : decode cX8_leastCore 64 = .ok (.ifCond .eq 6, 3) := by decide +kernel
theorem dX8_leastCore_67 : decode cX8_leastCore 67 = .ok (.iload 4, 2) := by decide +kernel
theorem dX8_leastCore_69 : decode cX8_leastCore 69 = .ok (.ireturn, 1) := by decide +kernel
theorem dX8_leastCore_70 : decode cX8_leastCore 70 = .ok (.iload 6, 2) := by decide +kernel
theorem dX8_leastCore_72 : decode cX8_leastCore 72 = .ok (.ifCond .eq 10, 3) := by decide +kernel
theorem dX8_leastCore_75 : decode cX8_leastCore 75 = .ok (.iload 4, 2) := by decide +kernel
theorem dX8_leastCore_77 : decode cX8_leastCore 77 = .ok (.iconst 1, 1) := by decide +kernel
theorem dX8_leastCore_78 : decode cX8_leastCore 78 = .ok (.iadd, 1) := by decide +kernel
theorem dX8_leastCore_79 : decode cX8_leastCore 79 = .ok (.goto 9, 3) := by decide +kernel
theorem dX8_leastCore_82 : decode cX8_leastCore 82 = .ok (.iload 4, 2) := by decide +kernel
theorem dX8_leastCore_84 : decode cX8_leastCore 84 = .ok (.iload_n 2, 1) := by decide +kernel
theorem dX8_leastCore_85 : decode cX8_leastCore 85 = .ok (.invokestatic 56, 3) := by decide +kernel
theorem dX8_leastCore_88 : decode cX8_leastCore 88 = .ok (.istore_n 3, 1) := by decide +kernel
theorem dX8_leastCore_89 : decode cX8_leastCore 89 = .ok (.iinc 4 1, 3) := by decide +kernel
theorem dX8_leastCore_92 : decode cX8_leastCore 92 = .ok (.goto (-79), 3) := by decide +kernel
theorem dX8_leastCore_95 : decode cX8_leastCore 95 = .ok (.iconst (-1), 1) := by decide +kernel
theorem dX8_leastCore_96 : decode cX8_leastCore 96 = .ok (.ireturn, 1) := by decide +kernel
theorem dX8_layLink_0 : decode cX8_layLink 0 = .ok (.iload_n 2, 1) := by decide +kernel
theorem dX8_layLink_1 : decode cX8_layLink 1 = .ok (.invokestatic 60, 3) := by decide +kernel
theorem dX8_layLink_4 : decode cX8_layLink 4 = .ok (.bipush 10, 2) := by decide +kernel
theorem dX8_layLink_6 : decode cX8_layLink 6 = .ok (.invokestatic 66, 3) := by decide +kernel
theorem dX8_layLink_9 : decode cX8_layLink 9 = .ok (.istore_n 3, 1) := by decide +kernel
theorem dX8_layLink_10 : decode cX8_layLink 10 = .ok (.aload_n 0, 1) := by decide +kernel
theorem dX8_layLink_11 : decode cX8_layLink 11 = .ok (.getfield 21, 3) := by decide +kernel
theorem dX8_layLink_14 : decode cX8_layLink 14 = .ok (.iload_n 3, 1) := by decide +kernel
theorem dX8_layLink_15 : decode cX8_layLink 15 = .ok (.aaload, 1) := by decide +kernel
theorem dX8_layLink_16 : decode cX8_layLink 16 = .ok (.astore 4, 2) := by decide +kernel
theorem dX8_layLink_18 : decode cX8_layLink 18 = .ok (.iload_n 3, 1) := by decide +kernel
theorem dX8_layLink_19 : decode cX8_layLink 19 = .ok (.ifCond .ne 12, 3) := by decide +kernel
theorem dX8_layLink_22 : decode cX8_layLink 22 = .ok (.aload 4, 2) := by decide +kernel
theorem dX8_layLink_24 : decode cX8_layLink 24 = .ok (.aload_n 1, 1) := by decide +kernel
theorem dX8_layLink_25 : decode cX8_layLink 25 = .ok (.invokevirtual 71, 3) := by decide +kernel
theorem dX8_layLink_28 : decode cX8_layLink 28 = .ok (.goto 26, 3) := by decide +kernel
theorem dX8_layLink_31 : decode cX8_layLink 31 = .ok (.aload 4, 2) := by decide +kernel
theorem dX8_layLink_33 : decode cX8_layLink 33 = .ok (.invokevirtual 75, 3) := by decide +kernel
theorem dX8_layLink_36 : decode cX8_layLink 36 = .ok (.aload 4, 2) := by decide +kernel
theorem dX8_layLink_38 : decode cX8_layLink 38 = .ok (.aload_n 0, 1) := by decide +kernel
theorem dX8_layLink_39 : decode cX8_layLink 39 = .ok (.getfield 21, 3) := by decide +kernel
theorem dX8_layLink_42 : decode cX8_layLink 42 = .ok (.iload_n 3, 1) := by decide +kernel
theorem dX8_layLink_43 : decode cX8_layLink 43 = .ok (.iconst 1, 1) := by decide +kernel
theorem dX8_layLink_44 : decode cX8_layLink 44 = .ok (.isub, 1) := by decide +kernel
theorem dX8_layLink_45 : decode cX8_layLink 45 = .ok (.aaload, 1) := by decide +kernel
theorem dX8_layLink_46 : decode cX8_layLink 46 = .ok (.iload_n 2, 1) := by decide +kernel
theorem dX8_layLink_47 : decode cX8_layLink 47 = .ok (.i2l, 1) := by decide +kernel
theorem dX8_layLink_48 : decode cX8_layLink 48 = .ok (.invokestatic 78, 3) := by decide +kernel
theorem dX8_layLink_51 : decode cX8_layLink 51 = .ok (.invokevirtual 82, 3) := by decide +kernel
theorem dX8_layLink_54 : decode cX8_layLink 54 = .ok (.aload 4, 2) := by decide +kernel
theorem dX8_layLink_56 : decode cX8_layLink 56 = .ok (.areturn, 1) := by decide +kernel
theorem dX8_hasDisjointSets_0 : decode cX8_hasDisjointSets 0 = .ok (.aload_n 0, 1) := by decide +kernel
theorem dX8_hasDisjointSets_1 : decode cX8_hasDisjointSets 1 = .ok (.getfield 28, 3) := by decide +kernel
theorem dX8_hasDisjointSets_4 : decode cX8_hasDisjointSets 4 = .ok (.aload_n 1, 1) := by decide +kernel
theorem dX8_hasDisjointSets_5 : decode cX8_hasDisjointSets 5 = .ok (.invokevirtual 71, 3) := by decide +kernel
theorem dX8_hasDisjointSets_8 : decode cX8_hasDisjointSets 8 = .ok (.aload_n 0, 1) := by decide +kernel
theorem dX8_hasDisjointSets_9 : decode cX8_hasDisjointSets 9 = .ok (.getfield 28, 3) := by decide +kernel
theorem dX8_hasDisjointSets_12 : decode cX8_hasDisjointSets 12 = .ok (.iconst 0, 1) := by decide +kernel
theorem dX8_hasDisjointSets_13 : decode cX8_hasDisjointSets 13 = .ok (.invokevirtual 86, 3) := by decide +kernel
theorem dX8_hasDisjointSets_16 : decode cX8_hasDisjointSets 16 = .ok (.aload_n 0, 1) := by decide +kernel
theorem dX8_hasDisjointSets_17 : decode cX8_hasDisjointSets 17 = .ok (.getfield 15, 3) := by decide +kernel
theorem dX8_hasDisjointSets_20 : decode cX8_hasDisjointSets 20 = .ok (.aload_n 0, 1) := by decide +kernel
theorem dX8_hasDisjointSets_21 : decode cX8_hasDisjointSets 21 = .ok (.getfield 32, 3) := by decide +kernel
theorem dX8_hasDisjointSets_24 : decode cX8_hasDisjointSets 24 = .ok (.aload_n 0, 1) := by decide +kernel
theorem dX8_hasDisjointSets_25 : decode cX8_hasDisjointSets 25 = .ok (.getfield 28, 3) := by decide +kernel
theorem dX8_hasDisjointSets_28 : decode cX8_hasDisjointSets 28 = .ok (.invokevirtual 90, 3) := by decide +kernel
theorem dX8_hasDisjointSets_31 : decode cX8_hasDisjointSets 31 = .ok (.aload_n 0, 1) := by decide +kernel
theorem dX8_hasDisjointSets_32 : decode cX8_hasDisjointSets 32 = .ok (.getfield 32, 3) := by decide +kernel
theorem dX8_hasDisjointSets_35 : decode cX8_hasDisjointSets 35 = .ok (.aload_n 0, 1) := by decide +kernel
theorem dX8_hasDisjointSets_36 : decode cX8_hasDisjointSets 36 = .ok (.getfield 35, 3) := by decide +kernel
theorem dX8_hasDisjointSets_39 : decode cX8_hasDisjointSets 39 = .ok (.invokevirtual 96, 3) := by decide +kernel
theorem dX8_hasDisjointSets_42 : decode cX8_hasDisjointSets 42 = .ok (.aload_n 0, 1) := by decide +kernel
theorem dX8_hasDisjointSets_43 : decode cX8_hasDisjointSets 43 = .ok (.getfield 35, 3) := by decide +kernel
theorem dX8_hasDisjointSets_46 : decode cX8_hasDisjointSets 46 = .ok (.arraylength, 1) := by decide +kernel
theorem dX8_hasDisjointSets_47 : decode cX8_hasDisjointSets 47 = .ok (.invokestatic 66, 3) := by decide +kernel
theorem dX8_hasDisjointSets_50 : decode cX8_hasDisjointSets 50 = .ok (.istore_n 2, 1) := by decide +kernel
theorem dX8_hasDisjointSets_51 : decode cX8_hasDisjointSets 51 = .ok (.aload_n 1, 1) := by decide +kernel
theorem dX8_hasDisjointSets_52 : decode cX8_hasDisjointSets 52 = .ok (.iconst 0, 1) := by decide +kernel
theorem dX8_hasDisjointSets_53 : decode cX8_hasDisjointSets 53 = .ok (.invokevirtual 100, 3) := by decide +kernel
theorem dX8_hasDisjointSets_56 : decode cX8_hasDisjointSets 56 = .ok (.ifCond .eq 13, 3) := by decide +kernel
theorem dX8_hasDisjointSets_59 : decode cX8_hasDisjointSets 59 = .ok (.aload_n 0, 1) := by decide +kernel
theorem dX8_hasDisjointSets_60 : decode cX8_hasDisjointSets 60 = .ok (.iconst 0, 1) := by decide +kernel
theorem dX8_hasDisjointSets_61 : decode cX8_hasDisjointSets 61 = .ok (.iload_n 2, 1) := by decide +kernel
theorem dX8_hasDisjointSets_62 : decode cX8_hasDisjointSets 62 = .ok (.iconst 0, 1) := by decide +kernel
theorem dX8_hasDisjointSets_63 : decode cX8_hasDisjointSets 63 = .ok (.invokevirtual 104, 3) := by decide +kernel
theorem dX8_hasDisjointSets_66 : decode cX8_hasDisjointSets 66 = .ok (.goto 8, 3) := by decide +kernel
theorem dX8_hasDisjointSets_69 : decode cX8_hasDisjointSets 69 = .ok (.aload_n 0, 1) := by decide +kernel
theorem dX8_hasDisjointSets_70 : decode cX8_hasDisjointSets 70 = .ok (.iload_n 2, 1) := by decide +kernel
theorem dX8_hasDisjointSets_71 : decode cX8_hasDisjointSets 71 = .ok (.invokevirtual 108, 3) := by decide +kernel
theorem dX8_hasDisjointSets_74 : decode cX8_hasDisjointSets 74 = .ok (.ireturn, 1) := by decide +kernel
theorem dX8_hasTriple_0 : decode cX8_hasTriple 0 = .ok (.iconst 0, 1) := by decide +kernel
theorem dX8_hasTriple_1 : decode cX8_hasTriple 1 = .ok (.istore_n 2, 1) := by decide +kernel
theorem dX8_hasTriple_2 : decode cX8_hasTriple 2 = .ok (.iload_n 2, 1) := by decide +kernel
theorem dX8_hasTriple_3 : decode cX8_hasTriple 3 = .ok (.iload_n 1, 1) := by decide +kernel
theorem dX8_hasTriple_4 : decode cX8_hasTriple 4 = .ok (.if_icmp .ge 28, 3) := by decide +kernel
theorem dX8_hasTriple_7 : decode cX8_hasTriple 7 = .ok (.aload_n 0, 1) := by decide +kernel
theorem dX8_hasTriple_8 : decode cX8_hasTriple 8 = .ok (.iload_n 2, 1) := by decide +kernel
theorem dX8_hasTriple_9 : decode cX8_hasTriple 9 = .ok (.iconst 1, 1) := by decide +kernel
theorem dX8_hasTriple_10 : decode cX8_hasTriple 10 = .ok (.iadd, 1) := by decide +kernel
theorem dX8_hasTriple_11 : decode cX8_hasTriple 11 = .ok (.iload_n 1, 1) := by decide +kernel
theorem dX8_hasTriple_12 : decode cX8_hasTriple 12 = .ok (.aload_n 0, 1) := by decide +kernel
theorem dX8_hasTriple_13 : decode cX8_hasTriple 13 = .ok (.getfield 35, 3) := by decide +kernel
theorem dX8_hasTriple_16 : decode cX8_hasTriple 16 = .ok (.iload_n 2, 1) := by decide +kernel
theorem dX8_hasTriple_17 : decode cX8_hasTriple 17 = .ok (.iaload, 1) := by decide +kernel
theorem dX8_hasTriple_18 : decode cX8_hasTriple 18 = .ok (.invokevirtual 104, 3) := by decide +kernel
theorem dX8_hasTriple_21 : decode cX8_hasTriple 21 = .ok (.ifCond .eq 5, 3) := by decide +kernel
theorem dX8_hasTriple_24 : decode cX8_hasTriple 24 = .ok (.iconst 1, 1) := by decide +kernel
theorem dX8_hasTriple_25 : decode cX8_hasTriple 25 = .ok (.ireturn, 1) := by decide +kernel
theorem dX8_hasTriple_26 : decode cX8_hasTriple 26 = .ok (.iinc 2 1, 3) := by decide +kernel
theorem dX8_hasTriple_29 : decode cX8_hasTriple 29 = .ok (.goto (-27), 3) := by decide +kernel
theorem dX8_hasTriple_32 : decode cX8_hasTriple 32 = .ok (.iconst 0, 1) := by decide +kernel
theorem dX8_hasTriple_33 : decode cX8_hasTriple 33 = .ok (.ireturn, 1) := by decide +kernel
theorem dX8_hasPair_0 : decode cX8_hasPair 0 = .ok (.iload_n 1, 1) := by decide +kernel
theorem dX8_hasPair_1 : decode cX8_hasPair 1 = .ok (.istore 4, 2) := by decide +kernel
theorem dX8_hasPair_3 : decode cX8_hasPair 3 = .ok (.iload 4, 2) := by decide +kernel
theorem dX8_hasPair_5 : decode cX8_hasPair 5 = .ok (.iload_n 2, 1) := by decide +kernel
theorem dX8_hasPair_6 : decode cX8_hasPair 6 = .ok (.if_icmp .ge 44, 3) := by decide +kernel
theorem dX8_hasPair_9 : decode cX8_hasPair 9 = .ok (.aload_n 0, 1) := by decide +kernel
theorem dX8_hasPair_10 : decode cX8_hasPair 10 = .ok (.getfield 35, 3) := by decide +kernel
theorem dX8_hasPair_13 : decode cX8_hasPair 13 = .ok (.iload 4, 2) := by decide +kernel
theorem dX8_hasPair_15 : decode cX8_hasPair 15 = .ok (.iaload, 1) := by decide +kernel
theorem dX8_hasPair_16 : decode cX8_hasPair 16 = .ok (.iload_n 3, 1) := by decide +kernel
theorem dX8_hasPair_17 : decode cX8_hasPair 17 = .ok (.iand, 1) := by decide +kernel
theorem dX8_hasPair_18 : decode cX8_hasPair 18 = .ok (.ifCond .ne 26, 3) := by decide +kernel
theorem dX8_hasPair_21 : decode cX8_hasPair 21 = .ok (.aload_n 0, 1) := by decide +kernel
theorem dX8_hasPair_22 : decode cX8_hasPair 22 = .ok (.iload 4, 2) := by decide +kernel
theorem dX8_hasPair_24 : decode cX8_hasPair 24 = .ok (.iconst 1, 1) := by decide +kernel
theorem dX8_hasPair_25 : decode cX8_hasPair 25 = .ok (.iadd, 1) := by decide +kernel
theorem dX8_hasPair_26 : decode cX8_hasPair 26 = .ok (.iload_n 2, 1) := by decide +kernel
theorem dX8_hasPair_27 : decode cX8_hasPair 27 = .ok (.iload_n 3, 1) := by decide +kernel
theorem dX8_hasPair_28 : decode cX8_hasPair 28 = .ok (.aload_n 0, 1) := by decide +kernel
theorem dX8_hasPair_29 : decode cX8_hasPair 29 = .ok (.getfield 35, 3) := by decide +kernel
theorem dX8_hasPair_32 : decode cX8_hasPair 32 = .ok (.iload 4, 2) := by decide +kernel
theorem dX8_hasPair_34 : decode cX8_hasPair 34 = .ok (.iaload, 1) := by decide +kernel
theorem dX8_hasPair_35 : decode cX8_hasPair 35 = .ok (.ior, 1) := by decide +kernel
theorem dX8_hasPair_36 : decode cX8_hasPair 36 = .ok (.invokevirtual 111, 3) := by decide +kernel
theorem dX8_hasPair_39 : decode cX8_hasPair 39 = .ok (.ifCond .eq 5, 3) := by decide +kernel
theorem dX8_hasPair_42 : decode cX8_hasPair 42 = .ok (.iconst 1, 1) := by decide +kernel
theorem dX8_hasPair_43 : decode cX8_hasPair 43 = .ok (.ireturn, 1) := by decide +kernel
theorem dX8_hasPair_44 : decode cX8_hasPair 44 = .ok (.iinc 4 1, 3) := by decide +kernel
theorem dX8_hasPair_47 : decode cX8_hasPair 47 = .ok (.goto (-44), 3) := by decide +kernel
theorem dX8_hasPair_50 : decode cX8_hasPair 50 = .ok (.iconst 0, 1) := by decide +kernel
theorem dX8_hasPair_51 : decode cX8_hasPair 51 = .ok (.ireturn, 1) := by decide +kernel
theorem dX8_hasOne_0 : decode cX8_hasOne 0 = .ok (.iload_n 1, 1) := by decide +kernel
theorem dX8_hasOne_1 : decode cX8_hasOne 1 = .ok (.istore 4, 2) := by decide +kernel
theorem dX8_hasOne_3 : decode cX8_hasOne 3 = .ok (.iload 4, 2) := by decide +kernel
theorem dX8_hasOne_5 : decode cX8_hasOne 5 = .ok (.iload_n 2, 1) := by decide +kernel
theorem dX8_hasOne_6 : decode cX8_hasOne 6 = .ok (.if_icmp .ge 23, 3) := by decide +kernel
theorem dX8_hasOne_9 : decode cX8_hasOne 9 = .ok (.aload_n 0, 1) := by decide +kernel
theorem dX8_hasOne_10 : decode cX8_hasOne 10 = .ok (.getfield 35, 3) := by decide +kernel
theorem dX8_hasOne_13 : decode cX8_hasOne 13 = .ok (.iload 4, 2) := by decide +kernel
theorem dX8_hasOne_15 : decode cX8_hasOne 15 = .ok (.iaload, 1) := by decide +kernel
theorem dX8_hasOne_16 : decode cX8_hasOne 16 = .ok (.iload_n 3, 1) := by decide +kernel
theorem dX8_hasOne_17 : decode cX8_hasOne 17 = .ok (.iand, 1) := by decide +kernel
theorem dX8_hasOne_18 : decode cX8_hasOne 18 = .ok (.ifCond .ne 5, 3) := by decide +kernel
theorem dX8_hasOne_21 : decode cX8_hasOne 21 = .ok (.iconst 1, 1) := by decide +kernel
theorem dX8_hasOne_22 : decode cX8_hasOne 22 = .ok (.ireturn, 1) := by decide +kernel
theorem dX8_hasOne_23 : decode cX8_hasOne 23 = .ok (.iinc 4 1, 3) := by decide +kernel
theorem dX8_hasOne_26 : decode cX8_hasOne 26 = .ok (.goto (-23), 3) := by decide +kernel
theorem dX8_hasOne_29 : decode cX8_hasOne 29 = .ok (.iconst 0, 1) := by decide +kernel
theorem dX8_hasOne_30 : decode cX8_hasOne 30 = .ok (.ireturn, 1) := by decide +kernel
theorem dX9_init_0 : decode cX9_init 0 = .ok (.aload_n 0, 1) := by decide +kernel
theorem dX9_init_1 : decode cX9_init 1 = .ok (.invokespecial 3, 3) := by decide +kernel
theorem dX9_init_4 : decode cX9_init 4 = .ok (.aload_n 0, 1) := by decide +kernel
theorem dX9_init_5 : decode cX9_init 5 = .ok (.bipush 120, 2) := by decide +kernel
theorem dX9_init_7 : decode cX9_init 7 = .ok (.newarray .byte, 2) := by decide +kernel
theorem dX9_init_9 : decode cX9_init 9 = .ok (.putfield 9, 3) := by decide +kernel
theorem dX9_init_12 : decode cX9_init 12 = .ok (.return_, 1) := by decide +kernel
theorem dX9_append_0 : decode cX9_append 0 = .ok (.aload_n 0, 1) := by decide +kernel
theorem dX9_append_1 : decode cX9_append 1 = .ok (.getfield 15, 3) := by decide +kernel
theorem dX9_append_4 : decode cX9_append 4 = .ok (.aload_n 0, 1) := by decide +kernel
theorem dX9_append_5 : decode cX9_append 5 = .ok (.getfield 9, 3) := by decide +kernel
theorem dX9_append_8 : decode cX9_append 8 = .ok (.arraylength, 1) := by decide +kernel
theorem dX9_append_9 : decode cX9_append 9 = .ok (.if_icmp .ge 24, 3) := by decide +kernel
theorem dX9_append_12 : decode cX9_append 12 = .ok (.aload_n 0, 1) := by decide +kernel
theorem dX9_append_13 : decode cX9_append 13 = .ok (.getfield 9, 3) := by decide +kernel
theorem dX9_append_16 : decode cX9_append 16 = .ok (.aload_n 0, 1) := by decide +kernel
theorem dX9_append_17 : decode cX9_append 17 = .ok (.getfield 15, 3) := by decide +kernel
theorem dX9_append_20 : decode cX9_append 20 = .ok (.iload_n 1, 1) := by decide +kernel
theorem dX9_append_21 : decode cX9_append 21 = .ok (.i2b, 1) := by decide +kernel
theorem dX9_append_22 : decode cX9_append 22 = .ok (.bastore, 1) := by decide +kernel
theorem dX9_append_23 : decode cX9_append 23 = .ok (.aload_n 0, 1) := by decide +kernel
theorem dX9_append_24 : decode cX9_append 24 = .ok (.dup, 1) := by decide +kernel
theorem dX9_append_25 : decode cX9_append 25 = .ok (.getfield 15, 3) := by decide +kernel
theorem dX9_append_28 : decode cX9_append 28 = .ok (.iconst 1, 1) := by decide +kernel
theorem dX9_append_29 : decode cX9_append 29 = .ok (.iadd, 1) := by decide +kernel
theorem dX9_append_30 : decode cX9_append 30 = .ok (.putfield 15, 3) := by decide +kernel
theorem dX9_append_33 : decode cX9_append 33 = .ok (.return_, 1) := by decide +kernel
theorem dX9_parse_0 : decode cX9_parse 0 = .ok (.iconst 0, 1) := by decide +kernel
theorem dX9_parse_1 : decode cX9_parse 1 = .ok (.istore_n 3, 1) := by decide +kernel
theorem dX9_parse_2 : decode cX9_parse 2 = .ok (.iconst 0, 1) := by decide +kernel
theorem dX9_parse_3 : decode cX9_parse 3 = .ok (.istore 4, 2) := by decide +kernel
theorem dX9_parse_5 : decode cX9_parse 5 = .ok (.iconst 0, 1) := by decide +kernel
theorem dX9_parse_6 : decode cX9_parse 6 = .ok (.istore 5, 2) := by decide +kernel
theorem dX9_parse_8 : decode cX9_parse 8 = .ok (.aload_n 1, 1) := by decide +kernel
theorem dX9_parse_9 : decode cX9_parse 9 = .ok (.invokevirtual 19, 3) := by decide +kernel
theorem dX9_parse_12 : decode cX9_parse 12 = .ok (.iconst 0, 1) := by decide +kernel
theorem dX9_parse_13 : decode cX9_parse 13 = .ok (.istore 6, 2) := by decide +kernel
theorem dX9_parse_15 : decode cX9_parse 15 = .ok (.iload 6, 2) := by decide +kernel
theorem dX9_parse_17 : decode cX9_parse 17 = .ok (.aload_n 0, 1) := by decide +kernel
theorem dX9_parse_18 : decode cX9_parse 18 = .ok (.getfield 15, 3) := by decide +kernel
theorem dX9_parse_21 : decode cX9_parse 21 = .ok (.if_icmp .ge 115, 3) := by decide +kernel
theorem dX9_parse_24 : decode cX9_parse 24 = .ok (.aload_n 0, 1) := by decide +kernel
theorem dX9_parse_25 : decode cX9_parse 25 = .ok (.getfield 9, 3) := by decide +kernel
theorem dX9_parse_28 : decode cX9_parse 28 = .ok (.iload 6, 2) := by decide +kernel
theorem dX9_parse_30 : decode cX9_parse 30 = .ok (.baload, 1) := by decide +kernel
theorem dX9_parse_31 : decode cX9_parse 31 = .ok (.bipush 48, 2) := by decide +kernel
theorem dX9_parse_33 : decode cX9_parse 33 = .ok (.isub, 1) := by decide +kernel
theorem dX9_parse_34 : decode cX9_parse 34 = .ok (.istore 7, 2) := by decide +kernel
theorem dX9_parse_36 : decode cX9_parse 36 = .ok (.iload 5, 2) := by decide +kernel
theorem dX9_parse_38 : decode cX9_parse 38 = .ok (.ifCond .eq 31, 3) := by decide +kernel
theorem dX9_parse_41 : decode cX9_parse 41 = .ok (.aload_n 0, 1) := by decide +kernel
theorem dX9_parse_42 : decode cX9_parse 42 = .ok (.getfield 9, 3) := by decide +kernel
theorem dX9_parse_45 : decode cX9_parse 45 = .ok (.iload 6, 2) := by decide +kernel
theorem dX9_parse_47 : decode cX9_parse 47 = .ok (.baload, 1) := by decide +kernel
theorem dX9_parse_48 : decode cX9_parse 48 = .ok (.bipush 44, 2) := by decide +kernel
theorem dX9_parse_50 : decode cX9_parse 50 = .ok (.if_icmp .ne 19, 3) := by decide +kernel
theorem dX9_parse_53 : decode cX9_parse 53 = .ok (.aload_n 1, 1) := by decide +kernel
theorem dX9_parse_54 : decode cX9_parse 54 = .ok (.iload_n 3, 1) := by decide +kernel
theorem dX9_parse_55 : decode cX9_parse 55 = .ok (.invokevirtual 24, 3) := by decide +kernel
theorem dX9_parse_58 : decode cX9_parse 58 = .ok (.iconst 0, 1) := by decide +kernel
theorem dX9_parse_59 : decode cX9_parse 59 = .ok (.istore_n 3, 1) := by decide +kernel
theorem dX9_parse_60 : decode cX9_parse 60 = .ok (.iconst 0, 1) := by decide +kernel
theorem dX9_parse_61 : decode cX9_parse 61 = .ok (.istore 4, 2) := by decide +kernel
theorem dX9_parse_63 : decode cX9_parse 63 = .ok (.iconst 0, 1) := by decide +kernel
theorem dX9_parse_64 : decode cX9_parse 64 = .ok (.istore 5, 2) := by decide +kernel
theorem dX9_parse_66 : decode cX9_parse 66 = .ok (.goto 64, 3) := by decide +kernel
theorem dX9_parse_69 : decode cX9_parse 69 = .ok (.iload 5, 2) := by decide +kernel
theorem dX9_parse_71 : decode cX9_parse 71 = .ok (.ifCond .ne 24, 3) := by decide +kernel
theorem dX9_parse_74 : decode cX9_parse 74 = .ok (.aload_n 0, 1) := by decide +kernel
theorem dX9_parse_75 : decode cX9_parse 75 = .ok (.getfield 9, 3) := by decide +kernel
theorem dX9_parse_78 : decode cX9_parse 78 = .ok (.iload 6, 2) := by decide +kernel
theorem dX9_parse_80 : decode cX9_parse 80 = .ok (.baload, 1) := by decide +kernel
theorem dX9_parse_81 : decode cX9_parse 81 = .ok (.bipush 45, 2) := by decide +kernel
theorem dX9_parse_83 : decode cX9_parse 83 = .ok (.if_icmp .ne 12, 3) := by decide +kernel
theorem dX9_parse_86 : decode cX9_parse 86 = .ok (.iload_n 2, 1) := by decide +kernel
theorem dX9_parse_87 : decode cX9_parse 87 = .ok (.istore 4, 2) := by decide +kernel
theorem dX9_parse_89 : decode cX9_parse 89 = .ok (.iconst 1, 1) := by decide +kernel
theorem dX9_parse_90 : decode cX9_parse 90 = .ok (.istore 5, 2) := by decide +kernel
theorem dX9_parse_92 : decode cX9_parse 92 = .ok (.goto 38, 3) := by decide +kernel
theorem dX9_parse_95 : decode cX9_parse 95 = .ok (.iload 7, 2) := by decide +kernel
theorem dX9_parse_97 : decode cX9_parse 97 = .ok (.iload 4, 2) := by decide +kernel
theorem dX9_parse_99 : decode cX9_parse 99 = .ok (.if_icmp .lt 28, 3) := by decide +kernel
theorem dX9_parse_102 : decode cX9_parse 102 = .ok (.iload 7, 2) := by decide +kernel
theorem dX9_parse_104 : decode cX9_parse 104 = .ok (.iload_n 2, 1) := by decide +kernel
theorem dX9_parse_105 : decode cX9_parse 105 = .ok (.if_icmp .ge 22, 3) := by decide +kernel
theorem dX9_parse_108 : decode cX9_parse 108 = .ok (.iload_n 3, 1) := by decide +kernel
theorem dX9_parse_109 : decode cX9_parse 109 = .ok (.iconst 1, 1) := by decide +kernel
theorem dX9_parse_110 : decode cX9_parse 110 = .ok (.iload 7, 2) := by decide +kernel
theorem dX9_parse_112 : decode cX9_parse 112 = .ok (.ishl, 1) := by decide +kernel
theorem dX9_parse_113 : decode cX9_parse 113 = .ok (.ior, 1) := by decide +kernel
theorem dX9_parse_114 : decode cX9_parse 114 = .ok (.istore_n 3, 1) := by decide +kernel
theorem dX9_parse_115 : decode cX9_parse 115 = .ok (.iload 7, 2) := by decide +kernel
theorem dX9_parse_117 : decode cX9_parse 117 = .ok (.iconst 1, 1) := by decide +kernel
theorem dX9_parse_118 : decode cX9_parse 118 = .ok (.iadd, 1) := by decide +kernel
theorem dX9_parse_119 : decode cX9_parse 119 = .ok (.istore 4, 2) := by decide +kernel
theorem dX9_parse_121 : decode cX9_parse 121 = .ok (.iconst 1, 1) := by decide +kernel
theorem dX9_parse_122 : decode cX9_parse 122 = .ok (.istore 5, 2) := by decide +kernel
theorem dX9_parse_124 : decode cX9_parse 124 = .ok (.goto 6, 3) := by decide +kernel
theorem dX9_parse_127 : decode cX9_parse 127 = .ok (.iload 6, 2) := by decide +kernel
theorem dX9_parse_129 : decode cX9_parse 129 = .ok (.ireturn, 1) := by decide +kernel
theorem dX9_parse_130 : decode cX9_parse 130 = .ok (.iinc 6 1, 3) := by decide +kernel
theorem dX9_parse_133 : decode cX9_parse 133 = .ok (.goto (-118), 3) := by decide +kernel
theorem dX9_parse_136 : decode cX9_parse 136 = .ok (.iload 5, 2) := by decide +kernel
theorem dX9_parse_138 : decode cX9_parse 138 = .ok (.ifCond .eq 8, 3) := by decide +kernel
theorem dX9_parse_141 : decode cX9_parse 141 = .ok (.aload_n 1, 1) := by decide +kernel
theorem dX9_parse_142 : decode cX9_parse 142 = .ok (.iload_n 3, 1) := by decide +kernel
theorem dX9_parse_143 : decode cX9_parse 143 = .ok (.invokevirtual 24, 3) := by decide +kernel
theorem dX9_parse_146 : decode cX9_parse 146 = .ok (.iload 5, 2) := by decide +kernel
theorem dX9_parse_148 : decode cX9_parse 148 = .ok (.ifCond .ne 10, 3) := by decide +kernel
theorem dX9_parse_151 : decode cX9_parse 151 = .ok (.aload_n 0, 1) := by decide +kernel
theorem dX9_parse_152 : decode cX9_parse 152 = .ok (.getfield 15, 3) := by decide +kernel
theorem dX9_parse_155 : decode cX9_parse 155 = .ok (.ifCond .ne 7, 3) := by decide +kernel
theorem dX9_parse_158 : decode cX9_parse 158 = .ok (.iconst (-1), 1) := by decide +kernel
theorem dX9_parse_159 : decode cX9_parse 159 = .ok (.goto 7, 3) := by decide +kernel
theorem dX9_parse_162 : decode cX9_parse 162 = .ok (.aload_n 0, 1) := by decide +kernel
theorem dX9_parse_163 : decode cX9_parse 163 = .ok (.getfield 15, 3) := by decide +kernel
theorem dX9_parse_166 : decode cX9_parse 166 = .ok (.ireturn, 1) := by decide +kernel
theorem dJ6_bitCount_0f7a4_0 : decode cJ6_bitCount_0f7a4 0 = .ok (.iload_n 0, 1) := by decide +kernel
theorem dJ6_bitCount_0f7a4_1 : decode cJ6_bitCount_0f7a4 1 = .ok (.iload_n 0, 1) := by decide +kernel
theorem dJ6_bitCount_0f7a4_2 : decode cJ6_bitCount_0f7a4 2 = .ok (.iconst 1, 1) := by decide +kernel
theorem dJ6_bitCount_0f7a4_3 : decode cJ6_bitCount_0f7a4 3 = .ok (.iushr, 1) := by decide +kernel
theorem dJ6_bitCount_0f7a4_4 : decode cJ6_bitCount_0f7a4 4 = .ok (.ldc_w 265, 3) := by decide +kernel
theorem dJ6_bitCount_0f7a4_7 : decode cJ6_bitCount_0f7a4 7 = .ok (.iand, 1) := by decide +kernel
theorem dJ6_bitCount_0f7a4_8 : decode cJ6_bitCount_0f7a4 8 = .ok (.isub, 1) := by decide +kernel
theorem dJ6_bitCount_0f7a4_9 : decode cJ6_bitCount_0f7a4 9 = .ok (.istore_n 0, 1) := by decide +kernel
theorem dJ6_bitCount_0f7a4_10 : decode cJ6_bitCount_0f7a4 10 = .ok (.iload_n 0, 1) := by decide +kernel
theorem dJ6_bitCount_0f7a4_11 : decode cJ6_bitCount_0f7a4 11 = .ok (.ldc_w 266, 3) := by decide +kernel
theorem dJ6_bitCount_0f7a4_14 : decode cJ6_bitCount_0f7a4 14 = .ok (.iand, 1) := by decide +kernel
theorem dJ6_bitCount_0f7a4_15 : decode cJ6_bitCount_0f7a4 15 = .ok (.iload_n 0, 1) := by decide +kernel
theorem dJ6_bitCount_0f7a4_16 : decode cJ6_bitCount_0f7a4 16 = .ok (.iconst 2, 1) := by decide +kernel
theorem dJ6_bitCount_0f7a4_17 : decode cJ6_bitCount_0f7a4 17 = .ok (.iushr, 1) := by decide +kernel
theorem dJ6_bitCount_0f7a4_18 : decode cJ6_bitCount_0f7a4 18 = .ok (.ldc_w 266, 3) := by decide +kernel
theorem dJ6_bitCount_0f7a4_21 : decode cJ6_bitCount_0f7a4 21 = .ok (.iand, 1) := by decide +kernel
theorem dJ6_bitCount_0f7a4_22 : decode cJ6_bitCount_0f7a4 22 = .ok (.iadd, 1) := by decide +kernel
theorem dJ6_bitCount_0f7a4_23 : decode cJ6_bitCount_0f7a4 23 = .ok (.istore_n 0, 1) := by decide +kernel
theorem dJ6_bitCount_0f7a4_24 : decode cJ6_bitCount_0f7a4 24 = .ok (.iload_n 0, 1) := by decide +kernel
theorem dJ6_bitCount_0f7a4_25 : decode cJ6_bitCount_0f7a4 25 = .ok (.iload_n 0, 1) := by decide +kernel
theorem dJ6_bitCount_0f7a4_26 : decode cJ6_bitCount_0f7a4 26 = .ok (.iconst 4, 1) := by decide +kernel
theorem dJ6_bitCount_0f7a4_27 : decode cJ6_bitCount_0f7a4 27 = .ok (.iushr, 1) := by decide +kernel
theorem dJ6_bitCount_0f7a4_28 : decode cJ6_bitCount_0f7a4 28 = .ok (.iadd, 1) := by decide +kernel
theorem dJ6_bitCount_0f7a4_29 : decode cJ6_bitCount_0f7a4 29 = .ok (.ldc_w 267, 3) := by decide +kernel
theorem dJ6_bitCount_0f7a4_32 : decode cJ6_bitCount_0f7a4 32 = .ok (.iand, 1) := by decide +kernel
theorem dJ6_bitCount_0f7a4_33 : decode cJ6_bitCount_0f7a4 33 = .ok (.istore_n 0, 1) := by decide +kernel
theorem dJ6_bitCount_0f7a4_34 : decode cJ6_bitCount_0f7a4 34 = .ok (.iload_n 0, 1) := by decide +kernel
theorem dJ6_bitCount_0f7a4_35 : decode cJ6_bitCount_0f7a4 35 = .ok (.iload_n 0, 1) := by decide +kernel
theorem dJ6_bitCount_0f7a4_36 : decode cJ6_bitCount_0f7a4 36 = .ok (.bipush 8, 2) := by decide +kernel
theorem dJ6_bitCount_0f7a4_38 : decode cJ6_bitCount_0f7a4 38 = .ok (.iushr, 1) := by decide +kernel
theorem dJ6_bitCount_0f7a4_39 : decode cJ6_bitCount_0f7a4 39 = .ok (.iadd, 1) := by decide +kernel
theorem dJ6_bitCount_0f7a4_40 : decode cJ6_bitCount_0f7a4 40 = .ok (.istore_n 0, 1) := by decide +kernel
theorem dJ6_bitCount_0f7a4_41 : decode cJ6_bitCount_0f7a4 41 = .ok (.iload_n 0, 1) := by decide +kernel
theorem dJ6_bitCount_0f7a4_42 : decode cJ6_bitCount_0f7a4 42 = .ok (.iload_n 0, 1) := by decide +kernel
theorem dJ6_bitCount_0f7a4_43 : decode cJ6_bitCount_0f7a4 43 = .ok (.bipush 16, 2) := by decide +kernel
theorem dJ6_bitCount_0f7a4_45 : decode cJ6_bitCount_0f7a4 45 = .ok (.iushr, 1) := by decide +kernel
theorem dJ6_bitCount_0f7a4_46 : decode cJ6_bitCount_0f7a4 46 = .ok (.iadd, 1) := by decide +kernel
theorem dJ6_bitCount_0f7a4_47 : decode cJ6_bitCount_0f7a4 47 = .ok (.istore_n 0, 1) := by decide +kernel
theorem dJ6_bitCount_0f7a4_48 : decode cJ6_bitCount_0f7a4 48 = .ok (.iload_n 0, 1) := by decide +kernel
theorem dJ6_bitCount_0f7a4_49 : decode cJ6_bitCount_0f7a4 49 = .ok (.bipush 63, 2) := by decide +kernel
theorem dJ6_bitCount_0f7a4_51 : decode cJ6_bitCount_0f7a4 51 = .ok (.iand, 1) := by decide +kernel
theorem dJ6_bitCount_0f7a4_52 : decode cJ6_bitCount_0f7a4 52 = .ok (.ireturn, 1) := by decide +kernel
theorem dJ13_bitCount_95d88_0 : decode cJ13_bitCount_95d88 0 = .ok (.lload_n 0, 1) := by decide +kernel
theorem dJ13_bitCount_95d88_1 : decode cJ13_bitCount_95d88 1 = .ok (.lload_n 0, 1) := by decide +kernel
theorem dJ13_bitCount_95d88_2 : decode cJ13_bitCount_95d88 2 = .ok (.iconst 1, 1) := by decide +kernel
theorem dJ13_bitCount_95d88_3 : decode cJ13_bitCount_95d88 3 = .ok (.lushr, 1) := by decide +kernel
theorem dJ13_bitCount_95d88_4 : decode cJ13_bitCount_95d88 4 = .ok (.ldc2_w 314, 3) := by decide +kernel
theorem dJ13_bitCount_95d88_7 : decode cJ13_bitCount_95d88 7 = .ok (.land, 1) := by decide +kernel
theorem dJ13_bitCount_95d88_8 : decode cJ13_bitCount_95d88 8 = .ok (.lsub, 1) := by decide +kernel
theorem dJ13_bitCount_95d88_9 : decode cJ13_bitCount_95d88 9 = .ok (.lstore_n 0, 1) := by decide +kernel
theorem dJ13_bitCount_95d88_10 : decode cJ13_bitCount_95d88 10 = .ok (.lload_n 0, 1) := by decide +kernel
theorem dJ13_bitCount_95d88_11 : decode cJ13_bitCount_95d88 11 = .ok (.ldc2_w 316, 3) := by decide +kernel
theorem dJ13_bitCount_95d88_14 : decode cJ13_bitCount_95d88 14 = .ok (.land, 1) := by decide +kernel
theorem dJ13_bitCount_95d88_15 : decode cJ13_bitCount_95d88 15 = .ok (.lload_n 0, 1) := by decide +kernel
theorem dJ13_bitCount_95d88_16 : decode cJ13_bitCount_95d88 16 = .ok (.iconst 2, 1) := by decide +kernel
theorem dJ13_bitCount_95d88_17 : decode cJ13_bitCount_95d88 17 = .ok (.lushr, 1) := by decide +kernel
theorem dJ13_bitCount_95d88_18 : decode cJ13_bitCount_95d88 18 = .ok (.ldc2_w 316, 3) := by decide +kernel
theorem dJ13_bitCount_95d88_21 : decode cJ13_bitCount_95d88 21 = .ok (.land, 1) := by decide +kernel
theorem dJ13_bitCount_95d88_22 : decode cJ13_bitCount_95d88 22 = .ok (.ladd, 1) := by decide +kernel
theorem dJ13_bitCount_95d88_23 : decode cJ13_bitCount_95d88 23 = .ok (.lstore_n 0, 1) := by decide +kernel
theorem dJ13_bitCount_95d88_24 : decode cJ13_bitCount_95d88 24 = .ok (.lload_n 0, 1) := by decide +kernel
theorem dJ13_bitCount_95d88_25 : decode cJ13_bitCount_95d88 25 = .ok (.lload_n 0, 1) := by decide +kernel
theorem dJ13_bitCount_95d88_26 : decode cJ13_bitCount_95d88 26 = .ok (.iconst 4, 1) := by decide +kernel
theorem dJ13_bitCount_95d88_27 : decode cJ13_bitCount_95d88 27 = .ok (.lushr, 1) := by decide +kernel
theorem dJ13_bitCount_95d88_28 : decode cJ13_bitCount_95d88 28 = .ok (.ladd, 1) := by decide +kernel
theorem dJ13_bitCount_95d88_29 : decode cJ13_bitCount_95d88 29 = .ok (.ldc2_w 318, 3) := by decide +kernel
theorem dJ13_bitCount_95d88_32 : decode cJ13_bitCount_95d88 32 = .ok (.land, 1) := by decide +kernel
theorem dJ13_bitCount_95d88_33 : decode cJ13_bitCount_95d88 33 = .ok (.lstore_n 0, 1) := by decide +kernel
theorem dJ13_bitCount_95d88_34 : decode cJ13_bitCount_95d88 34 = .ok (.lload_n 0, 1) := by decide +kernel
theorem dJ13_bitCount_95d88_35 : decode cJ13_bitCount_95d88 35 = .ok (.lload_n 0, 1) := by decide +kernel
theorem dJ13_bitCount_95d88_36 : decode cJ13_bitCount_95d88 36 = .ok (.bipush 8, 2) := by decide +kernel
theorem dJ13_bitCount_95d88_38 : decode cJ13_bitCount_95d88 38 = .ok (.lushr, 1) := by decide +kernel
theorem dJ13_bitCount_95d88_39 : decode cJ13_bitCount_95d88 39 = .ok (.ladd, 1) := by decide +kernel
theorem dJ13_bitCount_95d88_40 : decode cJ13_bitCount_95d88 40 = .ok (.lstore_n 0, 1) := by decide +kernel
theorem dJ13_bitCount_95d88_41 : decode cJ13_bitCount_95d88 41 = .ok (.lload_n 0, 1) := by decide +kernel
theorem dJ13_bitCount_95d88_42 : decode cJ13_bitCount_95d88 42 = .ok (.lload_n 0, 1) := by decide +kernel
theorem dJ13_bitCount_95d88_43 : decode cJ13_bitCount_95d88 43 = .ok (.bipush 16, 2) := by decide +kernel
theorem dJ13_bitCount_95d88_45 : decode cJ13_bitCount_95d88 45 = .ok (.lushr, 1) := by decide +kernel
theorem dJ13_bitCount_95d88_46 : decode cJ13_bitCount_95d88 46 = .ok (.ladd, 1) := by decide +kernel
theorem dJ13_bitCount_95d88_47 : decode cJ13_bitCount_95d88 47 = .ok (.lstore_n 0, 1) := by decide +kernel
theorem dJ13_bitCount_95d88_48 : decode cJ13_bitCount_95d88 48 = .ok (.lload_n 0, 1) := by decide +kernel
theorem dJ13_bitCount_95d88_49 : decode cJ13_bitCount_95d88 49 = .ok (.lload_n 0, 1) := by decide +kernel
theorem dJ13_bitCount_95d88_50 : decode cJ13_bitCount_95d88 50 = .ok (.bipush 32, 2) := by decide +kernel
theorem dJ13_bitCount_95d88_52 : decode cJ13_bitCount_95d88 52 = .ok (.lushr, 1) := by decide +kernel
theorem dJ13_bitCount_95d88_53 : decode cJ13_bitCount_95d88 53 = .ok (.ladd, 1) := by decide +kernel
theorem dJ13_bitCount_95d88_54 : decode cJ13_bitCount_95d88 54 = .ok (.lstore_n 0, 1) := by decide +kernel
theorem dJ13_bitCount_95d88_55 : decode cJ13_bitCount_95d88 55 = .ok (.lload_n 0, 1) := by decide +kernel
theorem dJ13_bitCount_95d88_56 : decode cJ13_bitCount_95d88 56 = .ok (.l2i, 1) := by decide +kernel
theorem dJ13_bitCount_95d88_57 : decode cJ13_bitCount_95d88 57 = .ok (.bipush 127, 2) := by decide +kernel
theorem dJ13_bitCount_95d88_59 : decode cJ13_bitCount_95d88 59 = .ok (.iand, 1) := by decide +kernel
theorem dJ13_bitCount_95d88_60 : decode cJ13_bitCount_95d88 60 = .ok (.ireturn, 1) := by decide +kernel
theorem dJ7_fill_d0a16_0 : decode cJ7_fill_d0a16 0 = .ok (.iconst 0, 1) := by decide +kernel
theorem dJ7_fill_d0a16_1 : decode cJ7_fill_d0a16 1 = .ok (.istore_n 3, 1) := by decide +kernel
theorem dJ7_fill_d0a16_2 : decode cJ7_fill_d0a16 2 = .ok (.aload_n 0, 1) := by decide +kernel
theorem dJ7_fill_d0a16_3 : decode cJ7_fill_d0a16 3 = .ok (.arraylength, 1) := by decide +kernel
theorem dJ7_fill_d0a16_4 : decode cJ7_fill_d0a16 4 = .ok (.istore 4, 2) := by decide +kernel
theorem dJ7_fill_d0a16_6 : decode cJ7_fill_d0a16 6 = .ok (.iload_n 3, 1) := by decide +kernel
theorem dJ7_fill_d0a16_7 : decode cJ7_fill_d0a16 7 = .ok (.iload 4, 2) := by decide +kernel
theorem dJ7_fill_d0a16_9 : decode cJ7_fill_d0a16 9 = .ok (.if_icmp .ge 13, 3) := by decide +kernel
theorem dJ7_fill_d0a16_12 : decode cJ7_fill_d0a16 12 = .ok (.aload_n 0, 1) := by decide +kernel
theorem dJ7_fill_d0a16_13 : decode cJ7_fill_d0a16 13 = .ok (.iload_n 3, 1) := by decide +kernel
theorem dJ7_fill_d0a16_14 : decode cJ7_fill_d0a16 14 = .ok (.lload_n 1, 1) := by decide +kernel
theorem dJ7_fill_d0a16_15 : decode cJ7_fill_d0a16 15 = .ok (.lastore, 1) := by decide +kernel
theorem dJ7_fill_d0a16_16 : decode cJ7_fill_d0a16 16 = .ok (.iinc 3 1, 3) := by decide +kernel
theorem dJ7_fill_d0a16_19 : decode cJ7_fill_d0a16 19 = .ok (.goto (-13), 3) := by decide +kernel
theorem dJ7_fill_d0a16_22 : decode cJ7_fill_d0a16 22 = .ok (.return_, 1) := by decide +kernel
