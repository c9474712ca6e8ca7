theorem dL_setGround_0 : decode cL_setGround 0 = .ok (.aload_n 2, 1) := by decide +kernel
theorem dL_setGround_1 : decode cL_setGround 1 = .ok (.iconst 0, 1) := by decide +kernel
theorem dL_setGround_2 : decode cL_setGround 2 = .ok (.aload_n 0, 1) := by decide +kernel
theorem dL_setGround_3 : decode cL_setGround 3 = .ok (.iload_n 1, 1) := by decide +kernel
theorem dL_setGround_4 : decode cL_setGround 4 = .ok (.invokevirtual 7, 3) := by decide +kernel
theorem dL_setGround_7 : decode cL_setGround 7 = .ok (.i2l, 1) := by decide +kernel
theorem dL_setGround_8 : decode cL_setGround 8 = .ok (.lastore, 1) := by decide +kernel
theorem dL_setGround_9 : decode cL_setGround 9 = .ok (.goto 6, 3) := by decide +kernel
theorem dL_setGround_12 : decode cL_setGround 12 = .ok (.astore_n 3, 1) := by decide +kernel
theorem dL_setGround_13 : decode cL_setGround 13 = .ok (.iconst 1, 1) := by decide +kernel
theorem dL_setGround_14 : decode cL_setGround 14 = .ok (.ireturn, 1) := by decide +kernel
theorem dL_setGround_15 : decode cL_setGround 15 = .ok (.iconst 0, 1) := by decide +kernel
theorem dL_setGround_16 : decode cL_setGround 16 = .ok (.ireturn, 1) := by decide +kernel
theorem dL_add_0 : decode cL_add 0 = .ok (.aload_n 3, 1) := by decide +kernel
theorem dL_add_1 : decode cL_add 1 = .ok (.iconst 0, 1) := by decide +kernel
theorem dL_add_2 : decode cL_add 2 = .ok (.aload_n 0, 1) := by decide +kernel
theorem dL_add_3 : decode cL_add 3 = .ok (.iload_n 1, 1) := by decide +kernel
theorem dL_add_4 : decode cL_add 4 = .ok (.iload_n 2, 1) := by decide +kernel
theorem dL_add_5 : decode cL_add 5 = .ok (.invokevirtual 15, 3) := by decide +kernel
theorem dL_add_8 : decode cL_add 8 = .ok (.ifCond .eq 7, 3) := by decide +kernel
theorem dL_add_11 : decode cL_add 11 = .ok (.lconst 1, 1) := by decide +kernel
theorem dL_add_12 : decode cL_add 12 = .ok (.goto 4, 3) := by decide +kernel
theorem dL_add_15 : decode cL_add 15 = .ok (.lconst 0, 1) := by decide +kernel
theorem dL_add_16 : decode cL_add 16 = .ok (.lastore, 1) := by decide +kernel
theorem dL_add_17 : decode cL_add 17 = .ok (.goto 11, 3) := by decide +kernel
theorem dL_add_20 : decode cL_add 20 = .ok (.astore 4, 2) := by decide +kernel
theorem dL_add_22 : decode cL_add 22 = .ok (.iconst 1, 1) := by decide +kernel
theorem dL_add_23 : decode cL_add 23 = .ok (.ireturn, 1) := by decide +kernel
theorem dL_add_24 : decode cL_add 24 = .ok (.astore 4, 2) := by decide +kernel
theorem dL_add_26 : decode cL_add 26 = .ok (.iconst 2, 1) := by decide +kernel
theorem dL_add_27 : decode cL_add 27 = .ok (.ireturn, 1) := by decide +kernel
theorem dL_add_28 : decode cL_add 28 = .ok (.iconst 0, 1) := by decide +kernel
theorem dL_add_29 : decode cL_add 29 = .ok (.ireturn, 1) := by decide +kernel
theorem dL_remove_0 : decode cL_remove 0 = .ok (.aload_n 3, 1) := by decide +kernel
theorem dL_remove_1 : decode cL_remove 1 = .ok (.iconst 0, 1) := by decide +kernel
theorem dL_remove_2 : decode cL_remove 2 = .ok (.aload_n 0, 1) := by decide +kernel
theorem dL_remove_3 : decode cL_remove 3 = .ok (.iload_n 1, 1) := by decide +kernel
theorem dL_remove_4 : decode cL_remove 4 = .ok (.iload_n 2, 1) := by decide +kernel
theorem dL_remove_5 : decode cL_remove 5 = .ok (.invokevirtual 21, 3) := by decide +kernel
theorem dL_remove_8 : decode cL_remove 8 = .ok (.ifCond .eq 7, 3) := by decide +kernel
theorem dL_remove_11 : decode cL_remove 11 = .ok (.lconst 1, 1) := by decide +kernel
theorem dL_remove_12 : decode cL_remove 12 = .ok (.goto 4, 3) := by decide +kernel
theorem dL_remove_15 : decode cL_remove 15 = .ok (.lconst 0, 1) := by decide +kernel
theorem dL_remove_16 : decode cL_remove 16 = .ok (.lastore, 1) := by decide +kernel
theorem dL_remove_17 : decode cL_remove 17 = .ok (.goto 11, 3) := by decide +kernel
theorem dL_remove_20 : decode cL_remove 20 = .ok (.astore 4, 2) := by decide +kernel
theorem dL_remove_22 : decode cL_remove 22 = .ok (.iconst 1, 1) := by decide +kernel
theorem dL_remove_23 : decode cL_remove 23 = .ok (.ireturn, 1) := by decide +kernel
theorem dL_remove_24 : decode cL_remove 24 = .ok (.astore 4, 2) := by decide +kernel
theorem dL_remove_26 : decode cL_remove 26 = .ok (.iconst 2, 1) := by decide +kernel
theorem dL_remove_27 : decode cL_remove 27 = .ok (.ireturn, 1) := by decide +kernel
theorem dL_remove_28 : decode cL_remove 28 = .ok (.iconst 0, 1) := by decide +kernel
theorem dL_remove_29 : decode cL_remove 29 = .ok (.ireturn, 1) := by decide +kernel
theorem dL_has_0 : decode cL_has 0 = .ok (.aload_n 3, 1) := by decide +kernel
theorem dL_has_1 : decode cL_has 1 = .ok (.iconst 0, 1) := by decide +kernel
theorem dL_has_2 : decode cL_has 2 = .ok (.aload_n 0, 1) := by decide +kernel
theorem dL_has_3 : decode cL_has 3 = .ok (.iload_n 1, 1) := by decide +kernel
theorem dL_has_4 : decode cL_has 4 = .ok (.iload_n 2, 1) := by decide +kernel
theorem dL_has_5 : decode cL_has 5 = .ok (.invokevirtual 24, 3) := by decide +kernel
theorem dL_has_8 : decode cL_has 8 = .ok (.ifCond .eq 7, 3) := by decide +kernel
theorem dL_has_11 : decode cL_has 11 = .ok (.lconst 1, 1) := by decide +kernel
theorem dL_has_12 : decode cL_has 12 = .ok (.goto 4, 3) := by decide +kernel
theorem dL_has_15 : decode cL_has 15 = .ok (.lconst 0, 1) := by decide +kernel
theorem dL_has_16 : decode cL_has 16 = .ok (.lastore, 1) := by decide +kernel
theorem dL_has_17 : decode cL_has 17 = .ok (.goto 11, 3) := by decide +kernel
theorem dL_has_20 : decode cL_has 20 = .ok (.astore 4, 2) := by decide +kernel
theorem dL_has_22 : decode cL_has 22 = .ok (.iconst 1, 1) := by decide +kernel
theorem dL_has_23 : decode cL_has 23 = .ok (.ireturn, 1) := by decide +kernel
theorem dL_has_24 : decode cL_has 24 = .ok (.astore 4, 2) := by decide +kernel
theorem dL_has_26 : decode cL_has 26 = .ok (.iconst 2, 1) := by decide +kernel
theorem dL_has_27 : decode cL_has 27 = .ok (.ireturn, 1) := by decide +kernel
theorem dL_has_28 : decode cL_has 28 = .ok (.iconst 0, 1) := by decide +kernel
theorem dL_has_29 : decode cL_has 29 = .ok (.ireturn, 1) := by decide +kernel
theorem dL_size_0 : decode cL_size 0 = .ok (.aload_n 3, 1) := by decide +kernel
theorem dL_size_1 : decode cL_size 1 = .ok (.iconst 0, 1) := by decide +kernel
theorem dL_size_2 : decode cL_size 2 = .ok (.aload_n 0, 1) := by decide +kernel
theorem dL_size_3 : decode cL_size 3 = .ok (.iload_n 1, 1) := by decide +kernel
theorem dL_size_4 : decode cL_size 4 = .ok (.iload_n 2, 1) := by decide +kernel
theorem dL_size_5 : decode cL_size 5 = .ok (.invokevirtual 27, 3) := by decide +kernel
theorem dL_size_8 : decode cL_size 8 = .ok (.i2l, 1) := by decide +kernel
theorem dL_size_9 : decode cL_size 9 = .ok (.lastore, 1) := by decide +kernel
theorem dL_size_10 : decode cL_size 10 = .ok (.goto 11, 3) := by decide +kernel
theorem dL_size_13 : decode cL_size 13 = .ok (.astore 4, 2) := by decide +kernel
theorem dL_size_15 : decode cL_size 15 = .ok (.iconst 1, 1) := by decide +kernel
theorem dL_size_16 : decode cL_size 16 = .ok (.ireturn, 1) := by decide +kernel
theorem dL_size_17 : decode cL_size 17 = .ok (.astore 4, 2) := by decide +kernel
theorem dL_size_19 : decode cL_size 19 = .ok (.iconst 2, 1) := by decide +kernel
theorem dL_size_20 : decode cL_size 20 = .ok (.ireturn, 1) := by decide +kernel
theorem dL_size_21 : decode cL_size 21 = .ok (.iconst 0, 1) := by decide +kernel
theorem dL_size_22 : decode cL_size 22 = .ok (.ireturn, 1) := by decide +kernel
theorem dL_get_0 : decode cL_get 0 = .ok (.aload_n 3, 1) := by decide +kernel
theorem dL_get_1 : decode cL_get 1 = .ok (.iconst 0, 1) := by decide +kernel
theorem dL_get_2 : decode cL_get 2 = .ok (.aload_n 0, 1) := by decide +kernel
theorem dL_get_3 : decode cL_get 3 = .ok (.iload_n 1, 1) := by decide +kernel
theorem dL_get_4 : decode cL_get 4 = .ok (.iload_n 2, 1) := by decide +kernel
theorem dL_get_5 : decode cL_get 5 = .ok (.invokevirtual 31, 3) := by decide +kernel
theorem dL_get_8 : decode cL_get 8 = .ok (.i2l, 1) := by decide +kernel
theorem dL_get_9 : decode cL_get 9 = .ok (.lastore, 1) := by decide +kernel
theorem dL_get_10 : decode cL_get 10 = .ok (.goto 11, 3) := by decide +kernel
theorem dL_get_13 : decode cL_get 13 = .ok (.astore 4, 2) := by decide +kernel
theorem dL_get_15 : decode cL_get 15 = .ok (.iconst 1, 1) := by decide +kernel
theorem dL_get_16 : decode cL_get 16 = .ok (.ireturn, 1) := by decide +kernel
theorem dL_get_17 : decode cL_get 17 = .ok (.astore 4, 2) := by decide +kernel
theorem dL_get_19 : decode cL_get 19 = .ok (.iconst 2, 1) := by decide +kernel
theorem dL_get_20 : decode cL_get 20 = .ok (.ireturn, 1) := by decide +kernel
theorem dL_get_21 : decode cL_get 21 = .ok (.iconst 0, 1) := by decide +kernel
theorem dL_get_22 : decode cL_get 22 = .ok (.ireturn, 1) := by decide +kernel
theorem dL_degree_0 : decode cL_degree 0 = .ok (.aload_n 3, 1) := by decide +kernel
theorem dL_degree_1 : decode cL_degree 1 = .ok (.iconst 0, 1) := by decide +kernel
theorem dL_degree_2 : decode cL_degree 2 = .ok (.aload_n 0, 1) := by decide +kernel
theorem dL_degree_3 : decode cL_degree 3 = .ok (.iload_n 1, 1) := by decide +kernel
theorem dL_degree_4 : decode cL_degree 4 = .ok (.iload_n 2, 1) := by decide +kernel
theorem dL_degree_5 : decode cL_degree 5 = .ok (.invokevirtual 34, 3) := by decide +kernel
theorem dL_degree_8 : decode cL_degree 8 = .ok (.i2l, 1) := by decide +kernel
theorem dL_degree_9 : decode cL_degree 9 = .ok (.lastore, 1) := by decide +kernel
theorem dL_degree_10 : decode cL_degree 10 = .ok (.goto 11, 3) := by decide +kernel
theorem dL_degree_13 : decode cL_degree 13 = .ok (.astore 4, 2) := by decide +kernel
theorem dL_degree_15 : decode cL_degree 15 = .ok (.iconst 1, 1) := by decide +kernel
theorem dL_degree_16 : decode cL_degree 16 = .ok (.ireturn, 1) := by decide +kernel
theorem dL_degree_17 : decode cL_degree 17 = .ok (.astore 4, 2) := by decide +kernel
theorem dL_degree_19 : decode cL_degree 19 = .ok (.iconst 2, 1) := by decide +kernel
theorem dL_degree_20 : decode cL_degree 20 = .ok (.ireturn, 1) := by decide +kernel
theorem dL_degree_21 : decode cL_degree 21 = .ok (.iconst 0, 1) := by decide +kernel
theorem dL_degree_22 : decode cL_degree 22 = .ok (.ireturn, 1) := by decide +kernel
theorem dL_combine_0 : decode cL_combine 0 = .ok (.aload 5, 2) := by decide +kernel
theorem dL_combine_2 : decode cL_combine 2 = .ok (.iconst 0, 1) := by decide +kernel
theorem dL_combine_3 : decode cL_combine 3 = .ok (.aload_n 0, 1) := by decide +kernel
theorem dL_combine_4 : decode cL_combine 4 = .ok (.iload_n 1, 1) := by decide +kernel
theorem dL_combine_5 : decode cL_combine 5 = .ok (.iload_n 2, 1) := by decide +kernel
theorem dL_combine_6 : decode cL_combine 6 = .ok (.iload_n 3, 1) := by decide +kernel
theorem dL_combine_7 : decode cL_combine 7 = .ok (.iload 4, 2) := by decide +kernel
theorem dL_combine_9 : decode cL_combine 9 = .ok (.invokevirtual 37, 3) := by decide +kernel
theorem dL_combine_12 : decode cL_combine 12 = .ok (.i2l, 1) := by decide +kernel
theorem dL_combine_13 : decode cL_combine 13 = .ok (.lastore, 1) := by decide +kernel
theorem dL_combine_14 : decode cL_combine 14 = .ok (.goto 11, 3) := by decide +kernel
theorem dL_combine_17 : decode cL_combine 17 = .ok (.astore 6, 2) := by decide +kernel
theorem dL_combine_19 : decode cL_combine 19 = .ok (.iconst 1, 1) := by decide +kernel
theorem dL_combine_20 : decode cL_combine 20 = .ok (.ireturn, 1) := by decide +kernel
theorem dL_combine_21 : decode cL_combine 21 = .ok (.astore 6, 2) := by decide +kernel
theorem dL_combine_23 : decode cL_combine 23 = .ok (.iconst 2, 1) := by decide +kernel
theorem dL_combine_24 : decode cL_combine 24 = .ok (.ireturn, 1) := by decide +kernel
theorem dL_combine_25 : decode cL_combine 25 = .ok (.iconst 0, 1) := by decide +kernel
theorem dL_combine_26 : decode cL_combine 26 = .ok (.ireturn, 1) := by decide +kernel
theorem dL_derive_0 : decode cL_derive 0 = .ok (.aload 4, 2) := by decide +kernel
theorem dL_derive_2 : decode cL_derive 2 = .ok (.iconst 0, 1) := by decide +kernel
theorem dL_derive_3 : decode cL_derive 3 = .ok (.aload_n 0, 1) := by decide +kernel
theorem dL_derive_4 : decode cL_derive 4 = .ok (.iload_n 1, 1) := by decide +kernel
theorem dL_derive_5 : decode cL_derive 5 = .ok (.iload_n 2, 1) := by decide +kernel
theorem dL_derive_6 : decode cL_derive 6 = .ok (.iload_n 3, 1) := by decide +kernel
theorem dL_derive_7 : decode cL_derive 7 = .ok (.invokevirtual 41, 3) := by decide +kernel
theorem dL_derive_10 : decode cL_derive 10 = .ok (.i2l, 1) := by decide +kernel
theorem dL_derive_11 : decode cL_derive 11 = .ok (.lastore, 1) := by decide +kernel
theorem dL_derive_12 : decode cL_derive 12 = .ok (.goto 11, 3) := by decide +kernel
theorem dL_derive_15 : decode cL_derive 15 = .ok (.astore 5, 2) := by decide +kernel
theorem dL_derive_17 : decode cL_derive 17 = .ok (.iconst 1, 1) := by decide +kernel
theorem dL_derive_18 : decode cL_derive 18 = .ok (.ireturn, 1) := by decide +kernel
theorem dL_derive_19 : decode cL_derive 19 = .ok (.astore 5, 2) := by decide +kernel
theorem dL_derive_21 : decode cL_derive 21 = .ok (.iconst 2, 1) := by decide +kernel
theorem dL_derive_22 : decode cL_derive 22 = .ok (.ireturn, 1) := by decide +kernel
theorem dL_derive_23 : decode cL_derive 23 = .ok (.iconst 0, 1) := by decide +kernel
theorem dL_derive_24 : decode cL_derive 24 = .ok (.ireturn, 1) := by decide +kernel
theorem dL_compress_0 : decode cL_compress 0 = .ok (.aload 4, 2) := by decide +kernel
theorem dL_compress_2 : decode cL_compress 2 = .ok (.iconst 0, 1) := by decide +kernel
theorem dL_compress_3 : decode cL_compress 3 = .ok (.aload_n 0, 1) := by decide +kernel
theorem dL_compress_4 : decode cL_compress 4 = .ok (.iload_n 1, 1) := by decide +kernel
theorem dL_compress_5 : decode cL_compress 5 = .ok (.iload_n 2, 1) := by decide +kernel
theorem dL_compress_6 : decode cL_compress 6 = .ok (.iload_n 3, 1) := by decide +kernel
theorem dL_compress_7 : decode cL_compress 7 = .ok (.invokevirtual 45, 3) := by decide +kernel
theorem dL_compress_10 : decode cL_compress 10 = .ok (.i2l, 1) := by decide +kernel
theorem dL_compress_11 : decode cL_compress 11 = .ok (.lastore, 1) := by decide +kernel
theorem dL_compress_12 : decode cL_compress 12 = .ok (.goto 11, 3) := by decide +kernel
theorem dL_compress_15 : decode cL_compress 15 = .ok (.astore 5, 2) := by decide +kernel
theorem dL_compress_17 : decode cL_compress 17 = .ok (.iconst 1, 1) := by decide +kernel
theorem dL_compress_18 : decode cL_compress 18 = .ok (.ireturn, 1) := by decide +kernel
theorem dL_compress_19 : decode cL_compress 19 = .ok (.astore 5, 2) := by decide +kernel
theorem dL_compress_21 : decode cL_compress 21 = .ok (.iconst 2, 1) := by decide +kernel
theorem dL_compress_22 : decode cL_compress 22 = .ok (.ireturn, 1) := by decide +kernel
theorem dL_compress_23 : decode cL_compress 23 = .ok (.iconst 0, 1) := by decide +kernel
theorem dL_compress_24 : decode cL_compress 24 = .ok (.ireturn, 1) := by decide +kernel
theorem dL_shift_0 : decode cL_shift 0 = .ok (.aload_n 2, 1) := by decide +kernel
theorem dL_shift_1 : decode cL_shift 1 = .ok (.iconst 0, 1) := by decide +kernel
theorem dL_shift_2 : decode cL_shift 2 = .ok (.aload_n 0, 1) := by decide +kernel
theorem dL_shift_3 : decode cL_shift 3 = .ok (.iload_n 1, 1) := by decide +kernel
theorem dL_shift_4 : decode cL_shift 4 = .ok (.invokevirtual 48, 3) := by decide +kernel
theorem dL_shift_7 : decode cL_shift 7 = .ok (.i2l, 1) := by decide +kernel
theorem dL_shift_8 : decode cL_shift 8 = .ok (.lastore, 1) := by decide +kernel
theorem dL_shift_9 : decode cL_shift 9 = .ok (.goto 6, 3) := by decide +kernel
theorem dL_shift_12 : decode cL_shift 12 = .ok (.astore_n 3, 1) := by decide +kernel
theorem dL_shift_13 : decode cL_shift 13 = .ok (.iconst 1, 1) := by decide +kernel
theorem dL_shift_14 : decode cL_shift 14 = .ok (.ireturn, 1) := by decide +kernel
theorem dL_shift_15 : decode cL_shift 15 = .ok (.iconst 0, 1) := by decide +kernel
theorem dL_shift_16 : decode cL_shift 16 = .ok (.ireturn, 1) := by decide +kernel
theorem dL_trace_0 : decode cL_trace 0 = .ok (.aload 4, 2) := by decide +kernel
theorem dL_trace_2 : decode cL_trace 2 = .ok (.iconst 0, 1) := by decide +kernel
theorem dL_trace_3 : decode cL_trace 3 = .ok (.aload_n 0, 1) := by decide +kernel
theorem dL_trace_4 : decode cL_trace 4 = .ok (.iload_n 1, 1) := by decide +kernel
theorem dL_trace_5 : decode cL_trace 5 = .ok (.iload_n 2, 1) := by decide +kernel
theorem dL_trace_6 : decode cL_trace 6 = .ok (.iload_n 3, 1) := by decide +kernel
theorem dL_trace_7 : decode cL_trace 7 = .ok (.invokevirtual 51, 3) := by decide +kernel
theorem dL_trace_10 : decode cL_trace 10 = .ok (.i2l, 1) := by decide +kernel
theorem dL_trace_11 : decode cL_trace 11 = .ok (.lastore, 1) := by decide +kernel
theorem dL_trace_12 : decode cL_trace 12 = .ok (.goto 11, 3) := by decide +kernel
theorem dL_trace_15 : decode cL_trace 15 = .ok (.astore 5, 2) := by decide +kernel
theorem dL_trace_17 : decode cL_trace 17 = .ok (.iconst 1, 1) := by decide +kernel
theorem dL_trace_18 : decode cL_trace 18 = .ok (.ireturn, 1) := by decide +kernel
theorem dL_trace_19 : decode cL_trace 19 = .ok (.astore 5, 2) := by decide +kernel
theorem dL_trace_21 : decode cL_trace 21 = .ok (.iconst 2, 1) := by decide +kernel
theorem dL_trace_22 : decode cL_trace 22 = .ok (.ireturn, 1) := by decide +kernel
theorem dL_trace_23 : decode cL_trace 23 = .ok (.iconst 0, 1) := by decide +kernel
theorem dL_trace_24 : decode cL_trace 24 = .ok (.ireturn, 1) := by decide +kernel
theorem dL_segment_0 : decode cL_segment 0 = .ok (.aload 4, 2) := by decide +kernel
theorem dL_segment_2 : decode cL_segment 2 = .ok (.iconst 0, 1) := by decide +kernel
theorem dL_segment_3 : decode cL_segment 3 = .ok (.aload_n 0, 1) := by decide +kernel
theorem dL_segment_4 : decode cL_segment 4 = .ok (.iload_n 1, 1) := by decide +kernel
theorem dL_segment_5 : decode cL_segment 5 = .ok (.iload_n 2, 1) := by decide +kernel
theorem dL_segment_6 : decode cL_segment 6 = .ok (.iload_n 3, 1) := by decide +kernel
theorem dL_segment_7 : decode cL_segment 7 = .ok (.invokevirtual 54, 3) := by decide +kernel
theorem dL_segment_10 : decode cL_segment 10 = .ok (.i2l, 1) := by decide +kernel
theorem dL_segment_11 : decode cL_segment 11 = .ok (.lastore, 1) := by decide +kernel
theorem dL_segment_12 : decode cL_segment 12 = .ok (.goto 11, 3) := by decide +kernel
theorem dL_segment_15 : decode cL_segment 15 = .ok (.astore 5, 2) := by decide +kernel
theorem dL_segment_17 : decode cL_segment 17 = .ok (.iconst 1, 1) := by decide +kernel
theorem dL_segment_18 : decode cL_segment 18 = .ok (.ireturn, 1) := by decide +kernel
theorem dL_segment_19 : decode cL_segment 19 = .ok (.astore 5, 2) := by decide +kernel
theorem dL_segment_21 : decode cL_segment 21 = .ok (.iconst 2, 1) := by decide +kernel
theorem dL_segment_22 : decode cL_segment 22 = .ok (.ireturn, 1) := by decide +kernel
theorem dL_segment_23 : decode cL_segment 23 = .ok (.iconst 0, 1) := by decide +kernel
theorem dL_segment_24 : decode cL_segment 24 = .ok (.ireturn, 1) := by decide +kernel
theorem dL_rank_0 : decode cL_rank 0 = .ok (.aload_n 2, 1) := by decide +kernel
theorem dL_rank_1 : decode cL_rank 1 = .ok (.iconst 0, 1) := by decide +kernel
theorem dL_rank_2 : decode cL_rank 2 = .ok (.aload_n 0, 1) := by decide +kernel
theorem dL_rank_3 : decode cL_rank 3 = .ok (.iload_n 1, 1) := by decide +kernel
theorem dL_rank_4 : decode cL_rank 4 = .ok (.invokevirtual 57, 3) := by decide +kernel
theorem dL_rank_7 : decode cL_rank 7 = .ok (.i2l, 1) := by decide +kernel
theorem dL_rank_8 : decode cL_rank 8 = .ok (.lastore, 1) := by decide +kernel
theorem dL_rank_9 : decode cL_rank 9 = .ok (.goto 6, 3) := by decide +kernel
theorem dL_rank_12 : decode cL_rank 12 = .ok (.astore_n 3, 1) := by decide +kernel
theorem dL_rank_13 : decode cL_rank 13 = .ok (.iconst 1, 1) := by decide +kernel
theorem dL_rank_14 : decode cL_rank 14 = .ok (.ireturn, 1) := by decide +kernel
theorem dL_rank_15 : decode cL_rank 15 = .ok (.iconst 0, 1) := by decide +kernel
theorem dL_rank_16 : decode cL_rank 16 = .ok (.ireturn, 1) := by decide +kernel
theorem dL_unrank_0 : decode cL_unrank 0 = .ok (.aload_n 3, 1) := by decide +kernel
theorem dL_unrank_1 : decode cL_unrank 1 = .ok (.iconst 0, 1) := by decide +kernel
theorem dL_unrank_2 : decode cL_unrank 2 = .ok (.aload_n 0, 1) := by decide +kernel
theorem dL_unrank_3 : decode cL_unrank 3 = .ok (.iload_n 1, 1) := by decide +kernel
theorem dL_unrank_4 : decode cL_unrank 4 = .ok (.iload_n 2, 1) := by decide +kernel
theorem dL_unrank_5 : decode cL_unrank 5 = .ok (.invokevirtual 60, 3) := by decide +kernel
theorem dL_unrank_8 : decode cL_unrank 8 = .ok (.i2l, 1) := by decide +kernel
theorem dL_unrank_9 : decode cL_unrank 9 = .ok (.lastore, 1) := by decide +kernel
theorem dL_unrank_10 : decode cL_unrank 10 = .ok (.goto 7, 3) := by decide +kernel
theorem dL_unrank_13 : decode cL_unrank 13 = .ok (.astore 4, 2) := by decide +kernel
theorem dL_unrank_15 : decode cL_unrank 15 = .ok (.iconst 1, 1) := by decide +kernel
theorem dL_unrank_16 : decode cL_unrank 16 = .ok (.ireturn, 1) := by decide +kernel
theorem dL_unrank_17 : decode cL_unrank 17 = .ok (.iconst 0, 1) := by decide +kernel
theorem dL_unrank_18 : decode cL_unrank 18 = .ok (.ireturn, 1) := by decide +kernel
theorem dL_cascade_0 : decode cL_cascade 0 = .ok (.aload 4, 2) := by decide +kernel
theorem dL_cascade_2 : decode cL_cascade 2 = .ok (.iconst 0, 1) := by decide +kernel
theorem dL_cascade_3 : decode cL_cascade 3 = .ok (.aload_n 0, 1) := by decide +kernel
theorem dL_cascade_4 : decode cL_cascade 4 = .ok (.iload_n 1, 1) := by decide +kernel
theorem dL_cascade_5 : decode cL_cascade 5 = .ok (.iload_n 2, 1) := by decide +kernel
theorem dL_cascade_6 : decode cL_cascade 6 = .ok (.iload_n 3, 1) := by decide +kernel
theorem dL_cascade_7 : decode cL_cascade 7 = .ok (.invokevirtual 63, 3) := by decide +kernel
theorem dL_cascade_10 : decode cL_cascade 10 = .ok (.i2l, 1) := by decide +kernel
theorem dL_cascade_11 : decode cL_cascade 11 = .ok (.lastore, 1) := by decide +kernel
theorem dL_cascade_12 : decode cL_cascade 12 = .ok (.goto 7, 3) := by decide +kernel
theorem dL_cascade_15 : decode cL_cascade 15 = .ok (.astore 5, 2) := by decide +kernel
theorem dL_cascade_17 : decode cL_cascade 17 = .ok (.iconst 1, 1) := by decide +kernel
theorem dL_cascade_18 : decode cL_cascade 18 = .ok (.ireturn, 1) := by decide +kernel
theorem dL_cascade_19 : decode cL_cascade 19 = .ok (.iconst 0, 1) := by decide +kernel
theorem dL_cascade_20 : decode cL_cascade 20 = .ok (.ireturn, 1) := by decide +kernel
theorem dL_shadowBound_0 : decode cL_shadowBound 0 = .ok (.aload_n 3, 1) := by decide +kernel
theorem dL_shadowBound_1 : decode cL_shadowBound 1 = .ok (.iconst 0, 1) := by decide +kernel
theorem dL_shadowBound_2 : decode cL_shadowBound 2 = .ok (.aload_n 0, 1) := by decide +kernel
theorem dL_shadowBound_3 : decode cL_shadowBound 3 = .ok (.iload_n 1, 1) := by decide +kernel
theorem dL_shadowBound_4 : decode cL_shadowBound 4 = .ok (.iload_n 2, 1) := by decide +kernel
theorem dL_shadowBound_5 : decode cL_shadowBound 5 = .ok (.invokevirtual 66, 3) := by decide +kernel
theorem dL_shadowBound_8 : decode cL_shadowBound 8 = .ok (.i2l, 1) := by decide +kernel
theorem dL_shadowBound_9 : decode cL_shadowBound 9 = .ok (.lastore, 1) := by decide +kernel
theorem dL_shadowBound_10 : decode cL_shadowBound 10 = .ok (.goto 7, 3) := by decide +kernel
theorem dL_shadowBound_13 : decode cL_shadowBound 13 = .ok (.astore 4, 2) := by decide +kernel
theorem dL_shadowBound_15 : decode cL_shadowBound 15 = .ok (.iconst 1, 1) := by decide +kernel
theorem dL_shadowBound_16 : decode cL_shadowBound 16 = .ok (.ireturn, 1) := by decide +kernel
theorem dL_shadowBound_17 : decode cL_shadowBound 17 = .ok (.iconst 0, 1) := by decide +kernel
theorem dL_shadowBound_18 : decode cL_shadowBound 18 = .ok (.ireturn, 1) := by decide +kernel
theorem dL_excess_0 : decode cL_excess 0 = .ok (.aload_n 3, 1) := by decide +kernel
theorem dL_excess_1 : decode cL_excess 1 = .ok (.iconst 0, 1) := by decide +kernel
theorem dL_excess_2 : decode cL_excess 2 = .ok (.aload_n 0, 1) := by decide +kernel
theorem dL_excess_3 : decode cL_excess 3 = .ok (.iload_n 1, 1) := by decide +kernel
theorem dL_excess_4 : decode cL_excess 4 = .ok (.iload_n 2, 1) := by decide +kernel
theorem dL_excess_5 : decode cL_excess 5 = .ok (.invokevirtual 69, 3) := by decide +kernel
theorem dL_excess_8 : decode cL_excess 8 = .ok (.i2l, 1) := by decide +kernel
theorem dL_excess_9 : decode cL_excess 9 = .ok (.lastore, 1) := by decide +kernel
theorem dL_excess_10 : decode cL_excess 10 = .ok (.goto 11, 3) := by decide +kernel
theorem dL_excess_13 : decode cL_excess 13 = .ok (.astore 4, 2) := by decide +kernel
theorem dL_excess_15 : decode cL_excess 15 = .ok (.iconst 1, 1) := by decide +kernel
theorem dL_excess_16 : decode cL_excess 16 = .ok (.ireturn, 1) := by decide +kernel
theorem dL_excess_17 : decode cL_excess 17 = .ok (.astore 4, 2) := by decide +kernel
theorem dL_excess_19 : decode cL_excess 19 = .ok (.iconst 2, 1) := by decide +kernel
theorem dL_excess_20 : decode cL_excess 20 = .ok (.ireturn, 1) := by decide +kernel
theorem dL_excess_21 : decode cL_excess 21 = .ok (.iconst 0, 1) := by decide +kernel
theorem dL_excess_22 : decode cL_excess 22 = .ok (.ireturn, 1) := by decide +kernel
theorem dL_is_0 : decode cL_is 0 = .ok (.aload_n 3, 1) := by decide +kernel
theorem dL_is_1 : decode cL_is 1 = .ok (.iconst 0, 1) := by decide +kernel
theorem dL_is_2 : decode cL_is 2 = .ok (.aload_n 0, 1) := by decide +kernel
theorem dL_is_3 : decode cL_is 3 = .ok (.iload_n 1, 1) := by decide +kernel
theorem dL_is_4 : decode cL_is 4 = .ok (.iload_n 2, 1) := by decide +kernel
theorem dL_is_5 : decode cL_is 5 = .ok (.invokevirtual 72, 3) := by decide +kernel
theorem dL_is_8 : decode cL_is 8 = .ok (.ifCond .eq 7, 3) := by decide +kernel
theorem dL_is_11 : decode cL_is 11 = .ok (.lconst 1, 1) := by decide +kernel
theorem dL_is_12 : decode cL_is 12 = .ok (.goto 4, 3) := by decide +kernel
theorem dL_is_15 : decode cL_is 15 = .ok (.lconst 0, 1) := by decide +kernel
theorem dL_is_16 : decode cL_is 16 = .ok (.lastore, 1) := by decide +kernel
theorem dL_is_17 : decode cL_is 17 = .ok (.goto 11, 3) := by decide +kernel
theorem dL_is_20 : decode cL_is 20 = .ok (.astore 4, 2) := by decide +kernel
theorem dL_is_22 : decode cL_is 22 = .ok (.iconst 1, 1) := by decide +kernel
theorem dL_is_23 : decode cL_is 23 = .ok (.ireturn, 1) := by decide +kernel
theorem dL_is_24 : decode cL_is 24 = .ok (.astore 4, 2) := by decide +kernel
theorem dL_is_26 : decode cL_is 26 = .ok (.iconst 2, 1) := by decide +kernel
theorem dL_is_27 : decode cL_is 27 = .ok (.ireturn, 1) := by decide +kernel
theorem dL_is_28 : decode cL_is 28 = .ok (.iconst 0, 1) := by decide +kernel
theorem dL_is_29 : decode cL_is 29 = .ok (.ireturn, 1) := by decide +kernel
theorem dL_weight_0 : decode cL_weight 0 = .ok (.aload_n 3, 1) := by decide +kernel
theorem dL_weight_1 : decode cL_weight 1 = .ok (.iconst 0, 1) := by decide +kernel
theorem dL_weight_2 : decode cL_weight 2 = .ok (.aload_n 0, 1) := by decide +kernel
theorem dL_weight_3 : decode cL_weight 3 = .ok (.iload_n 1, 1) := by decide +kernel
theorem dL_weight_4 : decode cL_weight 4 = .ok (.iload_n 2, 1) := by decide +kernel
theorem dL_weight_5 : decode cL_weight 5 = .ok (.invokevirtual 75, 3) := by decide +kernel
theorem dL_weight_8 : decode cL_weight 8 = .ok (.lastore, 1) := by decide +kernel
theorem dL_weight_9 : decode cL_weight 9 = .ok (.goto 7, 3) := by decide +kernel
theorem dL_weight_12 : decode cL_weight 12 = .ok (.astore 4, 2) := by decide +kernel
theorem dL_weight_14 : decode cL_weight 14 = .ok (.iconst 1, 1) := by decide +kernel
theorem dL_weight_15 : decode cL_weight 15 = .ok (.ireturn, 1) := by decide +kernel
theorem dL_weight_16 : decode cL_weight 16 = .ok (.iconst 0, 1) := by decide +kernel
theorem dL_weight_17 : decode cL_weight 17 = .ok (.ireturn, 1) := by decide +kernel
theorem dL_dimension_0 : decode cL_dimension 0 = .ok (.aload_n 2, 1) := by decide +kernel
theorem dL_dimension_1 : decode cL_dimension 1 = .ok (.iconst 0, 1) := by decide +kernel
theorem dL_dimension_2 : decode cL_dimension 2 = .ok (.aload_n 0, 1) := by decide +kernel
theorem dL_dimension_3 : decode cL_dimension 3 = .ok (.iload_n 1, 1) := by decide +kernel
theorem dL_dimension_4 : decode cL_dimension 4 = .ok (.invokevirtual 79, 3) := by decide +kernel
theorem dL_dimension_7 : decode cL_dimension 7 = .ok (.i2l, 1) := by decide +kernel
theorem dL_dimension_8 : decode cL_dimension 8 = .ok (.lastore, 1) := by decide +kernel
theorem dL_dimension_9 : decode cL_dimension 9 = .ok (.goto 6, 3) := by decide +kernel
theorem dL_dimension_12 : decode cL_dimension 12 = .ok (.astore_n 3, 1) := by decide +kernel
theorem dL_dimension_13 : decode cL_dimension 13 = .ok (.iconst 1, 1) := by decide +kernel
theorem dL_dimension_14 : decode cL_dimension 14 = .ok (.ireturn, 1) := by decide +kernel
theorem dL_dimension_15 : decode cL_dimension 15 = .ok (.iconst 0, 1) := by decide +kernel
theorem dL_dimension_16 : decode cL_dimension 16 = .ok (.ireturn, 1) := by decide +kernel
theorem dL_shattered_0 : decode cL_shattered 0 = .ok (.aload_n 2, 1) := by decide +kernel
theorem dL_shattered_1 : decode cL_shattered 1 = .ok (.iconst 0, 1) := by decide +kernel
theorem dL_shattered_2 : decode cL_shattered 2 = .ok (.aload_n 0, 1) := by decide +kernel
theorem dL_shattered_3 : decode cL_shattered 3 = .ok (.iload_n 1, 1) := by decide +kernel
theorem dL_shattered_4 : decode cL_shattered 4 = .ok (.invokevirtual 82, 3) := by decide +kernel
theorem dL_shattered_7 : decode cL_shattered 7 = .ok (.i2l, 1) := by decide +kernel
theorem dL_shattered_8 : decode cL_shattered 8 = .ok (.lastore, 1) := by decide +kernel
theorem dL_shattered_9 : decode cL_shattered 9 = .ok (.goto 6, 3) := by decide +kernel
theorem dL_shattered_12 : decode cL_shattered 12 = .ok (.astore_n 3, 1) := by decide +kernel
theorem dL_shattered_13 : decode cL_shattered 13 = .ok (.iconst 1, 1) := by decide +kernel
theorem dL_shattered_14 : decode cL_shattered 14 = .ok (.ireturn, 1) := by decide +kernel
theorem dL_shattered_15 : decode cL_shattered 15 = .ok (.iconst 0, 1) := by decide +kernel
theorem dL_shattered_16 : decode cL_shattered 16 = .ok (.ireturn, 1) := by decide +kernel
theorem dL_crossing_0 : decode cL_crossing 0 = .ok (.aload_n 3, 1) := by decide +kernel
theorem dL_crossing_1 : decode cL_crossing 1 = .ok (.iconst 0, 1) := by decide +kernel
theorem dL_crossing_2 : decode cL_crossing 2 = .ok (.aload_n 0, 1) := by decide +kernel
theorem dL_crossing_3 : decode cL_crossing 3 = .ok (.iload_n 1, 1) := by decide +kernel
theorem dL_crossing_4 : decode cL_crossing 4 = .ok (.iload_n 2, 1) := by decide +kernel
theorem dL_crossing_5 : decode cL_crossing 5 = .ok (.invokevirtual 85, 3) := by decide +kernel
theorem dL_crossing_8 : decode cL_crossing 8 = .ok (.i2l, 1) := by decide +kernel
theorem dL_crossing_9 : decode cL_crossing 9 = .ok (.lastore, 1) := by decide +kernel
theorem dL_crossing_10 : decode cL_crossing 10 = .ok (.goto 7, 3) := by decide +kernel
theorem dL_crossing_13 : decode cL_crossing 13 = .ok (.astore 4, 2) := by decide +kernel
theorem dL_crossing_15 : decode cL_crossing 15 = .ok (.iconst 1, 1) := by decide +kernel
theorem dL_crossing_16 : decode cL_crossing 16 = .ok (.ireturn, 1) := by decide +kernel
theorem dL_crossing_17 : decode cL_crossing 17 = .ok (.iconst 0, 1) := by decide +kernel
theorem dL_crossing_18 : decode cL_crossing 18 = .ok (.ireturn, 1) := by decide +kernel
theorem dL_sunflower_0 : decode cL_sunflower 0 = .ok (.aload_n 2, 1) := by decide +kernel
theorem dL_sunflower_1 : decode cL_sunflower 1 = .ok (.iconst 0, 1) := by decide +kernel
theorem dL_sunflower_2 : decode cL_sunflower 2 = .ok (.aload_n 0, 1) := by decide +kernel
theorem dL_sunflower_3 : decode cL_sunflower 3 = .ok (.iload_n 1, 1) := by decide +kernel
theorem dL_sunflower_4 : decode cL_sunflower 4 = .ok (.invokevirtual 88, 3) := by decide +kernel
theorem dL_sunflower_7 : decode cL_sunflower 7 = .ok (.i2l, 1) := by decide +kernel
theorem dL_sunflower_8 : decode cL_sunflower 8 = .ok (.lastore, 1) := by decide +kernel
theorem dL_sunflower_9 : decode cL_sunflower 9 = .ok (.goto 6, 3) := by decide +kernel
theorem dL_sunflower_12 : decode cL_sunflower 12 = .ok (.astore_n 3, 1) := by decide +kernel
theorem dL_sunflower_13 : decode cL_sunflower 13 = .ok (.iconst 1, 1) := by decide +kernel
theorem dL_sunflower_14 : decode cL_sunflower 14 = .ok (.ireturn, 1) := by decide +kernel
theorem dL_sunflower_15 : decode cL_sunflower 15 = .ok (.iconst 0, 1) := by decide +kernel
theorem dL_sunflower_16 : decode cL_sunflower 16 = .ok (.ireturn, 1) := by decide +kernel
theorem dL_pairs_0 : decode cL_pairs 0 = .ok (.aload_n 3, 1) := by decide +kernel
theorem dL_pairs_1 : decode cL_pairs 1 = .ok (.iconst 0, 1) := by decide +kernel
theorem dL_pairs_2 : decode cL_pairs 2 = .ok (.aload_n 0, 1) := by decide +kernel
theorem dL_pairs_3 : decode cL_pairs 3 = .ok (.iload_n 1, 1) := by decide +kernel
theorem dL_pairs_4 : decode cL_pairs 4 = .ok (.iload_n 2, 1) := by decide +kernel
theorem dL_pairs_5 : decode cL_pairs 5 = .ok (.invokevirtual 91, 3) := by decide +kernel
theorem dL_pairs_8 : decode cL_pairs 8 = .ok (.i2l, 1) := by decide +kernel
theorem dL_pairs_9 : decode cL_pairs 9 = .ok (.lastore, 1) := by decide +kernel
theorem dL_pairs_10 : decode cL_pairs 10 = .ok (.goto 11, 3) := by decide +kernel
theorem dL_pairs_13 : decode cL_pairs 13 = .ok (.astore 4, 2) := by decide +kernel
theorem dL_pairs_15 : decode cL_pairs 15 = .ok (.iconst 1, 1) := by decide +kernel
theorem dL_pairs_16 : decode cL_pairs 16 = .ok (.ireturn, 1) := by decide +kernel
theorem dL_pairs_17 : decode cL_pairs 17 = .ok (.astore 4, 2) := by decide +kernel
theorem dL_pairs_19 : decode cL_pairs 19 = .ok (.iconst 2, 1) := by decide +kernel
theorem dL_pairs_20 : decode cL_pairs 20 = .ok (.ireturn, 1) := by decide +kernel
theorem dL_pairs_21 : decode cL_pairs 21 = .ok (.iconst 0, 1) := by decide +kernel
theorem dL_pairs_22 : decode cL_pairs 22 = .ok (.ireturn, 1) := by decide +kernel
theorem dL_type_0 : decode cL_type 0 = .ok (.aload_n 2, 1) := by decide +kernel
theorem dL_type_1 : decode cL_type 1 = .ok (.iconst 0, 1) := by decide +kernel
theorem dL_type_2 : decode cL_type 2 = .ok (.aload_n 0, 1) := by decide +kernel
theorem dL_type_3 : decode cL_type 3 = .ok (.iload_n 1, 1) := by decide +kernel
theorem dL_type_4 : decode cL_type 4 = .ok (.invokevirtual 94, 3) := by decide +kernel
theorem dL_type_7 : decode cL_type 7 = .ok (.i2l, 1) := by decide +kernel
theorem dL_type_8 : decode cL_type 8 = .ok (.lastore, 1) := by decide +kernel
theorem dL_type_9 : decode cL_type 9 = .ok (.goto 9, 3) := by decide +kernel
theorem dL_type_12 : decode cL_type 12 = .ok (.astore_n 3, 1) := by decide +kernel
theorem dL_type_13 : decode cL_type 13 = .ok (.iconst 1, 1) := by decide +kernel
theorem dL_type_14 : decode cL_type 14 = .ok (.ireturn, 1) := by decide +kernel
theorem dL_type_15 : decode cL_type 15 = .ok (.astore_n 3, 1) := by decide +kernel
theorem dL_type_16 : decode cL_type 16 = .ok (.iconst 2, 1) := by decide +kernel
theorem dL_type_17 : decode cL_type 17 = .ok (.ireturn, 1) := by decide +kernel
theorem dL_type_18 : decode cL_type 18 = .ok (.iconst 0, 1) := by decide +kernel
theorem dL_type_19 : decode cL_type 19 = .ok (.ireturn, 1) := by decide +kernel
theorem dL_read_0 : decode cL_read 0 = .ok (.aload_n 2, 1) := by decide +kernel
theorem dL_read_1 : decode cL_read 1 = .ok (.iconst 0, 1) := by decide +kernel
theorem dL_read_2 : decode cL_read 2 = .ok (.aload_n 0, 1) := by decide +kernel
theorem dL_read_3 : decode cL_read 3 = .ok (.iload_n 1, 1) := by decide +kernel
theorem dL_read_4 : decode cL_read 4 = .ok (.invokevirtual 99, 3) := by decide +kernel
theorem dL_read_7 : decode cL_read 7 = .ok (.i2l, 1) := by decide +kernel
theorem dL_read_8 : decode cL_read 8 = .ok (.lastore, 1) := by decide +kernel
theorem dL_read_9 : decode cL_read 9 = .ok (.goto 6, 3) := by decide +kernel
theorem dL_read_12 : decode cL_read 12 = .ok (.astore_n 3, 1) := by decide +kernel
theorem dL_read_13 : decode cL_read 13 = .ok (.iconst 1, 1) := by decide +kernel
theorem dL_read_14 : decode cL_read 14 = .ok (.ireturn, 1) := by decide +kernel
theorem dL_read_15 : decode cL_read 15 = .ok (.iconst 0, 1) := by decide +kernel
theorem dL_read_16 : decode cL_read 16 = .ok (.ireturn, 1) := by decide +kernel
theorem dL_undo_0 : decode cL_undo 0 = .ok (.aload_n 1, 1) := by decide +kernel
theorem dL_undo_1 : decode cL_undo 1 = .ok (.iconst 0, 1) := by decide +kernel
theorem dL_undo_2 : decode cL_undo 2 = .ok (.aload_n 0, 1) := by decide +kernel
theorem dL_undo_3 : decode cL_undo 3 = .ok (.invokevirtual 102, 3) := by decide +kernel
theorem dL_undo_6 : decode cL_undo 6 = .ok (.i2l, 1) := by decide +kernel
theorem dL_undo_7 : decode cL_undo 7 = .ok (.lastore, 1) := by decide +kernel
theorem dL_undo_8 : decode cL_undo 8 = .ok (.goto 6, 3) := by decide +kernel
theorem dL_undo_11 : decode cL_undo 11 = .ok (.astore_n 2, 1) := by decide +kernel
theorem dL_undo_12 : decode cL_undo 12 = .ok (.iconst 1, 1) := by decide +kernel
theorem dL_undo_13 : decode cL_undo 13 = .ok (.ireturn, 1) := by decide +kernel
theorem dL_undo_14 : decode cL_undo 14 = .ok (.iconst 0, 1) := by decide +kernel
theorem dL_undo_15 : decode cL_undo 15 = .ok (.ireturn, 1) := by decide +kernel
theorem mcL_setGround : Cond.codeWith yL_setGround cL_setGround 4 (some .int) [(0, 9, 12, 13)] ∈ gw := gw_3 (List.mem_of_getElem? (i := 82) rfl) rfl
theorem mcL_add : Cond.codeWith yL_add cL_add 5 (some .int) [(0, 17, 20, 19), (0, 17, 24, 13)] ∈ gw := gw_3 (List.mem_of_getElem? (i := 171) rfl) rfl
theorem mcL_remove : Cond.codeWith yL_remove cL_remove 5 (some .int) [(0, 17, 20, 19), (0, 17, 24, 13)] ∈ gw := gw_3 (List.mem_of_getElem? (i := 208) rfl) rfl
theorem mcL_has : Cond.codeWith yL_has cL_has 5 (some .int) [(0, 17, 20, 19), (0, 17, 24, 13)] ∈ gw := gw_3 (List.mem_of_getElem? (i := 216) rfl) rfl
theorem mcL_size : Cond.codeWith yL_size cL_size 5 (some .int) [(0, 10, 13, 19), (0, 10, 17, 13)] ∈ gw := gw_3 (List.mem_of_getElem? (i := 223) rfl) rfl
theorem mcL_get : Cond.codeWith yL_get cL_get 5 (some .int) [(0, 10, 13, 19), (0, 10, 17, 13)] ∈ gw := gw_3 (List.mem_of_getElem? (i := 230) rfl) rfl
theorem mcL_degree : Cond.codeWith yL_degree cL_degree 5 (some .int) [(0, 10, 13, 19), (0, 10, 17, 13)] ∈ gw := gw_4 (List.mem_of_getElem? (i := 1) rfl) rfl
theorem mcL_combine : Cond.codeWith yL_combine cL_combine 7 (some .int) [(0, 14, 17, 19), (0, 14, 21, 13)] ∈ gw := gw_4 (List.mem_of_getElem? (i := 12) rfl) rfl
theorem mcL_derive : Cond.codeWith yL_derive cL_derive 6 (some .int) [(0, 12, 15, 19), (0, 12, 19, 13)] ∈ gw := gw_4 (List.mem_of_getElem? (i := 34) rfl) rfl
theorem mcL_compress : Cond.codeWith yL_compress cL_compress 6 (some .int) [(0, 12, 15, 19), (0, 12, 19, 13)] ∈ gw := gw_4 (List.mem_of_getElem? (i := 60) rfl) rfl
theorem mcL_shift : Cond.codeWith yL_shift cL_shift 4 (some .int) [(0, 9, 12, 19)] ∈ gw := gw_4 (List.mem_of_getElem? (i := 73) rfl) rfl
theorem mcL_trace : Cond.codeWith yL_trace cL_trace 6 (some .int) [(0, 12, 15, 19), (0, 12, 19, 13)] ∈ gw := gw_4 (List.mem_of_getElem? (i := 90) rfl) rfl
theorem mcL_segment : Cond.codeWith yL_segment cL_segment 6 (some .int) [(0, 12, 15, 19), (0, 12, 19, 13)] ∈ gw := gw_4 (List.mem_of_getElem? (i := 98) rfl) rfl
theorem mcL_rank : Cond.codeWith yL_rank cL_rank 4 (some .int) [(0, 9, 12, 13)] ∈ gw := gw_4 (List.mem_of_getElem? (i := 105) rfl) rfl
theorem mcL_unrank : Cond.codeWith yL_unrank cL_unrank 5 (some .int) [(0, 10, 13, 13)] ∈ gw := gw_4 (List.mem_of_getElem? (i := 116) rfl) rfl
theorem mcL_cascade : Cond.codeWith yL_cascade cL_cascade 6 (some .int) [(0, 12, 15, 13)] ∈ gw := gw_4 (List.mem_of_getElem? (i := 126) rfl) rfl
theorem mcL_shadowBound : Cond.codeWith yL_shadowBound cL_shadowBound 5 (some .int) [(0, 10, 13, 13)] ∈ gw := gw_4 (List.mem_of_getElem? (i := 137) rfl) rfl
theorem mcL_excess : Cond.codeWith yL_excess cL_excess 5 (some .int) [(0, 10, 13, 19), (0, 10, 17, 13)] ∈ gw := gw_4 (List.mem_of_getElem? (i := 144) rfl) rfl
theorem mcL_is : Cond.codeWith yL_is cL_is 5 (some .int) [(0, 17, 20, 19), (0, 17, 24, 13)] ∈ gw := gw_4 (List.mem_of_getElem? (i := 151) rfl) rfl
theorem mcL_weight : Cond.codeWith yL_weight cL_weight 5 (some .int) [(0, 9, 12, 19)] ∈ gw := gw_4 (List.mem_of_getElem? (i := 158) rfl) rfl
theorem mcL_dimension : Cond.codeWith yL_dimension cL_dimension 4 (some .int) [(0, 9, 12, 19)] ∈ gw := gw_4 (List.mem_of_getElem? (i := 165) rfl) rfl
theorem mcL_shattered : Cond.codeWith yL_shattered cL_shattered 4 (some .int) [(0, 9, 12, 19)] ∈ gw := gw_4 (List.mem_of_getElem? (i := 172) rfl) rfl
theorem mcL_crossing : Cond.codeWith yL_crossing cL_crossing 5 (some .int) [(0, 10, 13, 19)] ∈ gw := gw_4 (List.mem_of_getElem? (i := 179) rfl) rfl
theorem mcL_sunflower : Cond.codeWith yL_sunflower cL_sunflower 4 (some .int) [(0, 9, 12, 19)] ∈ gw := gw_4 (List.mem_of_getElem? (i := 186) rfl) rfl
theorem mcL_pairs : Cond.codeWith yL_pairs cL_pairs 5 (some .int) [(0, 10, 13, 19), (0, 10, 17, 13)] ∈ gw := gw_4 (List.mem_of_getElem? (i := 193) rfl) rfl
theorem mcL_type : Cond.codeWith yL_type cL_type 4 (some .int) [(0, 9, 12, 13), (0, 9, 15, 97)] ∈ gw := gw_4 (List.mem_of_getElem? (i := 200) rfl) rfl
theorem mcL_read : Cond.codeWith yL_read cL_read 4 (some .int) [(0, 9, 12, 19)] ∈ gw := gw_4 (List.mem_of_getElem? (i := 228) rfl) rfl
theorem mcL_undo : Cond.codeWith yL_undo cL_undo 3 (some .int) [(0, 8, 11, 97)] ∈ gw := gw_5 (List.mem_of_getElem? (i := 1) rfl) rfl
theorem miL_setGround : (Cond.initialized yL_setGround.cls ∈ gw) ∧ (yL_setGround.cls ≠ "java/lang/invoke/MethodHandle" ∧ yL_setGround.cls ≠ "java/lang/invoke/VarHandle" ∧ (parseMethodDescriptor yL_setGround.desc).map (fun d => d.parameters.length) = some 3) ∧ Cond.static yL_setGround ∈ gw := ⟨hw_1_0, ⟨by decide +kernel, by decide +kernel, by decide +kernel⟩, hw_3_81⟩
theorem miL_add : (Cond.initialized yL_add.cls ∈ gw) ∧ (yL_add.cls ≠ "java/lang/invoke/MethodHandle" ∧ yL_add.cls ≠ "java/lang/invoke/VarHandle" ∧ (parseMethodDescriptor yL_add.desc).map (fun d => d.parameters.length) = some 4) ∧ Cond.static yL_add ∈ gw := ⟨hw_1_0, ⟨by decide +kernel, by decide +kernel, by decide +kernel⟩, hw_3_170⟩
theorem miL_remove : (Cond.initialized yL_remove.cls ∈ gw) ∧ (yL_remove.cls ≠ "java/lang/invoke/MethodHandle" ∧ yL_remove.cls ≠ "java/lang/invoke/VarHandle" ∧ (parseMethodDescriptor yL_remove.desc).map (fun d => d.parameters.length) = some 4) ∧ Cond.static yL_remove ∈ gw := ⟨hw_1_0, ⟨by decide +kernel, by decide +kernel, by decide +kernel⟩, hw_3_207⟩
theorem miL_has : (Cond.initialized yL_has.cls ∈ gw) ∧ (yL_has.cls ≠ "java/lang/invoke/MethodHandle" ∧ yL_has.cls ≠ "java/lang/invoke/VarHandle" ∧ (parseMethodDescriptor yL_has.desc).map (fun d => d.parameters.length) = some 4) ∧ Cond.static yL_has ∈ gw := ⟨hw_1_0, ⟨by decide +kernel, by decide +kernel, by decide +kernel⟩, hw_3_215⟩
theorem miL_size : (Cond.initialized yL_size.cls ∈ gw) ∧ (yL_size.cls ≠ "java/lang/invoke/MethodHandle" ∧ yL_size.cls ≠ "java/lang/invoke/VarHandle" ∧ (parseMethodDescriptor yL_size.desc).map (fun d => d.parameters.length) = some 4) ∧ Cond.static yL_size ∈ gw := ⟨hw_1_0, ⟨by decide +kernel, by decide +kernel, by decide +kernel⟩, hw_3_222⟩
theorem miL_get : (Cond.initialized yL_get.cls ∈ gw) ∧ (yL_get.cls ≠ "java/lang/invoke/MethodHandle" ∧ yL_get.cls ≠ "java/lang/invoke/VarHandle" ∧ (parseMethodDescriptor yL_get.desc).map (fun d => d.parameters.length) = some 4) ∧ Cond.static yL_get ∈ gw := ⟨hw_1_0, ⟨by decide +kernel, by decide +kernel, by decide +kernel⟩, hw_3_229⟩
theorem miL_degree : (Cond.initialized yL_degree.cls ∈ gw) ∧ (yL_degree.cls ≠ "java/lang/invoke/MethodHandle" ∧ yL_degree.cls ≠ "java/lang/invoke/VarHandle" ∧ (parseMethodDescriptor yL_degree.desc).map (fun d => d.parameters.length) = some 4) ∧ Cond.static yL_degree ∈ gw := ⟨hw_1_0, ⟨by decide +kernel, by decide +kernel, by decide +kernel⟩, hw_4_0⟩
theorem miL_combine : (Cond.initialized yL_combine.cls ∈ gw) ∧ (yL_combine.cls ≠ "java/lang/invoke/MethodHandle" ∧ yL_combine.cls ≠ "java/lang/invoke/VarHandle" ∧ (parseMethodDescriptor yL_combine.desc).map (fun d => d.parameters.length) = some 6) ∧ Cond.static yL_combine ∈ gw := ⟨hw_1_0, ⟨by decide +kernel, by decide +kernel, by decide +kernel⟩, hw_4_11⟩
theorem miL_derive : (Cond.initialized yL_derive.cls ∈ gw) ∧ (yL_derive.cls ≠ "java/lang/invoke/MethodHandle" ∧ yL_derive.cls ≠ "java/lang/invoke/VarHandle" ∧ (parseMethodDescriptor yL_derive.desc).map (fun d => d.parameters.length) = some 5) ∧ Cond.static yL_derive ∈ gw := ⟨hw_1_0, ⟨by decide +kernel, by decide +kernel, by decide +kernel⟩, hw_4_33⟩
theorem miL_compress : (Cond.initialized yL_compress.cls ∈ gw) ∧ (yL_compress.cls ≠ "java/lang/invoke/MethodHandle" ∧ yL_compress.cls ≠ "java/lang/invoke/VarHandle" ∧ (parseMethodDescriptor yL_compress.desc).map (fun d => d.parameters.length) = some 5) ∧ Cond.static yL_compress ∈ gw := ⟨hw_1_0, ⟨by decide +kernel, by decide +kernel, by decide +kernel⟩, hw_4_59⟩
theorem miL_shift : (Cond.initialized yL_shift.cls ∈ gw) ∧ (yL_shift.cls ≠ "java/lang/invoke/MethodHandle" ∧ yL_shift.cls ≠ "java/lang/invoke/VarHandle" ∧ (parseMethodDescriptor yL_shift.desc).map (fun d => d.parameters.length) = some 3) ∧ Cond.static yL_shift ∈ gw := ⟨hw_1_0, ⟨by decide +kernel, by decide +kernel, by decide +kernel⟩, hw_4_72⟩
theorem miL_trace : (Cond.initialized yL_trace.cls ∈ gw) ∧ (yL_trace.cls ≠ "java/lang/invoke/MethodHandle" ∧ yL_trace.cls ≠ "java/lang/invoke/VarHandle" ∧ (parseMethodDescriptor yL_trace.desc).map (fun d => d.parameters.length) = some 5) ∧ Cond.static yL_trace ∈ gw := ⟨hw_1_0, ⟨by decide +kernel, by decide +kernel, by decide +kernel⟩, hw_4_89⟩
theorem miL_segment : (Cond.initialized yL_segment.cls ∈ gw) ∧ (yL_segment.cls ≠ "java/lang/invoke/MethodHandle" ∧ yL_segment.cls ≠ "java/lang/invoke/VarHandle" ∧ (parseMethodDescriptor yL_segment.desc).map (fun d => d.parameters.length) = some 5) ∧ Cond.static yL_segment ∈ gw := ⟨hw_1_0, ⟨by decide +kernel, by decide +kernel, by decide +kernel⟩, hw_4_97⟩
theorem miL_rank : (Cond.initialized yL_rank.cls ∈ gw) ∧ (yL_rank.cls ≠ "java/lang/invoke/MethodHandle" ∧ yL_rank.cls ≠ "java/lang/invoke/VarHandle" ∧ (parseMethodDescriptor yL_rank.desc).map (fun d => d.parameters.length) = some 3) ∧ Cond.static yL_rank ∈ gw := ⟨hw_1_0, ⟨by decide +kernel, by decide +kernel, by decide +kernel⟩, hw_4_104⟩
theorem miL_unrank : (Cond.initialized yL_unrank.cls ∈ gw) ∧ (yL_unrank.cls ≠ "java/lang/invoke/MethodHandle" ∧ yL_unrank.cls ≠ "java/lang/invoke/VarHandle" ∧ (parseMethodDescriptor yL_unrank.desc).map (fun d => d.parameters.length) = some 4) ∧ Cond.static yL_unrank ∈ gw := ⟨hw_1_0, ⟨by decide +kernel, by decide +kernel, by decide +kernel⟩, hw_4_115⟩
theorem miL_cascade : (Cond.initialized yL_cascade.cls ∈ gw) ∧ (yL_cascade.cls ≠ "java/lang/invoke/MethodHandle" ∧ yL_cascade.cls ≠ "java/lang/invoke/VarHandle" ∧ (parseMethodDescriptor yL_cascade.desc).map (fun d => d.parameters.length) = some 5) ∧ Cond.static yL_cascade ∈ gw := ⟨hw_1_0, ⟨by decide +kernel, by decide +kernel, by decide +kernel⟩, hw_4_125⟩
theorem miL_shadowBound : (Cond.initialized yL_shadowBound.cls ∈ gw) ∧ (yL_shadowBound.cls ≠ "java/lang/invoke/MethodHandle" ∧ yL_shadowBound.cls ≠ "java/lang/invoke/VarHandle" ∧ (parseMethodDescriptor yL_shadowBound.desc).map (fun d => d.parameters.length) = some 4) ∧ Cond.static yL_shadowBound ∈ gw := ⟨hw_1_0, ⟨by decide +kernel, by decide +kernel, by decide +kernel⟩, hw_4_136⟩
theorem miL_excess : (Cond.initialized yL_excess.cls ∈ gw) ∧ (yL_excess.cls ≠ "java/lang/invoke/MethodHandle" ∧ yL_excess.cls ≠ "java/lang/invoke/VarHandle" ∧ (parseMethodDescriptor yL_excess.desc).map (fun d => d.parameters.length) = some 4) ∧ Cond.static yL_excess ∈ gw := ⟨hw_1_0, ⟨by decide +kernel, by decide +kernel, by decide +kernel⟩, hw_4_143⟩
theorem miL_is : (Cond.initialized yL_is.cls ∈ gw) ∧ (yL_is.cls ≠ "java/lang/invoke/MethodHandle" ∧ yL_is.cls ≠ "java/lang/invoke/VarHandle" ∧ (parseMethodDescriptor yL_is.desc).map (fun d => d.parameters.length) = some 4) ∧ Cond.static yL_is ∈ gw := ⟨hw_1_0, ⟨by decide +kernel, by decide +kernel, by decide +kernel⟩, hw_4_150⟩
theorem miL_weight : (Cond.initialized yL_weight.cls ∈ gw) ∧ (yL_weight.cls ≠ "java/lang/invoke/MethodHandle" ∧ yL_weight.cls ≠ "java/lang/invoke/VarHandle" ∧ (parseMethodDescriptor yL_weight.desc).map (fun d => d.parameters.length) = some 4) ∧ Cond.static yL_weight ∈ gw := ⟨hw_1_0, ⟨by decide +kernel, by decide +kernel, by decide +kernel⟩, hw_4_157⟩
theorem miL_dimension : (Cond.initialized yL_dimension.cls ∈ gw) ∧ (yL_dimension.cls ≠ "java/lang/invoke/MethodHandle" ∧ yL_dimension.cls ≠ "java/lang/invoke/VarHandle" ∧ (parseMethodDescriptor yL_dimension.desc).map (fun d => d.parameters.length) = some 3) ∧ Cond.static yL_dimension ∈ gw := ⟨hw_1_0, ⟨by decide +kernel, by decide +kernel, by decide +kernel⟩, hw_4_164⟩
theorem miL_shattered : (Cond.initialized yL_shattered.cls ∈ gw) ∧ (yL_shattered.cls ≠ "java/lang/invoke/MethodHandle" ∧ yL_shattered.cls ≠ "java/lang/invoke/VarHandle" ∧ (parseMethodDescriptor yL_shattered.desc).map (fun d => d.parameters.length) = some 3) ∧ Cond.static yL_shattered ∈ gw := ⟨hw_1_0, ⟨by decide +kernel, by decide +kernel, by decide +kernel⟩, hw_4_171⟩
theorem miL_crossing : (Cond.initialized yL_crossing.cls ∈ gw) ∧ (yL_crossing.cls ≠ "java/lang/invoke/MethodHandle" ∧ yL_crossing.cls ≠ "java/lang/invoke/VarHandle" ∧ (parseMethodDescriptor yL_crossing.desc).map (fun d => d.parameters.length) = some 4) ∧ Cond.static yL_crossing ∈ gw := ⟨hw_1_0, ⟨by decide +kernel, by decide +kernel, by decide +kernel⟩, hw_4_178⟩
theorem miL_sunflower : (Cond.initialized yL_sunflower.cls ∈ gw) ∧ (yL_sunflower.cls ≠ "java/lang/invoke/MethodHandle" ∧ yL_sunflower.cls ≠ "java/lang/invoke/VarHandle" ∧ (parseMethodDescriptor yL_sunflower.desc).map (fun d => d.parameters.length) = some 3) ∧ Cond.static yL_sunflower ∈ gw := ⟨hw_1_0, ⟨by decide +kernel, by decide +kernel, by decide +kernel⟩, hw_4_185⟩
theorem miL_pairs : (Cond.initialized yL_pairs.cls ∈ gw) ∧ (yL_pairs.cls ≠ "java/lang/invoke/MethodHandle" ∧ yL_pairs.cls ≠ "java/lang/invoke/VarHandle" ∧ (parseMethodDescriptor yL_pairs.desc).map (fun d => d.parameters.length) = some 4) ∧ Cond.static yL_pairs ∈ gw := ⟨hw_1_0, ⟨by decide +kernel, by decide +kernel, by decide +kernel⟩, hw_4_192⟩
theorem miL_type : (Cond.initialized yL_type.cls ∈ gw) ∧ (yL_type.cls ≠ "java/lang/invoke/MethodHandle" ∧ yL_type.cls ≠ "java/lang/invoke/VarHandle" ∧ (parseMethodDescriptor yL_type.desc).map (fun d => d.parameters.length) = some 3) ∧ Cond.static yL_type ∈ gw := ⟨hw_1_0, ⟨by decide +kernel, by decide +kernel, by decide +kernel⟩, hw_4_199⟩
theorem miL_read : (Cond.initialized yL_read.cls ∈ gw) ∧ (yL_read.cls ≠ "java/lang/invoke/MethodHandle" ∧ yL_read.cls ≠ "java/lang/invoke/VarHandle" ∧ (parseMethodDescriptor yL_read.desc).map (fun d => d.parameters.length) = some 3) ∧ Cond.static yL_read ∈ gw := ⟨hw_1_0, ⟨by decide +kernel, by decide +kernel, by decide +kernel⟩, hw_4_227⟩
theorem miL_undo : (Cond.initialized yL_undo.cls ∈ gw) ∧ (yL_undo.cls ≠ "java/lang/invoke/MethodHandle" ∧ yL_undo.cls ≠ "java/lang/invoke/VarHandle" ∧ (parseMethodDescriptor yL_undo.desc).map (fun d => d.parameters.length) = some 2) ∧ Cond.static yL_undo ∈ gw := ⟨hw_1_0, ⟨by decide +kernel, by decide +kernel, by decide +kernel⟩, hw_5_0⟩
