theorem dX11_init_0 : decode cX11_init 0 = .ok (.aload_n 0, 1) := by decide +kernel
theorem dX11_init_1 : decode cX11_init 1 = .ok (.invokespecial 1, 3) := by decide +kernel
theorem dX11_init_4 : decode cX11_init 4 = .ok (.aload_n 0, 1) := by decide +kernel
theorem dX11_init_5 : decode cX11_init 5 = .ok (.bipush 6, 2) := by decide +kernel
theorem dX11_init_7 : decode cX11_init 7 = .ok (.putfield 7, 3) := by decide +kernel
theorem dX11_init_10 : decode cX11_init 10 = .ok (.aload_n 0, 1) := by decide +kernel
theorem dX11_init_11 : decode cX11_init 11 = .ok (.sipush 4096, 3) := by decide +kernel
theorem dX11_init_14 : decode cX11_init 14 = .ok (.newarray .boolean, 2) := by decide +kernel
theorem dX11_init_16 : decode cX11_init 16 = .ok (.putfield 13, 3) := by decide +kernel
theorem dX11_init_19 : decode cX11_init 19 = .ok (.aload_n 0, 1) := by decide +kernel
theorem dX11_init_20 : decode cX11_init 20 = .ok (.sipush 16384, 3) := by decide +kernel
theorem dX11_init_23 : decode cX11_init 23 = .ok (.newarray .boolean, 2) := by decide +kernel
theorem dX11_init_25 : decode cX11_init 25 = .ok (.putfield 17, 3) := by decide +kernel
theorem dX11_init_28 : decode cX11_init 28 = .ok (.aload_n 0, 1) := by decide +kernel
theorem dX11_init_29 : decode cX11_init 29 = .ok (.iconst 4, 1) := by decide +kernel
theorem dX11_init_30 : decode cX11_init 30 = .ok (.newarray .int, 2) := by decide +kernel
theorem dX11_init_32 : decode cX11_init 32 = .ok (.putfield 20, 3) := by decide +kernel
theorem dX11_init_35 : decode cX11_init 35 = .ok (.aload_n 0, 1) := by decide +kernel
theorem dX11_init_36 : decode cX11_init 36 = .ok (.bipush 120, 2) := by decide +kernel
theorem dX11_init_38 : decode cX11_init 38 = .ok (.newarray .byte, 2) := by decide +kernel
theorem dX11_init_40 : decode cX11_init 40 = .ok (.putfield 24, 3) := by decide +kernel
theorem dX11_init_43 : decode cX11_init 43 = .ok (.aload_n 0, 1) := by decide +kernel
theorem dX11_init_44 : decode cX11_init 44 = .ok (.sipush 1024, 3) := by decide +kernel
theorem dX11_init_47 : decode cX11_init 47 = .ok (.newarray .boolean, 2) := by decide +kernel
theorem dX11_init_49 : decode cX11_init 49 = .ok (.putfield 28, 3) := by decide +kernel
theorem dX11_init_52 : decode cX11_init 52 = .ok (.aload_n 0, 1) := by decide +kernel
theorem dX11_init_53 : decode cX11_init 53 = .ok (.sipush 1024, 3) := by decide +kernel
theorem dX11_init_56 : decode cX11_init 56 = .ok (.newarray .int, 2) := by decide +kernel
theorem dX11_init_58 : decode cX11_init 58 = .ok (.putfield 31, 3) := by decide +kernel
theorem dX11_init_61 : decode cX11_init 61 = .ok (.aload_n 0, 1) := by decide +kernel
theorem dX11_init_62 : decode cX11_init 62 = .ok (.bipush 11, 2) := by decide +kernel
theorem dX11_init_64 : decode cX11_init 64 = .ok (.newarray .int, 2) := by decide +kernel
theorem dX11_init_66 : decode cX11_init 66 = .ok (.putfield 34, 3) := by decide +kernel
theorem dX11_init_69 : decode cX11_init 69 = .ok (.aload_n 0, 1) := by decide +kernel
theorem dX11_init_70 : decode cX11_init 70 = .ok (.iconst 0, 1) := by decide +kernel
theorem dX11_init_71 : decode cX11_init 71 = .ok (.putfield 37, 3) := by decide +kernel
theorem dX11_init_74 : decode cX11_init 74 = .ok (.return_, 1) := by decide +kernel
theorem dX11_thrown_0 : decode cX11_thrown 0 = .ok (.aload_n 0, 1) := by decide +kernel
theorem dX11_thrown_1 : decode cX11_thrown 1 = .ok (.getfield 37, 3) := by decide +kernel
theorem dX11_thrown_4 : decode cX11_thrown 4 = .ok (.ireturn, 1) := by decide +kernel
theorem dX11_in_0 : decode cX11_in 0 = .ok (.iload_n 0, 1) := by decide +kernel
theorem dX11_in_1 : decode cX11_in 1 = .ok (.iload_n 1, 1) := by decide +kernel
theorem dX11_in_2 : decode cX11_in 2 = .ok (.if_icmp .lt 12, 3) := by decide +kernel
theorem dX11_in_5 : decode cX11_in 5 = .ok (.iload_n 0, 1) := by decide +kernel
theorem dX11_in_6 : decode cX11_in 6 = .ok (.iload_n 2, 1) := by decide +kernel
theorem dX11_in_7 : decode cX11_in 7 = .ok (.if_icmp .gt 7, 3) := by decide +kernel
theorem dX11_in_10 : decode cX11_in 10 = .ok (.iconst 1, 1) := by decide +kernel
theorem dX11_in_11 : decode cX11_in 11 = .ok (.goto 4, 3) := by decide +kernel
theorem dX11_in_14 : decode cX11_in 14 = .ok (.iconst 0, 1) := by decide +kernel
theorem dX11_in_15 : decode cX11_in 15 = .ok (.ireturn, 1) := by decide +kernel
theorem dX11_codes_0 : decode cX11_codes 0 = .ok (.iconst 1, 1) := by decide +kernel
theorem dX11_codes_1 : decode cX11_codes 1 = .ok (.aload_n 0, 1) := by decide +kernel
theorem dX11_codes_2 : decode cX11_codes 2 = .ok (.getfield 7, 3) := by decide +kernel
theorem dX11_codes_5 : decode cX11_codes 5 = .ok (.ishl, 1) := by decide +kernel
theorem dX11_codes_6 : decode cX11_codes 6 = .ok (.ireturn, 1) := by decide +kernel
theorem dX11_bits_0 : decode cX11_bits 0 = .ok (.iconst 0, 1) := by decide +kernel
theorem dX11_bits_1 : decode cX11_bits 1 = .ok (.istore_n 1, 1) := by decide +kernel
theorem dX11_bits_2 : decode cX11_bits 2 = .ok (.iconst 0, 1) := by decide +kernel
theorem dX11_bits_3 : decode cX11_bits 3 = .ok (.istore_n 2, 1) := by decide +kernel
theorem dX11_bits_4 : decode cX11_bits 4 = .ok (.iload_n 2, 1) := by decide +kernel
theorem dX11_bits_5 : decode cX11_bits 5 = .ok (.bipush 10, 2) := by decide +kernel
theorem dX11_bits_7 : decode cX11_bits 7 = .ok (.if_icmp .ge 17, 3) := by decide +kernel
theorem dX11_bits_10 : decode cX11_bits 10 = .ok (.iload_n 1, 1) := by decide +kernel
theorem dX11_bits_11 : decode cX11_bits 11 = .ok (.iload_n 0, 1) := by decide +kernel
theorem dX11_bits_12 : decode cX11_bits 12 = .ok (.iload_n 2, 1) := by decide +kernel
theorem dX11_bits_13 : decode cX11_bits 13 = .ok (.ishr, 1) := by decide +kernel
theorem dX11_bits_14 : decode cX11_bits 14 = .ok (.iconst 1, 1) := by decide +kernel
theorem dX11_bits_15 : decode cX11_bits 15 = .ok (.iand, 1) := by decide +kernel
theorem dX11_bits_16 : decode cX11_bits 16 = .ok (.iadd, 1) := by decide +kernel
theorem dX11_bits_17 : decode cX11_bits 17 = .ok (.istore_n 1, 1) := by decide +kernel
theorem dX11_bits_18 : decode cX11_bits 18 = .ok (.iinc 2 1, 3) := by decide +kernel
theorem dX11_bits_21 : decode cX11_bits 21 = .ok (.goto (-17), 3) := by decide +kernel
theorem dX11_bits_24 : decode cX11_bits 24 = .ok (.iload_n 1, 1) := by decide +kernel
theorem dX11_bits_25 : decode cX11_bits 25 = .ok (.ireturn, 1) := by decide +kernel
theorem dX11_note_0 : decode cX11_note 0 = .ok (.aload_n 0, 1) := by decide +kernel
theorem dX11_note_1 : decode cX11_note 1 = .ok (.getfield 40, 3) := by decide +kernel
theorem dX11_note_4 : decode cX11_note 4 = .ok (.iconst 4, 1) := by decide +kernel
theorem dX11_note_5 : decode cX11_note 5 = .ok (.if_icmp .ne 73, 3) := by decide +kernel
theorem dX11_note_8 : decode cX11_note 8 = .ok (.iconst 0, 1) := by decide +kernel
theorem dX11_note_9 : decode cX11_note 9 = .ok (.istore_n 1, 1) := by decide +kernel
theorem dX11_note_10 : decode cX11_note 10 = .ok (.iload_n 1, 1) := by decide +kernel
theorem dX11_note_11 : decode cX11_note 11 = .ok (.sipush 12288, 3) := by decide +kernel
theorem dX11_note_14 : decode cX11_note 14 = .ok (.if_icmp .ge 25, 3) := by decide +kernel
theorem dX11_note_17 : decode cX11_note 17 = .ok (.aload_n 0, 1) := by decide +kernel
theorem dX11_note_18 : decode cX11_note 18 = .ok (.getfield 17, 3) := by decide +kernel
theorem dX11_note_21 : decode cX11_note 21 = .ok (.iload_n 1, 1) := by decide +kernel
theorem dX11_note_22 : decode cX11_note 22 = .ok (.aload_n 0, 1) := by decide +kernel
theorem dX11_note_23 : decode cX11_note 23 = .ok (.getfield 17, 3) := by decide +kernel
theorem dX11_note_26 : decode cX11_note 26 = .ok (.iload_n 1, 1) := by decide +kernel
theorem dX11_note_27 : decode cX11_note 27 = .ok (.sipush 4096, 3) := by decide +kernel
theorem dX11_note_30 : decode cX11_note 30 = .ok (.iadd, 1) := by decide +kernel
theorem dX11_note_31 : decode cX11_note 31 = .ok (.baload, 1) := by decide +kernel
theorem dX11_note_32 : decode cX11_note 32 = .ok (.bastore, 1) := by decide +kernel
theorem dX11_note_33 : decode cX11_note 33 = .ok (.iinc 1 1, 3) := by decide +kernel
theorem dX11_note_36 : decode cX11_note 36 = .ok (.goto (-26), 3) := by decide +kernel
theorem dX11_note_39 : decode cX11_note 39 = .ok (.iconst 0, 1) := by decide +kernel
theorem dX11_note_40 : decode cX11_note 40 = .ok (.istore_n 1, 1) := by decide +kernel
theorem dX11_note_41 : decode cX11_note 41 = .ok (.iload_n 1, 1) := by decide +kernel
theorem dX11_note_42 : decode cX11_note 42 = .ok (.iconst 1, 1) := by decide +kernel
theorem dX11_note_43 : decode cX11_note 43 = .ok (.iadd, 1) := by decide +kernel
theorem dX11_note_44 : decode cX11_note 44 = .ok (.iconst 4, 1) := by decide +kernel
theorem dX11_note_45 : decode cX11_note 45 = .ok (.if_icmp .ge 23, 3) := by decide +kernel
theorem dX11_note_48 : decode cX11_note 48 = .ok (.aload_n 0, 1) := by decide +kernel
theorem dX11_note_49 : decode cX11_note 49 = .ok (.getfield 20, 3) := by decide +kernel
theorem dX11_note_52 : decode cX11_note 52 = .ok (.iload_n 1, 1) := by decide +kernel
theorem dX11_note_53 : decode cX11_note 53 = .ok (.aload_n 0, 1) := by decide +kernel
theorem dX11_note_54 : decode cX11_note 54 = .ok (.getfield 20, 3) := by decide +kernel
theorem dX11_note_57 : decode cX11_note 57 = .ok (.iload_n 1, 1) := by decide +kernel
theorem dX11_note_58 : decode cX11_note 58 = .ok (.iconst 1, 1) := by decide +kernel
theorem dX11_note_59 : decode cX11_note 59 = .ok (.iadd, 1) := by decide +kernel
theorem dX11_note_60 : decode cX11_note 60 = .ok (.iaload, 1) := by decide +kernel
theorem dX11_note_61 : decode cX11_note 61 = .ok (.iastore, 1) := by decide +kernel
theorem dX11_note_62 : decode cX11_note 62 = .ok (.iinc 1 1, 3) := by decide +kernel
theorem dX11_note_65 : decode cX11_note 65 = .ok (.goto (-24), 3) := by decide +kernel
theorem dX11_note_68 : decode cX11_note 68 = .ok (.aload_n 0, 1) := by decide +kernel
theorem dX11_note_69 : decode cX11_note 69 = .ok (.dup, 1) := by decide +kernel
theorem dX11_note_70 : decode cX11_note 70 = .ok (.getfield 40, 3) := by decide +kernel
theorem dX11_note_73 : decode cX11_note 73 = .ok (.iconst 1, 1) := by decide +kernel
theorem dX11_note_74 : decode cX11_note 74 = .ok (.isub, 1) := by decide +kernel
theorem dX11_note_75 : decode cX11_note 75 = .ok (.putfield 40, 3) := by decide +kernel
theorem dX11_note_78 : decode cX11_note 78 = .ok (.iconst 0, 1) := by decide +kernel
theorem dX11_note_79 : decode cX11_note 79 = .ok (.istore_n 1, 1) := by decide +kernel
theorem dX11_note_80 : decode cX11_note 80 = .ok (.iload_n 1, 1) := by decide +kernel
theorem dX11_note_81 : decode cX11_note 81 = .ok (.sipush 4096, 3) := by decide +kernel
theorem dX11_note_84 : decode cX11_note 84 = .ok (.if_icmp .ge 30, 3) := by decide +kernel
theorem dX11_note_87 : decode cX11_note 87 = .ok (.aload_n 0, 1) := by decide +kernel
theorem dX11_note_88 : decode cX11_note 88 = .ok (.getfield 17, 3) := by decide +kernel
theorem dX11_note_91 : decode cX11_note 91 = .ok (.sipush 4096, 3) := by decide +kernel
theorem dX11_note_94 : decode cX11_note 94 = .ok (.aload_n 0, 1) := by decide +kernel
theorem dX11_note_95 : decode cX11_note 95 = .ok (.getfield 40, 3) := by decide +kernel
theorem dX11_note_98 : decode cX11_note 98 = .ok (.imul, 1) := by decide +kernel
theorem dX11_note_99 : decode cX11_note 99 = .ok (.iload_n 1, 1) := by decide +kernel
theorem dX11_note_100 : decode cX11_note 100 = .ok (.iadd, 1) := by decide +kernel
theorem dX11_note_101 : decode cX11_note 101 = .ok (.aload_n 0, 1) := by decide +kernel
theorem dX11_note_102 : decode cX11_note 102 = .ok (.getfield 13, 3) := by decide +kernel
theorem dX11_note_105 : decode cX11_note 105 = .ok (.iload_n 1, 1) := by decide +kernel
theorem dX11_note_106 : decode cX11_note 106 = .ok (.baload, 1) := by decide +kernel
theorem dX11_note_107 : decode cX11_note 107 = .ok (.bastore, 1) := by decide +kernel
theorem dX11_note_108 : decode cX11_note 108 = .ok (.iinc 1 1, 3) := by decide +kernel
theorem dX11_note_111 : decode cX11_note 111 = .ok (.goto (-31), 3) := by decide +kernel
theorem dX11_note_114 : decode cX11_note 114 = .ok (.aload_n 0, 1) := by decide +kernel
theorem dX11_note_115 : decode cX11_note 115 = .ok (.getfield 20, 3) := by decide +kernel
theorem dX11_note_118 : decode cX11_note 118 = .ok (.aload_n 0, 1) := by decide +kernel
theorem dX11_note_119 : decode cX11_note 119 = .ok (.getfield 40, 3) := by decide +kernel
theorem dX11_note_122 : decode cX11_note 122 = .ok (.aload_n 0, 1) := by decide +kernel
theorem dX11_note_123 : decode cX11_note 123 = .ok (.getfield 7, 3) := by decide +kernel
theorem dX11_note_126 : decode cX11_note 126 = .ok (.iastore, 1) := by decide +kernel
theorem dX11_note_127 : decode cX11_note 127 = .ok (.aload_n 0, 1) := by decide +kernel
theorem dX11_note_128 : decode cX11_note 128 = .ok (.dup, 1) := by decide +kernel
theorem dX11_note_129 : decode cX11_note 129 = .ok (.getfield 40, 3) := by decide +kernel
theorem dX11_note_132 : decode cX11_note 132 = .ok (.iconst 1, 1) := by decide +kernel
theorem dX11_note_133 : decode cX11_note 133 = .ok (.iadd, 1) := by decide +kernel
theorem dX11_note_134 : decode cX11_note 134 = .ok (.putfield 40, 3) := by decide +kernel
theorem dX11_note_137 : decode cX11_note 137 = .ok (.return_, 1) := by decide +kernel
theorem dX11_undo_0 : decode cX11_undo 0 = .ok (.aload_n 0, 1) := by decide +kernel
theorem dX11_undo_1 : decode cX11_undo 1 = .ok (.aload_n 0, 1) := by decide +kernel
theorem dX11_undo_2 : decode cX11_undo 2 = .ok (.getfield 40, 3) := by decide +kernel
theorem dX11_undo_5 : decode cX11_undo 5 = .ok (.ifCond .ne 7, 3) := by decide +kernel
theorem dX11_undo_8 : decode cX11_undo 8 = .ok (.iconst 1, 1) := by decide +kernel
theorem dX11_undo_9 : decode cX11_undo 9 = .ok (.goto 4, 3) := by decide +kernel
theorem dX11_undo_12 : decode cX11_undo 12 = .ok (.iconst 0, 1) := by decide +kernel
theorem dX11_undo_13 : decode cX11_undo 13 = .ok (.putfield 37, 3) := by decide +kernel
theorem dX11_undo_16 : decode cX11_undo 16 = .ok (.aload_n 0, 1) := by decide +kernel
theorem dX11_undo_17 : decode cX11_undo 17 = .ok (.getfield 37, 3) := by decide +kernel
theorem dX11_undo_20 : decode cX11_undo 20 = .ok (.ifCond .le 5, 3) := by decide +kernel
theorem dX11_undo_23 : decode cX11_undo 23 = .ok (.iconst 0, 1) := by decide +kernel
theorem dX11_undo_24 : decode cX11_undo 24 = .ok (.ireturn, 1) := by decide +kernel
theorem dX11_undo_25 : decode cX11_undo 25 = .ok (.aload_n 0, 1) := by decide +kernel
theorem dX11_undo_26 : decode cX11_undo 26 = .ok (.dup, 1) := by decide +kernel
theorem dX11_undo_27 : decode cX11_undo 27 = .ok (.getfield 40, 3) := by decide +kernel
theorem dX11_undo_30 : decode cX11_undo 30 = .ok (.iconst 1, 1) := by decide +kernel
theorem dX11_undo_31 : decode cX11_undo 31 = .ok (.isub, 1) := by decide +kernel
theorem dX11_undo_32 : decode cX11_undo 32 = .ok (.putfield 40, 3) := by decide +kernel
theorem dX11_undo_35 : decode cX11_undo 35 = .ok (.iconst 0, 1) := by decide +kernel
theorem dX11_undo_36 : decode cX11_undo 36 = .ok (.istore_n 1, 1) := by decide +kernel
theorem dX11_undo_37 : decode cX11_undo 37 = .ok (.iload_n 1, 1) := by decide +kernel
theorem dX11_undo_38 : decode cX11_undo 38 = .ok (.sipush 4096, 3) := by decide +kernel
theorem dX11_undo_41 : decode cX11_undo 41 = .ok (.if_icmp .ge 30, 3) := by decide +kernel
theorem dX11_undo_44 : decode cX11_undo 44 = .ok (.aload_n 0, 1) := by decide +kernel
theorem dX11_undo_45 : decode cX11_undo 45 = .ok (.getfield 13, 3) := by decide +kernel
theorem dX11_undo_48 : decode cX11_undo 48 = .ok (.iload_n 1, 1) := by decide +kernel
theorem dX11_undo_49 : decode cX11_undo 49 = .ok (.aload_n 0, 1) := by decide +kernel
theorem dX11_undo_50 : decode cX11_undo 50 = .ok (.getfield 17, 3) := by decide +kernel
theorem dX11_undo_53 : decode cX11_undo 53 = .ok (.sipush 4096, 3) := by decide +kernel
theorem dX11_undo_56 : decode cX11_undo 56 = .ok (.aload_n 0, 1) := by decide +kernel
theorem dX11_undo_57 : decode cX11_undo 57 = .ok (.getfield 40, 3) := by decide +kernel
theorem dX11_undo_60 : decode cX11_undo 60 = .ok (.imul, 1) := by decide +kernel
theorem dX11_undo_61 : decode cX11_undo 61 = .ok (.iload_n 1, 1) := by decide +kernel
theorem dX11_undo_62 : decode cX11_undo 62 = .ok (.iadd, 1) := by decide +kernel
theorem dX11_undo_63 : decode cX11_undo 63 = .ok (.baload, 1) := by decide +kernel
theorem dX11_undo_64 : decode cX11_undo 64 = .ok (.bastore, 1) := by decide +kernel
theorem dX11_undo_65 : decode cX11_undo 65 = .ok (.iinc 1 1, 3) := by decide +kernel
theorem dX11_undo_68 : decode cX11_undo 68 = .ok (.goto (-31), 3) := by decide +kernel
theorem dX11_undo_71 : decode cX11_undo 71 = .ok (.aload_n 0, 1) := by decide +kernel
theorem dX11_undo_72 : decode cX11_undo 72 = .ok (.aload_n 0, 1) := by decide +kernel
theorem dX11_undo_73 : decode cX11_undo 73 = .ok (.getfield 20, 3) := by decide +kernel
theorem dX11_undo_76 : decode cX11_undo 76 = .ok (.aload_n 0, 1) := by decide +kernel
theorem dX11_undo_77 : decode cX11_undo 77 = .ok (.getfield 40, 3) := by decide +kernel
theorem dX11_undo_80 : decode cX11_undo 80 = .ok (.iaload, 1) := by decide +kernel
theorem dX11_undo_81 : decode cX11_undo 81 = .ok (.putfield 7, 3) := by decide +kernel
theorem dX11_undo_84 : decode cX11_undo 84 = .ok (.aload_n 0, 1) := by decide +kernel
theorem dX11_undo_85 : decode cX11_undo 85 = .ok (.getfield 40, 3) := by decide +kernel
theorem dX11_undo_88 : decode cX11_undo 88 = .ok (.ireturn, 1) := by decide +kernel
theorem dX11_isPlace_0 : decode cX11_isPlace 0 = .ok (.iload_n 0, 1) := by decide +kernel
theorem dX11_isPlace_1 : decode cX11_isPlace 1 = .ok (.iconst 0, 1) := by decide +kernel
theorem dX11_isPlace_2 : decode cX11_isPlace 2 = .ok (.iconst 3, 1) := by decide +kernel
theorem dX11_isPlace_3 : decode cX11_isPlace 3 = .ok (.invokestatic 43, 3) := by decide +kernel
theorem dX11_isPlace_6 : decode cX11_isPlace 6 = .ok (.ireturn, 1) := by decide +kernel
theorem dX11_mayGo_0 : decode cX11_mayGo 0 = .ok (.aload_n 0, 1) := by decide +kernel
theorem dX11_mayGo_1 : decode cX11_mayGo 1 = .ok (.iload_n 1, 1) := by decide +kernel
theorem dX11_mayGo_2 : decode cX11_mayGo 2 = .ok (.ifCond .ne 7, 3) := by decide +kernel
theorem dX11_mayGo_5 : decode cX11_mayGo 5 = .ok (.iconst 1, 1) := by decide +kernel
theorem dX11_mayGo_6 : decode cX11_mayGo 6 = .ok (.goto 12, 3) := by decide +kernel
theorem dX11_mayGo_9 : decode cX11_mayGo 9 = .ok (.iload_n 2, 1) := by decide +kernel
theorem dX11_mayGo_10 : decode cX11_mayGo 10 = .ok (.ifCond .eq 7, 3) := by decide +kernel
theorem dX11_mayGo_13 : decode cX11_mayGo 13 = .ok (.iconst 0, 1) := by decide +kernel
theorem dX11_mayGo_14 : decode cX11_mayGo 14 = .ok (.goto 4, 3) := by decide +kernel
theorem dX11_mayGo_17 : decode cX11_mayGo 17 = .ok (.iconst 2, 1) := by decide +kernel
theorem dX11_mayGo_18 : decode cX11_mayGo 18 = .ok (.putfield 37, 3) := by decide +kernel
theorem dX11_mayGo_21 : decode cX11_mayGo 21 = .ok (.aload_n 0, 1) := by decide +kernel
theorem dX11_mayGo_22 : decode cX11_mayGo 22 = .ok (.getfield 37, 3) := by decide +kernel
theorem dX11_mayGo_25 : decode cX11_mayGo 25 = .ok (.ifCond .ne 7, 3) := by decide +kernel
theorem dX11_mayGo_28 : decode cX11_mayGo 28 = .ok (.iconst 1, 1) := by decide +kernel
theorem dX11_mayGo_29 : decode cX11_mayGo 29 = .ok (.goto 4, 3) := by decide +kernel
theorem dX11_mayGo_32 : decode cX11_mayGo 32 = .ok (.iconst 0, 1) := by decide +kernel
theorem dX11_mayGo_33 : decode cX11_mayGo 33 = .ok (.ireturn, 1) := by decide +kernel
theorem dX11_isCode_0 : decode cX11_isCode 0 = .ok (.iload_n 1, 1) := by decide +kernel
theorem dX11_isCode_1 : decode cX11_isCode 1 = .ok (.iconst 0, 1) := by decide +kernel
theorem dX11_isCode_2 : decode cX11_isCode 2 = .ok (.aload_n 0, 1) := by decide +kernel
theorem dX11_isCode_3 : decode cX11_isCode 3 = .ok (.invokevirtual 47, 3) := by decide +kernel
theorem dX11_isCode_6 : decode cX11_isCode 6 = .ok (.iconst 1, 1) := by decide +kernel
theorem dX11_isCode_7 : decode cX11_isCode 7 = .ok (.isub, 1) := by decide +kernel
theorem dX11_isCode_8 : decode cX11_isCode 8 = .ok (.invokestatic 43, 3) := by decide +kernel
theorem dX11_isCode_11 : decode cX11_isCode 11 = .ok (.ireturn, 1) := by decide +kernel
theorem dX11_isElement_0 : decode cX11_isElement 0 = .ok (.iload_n 1, 1) := by decide +kernel
theorem dX11_isElement_1 : decode cX11_isElement 1 = .ok (.iconst 0, 1) := by decide +kernel
theorem dX11_isElement_2 : decode cX11_isElement 2 = .ok (.aload_n 0, 1) := by decide +kernel
theorem dX11_isElement_3 : decode cX11_isElement 3 = .ok (.getfield 7, 3) := by decide +kernel
theorem dX11_isElement_6 : decode cX11_isElement 6 = .ok (.iconst 1, 1) := by decide +kernel
theorem dX11_isElement_7 : decode cX11_isElement 7 = .ok (.isub, 1) := by decide +kernel
theorem dX11_isElement_8 : decode cX11_isElement 8 = .ok (.invokestatic 43, 3) := by decide +kernel
theorem dX11_isElement_11 : decode cX11_isElement 11 = .ok (.ireturn, 1) := by decide +kernel
theorem dX11_sizeOf_0 : decode cX11_sizeOf 0 = .ok (.iconst 0, 1) := by decide +kernel
theorem dX11_sizeOf_1 : decode cX11_sizeOf 1 = .ok (.istore_n 3, 1) := by decide +kernel
theorem dX11_sizeOf_2 : decode cX11_sizeOf 2 = .ok (.iconst 0, 1) := by decide +kernel
theorem dX11_sizeOf_3 : decode cX11_sizeOf 3 = .ok (.istore 4, 2) := by decide +kernel
theorem dX11_sizeOf_5 : decode cX11_sizeOf 5 = .ok (.iload 4, 2) := by decide +kernel
theorem dX11_sizeOf_7 : decode cX11_sizeOf 7 = .ok (.aload_n 0, 1) := by decide +kernel
theorem dX11_sizeOf_8 : decode cX11_sizeOf 8 = .ok (.invokevirtual 47, 3) := by decide +kernel
theorem dX11_sizeOf_11 : decode cX11_sizeOf 11 = .ok (.if_icmp .ge 47, 3) := by decide +kernel
theorem dX11_sizeOf_14 : decode cX11_sizeOf 14 = .ok (.iload_n 3, 1) := by decide +kernel
theorem dX11_sizeOf_15 : decode cX11_sizeOf 15 = .ok (.aload_n 0, 1) := by decide +kernel
theorem dX11_sizeOf_16 : decode cX11_sizeOf 16 = .ok (.getfield 13, 3) := by decide +kernel
theorem dX11_sizeOf_19 : decode cX11_sizeOf 19 = .ok (.sipush 1024, 3) := by decide +kernel
theorem dX11_sizeOf_22 : decode cX11_sizeOf 22 = .ok (.iload_n 1, 1) := by decide +kernel
theorem dX11_sizeOf_23 : decode cX11_sizeOf 23 = .ok (.imul, 1) := by decide +kernel
theorem dX11_sizeOf_24 : decode cX11_sizeOf 24 = .ok (.iload 4, 2) := by decide +kernel
theorem dX11_sizeOf_26 : decode cX11_sizeOf 26 = .ok (.iadd, 1) := by decide +kernel
theorem dX11_sizeOf_27 : decode cX11_sizeOf 27 = .ok (.baload, 1) := by decide +kernel
theorem dX11_sizeOf_28 : decode cX11_sizeOf 28 = .ok (.ifCond .eq 21, 3) := by decide +kernel
theorem dX11_sizeOf_31 : decode cX11_sizeOf 31 = .ok (.iload_n 2, 1) := by decide +kernel
theorem dX11_sizeOf_32 : decode cX11_sizeOf 32 = .ok (.iconst (-1), 1) := by decide +kernel
theorem dX11_sizeOf_33 : decode cX11_sizeOf 33 = .ok (.if_icmp .eq 12, 3) := by decide +kernel
theorem dX11_sizeOf_36 : decode cX11_sizeOf 36 = .ok (.iload 4, 2) := by decide +kernel
theorem dX11_sizeOf_38 : decode cX11_sizeOf 38 = .ok (.invokestatic 51, 3) := by decide +kernel
theorem dX11_sizeOf_41 : decode cX11_sizeOf 41 = .ok (.iload_n 2, 1) := by decide +kernel
theorem dX11_sizeOf_42 : decode cX11_sizeOf 42 = .ok (.if_icmp .ne 7, 3) := by decide +kernel
theorem dX11_sizeOf_45 : decode cX11_sizeOf 45 = .ok (.iconst 1, 1) := by decide +kernel
theorem dX11_sizeOf_46 : decode cX11_sizeOf 46 = .ok (.goto 4, 3) := by decide +kernel
theorem dX11_sizeOf_49 : decode cX11_sizeOf 49 = .ok (.iconst 0, 1) := by decide +kernel
theorem dX11_sizeOf_50 : decode cX11_sizeOf 50 = .ok (.iadd, 1) := by decide +kernel
theorem dX11_sizeOf_51 : decode cX11_sizeOf 51 = .ok (.istore_n 3, 1) := by decide +kernel
theorem dX11_sizeOf_52 : decode cX11_sizeOf 52 = .ok (.iinc 4 1, 3) := by decide +kernel
theorem dX11_sizeOf_55 : decode cX11_sizeOf 55 = .ok (.goto (-50), 3) := by decide +kernel
theorem dX11_sizeOf_58 : decode cX11_sizeOf 58 = .ok (.iload_n 3, 1) := by decide +kernel
theorem dX11_sizeOf_59 : decode cX11_sizeOf 59 = .ok (.ireturn, 1) := by decide +kernel
theorem dX11_setGround_0 : decode cX11_setGround 0 = .ok (.aload_n 0, 1) := by decide +kernel
theorem dX11_setGround_1 : decode cX11_setGround 1 = .ok (.iload_n 1, 1) := by decide +kernel
theorem dX11_setGround_2 : decode cX11_setGround 2 = .ok (.iconst 1, 1) := by decide +kernel
theorem dX11_setGround_3 : decode cX11_setGround 3 = .ok (.bipush 10, 2) := by decide +kernel
theorem dX11_setGround_5 : decode cX11_setGround 5 = .ok (.invokestatic 43, 3) := by decide +kernel
theorem dX11_setGround_8 : decode cX11_setGround 8 = .ok (.ifCond .eq 7, 3) := by decide +kernel
theorem dX11_setGround_11 : decode cX11_setGround 11 = .ok (.iconst 0, 1) := by decide +kernel
theorem dX11_setGround_12 : decode cX11_setGround 12 = .ok (.goto 4, 3) := by decide +kernel
theorem dX11_setGround_15 : decode cX11_setGround 15 = .ok (.iconst 1, 1) := by decide +kernel
theorem dX11_setGround_16 : decode cX11_setGround 16 = .ok (.putfield 37, 3) := by decide +kernel
theorem dX11_setGround_19 : decode cX11_setGround 19 = .ok (.aload_n 0, 1) := by decide +kernel
theorem dX11_setGround_20 : decode cX11_setGround 20 = .ok (.getfield 37, 3) := by decide +kernel
theorem dX11_setGround_23 : decode cX11_setGround 23 = .ok (.ifCond .le 5, 3) := by decide +kernel
theorem dX11_setGround_26 : decode cX11_setGround 26 = .ok (.iconst 0, 1) := by decide +kernel
theorem dX11_setGround_27 : decode cX11_setGround 27 = .ok (.ireturn, 1) := by decide +kernel
theorem dX11_setGround_28 : decode cX11_setGround 28 = .ok (.aload_n 0, 1) := by decide +kernel
theorem dX11_setGround_29 : decode cX11_setGround 29 = .ok (.invokevirtual 55, 3) := by decide +kernel
theorem dX11_setGround_32 : decode cX11_setGround 32 = .ok (.aload_n 0, 1) := by decide +kernel
theorem dX11_setGround_33 : decode cX11_setGround 33 = .ok (.getfield 7, 3) := by decide +kernel
theorem dX11_setGround_36 : decode cX11_setGround 36 = .ok (.istore_n 2, 1) := by decide +kernel
theorem dX11_setGround_37 : decode cX11_setGround 37 = .ok (.aload_n 0, 1) := by decide +kernel
theorem dX11_setGround_38 : decode cX11_setGround 38 = .ok (.iload_n 1, 1) := by decide +kernel
theorem dX11_setGround_39 : decode cX11_setGround 39 = .ok (.putfield 7, 3) := by decide +kernel
theorem dX11_setGround_42 : decode cX11_setGround 42 = .ok (.iconst 0, 1) := by decide +kernel
theorem dX11_setGround_43 : decode cX11_setGround 43 = .ok (.istore_n 3, 1) := by decide +kernel
theorem dX11_setGround_44 : decode cX11_setGround 44 = .ok (.iload_n 3, 1) := by decide +kernel
theorem dX11_setGround_45 : decode cX11_setGround 45 = .ok (.sipush 4096, 3) := by decide +kernel
theorem dX11_setGround_48 : decode cX11_setGround 48 = .ok (.if_icmp .ge 16, 3) := by decide +kernel
theorem dX11_setGround_51 : decode cX11_setGround 51 = .ok (.aload_n 0, 1) := by decide +kernel
theorem dX11_setGround_52 : decode cX11_setGround 52 = .ok (.getfield 13, 3) := by decide +kernel
theorem dX11_setGround_55 : decode cX11_setGround 55 = .ok (.iload_n 3, 1) := by decide +kernel
theorem dX11_setGround_56 : decode cX11_setGround 56 = .ok (.iconst 0, 1) := by decide +kernel
theorem dX11_setGround_57 : decode cX11_setGround 57 = .ok (.bastore, 1) := by decide +kernel
theorem dX11_setGround_58 : decode cX11_setGround 58 = .ok (.iinc 3 1, 3) := by decide +kernel
theorem dX11_setGround_61 : decode cX11_setGround 61 = .ok (.goto (-17), 3) := by decide +kernel
theorem dX11_setGround_64 : decode cX11_setGround 64 = .ok (.iload_n 2, 1) := by decide +kernel
theorem dX11_setGround_65 : decode cX11_setGround 65 = .ok (.ireturn, 1) := by decide +kernel
theorem dX11_changes_0 : decode cX11_changes 0 = .ok (.aload_n 0, 1) := by decide +kernel
theorem dX11_changes_1 : decode cX11_changes 1 = .ok (.iload_n 1, 1) := by decide +kernel
theorem dX11_changes_2 : decode cX11_changes 2 = .ok (.invokestatic 58, 3) := by decide +kernel
theorem dX11_changes_5 : decode cX11_changes 5 = .ok (.aload_n 0, 1) := by decide +kernel
theorem dX11_changes_6 : decode cX11_changes 6 = .ok (.iload_n 2, 1) := by decide +kernel
theorem dX11_changes_7 : decode cX11_changes 7 = .ok (.invokevirtual 62, 3) := by decide +kernel
theorem dX11_changes_10 : decode cX11_changes 10 = .ok (.invokevirtual 65, 3) := by decide +kernel
theorem dX11_changes_13 : decode cX11_changes 13 = .ok (.ifCond .ne 5, 3) := by decide +kernel
theorem dX11_changes_16 : decode cX11_changes 16 = .ok (.iconst 0, 1) := by decide +kernel
theorem dX11_changes_17 : decode cX11_changes 17 = .ok (.ireturn, 1) := by decide +kernel
theorem dX11_changes_18 : decode cX11_changes 18 = .ok (.aload_n 0, 1) := by decide +kernel
theorem dX11_changes_19 : decode cX11_changes 19 = .ok (.invokevirtual 55, 3) := by decide +kernel
theorem dX11_changes_22 : decode cX11_changes 22 = .ok (.aload_n 0, 1) := by decide +kernel
theorem dX11_changes_23 : decode cX11_changes 23 = .ok (.getfield 13, 3) := by decide +kernel
theorem dX11_changes_26 : decode cX11_changes 26 = .ok (.sipush 1024, 3) := by decide +kernel
theorem dX11_changes_29 : decode cX11_changes 29 = .ok (.iload_n 1, 1) := by decide +kernel
theorem dX11_changes_30 : decode cX11_changes 30 = .ok (.imul, 1) := by decide +kernel
theorem dX11_changes_31 : decode cX11_changes 31 = .ok (.iload_n 2, 1) := by decide +kernel
theorem dX11_changes_32 : decode cX11_changes 32 = .ok (.iadd, 1) := by decide +kernel
theorem dX11_changes_33 : decode cX11_changes 33 = .ok (.baload, 1) := by decide +kernel
theorem dX11_changes_34 : decode cX11_changes 34 = .ok (.istore 4, 2) := by decide +kernel
theorem dX11_changes_36 : decode cX11_changes 36 = .ok (.aload_n 0, 1) := by decide +kernel
theorem dX11_changes_37 : decode cX11_changes 37 = .ok (.getfield 13, 3) := by decide +kernel
theorem dX11_changes_40 : decode cX11_changes 40 = .ok (.sipush 1024, 3) := by decide +kernel
theorem dX11_changes_43 : decode cX11_changes 43 = .ok (.iload_n 1, 1) := by decide +kernel
theorem dX11_changes_44 : decode cX11_changes 44 = .ok (.imul, 1) := by decide +kernel
theorem dX11_changes_45 : decode cX11_changes 45 = .ok (.iload_n 2, 1) := by decide +kernel
theorem dX11_changes_46 : decode cX11_changes 46 = .ok (.iadd, 1) := by decide +kernel
theorem dX11_changes_47 : decode cX11_changes 47 = .ok (.iload_n 3, 1) := by decide +kernel
theorem dX11_changes_48 : decode cX11_changes 48 = .ok (.bastore, 1) := by decide +kernel
theorem dX11_changes_49 : decode cX11_changes 49 = .ok (.iload 4, 2) := by decide +kernel
theorem dX11_changes_51 : decode cX11_changes 51 = .ok (.iload_n 3, 1) := by decide +kernel
theorem dX11_changes_52 : decode cX11_changes 52 = .ok (.if_icmp .eq 7, 3) := by decide +kernel
theorem dX11_changes_55 : decode cX11_changes 55 = .ok (.iconst 1, 1) := by decide +kernel
theorem dX11_changes_56 : decode cX11_changes 56 = .ok (.goto 4, 3) := by decide +kernel
theorem dX11_changes_59 : decode cX11_changes 59 = .ok (.iconst 0, 1) := by decide +kernel
theorem dX11_changes_60 : decode cX11_changes 60 = .ok (.ireturn, 1) := by decide +kernel
theorem dX11_add_0 : decode cX11_add 0 = .ok (.aload_n 0, 1) := by decide +kernel
theorem dX11_add_1 : decode cX11_add 1 = .ok (.iload_n 1, 1) := by decide +kernel
theorem dX11_add_2 : decode cX11_add 2 = .ok (.iload_n 2, 1) := by decide +kernel
theorem dX11_add_3 : decode cX11_add 3 = .ok (.iconst 1, 1) := by decide +kernel
theorem dX11_add_4 : decode cX11_add 4 = .ok (.invokevirtual 69, 3) := by decide +kernel
theorem dX11_add_7 : decode cX11_add 7 = .ok (.ireturn, 1) := by decide +kernel
theorem dX11_remove_0 : decode cX11_remove 0 = .ok (.aload_n 0, 1) := by decide +kernel
theorem dX11_remove_1 : decode cX11_remove 1 = .ok (.iload_n 1, 1) := by decide +kernel
theorem dX11_remove_2 : decode cX11_remove 2 = .ok (.iload_n 2, 1) := by decide +kernel
theorem dX11_remove_3 : decode cX11_remove 3 = .ok (.iconst 0, 1) := by decide +kernel
theorem dX11_remove_4 : decode cX11_remove 4 = .ok (.invokevirtual 69, 3) := by decide +kernel
theorem dX11_remove_7 : decode cX11_remove 7 = .ok (.ireturn, 1) := by decide +kernel
theorem dX11_has_0 : decode cX11_has 0 = .ok (.aload_n 0, 1) := by decide +kernel
theorem dX11_has_1 : decode cX11_has 1 = .ok (.iload_n 1, 1) := by decide +kernel
theorem dX11_has_2 : decode cX11_has 2 = .ok (.invokestatic 58, 3) := by decide +kernel
theorem dX11_has_5 : decode cX11_has 5 = .ok (.aload_n 0, 1) := by decide +kernel
theorem dX11_has_6 : decode cX11_has 6 = .ok (.iload_n 2, 1) := by decide +kernel
theorem dX11_has_7 : decode cX11_has 7 = .ok (.invokevirtual 62, 3) := by decide +kernel
theorem dX11_has_10 : decode cX11_has 10 = .ok (.invokevirtual 65, 3) := by decide +kernel
theorem dX11_has_13 : decode cX11_has 13 = .ok (.ifCond .eq 22, 3) := by decide +kernel
theorem dX11_has_16 : decode cX11_has 16 = .ok (.aload_n 0, 1) := by decide +kernel
theorem dX11_has_17 : decode cX11_has 17 = .ok (.getfield 13, 3) := by decide +kernel
theorem dX11_has_20 : decode cX11_has 20 = .ok (.sipush 1024, 3) := by decide +kernel
theorem dX11_has_23 : decode cX11_has 23 = .ok (.iload_n 1, 1) := by decide +kernel
theorem dX11_has_24 : decode cX11_has 24 = .ok (.imul, 1) := by decide +kernel
theorem dX11_has_25 : decode cX11_has 25 = .ok (.iload_n 2, 1) := by decide +kernel
theorem dX11_has_26 : decode cX11_has 26 = .ok (.iadd, 1) := by decide +kernel
theorem dX11_has_27 : decode cX11_has 27 = .ok (.baload, 1) := by decide +kernel
theorem dX11_has_28 : decode cX11_has 28 = .ok (.ifCond .eq 7, 3) := by decide +kernel
theorem dX11_has_31 : decode cX11_has 31 = .ok (.iconst 1, 1) := by decide +kernel
theorem dX11_has_32 : decode cX11_has 32 = .ok (.goto 4, 3) := by decide +kernel
theorem dX11_has_35 : decode cX11_has 35 = .ok (.iconst 0, 1) := by decide +kernel
theorem dX11_has_36 : decode cX11_has 36 = .ok (.ireturn, 1) := by decide +kernel
theorem dX11_size_0 : decode cX11_size 0 = .ok (.aload_n 0, 1) := by decide +kernel
theorem dX11_size_1 : decode cX11_size 1 = .ok (.iload_n 1, 1) := by decide +kernel
theorem dX11_size_2 : decode cX11_size 2 = .ok (.invokestatic 58, 3) := by decide +kernel
theorem dX11_size_5 : decode cX11_size 5 = .ok (.iload_n 2, 1) := by decide +kernel
theorem dX11_size_6 : decode cX11_size 6 = .ok (.iconst (-1), 1) := by decide +kernel
theorem dX11_size_7 : decode cX11_size 7 = .ok (.aload_n 0, 1) := by decide +kernel
theorem dX11_size_8 : decode cX11_size 8 = .ok (.getfield 7, 3) := by decide +kernel
theorem dX11_size_11 : decode cX11_size 11 = .ok (.invokestatic 43, 3) := by decide +kernel
theorem dX11_size_14 : decode cX11_size 14 = .ok (.invokevirtual 65, 3) := by decide +kernel
theorem dX11_size_17 : decode cX11_size 17 = .ok (.ifCond .eq 12, 3) := by decide +kernel
theorem dX11_size_20 : decode cX11_size 20 = .ok (.aload_n 0, 1) := by decide +kernel
theorem dX11_size_21 : decode cX11_size 21 = .ok (.iload_n 1, 1) := by decide +kernel
theorem dX11_size_22 : decode cX11_size 22 = .ok (.iload_n 2, 1) := by decide +kernel
theorem dX11_size_23 : decode cX11_size 23 = .ok (.invokevirtual 73, 3) := by decide +kernel
theorem dX11_size_26 : decode cX11_size 26 = .ok (.goto 4, 3) := by decide +kernel
theorem dX11_size_29 : decode cX11_size 29 = .ok (.iconst 0, 1) := by decide +kernel
theorem dX11_size_30 : decode cX11_size 30 = .ok (.ireturn, 1) := by decide +kernel
theorem dX11_get_0 : decode cX11_get 0 = .ok (.aload_n 0, 1) := by decide +kernel
theorem dX11_get_1 : decode cX11_get 1 = .ok (.iload_n 1, 1) := by decide +kernel
theorem dX11_get_2 : decode cX11_get 2 = .ok (.invokestatic 58, 3) := by decide +kernel
theorem dX11_get_5 : decode cX11_get 5 = .ok (.iload_n 2, 1) := by decide +kernel
theorem dX11_get_6 : decode cX11_get 6 = .ok (.ifCond .lt 7, 3) := by decide +kernel
theorem dX11_get_9 : decode cX11_get 9 = .ok (.iconst 1, 1) := by decide +kernel
theorem dX11_get_10 : decode cX11_get 10 = .ok (.goto 4, 3) := by decide +kernel
theorem dX11_get_13 : decode cX11_get 13 = .ok (.iconst 0, 1) := by decide +kernel
theorem dX11_get_14 : decode cX11_get 14 = .ok (.invokevirtual 65, 3) := by decide +kernel
theorem dX11_get_17 : decode cX11_get 17 = .ok (.ifCond .ne 5, 3) := by decide +kernel
theorem dX11_get_20 : decode cX11_get 20 = .ok (.iconst 0, 1) := by decide +kernel
theorem dX11_get_21 : decode cX11_get 21 = .ok (.ireturn, 1) := by decide +kernel
theorem dX11_get_22 : decode cX11_get 22 = .ok (.iload_n 2, 1) := by decide +kernel
theorem dX11_get_23 : decode cX11_get 23 = .ok (.istore_n 3, 1) := by decide +kernel
theorem dX11_get_24 : decode cX11_get 24 = .ok (.iconst 0, 1) := by decide +kernel
theorem dX11_get_25 : decode cX11_get 25 = .ok (.istore 4, 2) := by decide +kernel
theorem dX11_get_27 : decode cX11_get 27 = .ok (.iload 4, 2) := by decide +kernel
theorem dX11_get_29 : decode cX11_get 29 = .ok (.aload_n 0, 1) := by decide +kernel
theorem dX11_get_30 : decode cX11_get 30 = .ok (.invokevirtual 47, 3) := by decide +kernel
theorem dX11_get_33 : decode cX11_get 33 = .ok (.if_icmp .ge 35, 3) := by decide +kernel
theorem dX11_get_36 : decode cX11_get 36 = .ok (.aload_n 0, 1) := by decide +kernel
theorem dX11_get_37 : decode cX11_get 37 = .ok (.getfield 13, 3) := by decide +kernel
theorem dX11_get_40 : decode cX11_get 40 = .ok (.sipush 1024, 3) := by decide +kernel
theorem dX11_get_43 : decode cX11_get 43 = .ok (.iload_n 1, 1) := by decide +kernel
theorem dX11_get_44 : decode cX11_get 44 = .ok (.imul, 1) := by decide +kernel
theorem dX11_get_45 : decode cX11_get 45 = .ok (.iload 4, 2) := by decide +kernel
theorem dX11_get_47 : decode cX11_get 47 = .ok (.iadd, 1) := by decide +kernel
theorem dX11_get_48 : decode cX11_get 48 = .ok (.baload, 1) := by decide +kernel
theorem dX11_get_49 : decode cX11_get 49 = .ok (.ifCond .eq 13, 3) := by decide +kernel
theorem dX11_get_52 : decode cX11_get 52 = .ok (.iload_n 3, 1) := by decide +kernel
theorem dX11_get_53 : decode cX11_get 53 = .ok (.ifCond .ne 6, 3) := by decide +kernel
theorem dX11_get_56 : decode cX11_get 56 = .ok (.iload 4, 2) := by decide +kernel
theorem dX11_get_58 : decode cX11_get 58 = .ok (.ireturn, 1) := by decide +kernel
theorem dX11_get_59 : decode cX11_get 59 = .ok (.iinc 3 (-1), 3) := by decide +kernel
theorem dX11_get_62 : decode cX11_get 62 = .ok (.iinc 4 1, 3) := by decide +kernel
theorem dX11_get_65 : decode cX11_get 65 = .ok (.goto (-38), 3) := by decide +kernel
theorem dX11_get_68 : decode cX11_get 68 = .ok (.iconst (-1), 1) := by decide +kernel
theorem dX11_get_69 : decode cX11_get 69 = .ok (.ireturn, 1) := by decide +kernel
theorem dX11_degreeOf_0 : decode cX11_degreeOf 0 = .ok (.iconst 0, 1) := by decide +kernel
theorem dX11_degreeOf_1 : decode cX11_degreeOf 1 = .ok (.istore_n 3, 1) := by decide +kernel
theorem dX11_degreeOf_2 : decode cX11_degreeOf 2 = .ok (.iconst 0, 1) := by decide +kernel
theorem dX11_degreeOf_3 : decode cX11_degreeOf 3 = .ok (.istore 4, 2) := by decide +kernel
theorem dX11_degreeOf_5 : decode cX11_degreeOf 5 = .ok (.iload 4, 2) := by decide +kernel
theorem dX11_degreeOf_7 : decode cX11_degreeOf 7 = .ok (.aload_n 0, 1) := by decide +kernel
theorem dX11_degreeOf_8 : decode cX11_degreeOf 8 = .ok (.invokevirtual 47, 3) := by decide +kernel
theorem dX11_degreeOf_11 : decode cX11_degreeOf 11 = .ok (.if_icmp .ge 38, 3) := by decide +kernel
theorem dX11_degreeOf_14 : decode cX11_degreeOf 14 = .ok (.iload_n 3, 1) := by decide +kernel
theorem dX11_degreeOf_15 : decode cX11_degreeOf 15 = .ok (.aload_n 0, 1) := by decide +kernel
theorem dX11_degreeOf_16 : decode cX11_degreeOf 16 = .ok (.getfield 13, 3) := by decide +kernel
theorem dX11_degreeOf_19 : decode cX11_degreeOf 19 = .ok (.sipush 1024, 3) := by decide +kernel
theorem dX11_degreeOf_22 : decode cX11_degreeOf 22 = .ok (.iload_n 1, 1) := by decide +kernel
theorem dX11_degreeOf_23 : decode cX11_degreeOf 23 = .ok (.imul, 1) := by decide +kernel
theorem dX11_degreeOf_24 : decode cX11_degreeOf 24 = .ok (.iload 4, 2) := by decide +kernel
theorem dX11_degreeOf_26 : decode cX11_degreeOf 26 = .ok (.iadd, 1) := by decide +kernel
theorem dX11_degreeOf_27 : decode cX11_degreeOf 27 = .ok (.baload, 1) := by decide +kernel
theorem dX11_degreeOf_28 : decode cX11_degreeOf 28 = .ok (.ifCond .eq 12, 3) := by decide +kernel
theorem dX11_degreeOf_31 : decode cX11_degreeOf 31 = .ok (.iload 4, 2) := by decide +kernel
theorem dX11_degreeOf_33 : decode cX11_degreeOf 33 = .ok (.iload_n 2, 1) := by decide +kernel
theorem dX11_degreeOf_34 : decode cX11_degreeOf 34 = .ok (.ishr, 1) := by decide +kernel
theorem dX11_degreeOf_35 : decode cX11_degreeOf 35 = .ok (.iconst 1, 1) := by decide +kernel
theorem dX11_degreeOf_36 : decode cX11_degreeOf 36 = .ok (.iand, 1) := by decide +kernel
theorem dX11_degreeOf_37 : decode cX11_degreeOf 37 = .ok (.goto 4, 3) := by decide +kernel
theorem dX11_degreeOf_40 : decode cX11_degreeOf 40 = .ok (.iconst 0, 1) := by decide +kernel
theorem dX11_degreeOf_41 : decode cX11_degreeOf 41 = .ok (.iadd, 1) := by decide +kernel
theorem dX11_degreeOf_42 : decode cX11_degreeOf 42 = .ok (.istore_n 3, 1) := by decide +kernel
theorem dX11_degreeOf_43 : decode cX11_degreeOf 43 = .ok (.iinc 4 1, 3) := by decide +kernel
theorem dX11_degreeOf_46 : decode cX11_degreeOf 46 = .ok (.goto (-41), 3) := by decide +kernel
theorem dX11_degreeOf_49 : decode cX11_degreeOf 49 = .ok (.iload_n 3, 1) := by decide +kernel
theorem dX11_degreeOf_50 : decode cX11_degreeOf 50 = .ok (.ireturn, 1) := by decide +kernel
theorem dX11_degree_0 : decode cX11_degree 0 = .ok (.aload_n 0, 1) := by decide +kernel
theorem dX11_degree_1 : decode cX11_degree 1 = .ok (.iload_n 1, 1) := by decide +kernel
theorem dX11_degree_2 : decode cX11_degree 2 = .ok (.invokestatic 58, 3) := by decide +kernel
theorem dX11_degree_5 : decode cX11_degree 5 = .ok (.aload_n 0, 1) := by decide +kernel
theorem dX11_degree_6 : decode cX11_degree 6 = .ok (.iload_n 2, 1) := by decide +kernel
theorem dX11_degree_7 : decode cX11_degree 7 = .ok (.invokevirtual 77, 3) := by decide +kernel
theorem dX11_degree_10 : decode cX11_degree 10 = .ok (.invokevirtual 65, 3) := by decide +kernel
theorem dX11_degree_13 : decode cX11_degree 13 = .ok (.ifCond .eq 12, 3) := by decide +kernel
theorem dX11_degree_16 : decode cX11_degree 16 = .ok (.aload_n 0, 1) := by decide +kernel
theorem dX11_degree_17 : decode cX11_degree 17 = .ok (.iload_n 1, 1) := by decide +kernel
theorem dX11_degree_18 : decode cX11_degree 18 = .ok (.iload_n 2, 1) := by decide +kernel
theorem dX11_degree_19 : decode cX11_degree 19 = .ok (.invokevirtual 80, 3) := by decide +kernel
theorem dX11_degree_22 : decode cX11_degree 22 = .ok (.goto 4, 3) := by decide +kernel
theorem dX11_degree_25 : decode cX11_degree 25 = .ok (.iconst 0, 1) := by decide +kernel
theorem dX11_degree_26 : decode cX11_degree 26 = .ok (.ireturn, 1) := by decide +kernel
theorem dX11_empties_0 : decode cX11_empties 0 = .ok (.iconst 0, 1) := by decide +kernel
theorem dX11_empties_1 : decode cX11_empties 1 = .ok (.istore_n 1, 1) := by decide +kernel
theorem dX11_empties_2 : decode cX11_empties 2 = .ok (.iload_n 1, 1) := by decide +kernel
theorem dX11_empties_3 : decode cX11_empties 3 = .ok (.sipush 1024, 3) := by decide +kernel
theorem dX11_empties_6 : decode cX11_empties 6 = .ok (.if_icmp .ge 16, 3) := by decide +kernel
theorem dX11_empties_9 : decode cX11_empties 9 = .ok (.aload_n 0, 1) := by decide +kernel
theorem dX11_empties_10 : decode cX11_empties 10 = .ok (.getfield 28, 3) := by decide +kernel
theorem dX11_empties_13 : decode cX11_empties 13 = .ok (.iload_n 1, 1) := by decide +kernel
theorem dX11_empties_14 : decode cX11_empties 14 = .ok (.iconst 0, 1) := by decide +kernel
theorem dX11_empties_15 : decode cX11_empties 15 = .ok (.bastore, 1) := by decide +kernel
theorem dX11_empties_16 : decode cX11_empties 16 = .ok (.iinc 1 1, 3) := by decide +kernel
theorem dX11_empties_19 : decode cX11_empties 19 = .ok (.goto (-17), 3) := by decide +kernel
theorem dX11_empties_22 : decode cX11_empties 22 = .ok (.return_, 1) := by decide +kernel
theorem dX11_lays_0 : decode cX11_lays 0 = .ok (.aload_n 0, 1) := by decide +kernel
theorem dX11_lays_1 : decode cX11_lays 1 = .ok (.invokevirtual 55, 3) := by decide +kernel
theorem dX11_lays_4 : decode cX11_lays 4 = .ok (.iconst 0, 1) := by decide +kernel
theorem dX11_lays_5 : decode cX11_lays 5 = .ok (.istore_n 2, 1) := by decide +kernel
theorem dX11_lays_6 : decode cX11_lays 6 = .ok (.iload_n 2, 1) := by decide +kernel
theorem dX11_lays_7 : decode cX11_lays 7 = .ok (.sipush 1024, 3) := by decide +kernel
theorem dX11_lays_10 : decode cX11_lays 10 = .ok (.if_icmp .ge 27, 3) := by decide +kernel
theorem dX11_lays_13 : decode cX11_lays 13 = .ok (.aload_n 0, 1) := by decide +kernel
theorem dX11_lays_14 : decode cX11_lays 14 = .ok (.getfield 13, 3) := by decide +kernel
theorem dX11_lays_17 : decode cX11_lays 17 = .ok (.sipush 1024, 3) := by decide +kernel
theorem dX11_lays_20 : decode cX11_lays 20 = .ok (.iload_n 1, 1) := by decide +kernel
theorem dX11_lays_21 : decode cX11_lays 21 = .ok (.imul, 1) := by decide +kernel
theorem dX11_lays_22 : decode cX11_lays 22 = .ok (.iload_n 2, 1) := by decide +kernel
theorem dX11_lays_23 : decode cX11_lays 23 = .ok (.iadd, 1) := by decide +kernel
theorem dX11_lays_24 : decode cX11_lays 24 = .ok (.aload_n 0, 1) := by decide +kernel
theorem dX11_lays_25 : decode cX11_lays 25 = .ok (.getfield 28, 3) := by decide +kernel
theorem dX11_lays_28 : decode cX11_lays 28 = .ok (.iload_n 2, 1) := by decide +kernel
theorem dX11_lays_29 : decode cX11_lays 29 = .ok (.baload, 1) := by decide +kernel
theorem dX11_lays_30 : decode cX11_lays 30 = .ok (.bastore, 1) := by decide +kernel
theorem dX11_lays_31 : decode cX11_lays 31 = .ok (.iinc 2 1, 3) := by decide +kernel
theorem dX11_lays_34 : decode cX11_lays 34 = .ok (.goto (-28), 3) := by decide +kernel
theorem dX11_lays_37 : decode cX11_lays 37 = .ok (.aload_n 0, 1) := by decide +kernel
theorem dX11_lays_38 : decode cX11_lays 38 = .ok (.iload_n 1, 1) := by decide +kernel
theorem dX11_lays_39 : decode cX11_lays 39 = .ok (.iconst (-1), 1) := by decide +kernel
theorem dX11_lays_40 : decode cX11_lays 40 = .ok (.invokevirtual 73, 3) := by decide +kernel
theorem dX11_lays_43 : decode cX11_lays 43 = .ok (.ireturn, 1) := by decide +kernel
theorem dX11_combine_0 : decode cX11_combine 0 = .ok (.aload_n 0, 1) := by decide +kernel
theorem dX11_combine_1 : decode cX11_combine 1 = .ok (.iload_n 1, 1) := by decide +kernel
theorem dX11_combine_2 : decode cX11_combine 2 = .ok (.invokestatic 58, 3) := by decide +kernel
theorem dX11_combine_5 : decode cX11_combine 5 = .ok (.ifCond .eq 22, 3) := by decide +kernel
theorem dX11_combine_8 : decode cX11_combine 8 = .ok (.iload_n 3, 1) := by decide +kernel
theorem dX11_combine_9 : decode cX11_combine 9 = .ok (.invokestatic 58, 3) := by decide +kernel
theorem dX11_combine_12 : decode cX11_combine 12 = .ok (.ifCond .eq 15, 3) := by decide +kernel
theorem dX11_combine_15 : decode cX11_combine 15 = .ok (.iload 4, 2) := by decide +kernel
theorem dX11_combine_17 : decode cX11_combine 17 = .ok (.invokestatic 58, 3) := by decide +kernel
theorem dX11_combine_20 : decode cX11_combine 20 = .ok (.ifCond .eq 7, 3) := by decide +kernel
theorem dX11_combine_23 : decode cX11_combine 23 = .ok (.iconst 1, 1) := by decide +kernel
theorem dX11_combine_24 : decode cX11_combine 24 = .ok (.goto 4, 3) := by decide +kernel
theorem dX11_combine_27 : decode cX11_combine 27 = .ok (.iconst 0, 1) := by decide +kernel
theorem dX11_combine_28 : decode cX11_combine 28 = .ok (.iload_n 2, 1) := by decide +kernel
theorem dX11_combine_29 : decode cX11_combine 29 = .ok (.iconst 0, 1) := by decide +kernel
theorem dX11_combine_30 : decode cX11_combine 30 = .ok (.iconst 3, 1) := by decide +kernel
theorem dX11_combine_31 : decode cX11_combine 31 = .ok (.invokestatic 43, 3) := by decide +kernel
theorem dX11_combine_34 : decode cX11_combine 34 = .ok (.invokevirtual 65, 3) := by decide +kernel
theorem dX11_combine_37 : decode cX11_combine 37 = .ok (.ifCond .ne 5, 3) := by decide +kernel
theorem dX11_combine_40 : decode cX11_combine 40 = .ok (.iconst 0, 1) := by decide +kernel
theorem dX11_combine_41 : decode cX11_combine 41 = .ok (.ireturn, 1) := by decide +kernel
theorem dX11_combine_42 : decode cX11_combine 42 = .ok (.iconst 0, 1) := by decide +kernel
theorem dX11_combine_43 : decode cX11_combine 43 = .ok (.istore 5, 2) := by decide +kernel
theorem dX11_combine_45 : decode cX11_combine 45 = .ok (.iload 5, 2) := by decide +kernel
theorem dX11_combine_47 : decode cX11_combine 47 = .ok (.sipush 1024, 3) := by decide +kernel
theorem dX11_combine_50 : decode cX11_combine 50 = .ok (.if_icmp .ge 127, 3) := by decide +kernel
theorem dX11_combine_53 : decode cX11_combine 53 = .ok (.aload_n 0, 1) := by decide +kernel
theorem dX11_combine_54 : decode cX11_combine 54 = .ok (.getfield 13, 3) := by decide +kernel
theorem dX11_combine_57 : decode cX11_combine 57 = .ok (.sipush 1024, 3) := by decide +kernel
theorem dX11_combine_60 : decode cX11_combine 60 = .ok (.iload_n 3, 1) := by decide +kernel
theorem dX11_combine_61 : decode cX11_combine 61 = .ok (.imul, 1) := by decide +kernel
theorem dX11_combine_62 : decode cX11_combine 62 = .ok (.iload 5, 2) := by decide +kernel
theorem dX11_combine_64 : decode cX11_combine 64 = .ok (.iadd, 1) := by decide +kernel
theorem dX11_combine_65 : decode cX11_combine 65 = .ok (.baload, 1) := by decide +kernel
theorem dX11_combine_66 : decode cX11_combine 66 = .ok (.istore 6, 2) := by decide +kernel
theorem dX11_combine_68 : decode cX11_combine 68 = .ok (.aload_n 0, 1) := by decide +kernel
theorem dX11_combine_69 : decode cX11_combine 69 = .ok (.getfield 13, 3) := by decide +kernel
theorem dX11_combine_72 : decode cX11_combine 72 = .ok (.sipush 1024, 3) := by decide +kernel
theorem dX11_combine_75 : decode cX11_combine 75 = .ok (.iload 4, 2) := by decide +kernel
theorem dX11_combine_77 : decode cX11_combine 77 = .ok (.imul, 1) := by decide +kernel
theorem dX11_combine_78 : decode cX11_combine 78 = .ok (.iload 5, 2) := by decide +kernel
theorem dX11_combine_80 : decode cX11_combine 80 = .ok (.iadd, 1) := by decide +kernel
theorem dX11_combine_81 : decode cX11_combine 81 = .ok (.baload, 1) := by decide +kernel
theorem dX11_combine_82 : decode cX11_combine 82 = .ok (.istore 7, 2) := by decide +kernel
theorem dX11_combine_84 : decode cX11_combine 84 = .ok (.aload_n 0, 1) := by decide +kernel
theorem dX11_combine_85 : decode cX11_combine 85 = .ok (.getfield 28, 3) := by decide +kernel
theorem dX11_combine_88 : decode cX11_combine 88 = .ok (.iload 5, 2) := by decide +kernel
theorem dX11_combine_90 : decode cX11_combine 90 = .ok (.iload_n 2, 1) := by decide +kernel
theorem dX11_combine_91 : decode cX11_combine 91 = .ok (.ifCond .ne 21, 3) := by decide +kernel
theorem dX11_combine_94 : decode cX11_combine 94 = .ok (.iload 6, 2) := by decide +kernel
theorem dX11_combine_96 : decode cX11_combine 96 = .ok (.ifCond .ne 8, 3) := by decide +kernel
theorem dX11_combine_99 : decode cX11_combine 99 = .ok (.iload 7, 2) := by decide +kernel
theorem dX11_combine_101 : decode cX11_combine 101 = .ok (.ifCond .eq 7, 3) := by decide +kernel
theorem dX11_combine_104 : decode cX11_combine 104 = .ok (.iconst 1, 1) := by decide +kernel
theorem dX11_combine_105 : decode cX11_combine 105 = .ok (.goto 65, 3) := by decide +kernel
theorem dX11_combine_108 : decode cX11_combine 108 = .ok (.iconst 0, 1) := by decide +kernel
theorem dX11_combine_109 : decode cX11_combine 109 = .ok (.goto 61, 3) := by decide +kernel
theorem dX11_combine_112 : decode cX11_combine 112 = .ok (.iload_n 2, 1) := by decide +kernel
theorem dX11_combine_113 : decode cX11_combine 113 = .ok (.iconst 1, 1) := by decide +kernel
theorem dX11_combine_114 : decode cX11_combine 114 = .ok (.if_icmp .ne 21, 3) := by decide +kernel
theorem dX11_combine_117 : decode cX11_combine 117 = .ok (.iload 6, 2) := by decide +kernel
theorem dX11_combine_119 : decode cX11_combine 119 = .ok (.ifCond .eq 12, 3) := by decide +kernel
theorem dX11_combine_122 : decode cX11_combine 122 = .ok (.iload 7, 2) := by decide +kernel
theorem dX11_combine_124 : decode cX11_combine 124 = .ok (.ifCond .eq 7, 3) := by decide +kernel
theorem dX11_combine_127 : decode cX11_combine 127 = .ok (.iconst 1, 1) := by decide +kernel
theorem dX11_combine_128 : decode cX11_combine 128 = .ok (.goto 42, 3) := by decide +kernel
theorem dX11_combine_131 : decode cX11_combine 131 = .ok (.iconst 0, 1) := by decide +kernel
theorem dX11_combine_132 : decode cX11_combine 132 = .ok (.goto 38, 3) := by decide +kernel
theorem dX11_combine_135 : decode cX11_combine 135 = .ok (.iload_n 2, 1) := by decide +kernel
theorem dX11_combine_136 : decode cX11_combine 136 = .ok (.iconst 2, 1) := by decide +kernel
theorem dX11_combine_137 : decode cX11_combine 137 = .ok (.if_icmp .ne 21, 3) := by decide +kernel
theorem dX11_combine_140 : decode cX11_combine 140 = .ok (.iload 6, 2) := by decide +kernel
theorem dX11_combine_142 : decode cX11_combine 142 = .ok (.ifCond .eq 12, 3) := by decide +kernel
theorem dX11_combine_145 : decode cX11_combine 145 = .ok (.iload 7, 2) := by decide +kernel
theorem dX11_combine_147 : decode cX11_combine 147 = .ok (.ifCond .ne 7, 3) := by decide +kernel
theorem dX11_combine_150 : decode cX11_combine 150 = .ok (.iconst 1, 1) := by decide +kernel
theorem dX11_combine_151 : decode cX11_combine 151 = .ok (.goto 19, 3) := by decide +kernel
theorem dX11_combine_154 : decode cX11_combine 154 = .ok (.iconst 0, 1) := by decide +kernel
theorem dX11_combine_155 : decode cX11_combine 155 = .ok (.goto 15, 3) := by decide +kernel
theorem dX11_combine_158 : decode cX11_combine 158 = .ok (.iload 6, 2) := by decide +kernel
theorem dX11_combine_160 : decode cX11_combine 160 = .ok (.iload 7, 2) := by decide +kernel
theorem dX11_combine_162 : decode cX11_combine 162 = .ok (.if_icmp .eq 7, 3) := by decide +kernel
theorem dX11_combine_165 : decode cX11_combine 165 = .ok (.iconst 1, 1) := by decide +kernel
theorem dX11_combine_166 : decode cX11_combine 166 = .ok (.goto 4, 3) := by decide +kernel
theorem dX11_combine_169 : decode cX11_combine 169 = .ok (.iconst 0, 1) := by decide +kernel
theorem dX11_combine_170 : decode cX11_combine 170 = .ok (.bastore, 1) := by decide +kernel
theorem dX11_combine_171 : decode cX11_combine 171 = .ok (.iinc 5 1, 3) := by decide +kernel
theorem dX11_combine_174 : decode cX11_combine 174 = .ok (.goto (-129), 3) := by decide +kernel
theorem dX11_combine_177 : decode cX11_combine 177 = .ok (.aload_n 0, 1) := by decide +kernel
theorem dX11_combine_178 : decode cX11_combine 178 = .ok (.iload_n 1, 1) := by decide +kernel
theorem dX11_combine_179 : decode cX11_combine 179 = .ok (.invokevirtual 83, 3) := by decide +kernel
theorem dX11_combine_182 : decode cX11_combine 182 = .ok (.ireturn, 1) := by decide +kernel
theorem dX11_shadow_0 : decode cX11_shadow 0 = .ok (.iconst 0, 1) := by decide +kernel
theorem dX11_shadow_1 : decode cX11_shadow 1 = .ok (.istore_n 3, 1) := by decide +kernel
theorem dX11_shadow_2 : decode cX11_shadow 2 = .ok (.iload_n 3, 1) := by decide +kernel
theorem dX11_shadow_3 : decode cX11_shadow 3 = .ok (.aload_n 0, 1) := by decide +kernel
theorem dX11_shadow_4 : decode cX11_shadow 4 = .ok (.invokevirtual 47, 3) := by decide +kernel
theorem dX11_shadow_7 : decode cX11_shadow 7 = .ok (.if_icmp .ge 77, 3) := by decide +kernel
theorem dX11_shadow_10 : decode cX11_shadow 10 = .ok (.iconst 0, 1) := by decide +kernel
theorem dX11_shadow_11 : decode cX11_shadow 11 = .ok (.istore 4, 2) := by decide +kernel
theorem dX11_shadow_13 : decode cX11_shadow 13 = .ok (.iload 4, 2) := by decide +kernel
theorem dX11_shadow_15 : decode cX11_shadow 15 = .ok (.aload_n 0, 1) := by decide +kernel
theorem dX11_shadow_16 : decode cX11_shadow 16 = .ok (.getfield 7, 3) := by decide +kernel
theorem dX11_shadow_19 : decode cX11_shadow 19 = .ok (.if_icmp .ge 59, 3) := by decide +kernel
theorem dX11_shadow_22 : decode cX11_shadow 22 = .ok (.aload_n 0, 1) := by decide +kernel
theorem dX11_shadow_23 : decode cX11_shadow 23 = .ok (.getfield 13, 3) := by decide +kernel
theorem dX11_shadow_26 : decode cX11_shadow 26 = .ok (.sipush 1024, 3) := by decide +kernel
theorem dX11_shadow_29 : decode cX11_shadow 29 = .ok (.iload_n 1, 1) := by decide +kernel
theorem dX11_shadow_30 : decode cX11_shadow 30 = .ok (.imul, 1) := by decide +kernel
theorem dX11_shadow_31 : decode cX11_shadow 31 = .ok (.iload_n 3, 1) := by decide +kernel
theorem dX11_shadow_32 : decode cX11_shadow 32 = .ok (.iadd, 1) := by decide +kernel
theorem dX11_shadow_33 : decode cX11_shadow 33 = .ok (.baload, 1) := by decide +kernel
theorem dX11_shadow_34 : decode cX11_shadow 34 = .ok (.ifCond .eq 44, 3) := by decide +kernel
theorem dX11_shadow_37 : decode cX11_shadow 37 = .ok (.iload_n 3, 1) := by decide +kernel
theorem dX11_shadow_38 : decode cX11_shadow 38 = .ok (.iload 4, 2) := by decide +kernel
theorem dX11_shadow_40 : decode cX11_shadow 40 = .ok (.ishr, 1) := by decide +kernel
theorem dX11_shadow_41 : decode cX11_shadow 41 = .ok (.iconst 1, 1) := by decide +kernel
theorem dX11_shadow_42 : decode cX11_shadow 42 = .ok (.iand, 1) := by decide +kernel
theorem dX11_shadow_43 : decode cX11_shadow 43 = .ok (.iconst 1, 1) := by decide +kernel
theorem dX11_shadow_44 : decode cX11_shadow 44 = .ok (.if_icmp .ne 7, 3) := by decide +kernel
theorem dX11_shadow_47 : decode cX11_shadow 47 = .ok (.iconst 1, 1) := by decide +kernel
theorem dX11_shadow_48 : decode cX11_shadow 48 = .ok (.goto 4, 3) := by decide +kernel
theorem dX11_shadow_51 : decode cX11_shadow 51 = .ok (.iconst 0, 1) := by decide +kernel
theorem dX11_shadow_52 : decode cX11_shadow 52 = .ok (.istore 5, 2) := by decide +kernel
theorem dX11_shadow_54 : decode cX11_shadow 54 = .ok (.iload 5, 2) := by decide +kernel
theorem dX11_shadow_56 : decode cX11_shadow 56 = .ok (.iload_n 2, 1) := by decide +kernel
theorem dX11_shadow_57 : decode cX11_shadow 57 = .ok (.if_icmp .eq 15, 3) := by decide +kernel
theorem dX11_shadow_60 : decode cX11_shadow 60 = .ok (.aload_n 0, 1) := by decide +kernel
theorem dX11_shadow_61 : decode cX11_shadow 61 = .ok (.getfield 28, 3) := by decide +kernel
theorem dX11_shadow_64 : decode cX11_shadow 64 = .ok (.iload_n 3, 1) := by decide +kernel
theorem dX11_shadow_65 : decode cX11_shadow 65 = .ok (.iconst 1, 1) := by decide +kernel
theorem dX11_shadow_66 : decode cX11_shadow 66 = .ok (.iload 4, 2) := by decide +kernel
theorem dX11_shadow_68 : decode cX11_shadow 68 = .ok (.ishl, 1) := by decide +kernel
theorem dX11_shadow_69 : decode cX11_shadow 69 = .ok (.ixor, 1) := by decide +kernel
theorem dX11_shadow_70 : decode cX11_shadow 70 = .ok (.iconst 1, 1) := by decide +kernel
theorem dX11_shadow_71 : decode cX11_shadow 71 = .ok (.bastore, 1) := by decide +kernel
theorem dX11_shadow_72 : decode cX11_shadow 72 = .ok (.iinc 4 1, 3) := by decide +kernel
theorem dX11_shadow_75 : decode cX11_shadow 75 = .ok (.goto (-62), 3) := by decide +kernel
theorem dX11_shadow_78 : decode cX11_shadow 78 = .ok (.iinc 3 1, 3) := by decide +kernel
theorem dX11_shadow_81 : decode cX11_shadow 81 = .ok (.goto (-79), 3) := by decide +kernel
theorem dX11_shadow_84 : decode cX11_shadow 84 = .ok (.return_, 1) := by decide +kernel
theorem dX11_hasBelow_0 : decode cX11_hasBelow 0 = .ok (.iconst 0, 1) := by decide +kernel
theorem dX11_hasBelow_1 : decode cX11_hasBelow 1 = .ok (.istore 5, 2) := by decide +kernel
theorem dX11_hasBelow_3 : decode cX11_hasBelow 3 = .ok (.iconst 0, 1) := by decide +kernel
theorem dX11_hasBelow_4 : decode cX11_hasBelow 4 = .ok (.istore 6, 2) := by decide +kernel
theorem dX11_hasBelow_6 : decode cX11_hasBelow 6 = .ok (.iload 6, 2) := by decide +kernel
theorem dX11_hasBelow_8 : decode cX11_hasBelow 8 = .ok (.aload_n 0, 1) := by decide +kernel
theorem dX11_hasBelow_9 : decode cX11_hasBelow 9 = .ok (.invokevirtual 47, 3) := by decide +kernel
theorem dX11_hasBelow_12 : decode cX11_hasBelow 12 = .ok (.if_icmp .ge 89, 3) := by decide +kernel
theorem dX11_hasBelow_15 : decode cX11_hasBelow 15 = .ok (.iload 5, 2) := by decide +kernel
theorem dX11_hasBelow_17 : decode cX11_hasBelow 17 = .ok (.ifCond .ne 84, 3) := by decide +kernel
theorem dX11_hasBelow_20 : decode cX11_hasBelow 20 = .ok (.iload_n 3, 1) := by decide +kernel
theorem dX11_hasBelow_21 : decode cX11_hasBelow 21 = .ok (.ifCond .eq 19, 3) := by decide +kernel
theorem dX11_hasBelow_24 : decode cX11_hasBelow 24 = .ok (.iload_n 2, 1) := by decide +kernel
theorem dX11_hasBelow_25 : decode cX11_hasBelow 25 = .ok (.iload 6, 2) := by decide +kernel
theorem dX11_hasBelow_27 : decode cX11_hasBelow 27 = .ok (.iand, 1) := by decide +kernel
theorem dX11_hasBelow_28 : decode cX11_hasBelow 28 = .ok (.iload_n 2, 1) := by decide +kernel
theorem dX11_hasBelow_29 : decode cX11_hasBelow 29 = .ok (.if_icmp .ne 7, 3) := by decide +kernel
theorem dX11_hasBelow_32 : decode cX11_hasBelow 32 = .ok (.iconst 1, 1) := by decide +kernel
theorem dX11_hasBelow_33 : decode cX11_hasBelow 33 = .ok (.goto 21, 3) := by decide +kernel
theorem dX11_hasBelow_36 : decode cX11_hasBelow 36 = .ok (.iconst 0, 1) := by decide +kernel
theorem dX11_hasBelow_37 : decode cX11_hasBelow 37 = .ok (.goto 17, 3) := by decide +kernel
theorem dX11_hasBelow_40 : decode cX11_hasBelow 40 = .ok (.iload_n 2, 1) := by decide +kernel
theorem dX11_hasBelow_41 : decode cX11_hasBelow 41 = .ok (.iload 6, 2) := by decide +kernel
theorem dX11_hasBelow_43 : decode cX11_hasBelow 43 = .ok (.iand, 1) := by decide +kernel
theorem dX11_hasBelow_44 : decode cX11_hasBelow 44 = .ok (.iload 6, 2) := by decide +kernel
theorem dX11_hasBelow_46 : decode cX11_hasBelow 46 = .ok (.if_icmp .ne 7, 3) := by decide +kernel
theorem dX11_hasBelow_49 : decode cX11_hasBelow 49 = .ok (.iconst 1, 1) := by decide +kernel
theorem dX11_hasBelow_50 : decode cX11_hasBelow 50 = .ok (.goto 4, 3) := by decide +kernel
theorem dX11_hasBelow_53 : decode cX11_hasBelow 53 = .ok (.iconst 0, 1) := by decide +kernel
theorem dX11_hasBelow_54 : decode cX11_hasBelow 54 = .ok (.istore 7, 2) := by decide +kernel
theorem dX11_hasBelow_56 : decode cX11_hasBelow 56 = .ok (.aload_n 0, 1) := by decide +kernel
theorem dX11_hasBelow_57 : decode cX11_hasBelow 57 = .ok (.getfield 13, 3) := by decide +kernel
theorem dX11_hasBelow_60 : decode cX11_hasBelow 60 = .ok (.sipush 1024, 3) := by decide +kernel
theorem dX11_hasBelow_63 : decode cX11_hasBelow 63 = .ok (.iload_n 1, 1) := by decide +kernel
theorem dX11_hasBelow_64 : decode cX11_hasBelow 64 = .ok (.imul, 1) := by decide +kernel
theorem dX11_hasBelow_65 : decode cX11_hasBelow 65 = .ok (.iload 6, 2) := by decide +kernel
theorem dX11_hasBelow_67 : decode cX11_hasBelow 67 = .ok (.iadd, 1) := by decide +kernel
theorem dX11_hasBelow_68 : decode cX11_hasBelow 68 = .ok (.baload, 1) := by decide +kernel
theorem dX11_hasBelow_69 : decode cX11_hasBelow 69 = .ok (.ifCond .eq 23, 3) := by decide +kernel
theorem dX11_hasBelow_72 : decode cX11_hasBelow 72 = .ok (.iload 7, 2) := by decide +kernel
theorem dX11_hasBelow_74 : decode cX11_hasBelow 74 = .ok (.ifCond .eq 18, 3) := by decide +kernel
theorem dX11_hasBelow_77 : decode cX11_hasBelow 77 = .ok (.iload 4, 2) := by decide +kernel
theorem dX11_hasBelow_79 : decode cX11_hasBelow 79 = .ok (.ifCond .eq 9, 3) := by decide +kernel
theorem dX11_hasBelow_82 : decode cX11_hasBelow 82 = .ok (.iload 6, 2) := by decide +kernel
theorem dX11_hasBelow_84 : decode cX11_hasBelow 84 = .ok (.iload_n 2, 1) := by decide +kernel
theorem dX11_hasBelow_85 : decode cX11_hasBelow 85 = .ok (.if_icmp .eq 7, 3) := by decide +kernel
theorem dX11_hasBelow_88 : decode cX11_hasBelow 88 = .ok (.iconst 1, 1) := by decide +kernel
theorem dX11_hasBelow_89 : decode cX11_hasBelow 89 = .ok (.goto 4, 3) := by decide +kernel
theorem dX11_hasBelow_92 : decode cX11_hasBelow 92 = .ok (.iconst 0, 1) := by decide +kernel
theorem dX11_hasBelow_93 : decode cX11_hasBelow 93 = .ok (.istore 5, 2) := by decide +kernel
theorem dX11_hasBelow_95 : decode cX11_hasBelow 95 = .ok (.iinc 6 1, 3) := by decide +kernel
theorem dX11_hasBelow_98 : decode cX11_hasBelow 98 = .ok (.goto (-92), 3) := by decide +kernel
theorem dX11_hasBelow_101 : decode cX11_hasBelow 101 = .ok (.iload 5, 2) := by decide +kernel
theorem dX11_hasBelow_103 : decode cX11_hasBelow 103 = .ok (.ireturn, 1) := by decide +kernel
theorem dX11_hits_0 : decode cX11_hits 0 = .ok (.iconst 1, 1) := by decide +kernel
theorem dX11_hits_1 : decode cX11_hits 1 = .ok (.istore_n 3, 1) := by decide +kernel
theorem dX11_hits_2 : decode cX11_hits 2 = .ok (.iconst 0, 1) := by decide +kernel
theorem dX11_hits_3 : decode cX11_hits 3 = .ok (.istore 4, 2) := by decide +kernel
theorem dX11_hits_5 : decode cX11_hits 5 = .ok (.iload 4, 2) := by decide +kernel
theorem dX11_hits_7 : decode cX11_hits 7 = .ok (.aload_n 0, 1) := by decide +kernel
theorem dX11_hits_8 : decode cX11_hits 8 = .ok (.invokevirtual 47, 3) := by decide +kernel
theorem dX11_hits_11 : decode cX11_hits 11 = .ok (.if_icmp .ge 42, 3) := by decide +kernel
theorem dX11_hits_14 : decode cX11_hits 14 = .ok (.iload_n 3, 1) := by decide +kernel
theorem dX11_hits_15 : decode cX11_hits 15 = .ok (.ifCond .eq 38, 3) := by decide +kernel
theorem dX11_hits_18 : decode cX11_hits 18 = .ok (.aload_n 0, 1) := by decide +kernel
theorem dX11_hits_19 : decode cX11_hits 19 = .ok (.getfield 13, 3) := by decide +kernel
theorem dX11_hits_22 : decode cX11_hits 22 = .ok (.sipush 1024, 3) := by decide +kernel
theorem dX11_hits_25 : decode cX11_hits 25 = .ok (.iload_n 1, 1) := by decide +kernel
theorem dX11_hits_26 : decode cX11_hits 26 = .ok (.imul, 1) := by decide +kernel
theorem dX11_hits_27 : decode cX11_hits 27 = .ok (.iload 4, 2) := by decide +kernel
theorem dX11_hits_29 : decode cX11_hits 29 = .ok (.iadd, 1) := by decide +kernel
theorem dX11_hits_30 : decode cX11_hits 30 = .ok (.baload, 1) := by decide +kernel
theorem dX11_hits_31 : decode cX11_hits 31 = .ok (.ifCond .eq 10, 3) := by decide +kernel
theorem dX11_hits_34 : decode cX11_hits 34 = .ok (.iload 4, 2) := by decide +kernel
theorem dX11_hits_36 : decode cX11_hits 36 = .ok (.iload_n 2, 1) := by decide +kernel
theorem dX11_hits_37 : decode cX11_hits 37 = .ok (.iand, 1) := by decide +kernel
theorem dX11_hits_38 : decode cX11_hits 38 = .ok (.ifCond .eq 7, 3) := by decide +kernel
theorem dX11_hits_41 : decode cX11_hits 41 = .ok (.iconst 1, 1) := by decide +kernel
theorem dX11_hits_42 : decode cX11_hits 42 = .ok (.goto 4, 3) := by decide +kernel
theorem dX11_hits_45 : decode cX11_hits 45 = .ok (.iconst 0, 1) := by decide +kernel
theorem dX11_hits_46 : decode cX11_hits 46 = .ok (.istore_n 3, 1) := by decide +kernel
theorem dX11_hits_47 : decode cX11_hits 47 = .ok (.iinc 4 1, 3) := by decide +kernel
theorem dX11_hits_50 : decode cX11_hits 50 = .ok (.goto (-45), 3) := by decide +kernel
theorem dX11_hits_53 : decode cX11_hits 53 = .ok (.iload_n 3, 1) := by decide +kernel
theorem dX11_hits_54 : decode cX11_hits 54 = .ok (.ireturn, 1) := by decide +kernel
theorem dX11_blocks_0 : decode cX11_blocks 0 = .ok (.aload_n 0, 1) := by decide +kernel
theorem dX11_blocks_1 : decode cX11_blocks 1 = .ok (.iload_n 1, 1) := by decide +kernel
theorem dX11_blocks_2 : decode cX11_blocks 2 = .ok (.iload_n 2, 1) := by decide +kernel
theorem dX11_blocks_3 : decode cX11_blocks 3 = .ok (.invokevirtual 86, 3) := by decide +kernel
theorem dX11_blocks_6 : decode cX11_blocks 6 = .ok (.istore_n 3, 1) := by decide +kernel
theorem dX11_blocks_7 : decode cX11_blocks 7 = .ok (.iconst 0, 1) := by decide +kernel
theorem dX11_blocks_8 : decode cX11_blocks 8 = .ok (.istore 4, 2) := by decide +kernel
theorem dX11_blocks_10 : decode cX11_blocks 10 = .ok (.iload 4, 2) := by decide +kernel
theorem dX11_blocks_12 : decode cX11_blocks 12 = .ok (.aload_n 0, 1) := by decide +kernel
theorem dX11_blocks_13 : decode cX11_blocks 13 = .ok (.getfield 7, 3) := by decide +kernel
theorem dX11_blocks_16 : decode cX11_blocks 16 = .ok (.if_icmp .ge 42, 3) := by decide +kernel
theorem dX11_blocks_19 : decode cX11_blocks 19 = .ok (.iload_n 3, 1) := by decide +kernel
theorem dX11_blocks_20 : decode cX11_blocks 20 = .ok (.ifCond .eq 38, 3) := by decide +kernel
theorem dX11_blocks_23 : decode cX11_blocks 23 = .ok (.iload_n 2, 1) := by decide +kernel
theorem dX11_blocks_24 : decode cX11_blocks 24 = .ok (.iload 4, 2) := by decide +kernel
theorem dX11_blocks_26 : decode cX11_blocks 26 = .ok (.ishr, 1) := by decide +kernel
theorem dX11_blocks_27 : decode cX11_blocks 27 = .ok (.iconst 1, 1) := by decide +kernel
theorem dX11_blocks_28 : decode cX11_blocks 28 = .ok (.iand, 1) := by decide +kernel
theorem dX11_blocks_29 : decode cX11_blocks 29 = .ok (.ifCond .eq 17, 3) := by decide +kernel
theorem dX11_blocks_32 : decode cX11_blocks 32 = .ok (.aload_n 0, 1) := by decide +kernel
theorem dX11_blocks_33 : decode cX11_blocks 33 = .ok (.iload_n 1, 1) := by decide +kernel
theorem dX11_blocks_34 : decode cX11_blocks 34 = .ok (.iload_n 2, 1) := by decide +kernel
theorem dX11_blocks_35 : decode cX11_blocks 35 = .ok (.iconst 1, 1) := by decide +kernel
theorem dX11_blocks_36 : decode cX11_blocks 36 = .ok (.iload 4, 2) := by decide +kernel
theorem dX11_blocks_38 : decode cX11_blocks 38 = .ok (.ishl, 1) := by decide +kernel
theorem dX11_blocks_39 : decode cX11_blocks 39 = .ok (.ixor, 1) := by decide +kernel
theorem dX11_blocks_40 : decode cX11_blocks 40 = .ok (.invokevirtual 86, 3) := by decide +kernel
theorem dX11_blocks_43 : decode cX11_blocks 43 = .ok (.ifCond .ne 7, 3) := by decide +kernel
theorem dX11_blocks_46 : decode cX11_blocks 46 = .ok (.iconst 1, 1) := by decide +kernel
theorem dX11_blocks_47 : decode cX11_blocks 47 = .ok (.goto 4, 3) := by decide +kernel
theorem dX11_blocks_50 : decode cX11_blocks 50 = .ok (.iconst 0, 1) := by decide +kernel
theorem dX11_blocks_51 : decode cX11_blocks 51 = .ok (.istore_n 3, 1) := by decide +kernel
theorem dX11_blocks_52 : decode cX11_blocks 52 = .ok (.iinc 4 1, 3) := by decide +kernel
theorem dX11_blocks_55 : decode cX11_blocks 55 = .ok (.goto (-45), 3) := by decide +kernel
theorem dX11_blocks_58 : decode cX11_blocks 58 = .ok (.iload_n 3, 1) := by decide +kernel
theorem dX11_blocks_59 : decode cX11_blocks 59 = .ok (.ireturn, 1) := by decide +kernel
theorem dX11_closes_0 : decode cX11_closes 0 = .ok (.iconst 0, 1) := by decide +kernel
theorem dX11_closes_1 : decode cX11_closes 1 = .ok (.istore_n 3, 1) := by decide +kernel
theorem dX11_closes_2 : decode cX11_closes 2 = .ok (.iload_n 3, 1) := by decide +kernel
theorem dX11_closes_3 : decode cX11_closes 3 = .ok (.aload_n 0, 1) := by decide +kernel
theorem dX11_closes_4 : decode cX11_closes 4 = .ok (.invokevirtual 47, 3) := by decide +kernel
theorem dX11_closes_7 : decode cX11_closes 7 = .ok (.if_icmp .ge 27, 3) := by decide +kernel
theorem dX11_closes_10 : decode cX11_closes 10 = .ok (.aload_n 0, 1) := by decide +kernel
theorem dX11_closes_11 : decode cX11_closes 11 = .ok (.getfield 28, 3) := by decide +kernel
theorem dX11_closes_14 : decode cX11_closes 14 = .ok (.iload_n 3, 1) := by decide +kernel
theorem dX11_closes_15 : decode cX11_closes 15 = .ok (.aload_n 0, 1) := by decide +kernel
theorem dX11_closes_16 : decode cX11_closes 16 = .ok (.getfield 13, 3) := by decide +kernel
theorem dX11_closes_19 : decode cX11_closes 19 = .ok (.sipush 1024, 3) := by decide +kernel
theorem dX11_closes_22 : decode cX11_closes 22 = .ok (.iload_n 1, 1) := by decide +kernel
theorem dX11_closes_23 : decode cX11_closes 23 = .ok (.imul, 1) := by decide +kernel
theorem dX11_closes_24 : decode cX11_closes 24 = .ok (.iload_n 3, 1) := by decide +kernel
theorem dX11_closes_25 : decode cX11_closes 25 = .ok (.iadd, 1) := by decide +kernel
theorem dX11_closes_26 : decode cX11_closes 26 = .ok (.baload, 1) := by decide +kernel
theorem dX11_closes_27 : decode cX11_closes 27 = .ok (.bastore, 1) := by decide +kernel
theorem dX11_closes_28 : decode cX11_closes 28 = .ok (.iinc 3 1, 3) := by decide +kernel
theorem dX11_closes_31 : decode cX11_closes 31 = .ok (.goto (-29), 3) := by decide +kernel
theorem dX11_closes_34 : decode cX11_closes 34 = .ok (.iconst 1, 1) := by decide +kernel
theorem dX11_closes_35 : decode cX11_closes 35 = .ok (.istore_n 3, 1) := by decide +kernel
theorem dX11_closes_36 : decode cX11_closes 36 = .ok (.iload_n 3, 1) := by decide +kernel
theorem dX11_closes_37 : decode cX11_closes 37 = .ok (.ifCond .eq 109, 3) := by decide +kernel
theorem dX11_closes_40 : decode cX11_closes 40 = .ok (.iconst 0, 1) := by decide +kernel
theorem dX11_closes_41 : decode cX11_closes 41 = .ok (.istore_n 3, 1) := by decide +kernel
theorem dX11_closes_42 : decode cX11_closes 42 = .ok (.iconst 0, 1) := by decide +kernel
theorem dX11_closes_43 : decode cX11_closes 43 = .ok (.istore 4, 2) := by decide +kernel
theorem dX11_closes_45 : decode cX11_closes 45 = .ok (.iload 4, 2) := by decide +kernel
theorem dX11_closes_47 : decode cX11_closes 47 = .ok (.aload_n 0, 1) := by decide +kernel
theorem dX11_closes_48 : decode cX11_closes 48 = .ok (.invokevirtual 47, 3) := by decide +kernel
theorem dX11_closes_51 : decode cX11_closes 51 = .ok (.if_icmp .ge 92, 3) := by decide +kernel
theorem dX11_closes_54 : decode cX11_closes 54 = .ok (.iconst 0, 1) := by decide +kernel
theorem dX11_closes_55 : decode cX11_closes 55 = .ok (.istore 5, 2) := by decide +kernel
theorem dX11_closes_57 : decode cX11_closes 57 = .ok (.iload 5, 2) := by decide +kernel
theorem dX11_closes_59 : decode cX11_closes 59 = .ok (.aload_n 0, 1) := by decide +kernel
theorem dX11_closes_60 : decode cX11_closes 60 = .ok (.invokevirtual 47, 3) := by decide +kernel
theorem dX11_closes_63 : decode cX11_closes 63 = .ok (.if_icmp .ge 74, 3) := by decide +kernel
theorem dX11_closes_66 : decode cX11_closes 66 = .ok (.aload_n 0, 1) := by decide +kernel
theorem dX11_closes_67 : decode cX11_closes 67 = .ok (.getfield 28, 3) := by decide +kernel
theorem dX11_closes_70 : decode cX11_closes 70 = .ok (.iload 4, 2) := by decide +kernel
theorem dX11_closes_72 : decode cX11_closes 72 = .ok (.baload, 1) := by decide +kernel
theorem dX11_closes_73 : decode cX11_closes 73 = .ok (.ifCond .eq 64, 3) := by decide +kernel
theorem dX11_closes_76 : decode cX11_closes 76 = .ok (.iload_n 2, 1) := by decide +kernel
theorem dX11_closes_77 : decode cX11_closes 77 = .ok (.ifCond .eq 11, 3) := by decide +kernel
theorem dX11_closes_80 : decode cX11_closes 80 = .ok (.iload 4, 2) := by decide +kernel
theorem dX11_closes_82 : decode cX11_closes 82 = .ok (.iload 5, 2) := by decide +kernel
theorem dX11_closes_84 : decode cX11_closes 84 = .ok (.ior, 1) := by decide +kernel
theorem dX11_closes_85 : decode cX11_closes 85 = .ok (.goto 8, 3) := by decide +kernel
theorem dX11_closes_88 : decode cX11_closes 88 = .ok (.iload 4, 2) := by decide +kernel
theorem dX11_closes_90 : decode cX11_closes 90 = .ok (.iload 5, 2) := by decide +kernel
theorem dX11_closes_92 : decode cX11_closes 92 = .ok (.iand, 1) := by decide +kernel
theorem dX11_closes_93 : decode cX11_closes 93 = .ok (.istore 6, 2) := by decide +kernel
theorem dX11_closes_95 : decode cX11_closes 95 = .ok (.aload_n 0, 1) := by decide +kernel
theorem dX11_closes_96 : decode cX11_closes 96 = .ok (.getfield 13, 3) := by decide +kernel
theorem dX11_closes_99 : decode cX11_closes 99 = .ok (.sipush 1024, 3) := by decide +kernel
theorem dX11_closes_102 : decode cX11_closes 102 = .ok (.iload_n 1, 1) := by decide +kernel
theorem dX11_closes_103 : decode cX11_closes 103 = .ok (.imul, 1) := by decide +kernel
theorem dX11_closes_104 : decode cX11_closes 104 = .ok (.iload 5, 2) := by decide +kernel
theorem dX11_closes_106 : decode cX11_closes 106 = .ok (.iadd, 1) := by decide +kernel
theorem dX11_closes_107 : decode cX11_closes 107 = .ok (.baload, 1) := by decide +kernel
theorem dX11_closes_108 : decode cX11_closes 108 = .ok (.ifCond .eq 23, 3) := by decide +kernel
theorem dX11_closes_111 : decode cX11_closes 111 = .ok (.aload_n 0, 1) := by decide +kernel
theorem dX11_closes_112 : decode cX11_closes 112 = .ok (.getfield 28, 3) := by decide +kernel
theorem dX11_closes_115 : decode cX11_closes 115 = .ok (.iload 6, 2) := by decide +kernel
theorem dX11_closes_117 : decode cX11_closes 117 = .ok (.baload, 1) := by decide +kernel
theorem dX11_closes_118 : decode cX11_closes 118 = .ok (.ifCond .ne 13, 3) := by decide +kernel
theorem dX11_closes_121 : decode cX11_closes 121 = .ok (.aload_n 0, 1) := by decide +kernel
theorem dX11_closes_122 : decode cX11_closes 122 = .ok (.getfield 28, 3) := by decide +kernel
theorem dX11_closes_125 : decode cX11_closes 125 = .ok (.iload 6, 2) := by decide +kernel
theorem dX11_closes_127 : decode cX11_closes 127 = .ok (.iconst 1, 1) := by decide +kernel
theorem dX11_closes_128 : decode cX11_closes 128 = .ok (.bastore, 1) := by decide +kernel
theorem dX11_closes_129 : decode cX11_closes 129 = .ok (.iconst 1, 1) := by decide +kernel
theorem dX11_closes_130 : decode cX11_closes 130 = .ok (.istore_n 3, 1) := by decide +kernel
theorem dX11_closes_131 : decode cX11_closes 131 = .ok (.iinc 5 1, 3) := by decide +kernel
theorem dX11_closes_134 : decode cX11_closes 134 = .ok (.goto (-77), 3) := by decide +kernel
theorem dX11_closes_137 : decode cX11_closes 137 = .ok (.iinc 4 1, 3) := by decide +kernel
theorem dX11_closes_140 : decode cX11_closes 140 = .ok (.goto (-95), 3) := by decide +kernel
theorem dX11_closes_143 : decode cX11_closes 143 = .ok (.goto (-107), 3) := by decide +kernel
theorem dX11_closes_146 : decode cX11_closes 146 = .ok (.return_, 1) := by decide +kernel
theorem dX11_isDerived_0 : decode cX11_isDerived 0 = .ok (.iload_n 1, 1) := by decide +kernel
theorem dX11_isDerived_1 : decode cX11_isDerived 1 = .ok (.tableswitch 137 2 6 #[35, 44, 53, 85, 117], 35) := by decide +kernel
theorem dX11_isDerived_36 : decode cX11_isDerived 36 = .ok (.aload_n 0, 1) := by decide +kernel
theorem dX11_isDerived_37 : decode cX11_isDerived 37 = .ok (.iload_n 2, 1) := by decide +kernel
theorem dX11_isDerived_38 : decode cX11_isDerived 38 = .ok (.iload_n 3, 1) := by decide +kernel
theorem dX11_isDerived_39 : decode cX11_isDerived 39 = .ok (.iconst 1, 1) := by decide +kernel
theorem dX11_isDerived_40 : decode cX11_isDerived 40 = .ok (.iconst 0, 1) := by decide +kernel
theorem dX11_isDerived_41 : decode cX11_isDerived 41 = .ok (.invokevirtual 90, 3) := by decide +kernel
theorem dX11_isDerived_44 : decode cX11_isDerived 44 = .ok (.ireturn, 1) := by decide +kernel
theorem dX11_isDerived_45 : decode cX11_isDerived 45 = .ok (.aload_n 0, 1) := by decide +kernel
theorem dX11_isDerived_46 : decode cX11_isDerived 46 = .ok (.iload_n 2, 1) := by decide +kernel
theorem dX11_isDerived_47 : decode cX11_isDerived 47 = .ok (.iload_n 3, 1) := by decide +kernel
theorem dX11_isDerived_48 : decode cX11_isDerived 48 = .ok (.iconst 0, 1) := by decide +kernel
theorem dX11_isDerived_49 : decode cX11_isDerived 49 = .ok (.iconst 0, 1) := by decide +kernel
theorem dX11_isDerived_50 : decode cX11_isDerived 50 = .ok (.invokevirtual 90, 3) := by decide +kernel
theorem dX11_isDerived_53 : decode cX11_isDerived 53 = .ok (.ireturn, 1) := by decide +kernel
theorem dX11_isDerived_54 : decode cX11_isDerived 54 = .ok (.aload_n 0, 1) := by decide +kernel
theorem dX11_isDerived_55 : decode cX11_isDerived 55 = .ok (.getfield 13, 3) := by decide +kernel
theorem dX11_isDerived_58 : decode cX11_isDerived 58 = .ok (.sipush 1024, 3) := by decide +kernel
theorem dX11_isDerived_61 : decode cX11_isDerived 61 = .ok (.iload_n 2, 1) := by decide +kernel
theorem dX11_isDerived_62 : decode cX11_isDerived 62 = .ok (.imul, 1) := by decide +kernel
theorem dX11_isDerived_63 : decode cX11_isDerived 63 = .ok (.iload_n 3, 1) := by decide +kernel
theorem dX11_isDerived_64 : decode cX11_isDerived 64 = .ok (.iadd, 1) := by decide +kernel
theorem dX11_isDerived_65 : decode cX11_isDerived 65 = .ok (.baload, 1) := by decide +kernel
theorem dX11_isDerived_66 : decode cX11_isDerived 66 = .ok (.ifCond .eq 18, 3) := by decide +kernel
theorem dX11_isDerived_69 : decode cX11_isDerived 69 = .ok (.aload_n 0, 1) := by decide +kernel
theorem dX11_isDerived_70 : decode cX11_isDerived 70 = .ok (.iload_n 2, 1) := by decide +kernel
theorem dX11_isDerived_71 : decode cX11_isDerived 71 = .ok (.iload_n 3, 1) := by decide +kernel
theorem dX11_isDerived_72 : decode cX11_isDerived 72 = .ok (.iconst 0, 1) := by decide +kernel
theorem dX11_isDerived_73 : decode cX11_isDerived 73 = .ok (.iconst 1, 1) := by decide +kernel
theorem dX11_isDerived_74 : decode cX11_isDerived 74 = .ok (.invokevirtual 90, 3) := by decide +kernel
theorem dX11_isDerived_77 : decode cX11_isDerived 77 = .ok (.ifCond .ne 7, 3) := by decide +kernel
theorem dX11_isDerived_80 : decode cX11_isDerived 80 = .ok (.iconst 1, 1) := by decide +kernel
theorem dX11_isDerived_81 : decode cX11_isDerived 81 = .ok (.goto 4, 3) := by decide +kernel
theorem dX11_isDerived_84 : decode cX11_isDerived 84 = .ok (.iconst 0, 1) := by decide +kernel
theorem dX11_isDerived_85 : decode cX11_isDerived 85 = .ok (.ireturn, 1) := by decide +kernel
theorem dX11_isDerived_86 : decode cX11_isDerived 86 = .ok (.aload_n 0, 1) := by decide +kernel
theorem dX11_isDerived_87 : decode cX11_isDerived 87 = .ok (.getfield 13, 3) := by decide +kernel
theorem dX11_isDerived_90 : decode cX11_isDerived 90 = .ok (.sipush 1024, 3) := by decide +kernel
theorem dX11_isDerived_93 : decode cX11_isDerived 93 = .ok (.iload_n 2, 1) := by decide +kernel
theorem dX11_isDerived_94 : decode cX11_isDerived 94 = .ok (.imul, 1) := by decide +kernel
theorem dX11_isDerived_95 : decode cX11_isDerived 95 = .ok (.iload_n 3, 1) := by decide +kernel
theorem dX11_isDerived_96 : decode cX11_isDerived 96 = .ok (.iadd, 1) := by decide +kernel
theorem dX11_isDerived_97 : decode cX11_isDerived 97 = .ok (.baload, 1) := by decide +kernel
theorem dX11_isDerived_98 : decode cX11_isDerived 98 = .ok (.ifCond .eq 18, 3) := by decide +kernel
theorem dX11_isDerived_101 : decode cX11_isDerived 101 = .ok (.aload_n 0, 1) := by decide +kernel
theorem dX11_isDerived_102 : decode cX11_isDerived 102 = .ok (.iload_n 2, 1) := by decide +kernel
theorem dX11_isDerived_103 : decode cX11_isDerived 103 = .ok (.iload_n 3, 1) := by decide +kernel
theorem dX11_isDerived_104 : decode cX11_isDerived 104 = .ok (.iconst 1, 1) := by decide +kernel
theorem dX11_isDerived_105 : decode cX11_isDerived 105 = .ok (.iconst 1, 1) := by decide +kernel
theorem dX11_isDerived_106 : decode cX11_isDerived 106 = .ok (.invokevirtual 90, 3) := by decide +kernel
theorem dX11_isDerived_109 : decode cX11_isDerived 109 = .ok (.ifCond .ne 7, 3) := by decide +kernel
theorem dX11_isDerived_112 : decode cX11_isDerived 112 = .ok (.iconst 1, 1) := by decide +kernel
theorem dX11_isDerived_113 : decode cX11_isDerived 113 = .ok (.goto 4, 3) := by decide +kernel
theorem dX11_isDerived_116 : decode cX11_isDerived 116 = .ok (.iconst 0, 1) := by decide +kernel
theorem dX11_isDerived_117 : decode cX11_isDerived 117 = .ok (.ireturn, 1) := by decide +kernel
theorem dX11_isDerived_118 : decode cX11_isDerived 118 = .ok (.aload_n 0, 1) := by decide +kernel
theorem dX11_isDerived_119 : decode cX11_isDerived 119 = .ok (.getfield 13, 3) := by decide +kernel
theorem dX11_isDerived_122 : decode cX11_isDerived 122 = .ok (.sipush 1024, 3) := by decide +kernel
theorem dX11_isDerived_125 : decode cX11_isDerived 125 = .ok (.iload_n 2, 1) := by decide +kernel
theorem dX11_isDerived_126 : decode cX11_isDerived 126 = .ok (.imul, 1) := by decide +kernel
theorem dX11_isDerived_127 : decode cX11_isDerived 127 = .ok (.aload_n 0, 1) := by decide +kernel
theorem dX11_isDerived_128 : decode cX11_isDerived 128 = .ok (.invokevirtual 47, 3) := by decide +kernel
theorem dX11_isDerived_131 : decode cX11_isDerived 131 = .ok (.iadd, 1) := by decide +kernel
theorem dX11_isDerived_132 : decode cX11_isDerived 132 = .ok (.iconst 1, 1) := by decide +kernel
theorem dX11_isDerived_133 : decode cX11_isDerived 133 = .ok (.isub, 1) := by decide +kernel
theorem dX11_isDerived_134 : decode cX11_isDerived 134 = .ok (.iload_n 3, 1) := by decide +kernel
theorem dX11_isDerived_135 : decode cX11_isDerived 135 = .ok (.isub, 1) := by decide +kernel
theorem dX11_isDerived_136 : decode cX11_isDerived 136 = .ok (.baload, 1) := by decide +kernel
theorem dX11_isDerived_137 : decode cX11_isDerived 137 = .ok (.ireturn, 1) := by decide +kernel
theorem dX11_isDerived_138 : decode cX11_isDerived 138 = .ok (.aload_n 0, 1) := by decide +kernel
theorem dX11_isDerived_139 : decode cX11_isDerived 139 = .ok (.iload_n 2, 1) := by decide +kernel
theorem dX11_isDerived_140 : decode cX11_isDerived 140 = .ok (.iload_n 3, 1) := by decide +kernel
theorem dX11_isDerived_141 : decode cX11_isDerived 141 = .ok (.invokevirtual 94, 3) := by decide +kernel
theorem dX11_isDerived_144 : decode cX11_isDerived 144 = .ok (.ireturn, 1) := by decide +kernel
theorem dX11_derive_0 : decode cX11_derive 0 = .ok (.aload_n 0, 1) := by decide +kernel
theorem dX11_derive_1 : decode cX11_derive 1 = .ok (.iload_n 1, 1) := by decide +kernel
theorem dX11_derive_2 : decode cX11_derive 2 = .ok (.invokestatic 58, 3) := by decide +kernel
theorem dX11_derive_5 : decode cX11_derive 5 = .ok (.ifCond .eq 14, 3) := by decide +kernel
theorem dX11_derive_8 : decode cX11_derive 8 = .ok (.iload_n 3, 1) := by decide +kernel
theorem dX11_derive_9 : decode cX11_derive 9 = .ok (.invokestatic 58, 3) := by decide +kernel
theorem dX11_derive_12 : decode cX11_derive 12 = .ok (.ifCond .eq 7, 3) := by decide +kernel
theorem dX11_derive_15 : decode cX11_derive 15 = .ok (.iconst 1, 1) := by decide +kernel
theorem dX11_derive_16 : decode cX11_derive 16 = .ok (.goto 4, 3) := by decide +kernel
theorem dX11_derive_19 : decode cX11_derive 19 = .ok (.iconst 0, 1) := by decide +kernel
theorem dX11_derive_20 : decode cX11_derive 20 = .ok (.iload_n 2, 1) := by decide +kernel
theorem dX11_derive_21 : decode cX11_derive 21 = .ok (.iconst 0, 1) := by decide +kernel
theorem dX11_derive_22 : decode cX11_derive 22 = .ok (.bipush 9, 2) := by decide +kernel
theorem dX11_derive_24 : decode cX11_derive 24 = .ok (.invokestatic 43, 3) := by decide +kernel
theorem dX11_derive_27 : decode cX11_derive 27 = .ok (.invokevirtual 65, 3) := by decide +kernel
theorem dX11_derive_30 : decode cX11_derive 30 = .ok (.ifCond .ne 5, 3) := by decide +kernel
theorem dX11_derive_33 : decode cX11_derive 33 = .ok (.iconst 0, 1) := by decide +kernel
theorem dX11_derive_34 : decode cX11_derive 34 = .ok (.ireturn, 1) := by decide +kernel
theorem dX11_derive_35 : decode cX11_derive 35 = .ok (.aload_n 0, 1) := by decide +kernel
theorem dX11_derive_36 : decode cX11_derive 36 = .ok (.invokevirtual 97, 3) := by decide +kernel
theorem dX11_derive_39 : decode cX11_derive 39 = .ok (.iload_n 2, 1) := by decide +kernel
theorem dX11_derive_40 : decode cX11_derive 40 = .ok (.iconst 2, 1) := by decide +kernel
theorem dX11_derive_41 : decode cX11_derive 41 = .ok (.if_icmp .ge 21, 3) := by decide +kernel
theorem dX11_derive_44 : decode cX11_derive 44 = .ok (.aload_n 0, 1) := by decide +kernel
theorem dX11_derive_45 : decode cX11_derive 45 = .ok (.iload_n 3, 1) := by decide +kernel
theorem dX11_derive_46 : decode cX11_derive 46 = .ok (.iload_n 2, 1) := by decide +kernel
theorem dX11_derive_47 : decode cX11_derive 47 = .ok (.iconst 1, 1) := by decide +kernel
theorem dX11_derive_48 : decode cX11_derive 48 = .ok (.if_icmp .ne 7, 3) := by decide +kernel
theorem dX11_derive_51 : decode cX11_derive 51 = .ok (.iconst 1, 1) := by decide +kernel
theorem dX11_derive_52 : decode cX11_derive 52 = .ok (.goto 4, 3) := by decide +kernel
theorem dX11_derive_55 : decode cX11_derive 55 = .ok (.iconst 0, 1) := by decide +kernel
theorem dX11_derive_56 : decode cX11_derive 56 = .ok (.invokevirtual 100, 3) := by decide +kernel
theorem dX11_derive_59 : decode cX11_derive 59 = .ok (.goto 61, 3) := by decide +kernel
theorem dX11_derive_62 : decode cX11_derive 62 = .ok (.iload_n 2, 1) := by decide +kernel
theorem dX11_derive_63 : decode cX11_derive 63 = .ok (.bipush 7, 2) := by decide +kernel
theorem dX11_derive_65 : decode cX11_derive 65 = .ok (.if_icmp .le 22, 3) := by decide +kernel
theorem dX11_derive_68 : decode cX11_derive 68 = .ok (.aload_n 0, 1) := by decide +kernel
theorem dX11_derive_69 : decode cX11_derive 69 = .ok (.iload_n 3, 1) := by decide +kernel
theorem dX11_derive_70 : decode cX11_derive 70 = .ok (.iload_n 2, 1) := by decide +kernel
theorem dX11_derive_71 : decode cX11_derive 71 = .ok (.bipush 8, 2) := by decide +kernel
theorem dX11_derive_73 : decode cX11_derive 73 = .ok (.if_icmp .ne 7, 3) := by decide +kernel
theorem dX11_derive_76 : decode cX11_derive 76 = .ok (.iconst 1, 1) := by decide +kernel
theorem dX11_derive_77 : decode cX11_derive 77 = .ok (.goto 4, 3) := by decide +kernel
theorem dX11_derive_80 : decode cX11_derive 80 = .ok (.iconst 0, 1) := by decide +kernel
theorem dX11_derive_81 : decode cX11_derive 81 = .ok (.invokevirtual 104, 3) := by decide +kernel
theorem dX11_derive_84 : decode cX11_derive 84 = .ok (.goto 36, 3) := by decide +kernel
theorem dX11_derive_87 : decode cX11_derive 87 = .ok (.iconst 0, 1) := by decide +kernel
theorem dX11_derive_88 : decode cX11_derive 88 = .ok (.istore 4, 2) := by decide +kernel
theorem dX11_derive_90 : decode cX11_derive 90 = .ok (.iload 4, 2) := by decide +kernel
theorem dX11_derive_92 : decode cX11_derive 92 = .ok (.aload_n 0, 1) := by decide +kernel
theorem dX11_derive_93 : decode cX11_derive 93 = .ok (.invokevirtual 47, 3) := by decide +kernel
theorem dX11_derive_96 : decode cX11_derive 96 = .ok (.if_icmp .ge 24, 3) := by decide +kernel
theorem dX11_derive_99 : decode cX11_derive 99 = .ok (.aload_n 0, 1) := by decide +kernel
theorem dX11_derive_100 : decode cX11_derive 100 = .ok (.getfield 28, 3) := by decide +kernel
theorem dX11_derive_103 : decode cX11_derive 103 = .ok (.iload 4, 2) := by decide +kernel
theorem dX11_derive_105 : decode cX11_derive 105 = .ok (.aload_n 0, 1) := by decide +kernel
theorem dX11_derive_106 : decode cX11_derive 106 = .ok (.iload_n 2, 1) := by decide +kernel
theorem dX11_derive_107 : decode cX11_derive 107 = .ok (.iload_n 3, 1) := by decide +kernel
theorem dX11_derive_108 : decode cX11_derive 108 = .ok (.iload 4, 2) := by decide +kernel
theorem dX11_derive_110 : decode cX11_derive 110 = .ok (.invokevirtual 107, 3) := by decide +kernel
theorem dX11_derive_113 : decode cX11_derive 113 = .ok (.bastore, 1) := by decide +kernel
theorem dX11_derive_114 : decode cX11_derive 114 = .ok (.iinc 4 1, 3) := by decide +kernel
theorem dX11_derive_117 : decode cX11_derive 117 = .ok (.goto (-27), 3) := by decide +kernel
theorem dX11_derive_120 : decode cX11_derive 120 = .ok (.aload_n 0, 1) := by decide +kernel
theorem dX11_derive_121 : decode cX11_derive 121 = .ok (.iload_n 1, 1) := by decide +kernel
theorem dX11_derive_122 : decode cX11_derive 122 = .ok (.invokevirtual 83, 3) := by decide +kernel
theorem dX11_derive_125 : decode cX11_derive 125 = .ok (.ireturn, 1) := by decide +kernel
theorem dX11_compresses_0 : decode cX11_compresses 0 = .ok (.iconst 0, 1) := by decide +kernel
theorem dX11_compresses_1 : decode cX11_compresses 1 = .ok (.istore 4, 2) := by decide +kernel
theorem dX11_compresses_3 : decode cX11_compresses 3 = .ok (.iconst 0, 1) := by decide +kernel
theorem dX11_compresses_4 : decode cX11_compresses 4 = .ok (.istore 5, 2) := by decide +kernel
theorem dX11_compresses_6 : decode cX11_compresses 6 = .ok (.iload 5, 2) := by decide +kernel
theorem dX11_compresses_8 : decode cX11_compresses 8 = .ok (.aload_n 0, 1) := by decide +kernel
theorem dX11_compresses_9 : decode cX11_compresses 9 = .ok (.invokevirtual 47, 3) := by decide +kernel
theorem dX11_compresses_12 : decode cX11_compresses 12 = .ok (.if_icmp .ge 115, 3) := by decide +kernel
theorem dX11_compresses_15 : decode cX11_compresses 15 = .ok (.aload_n 0, 1) := by decide +kernel
theorem dX11_compresses_16 : decode cX11_compresses 16 = .ok (.getfield 13, 3) := by decide +kernel
theorem dX11_compresses_19 : decode cX11_compresses 19 = .ok (.sipush 1024, 3) := by decide +kernel
theorem dX11_compresses_22 : decode cX11_compresses 22 = .ok (.iload_n 1, 1) := by decide +kernel
theorem dX11_compresses_23 : decode cX11_compresses 23 = .ok (.imul, 1) := by decide +kernel
theorem dX11_compresses_24 : decode cX11_compresses 24 = .ok (.iload 5, 2) := by decide +kernel
theorem dX11_compresses_26 : decode cX11_compresses 26 = .ok (.iadd, 1) := by decide +kernel
theorem dX11_compresses_27 : decode cX11_compresses 27 = .ok (.baload, 1) := by decide +kernel
theorem dX11_compresses_28 : decode cX11_compresses 28 = .ok (.ifCond .eq 26, 3) := by decide +kernel
theorem dX11_compresses_31 : decode cX11_compresses 31 = .ok (.iload 5, 2) := by decide +kernel
theorem dX11_compresses_33 : decode cX11_compresses 33 = .ok (.iload_n 2, 1) := by decide +kernel
theorem dX11_compresses_34 : decode cX11_compresses 34 = .ok (.ishr, 1) := by decide +kernel
theorem dX11_compresses_35 : decode cX11_compresses 35 = .ok (.iconst 1, 1) := by decide +kernel
theorem dX11_compresses_36 : decode cX11_compresses 36 = .ok (.iand, 1) := by decide +kernel
theorem dX11_compresses_37 : decode cX11_compresses 37 = .ok (.iconst 1, 1) := by decide +kernel
theorem dX11_compresses_38 : decode cX11_compresses 38 = .ok (.if_icmp .ne 16, 3) := by decide +kernel
theorem dX11_compresses_41 : decode cX11_compresses 41 = .ok (.iload 5, 2) := by decide +kernel
theorem dX11_compresses_43 : decode cX11_compresses 43 = .ok (.iload_n 3, 1) := by decide +kernel
theorem dX11_compresses_44 : decode cX11_compresses 44 = .ok (.ishr, 1) := by decide +kernel
theorem dX11_compresses_45 : decode cX11_compresses 45 = .ok (.iconst 1, 1) := by decide +kernel
theorem dX11_compresses_46 : decode cX11_compresses 46 = .ok (.iand, 1) := by decide +kernel
theorem dX11_compresses_47 : decode cX11_compresses 47 = .ok (.ifCond .ne 7, 3) := by decide +kernel
theorem dX11_compresses_50 : decode cX11_compresses 50 = .ok (.iconst 1, 1) := by decide +kernel
theorem dX11_compresses_51 : decode cX11_compresses 51 = .ok (.goto 4, 3) := by decide +kernel
theorem dX11_compresses_54 : decode cX11_compresses 54 = .ok (.iconst 0, 1) := by decide +kernel
theorem dX11_compresses_55 : decode cX11_compresses 55 = .ok (.istore 6, 2) := by decide +kernel
theorem dX11_compresses_57 : decode cX11_compresses 57 = .ok (.iload 5, 2) := by decide +kernel
theorem dX11_compresses_59 : decode cX11_compresses 59 = .ok (.iconst 1, 1) := by decide +kernel
theorem dX11_compresses_60 : decode cX11_compresses 60 = .ok (.iload_n 2, 1) := by decide +kernel
theorem dX11_compresses_61 : decode cX11_compresses 61 = .ok (.ishl, 1) := by decide +kernel
theorem dX11_compresses_62 : decode cX11_compresses 62 = .ok (.ixor, 1) := by decide +kernel
theorem dX11_compresses_63 : decode cX11_compresses 63 = .ok (.iconst 1, 1) := by decide +kernel
theorem dX11_compresses_64 : decode cX11_compresses 64 = .ok (.iload_n 3, 1) := by decide +kernel
theorem dX11_compresses_65 : decode cX11_compresses 65 = .ok (.ishl, 1) := by decide +kernel
theorem dX11_compresses_66 : decode cX11_compresses 66 = .ok (.ixor, 1) := by decide +kernel
theorem dX11_compresses_67 : decode cX11_compresses 67 = .ok (.istore 7, 2) := by decide +kernel
theorem dX11_compresses_69 : decode cX11_compresses 69 = .ok (.iload 6, 2) := by decide +kernel
theorem dX11_compresses_71 : decode cX11_compresses 71 = .ok (.ifCond .eq 50, 3) := by decide +kernel
theorem dX11_compresses_74 : decode cX11_compresses 74 = .ok (.aload_n 0, 1) := by decide +kernel
theorem dX11_compresses_75 : decode cX11_compresses 75 = .ok (.getfield 13, 3) := by decide +kernel
theorem dX11_compresses_78 : decode cX11_compresses 78 = .ok (.sipush 1024, 3) := by decide +kernel
theorem dX11_compresses_81 : decode cX11_compresses 81 = .ok (.iload_n 1, 1) := by decide +kernel
theorem dX11_compresses_82 : decode cX11_compresses 82 = .ok (.imul, 1) := by decide +kernel
theorem dX11_compresses_83 : decode cX11_compresses 83 = .ok (.iload 7, 2) := by decide +kernel
theorem dX11_compresses_85 : decode cX11_compresses 85 = .ok (.iadd, 1) := by decide +kernel
theorem dX11_compresses_86 : decode cX11_compresses 86 = .ok (.baload, 1) := by decide +kernel
theorem dX11_compresses_87 : decode cX11_compresses 87 = .ok (.ifCond .ne 34, 3) := by decide +kernel
theorem dX11_compresses_90 : decode cX11_compresses 90 = .ok (.aload_n 0, 1) := by decide +kernel
theorem dX11_compresses_91 : decode cX11_compresses 91 = .ok (.getfield 13, 3) := by decide +kernel
theorem dX11_compresses_94 : decode cX11_compresses 94 = .ok (.sipush 1024, 3) := by decide +kernel
theorem dX11_compresses_97 : decode cX11_compresses 97 = .ok (.iload_n 1, 1) := by decide +kernel
theorem dX11_compresses_98 : decode cX11_compresses 98 = .ok (.imul, 1) := by decide +kernel
theorem dX11_compresses_99 : decode cX11_compresses 99 = .ok (.iload 5, 2) := by decide +kernel
theorem dX11_compresses_101 : decode cX11_compresses 101 = .ok (.iadd, 1) := by decide +kernel
theorem dX11_compresses_102 : decode cX11_compresses 102 = .ok (.iconst 0, 1) := by decide +kernel
theorem dX11_compresses_103 : decode cX11_compresses 103 = .ok (.bastore, 1) := by decide +kernel
theorem dX11_compresses_104 : decode cX11_compresses 104 = .ok (.aload_n 0, 1) := by decide +kernel
theorem dX11_compresses_105 : decode cX11_compresses 105 = .ok (.getfield 13, 3) := by decide +kernel
theorem dX11_compresses_108 : decode cX11_compresses 108 = .ok (.sipush 1024, 3) := by decide +kernel
theorem dX11_compresses_111 : decode cX11_compresses 111 = .ok (.iload_n 1, 1) := by decide +kernel
theorem dX11_compresses_112 : decode cX11_compresses 112 = .ok (.imul, 1) := by decide +kernel
theorem dX11_compresses_113 : decode cX11_compresses 113 = .ok (.iload 7, 2) := by decide +kernel
theorem dX11_compresses_115 : decode cX11_compresses 115 = .ok (.iadd, 1) := by decide +kernel
theorem dX11_compresses_116 : decode cX11_compresses 116 = .ok (.iconst 1, 1) := by decide +kernel
theorem dX11_compresses_117 : decode cX11_compresses 117 = .ok (.bastore, 1) := by decide +kernel
theorem dX11_compresses_118 : decode cX11_compresses 118 = .ok (.iinc 4 1, 3) := by decide +kernel
theorem dX11_compresses_121 : decode cX11_compresses 121 = .ok (.iinc 5 1, 3) := by decide +kernel
theorem dX11_compresses_124 : decode cX11_compresses 124 = .ok (.goto (-118), 3) := by decide +kernel
theorem dX11_compresses_127 : decode cX11_compresses 127 = .ok (.iload 4, 2) := by decide +kernel
theorem dX11_compresses_129 : decode cX11_compresses 129 = .ok (.ireturn, 1) := by decide +kernel
theorem dX11_compress_0 : decode cX11_compress 0 = .ok (.aload_n 0, 1) := by decide +kernel
theorem dX11_compress_1 : decode cX11_compress 1 = .ok (.iload_n 1, 1) := by decide +kernel
theorem dX11_compress_2 : decode cX11_compress 2 = .ok (.invokestatic 58, 3) := by decide +kernel
theorem dX11_compress_5 : decode cX11_compress 5 = .ok (.aload_n 0, 1) := by decide +kernel
theorem dX11_compress_6 : decode cX11_compress 6 = .ok (.iload_n 2, 1) := by decide +kernel
theorem dX11_compress_7 : decode cX11_compress 7 = .ok (.invokevirtual 77, 3) := by decide +kernel
theorem dX11_compress_10 : decode cX11_compress 10 = .ok (.ifCond .eq 20, 3) := by decide +kernel
theorem dX11_compress_13 : decode cX11_compress 13 = .ok (.aload_n 0, 1) := by decide +kernel
theorem dX11_compress_14 : decode cX11_compress 14 = .ok (.iload_n 3, 1) := by decide +kernel
theorem dX11_compress_15 : decode cX11_compress 15 = .ok (.invokevirtual 77, 3) := by decide +kernel
theorem dX11_compress_18 : decode cX11_compress 18 = .ok (.ifCond .eq 12, 3) := by decide +kernel
theorem dX11_compress_21 : decode cX11_compress 21 = .ok (.iload_n 2, 1) := by decide +kernel
theorem dX11_compress_22 : decode cX11_compress 22 = .ok (.iload_n 3, 1) := by decide +kernel
theorem dX11_compress_23 : decode cX11_compress 23 = .ok (.if_icmp .eq 7, 3) := by decide +kernel
theorem dX11_compress_26 : decode cX11_compress 26 = .ok (.iconst 1, 1) := by decide +kernel
theorem dX11_compress_27 : decode cX11_compress 27 = .ok (.goto 4, 3) := by decide +kernel
theorem dX11_compress_30 : decode cX11_compress 30 = .ok (.iconst 0, 1) := by decide +kernel
theorem dX11_compress_31 : decode cX11_compress 31 = .ok (.invokevirtual 65, 3) := by decide +kernel
theorem dX11_compress_34 : decode cX11_compress 34 = .ok (.ifCond .ne 5, 3) := by decide +kernel
theorem dX11_compress_37 : decode cX11_compress 37 = .ok (.iconst 0, 1) := by decide +kernel
theorem dX11_compress_38 : decode cX11_compress 38 = .ok (.ireturn, 1) := by decide +kernel
theorem dX11_compress_39 : decode cX11_compress 39 = .ok (.aload_n 0, 1) := by decide +kernel
theorem dX11_compress_40 : decode cX11_compress 40 = .ok (.invokevirtual 55, 3) := by decide +kernel
theorem dX11_compress_43 : decode cX11_compress 43 = .ok (.aload_n 0, 1) := by decide +kernel
theorem dX11_compress_44 : decode cX11_compress 44 = .ok (.iload_n 1, 1) := by decide +kernel
theorem dX11_compress_45 : decode cX11_compress 45 = .ok (.iload_n 2, 1) := by decide +kernel
theorem dX11_compress_46 : decode cX11_compress 46 = .ok (.iload_n 3, 1) := by decide +kernel
theorem dX11_compress_47 : decode cX11_compress 47 = .ok (.invokevirtual 110, 3) := by decide +kernel
theorem dX11_compress_50 : decode cX11_compress 50 = .ok (.ireturn, 1) := by decide +kernel
theorem dX11_shift_0 : decode cX11_shift 0 = .ok (.aload_n 0, 1) := by decide +kernel
theorem dX11_shift_1 : decode cX11_shift 1 = .ok (.iload_n 1, 1) := by decide +kernel
theorem dX11_shift_2 : decode cX11_shift 2 = .ok (.invokestatic 58, 3) := by decide +kernel
theorem dX11_shift_5 : decode cX11_shift 5 = .ok (.iconst 1, 1) := by decide +kernel
theorem dX11_shift_6 : decode cX11_shift 6 = .ok (.invokevirtual 65, 3) := by decide +kernel
theorem dX11_shift_9 : decode cX11_shift 9 = .ok (.ifCond .ne 5, 3) := by decide +kernel
theorem dX11_shift_12 : decode cX11_shift 12 = .ok (.iconst 0, 1) := by decide +kernel
theorem dX11_shift_13 : decode cX11_shift 13 = .ok (.ireturn, 1) := by decide +kernel
theorem dX11_shift_14 : decode cX11_shift 14 = .ok (.aload_n 0, 1) := by decide +kernel
theorem dX11_shift_15 : decode cX11_shift 15 = .ok (.invokevirtual 55, 3) := by decide +kernel
theorem dX11_shift_18 : decode cX11_shift 18 = .ok (.iconst 0, 1) := by decide +kernel
theorem dX11_shift_19 : decode cX11_shift 19 = .ok (.istore_n 2, 1) := by decide +kernel
theorem dX11_shift_20 : decode cX11_shift 20 = .ok (.iconst 1, 1) := by decide +kernel
theorem dX11_shift_21 : decode cX11_shift 21 = .ok (.istore_n 3, 1) := by decide +kernel
theorem dX11_shift_22 : decode cX11_shift 22 = .ok (.iload_n 3, 1) := by decide +kernel
theorem dX11_shift_23 : decode cX11_shift 23 = .ok (.ifCond .eq 72, 3) := by decide +kernel
theorem dX11_shift_26 : decode cX11_shift 26 = .ok (.iload_n 2, 1) := by decide +kernel
theorem dX11_shift_27 : decode cX11_shift 27 = .ok (.istore 4, 2) := by decide +kernel
theorem dX11_shift_29 : decode cX11_shift 29 = .ok (.iconst 0, 1) := by decide +kernel
theorem dX11_shift_30 : decode cX11_shift 30 = .ok (.istore 5, 2) := by decide +kernel
theorem dX11_shift_32 : decode cX11_shift 32 = .ok (.iload 5, 2) := by decide +kernel
theorem dX11_shift_34 : decode cX11_shift 34 = .ok (.aload_n 0, 1) := by decide +kernel
theorem dX11_shift_35 : decode cX11_shift 35 = .ok (.getfield 7, 3) := by decide +kernel
theorem dX11_shift_38 : decode cX11_shift 38 = .ok (.if_icmp .ge 42, 3) := by decide +kernel
theorem dX11_shift_41 : decode cX11_shift 41 = .ok (.iload 5, 2) := by decide +kernel
theorem dX11_shift_43 : decode cX11_shift 43 = .ok (.iconst 1, 1) := by decide +kernel
theorem dX11_shift_44 : decode cX11_shift 44 = .ok (.iadd, 1) := by decide +kernel
theorem dX11_shift_45 : decode cX11_shift 45 = .ok (.istore 6, 2) := by decide +kernel
theorem dX11_shift_47 : decode cX11_shift 47 = .ok (.iload 6, 2) := by decide +kernel
theorem dX11_shift_49 : decode cX11_shift 49 = .ok (.aload_n 0, 1) := by decide +kernel
theorem dX11_shift_50 : decode cX11_shift 50 = .ok (.getfield 7, 3) := by decide +kernel
theorem dX11_shift_53 : decode cX11_shift 53 = .ok (.if_icmp .ge 21, 3) := by decide +kernel
theorem dX11_shift_56 : decode cX11_shift 56 = .ok (.iload_n 2, 1) := by decide +kernel
theorem dX11_shift_57 : decode cX11_shift 57 = .ok (.aload_n 0, 1) := by decide +kernel
theorem dX11_shift_58 : decode cX11_shift 58 = .ok (.iload_n 1, 1) := by decide +kernel
theorem dX11_shift_59 : decode cX11_shift 59 = .ok (.iload 6, 2) := by decide +kernel
theorem dX11_shift_61 : decode cX11_shift 61 = .ok (.iload 5, 2) := by decide +kernel
theorem dX11_shift_63 : decode cX11_shift 63 = .ok (.invokevirtual 110, 3) := by decide +kernel
theorem dX11_shift_66 : decode cX11_shift 66 = .ok (.iadd, 1) := by decide +kernel
theorem dX11_shift_67 : decode cX11_shift 67 = .ok (.istore_n 2, 1) := by decide +kernel
theorem dX11_shift_68 : decode cX11_shift 68 = .ok (.iinc 6 1, 3) := by decide +kernel
theorem dX11_shift_71 : decode cX11_shift 71 = .ok (.goto (-24), 3) := by decide +kernel
theorem dX11_shift_74 : decode cX11_shift 74 = .ok (.iinc 5 1, 3) := by decide +kernel
theorem dX11_shift_77 : decode cX11_shift 77 = .ok (.goto (-45), 3) := by decide +kernel
theorem dX11_shift_80 : decode cX11_shift 80 = .ok (.iload_n 2, 1) := by decide +kernel
theorem dX11_shift_81 : decode cX11_shift 81 = .ok (.iload 4, 2) := by decide +kernel
theorem dX11_shift_83 : decode cX11_shift 83 = .ok (.if_icmp .le 7, 3) := by decide +kernel
theorem dX11_shift_86 : decode cX11_shift 86 = .ok (.iconst 1, 1) := by decide +kernel
theorem dX11_shift_87 : decode cX11_shift 87 = .ok (.goto 4, 3) := by decide +kernel
theorem dX11_shift_90 : decode cX11_shift 90 = .ok (.iconst 0, 1) := by decide +kernel
theorem dX11_shift_91 : decode cX11_shift 91 = .ok (.istore_n 3, 1) := by decide +kernel
theorem dX11_shift_92 : decode cX11_shift 92 = .ok (.goto (-70), 3) := by decide +kernel
theorem dX11_shift_95 : decode cX11_shift 95 = .ok (.iload_n 2, 1) := by decide +kernel
theorem dX11_shift_96 : decode cX11_shift 96 = .ok (.ireturn, 1) := by decide +kernel
theorem dX11_trace_0 : decode cX11_trace 0 = .ok (.aload_n 0, 1) := by decide +kernel
theorem dX11_trace_1 : decode cX11_trace 1 = .ok (.iload_n 1, 1) := by decide +kernel
theorem dX11_trace_2 : decode cX11_trace 2 = .ok (.invokestatic 58, 3) := by decide +kernel
theorem dX11_trace_5 : decode cX11_trace 5 = .ok (.ifCond .eq 14, 3) := by decide +kernel
theorem dX11_trace_8 : decode cX11_trace 8 = .ok (.iload_n 2, 1) := by decide +kernel
theorem dX11_trace_9 : decode cX11_trace 9 = .ok (.invokestatic 58, 3) := by decide +kernel
theorem dX11_trace_12 : decode cX11_trace 12 = .ok (.ifCond .eq 7, 3) := by decide +kernel
theorem dX11_trace_15 : decode cX11_trace 15 = .ok (.iconst 1, 1) := by decide +kernel
theorem dX11_trace_16 : decode cX11_trace 16 = .ok (.goto 4, 3) := by decide +kernel
theorem dX11_trace_19 : decode cX11_trace 19 = .ok (.iconst 0, 1) := by decide +kernel
theorem dX11_trace_20 : decode cX11_trace 20 = .ok (.aload_n 0, 1) := by decide +kernel
theorem dX11_trace_21 : decode cX11_trace 21 = .ok (.iload_n 3, 1) := by decide +kernel
theorem dX11_trace_22 : decode cX11_trace 22 = .ok (.invokevirtual 62, 3) := by decide +kernel
theorem dX11_trace_25 : decode cX11_trace 25 = .ok (.invokevirtual 65, 3) := by decide +kernel
theorem dX11_trace_28 : decode cX11_trace 28 = .ok (.ifCond .ne 5, 3) := by decide +kernel
theorem dX11_trace_31 : decode cX11_trace 31 = .ok (.iconst 0, 1) := by decide +kernel
theorem dX11_trace_32 : decode cX11_trace 32 = .ok (.ireturn, 1) := by decide +kernel
theorem dX11_trace_33 : decode cX11_trace 33 = .ok (.aload_n 0, 1) := by decide +kernel
theorem dX11_trace_34 : decode cX11_trace 34 = .ok (.invokevirtual 97, 3) := by decide +kernel
theorem dX11_trace_37 : decode cX11_trace 37 = .ok (.iconst 0, 1) := by decide +kernel
theorem dX11_trace_38 : decode cX11_trace 38 = .ok (.istore 4, 2) := by decide +kernel
theorem dX11_trace_40 : decode cX11_trace 40 = .ok (.iload 4, 2) := by decide +kernel
theorem dX11_trace_42 : decode cX11_trace 42 = .ok (.aload_n 0, 1) := by decide +kernel
theorem dX11_trace_43 : decode cX11_trace 43 = .ok (.invokevirtual 47, 3) := by decide +kernel
theorem dX11_trace_46 : decode cX11_trace 46 = .ok (.if_icmp .ge 51, 3) := by decide +kernel
theorem dX11_trace_49 : decode cX11_trace 49 = .ok (.aload_n 0, 1) := by decide +kernel
theorem dX11_trace_50 : decode cX11_trace 50 = .ok (.getfield 28, 3) := by decide +kernel
theorem dX11_trace_53 : decode cX11_trace 53 = .ok (.iload 4, 2) := by decide +kernel
theorem dX11_trace_55 : decode cX11_trace 55 = .ok (.iload_n 3, 1) := by decide +kernel
theorem dX11_trace_56 : decode cX11_trace 56 = .ok (.iand, 1) := by decide +kernel
theorem dX11_trace_57 : decode cX11_trace 57 = .ok (.aload_n 0, 1) := by decide +kernel
theorem dX11_trace_58 : decode cX11_trace 58 = .ok (.getfield 28, 3) := by decide +kernel
theorem dX11_trace_61 : decode cX11_trace 61 = .ok (.iload 4, 2) := by decide +kernel
theorem dX11_trace_63 : decode cX11_trace 63 = .ok (.iload_n 3, 1) := by decide +kernel
theorem dX11_trace_64 : decode cX11_trace 64 = .ok (.iand, 1) := by decide +kernel
theorem dX11_trace_65 : decode cX11_trace 65 = .ok (.baload, 1) := by decide +kernel
theorem dX11_trace_66 : decode cX11_trace 66 = .ok (.ifCond .ne 19, 3) := by decide +kernel
theorem dX11_trace_69 : decode cX11_trace 69 = .ok (.aload_n 0, 1) := by decide +kernel
theorem dX11_trace_70 : decode cX11_trace 70 = .ok (.getfield 13, 3) := by decide +kernel
theorem dX11_trace_73 : decode cX11_trace 73 = .ok (.sipush 1024, 3) := by decide +kernel
theorem dX11_trace_76 : decode cX11_trace 76 = .ok (.iload_n 2, 1) := by decide +kernel
theorem dX11_trace_77 : decode cX11_trace 77 = .ok (.imul, 1) := by decide +kernel
theorem dX11_trace_78 : decode cX11_trace 78 = .ok (.iload 4, 2) := by decide +kernel
theorem dX11_trace_80 : decode cX11_trace 80 = .ok (.iadd, 1) := by decide +kernel
theorem dX11_trace_81 : decode cX11_trace 81 = .ok (.baload, 1) := by decide +kernel
theorem dX11_trace_82 : decode cX11_trace 82 = .ok (.ifCond .eq 7, 3) := by decide +kernel
theorem dX11_trace_85 : decode cX11_trace 85 = .ok (.iconst 1, 1) := by decide +kernel
theorem dX11_trace_86 : decode cX11_trace 86 = .ok (.goto 4, 3) := by decide +kernel
theorem dX11_trace_89 : decode cX11_trace 89 = .ok (.iconst 0, 1) := by decide +kernel
theorem dX11_trace_90 : decode cX11_trace 90 = .ok (.bastore, 1) := by decide +kernel
theorem dX11_trace_91 : decode cX11_trace 91 = .ok (.iinc 4 1, 3) := by decide +kernel
theorem dX11_trace_94 : decode cX11_trace 94 = .ok (.goto (-54), 3) := by decide +kernel
theorem dX11_trace_97 : decode cX11_trace 97 = .ok (.aload_n 0, 1) := by decide +kernel
theorem dX11_trace_98 : decode cX11_trace 98 = .ok (.iload_n 1, 1) := by decide +kernel
theorem dX11_trace_99 : decode cX11_trace 99 = .ok (.invokevirtual 83, 3) := by decide +kernel
theorem dX11_trace_102 : decode cX11_trace 102 = .ok (.ireturn, 1) := by decide +kernel
theorem dX11_over_0 : decode cX11_over 0 = .ok (.lconst 1, 1) := by decide +kernel
theorem dX11_over_1 : decode cX11_over 1 = .ok (.lstore_n 2, 1) := by decide +kernel
theorem dX11_over_2 : decode cX11_over 2 = .ok (.iconst 0, 1) := by decide +kernel
theorem dX11_over_3 : decode cX11_over 3 = .ok (.istore 4, 2) := by decide +kernel
theorem dX11_over_5 : decode cX11_over 5 = .ok (.iload 4, 2) := by decide +kernel
theorem dX11_over_7 : decode cX11_over 7 = .ok (.iload_n 1, 1) := by decide +kernel
theorem dX11_over_8 : decode cX11_over 8 = .ok (.if_icmp .ge 23, 3) := by decide +kernel
theorem dX11_over_11 : decode cX11_over 11 = .ok (.lload_n 2, 1) := by decide +kernel
theorem dX11_over_12 : decode cX11_over 12 = .ok (.iload_n 0, 1) := by decide +kernel
theorem dX11_over_13 : decode cX11_over 13 = .ok (.iload 4, 2) := by decide +kernel
theorem dX11_over_15 : decode cX11_over 15 = .ok (.isub, 1) := by decide +kernel
theorem dX11_over_16 : decode cX11_over 16 = .ok (.i2l, 1) := by decide +kernel
theorem dX11_over_17 : decode cX11_over 17 = .ok (.lmul, 1) := by decide +kernel
theorem dX11_over_18 : decode cX11_over 18 = .ok (.iload 4, 2) := by decide +kernel
theorem dX11_over_20 : decode cX11_over 20 = .ok (.iconst 1, 1) := by decide +kernel
theorem dX11_over_21 : decode cX11_over 21 = .ok (.iadd, 1) := by decide +kernel
theorem dX11_over_22 : decode cX11_over 22 = .ok (.i2l, 1) := by decide +kernel
theorem dX11_over_23 : decode cX11_over 23 = .ok (.ldiv, 1) := by decide +kernel
theorem dX11_over_24 : decode cX11_over 24 = .ok (.lstore_n 2, 1) := by decide +kernel
theorem dX11_over_25 : decode cX11_over 25 = .ok (.iinc 4 1, 3) := by decide +kernel
theorem dX11_over_28 : decode cX11_over 28 = .ok (.goto (-23), 3) := by decide +kernel
theorem dX11_over_31 : decode cX11_over 31 = .ok (.iload_n 0, 1) := by decide +kernel
theorem dX11_over_32 : decode cX11_over 32 = .ok (.iload_n 1, 1) := by decide +kernel
theorem dX11_over_33 : decode cX11_over 33 = .ok (.if_icmp .ge 7, 3) := by decide +kernel
theorem dX11_over_36 : decode cX11_over 36 = .ok (.lconst 0, 1) := by decide +kernel
theorem dX11_over_37 : decode cX11_over 37 = .ok (.goto 4, 3) := by decide +kernel
theorem dX11_over_40 : decode cX11_over 40 = .ok (.lload_n 2, 1) := by decide +kernel
theorem dX11_over_41 : decode cX11_over 41 = .ok (.lreturn, 1) := by decide +kernel
theorem dX11_segment_0 : decode cX11_segment 0 = .ok (.aload_n 0, 1) := by decide +kernel
theorem dX11_segment_1 : decode cX11_segment 1 = .ok (.iload_n 1, 1) := by decide +kernel
theorem dX11_segment_2 : decode cX11_segment 2 = .ok (.invokestatic 58, 3) := by decide +kernel
theorem dX11_segment_5 : decode cX11_segment 5 = .ok (.iload_n 2, 1) := by decide +kernel
theorem dX11_segment_6 : decode cX11_segment 6 = .ok (.iconst 0, 1) := by decide +kernel
theorem dX11_segment_7 : decode cX11_segment 7 = .ok (.aload_n 0, 1) := by decide +kernel
theorem dX11_segment_8 : decode cX11_segment 8 = .ok (.getfield 7, 3) := by decide +kernel
theorem dX11_segment_11 : decode cX11_segment 11 = .ok (.invokestatic 43, 3) := by decide +kernel
theorem dX11_segment_14 : decode cX11_segment 14 = .ok (.ifCond .eq 25, 3) := by decide +kernel
theorem dX11_segment_17 : decode cX11_segment 17 = .ok (.iload_n 3, 1) := by decide +kernel
theorem dX11_segment_18 : decode cX11_segment 18 = .ok (.ifCond .lt 21, 3) := by decide +kernel
theorem dX11_segment_21 : decode cX11_segment 21 = .ok (.iload_n 3, 1) := by decide +kernel
theorem dX11_segment_22 : decode cX11_segment 22 = .ok (.i2l, 1) := by decide +kernel
theorem dX11_segment_23 : decode cX11_segment 23 = .ok (.aload_n 0, 1) := by decide +kernel
theorem dX11_segment_24 : decode cX11_segment 24 = .ok (.getfield 7, 3) := by decide +kernel
theorem dX11_segment_27 : decode cX11_segment 27 = .ok (.iload_n 2, 1) := by decide +kernel
theorem dX11_segment_28 : decode cX11_segment 28 = .ok (.invokestatic 114, 3) := by decide +kernel
theorem dX11_segment_31 : decode cX11_segment 31 = .ok (.lcmp, 1) := by decide +kernel
theorem dX11_segment_32 : decode cX11_segment 32 = .ok (.ifCond .gt 7, 3) := by decide +kernel
theorem dX11_segment_35 : decode cX11_segment 35 = .ok (.iconst 1, 1) := by decide +kernel
theorem dX11_segment_36 : decode cX11_segment 36 = .ok (.goto 4, 3) := by decide +kernel
theorem dX11_segment_39 : decode cX11_segment 39 = .ok (.iconst 0, 1) := by decide +kernel
theorem dX11_segment_40 : decode cX11_segment 40 = .ok (.invokevirtual 65, 3) := by decide +kernel
theorem dX11_segment_43 : decode cX11_segment 43 = .ok (.ifCond .ne 5, 3) := by decide +kernel
theorem dX11_segment_46 : decode cX11_segment 46 = .ok (.iconst 0, 1) := by decide +kernel
theorem dX11_segment_47 : decode cX11_segment 47 = .ok (.ireturn, 1) := by decide +kernel
theorem dX11_segment_48 : decode cX11_segment 48 = .ok (.aload_n 0, 1) := by decide +kernel
theorem dX11_segment_49 : decode cX11_segment 49 = .ok (.invokevirtual 97, 3) := by decide +kernel
theorem dX11_segment_52 : decode cX11_segment 52 = .ok (.iconst (-1), 1) := by decide +kernel
theorem dX11_segment_53 : decode cX11_segment 53 = .ok (.istore 4, 2) := by decide +kernel
theorem dX11_segment_55 : decode cX11_segment 55 = .ok (.iload_n 3, 1) := by decide +kernel
theorem dX11_segment_56 : decode cX11_segment 56 = .ok (.istore 5, 2) := by decide +kernel
theorem dX11_segment_58 : decode cX11_segment 58 = .ok (.iconst 0, 1) := by decide +kernel
theorem dX11_segment_59 : decode cX11_segment 59 = .ok (.istore 6, 2) := by decide +kernel
theorem dX11_segment_61 : decode cX11_segment 61 = .ok (.iload 6, 2) := by decide +kernel
theorem dX11_segment_63 : decode cX11_segment 63 = .ok (.aload_n 0, 1) := by decide +kernel
theorem dX11_segment_64 : decode cX11_segment 64 = .ok (.invokevirtual 47, 3) := by decide +kernel
theorem dX11_segment_67 : decode cX11_segment 67 = .ok (.if_icmp .ge 38, 3) := by decide +kernel
theorem dX11_segment_70 : decode cX11_segment 70 = .ok (.iload 5, 2) := by decide +kernel
theorem dX11_segment_72 : decode cX11_segment 72 = .ok (.ifCond .le 27, 3) := by decide +kernel
theorem dX11_segment_75 : decode cX11_segment 75 = .ok (.iload 6, 2) := by decide +kernel
theorem dX11_segment_77 : decode cX11_segment 77 = .ok (.invokestatic 51, 3) := by decide +kernel
theorem dX11_segment_80 : decode cX11_segment 80 = .ok (.iload_n 2, 1) := by decide +kernel
theorem dX11_segment_81 : decode cX11_segment 81 = .ok (.if_icmp .ne 18, 3) := by decide +kernel
theorem dX11_segment_84 : decode cX11_segment 84 = .ok (.aload_n 0, 1) := by decide +kernel
theorem dX11_segment_85 : decode cX11_segment 85 = .ok (.getfield 28, 3) := by decide +kernel
theorem dX11_segment_88 : decode cX11_segment 88 = .ok (.iload 6, 2) := by decide +kernel
theorem dX11_segment_90 : decode cX11_segment 90 = .ok (.iconst 1, 1) := by decide +kernel
theorem dX11_segment_91 : decode cX11_segment 91 = .ok (.bastore, 1) := by decide +kernel
theorem dX11_segment_92 : decode cX11_segment 92 = .ok (.iload 6, 2) := by decide +kernel
theorem dX11_segment_94 : decode cX11_segment 94 = .ok (.istore 4, 2) := by decide +kernel
theorem dX11_segment_96 : decode cX11_segment 96 = .ok (.iinc 5 (-1), 3) := by decide +kernel
theorem dX11_segment_99 : decode cX11_segment 99 = .ok (.iinc 6 1, 3) := by decide +kernel
theorem dX11_segment_102 : decode cX11_segment 102 = .ok (.goto (-41), 3) := by decide +kernel
theorem dX11_segment_105 : decode cX11_segment 105 = .ok (.aload_n 0, 1) := by decide +kernel
theorem dX11_segment_106 : decode cX11_segment 106 = .ok (.iload_n 1, 1) := by decide +kernel
theorem dX11_segment_107 : decode cX11_segment 107 = .ok (.invokevirtual 83, 3) := by decide +kernel
theorem dX11_segment_110 : decode cX11_segment 110 = .ok (.istore 6, 2) := by decide +kernel
theorem dX11_segment_112 : decode cX11_segment 112 = .ok (.iload 6, 2) := by decide +kernel
theorem dX11_segment_114 : decode cX11_segment 114 = .ok (.ifCond .ne 7, 3) := by decide +kernel
theorem dX11_segment_117 : decode cX11_segment 117 = .ok (.iconst (-1), 1) := by decide +kernel
theorem dX11_segment_118 : decode cX11_segment 118 = .ok (.goto 5, 3) := by decide +kernel
theorem dX11_segment_121 : decode cX11_segment 121 = .ok (.iload 4, 2) := by decide +kernel
theorem dX11_segment_123 : decode cX11_segment 123 = .ok (.ireturn, 1) := by decide +kernel
theorem dX11_rank_0 : decode cX11_rank 0 = .ok (.aload_n 0, 1) := by decide +kernel
theorem dX11_rank_1 : decode cX11_rank 1 = .ok (.iload_n 1, 1) := by decide +kernel
theorem dX11_rank_2 : decode cX11_rank 2 = .ok (.iconst 0, 1) := by decide +kernel
theorem dX11_rank_3 : decode cX11_rank 3 = .ok (.sipush 1023, 3) := by decide +kernel
theorem dX11_rank_6 : decode cX11_rank 6 = .ok (.invokestatic 43, 3) := by decide +kernel
theorem dX11_rank_9 : decode cX11_rank 9 = .ok (.ifCond .eq 7, 3) := by decide +kernel
theorem dX11_rank_12 : decode cX11_rank 12 = .ok (.iconst 0, 1) := by decide +kernel
theorem dX11_rank_13 : decode cX11_rank 13 = .ok (.goto 4, 3) := by decide +kernel
theorem dX11_rank_16 : decode cX11_rank 16 = .ok (.iconst 1, 1) := by decide +kernel
theorem dX11_rank_17 : decode cX11_rank 17 = .ok (.putfield 37, 3) := by decide +kernel
theorem dX11_rank_20 : decode cX11_rank 20 = .ok (.aload_n 0, 1) := by decide +kernel
theorem dX11_rank_21 : decode cX11_rank 21 = .ok (.getfield 37, 3) := by decide +kernel
theorem dX11_rank_24 : decode cX11_rank 24 = .ok (.ifCond .le 5, 3) := by decide +kernel
theorem dX11_rank_27 : decode cX11_rank 27 = .ok (.iconst 0, 1) := by decide +kernel
theorem dX11_rank_28 : decode cX11_rank 28 = .ok (.ireturn, 1) := by decide +kernel
theorem dX11_rank_29 : decode cX11_rank 29 = .ok (.iconst 0, 1) := by decide +kernel
theorem dX11_rank_30 : decode cX11_rank 30 = .ok (.istore_n 2, 1) := by decide +kernel
theorem dX11_rank_31 : decode cX11_rank 31 = .ok (.iconst 0, 1) := by decide +kernel
theorem dX11_rank_32 : decode cX11_rank 32 = .ok (.istore_n 3, 1) := by decide +kernel
theorem dX11_rank_33 : decode cX11_rank 33 = .ok (.iconst 0, 1) := by decide +kernel
theorem dX11_rank_34 : decode cX11_rank 34 = .ok (.istore 4, 2) := by decide +kernel
theorem dX11_rank_36 : decode cX11_rank 36 = .ok (.iload 4, 2) := by decide +kernel
theorem dX11_rank_38 : decode cX11_rank 38 = .ok (.bipush 10, 2) := by decide +kernel
theorem dX11_rank_40 : decode cX11_rank 40 = .ok (.if_icmp .ge 32, 3) := by decide +kernel
theorem dX11_rank_43 : decode cX11_rank 43 = .ok (.iload_n 1, 1) := by decide +kernel
theorem dX11_rank_44 : decode cX11_rank 44 = .ok (.iload 4, 2) := by decide +kernel
theorem dX11_rank_46 : decode cX11_rank 46 = .ok (.ishr, 1) := by decide +kernel
theorem dX11_rank_47 : decode cX11_rank 47 = .ok (.iconst 1, 1) := by decide +kernel
theorem dX11_rank_48 : decode cX11_rank 48 = .ok (.iand, 1) := by decide +kernel
theorem dX11_rank_49 : decode cX11_rank 49 = .ok (.iconst 1, 1) := by decide +kernel
theorem dX11_rank_50 : decode cX11_rank 50 = .ok (.if_icmp .ne 16, 3) := by decide +kernel
theorem dX11_rank_53 : decode cX11_rank 53 = .ok (.iinc 3 1, 3) := by decide +kernel
theorem dX11_rank_56 : decode cX11_rank 56 = .ok (.iload_n 2, 1) := by decide +kernel
theorem dX11_rank_57 : decode cX11_rank 57 = .ok (.iload 4, 2) := by decide +kernel
theorem dX11_rank_59 : decode cX11_rank 59 = .ok (.iload_n 3, 1) := by decide +kernel
theorem dX11_rank_60 : decode cX11_rank 60 = .ok (.invokestatic 114, 3) := by decide +kernel
theorem dX11_rank_63 : decode cX11_rank 63 = .ok (.l2i, 1) := by decide +kernel
theorem dX11_rank_64 : decode cX11_rank 64 = .ok (.iadd, 1) := by decide +kernel
theorem dX11_rank_65 : decode cX11_rank 65 = .ok (.istore_n 2, 1) := by decide +kernel
theorem dX11_rank_66 : decode cX11_rank 66 = .ok (.iinc 4 1, 3) := by decide +kernel
theorem dX11_rank_69 : decode cX11_rank 69 = .ok (.goto (-33), 3) := by decide +kernel
theorem dX11_rank_72 : decode cX11_rank 72 = .ok (.iload_n 2, 1) := by decide +kernel
theorem dX11_rank_73 : decode cX11_rank 73 = .ok (.ireturn, 1) := by decide +kernel
theorem dX11_unrank_0 : decode cX11_unrank 0 = .ok (.aload_n 0, 1) := by decide +kernel
theorem dX11_unrank_1 : decode cX11_unrank 1 = .ok (.iload_n 1, 1) := by decide +kernel
theorem dX11_unrank_2 : decode cX11_unrank 2 = .ok (.iconst 0, 1) := by decide +kernel
theorem dX11_unrank_3 : decode cX11_unrank 3 = .ok (.bipush 10, 2) := by decide +kernel
theorem dX11_unrank_5 : decode cX11_unrank 5 = .ok (.invokestatic 43, 3) := by decide +kernel
theorem dX11_unrank_8 : decode cX11_unrank 8 = .ok (.ifCond .eq 11, 3) := by decide +kernel
theorem dX11_unrank_11 : decode cX11_unrank 11 = .ok (.iload_n 2, 1) := by decide +kernel
theorem dX11_unrank_12 : decode cX11_unrank 12 = .ok (.ifCond .lt 7, 3) := by decide +kernel
theorem dX11_unrank_15 : decode cX11_unrank 15 = .ok (.iconst 0, 1) := by decide +kernel
theorem dX11_unrank_16 : decode cX11_unrank 16 = .ok (.goto 4, 3) := by decide +kernel
theorem dX11_unrank_19 : decode cX11_unrank 19 = .ok (.iconst 1, 1) := by decide +kernel
theorem dX11_unrank_20 : decode cX11_unrank 20 = .ok (.putfield 37, 3) := by decide +kernel
theorem dX11_unrank_23 : decode cX11_unrank 23 = .ok (.aload_n 0, 1) := by decide +kernel
theorem dX11_unrank_24 : decode cX11_unrank 24 = .ok (.getfield 37, 3) := by decide +kernel
theorem dX11_unrank_27 : decode cX11_unrank 27 = .ok (.ifCond .le 5, 3) := by decide +kernel
theorem dX11_unrank_30 : decode cX11_unrank 30 = .ok (.iconst 0, 1) := by decide +kernel
theorem dX11_unrank_31 : decode cX11_unrank 31 = .ok (.ireturn, 1) := by decide +kernel
theorem dX11_unrank_32 : decode cX11_unrank 32 = .ok (.iload_n 2, 1) := by decide +kernel
theorem dX11_unrank_33 : decode cX11_unrank 33 = .ok (.istore_n 3, 1) := by decide +kernel
theorem dX11_unrank_34 : decode cX11_unrank 34 = .ok (.iconst 0, 1) := by decide +kernel
theorem dX11_unrank_35 : decode cX11_unrank 35 = .ok (.istore 4, 2) := by decide +kernel
theorem dX11_unrank_37 : decode cX11_unrank 37 = .ok (.iload 4, 2) := by decide +kernel
theorem dX11_unrank_39 : decode cX11_unrank 39 = .ok (.sipush 1024, 3) := by decide +kernel
theorem dX11_unrank_42 : decode cX11_unrank 42 = .ok (.if_icmp .ge 28, 3) := by decide +kernel
theorem dX11_unrank_45 : decode cX11_unrank 45 = .ok (.iload 4, 2) := by decide +kernel
theorem dX11_unrank_47 : decode cX11_unrank 47 = .ok (.invokestatic 51, 3) := by decide +kernel
theorem dX11_unrank_50 : decode cX11_unrank 50 = .ok (.iload_n 1, 1) := by decide +kernel
theorem dX11_unrank_51 : decode cX11_unrank 51 = .ok (.if_icmp .ne 13, 3) := by decide +kernel
theorem dX11_unrank_54 : decode cX11_unrank 54 = .ok (.iload_n 3, 1) := by decide +kernel
theorem dX11_unrank_55 : decode cX11_unrank 55 = .ok (.ifCond .ne 6, 3) := by decide +kernel
theorem dX11_unrank_58 : decode cX11_unrank 58 = .ok (.iload 4, 2) := by decide +kernel
theorem dX11_unrank_60 : decode cX11_unrank 60 = .ok (.ireturn, 1) := by decide +kernel
theorem dX11_unrank_61 : decode cX11_unrank 61 = .ok (.iinc 3 (-1), 3) := by decide +kernel
theorem dX11_unrank_64 : decode cX11_unrank 64 = .ok (.iinc 4 1, 3) := by decide +kernel
theorem dX11_unrank_67 : decode cX11_unrank 67 = .ok (.goto (-30), 3) := by decide +kernel
theorem dX11_unrank_70 : decode cX11_unrank 70 = .ok (.iconst (-1), 1) := by decide +kernel
theorem dX11_unrank_71 : decode cX11_unrank 71 = .ok (.ireturn, 1) := by decide +kernel
theorem dX11_greatest_0 : decode cX11_greatest 0 = .ok (.iload_n 1, 1) := by decide +kernel
theorem dX11_greatest_1 : decode cX11_greatest 1 = .ok (.iconst 1, 1) := by decide +kernel
theorem dX11_greatest_2 : decode cX11_greatest 2 = .ok (.if_icmp .ne 7, 3) := by decide +kernel
theorem dX11_greatest_5 : decode cX11_greatest 5 = .ok (.iload_n 0, 1) := by decide +kernel
theorem dX11_greatest_6 : decode cX11_greatest 6 = .ok (.goto 4, 3) := by decide +kernel
theorem dX11_greatest_9 : decode cX11_greatest 9 = .ok (.iload_n 1, 1) := by decide +kernel
theorem dX11_greatest_10 : decode cX11_greatest 10 = .ok (.istore_n 2, 1) := by decide +kernel
theorem dX11_greatest_11 : decode cX11_greatest 11 = .ok (.iload_n 1, 1) := by decide +kernel
theorem dX11_greatest_12 : decode cX11_greatest 12 = .ok (.iconst 1, 1) := by decide +kernel
theorem dX11_greatest_13 : decode cX11_greatest 13 = .ok (.if_icmp .le 22, 3) := by decide +kernel
theorem dX11_greatest_16 : decode cX11_greatest 16 = .ok (.iload_n 2, 1) := by decide +kernel
theorem dX11_greatest_17 : decode cX11_greatest 17 = .ok (.iconst 1, 1) := by decide +kernel
theorem dX11_greatest_18 : decode cX11_greatest 18 = .ok (.iadd, 1) := by decide +kernel
theorem dX11_greatest_19 : decode cX11_greatest 19 = .ok (.iload_n 1, 1) := by decide +kernel
theorem dX11_greatest_20 : decode cX11_greatest 20 = .ok (.invokestatic 114, 3) := by decide +kernel
theorem dX11_greatest_23 : decode cX11_greatest 23 = .ok (.iload_n 0, 1) := by decide +kernel
theorem dX11_greatest_24 : decode cX11_greatest 24 = .ok (.i2l, 1) := by decide +kernel
theorem dX11_greatest_25 : decode cX11_greatest 25 = .ok (.lcmp, 1) := by decide +kernel
theorem dX11_greatest_26 : decode cX11_greatest 26 = .ok (.ifCond .gt 9, 3) := by decide +kernel
theorem dX11_greatest_29 : decode cX11_greatest 29 = .ok (.iinc 2 1, 3) := by decide +kernel
theorem dX11_greatest_32 : decode cX11_greatest 32 = .ok (.goto (-21), 3) := by decide +kernel
theorem dX11_greatest_35 : decode cX11_greatest 35 = .ok (.iload_n 2, 1) := by decide +kernel
theorem dX11_greatest_36 : decode cX11_greatest 36 = .ok (.ireturn, 1) := by decide +kernel
theorem dX11_cascade_0 : decode cX11_cascade 0 = .ok (.aload_n 0, 1) := by decide +kernel
theorem dX11_cascade_1 : decode cX11_cascade 1 = .ok (.iload_n 1, 1) := by decide +kernel
theorem dX11_cascade_2 : decode cX11_cascade 2 = .ok (.iconst 1, 1) := by decide +kernel
theorem dX11_cascade_3 : decode cX11_cascade 3 = .ok (.ldc 118, 2) := by decide +kernel
theorem dX11_cascade_5 : decode cX11_cascade 5 = .ok (.invokestatic 43, 3) := by decide +kernel
theorem dX11_cascade_8 : decode cX11_cascade 8 = .ok (.ifCond .eq 21, 3) := by decide +kernel
theorem dX11_cascade_11 : decode cX11_cascade 11 = .ok (.iload_n 2, 1) := by decide +kernel
theorem dX11_cascade_12 : decode cX11_cascade 12 = .ok (.iconst 1, 1) := by decide +kernel
theorem dX11_cascade_13 : decode cX11_cascade 13 = .ok (.bipush 10, 2) := by decide +kernel
theorem dX11_cascade_15 : decode cX11_cascade 15 = .ok (.invokestatic 43, 3) := by decide +kernel
theorem dX11_cascade_18 : decode cX11_cascade 18 = .ok (.ifCond .eq 11, 3) := by decide +kernel
theorem dX11_cascade_21 : decode cX11_cascade 21 = .ok (.iload_n 3, 1) := by decide +kernel
theorem dX11_cascade_22 : decode cX11_cascade 22 = .ok (.ifCond .lt 7, 3) := by decide +kernel
theorem dX11_cascade_25 : decode cX11_cascade 25 = .ok (.iconst 0, 1) := by decide +kernel
theorem dX11_cascade_26 : decode cX11_cascade 26 = .ok (.goto 4, 3) := by decide +kernel
theorem dX11_cascade_29 : decode cX11_cascade 29 = .ok (.iconst 1, 1) := by decide +kernel
theorem dX11_cascade_30 : decode cX11_cascade 30 = .ok (.putfield 37, 3) := by decide +kernel
theorem dX11_cascade_33 : decode cX11_cascade 33 = .ok (.aload_n 0, 1) := by decide +kernel
theorem dX11_cascade_34 : decode cX11_cascade 34 = .ok (.getfield 37, 3) := by decide +kernel
theorem dX11_cascade_37 : decode cX11_cascade 37 = .ok (.ifCond .le 5, 3) := by decide +kernel
theorem dX11_cascade_40 : decode cX11_cascade 40 = .ok (.iconst 0, 1) := by decide +kernel
theorem dX11_cascade_41 : decode cX11_cascade 41 = .ok (.ireturn, 1) := by decide +kernel
theorem dX11_cascade_42 : decode cX11_cascade 42 = .ok (.iload_n 1, 1) := by decide +kernel
theorem dX11_cascade_43 : decode cX11_cascade 43 = .ok (.istore 4, 2) := by decide +kernel
theorem dX11_cascade_45 : decode cX11_cascade 45 = .ok (.iconst 0, 1) := by decide +kernel
theorem dX11_cascade_46 : decode cX11_cascade 46 = .ok (.istore 5, 2) := by decide +kernel
theorem dX11_cascade_48 : decode cX11_cascade 48 = .ok (.iload_n 2, 1) := by decide +kernel
theorem dX11_cascade_49 : decode cX11_cascade 49 = .ok (.istore 6, 2) := by decide +kernel
theorem dX11_cascade_51 : decode cX11_cascade 51 = .ok (.iload 6, 2) := by decide +kernel
theorem dX11_cascade_53 : decode cX11_cascade 53 = .ok (.ifCond .le 48, 3) := by decide +kernel
theorem dX11_cascade_56 : decode cX11_cascade 56 = .ok (.iload 4, 2) := by decide +kernel
theorem dX11_cascade_58 : decode cX11_cascade 58 = .ok (.ifCond .le 43, 3) := by decide +kernel
theorem dX11_cascade_61 : decode cX11_cascade 61 = .ok (.iload 4, 2) := by decide +kernel
theorem dX11_cascade_63 : decode cX11_cascade 63 = .ok (.iload 6, 2) := by decide +kernel
theorem dX11_cascade_65 : decode cX11_cascade 65 = .ok (.invokestatic 119, 3) := by decide +kernel
theorem dX11_cascade_68 : decode cX11_cascade 68 = .ok (.istore 7, 2) := by decide +kernel
theorem dX11_cascade_70 : decode cX11_cascade 70 = .ok (.iload 5, 2) := by decide +kernel
theorem dX11_cascade_72 : decode cX11_cascade 72 = .ok (.iload_n 3, 1) := by decide +kernel
theorem dX11_cascade_73 : decode cX11_cascade 73 = .ok (.if_icmp .ne 6, 3) := by decide +kernel
theorem dX11_cascade_76 : decode cX11_cascade 76 = .ok (.iload 7, 2) := by decide +kernel
theorem dX11_cascade_78 : decode cX11_cascade 78 = .ok (.ireturn, 1) := by decide +kernel
theorem dX11_cascade_79 : decode cX11_cascade 79 = .ok (.iload 4, 2) := by decide +kernel
theorem dX11_cascade_81 : decode cX11_cascade 81 = .ok (.iload 7, 2) := by decide +kernel
theorem dX11_cascade_83 : decode cX11_cascade 83 = .ok (.iload 6, 2) := by decide +kernel
theorem dX11_cascade_85 : decode cX11_cascade 85 = .ok (.invokestatic 114, 3) := by decide +kernel
theorem dX11_cascade_88 : decode cX11_cascade 88 = .ok (.l2i, 1) := by decide +kernel
theorem dX11_cascade_89 : decode cX11_cascade 89 = .ok (.isub, 1) := by decide +kernel
theorem dX11_cascade_90 : decode cX11_cascade 90 = .ok (.istore 4, 2) := by decide +kernel
theorem dX11_cascade_92 : decode cX11_cascade 92 = .ok (.iinc 5 1, 3) := by decide +kernel
theorem dX11_cascade_95 : decode cX11_cascade 95 = .ok (.iinc 6 (-1), 3) := by decide +kernel
theorem dX11_cascade_98 : decode cX11_cascade 98 = .ok (.goto (-47), 3) := by decide +kernel
theorem dX11_cascade_101 : decode cX11_cascade 101 = .ok (.iconst (-1), 1) := by decide +kernel
theorem dX11_cascade_102 : decode cX11_cascade 102 = .ok (.ireturn, 1) := by decide +kernel
theorem dX11_bound_0 : decode cX11_bound 0 = .ok (.iload_n 0, 1) := by decide +kernel
theorem dX11_bound_1 : decode cX11_bound 1 = .ok (.istore_n 2, 1) := by decide +kernel
theorem dX11_bound_2 : decode cX11_bound 2 = .ok (.iconst 0, 1) := by decide +kernel
theorem dX11_bound_3 : decode cX11_bound 3 = .ok (.istore_n 3, 1) := by decide +kernel
theorem dX11_bound_4 : decode cX11_bound 4 = .ok (.iload_n 1, 1) := by decide +kernel
theorem dX11_bound_5 : decode cX11_bound 5 = .ok (.istore 4, 2) := by decide +kernel
theorem dX11_bound_7 : decode cX11_bound 7 = .ok (.iload 4, 2) := by decide +kernel
theorem dX11_bound_9 : decode cX11_bound 9 = .ok (.ifCond .le 45, 3) := by decide +kernel
theorem dX11_bound_12 : decode cX11_bound 12 = .ok (.iload_n 2, 1) := by decide +kernel
theorem dX11_bound_13 : decode cX11_bound 13 = .ok (.ifCond .le 41, 3) := by decide +kernel
theorem dX11_bound_16 : decode cX11_bound 16 = .ok (.iload_n 2, 1) := by decide +kernel
theorem dX11_bound_17 : decode cX11_bound 17 = .ok (.iload 4, 2) := by decide +kernel
theorem dX11_bound_19 : decode cX11_bound 19 = .ok (.invokestatic 119, 3) := by decide +kernel
theorem dX11_bound_22 : decode cX11_bound 22 = .ok (.istore 5, 2) := by decide +kernel
theorem dX11_bound_24 : decode cX11_bound 24 = .ok (.iload_n 2, 1) := by decide +kernel
theorem dX11_bound_25 : decode cX11_bound 25 = .ok (.iload 5, 2) := by decide +kernel
theorem dX11_bound_27 : decode cX11_bound 27 = .ok (.iload 4, 2) := by decide +kernel
theorem dX11_bound_29 : decode cX11_bound 29 = .ok (.invokestatic 114, 3) := by decide +kernel
theorem dX11_bound_32 : decode cX11_bound 32 = .ok (.l2i, 1) := by decide +kernel
theorem dX11_bound_33 : decode cX11_bound 33 = .ok (.isub, 1) := by decide +kernel
theorem dX11_bound_34 : decode cX11_bound 34 = .ok (.istore_n 2, 1) := by decide +kernel
theorem dX11_bound_35 : decode cX11_bound 35 = .ok (.iload_n 3, 1) := by decide +kernel
theorem dX11_bound_36 : decode cX11_bound 36 = .ok (.iload 5, 2) := by decide +kernel
theorem dX11_bound_38 : decode cX11_bound 38 = .ok (.iload 4, 2) := by decide +kernel
theorem dX11_bound_40 : decode cX11_bound 40 = .ok (.iconst 1, 1) := by decide +kernel
theorem dX11_bound_41 : decode cX11_bound 41 = .ok (.isub, 1) := by decide +kernel
theorem dX11_bound_42 : decode cX11_bound 42 = .ok (.invokestatic 114, 3) := by decide +kernel
theorem dX11_bound_45 : decode cX11_bound 45 = .ok (.l2i, 1) := by decide +kernel
theorem dX11_bound_46 : decode cX11_bound 46 = .ok (.iadd, 1) := by decide +kernel
theorem dX11_bound_47 : decode cX11_bound 47 = .ok (.istore_n 3, 1) := by decide +kernel
theorem dX11_bound_48 : decode cX11_bound 48 = .ok (.iinc 4 (-1), 3) := by decide +kernel
theorem dX11_bound_51 : decode cX11_bound 51 = .ok (.goto (-44), 3) := by decide +kernel
theorem dX11_bound_54 : decode cX11_bound 54 = .ok (.iload_n 3, 1) := by decide +kernel
theorem dX11_bound_55 : decode cX11_bound 55 = .ok (.ireturn, 1) := by decide +kernel
theorem dX11_shadowBound_0 : decode cX11_shadowBound 0 = .ok (.aload_n 0, 1) := by decide +kernel
theorem dX11_shadowBound_1 : decode cX11_shadowBound 1 = .ok (.iload_n 1, 1) := by decide +kernel
theorem dX11_shadowBound_2 : decode cX11_shadowBound 2 = .ok (.iconst 0, 1) := by decide +kernel
theorem dX11_shadowBound_3 : decode cX11_shadowBound 3 = .ok (.ldc 118, 2) := by decide +kernel
theorem dX11_shadowBound_5 : decode cX11_shadowBound 5 = .ok (.invokestatic 43, 3) := by decide +kernel
theorem dX11_shadowBound_8 : decode cX11_shadowBound 8 = .ok (.ifCond .eq 17, 3) := by decide +kernel
theorem dX11_shadowBound_11 : decode cX11_shadowBound 11 = .ok (.iload_n 2, 1) := by decide +kernel
theorem dX11_shadowBound_12 : decode cX11_shadowBound 12 = .ok (.iconst 1, 1) := by decide +kernel
theorem dX11_shadowBound_13 : decode cX11_shadowBound 13 = .ok (.bipush 10, 2) := by decide +kernel
theorem dX11_shadowBound_15 : decode cX11_shadowBound 15 = .ok (.invokestatic 43, 3) := by decide +kernel
theorem dX11_shadowBound_18 : decode cX11_shadowBound 18 = .ok (.ifCond .eq 7, 3) := by decide +kernel
theorem dX11_shadowBound_21 : decode cX11_shadowBound 21 = .ok (.iconst 0, 1) := by decide +kernel
theorem dX11_shadowBound_22 : decode cX11_shadowBound 22 = .ok (.goto 4, 3) := by decide +kernel
theorem dX11_shadowBound_25 : decode cX11_shadowBound 25 = .ok (.iconst 1, 1) := by decide +kernel
theorem dX11_shadowBound_26 : decode cX11_shadowBound 26 = .ok (.putfield 37, 3) := by decide +kernel
theorem dX11_shadowBound_29 : decode cX11_shadowBound 29 = .ok (.aload_n 0, 1) := by decide +kernel
theorem dX11_shadowBound_30 : decode cX11_shadowBound 30 = .ok (.getfield 37, 3) := by decide +kernel
theorem dX11_shadowBound_33 : decode cX11_shadowBound 33 = .ok (.ifCond .le 7, 3) := by decide +kernel
theorem dX11_shadowBound_36 : decode cX11_shadowBound 36 = .ok (.iconst 0, 1) := by decide +kernel
theorem dX11_shadowBound_37 : decode cX11_shadowBound 37 = .ok (.goto 8, 3) := by decide +kernel
theorem dX11_shadowBound_40 : decode cX11_shadowBound 40 = .ok (.iload_n 1, 1) := by decide +kernel
theorem dX11_shadowBound_41 : decode cX11_shadowBound 41 = .ok (.iload_n 2, 1) := by decide +kernel
theorem dX11_shadowBound_42 : decode cX11_shadowBound 42 = .ok (.invokestatic 122, 3) := by decide +kernel
theorem dX11_shadowBound_45 : decode cX11_shadowBound 45 = .ok (.ireturn, 1) := by decide +kernel
theorem dX11_excessOf_0 : decode cX11_excessOf 0 = .ok (.iconst 0, 1) := by decide +kernel
theorem dX11_excessOf_1 : decode cX11_excessOf 1 = .ok (.istore_n 3, 1) := by decide +kernel
theorem dX11_excessOf_2 : decode cX11_excessOf 2 = .ok (.iconst 0, 1) := by decide +kernel
theorem dX11_excessOf_3 : decode cX11_excessOf 3 = .ok (.istore 4, 2) := by decide +kernel
theorem dX11_excessOf_5 : decode cX11_excessOf 5 = .ok (.iload 4, 2) := by decide +kernel
theorem dX11_excessOf_7 : decode cX11_excessOf 7 = .ok (.aload_n 0, 1) := by decide +kernel
theorem dX11_excessOf_8 : decode cX11_excessOf 8 = .ok (.invokevirtual 47, 3) := by decide +kernel
theorem dX11_excessOf_11 : decode cX11_excessOf 11 = .ok (.if_icmp .ge 97, 3) := by decide +kernel
theorem dX11_excessOf_14 : decode cX11_excessOf 14 = .ok (.iconst 0, 1) := by decide +kernel
theorem dX11_excessOf_15 : decode cX11_excessOf 15 = .ok (.istore 5, 2) := by decide +kernel
theorem dX11_excessOf_17 : decode cX11_excessOf 17 = .ok (.iconst 0, 1) := by decide +kernel
theorem dX11_excessOf_18 : decode cX11_excessOf 18 = .ok (.istore 6, 2) := by decide +kernel
theorem dX11_excessOf_20 : decode cX11_excessOf 20 = .ok (.iload 6, 2) := by decide +kernel
theorem dX11_excessOf_22 : decode cX11_excessOf 22 = .ok (.aload_n 0, 1) := by decide +kernel
theorem dX11_excessOf_23 : decode cX11_excessOf 23 = .ok (.getfield 7, 3) := by decide +kernel
theorem dX11_excessOf_26 : decode cX11_excessOf 26 = .ok (.if_icmp .ge 63, 3) := by decide +kernel
theorem dX11_excessOf_29 : decode cX11_excessOf 29 = .ok (.iload 4, 2) := by decide +kernel
theorem dX11_excessOf_31 : decode cX11_excessOf 31 = .ok (.invokestatic 51, 3) := by decide +kernel
theorem dX11_excessOf_34 : decode cX11_excessOf 34 = .ok (.iload_n 2, 1) := by decide +kernel
theorem dX11_excessOf_35 : decode cX11_excessOf 35 = .ok (.iconst 1, 1) := by decide +kernel
theorem dX11_excessOf_36 : decode cX11_excessOf 36 = .ok (.isub, 1) := by decide +kernel
theorem dX11_excessOf_37 : decode cX11_excessOf 37 = .ok (.if_icmp .ne 52, 3) := by decide +kernel
theorem dX11_excessOf_40 : decode cX11_excessOf 40 = .ok (.iload 5, 2) := by decide +kernel
theorem dX11_excessOf_42 : decode cX11_excessOf 42 = .ok (.ifCond .ne 47, 3) := by decide +kernel
theorem dX11_excessOf_45 : decode cX11_excessOf 45 = .ok (.iload 4, 2) := by decide +kernel
theorem dX11_excessOf_47 : decode cX11_excessOf 47 = .ok (.iload 6, 2) := by decide +kernel
theorem dX11_excessOf_49 : decode cX11_excessOf 49 = .ok (.ishr, 1) := by decide +kernel
theorem dX11_excessOf_50 : decode cX11_excessOf 50 = .ok (.iconst 1, 1) := by decide +kernel
theorem dX11_excessOf_51 : decode cX11_excessOf 51 = .ok (.iand, 1) := by decide +kernel
theorem dX11_excessOf_52 : decode cX11_excessOf 52 = .ok (.ifCond .ne 28, 3) := by decide +kernel
theorem dX11_excessOf_55 : decode cX11_excessOf 55 = .ok (.aload_n 0, 1) := by decide +kernel
theorem dX11_excessOf_56 : decode cX11_excessOf 56 = .ok (.getfield 13, 3) := by decide +kernel
theorem dX11_excessOf_59 : decode cX11_excessOf 59 = .ok (.sipush 1024, 3) := by decide +kernel
theorem dX11_excessOf_62 : decode cX11_excessOf 62 = .ok (.iload_n 1, 1) := by decide +kernel
theorem dX11_excessOf_63 : decode cX11_excessOf 63 = .ok (.imul, 1) := by decide +kernel
theorem dX11_excessOf_64 : decode cX11_excessOf 64 = .ok (.iload 4, 2) := by decide +kernel
theorem dX11_excessOf_66 : decode cX11_excessOf 66 = .ok (.iconst 1, 1) := by decide +kernel
theorem dX11_excessOf_67 : decode cX11_excessOf 67 = .ok (.iload 6, 2) := by decide +kernel
theorem dX11_excessOf_69 : decode cX11_excessOf 69 = .ok (.ishl, 1) := by decide +kernel
theorem dX11_excessOf_70 : decode cX11_excessOf 70 = .ok (.ior, 1) := by decide +kernel
theorem dX11_excessOf_71 : decode cX11_excessOf 71 = .ok (.iadd, 1) := by decide +kernel
theorem dX11_excessOf_72 : decode cX11_excessOf 72 = .ok (.baload, 1) := by decide +kernel
theorem dX11_excessOf_73 : decode cX11_excessOf 73 = .ok (.ifCond .eq 7, 3) := by decide +kernel
theorem dX11_excessOf_76 : decode cX11_excessOf 76 = .ok (.iconst 1, 1) := by decide +kernel
theorem dX11_excessOf_77 : decode cX11_excessOf 77 = .ok (.goto 4, 3) := by decide +kernel
theorem dX11_excessOf_80 : decode cX11_excessOf 80 = .ok (.iconst 0, 1) := by decide +kernel
theorem dX11_excessOf_81 : decode cX11_excessOf 81 = .ok (.istore 5, 2) := by decide +kernel
theorem dX11_excessOf_83 : decode cX11_excessOf 83 = .ok (.iinc 6 1, 3) := by decide +kernel
theorem dX11_excessOf_86 : decode cX11_excessOf 86 = .ok (.goto (-66), 3) := by decide +kernel
theorem dX11_excessOf_89 : decode cX11_excessOf 89 = .ok (.iload_n 3, 1) := by decide +kernel
theorem dX11_excessOf_90 : decode cX11_excessOf 90 = .ok (.iload 5, 2) := by decide +kernel
theorem dX11_excessOf_92 : decode cX11_excessOf 92 = .ok (.ifCond .eq 7, 3) := by decide +kernel
theorem dX11_excessOf_95 : decode cX11_excessOf 95 = .ok (.iconst 1, 1) := by decide +kernel
theorem dX11_excessOf_96 : decode cX11_excessOf 96 = .ok (.goto 4, 3) := by decide +kernel
theorem dX11_excessOf_99 : decode cX11_excessOf 99 = .ok (.iconst 0, 1) := by decide +kernel
theorem dX11_excessOf_100 : decode cX11_excessOf 100 = .ok (.iadd, 1) := by decide +kernel
theorem dX11_excessOf_101 : decode cX11_excessOf 101 = .ok (.istore_n 3, 1) := by decide +kernel
theorem dX11_excessOf_102 : decode cX11_excessOf 102 = .ok (.iinc 4 1, 3) := by decide +kernel
theorem dX11_excessOf_105 : decode cX11_excessOf 105 = .ok (.goto (-100), 3) := by decide +kernel
theorem dX11_excessOf_108 : decode cX11_excessOf 108 = .ok (.iload_n 3, 1) := by decide +kernel
theorem dX11_excessOf_109 : decode cX11_excessOf 109 = .ok (.aload_n 0, 1) := by decide +kernel
theorem dX11_excessOf_110 : decode cX11_excessOf 110 = .ok (.iload_n 1, 1) := by decide +kernel
theorem dX11_excessOf_111 : decode cX11_excessOf 111 = .ok (.iload_n 2, 1) := by decide +kernel
theorem dX11_excessOf_112 : decode cX11_excessOf 112 = .ok (.invokevirtual 73, 3) := by decide +kernel
theorem dX11_excessOf_115 : decode cX11_excessOf 115 = .ok (.iload_n 2, 1) := by decide +kernel
theorem dX11_excessOf_116 : decode cX11_excessOf 116 = .ok (.invokestatic 122, 3) := by decide +kernel
theorem dX11_excessOf_119 : decode cX11_excessOf 119 = .ok (.isub, 1) := by decide +kernel
theorem dX11_excessOf_120 : decode cX11_excessOf 120 = .ok (.ireturn, 1) := by decide +kernel
theorem dX11_excess_0 : decode cX11_excess 0 = .ok (.aload_n 0, 1) := by decide +kernel
theorem dX11_excess_1 : decode cX11_excess 1 = .ok (.iload_n 1, 1) := by decide +kernel
theorem dX11_excess_2 : decode cX11_excess 2 = .ok (.invokestatic 58, 3) := by decide +kernel
theorem dX11_excess_5 : decode cX11_excess 5 = .ok (.iload_n 2, 1) := by decide +kernel
theorem dX11_excess_6 : decode cX11_excess 6 = .ok (.iconst 1, 1) := by decide +kernel
theorem dX11_excess_7 : decode cX11_excess 7 = .ok (.aload_n 0, 1) := by decide +kernel
theorem dX11_excess_8 : decode cX11_excess 8 = .ok (.getfield 7, 3) := by decide +kernel
theorem dX11_excess_11 : decode cX11_excess 11 = .ok (.invokestatic 43, 3) := by decide +kernel
theorem dX11_excess_14 : decode cX11_excess 14 = .ok (.invokevirtual 65, 3) := by decide +kernel
theorem dX11_excess_17 : decode cX11_excess 17 = .ok (.ifCond .eq 12, 3) := by decide +kernel
theorem dX11_excess_20 : decode cX11_excess 20 = .ok (.aload_n 0, 1) := by decide +kernel
theorem dX11_excess_21 : decode cX11_excess 21 = .ok (.iload_n 1, 1) := by decide +kernel
theorem dX11_excess_22 : decode cX11_excess 22 = .ok (.iload_n 2, 1) := by decide +kernel
theorem dX11_excess_23 : decode cX11_excess 23 = .ok (.invokevirtual 125, 3) := by decide +kernel
theorem dX11_excess_26 : decode cX11_excess 26 = .ok (.goto 4, 3) := by decide +kernel
theorem dX11_excess_29 : decode cX11_excess 29 = .ok (.iconst 0, 1) := by decide +kernel
theorem dX11_excess_30 : decode cX11_excess 30 = .ok (.ireturn, 1) := by decide +kernel
theorem dX11_areBad_0 : decode cX11_areBad 0 = .ok (.iload_n 2, 1) := by decide +kernel
theorem dX11_areBad_1 : decode cX11_areBad 1 = .ok (.tableswitch 84 0 2 #[27, 47, 60], 27) := by decide +kernel
theorem dX11_areBad_28 : decode cX11_areBad 28 = .ok (.iload_n 3, 1) := by decide +kernel
theorem dX11_areBad_29 : decode cX11_areBad 29 = .ok (.iload 4, 2) := by decide +kernel
theorem dX11_areBad_31 : decode cX11_areBad 31 = .ok (.if_icmp .eq 15, 3) := by decide +kernel
theorem dX11_areBad_34 : decode cX11_areBad 34 = .ok (.iload_n 3, 1) := by decide +kernel
theorem dX11_areBad_35 : decode cX11_areBad 35 = .ok (.iload 4, 2) := by decide +kernel
theorem dX11_areBad_37 : decode cX11_areBad 37 = .ok (.iand, 1) := by decide +kernel
theorem dX11_areBad_38 : decode cX11_areBad 38 = .ok (.iload_n 3, 1) := by decide +kernel
theorem dX11_areBad_39 : decode cX11_areBad 39 = .ok (.if_icmp .ne 7, 3) := by decide +kernel
theorem dX11_areBad_42 : decode cX11_areBad 42 = .ok (.iconst 1, 1) := by decide +kernel
theorem dX11_areBad_43 : decode cX11_areBad 43 = .ok (.goto 4, 3) := by decide +kernel
theorem dX11_areBad_46 : decode cX11_areBad 46 = .ok (.iconst 0, 1) := by decide +kernel
theorem dX11_areBad_47 : decode cX11_areBad 47 = .ok (.ireturn, 1) := by decide +kernel
theorem dX11_areBad_48 : decode cX11_areBad 48 = .ok (.iload_n 3, 1) := by decide +kernel
theorem dX11_areBad_49 : decode cX11_areBad 49 = .ok (.iload 4, 2) := by decide +kernel
theorem dX11_areBad_51 : decode cX11_areBad 51 = .ok (.iand, 1) := by decide +kernel
theorem dX11_areBad_52 : decode cX11_areBad 52 = .ok (.ifCond .ne 7, 3) := by decide +kernel
theorem dX11_areBad_55 : decode cX11_areBad 55 = .ok (.iconst 1, 1) := by decide +kernel
theorem dX11_areBad_56 : decode cX11_areBad 56 = .ok (.goto 4, 3) := by decide +kernel
theorem dX11_areBad_59 : decode cX11_areBad 59 = .ok (.iconst 0, 1) := by decide +kernel
theorem dX11_areBad_60 : decode cX11_areBad 60 = .ok (.ireturn, 1) := by decide +kernel
theorem dX11_areBad_61 : decode cX11_areBad 61 = .ok (.aload_n 0, 1) := by decide +kernel
theorem dX11_areBad_62 : decode cX11_areBad 62 = .ok (.getfield 13, 3) := by decide +kernel
theorem dX11_areBad_65 : decode cX11_areBad 65 = .ok (.sipush 1024, 3) := by decide +kernel
theorem dX11_areBad_68 : decode cX11_areBad 68 = .ok (.iload_n 1, 1) := by decide +kernel
theorem dX11_areBad_69 : decode cX11_areBad 69 = .ok (.imul, 1) := by decide +kernel
theorem dX11_areBad_70 : decode cX11_areBad 70 = .ok (.iload_n 3, 1) := by decide +kernel
theorem dX11_areBad_71 : decode cX11_areBad 71 = .ok (.iload 4, 2) := by decide +kernel
theorem dX11_areBad_73 : decode cX11_areBad 73 = .ok (.ior, 1) := by decide +kernel
theorem dX11_areBad_74 : decode cX11_areBad 74 = .ok (.iadd, 1) := by decide +kernel
theorem dX11_areBad_75 : decode cX11_areBad 75 = .ok (.baload, 1) := by decide +kernel
theorem dX11_areBad_76 : decode cX11_areBad 76 = .ok (.ifCond .ne 7, 3) := by decide +kernel
theorem dX11_areBad_79 : decode cX11_areBad 79 = .ok (.iconst 1, 1) := by decide +kernel
theorem dX11_areBad_80 : decode cX11_areBad 80 = .ok (.goto 4, 3) := by decide +kernel
theorem dX11_areBad_83 : decode cX11_areBad 83 = .ok (.iconst 0, 1) := by decide +kernel
theorem dX11_areBad_84 : decode cX11_areBad 84 = .ok (.ireturn, 1) := by decide +kernel
theorem dX11_areBad_85 : decode cX11_areBad 85 = .ok (.aload_n 0, 1) := by decide +kernel
theorem dX11_areBad_86 : decode cX11_areBad 86 = .ok (.getfield 13, 3) := by decide +kernel
theorem dX11_areBad_89 : decode cX11_areBad 89 = .ok (.sipush 1024, 3) := by decide +kernel
theorem dX11_areBad_92 : decode cX11_areBad 92 = .ok (.iload_n 1, 1) := by decide +kernel
theorem dX11_areBad_93 : decode cX11_areBad 93 = .ok (.imul, 1) := by decide +kernel
theorem dX11_areBad_94 : decode cX11_areBad 94 = .ok (.iload_n 3, 1) := by decide +kernel
theorem dX11_areBad_95 : decode cX11_areBad 95 = .ok (.iload 4, 2) := by decide +kernel
theorem dX11_areBad_97 : decode cX11_areBad 97 = .ok (.iand, 1) := by decide +kernel
theorem dX11_areBad_98 : decode cX11_areBad 98 = .ok (.iadd, 1) := by decide +kernel
theorem dX11_areBad_99 : decode cX11_areBad 99 = .ok (.baload, 1) := by decide +kernel
theorem dX11_areBad_100 : decode cX11_areBad 100 = .ok (.ifCond .ne 7, 3) := by decide +kernel
theorem dX11_areBad_103 : decode cX11_areBad 103 = .ok (.iconst 1, 1) := by decide +kernel
theorem dX11_areBad_104 : decode cX11_areBad 104 = .ok (.goto 4, 3) := by decide +kernel
theorem dX11_areBad_107 : decode cX11_areBad 107 = .ok (.iconst 0, 1) := by decide +kernel
theorem dX11_areBad_108 : decode cX11_areBad 108 = .ok (.ireturn, 1) := by decide +kernel
theorem dX11_isBad_0 : decode cX11_isBad 0 = .ok (.iconst 0, 1) := by decide +kernel
theorem dX11_isBad_1 : decode cX11_isBad 1 = .ok (.istore 4, 2) := by decide +kernel
theorem dX11_isBad_3 : decode cX11_isBad 3 = .ok (.iconst 0, 1) := by decide +kernel
theorem dX11_isBad_4 : decode cX11_isBad 4 = .ok (.istore 5, 2) := by decide +kernel
theorem dX11_isBad_6 : decode cX11_isBad 6 = .ok (.iload 5, 2) := by decide +kernel
theorem dX11_isBad_8 : decode cX11_isBad 8 = .ok (.aload_n 0, 1) := by decide +kernel
theorem dX11_isBad_9 : decode cX11_isBad 9 = .ok (.getfield 7, 3) := by decide +kernel
theorem dX11_isBad_12 : decode cX11_isBad 12 = .ok (.if_icmp .ge 140, 3) := by decide +kernel
theorem dX11_isBad_15 : decode cX11_isBad 15 = .ok (.iload_n 3, 1) := by decide +kernel
theorem dX11_isBad_16 : decode cX11_isBad 16 = .ok (.iload 5, 2) := by decide +kernel
theorem dX11_isBad_18 : decode cX11_isBad 18 = .ok (.ishr, 1) := by decide +kernel
theorem dX11_isBad_19 : decode cX11_isBad 19 = .ok (.iconst 1, 1) := by decide +kernel
theorem dX11_isBad_20 : decode cX11_isBad 20 = .ok (.iand, 1) := by decide +kernel
theorem dX11_isBad_21 : decode cX11_isBad 21 = .ok (.iconst 1, 1) := by decide +kernel
theorem dX11_isBad_22 : decode cX11_isBad 22 = .ok (.if_icmp .ne 7, 3) := by decide +kernel
theorem dX11_isBad_25 : decode cX11_isBad 25 = .ok (.iconst 1, 1) := by decide +kernel
theorem dX11_isBad_26 : decode cX11_isBad 26 = .ok (.goto 4, 3) := by decide +kernel
theorem dX11_isBad_29 : decode cX11_isBad 29 = .ok (.iconst 0, 1) := by decide +kernel
theorem dX11_isBad_30 : decode cX11_isBad 30 = .ok (.istore 6, 2) := by decide +kernel
theorem dX11_isBad_32 : decode cX11_isBad 32 = .ok (.iload 4, 2) := by decide +kernel
theorem dX11_isBad_34 : decode cX11_isBad 34 = .ok (.ifCond .ne 33, 3) := by decide +kernel
theorem dX11_isBad_37 : decode cX11_isBad 37 = .ok (.iload_n 2, 1) := by decide +kernel
theorem dX11_isBad_38 : decode cX11_isBad 38 = .ok (.iconst 4, 1) := by decide +kernel
theorem dX11_isBad_39 : decode cX11_isBad 39 = .ok (.if_icmp .ne 32, 3) := by decide +kernel
theorem dX11_isBad_42 : decode cX11_isBad 42 = .ok (.iload 6, 2) := by decide +kernel
theorem dX11_isBad_44 : decode cX11_isBad 44 = .ok (.ifCond .eq 27, 3) := by decide +kernel
theorem dX11_isBad_47 : decode cX11_isBad 47 = .ok (.aload_n 0, 1) := by decide +kernel
theorem dX11_isBad_48 : decode cX11_isBad 48 = .ok (.getfield 13, 3) := by decide +kernel
theorem dX11_isBad_51 : decode cX11_isBad 51 = .ok (.sipush 1024, 3) := by decide +kernel
theorem dX11_isBad_54 : decode cX11_isBad 54 = .ok (.iload_n 1, 1) := by decide +kernel
theorem dX11_isBad_55 : decode cX11_isBad 55 = .ok (.imul, 1) := by decide +kernel
theorem dX11_isBad_56 : decode cX11_isBad 56 = .ok (.iload_n 3, 1) := by decide +kernel
theorem dX11_isBad_57 : decode cX11_isBad 57 = .ok (.iconst 1, 1) := by decide +kernel
theorem dX11_isBad_58 : decode cX11_isBad 58 = .ok (.iload 5, 2) := by decide +kernel
theorem dX11_isBad_60 : decode cX11_isBad 60 = .ok (.ishl, 1) := by decide +kernel
theorem dX11_isBad_61 : decode cX11_isBad 61 = .ok (.ixor, 1) := by decide +kernel
theorem dX11_isBad_62 : decode cX11_isBad 62 = .ok (.iadd, 1) := by decide +kernel
theorem dX11_isBad_63 : decode cX11_isBad 63 = .ok (.baload, 1) := by decide +kernel
theorem dX11_isBad_64 : decode cX11_isBad 64 = .ok (.ifCond .ne 7, 3) := by decide +kernel
theorem dX11_isBad_67 : decode cX11_isBad 67 = .ok (.iconst 1, 1) := by decide +kernel
theorem dX11_isBad_68 : decode cX11_isBad 68 = .ok (.goto 4, 3) := by decide +kernel
theorem dX11_isBad_71 : decode cX11_isBad 71 = .ok (.iconst 0, 1) := by decide +kernel
theorem dX11_isBad_72 : decode cX11_isBad 72 = .ok (.istore 4, 2) := by decide +kernel
theorem dX11_isBad_74 : decode cX11_isBad 74 = .ok (.iconst 0, 1) := by decide +kernel
theorem dX11_isBad_75 : decode cX11_isBad 75 = .ok (.istore 7, 2) := by decide +kernel
theorem dX11_isBad_77 : decode cX11_isBad 77 = .ok (.iload 7, 2) := by decide +kernel
theorem dX11_isBad_79 : decode cX11_isBad 79 = .ok (.iload 5, 2) := by decide +kernel
theorem dX11_isBad_81 : decode cX11_isBad 81 = .ok (.if_icmp .ge 65, 3) := by decide +kernel
theorem dX11_isBad_84 : decode cX11_isBad 84 = .ok (.iload_n 2, 1) := by decide +kernel
theorem dX11_isBad_85 : decode cX11_isBad 85 = .ok (.iconst 5, 1) := by decide +kernel
theorem dX11_isBad_86 : decode cX11_isBad 86 = .ok (.if_icmp .ne 60, 3) := by decide +kernel
theorem dX11_isBad_89 : decode cX11_isBad 89 = .ok (.iload 4, 2) := by decide +kernel
theorem dX11_isBad_91 : decode cX11_isBad 91 = .ok (.ifCond .ne 42, 3) := by decide +kernel
theorem dX11_isBad_94 : decode cX11_isBad 94 = .ok (.iload 6, 2) := by decide +kernel
theorem dX11_isBad_96 : decode cX11_isBad 96 = .ok (.ifCond .eq 41, 3) := by decide +kernel
theorem dX11_isBad_99 : decode cX11_isBad 99 = .ok (.iload_n 3, 1) := by decide +kernel
theorem dX11_isBad_100 : decode cX11_isBad 100 = .ok (.iload 7, 2) := by decide +kernel
theorem dX11_isBad_102 : decode cX11_isBad 102 = .ok (.ishr, 1) := by decide +kernel
theorem dX11_isBad_103 : decode cX11_isBad 103 = .ok (.iconst 1, 1) := by decide +kernel
theorem dX11_isBad_104 : decode cX11_isBad 104 = .ok (.iand, 1) := by decide +kernel
theorem dX11_isBad_105 : decode cX11_isBad 105 = .ok (.ifCond .ne 32, 3) := by decide +kernel
theorem dX11_isBad_108 : decode cX11_isBad 108 = .ok (.aload_n 0, 1) := by decide +kernel
theorem dX11_isBad_109 : decode cX11_isBad 109 = .ok (.getfield 13, 3) := by decide +kernel
theorem dX11_isBad_112 : decode cX11_isBad 112 = .ok (.sipush 1024, 3) := by decide +kernel
theorem dX11_isBad_115 : decode cX11_isBad 115 = .ok (.iload_n 1, 1) := by decide +kernel
theorem dX11_isBad_116 : decode cX11_isBad 116 = .ok (.imul, 1) := by decide +kernel
theorem dX11_isBad_117 : decode cX11_isBad 117 = .ok (.iload_n 3, 1) := by decide +kernel
theorem dX11_isBad_118 : decode cX11_isBad 118 = .ok (.iconst 1, 1) := by decide +kernel
theorem dX11_isBad_119 : decode cX11_isBad 119 = .ok (.iload 5, 2) := by decide +kernel
theorem dX11_isBad_121 : decode cX11_isBad 121 = .ok (.ishl, 1) := by decide +kernel
theorem dX11_isBad_122 : decode cX11_isBad 122 = .ok (.ixor, 1) := by decide +kernel
theorem dX11_isBad_123 : decode cX11_isBad 123 = .ok (.iconst 1, 1) := by decide +kernel
theorem dX11_isBad_124 : decode cX11_isBad 124 = .ok (.iload 7, 2) := by decide +kernel
theorem dX11_isBad_126 : decode cX11_isBad 126 = .ok (.ishl, 1) := by decide +kernel
theorem dX11_isBad_127 : decode cX11_isBad 127 = .ok (.ixor, 1) := by decide +kernel
theorem dX11_isBad_128 : decode cX11_isBad 128 = .ok (.iadd, 1) := by decide +kernel
theorem dX11_isBad_129 : decode cX11_isBad 129 = .ok (.baload, 1) := by decide +kernel
theorem dX11_isBad_130 : decode cX11_isBad 130 = .ok (.ifCond .ne 7, 3) := by decide +kernel
theorem dX11_isBad_133 : decode cX11_isBad 133 = .ok (.iconst 1, 1) := by decide +kernel
theorem dX11_isBad_134 : decode cX11_isBad 134 = .ok (.goto 4, 3) := by decide +kernel
theorem dX11_isBad_137 : decode cX11_isBad 137 = .ok (.iconst 0, 1) := by decide +kernel
theorem dX11_isBad_138 : decode cX11_isBad 138 = .ok (.istore 4, 2) := by decide +kernel
theorem dX11_isBad_140 : decode cX11_isBad 140 = .ok (.iinc 7 1, 3) := by decide +kernel
theorem dX11_isBad_143 : decode cX11_isBad 143 = .ok (.goto (-66), 3) := by decide +kernel
theorem dX11_isBad_146 : decode cX11_isBad 146 = .ok (.iinc 5 1, 3) := by decide +kernel
theorem dX11_isBad_149 : decode cX11_isBad 149 = .ok (.goto (-143), 3) := by decide +kernel
theorem dX11_isBad_152 : decode cX11_isBad 152 = .ok (.iload 4, 2) := by decide +kernel
theorem dX11_isBad_154 : decode cX11_isBad 154 = .ok (.ireturn, 1) := by decide +kernel
theorem dX11_holds_0 : decode cX11_holds 0 = .ok (.iconst 1, 1) := by decide +kernel
theorem dX11_holds_1 : decode cX11_holds 1 = .ok (.istore_n 3, 1) := by decide +kernel
theorem dX11_holds_2 : decode cX11_holds 2 = .ok (.iconst 0, 1) := by decide +kernel
theorem dX11_holds_3 : decode cX11_holds 3 = .ok (.istore 4, 2) := by decide +kernel
theorem dX11_holds_5 : decode cX11_holds 5 = .ok (.iload 4, 2) := by decide +kernel
theorem dX11_holds_7 : decode cX11_holds 7 = .ok (.aload_n 0, 1) := by decide +kernel
theorem dX11_holds_8 : decode cX11_holds 8 = .ok (.invokevirtual 47, 3) := by decide +kernel
theorem dX11_holds_11 : decode cX11_holds 11 = .ok (.if_icmp .ge 117, 3) := by decide +kernel
theorem dX11_holds_14 : decode cX11_holds 14 = .ok (.aload_n 0, 1) := by decide +kernel
theorem dX11_holds_15 : decode cX11_holds 15 = .ok (.getfield 13, 3) := by decide +kernel
theorem dX11_holds_18 : decode cX11_holds 18 = .ok (.sipush 1024, 3) := by decide +kernel
theorem dX11_holds_21 : decode cX11_holds 21 = .ok (.iload_n 1, 1) := by decide +kernel
theorem dX11_holds_22 : decode cX11_holds 22 = .ok (.imul, 1) := by decide +kernel
theorem dX11_holds_23 : decode cX11_holds 23 = .ok (.iload 4, 2) := by decide +kernel
theorem dX11_holds_25 : decode cX11_holds 25 = .ok (.iadd, 1) := by decide +kernel
theorem dX11_holds_26 : decode cX11_holds 26 = .ok (.baload, 1) := by decide +kernel
theorem dX11_holds_27 : decode cX11_holds 27 = .ok (.ifCond .eq 95, 3) := by decide +kernel
theorem dX11_holds_30 : decode cX11_holds 30 = .ok (.iload_n 3, 1) := by decide +kernel
theorem dX11_holds_31 : decode cX11_holds 31 = .ok (.ifCond .eq 91, 3) := by decide +kernel
theorem dX11_holds_34 : decode cX11_holds 34 = .ok (.iconst 0, 1) := by decide +kernel
theorem dX11_holds_35 : decode cX11_holds 35 = .ok (.istore 5, 2) := by decide +kernel
theorem dX11_holds_37 : decode cX11_holds 37 = .ok (.iload 5, 2) := by decide +kernel
theorem dX11_holds_39 : decode cX11_holds 39 = .ok (.aload_n 0, 1) := by decide +kernel
theorem dX11_holds_40 : decode cX11_holds 40 = .ok (.invokevirtual 47, 3) := by decide +kernel
theorem dX11_holds_43 : decode cX11_holds 43 = .ok (.if_icmp .ge 53, 3) := by decide +kernel
theorem dX11_holds_46 : decode cX11_holds 46 = .ok (.iload_n 2, 1) := by decide +kernel
theorem dX11_holds_47 : decode cX11_holds 47 = .ok (.iconst 4, 1) := by decide +kernel
theorem dX11_holds_48 : decode cX11_holds 48 = .ok (.if_icmp .ge 48, 3) := by decide +kernel
theorem dX11_holds_51 : decode cX11_holds 51 = .ok (.iload_n 3, 1) := by decide +kernel
theorem dX11_holds_52 : decode cX11_holds 52 = .ok (.ifCond .eq 36, 3) := by decide +kernel
theorem dX11_holds_55 : decode cX11_holds 55 = .ok (.aload_n 0, 1) := by decide +kernel
theorem dX11_holds_56 : decode cX11_holds 56 = .ok (.getfield 13, 3) := by decide +kernel
theorem dX11_holds_59 : decode cX11_holds 59 = .ok (.sipush 1024, 3) := by decide +kernel
theorem dX11_holds_62 : decode cX11_holds 62 = .ok (.iload_n 1, 1) := by decide +kernel
theorem dX11_holds_63 : decode cX11_holds 63 = .ok (.imul, 1) := by decide +kernel
theorem dX11_holds_64 : decode cX11_holds 64 = .ok (.iload 5, 2) := by decide +kernel
theorem dX11_holds_66 : decode cX11_holds 66 = .ok (.iadd, 1) := by decide +kernel
theorem dX11_holds_67 : decode cX11_holds 67 = .ok (.baload, 1) := by decide +kernel
theorem dX11_holds_68 : decode cX11_holds 68 = .ok (.ifCond .eq 16, 3) := by decide +kernel
theorem dX11_holds_71 : decode cX11_holds 71 = .ok (.aload_n 0, 1) := by decide +kernel
theorem dX11_holds_72 : decode cX11_holds 72 = .ok (.iload_n 1, 1) := by decide +kernel
theorem dX11_holds_73 : decode cX11_holds 73 = .ok (.iload_n 2, 1) := by decide +kernel
theorem dX11_holds_74 : decode cX11_holds 74 = .ok (.iload 4, 2) := by decide +kernel
theorem dX11_holds_76 : decode cX11_holds 76 = .ok (.iload 5, 2) := by decide +kernel
theorem dX11_holds_78 : decode cX11_holds 78 = .ok (.invokevirtual 128, 3) := by decide +kernel
theorem dX11_holds_81 : decode cX11_holds 81 = .ok (.ifCond .ne 7, 3) := by decide +kernel
theorem dX11_holds_84 : decode cX11_holds 84 = .ok (.iconst 1, 1) := by decide +kernel
theorem dX11_holds_85 : decode cX11_holds 85 = .ok (.goto 4, 3) := by decide +kernel
theorem dX11_holds_88 : decode cX11_holds 88 = .ok (.iconst 0, 1) := by decide +kernel
theorem dX11_holds_89 : decode cX11_holds 89 = .ok (.istore_n 3, 1) := by decide +kernel
theorem dX11_holds_90 : decode cX11_holds 90 = .ok (.iinc 5 1, 3) := by decide +kernel
theorem dX11_holds_93 : decode cX11_holds 93 = .ok (.goto (-56), 3) := by decide +kernel
theorem dX11_holds_96 : decode cX11_holds 96 = .ok (.iload_n 3, 1) := by decide +kernel
theorem dX11_holds_97 : decode cX11_holds 97 = .ok (.ifCond .eq 23, 3) := by decide +kernel
theorem dX11_holds_100 : decode cX11_holds 100 = .ok (.iload_n 2, 1) := by decide +kernel
theorem dX11_holds_101 : decode cX11_holds 101 = .ok (.iconst 4, 1) := by decide +kernel
theorem dX11_holds_102 : decode cX11_holds 102 = .ok (.if_icmp .lt 14, 3) := by decide +kernel
theorem dX11_holds_105 : decode cX11_holds 105 = .ok (.aload_n 0, 1) := by decide +kernel
theorem dX11_holds_106 : decode cX11_holds 106 = .ok (.iload_n 1, 1) := by decide +kernel
theorem dX11_holds_107 : decode cX11_holds 107 = .ok (.iload_n 2, 1) := by decide +kernel
theorem dX11_holds_108 : decode cX11_holds 108 = .ok (.iload 4, 2) := by decide +kernel
theorem dX11_holds_110 : decode cX11_holds 110 = .ok (.invokevirtual 132, 3) := by decide +kernel
theorem dX11_holds_113 : decode cX11_holds 113 = .ok (.ifCond .ne 7, 3) := by decide +kernel
theorem dX11_holds_116 : decode cX11_holds 116 = .ok (.iconst 1, 1) := by decide +kernel
theorem dX11_holds_117 : decode cX11_holds 117 = .ok (.goto 4, 3) := by decide +kernel
theorem dX11_holds_120 : decode cX11_holds 120 = .ok (.iconst 0, 1) := by decide +kernel
theorem dX11_holds_121 : decode cX11_holds 121 = .ok (.istore_n 3, 1) := by decide +kernel
theorem dX11_holds_122 : decode cX11_holds 122 = .ok (.iinc 4 1, 3) := by decide +kernel
theorem dX11_holds_125 : decode cX11_holds 125 = .ok (.goto (-120), 3) := by decide +kernel
theorem dX11_holds_128 : decode cX11_holds 128 = .ok (.iload_n 3, 1) := by decide +kernel
theorem dX11_holds_129 : decode cX11_holds 129 = .ok (.ireturn, 1) := by decide +kernel
theorem dX11_is_0 : decode cX11_is 0 = .ok (.aload_n 0, 1) := by decide +kernel
theorem dX11_is_1 : decode cX11_is 1 = .ok (.iload_n 1, 1) := by decide +kernel
theorem dX11_is_2 : decode cX11_is 2 = .ok (.invokestatic 58, 3) := by decide +kernel
theorem dX11_is_5 : decode cX11_is 5 = .ok (.iload_n 2, 1) := by decide +kernel
theorem dX11_is_6 : decode cX11_is 6 = .ok (.iconst 0, 1) := by decide +kernel
theorem dX11_is_7 : decode cX11_is 7 = .ok (.iconst 5, 1) := by decide +kernel
theorem dX11_is_8 : decode cX11_is 8 = .ok (.invokestatic 43, 3) := by decide +kernel
theorem dX11_is_11 : decode cX11_is 11 = .ok (.invokevirtual 65, 3) := by decide +kernel
theorem dX11_is_14 : decode cX11_is 14 = .ok (.ifCond .eq 16, 3) := by decide +kernel
theorem dX11_is_17 : decode cX11_is 17 = .ok (.aload_n 0, 1) := by decide +kernel
theorem dX11_is_18 : decode cX11_is 18 = .ok (.iload_n 1, 1) := by decide +kernel
theorem dX11_is_19 : decode cX11_is 19 = .ok (.iload_n 2, 1) := by decide +kernel
theorem dX11_is_20 : decode cX11_is 20 = .ok (.invokevirtual 135, 3) := by decide +kernel
theorem dX11_is_23 : decode cX11_is 23 = .ok (.ifCond .eq 7, 3) := by decide +kernel
theorem dX11_is_26 : decode cX11_is 26 = .ok (.iconst 1, 1) := by decide +kernel
theorem dX11_is_27 : decode cX11_is 27 = .ok (.goto 4, 3) := by decide +kernel
theorem dX11_is_30 : decode cX11_is 30 = .ok (.iconst 0, 1) := by decide +kernel
theorem dX11_is_31 : decode cX11_is 31 = .ok (.ireturn, 1) := by decide +kernel
theorem dX11_divisor_0 : decode cX11_divisor 0 = .ok (.lload_n 0, 1) := by decide +kernel
theorem dX11_divisor_1 : decode cX11_divisor 1 = .ok (.lstore 4, 2) := by decide +kernel
theorem dX11_divisor_3 : decode cX11_divisor 3 = .ok (.lload_n 2, 1) := by decide +kernel
theorem dX11_divisor_4 : decode cX11_divisor 4 = .ok (.lstore 6, 2) := by decide +kernel
theorem dX11_divisor_6 : decode cX11_divisor 6 = .ok (.lload 6, 2) := by decide +kernel
theorem dX11_divisor_8 : decode cX11_divisor 8 = .ok (.lconst 0, 1) := by decide +kernel
theorem dX11_divisor_9 : decode cX11_divisor 9 = .ok (.lcmp, 1) := by decide +kernel
theorem dX11_divisor_10 : decode cX11_divisor 10 = .ok (.ifCond .eq 21, 3) := by decide +kernel
theorem dX11_divisor_13 : decode cX11_divisor 13 = .ok (.lload 4, 2) := by decide +kernel
theorem dX11_divisor_15 : decode cX11_divisor 15 = .ok (.lload 6, 2) := by decide +kernel
theorem dX11_divisor_17 : decode cX11_divisor 17 = .ok (.lrem, 1) := by decide +kernel
theorem dX11_divisor_18 : decode cX11_divisor 18 = .ok (.lstore 8, 2) := by decide +kernel
theorem dX11_divisor_20 : decode cX11_divisor 20 = .ok (.lload 6, 2) := by decide +kernel
theorem dX11_divisor_22 : decode cX11_divisor 22 = .ok (.lstore 4, 2) := by decide +kernel
theorem dX11_divisor_24 : decode cX11_divisor 24 = .ok (.lload 8, 2) := by decide +kernel
theorem dX11_divisor_26 : decode cX11_divisor 26 = .ok (.lstore 6, 2) := by decide +kernel
theorem dX11_divisor_28 : decode cX11_divisor 28 = .ok (.goto (-22), 3) := by decide +kernel
theorem dX11_divisor_31 : decode cX11_divisor 31 = .ok (.lload 4, 2) := by decide +kernel
theorem dX11_divisor_33 : decode cX11_divisor 33 = .ok (.lreturn, 1) := by decide +kernel
theorem dX11_weighs_0 : decode cX11_weighs 0 = .ok (.aload_n 0, 1) := by decide +kernel
theorem dX11_weighs_1 : decode cX11_weighs 1 = .ok (.lconst 0, 1) := by decide +kernel
theorem dX11_weighs_2 : decode cX11_weighs 2 = .ok (.putfield 138, 3) := by decide +kernel
theorem dX11_weighs_5 : decode cX11_weighs 5 = .ok (.aload_n 0, 1) := by decide +kernel
theorem dX11_weighs_6 : decode cX11_weighs 6 = .ok (.lconst 1, 1) := by decide +kernel
theorem dX11_weighs_7 : decode cX11_weighs 7 = .ok (.putfield 142, 3) := by decide +kernel
theorem dX11_weighs_10 : decode cX11_weighs 10 = .ok (.iconst 0, 1) := by decide +kernel
theorem dX11_weighs_11 : decode cX11_weighs 11 = .ok (.istore_n 2, 1) := by decide +kernel
theorem dX11_weighs_12 : decode cX11_weighs 12 = .ok (.iload_n 2, 1) := by decide +kernel
theorem dX11_weighs_13 : decode cX11_weighs 13 = .ok (.aload_n 0, 1) := by decide +kernel
theorem dX11_weighs_14 : decode cX11_weighs 14 = .ok (.getfield 7, 3) := by decide +kernel
theorem dX11_weighs_17 : decode cX11_weighs 17 = .ok (.if_icmp .gt 86, 3) := by decide +kernel
theorem dX11_weighs_20 : decode cX11_weighs 20 = .ok (.aload_n 0, 1) := by decide +kernel
theorem dX11_weighs_21 : decode cX11_weighs 21 = .ok (.getfield 7, 3) := by decide +kernel
theorem dX11_weighs_24 : decode cX11_weighs 24 = .ok (.iload_n 2, 1) := by decide +kernel
theorem dX11_weighs_25 : decode cX11_weighs 25 = .ok (.invokestatic 114, 3) := by decide +kernel
theorem dX11_weighs_28 : decode cX11_weighs 28 = .ok (.lstore_n 3, 1) := by decide +kernel
theorem dX11_weighs_29 : decode cX11_weighs 29 = .ok (.aload_n 0, 1) := by decide +kernel
theorem dX11_weighs_30 : decode cX11_weighs 30 = .ok (.aload_n 0, 1) := by decide +kernel
theorem dX11_weighs_31 : decode cX11_weighs 31 = .ok (.getfield 138, 3) := by decide +kernel
theorem dX11_weighs_34 : decode cX11_weighs 34 = .ok (.lload_n 3, 1) := by decide +kernel
theorem dX11_weighs_35 : decode cX11_weighs 35 = .ok (.lmul, 1) := by decide +kernel
theorem dX11_weighs_36 : decode cX11_weighs 36 = .ok (.aload_n 0, 1) := by decide +kernel
theorem dX11_weighs_37 : decode cX11_weighs 37 = .ok (.iload_n 1, 1) := by decide +kernel
theorem dX11_weighs_38 : decode cX11_weighs 38 = .ok (.iload_n 2, 1) := by decide +kernel
theorem dX11_weighs_39 : decode cX11_weighs 39 = .ok (.invokevirtual 73, 3) := by decide +kernel
theorem dX11_weighs_42 : decode cX11_weighs 42 = .ok (.i2l, 1) := by decide +kernel
theorem dX11_weighs_43 : decode cX11_weighs 43 = .ok (.aload_n 0, 1) := by decide +kernel
theorem dX11_weighs_44 : decode cX11_weighs 44 = .ok (.getfield 142, 3) := by decide +kernel
theorem dX11_weighs_47 : decode cX11_weighs 47 = .ok (.lmul, 1) := by decide +kernel
theorem dX11_weighs_48 : decode cX11_weighs 48 = .ok (.ladd, 1) := by decide +kernel
theorem dX11_weighs_49 : decode cX11_weighs 49 = .ok (.putfield 138, 3) := by decide +kernel
theorem dX11_weighs_52 : decode cX11_weighs 52 = .ok (.aload_n 0, 1) := by decide +kernel
theorem dX11_weighs_53 : decode cX11_weighs 53 = .ok (.aload_n 0, 1) := by decide +kernel
theorem dX11_weighs_54 : decode cX11_weighs 54 = .ok (.getfield 142, 3) := by decide +kernel
theorem dX11_weighs_57 : decode cX11_weighs 57 = .ok (.lload_n 3, 1) := by decide +kernel
theorem dX11_weighs_58 : decode cX11_weighs 58 = .ok (.lmul, 1) := by decide +kernel
theorem dX11_weighs_59 : decode cX11_weighs 59 = .ok (.putfield 142, 3) := by decide +kernel
theorem dX11_weighs_62 : decode cX11_weighs 62 = .ok (.aload_n 0, 1) := by decide +kernel
theorem dX11_weighs_63 : decode cX11_weighs 63 = .ok (.getfield 142, 3) := by decide +kernel
theorem dX11_weighs_66 : decode cX11_weighs 66 = .ok (.aload_n 0, 1) := by decide +kernel
theorem dX11_weighs_67 : decode cX11_weighs 67 = .ok (.getfield 138, 3) := by decide +kernel
theorem dX11_weighs_70 : decode cX11_weighs 70 = .ok (.invokestatic 145, 3) := by decide +kernel
theorem dX11_weighs_73 : decode cX11_weighs 73 = .ok (.lstore 5, 2) := by decide +kernel
theorem dX11_weighs_75 : decode cX11_weighs 75 = .ok (.aload_n 0, 1) := by decide +kernel
theorem dX11_weighs_76 : decode cX11_weighs 76 = .ok (.dup, 1) := by decide +kernel
theorem dX11_weighs_77 : decode cX11_weighs 77 = .ok (.getfield 138, 3) := by decide +kernel
theorem dX11_weighs_80 : decode cX11_weighs 80 = .ok (.lload 5, 2) := by decide +kernel
theorem dX11_weighs_82 : decode cX11_weighs 82 = .ok (.ldiv, 1) := by decide +kernel
theorem dX11_weighs_83 : decode cX11_weighs 83 = .ok (.putfield 138, 3) := by decide +kernel
theorem dX11_weighs_86 : decode cX11_weighs 86 = .ok (.aload_n 0, 1) := by decide +kernel
theorem dX11_weighs_87 : decode cX11_weighs 87 = .ok (.dup, 1) := by decide +kernel
theorem dX11_weighs_88 : decode cX11_weighs 88 = .ok (.getfield 142, 3) := by decide +kernel
theorem dX11_weighs_91 : decode cX11_weighs 91 = .ok (.lload 5, 2) := by decide +kernel
theorem dX11_weighs_93 : decode cX11_weighs 93 = .ok (.ldiv, 1) := by decide +kernel
theorem dX11_weighs_94 : decode cX11_weighs 94 = .ok (.putfield 142, 3) := by decide +kernel
theorem dX11_weighs_97 : decode cX11_weighs 97 = .ok (.iinc 2 1, 3) := by decide +kernel
theorem dX11_weighs_100 : decode cX11_weighs 100 = .ok (.goto (-88), 3) := by decide +kernel
theorem dX11_weighs_103 : decode cX11_weighs 103 = .ok (.return_, 1) := by decide +kernel
theorem dX11_weight_0 : decode cX11_weight 0 = .ok (.aload_n 0, 1) := by decide +kernel
theorem dX11_weight_1 : decode cX11_weight 1 = .ok (.iload_n 1, 1) := by decide +kernel
theorem dX11_weight_2 : decode cX11_weight 2 = .ok (.invokestatic 58, 3) := by decide +kernel
theorem dX11_weight_5 : decode cX11_weight 5 = .ok (.iconst 1, 1) := by decide +kernel
theorem dX11_weight_6 : decode cX11_weight 6 = .ok (.invokevirtual 65, 3) := by decide +kernel
theorem dX11_weight_9 : decode cX11_weight 9 = .ok (.ifCond .ne 5, 3) := by decide +kernel
theorem dX11_weight_12 : decode cX11_weight 12 = .ok (.lconst 0, 1) := by decide +kernel
theorem dX11_weight_13 : decode cX11_weight 13 = .ok (.lreturn, 1) := by decide +kernel
theorem dX11_weight_14 : decode cX11_weight 14 = .ok (.aload_n 0, 1) := by decide +kernel
theorem dX11_weight_15 : decode cX11_weight 15 = .ok (.iload_n 1, 1) := by decide +kernel
theorem dX11_weight_16 : decode cX11_weight 16 = .ok (.invokevirtual 149, 3) := by decide +kernel
theorem dX11_weight_19 : decode cX11_weight 19 = .ok (.iload_n 2, 1) := by decide +kernel
theorem dX11_weight_20 : decode cX11_weight 20 = .ok (.ifCond .eq 10, 3) := by decide +kernel
theorem dX11_weight_23 : decode cX11_weight 23 = .ok (.aload_n 0, 1) := by decide +kernel
theorem dX11_weight_24 : decode cX11_weight 24 = .ok (.getfield 142, 3) := by decide +kernel
theorem dX11_weight_27 : decode cX11_weight 27 = .ok (.goto 7, 3) := by decide +kernel
theorem dX11_weight_30 : decode cX11_weight 30 = .ok (.aload_n 0, 1) := by decide +kernel
theorem dX11_weight_31 : decode cX11_weight 31 = .ok (.getfield 138, 3) := by decide +kernel
theorem dX11_weight_34 : decode cX11_weight 34 = .ok (.lreturn, 1) := by decide +kernel
theorem dX11_shatters_0 : decode cX11_shatters 0 = .ok (.aload_n 0, 1) := by decide +kernel
theorem dX11_shatters_1 : decode cX11_shatters 1 = .ok (.dup, 1) := by decide +kernel
theorem dX11_shatters_2 : decode cX11_shatters 2 = .ok (.getfield 153, 3) := by decide +kernel
theorem dX11_shatters_5 : decode cX11_shatters 5 = .ok (.iconst 1, 1) := by decide +kernel
theorem dX11_shatters_6 : decode cX11_shatters 6 = .ok (.iadd, 1) := by decide +kernel
theorem dX11_shatters_7 : decode cX11_shatters 7 = .ok (.putfield 153, 3) := by decide +kernel
theorem dX11_shatters_10 : decode cX11_shatters 10 = .ok (.iconst 0, 1) := by decide +kernel
theorem dX11_shatters_11 : decode cX11_shatters 11 = .ok (.istore_n 3, 1) := by decide +kernel
theorem dX11_shatters_12 : decode cX11_shatters 12 = .ok (.iconst 0, 1) := by decide +kernel
theorem dX11_shatters_13 : decode cX11_shatters 13 = .ok (.istore 4, 2) := by decide +kernel
theorem dX11_shatters_15 : decode cX11_shatters 15 = .ok (.iload 4, 2) := by decide +kernel
theorem dX11_shatters_17 : decode cX11_shatters 17 = .ok (.aload_n 0, 1) := by decide +kernel
theorem dX11_shatters_18 : decode cX11_shatters 18 = .ok (.invokevirtual 47, 3) := by decide +kernel
theorem dX11_shatters_21 : decode cX11_shatters 21 = .ok (.if_icmp .ge 57, 3) := by decide +kernel
theorem dX11_shatters_24 : decode cX11_shatters 24 = .ok (.aload_n 0, 1) := by decide +kernel
theorem dX11_shatters_25 : decode cX11_shatters 25 = .ok (.getfield 13, 3) := by decide +kernel
theorem dX11_shatters_28 : decode cX11_shatters 28 = .ok (.sipush 1024, 3) := by decide +kernel
theorem dX11_shatters_31 : decode cX11_shatters 31 = .ok (.iload_n 1, 1) := by decide +kernel
theorem dX11_shatters_32 : decode cX11_shatters 32 = .ok (.imul, 1) := by decide +kernel
theorem dX11_shatters_33 : decode cX11_shatters 33 = .ok (.iload 4, 2) := by decide +kernel
theorem dX11_shatters_35 : decode cX11_shatters 35 = .ok (.iadd, 1) := by decide +kernel
theorem dX11_shatters_36 : decode cX11_shatters 36 = .ok (.baload, 1) := by decide +kernel
theorem dX11_shatters_37 : decode cX11_shatters 37 = .ok (.ifCond .eq 35, 3) := by decide +kernel
theorem dX11_shatters_40 : decode cX11_shatters 40 = .ok (.aload_n 0, 1) := by decide +kernel
theorem dX11_shatters_41 : decode cX11_shatters 41 = .ok (.getfield 31, 3) := by decide +kernel
theorem dX11_shatters_44 : decode cX11_shatters 44 = .ok (.iload 4, 2) := by decide +kernel
theorem dX11_shatters_46 : decode cX11_shatters 46 = .ok (.iload_n 2, 1) := by decide +kernel
theorem dX11_shatters_47 : decode cX11_shatters 47 = .ok (.iand, 1) := by decide +kernel
theorem dX11_shatters_48 : decode cX11_shatters 48 = .ok (.iaload, 1) := by decide +kernel
theorem dX11_shatters_49 : decode cX11_shatters 49 = .ok (.aload_n 0, 1) := by decide +kernel
theorem dX11_shatters_50 : decode cX11_shatters 50 = .ok (.getfield 153, 3) := by decide +kernel
theorem dX11_shatters_53 : decode cX11_shatters 53 = .ok (.if_icmp .eq 19, 3) := by decide +kernel
theorem dX11_shatters_56 : decode cX11_shatters 56 = .ok (.aload_n 0, 1) := by decide +kernel
theorem dX11_shatters_57 : decode cX11_shatters 57 = .ok (.getfield 31, 3) := by decide +kernel
theorem dX11_shatters_60 : decode cX11_shatters 60 = .ok (.iload 4, 2) := by decide +kernel
theorem dX11_shatters_62 : decode cX11_shatters 62 = .ok (.iload_n 2, 1) := by decide +kernel
theorem dX11_shatters_63 : decode cX11_shatters 63 = .ok (.iand, 1) := by decide +kernel
theorem dX11_shatters_64 : decode cX11_shatters 64 = .ok (.aload_n 0, 1) := by decide +kernel
theorem dX11_shatters_65 : decode cX11_shatters 65 = .ok (.getfield 153, 3) := by decide +kernel
theorem dX11_shatters_68 : decode cX11_shatters 68 = .ok (.iastore, 1) := by decide +kernel
theorem dX11_shatters_69 : decode cX11_shatters 69 = .ok (.iinc 3 1, 3) := by decide +kernel
theorem dX11_shatters_72 : decode cX11_shatters 72 = .ok (.iinc 4 1, 3) := by decide +kernel
theorem dX11_shatters_75 : decode cX11_shatters 75 = .ok (.goto (-60), 3) := by decide +kernel
theorem dX11_shatters_78 : decode cX11_shatters 78 = .ok (.iload_n 3, 1) := by decide +kernel
theorem dX11_shatters_79 : decode cX11_shatters 79 = .ok (.iconst 1, 1) := by decide +kernel
theorem dX11_shatters_80 : decode cX11_shatters 80 = .ok (.iload_n 2, 1) := by decide +kernel
theorem dX11_shatters_81 : decode cX11_shatters 81 = .ok (.invokestatic 51, 3) := by decide +kernel
theorem dX11_shatters_84 : decode cX11_shatters 84 = .ok (.ishl, 1) := by decide +kernel
theorem dX11_shatters_85 : decode cX11_shatters 85 = .ok (.if_icmp .ne 7, 3) := by decide +kernel
theorem dX11_shatters_88 : decode cX11_shatters 88 = .ok (.iconst 1, 1) := by decide +kernel
theorem dX11_shatters_89 : decode cX11_shatters 89 = .ok (.goto 4, 3) := by decide +kernel
theorem dX11_shatters_92 : decode cX11_shatters 92 = .ok (.iconst 0, 1) := by decide +kernel
theorem dX11_shatters_93 : decode cX11_shatters 93 = .ok (.ireturn, 1) := by decide +kernel
theorem dX11_firstShattered_0 : decode cX11_firstShattered 0 = .ok (.iconst (-1), 1) := by decide +kernel
theorem dX11_firstShattered_1 : decode cX11_firstShattered 1 = .ok (.istore_n 2, 1) := by decide +kernel
theorem dX11_firstShattered_2 : decode cX11_firstShattered 2 = .ok (.iconst 0, 1) := by decide +kernel
theorem dX11_firstShattered_3 : decode cX11_firstShattered 3 = .ok (.istore_n 3, 1) := by decide +kernel
theorem dX11_firstShattered_4 : decode cX11_firstShattered 4 = .ok (.iload_n 3, 1) := by decide +kernel
theorem dX11_firstShattered_5 : decode cX11_firstShattered 5 = .ok (.aload_n 0, 1) := by decide +kernel
theorem dX11_firstShattered_6 : decode cX11_firstShattered 6 = .ok (.invokevirtual 47, 3) := by decide +kernel
theorem dX11_firstShattered_9 : decode cX11_firstShattered 9 = .ok (.if_icmp .ge 40, 3) := by decide +kernel
theorem dX11_firstShattered_12 : decode cX11_firstShattered 12 = .ok (.iload_n 2, 1) := by decide +kernel
theorem dX11_firstShattered_13 : decode cX11_firstShattered 13 = .ok (.iconst (-1), 1) := by decide +kernel
theorem dX11_firstShattered_14 : decode cX11_firstShattered 14 = .ok (.if_icmp .eq 14, 3) := by decide +kernel
theorem dX11_firstShattered_17 : decode cX11_firstShattered 17 = .ok (.iload_n 3, 1) := by decide +kernel
theorem dX11_firstShattered_18 : decode cX11_firstShattered 18 = .ok (.invokestatic 51, 3) := by decide +kernel
theorem dX11_firstShattered_21 : decode cX11_firstShattered 21 = .ok (.iload_n 2, 1) := by decide +kernel
theorem dX11_firstShattered_22 : decode cX11_firstShattered 22 = .ok (.invokestatic 51, 3) := by decide +kernel
theorem dX11_firstShattered_25 : decode cX11_firstShattered 25 = .ok (.if_icmp .le 16, 3) := by decide +kernel
theorem dX11_firstShattered_28 : decode cX11_firstShattered 28 = .ok (.aload_n 0, 1) := by decide +kernel
theorem dX11_firstShattered_29 : decode cX11_firstShattered 29 = .ok (.iload_n 1, 1) := by decide +kernel
theorem dX11_firstShattered_30 : decode cX11_firstShattered 30 = .ok (.iload_n 3, 1) := by decide +kernel
theorem dX11_firstShattered_31 : decode cX11_firstShattered 31 = .ok (.invokevirtual 156, 3) := by decide +kernel
theorem dX11_firstShattered_34 : decode cX11_firstShattered 34 = .ok (.ifCond .eq 7, 3) := by decide +kernel
theorem dX11_firstShattered_37 : decode cX11_firstShattered 37 = .ok (.iload_n 3, 1) := by decide +kernel
theorem dX11_firstShattered_38 : decode cX11_firstShattered 38 = .ok (.goto 4, 3) := by decide +kernel
theorem dX11_firstShattered_41 : decode cX11_firstShattered 41 = .ok (.iload_n 2, 1) := by decide +kernel
theorem dX11_firstShattered_42 : decode cX11_firstShattered 42 = .ok (.istore_n 2, 1) := by decide +kernel
theorem dX11_firstShattered_43 : decode cX11_firstShattered 43 = .ok (.iinc 3 1, 3) := by decide +kernel
theorem dX11_firstShattered_46 : decode cX11_firstShattered 46 = .ok (.goto (-42), 3) := by decide +kernel
theorem dX11_firstShattered_49 : decode cX11_firstShattered 49 = .ok (.iload_n 2, 1) := by decide +kernel
theorem dX11_firstShattered_50 : decode cX11_firstShattered 50 = .ok (.ireturn, 1) := by decide +kernel
theorem dX11_dimension_0 : decode cX11_dimension 0 = .ok (.aload_n 0, 1) := by decide +kernel
theorem dX11_dimension_1 : decode cX11_dimension 1 = .ok (.iload_n 1, 1) := by decide +kernel
theorem dX11_dimension_2 : decode cX11_dimension 2 = .ok (.invokestatic 58, 3) := by decide +kernel
theorem dX11_dimension_5 : decode cX11_dimension 5 = .ok (.iconst 1, 1) := by decide +kernel
theorem dX11_dimension_6 : decode cX11_dimension 6 = .ok (.invokevirtual 65, 3) := by decide +kernel
theorem dX11_dimension_9 : decode cX11_dimension 9 = .ok (.ifCond .ne 5, 3) := by decide +kernel
theorem dX11_dimension_12 : decode cX11_dimension 12 = .ok (.iconst 0, 1) := by decide +kernel
theorem dX11_dimension_13 : decode cX11_dimension 13 = .ok (.ireturn, 1) := by decide +kernel
theorem dX11_dimension_14 : decode cX11_dimension 14 = .ok (.aload_n 0, 1) := by decide +kernel
theorem dX11_dimension_15 : decode cX11_dimension 15 = .ok (.iload_n 1, 1) := by decide +kernel
theorem dX11_dimension_16 : decode cX11_dimension 16 = .ok (.invokevirtual 159, 3) := by decide +kernel
theorem dX11_dimension_19 : decode cX11_dimension 19 = .ok (.istore_n 2, 1) := by decide +kernel
theorem dX11_dimension_20 : decode cX11_dimension 20 = .ok (.iload_n 2, 1) := by decide +kernel
theorem dX11_dimension_21 : decode cX11_dimension 21 = .ok (.iconst (-1), 1) := by decide +kernel
theorem dX11_dimension_22 : decode cX11_dimension 22 = .ok (.if_icmp .ne 7, 3) := by decide +kernel
theorem dX11_dimension_25 : decode cX11_dimension 25 = .ok (.iconst (-1), 1) := by decide +kernel
theorem dX11_dimension_26 : decode cX11_dimension 26 = .ok (.goto 7, 3) := by decide +kernel
theorem dX11_dimension_29 : decode cX11_dimension 29 = .ok (.iload_n 2, 1) := by decide +kernel
theorem dX11_dimension_30 : decode cX11_dimension 30 = .ok (.invokestatic 51, 3) := by decide +kernel
theorem dX11_dimension_33 : decode cX11_dimension 33 = .ok (.ireturn, 1) := by decide +kernel
theorem dX11_shattered_0 : decode cX11_shattered 0 = .ok (.aload_n 0, 1) := by decide +kernel
theorem dX11_shattered_1 : decode cX11_shattered 1 = .ok (.iload_n 1, 1) := by decide +kernel
theorem dX11_shattered_2 : decode cX11_shattered 2 = .ok (.invokestatic 58, 3) := by decide +kernel
theorem dX11_shattered_5 : decode cX11_shattered 5 = .ok (.iconst 1, 1) := by decide +kernel
theorem dX11_shattered_6 : decode cX11_shattered 6 = .ok (.invokevirtual 65, 3) := by decide +kernel
theorem dX11_shattered_9 : decode cX11_shattered 9 = .ok (.ifCond .eq 11, 3) := by decide +kernel
theorem dX11_shattered_12 : decode cX11_shattered 12 = .ok (.aload_n 0, 1) := by decide +kernel
theorem dX11_shattered_13 : decode cX11_shattered 13 = .ok (.iload_n 1, 1) := by decide +kernel
theorem dX11_shattered_14 : decode cX11_shattered 14 = .ok (.invokevirtual 159, 3) := by decide +kernel
theorem dX11_shattered_17 : decode cX11_shattered 17 = .ok (.goto 4, 3) := by decide +kernel
theorem dX11_shattered_20 : decode cX11_shattered 20 = .ok (.iconst 0, 1) := by decide +kernel
theorem dX11_shattered_21 : decode cX11_shattered 21 = .ok (.ireturn, 1) := by decide +kernel
theorem dX11_firstCrossing_0 : decode cX11_firstCrossing 0 = .ok (.iconst 0, 1) := by decide +kernel
theorem dX11_firstCrossing_1 : decode cX11_firstCrossing 1 = .ok (.istore_n 3, 1) := by decide +kernel
theorem dX11_firstCrossing_2 : decode cX11_firstCrossing 2 = .ok (.iload_n 3, 1) := by decide +kernel
theorem dX11_firstCrossing_3 : decode cX11_firstCrossing 3 = .ok (.aload_n 0, 1) := by decide +kernel
theorem dX11_firstCrossing_4 : decode cX11_firstCrossing 4 = .ok (.invokevirtual 47, 3) := by decide +kernel
theorem dX11_firstCrossing_7 : decode cX11_firstCrossing 7 = .ok (.if_icmp .ge 74, 3) := by decide +kernel
theorem dX11_firstCrossing_10 : decode cX11_firstCrossing 10 = .ok (.iconst 0, 1) := by decide +kernel
theorem dX11_firstCrossing_11 : decode cX11_firstCrossing 11 = .ok (.istore 4, 2) := by decide +kernel
theorem dX11_firstCrossing_13 : decode cX11_firstCrossing 13 = .ok (.iload 4, 2) := by decide +kernel
theorem dX11_firstCrossing_15 : decode cX11_firstCrossing 15 = .ok (.aload_n 0, 1) := by decide +kernel
theorem dX11_firstCrossing_16 : decode cX11_firstCrossing 16 = .ok (.invokevirtual 47, 3) := by decide +kernel
theorem dX11_firstCrossing_19 : decode cX11_firstCrossing 19 = .ok (.if_icmp .ge 56, 3) := by decide +kernel
theorem dX11_firstCrossing_22 : decode cX11_firstCrossing 22 = .ok (.aload_n 0, 1) := by decide +kernel
theorem dX11_firstCrossing_23 : decode cX11_firstCrossing 23 = .ok (.getfield 13, 3) := by decide +kernel
theorem dX11_firstCrossing_26 : decode cX11_firstCrossing 26 = .ok (.sipush 1024, 3) := by decide +kernel
theorem dX11_firstCrossing_29 : decode cX11_firstCrossing 29 = .ok (.iload_n 1, 1) := by decide +kernel
theorem dX11_firstCrossing_30 : decode cX11_firstCrossing 30 = .ok (.imul, 1) := by decide +kernel
theorem dX11_firstCrossing_31 : decode cX11_firstCrossing 31 = .ok (.iload_n 3, 1) := by decide +kernel
theorem dX11_firstCrossing_32 : decode cX11_firstCrossing 32 = .ok (.iadd, 1) := by decide +kernel
theorem dX11_firstCrossing_33 : decode cX11_firstCrossing 33 = .ok (.baload, 1) := by decide +kernel
theorem dX11_firstCrossing_34 : decode cX11_firstCrossing 34 = .ok (.ifCond .eq 41, 3) := by decide +kernel
theorem dX11_firstCrossing_37 : decode cX11_firstCrossing 37 = .ok (.aload_n 0, 1) := by decide +kernel
theorem dX11_firstCrossing_38 : decode cX11_firstCrossing 38 = .ok (.getfield 13, 3) := by decide +kernel
theorem dX11_firstCrossing_41 : decode cX11_firstCrossing 41 = .ok (.sipush 1024, 3) := by decide +kernel
theorem dX11_firstCrossing_44 : decode cX11_firstCrossing 44 = .ok (.iload_n 2, 1) := by decide +kernel
theorem dX11_firstCrossing_45 : decode cX11_firstCrossing 45 = .ok (.imul, 1) := by decide +kernel
theorem dX11_firstCrossing_46 : decode cX11_firstCrossing 46 = .ok (.iload 4, 2) := by decide +kernel
theorem dX11_firstCrossing_48 : decode cX11_firstCrossing 48 = .ok (.iadd, 1) := by decide +kernel
theorem dX11_firstCrossing_49 : decode cX11_firstCrossing 49 = .ok (.baload, 1) := by decide +kernel
theorem dX11_firstCrossing_50 : decode cX11_firstCrossing 50 = .ok (.ifCond .eq 19, 3) := by decide +kernel
theorem dX11_firstCrossing_53 : decode cX11_firstCrossing 53 = .ok (.iload_n 3, 1) := by decide +kernel
theorem dX11_firstCrossing_54 : decode cX11_firstCrossing 54 = .ok (.iload 4, 2) := by decide +kernel
theorem dX11_firstCrossing_56 : decode cX11_firstCrossing 56 = .ok (.iand, 1) := by decide +kernel
theorem dX11_firstCrossing_57 : decode cX11_firstCrossing 57 = .ok (.ifCond .ne 12, 3) := by decide +kernel
theorem dX11_firstCrossing_60 : decode cX11_firstCrossing 60 = .ok (.sipush 1024, 3) := by decide +kernel
theorem dX11_firstCrossing_63 : decode cX11_firstCrossing 63 = .ok (.iload_n 3, 1) := by decide +kernel
theorem dX11_firstCrossing_64 : decode cX11_firstCrossing 64 = .ok (.imul, 1) := by decide +kernel
theorem dX11_firstCrossing_65 : decode cX11_firstCrossing 65 = .ok (.iload 4, 2) := by decide +kernel
theorem dX11_firstCrossing_67 : decode cX11_firstCrossing 67 = .ok (.iadd, 1) := by decide +kernel
theorem dX11_firstCrossing_68 : decode cX11_firstCrossing 68 = .ok (.ireturn, 1) := by decide +kernel
theorem dX11_firstCrossing_69 : decode cX11_firstCrossing 69 = .ok (.iinc 4 1, 3) := by decide +kernel
theorem dX11_firstCrossing_72 : decode cX11_firstCrossing 72 = .ok (.goto (-59), 3) := by decide +kernel
theorem dX11_firstCrossing_75 : decode cX11_firstCrossing 75 = .ok (.iinc 3 1, 3) := by decide +kernel
theorem dX11_firstCrossing_78 : decode cX11_firstCrossing 78 = .ok (.goto (-76), 3) := by decide +kernel
theorem dX11_firstCrossing_81 : decode cX11_firstCrossing 81 = .ok (.iconst (-1), 1) := by decide +kernel
theorem dX11_firstCrossing_82 : decode cX11_firstCrossing 82 = .ok (.ireturn, 1) := by decide +kernel
theorem dX11_crossing_0 : decode cX11_crossing 0 = .ok (.aload_n 0, 1) := by decide +kernel
theorem dX11_crossing_1 : decode cX11_crossing 1 = .ok (.iload_n 1, 1) := by decide +kernel
theorem dX11_crossing_2 : decode cX11_crossing 2 = .ok (.invokestatic 58, 3) := by decide +kernel
theorem dX11_crossing_5 : decode cX11_crossing 5 = .ok (.ifCond .eq 14, 3) := by decide +kernel
theorem dX11_crossing_8 : decode cX11_crossing 8 = .ok (.iload_n 2, 1) := by decide +kernel
theorem dX11_crossing_9 : decode cX11_crossing 9 = .ok (.invokestatic 58, 3) := by decide +kernel
theorem dX11_crossing_12 : decode cX11_crossing 12 = .ok (.ifCond .eq 7, 3) := by decide +kernel
theorem dX11_crossing_15 : decode cX11_crossing 15 = .ok (.iconst 1, 1) := by decide +kernel
theorem dX11_crossing_16 : decode cX11_crossing 16 = .ok (.goto 4, 3) := by decide +kernel
theorem dX11_crossing_19 : decode cX11_crossing 19 = .ok (.iconst 0, 1) := by decide +kernel
theorem dX11_crossing_20 : decode cX11_crossing 20 = .ok (.iconst 1, 1) := by decide +kernel
theorem dX11_crossing_21 : decode cX11_crossing 21 = .ok (.invokevirtual 65, 3) := by decide +kernel
theorem dX11_crossing_24 : decode cX11_crossing 24 = .ok (.ifCond .eq 12, 3) := by decide +kernel
theorem dX11_crossing_27 : decode cX11_crossing 27 = .ok (.aload_n 0, 1) := by decide +kernel
theorem dX11_crossing_28 : decode cX11_crossing 28 = .ok (.iload_n 1, 1) := by decide +kernel
theorem dX11_crossing_29 : decode cX11_crossing 29 = .ok (.iload_n 2, 1) := by decide +kernel
theorem dX11_crossing_30 : decode cX11_crossing 30 = .ok (.invokevirtual 162, 3) := by decide +kernel
theorem dX11_crossing_33 : decode cX11_crossing 33 = .ok (.goto 4, 3) := by decide +kernel
theorem dX11_crossing_36 : decode cX11_crossing 36 = .ok (.iconst 0, 1) := by decide +kernel
theorem dX11_crossing_37 : decode cX11_crossing 37 = .ok (.ireturn, 1) := by decide +kernel
theorem dX11_isCore_0 : decode cX11_isCore 0 = .ok (.aload_n 0, 1) := by decide +kernel
theorem dX11_isCore_1 : decode cX11_isCore 1 = .ok (.invokevirtual 47, 3) := by decide +kernel
theorem dX11_isCore_4 : decode cX11_isCore 4 = .ok (.iconst 1, 1) := by decide +kernel
theorem dX11_isCore_5 : decode cX11_isCore 5 = .ok (.isub, 1) := by decide +kernel
theorem dX11_isCore_6 : decode cX11_isCore 6 = .ok (.iload_n 2, 1) := by decide +kernel
theorem dX11_isCore_7 : decode cX11_isCore 7 = .ok (.isub, 1) := by decide +kernel
theorem dX11_isCore_8 : decode cX11_isCore 8 = .ok (.istore_n 3, 1) := by decide +kernel
theorem dX11_isCore_9 : decode cX11_isCore 9 = .ok (.iconst 0, 1) := by decide +kernel
theorem dX11_isCore_10 : decode cX11_isCore 10 = .ok (.istore 4, 2) := by decide +kernel
theorem dX11_isCore_12 : decode cX11_isCore 12 = .ok (.iload 4, 2) := by decide +kernel
theorem dX11_isCore_14 : decode cX11_isCore 14 = .ok (.aload_n 0, 1) := by decide +kernel
theorem dX11_isCore_15 : decode cX11_isCore 15 = .ok (.invokevirtual 47, 3) := by decide +kernel
theorem dX11_isCore_18 : decode cX11_isCore 18 = .ok (.if_icmp .ge 179, 3) := by decide +kernel
theorem dX11_isCore_21 : decode cX11_isCore 21 = .ok (.iload 4, 2) := by decide +kernel
theorem dX11_isCore_23 : decode cX11_isCore 23 = .ok (.iload_n 2, 1) := by decide +kernel
theorem dX11_isCore_24 : decode cX11_isCore 24 = .ok (.iand, 1) := by decide +kernel
theorem dX11_isCore_25 : decode cX11_isCore 25 = .ok (.ifCond .ne 25, 3) := by decide +kernel
theorem dX11_isCore_28 : decode cX11_isCore 28 = .ok (.aload_n 0, 1) := by decide +kernel
theorem dX11_isCore_29 : decode cX11_isCore 29 = .ok (.getfield 13, 3) := by decide +kernel
theorem dX11_isCore_32 : decode cX11_isCore 32 = .ok (.sipush 1024, 3) := by decide +kernel
theorem dX11_isCore_35 : decode cX11_isCore 35 = .ok (.iload_n 1, 1) := by decide +kernel
theorem dX11_isCore_36 : decode cX11_isCore 36 = .ok (.imul, 1) := by decide +kernel
theorem dX11_isCore_37 : decode cX11_isCore 37 = .ok (.iload 4, 2) := by decide +kernel
theorem dX11_isCore_39 : decode cX11_isCore 39 = .ok (.iload_n 2, 1) := by decide +kernel
theorem dX11_isCore_40 : decode cX11_isCore 40 = .ok (.ior, 1) := by decide +kernel
theorem dX11_isCore_41 : decode cX11_isCore 41 = .ok (.iadd, 1) := by decide +kernel
theorem dX11_isCore_42 : decode cX11_isCore 42 = .ok (.baload, 1) := by decide +kernel
theorem dX11_isCore_43 : decode cX11_isCore 43 = .ok (.ifCond .eq 7, 3) := by decide +kernel
theorem dX11_isCore_46 : decode cX11_isCore 46 = .ok (.iconst 1, 1) := by decide +kernel
theorem dX11_isCore_47 : decode cX11_isCore 47 = .ok (.goto 4, 3) := by decide +kernel
theorem dX11_isCore_50 : decode cX11_isCore 50 = .ok (.iconst 0, 1) := by decide +kernel
theorem dX11_isCore_51 : decode cX11_isCore 51 = .ok (.istore 5, 2) := by decide +kernel
theorem dX11_isCore_53 : decode cX11_isCore 53 = .ok (.iload_n 3, 1) := by decide +kernel
theorem dX11_isCore_54 : decode cX11_isCore 54 = .ok (.iload 4, 2) := by decide +kernel
theorem dX11_isCore_56 : decode cX11_isCore 56 = .ok (.iconst (-1), 1) := by decide +kernel
theorem dX11_isCore_57 : decode cX11_isCore 57 = .ok (.ixor, 1) := by decide +kernel
theorem dX11_isCore_58 : decode cX11_isCore 58 = .ok (.iand, 1) := by decide +kernel
theorem dX11_isCore_59 : decode cX11_isCore 59 = .ok (.istore 6, 2) := by decide +kernel
theorem dX11_isCore_61 : decode cX11_isCore 61 = .ok (.iload 6, 2) := by decide +kernel
theorem dX11_isCore_63 : decode cX11_isCore 63 = .ok (.iload 6, 2) := by decide +kernel
theorem dX11_isCore_65 : decode cX11_isCore 65 = .ok (.ineg, 1) := by decide +kernel
theorem dX11_isCore_66 : decode cX11_isCore 66 = .ok (.iand, 1) := by decide +kernel
theorem dX11_isCore_67 : decode cX11_isCore 67 = .ok (.istore 7, 2) := by decide +kernel
theorem dX11_isCore_69 : decode cX11_isCore 69 = .ok (.iload 5, 2) := by decide +kernel
theorem dX11_isCore_71 : decode cX11_isCore 71 = .ok (.ifCond .eq 120, 3) := by decide +kernel
theorem dX11_isCore_74 : decode cX11_isCore 74 = .ok (.iload 7, 2) := by decide +kernel
theorem dX11_isCore_76 : decode cX11_isCore 76 = .ok (.ifCond .eq 115, 3) := by decide +kernel
theorem dX11_isCore_79 : decode cX11_isCore 79 = .ok (.iload 7, 2) := by decide +kernel
theorem dX11_isCore_81 : decode cX11_isCore 81 = .ok (.iload 4, 2) := by decide +kernel
theorem dX11_isCore_83 : decode cX11_isCore 83 = .ok (.if_icmp .le 25, 3) := by decide +kernel
theorem dX11_isCore_86 : decode cX11_isCore 86 = .ok (.aload_n 0, 1) := by decide +kernel
theorem dX11_isCore_87 : decode cX11_isCore 87 = .ok (.getfield 13, 3) := by decide +kernel
theorem dX11_isCore_90 : decode cX11_isCore 90 = .ok (.sipush 1024, 3) := by decide +kernel
theorem dX11_isCore_93 : decode cX11_isCore 93 = .ok (.iload_n 1, 1) := by decide +kernel
theorem dX11_isCore_94 : decode cX11_isCore 94 = .ok (.imul, 1) := by decide +kernel
theorem dX11_isCore_95 : decode cX11_isCore 95 = .ok (.iload 7, 2) := by decide +kernel
theorem dX11_isCore_97 : decode cX11_isCore 97 = .ok (.iload_n 2, 1) := by decide +kernel
theorem dX11_isCore_98 : decode cX11_isCore 98 = .ok (.ior, 1) := by decide +kernel
theorem dX11_isCore_99 : decode cX11_isCore 99 = .ok (.iadd, 1) := by decide +kernel
theorem dX11_isCore_100 : decode cX11_isCore 100 = .ok (.baload, 1) := by decide +kernel
theorem dX11_isCore_101 : decode cX11_isCore 101 = .ok (.ifCond .eq 7, 3) := by decide +kernel
theorem dX11_isCore_104 : decode cX11_isCore 104 = .ok (.iconst 1, 1) := by decide +kernel
theorem dX11_isCore_105 : decode cX11_isCore 105 = .ok (.goto 4, 3) := by decide +kernel
theorem dX11_isCore_108 : decode cX11_isCore 108 = .ok (.iconst 0, 1) := by decide +kernel
theorem dX11_isCore_109 : decode cX11_isCore 109 = .ok (.istore 8, 2) := by decide +kernel
theorem dX11_isCore_111 : decode cX11_isCore 111 = .ok (.iload 6, 2) := by decide +kernel
theorem dX11_isCore_113 : decode cX11_isCore 113 = .ok (.iload 7, 2) := by decide +kernel
theorem dX11_isCore_115 : decode cX11_isCore 115 = .ok (.iconst (-1), 1) := by decide +kernel
theorem dX11_isCore_116 : decode cX11_isCore 116 = .ok (.ixor, 1) := by decide +kernel
theorem dX11_isCore_117 : decode cX11_isCore 117 = .ok (.iand, 1) := by decide +kernel
theorem dX11_isCore_118 : decode cX11_isCore 118 = .ok (.istore 9, 2) := by decide +kernel
theorem dX11_isCore_120 : decode cX11_isCore 120 = .ok (.iload 9, 2) := by decide +kernel
theorem dX11_isCore_122 : decode cX11_isCore 122 = .ok (.iload 9, 2) := by decide +kernel
theorem dX11_isCore_124 : decode cX11_isCore 124 = .ok (.ineg, 1) := by decide +kernel
theorem dX11_isCore_125 : decode cX11_isCore 125 = .ok (.iand, 1) := by decide +kernel
theorem dX11_isCore_126 : decode cX11_isCore 126 = .ok (.istore 10, 2) := by decide +kernel
theorem dX11_isCore_128 : decode cX11_isCore 128 = .ok (.iload 8, 2) := by decide +kernel
theorem dX11_isCore_130 : decode cX11_isCore 130 = .ok (.ifCond .eq 48, 3) := by decide +kernel
theorem dX11_isCore_133 : decode cX11_isCore 133 = .ok (.iload 10, 2) := by decide +kernel
theorem dX11_isCore_135 : decode cX11_isCore 135 = .ok (.ifCond .eq 43, 3) := by decide +kernel
theorem dX11_isCore_138 : decode cX11_isCore 138 = .ok (.iload 10, 2) := by decide +kernel
theorem dX11_isCore_140 : decode cX11_isCore 140 = .ok (.iload 7, 2) := by decide +kernel
theorem dX11_isCore_142 : decode cX11_isCore 142 = .ok (.if_icmp .le 23, 3) := by decide +kernel
theorem dX11_isCore_145 : decode cX11_isCore 145 = .ok (.aload_n 0, 1) := by decide +kernel
theorem dX11_isCore_146 : decode cX11_isCore 146 = .ok (.getfield 13, 3) := by decide +kernel
theorem dX11_isCore_149 : decode cX11_isCore 149 = .ok (.sipush 1024, 3) := by decide +kernel
theorem dX11_isCore_152 : decode cX11_isCore 152 = .ok (.iload_n 1, 1) := by decide +kernel
theorem dX11_isCore_153 : decode cX11_isCore 153 = .ok (.imul, 1) := by decide +kernel
theorem dX11_isCore_154 : decode cX11_isCore 154 = .ok (.iload 10, 2) := by decide +kernel
theorem dX11_isCore_156 : decode cX11_isCore 156 = .ok (.iload_n 2, 1) := by decide +kernel
theorem dX11_isCore_157 : decode cX11_isCore 157 = .ok (.ior, 1) := by decide +kernel
theorem dX11_isCore_158 : decode cX11_isCore 158 = .ok (.iadd, 1) := by decide +kernel
theorem dX11_isCore_159 : decode cX11_isCore 159 = .ok (.baload, 1) := by decide +kernel
theorem dX11_isCore_160 : decode cX11_isCore 160 = .ok (.ifCond .eq 5, 3) := by decide +kernel
theorem dX11_isCore_163 : decode cX11_isCore 163 = .ok (.iconst 1, 1) := by decide +kernel
theorem dX11_isCore_164 : decode cX11_isCore 164 = .ok (.ireturn, 1) := by decide +kernel
theorem dX11_isCore_165 : decode cX11_isCore 165 = .ok (.iload 10, 2) := by decide +kernel
theorem dX11_isCore_167 : decode cX11_isCore 167 = .ok (.iload 9, 2) := by decide +kernel
theorem dX11_isCore_169 : decode cX11_isCore 169 = .ok (.isub, 1) := by decide +kernel
theorem dX11_isCore_170 : decode cX11_isCore 170 = .ok (.iload 9, 2) := by decide +kernel
theorem dX11_isCore_172 : decode cX11_isCore 172 = .ok (.iand, 1) := by decide +kernel
theorem dX11_isCore_173 : decode cX11_isCore 173 = .ok (.istore 10, 2) := by decide +kernel
theorem dX11_isCore_175 : decode cX11_isCore 175 = .ok (.goto (-47), 3) := by decide +kernel
theorem dX11_isCore_178 : decode cX11_isCore 178 = .ok (.iload 7, 2) := by decide +kernel
theorem dX11_isCore_180 : decode cX11_isCore 180 = .ok (.iload 6, 2) := by decide +kernel
theorem dX11_isCore_182 : decode cX11_isCore 182 = .ok (.isub, 1) := by decide +kernel
theorem dX11_isCore_183 : decode cX11_isCore 183 = .ok (.iload 6, 2) := by decide +kernel
theorem dX11_isCore_185 : decode cX11_isCore 185 = .ok (.iand, 1) := by decide +kernel
theorem dX11_isCore_186 : decode cX11_isCore 186 = .ok (.istore 7, 2) := by decide +kernel
theorem dX11_isCore_188 : decode cX11_isCore 188 = .ok (.goto (-119), 3) := by decide +kernel
theorem dX11_isCore_191 : decode cX11_isCore 191 = .ok (.iinc 4 1, 3) := by decide +kernel
theorem dX11_isCore_194 : decode cX11_isCore 194 = .ok (.goto (-182), 3) := by decide +kernel
theorem dX11_isCore_197 : decode cX11_isCore 197 = .ok (.iconst 0, 1) := by decide +kernel
theorem dX11_isCore_198 : decode cX11_isCore 198 = .ok (.ireturn, 1) := by decide +kernel
theorem dX11_leastCore_0 : decode cX11_leastCore 0 = .ok (.iconst 0, 1) := by decide +kernel
theorem dX11_leastCore_1 : decode cX11_leastCore 1 = .ok (.istore_n 2, 1) := by decide +kernel
theorem dX11_leastCore_2 : decode cX11_leastCore 2 = .ok (.iload_n 2, 1) := by decide +kernel
theorem dX11_leastCore_3 : decode cX11_leastCore 3 = .ok (.aload_n 0, 1) := by decide +kernel
theorem dX11_leastCore_4 : decode cX11_leastCore 4 = .ok (.invokevirtual 47, 3) := by decide +kernel
theorem dX11_leastCore_7 : decode cX11_leastCore 7 = .ok (.if_icmp .ge 20, 3) := by decide +kernel
theorem dX11_leastCore_10 : decode cX11_leastCore 10 = .ok (.aload_n 0, 1) := by decide +kernel
theorem dX11_leastCore_11 : decode cX11_leastCore 11 = .ok (.iload_n 1, 1) := by decide +kernel
theorem dX11_leastCore_12 : decode cX11_leastCore 12 = .ok (.iload_n 2, 1) := by decide +kernel
theorem dX11_leastCore_13 : decode cX11_leastCore 13 = .ok (.invokevirtual 165, 3) := by decide +kernel
theorem dX11_leastCore_16 : decode cX11_leastCore 16 = .ok (.ifCond .eq 5, 3) := by decide +kernel
theorem dX11_leastCore_19 : decode cX11_leastCore 19 = .ok (.iload_n 2, 1) := by decide +kernel
theorem dX11_leastCore_20 : decode cX11_leastCore 20 = .ok (.ireturn, 1) := by decide +kernel
theorem dX11_leastCore_21 : decode cX11_leastCore 21 = .ok (.iinc 2 1, 3) := by decide +kernel
theorem dX11_leastCore_24 : decode cX11_leastCore 24 = .ok (.goto (-22), 3) := by decide +kernel
theorem dX11_leastCore_27 : decode cX11_leastCore 27 = .ok (.iconst (-1), 1) := by decide +kernel
theorem dX11_leastCore_28 : decode cX11_leastCore 28 = .ok (.ireturn, 1) := by decide +kernel
theorem dX11_sunflower_0 : decode cX11_sunflower 0 = .ok (.aload_n 0, 1) := by decide +kernel
theorem dX11_sunflower_1 : decode cX11_sunflower 1 = .ok (.iload_n 1, 1) := by decide +kernel
theorem dX11_sunflower_2 : decode cX11_sunflower 2 = .ok (.invokestatic 58, 3) := by decide +kernel
theorem dX11_sunflower_5 : decode cX11_sunflower 5 = .ok (.iconst 1, 1) := by decide +kernel
theorem dX11_sunflower_6 : decode cX11_sunflower 6 = .ok (.invokevirtual 65, 3) := by decide +kernel
theorem dX11_sunflower_9 : decode cX11_sunflower 9 = .ok (.ifCond .eq 11, 3) := by decide +kernel
theorem dX11_sunflower_12 : decode cX11_sunflower 12 = .ok (.aload_n 0, 1) := by decide +kernel
theorem dX11_sunflower_13 : decode cX11_sunflower 13 = .ok (.iload_n 1, 1) := by decide +kernel
theorem dX11_sunflower_14 : decode cX11_sunflower 14 = .ok (.invokevirtual 168, 3) := by decide +kernel
theorem dX11_sunflower_17 : decode cX11_sunflower 17 = .ok (.goto 4, 3) := by decide +kernel
theorem dX11_sunflower_20 : decode cX11_sunflower 20 = .ok (.iconst 0, 1) := by decide +kernel
theorem dX11_sunflower_21 : decode cX11_sunflower 21 = .ok (.ireturn, 1) := by decide +kernel
theorem dX11_countsPairs_0 : decode cX11_countsPairs 0 = .ok (.iconst 0, 1) := by decide +kernel
theorem dX11_countsPairs_1 : decode cX11_countsPairs 1 = .ok (.istore_n 2, 1) := by decide +kernel
theorem dX11_countsPairs_2 : decode cX11_countsPairs 2 = .ok (.iload_n 2, 1) := by decide +kernel
theorem dX11_countsPairs_3 : decode cX11_countsPairs 3 = .ok (.bipush 11, 2) := by decide +kernel
theorem dX11_countsPairs_5 : decode cX11_countsPairs 5 = .ok (.if_icmp .ge 16, 3) := by decide +kernel
theorem dX11_countsPairs_8 : decode cX11_countsPairs 8 = .ok (.aload_n 0, 1) := by decide +kernel
theorem dX11_countsPairs_9 : decode cX11_countsPairs 9 = .ok (.getfield 34, 3) := by decide +kernel
theorem dX11_countsPairs_12 : decode cX11_countsPairs 12 = .ok (.iload_n 2, 1) := by decide +kernel
theorem dX11_countsPairs_13 : decode cX11_countsPairs 13 = .ok (.iconst 0, 1) := by decide +kernel
theorem dX11_countsPairs_14 : decode cX11_countsPairs 14 = .ok (.iastore, 1) := by decide +kernel
theorem dX11_countsPairs_15 : decode cX11_countsPairs 15 = .ok (.iinc 2 1, 3) := by decide +kernel
theorem dX11_countsPairs_18 : decode cX11_countsPairs 18 = .ok (.goto (-16), 3) := by decide +kernel
theorem dX11_countsPairs_21 : decode cX11_countsPairs 21 = .ok (.iconst 0, 1) := by decide +kernel
theorem dX11_countsPairs_22 : decode cX11_countsPairs 22 = .ok (.istore_n 2, 1) := by decide +kernel
theorem dX11_countsPairs_23 : decode cX11_countsPairs 23 = .ok (.iload_n 2, 1) := by decide +kernel
theorem dX11_countsPairs_24 : decode cX11_countsPairs 24 = .ok (.aload_n 0, 1) := by decide +kernel
theorem dX11_countsPairs_25 : decode cX11_countsPairs 25 = .ok (.invokevirtual 47, 3) := by decide +kernel
theorem dX11_countsPairs_28 : decode cX11_countsPairs 28 = .ok (.if_icmp .ge 67, 3) := by decide +kernel
theorem dX11_countsPairs_31 : decode cX11_countsPairs 31 = .ok (.iconst 0, 1) := by decide +kernel
theorem dX11_countsPairs_32 : decode cX11_countsPairs 32 = .ok (.istore_n 3, 1) := by decide +kernel
theorem dX11_countsPairs_33 : decode cX11_countsPairs 33 = .ok (.iload_n 3, 1) := by decide +kernel
theorem dX11_countsPairs_34 : decode cX11_countsPairs 34 = .ok (.iload_n 2, 1) := by decide +kernel
theorem dX11_countsPairs_35 : decode cX11_countsPairs 35 = .ok (.if_icmp .ge 54, 3) := by decide +kernel
theorem dX11_countsPairs_38 : decode cX11_countsPairs 38 = .ok (.aload_n 0, 1) := by decide +kernel
theorem dX11_countsPairs_39 : decode cX11_countsPairs 39 = .ok (.getfield 13, 3) := by decide +kernel
theorem dX11_countsPairs_42 : decode cX11_countsPairs 42 = .ok (.sipush 1024, 3) := by decide +kernel
theorem dX11_countsPairs_45 : decode cX11_countsPairs 45 = .ok (.iload_n 1, 1) := by decide +kernel
theorem dX11_countsPairs_46 : decode cX11_countsPairs 46 = .ok (.imul, 1) := by decide +kernel
theorem dX11_countsPairs_47 : decode cX11_countsPairs 47 = .ok (.iload_n 2, 1) := by decide +kernel
theorem dX11_countsPairs_48 : decode cX11_countsPairs 48 = .ok (.iadd, 1) := by decide +kernel
theorem dX11_countsPairs_49 : decode cX11_countsPairs 49 = .ok (.baload, 1) := by decide +kernel
theorem dX11_countsPairs_50 : decode cX11_countsPairs 50 = .ok (.ifCond .eq 39, 3) := by decide +kernel
theorem dX11_countsPairs_53 : decode cX11_countsPairs 53 = .ok (.aload_n 0, 1) := by decide +kernel
theorem dX11_countsPairs_54 : decode cX11_countsPairs 54 = .ok (.getfield 13, 3) := by decide +kernel
theorem dX11_countsPairs_57 : decode cX11_countsPairs 57 = .ok (.sipush 1024, 3) := by decide +kernel
theorem dX11_countsPairs_60 : decode cX11_countsPairs 60 = .ok (.iload_n 1, 1) := by decide +kernel
theorem dX11_countsPairs_61 : decode cX11_countsPairs 61 = .ok (.imul, 1) := by decide +kernel
theorem dX11_countsPairs_62 : decode cX11_countsPairs 62 = .ok (.iload_n 3, 1) := by decide +kernel
theorem dX11_countsPairs_63 : decode cX11_countsPairs 63 = .ok (.iadd, 1) := by decide +kernel
theorem dX11_countsPairs_64 : decode cX11_countsPairs 64 = .ok (.baload, 1) := by decide +kernel
theorem dX11_countsPairs_65 : decode cX11_countsPairs 65 = .ok (.ifCond .eq 18, 3) := by decide +kernel
theorem dX11_countsPairs_68 : decode cX11_countsPairs 68 = .ok (.aload_n 0, 1) := by decide +kernel
theorem dX11_countsPairs_69 : decode cX11_countsPairs 69 = .ok (.getfield 34, 3) := by decide +kernel
theorem dX11_countsPairs_72 : decode cX11_countsPairs 72 = .ok (.iload_n 2, 1) := by decide +kernel
theorem dX11_countsPairs_73 : decode cX11_countsPairs 73 = .ok (.iload_n 3, 1) := by decide +kernel
theorem dX11_countsPairs_74 : decode cX11_countsPairs 74 = .ok (.iand, 1) := by decide +kernel
theorem dX11_countsPairs_75 : decode cX11_countsPairs 75 = .ok (.invokestatic 51, 3) := by decide +kernel
theorem dX11_countsPairs_78 : decode cX11_countsPairs 78 = .ok (.dup2, 1) := by decide +kernel
theorem dX11_countsPairs_79 : decode cX11_countsPairs 79 = .ok (.iaload, 1) := by decide +kernel
theorem dX11_countsPairs_80 : decode cX11_countsPairs 80 = .ok (.iconst 1, 1) := by decide +kernel
theorem dX11_countsPairs_81 : decode cX11_countsPairs 81 = .ok (.iadd, 1) := by decide +kernel
theorem dX11_countsPairs_82 : decode cX11_countsPairs 82 = .ok (.iastore, 1) := by decide +kernel
theorem dX11_countsPairs_83 : decode cX11_countsPairs 83 = .ok (.iinc 3 1, 3) := by decide +kernel
theorem dX11_countsPairs_86 : decode cX11_countsPairs 86 = .ok (.goto (-53), 3) := by decide +kernel
theorem dX11_countsPairs_89 : decode cX11_countsPairs 89 = .ok (.iinc 2 1, 3) := by decide +kernel
theorem dX11_countsPairs_92 : decode cX11_countsPairs 92 = .ok (.goto (-69), 3) := by decide +kernel
theorem dX11_countsPairs_95 : decode cX11_countsPairs 95 = .ok (.return_, 1) := by decide +kernel
theorem dX11_pairs_0 : decode cX11_pairs 0 = .ok (.aload_n 0, 1) := by decide +kernel
theorem dX11_pairs_1 : decode cX11_pairs 1 = .ok (.iload_n 1, 1) := by decide +kernel
theorem dX11_pairs_2 : decode cX11_pairs 2 = .ok (.invokestatic 58, 3) := by decide +kernel
theorem dX11_pairs_5 : decode cX11_pairs 5 = .ok (.iload_n 2, 1) := by decide +kernel
theorem dX11_pairs_6 : decode cX11_pairs 6 = .ok (.iconst 0, 1) := by decide +kernel
theorem dX11_pairs_7 : decode cX11_pairs 7 = .ok (.aload_n 0, 1) := by decide +kernel
theorem dX11_pairs_8 : decode cX11_pairs 8 = .ok (.getfield 7, 3) := by decide +kernel
theorem dX11_pairs_11 : decode cX11_pairs 11 = .ok (.invokestatic 43, 3) := by decide +kernel
theorem dX11_pairs_14 : decode cX11_pairs 14 = .ok (.invokevirtual 65, 3) := by decide +kernel
theorem dX11_pairs_17 : decode cX11_pairs 17 = .ok (.ifCond .ne 5, 3) := by decide +kernel
theorem dX11_pairs_20 : decode cX11_pairs 20 = .ok (.iconst 0, 1) := by decide +kernel
theorem dX11_pairs_21 : decode cX11_pairs 21 = .ok (.ireturn, 1) := by decide +kernel
theorem dX11_pairs_22 : decode cX11_pairs 22 = .ok (.aload_n 0, 1) := by decide +kernel
theorem dX11_pairs_23 : decode cX11_pairs 23 = .ok (.iload_n 1, 1) := by decide +kernel
theorem dX11_pairs_24 : decode cX11_pairs 24 = .ok (.invokevirtual 171, 3) := by decide +kernel
theorem dX11_pairs_27 : decode cX11_pairs 27 = .ok (.aload_n 0, 1) := by decide +kernel
theorem dX11_pairs_28 : decode cX11_pairs 28 = .ok (.getfield 34, 3) := by decide +kernel
theorem dX11_pairs_31 : decode cX11_pairs 31 = .ok (.iload_n 2, 1) := by decide +kernel
theorem dX11_pairs_32 : decode cX11_pairs 32 = .ok (.iaload, 1) := by decide +kernel
theorem dX11_pairs_33 : decode cX11_pairs 33 = .ok (.ireturn, 1) := by decide +kernel
theorem dX11_type_0 : decode cX11_type 0 = .ok (.aload_n 0, 1) := by decide +kernel
theorem dX11_type_1 : decode cX11_type 1 = .ok (.iload_n 1, 1) := by decide +kernel
theorem dX11_type_2 : decode cX11_type 2 = .ok (.iconst 0, 1) := by decide +kernel
theorem dX11_type_3 : decode cX11_type 3 = .ok (.bipush 127, 2) := by decide +kernel
theorem dX11_type_5 : decode cX11_type 5 = .ok (.invokestatic 43, 3) := by decide +kernel
theorem dX11_type_8 : decode cX11_type 8 = .ok (.ifCond .ne 7, 3) := by decide +kernel
theorem dX11_type_11 : decode cX11_type 11 = .ok (.iconst 1, 1) := by decide +kernel
theorem dX11_type_12 : decode cX11_type 12 = .ok (.goto 17, 3) := by decide +kernel
theorem dX11_type_15 : decode cX11_type 15 = .ok (.aload_n 0, 1) := by decide +kernel
theorem dX11_type_16 : decode cX11_type 16 = .ok (.getfield 174, 3) := by decide +kernel
theorem dX11_type_19 : decode cX11_type 19 = .ok (.bipush 120, 2) := by decide +kernel
theorem dX11_type_21 : decode cX11_type 21 = .ok (.if_icmp .ne 7, 3) := by decide +kernel
theorem dX11_type_24 : decode cX11_type 24 = .ok (.iconst 2, 1) := by decide +kernel
theorem dX11_type_25 : decode cX11_type 25 = .ok (.goto 4, 3) := by decide +kernel
theorem dX11_type_28 : decode cX11_type 28 = .ok (.iconst 0, 1) := by decide +kernel
theorem dX11_type_29 : decode cX11_type 29 = .ok (.putfield 37, 3) := by decide +kernel
theorem dX11_type_32 : decode cX11_type 32 = .ok (.aload_n 0, 1) := by decide +kernel
theorem dX11_type_33 : decode cX11_type 33 = .ok (.getfield 37, 3) := by decide +kernel
theorem dX11_type_36 : decode cX11_type 36 = .ok (.ifCond .le 5, 3) := by decide +kernel
theorem dX11_type_39 : decode cX11_type 39 = .ok (.iconst 0, 1) := by decide +kernel
theorem dX11_type_40 : decode cX11_type 40 = .ok (.ireturn, 1) := by decide +kernel
theorem dX11_type_41 : decode cX11_type 41 = .ok (.aload_n 0, 1) := by decide +kernel
theorem dX11_type_42 : decode cX11_type 42 = .ok (.getfield 24, 3) := by decide +kernel
theorem dX11_type_45 : decode cX11_type 45 = .ok (.aload_n 0, 1) := by decide +kernel
theorem dX11_type_46 : decode cX11_type 46 = .ok (.getfield 174, 3) := by decide +kernel
theorem dX11_type_49 : decode cX11_type 49 = .ok (.iload_n 1, 1) := by decide +kernel
theorem dX11_type_50 : decode cX11_type 50 = .ok (.i2b, 1) := by decide +kernel
theorem dX11_type_51 : decode cX11_type 51 = .ok (.bastore, 1) := by decide +kernel
theorem dX11_type_52 : decode cX11_type 52 = .ok (.aload_n 0, 1) := by decide +kernel
theorem dX11_type_53 : decode cX11_type 53 = .ok (.dup, 1) := by decide +kernel
theorem dX11_type_54 : decode cX11_type 54 = .ok (.getfield 174, 3) := by decide +kernel
theorem dX11_type_57 : decode cX11_type 57 = .ok (.iconst 1, 1) := by decide +kernel
theorem dX11_type_58 : decode cX11_type 58 = .ok (.iadd, 1) := by decide +kernel
theorem dX11_type_59 : decode cX11_type 59 = .ok (.putfield 174, 3) := by decide +kernel
theorem dX11_type_62 : decode cX11_type 62 = .ok (.aload_n 0, 1) := by decide +kernel
theorem dX11_type_63 : decode cX11_type 63 = .ok (.getfield 174, 3) := by decide +kernel
theorem dX11_type_66 : decode cX11_type 66 = .ok (.ireturn, 1) := by decide +kernel
theorem dX11_clearText_0 : decode cX11_clearText 0 = .ok (.aload_n 0, 1) := by decide +kernel
theorem dX11_clearText_1 : decode cX11_clearText 1 = .ok (.iconst 0, 1) := by decide +kernel
theorem dX11_clearText_2 : decode cX11_clearText 2 = .ok (.putfield 37, 3) := by decide +kernel
theorem dX11_clearText_5 : decode cX11_clearText 5 = .ok (.aload_n 0, 1) := by decide +kernel
theorem dX11_clearText_6 : decode cX11_clearText 6 = .ok (.getfield 174, 3) := by decide +kernel
theorem dX11_clearText_9 : decode cX11_clearText 9 = .ok (.istore_n 1, 1) := by decide +kernel
theorem dX11_clearText_10 : decode cX11_clearText 10 = .ok (.aload_n 0, 1) := by decide +kernel
theorem dX11_clearText_11 : decode cX11_clearText 11 = .ok (.iconst 0, 1) := by decide +kernel
theorem dX11_clearText_12 : decode cX11_clearText 12 = .ok (.putfield 174, 3) := by decide +kernel
theorem dX11_clearText_15 : decode cX11_clearText 15 = .ok (.iload_n 1, 1) := by decide +kernel
theorem dX11_clearText_16 : decode cX11_clearText 16 = .ok (.ireturn, 1) := by decide +kernel
theorem dX11_read_0 : decode cX11_read 0 = .ok (.aload_n 0, 1) := by decide +kernel
theorem dX11_read_1 : decode cX11_read 1 = .ok (.iload_n 1, 1) := by decide +kernel
theorem dX11_read_2 : decode cX11_read 2 = .ok (.invokestatic 58, 3) := by decide +kernel
theorem dX11_read_5 : decode cX11_read 5 = .ok (.iconst 1, 1) := by decide +kernel
theorem dX11_read_6 : decode cX11_read 6 = .ok (.invokevirtual 65, 3) := by decide +kernel
theorem dX11_read_9 : decode cX11_read 9 = .ok (.ifCond .ne 5, 3) := by decide +kernel
theorem dX11_read_12 : decode cX11_read 12 = .ok (.iconst 0, 1) := by decide +kernel
theorem dX11_read_13 : decode cX11_read 13 = .ok (.ireturn, 1) := by decide +kernel
theorem dX11_read_14 : decode cX11_read 14 = .ok (.aload_n 0, 1) := by decide +kernel
theorem dX11_read_15 : decode cX11_read 15 = .ok (.invokevirtual 97, 3) := by decide +kernel
theorem dX11_read_18 : decode cX11_read 18 = .ok (.iconst 0, 1) := by decide +kernel
theorem dX11_read_19 : decode cX11_read 19 = .ok (.istore_n 2, 1) := by decide +kernel
theorem dX11_read_20 : decode cX11_read 20 = .ok (.iconst (-1), 1) := by decide +kernel
theorem dX11_read_21 : decode cX11_read 21 = .ok (.istore_n 3, 1) := by decide +kernel
theorem dX11_read_22 : decode cX11_read 22 = .ok (.iconst 0, 1) := by decide +kernel
theorem dX11_read_23 : decode cX11_read 23 = .ok (.istore 4, 2) := by decide +kernel
theorem dX11_read_25 : decode cX11_read 25 = .ok (.iload 4, 2) := by decide +kernel
theorem dX11_read_27 : decode cX11_read 27 = .ok (.aload_n 0, 1) := by decide +kernel
theorem dX11_read_28 : decode cX11_read 28 = .ok (.getfield 174, 3) := by decide +kernel
theorem dX11_read_31 : decode cX11_read 31 = .ok (.if_icmp .ge 113, 3) := by decide +kernel
theorem dX11_read_34 : decode cX11_read 34 = .ok (.aload_n 0, 1) := by decide +kernel
theorem dX11_read_35 : decode cX11_read 35 = .ok (.getfield 24, 3) := by decide +kernel
theorem dX11_read_38 : decode cX11_read 38 = .ok (.iload 4, 2) := by decide +kernel
theorem dX11_read_40 : decode cX11_read 40 = .ok (.baload, 1) := by decide +kernel
theorem dX11_read_41 : decode cX11_read 41 = .ok (.istore 5, 2) := by decide +kernel
theorem dX11_read_43 : decode cX11_read 43 = .ok (.iload 5, 2) := by decide +kernel
theorem dX11_read_45 : decode cX11_read 45 = .ok (.bipush 44, 2) := by decide +kernel
theorem dX11_read_47 : decode cX11_read 47 = .ok (.if_icmp .ne 21, 3) := by decide +kernel
theorem dX11_read_50 : decode cX11_read 50 = .ok (.iload_n 3, 1) := by decide +kernel
theorem dX11_read_51 : decode cX11_read 51 = .ok (.ifCond .lt 17, 3) := by decide +kernel
theorem dX11_read_54 : decode cX11_read 54 = .ok (.aload_n 0, 1) := by decide +kernel
theorem dX11_read_55 : decode cX11_read 55 = .ok (.getfield 28, 3) := by decide +kernel
theorem dX11_read_58 : decode cX11_read 58 = .ok (.iload_n 2, 1) := by decide +kernel
theorem dX11_read_59 : decode cX11_read 59 = .ok (.iconst 1, 1) := by decide +kernel
theorem dX11_read_60 : decode cX11_read 60 = .ok (.bastore, 1) := by decide +kernel
theorem dX11_read_61 : decode cX11_read 61 = .ok (.iconst 0, 1) := by decide +kernel
theorem dX11_read_62 : decode cX11_read 62 = .ok (.istore_n 2, 1) := by decide +kernel
theorem dX11_read_63 : decode cX11_read 63 = .ok (.iconst (-1), 1) := by decide +kernel
theorem dX11_read_64 : decode cX11_read 64 = .ok (.istore_n 3, 1) := by decide +kernel
theorem dX11_read_65 : decode cX11_read 65 = .ok (.goto 73, 3) := by decide +kernel
theorem dX11_read_68 : decode cX11_read 68 = .ok (.iload 5, 2) := by decide +kernel
theorem dX11_read_70 : decode cX11_read 70 = .ok (.bipush 45, 2) := by decide +kernel
theorem dX11_read_72 : decode cX11_read 72 = .ok (.if_icmp .ne 13, 3) := by decide +kernel
theorem dX11_read_75 : decode cX11_read 75 = .ok (.iload_n 3, 1) := by decide +kernel
theorem dX11_read_76 : decode cX11_read 76 = .ok (.ifCond .ge 9, 3) := by decide +kernel
theorem dX11_read_79 : decode cX11_read 79 = .ok (.bipush 99, 2) := by decide +kernel
theorem dX11_read_81 : decode cX11_read 81 = .ok (.istore_n 3, 1) := by decide +kernel
theorem dX11_read_82 : decode cX11_read 82 = .ok (.goto 56, 3) := by decide +kernel
theorem dX11_read_85 : decode cX11_read 85 = .ok (.iload 5, 2) := by decide +kernel
theorem dX11_read_87 : decode cX11_read 87 = .ok (.bipush 48, 2) := by decide +kernel
theorem dX11_read_89 : decode cX11_read 89 = .ok (.isub, 1) := by decide +kernel
theorem dX11_read_90 : decode cX11_read 90 = .ok (.iload_n 3, 1) := by decide +kernel
theorem dX11_read_91 : decode cX11_read 91 = .ok (.ifCond .ge 7, 3) := by decide +kernel
theorem dX11_read_94 : decode cX11_read 94 = .ok (.iconst 0, 1) := by decide +kernel
theorem dX11_read_95 : decode cX11_read 95 = .ok (.goto 4, 3) := by decide +kernel
theorem dX11_read_98 : decode cX11_read 98 = .ok (.iload_n 3, 1) := by decide +kernel
theorem dX11_read_99 : decode cX11_read 99 = .ok (.aload_n 0, 1) := by decide +kernel
theorem dX11_read_100 : decode cX11_read 100 = .ok (.getfield 7, 3) := by decide +kernel
theorem dX11_read_103 : decode cX11_read 103 = .ok (.iconst 1, 1) := by decide +kernel
theorem dX11_read_104 : decode cX11_read 104 = .ok (.isub, 1) := by decide +kernel
theorem dX11_read_105 : decode cX11_read 105 = .ok (.invokestatic 43, 3) := by decide +kernel
theorem dX11_read_108 : decode cX11_read 108 = .ok (.ifCond .eq 24, 3) := by decide +kernel
theorem dX11_read_111 : decode cX11_read 111 = .ok (.iload_n 2, 1) := by decide +kernel
theorem dX11_read_112 : decode cX11_read 112 = .ok (.iconst 1, 1) := by decide +kernel
theorem dX11_read_113 : decode cX11_read 113 = .ok (.iload 5, 2) := by decide +kernel
theorem dX11_read_115 : decode cX11_read 115 = .ok (.bipush 48, 2) := by decide +kernel
theorem dX11_read_117 : decode cX11_read 117 = .ok (.isub, 1) := by decide +kernel
theorem dX11_read_118 : decode cX11_read 118 = .ok (.ishl, 1) := by decide +kernel
theorem dX11_read_119 : decode cX11_read 119 = .ok (.ior, 1) := by decide +kernel
theorem dX11_read_120 : decode cX11_read 120 = .ok (.istore_n 2, 1) := by decide +kernel
theorem dX11_read_121 : decode cX11_read 121 = .ok (.iload 5, 2) := by decide +kernel
theorem dX11_read_123 : decode cX11_read 123 = .ok (.bipush 48, 2) := by decide +kernel
theorem dX11_read_125 : decode cX11_read 125 = .ok (.isub, 1) := by decide +kernel
theorem dX11_read_126 : decode cX11_read 126 = .ok (.iconst 1, 1) := by decide +kernel
theorem dX11_read_127 : decode cX11_read 127 = .ok (.iadd, 1) := by decide +kernel
theorem dX11_read_128 : decode cX11_read 128 = .ok (.istore_n 3, 1) := by decide +kernel
theorem dX11_read_129 : decode cX11_read 129 = .ok (.goto 9, 3) := by decide +kernel
theorem dX11_read_132 : decode cX11_read 132 = .ok (.bipush (-10), 2) := by decide +kernel
theorem dX11_read_134 : decode cX11_read 134 = .ok (.iload 4, 2) := by decide +kernel
theorem dX11_read_136 : decode cX11_read 136 = .ok (.isub, 1) := by decide +kernel
theorem dX11_read_137 : decode cX11_read 137 = .ok (.ireturn, 1) := by decide +kernel
theorem dX11_read_138 : decode cX11_read 138 = .ok (.iinc 4 1, 3) := by decide +kernel
theorem dX11_read_141 : decode cX11_read 141 = .ok (.goto (-116), 3) := by decide +kernel
theorem dX11_read_144 : decode cX11_read 144 = .ok (.iload_n 3, 1) := by decide +kernel
theorem dX11_read_145 : decode cX11_read 145 = .ok (.ifCond .ge 18, 3) := by decide +kernel
theorem dX11_read_148 : decode cX11_read 148 = .ok (.aload_n 0, 1) := by decide +kernel
theorem dX11_read_149 : decode cX11_read 149 = .ok (.getfield 174, 3) := by decide +kernel
theorem dX11_read_152 : decode cX11_read 152 = .ok (.ifCond .le 11, 3) := by decide +kernel
theorem dX11_read_155 : decode cX11_read 155 = .ok (.bipush (-10), 2) := by decide +kernel
theorem dX11_read_157 : decode cX11_read 157 = .ok (.aload_n 0, 1) := by decide +kernel
theorem dX11_read_158 : decode cX11_read 158 = .ok (.getfield 174, 3) := by decide +kernel
theorem dX11_read_161 : decode cX11_read 161 = .ok (.isub, 1) := by decide +kernel
theorem dX11_read_162 : decode cX11_read 162 = .ok (.ireturn, 1) := by decide +kernel
theorem dX11_read_163 : decode cX11_read 163 = .ok (.aload_n 0, 1) := by decide +kernel
theorem dX11_read_164 : decode cX11_read 164 = .ok (.getfield 174, 3) := by decide +kernel
theorem dX11_read_167 : decode cX11_read 167 = .ok (.ifCond .le 10, 3) := by decide +kernel
theorem dX11_read_170 : decode cX11_read 170 = .ok (.aload_n 0, 1) := by decide +kernel
theorem dX11_read_171 : decode cX11_read 171 = .ok (.getfield 28, 3) := by decide +kernel
theorem dX11_read_174 : decode cX11_read 174 = .ok (.iload_n 2, 1) := by decide +kernel
theorem dX11_read_175 : decode cX11_read 175 = .ok (.iconst 1, 1) := by decide +kernel
theorem dX11_read_176 : decode cX11_read 176 = .ok (.bastore, 1) := by decide +kernel
theorem dX11_read_177 : decode cX11_read 177 = .ok (.aload_n 0, 1) := by decide +kernel
theorem dX11_read_178 : decode cX11_read 178 = .ok (.iload_n 1, 1) := by decide +kernel
theorem dX11_read_179 : decode cX11_read 179 = .ok (.invokevirtual 83, 3) := by decide +kernel
theorem dX11_read_182 : decode cX11_read 182 = .ok (.ireturn, 1) := by decide +kernel
theorem dX11_mixes_0 : decode cX11_mixes 0 = .ok (.aload_n 0, 1) := by decide +kernel
theorem dX11_mixes_1 : decode cX11_mixes 1 = .ok (.ldc2_w 177, 3) := by decide +kernel
theorem dX11_mixes_4 : decode cX11_mixes 4 = .ok (.aload_n 0, 1) := by decide +kernel
theorem dX11_mixes_5 : decode cX11_mixes 5 = .ok (.getfield 179, 3) := by decide +kernel
theorem dX11_mixes_8 : decode cX11_mixes 8 = .ok (.lmul, 1) := by decide +kernel
theorem dX11_mixes_9 : decode cX11_mixes 9 = .ok (.lload_n 1, 1) := by decide +kernel
theorem dX11_mixes_10 : decode cX11_mixes 10 = .ok (.ladd, 1) := by decide +kernel
theorem dX11_mixes_11 : decode cX11_mixes 11 = .ok (.putfield 179, 3) := by decide +kernel
theorem dX11_mixes_14 : decode cX11_mixes 14 = .ok (.return_, 1) := by decide +kernel
theorem dX11_mixesFamily_0 : decode cX11_mixesFamily 0 = .ok (.aload_n 0, 1) := by decide +kernel
theorem dX11_mixesFamily_1 : decode cX11_mixesFamily 1 = .ok (.aload_n 0, 1) := by decide +kernel
theorem dX11_mixesFamily_2 : decode cX11_mixesFamily 2 = .ok (.iload_n 1, 1) := by decide +kernel
theorem dX11_mixesFamily_3 : decode cX11_mixesFamily 3 = .ok (.iconst (-1), 1) := by decide +kernel
theorem dX11_mixesFamily_4 : decode cX11_mixesFamily 4 = .ok (.invokevirtual 73, 3) := by decide +kernel
theorem dX11_mixesFamily_7 : decode cX11_mixesFamily 7 = .ok (.i2l, 1) := by decide +kernel
theorem dX11_mixesFamily_8 : decode cX11_mixesFamily 8 = .ok (.invokevirtual 182, 3) := by decide +kernel
theorem dX11_mixesFamily_11 : decode cX11_mixesFamily 11 = .ok (.iconst 0, 1) := by decide +kernel
theorem dX11_mixesFamily_12 : decode cX11_mixesFamily 12 = .ok (.istore_n 2, 1) := by decide +kernel
theorem dX11_mixesFamily_13 : decode cX11_mixesFamily 13 = .ok (.iload_n 2, 1) := by decide +kernel
theorem dX11_mixesFamily_14 : decode cX11_mixesFamily 14 = .ok (.aload_n 0, 1) := by decide +kernel
theorem dX11_mixesFamily_15 : decode cX11_mixesFamily 15 = .ok (.invokevirtual 47, 3) := by decide +kernel
theorem dX11_mixesFamily_18 : decode cX11_mixesFamily 18 = .ok (.if_icmp .ge 30, 3) := by decide +kernel
theorem dX11_mixesFamily_21 : decode cX11_mixesFamily 21 = .ok (.aload_n 0, 1) := by decide +kernel
theorem dX11_mixesFamily_22 : decode cX11_mixesFamily 22 = .ok (.getfield 13, 3) := by decide +kernel
theorem dX11_mixesFamily_25 : decode cX11_mixesFamily 25 = .ok (.sipush 1024, 3) := by decide +kernel
theorem dX11_mixesFamily_28 : decode cX11_mixesFamily 28 = .ok (.iload_n 1, 1) := by decide +kernel
theorem dX11_mixesFamily_29 : decode cX11_mixesFamily 29 = .ok (.imul, 1) := by decide +kernel
theorem dX11_mixesFamily_30 : decode cX11_mixesFamily 30 = .ok (.iload_n 2, 1) := by decide +kernel
theorem dX11_mixesFamily_31 : decode cX11_mixesFamily 31 = .ok (.iadd, 1) := by decide +kernel
theorem dX11_mixesFamily_32 : decode cX11_mixesFamily 32 = .ok (.baload, 1) := by decide +kernel
theorem dX11_mixesFamily_33 : decode cX11_mixesFamily 33 = .ok (.ifCond .eq 9, 3) := by decide +kernel
theorem dX11_mixesFamily_36 : decode cX11_mixesFamily 36 = .ok (.aload_n 0, 1) := by decide +kernel
theorem dX11_mixesFamily_37 : decode cX11_mixesFamily 37 = .ok (.iload_n 2, 1) := by decide +kernel
theorem dX11_mixesFamily_38 : decode cX11_mixesFamily 38 = .ok (.i2l, 1) := by decide +kernel
theorem dX11_mixesFamily_39 : decode cX11_mixesFamily 39 = .ok (.invokevirtual 182, 3) := by decide +kernel
theorem dX11_mixesFamily_42 : decode cX11_mixesFamily 42 = .ok (.iinc 2 1, 3) := by decide +kernel
theorem dX11_mixesFamily_45 : decode cX11_mixesFamily 45 = .ok (.goto (-32), 3) := by decide +kernel
theorem dX11_mixesFamily_48 : decode cX11_mixesFamily 48 = .ok (.iconst 0, 1) := by decide +kernel
theorem dX11_mixesFamily_49 : decode cX11_mixesFamily 49 = .ok (.istore_n 2, 1) := by decide +kernel
theorem dX11_mixesFamily_50 : decode cX11_mixesFamily 50 = .ok (.iload_n 2, 1) := by decide +kernel
theorem dX11_mixesFamily_51 : decode cX11_mixesFamily 51 = .ok (.aload_n 0, 1) := by decide +kernel
theorem dX11_mixesFamily_52 : decode cX11_mixesFamily 52 = .ok (.getfield 7, 3) := by decide +kernel
theorem dX11_mixesFamily_55 : decode cX11_mixesFamily 55 = .ok (.if_icmp .ge 20, 3) := by decide +kernel
theorem dX11_mixesFamily_58 : decode cX11_mixesFamily 58 = .ok (.aload_n 0, 1) := by decide +kernel
theorem dX11_mixesFamily_59 : decode cX11_mixesFamily 59 = .ok (.aload_n 0, 1) := by decide +kernel
theorem dX11_mixesFamily_60 : decode cX11_mixesFamily 60 = .ok (.iload_n 1, 1) := by decide +kernel
theorem dX11_mixesFamily_61 : decode cX11_mixesFamily 61 = .ok (.iload_n 2, 1) := by decide +kernel
theorem dX11_mixesFamily_62 : decode cX11_mixesFamily 62 = .ok (.invokevirtual 80, 3) := by decide +kernel
theorem dX11_mixesFamily_65 : decode cX11_mixesFamily 65 = .ok (.i2l, 1) := by decide +kernel
theorem dX11_mixesFamily_66 : decode cX11_mixesFamily 66 = .ok (.invokevirtual 182, 3) := by decide +kernel
theorem dX11_mixesFamily_69 : decode cX11_mixesFamily 69 = .ok (.iinc 2 1, 3) := by decide +kernel
theorem dX11_mixesFamily_72 : decode cX11_mixesFamily 72 = .ok (.goto (-22), 3) := by decide +kernel
theorem dX11_mixesFamily_75 : decode cX11_mixesFamily 75 = .ok (.iconst 0, 1) := by decide +kernel
theorem dX11_mixesFamily_76 : decode cX11_mixesFamily 76 = .ok (.istore_n 2, 1) := by decide +kernel
theorem dX11_mixesFamily_77 : decode cX11_mixesFamily 77 = .ok (.iload_n 2, 1) := by decide +kernel
theorem dX11_mixesFamily_78 : decode cX11_mixesFamily 78 = .ok (.bipush 6, 2) := by decide +kernel
theorem dX11_mixesFamily_80 : decode cX11_mixesFamily 80 = .ok (.if_icmp .ge 27, 3) := by decide +kernel
theorem dX11_mixesFamily_83 : decode cX11_mixesFamily 83 = .ok (.aload_n 0, 1) := by decide +kernel
theorem dX11_mixesFamily_84 : decode cX11_mixesFamily 84 = .ok (.aload_n 0, 1) := by decide +kernel
theorem dX11_mixesFamily_85 : decode cX11_mixesFamily 85 = .ok (.iload_n 1, 1) := by decide +kernel
theorem dX11_mixesFamily_86 : decode cX11_mixesFamily 86 = .ok (.iload_n 2, 1) := by decide +kernel
theorem dX11_mixesFamily_87 : decode cX11_mixesFamily 87 = .ok (.invokevirtual 135, 3) := by decide +kernel
theorem dX11_mixesFamily_90 : decode cX11_mixesFamily 90 = .ok (.ifCond .eq 7, 3) := by decide +kernel
theorem dX11_mixesFamily_93 : decode cX11_mixesFamily 93 = .ok (.lconst 1, 1) := by decide +kernel
theorem dX11_mixesFamily_94 : decode cX11_mixesFamily 94 = .ok (.goto 4, 3) := by decide +kernel
theorem dX11_mixesFamily_97 : decode cX11_mixesFamily 97 = .ok (.lconst 0, 1) := by decide +kernel
theorem dX11_mixesFamily_98 : decode cX11_mixesFamily 98 = .ok (.invokevirtual 182, 3) := by decide +kernel
theorem dX11_mixesFamily_101 : decode cX11_mixesFamily 101 = .ok (.iinc 2 1, 3) := by decide +kernel
theorem dX11_mixesFamily_104 : decode cX11_mixesFamily 104 = .ok (.goto (-27), 3) := by decide +kernel
theorem dX11_mixesFamily_107 : decode cX11_mixesFamily 107 = .ok (.aload_n 0, 1) := by decide +kernel
theorem dX11_mixesFamily_108 : decode cX11_mixesFamily 108 = .ok (.iload_n 1, 1) := by decide +kernel
theorem dX11_mixesFamily_109 : decode cX11_mixesFamily 109 = .ok (.invokevirtual 149, 3) := by decide +kernel
theorem dX11_mixesFamily_112 : decode cX11_mixesFamily 112 = .ok (.aload_n 0, 1) := by decide +kernel
theorem dX11_mixesFamily_113 : decode cX11_mixesFamily 113 = .ok (.aload_n 0, 1) := by decide +kernel
theorem dX11_mixesFamily_114 : decode cX11_mixesFamily 114 = .ok (.getfield 138, 3) := by decide +kernel
theorem dX11_mixesFamily_117 : decode cX11_mixesFamily 117 = .ok (.invokevirtual 182, 3) := by decide +kernel
theorem dX11_mixesFamily_120 : decode cX11_mixesFamily 120 = .ok (.aload_n 0, 1) := by decide +kernel
theorem dX11_mixesFamily_121 : decode cX11_mixesFamily 121 = .ok (.aload_n 0, 1) := by decide +kernel
theorem dX11_mixesFamily_122 : decode cX11_mixesFamily 122 = .ok (.getfield 142, 3) := by decide +kernel
theorem dX11_mixesFamily_125 : decode cX11_mixesFamily 125 = .ok (.invokevirtual 182, 3) := by decide +kernel
theorem dX11_mixesFamily_128 : decode cX11_mixesFamily 128 = .ok (.aload_n 0, 1) := by decide +kernel
theorem dX11_mixesFamily_129 : decode cX11_mixesFamily 129 = .ok (.iload_n 1, 1) := by decide +kernel
theorem dX11_mixesFamily_130 : decode cX11_mixesFamily 130 = .ok (.invokevirtual 159, 3) := by decide +kernel
theorem dX11_mixesFamily_133 : decode cX11_mixesFamily 133 = .ok (.istore_n 2, 1) := by decide +kernel
theorem dX11_mixesFamily_134 : decode cX11_mixesFamily 134 = .ok (.aload_n 0, 1) := by decide +kernel
theorem dX11_mixesFamily_135 : decode cX11_mixesFamily 135 = .ok (.iload_n 2, 1) := by decide +kernel
theorem dX11_mixesFamily_136 : decode cX11_mixesFamily 136 = .ok (.iconst (-1), 1) := by decide +kernel
theorem dX11_mixesFamily_137 : decode cX11_mixesFamily 137 = .ok (.if_icmp .ne 9, 3) := by decide +kernel
theorem dX11_mixesFamily_140 : decode cX11_mixesFamily 140 = .ok (.ldc2_w 186, 3) := by decide +kernel
theorem dX11_mixesFamily_143 : decode cX11_mixesFamily 143 = .ok (.goto 8, 3) := by decide +kernel
theorem dX11_mixesFamily_146 : decode cX11_mixesFamily 146 = .ok (.iload_n 2, 1) := by decide +kernel
theorem dX11_mixesFamily_147 : decode cX11_mixesFamily 147 = .ok (.invokestatic 51, 3) := by decide +kernel
theorem dX11_mixesFamily_150 : decode cX11_mixesFamily 150 = .ok (.i2l, 1) := by decide +kernel
theorem dX11_mixesFamily_151 : decode cX11_mixesFamily 151 = .ok (.invokevirtual 182, 3) := by decide +kernel
theorem dX11_mixesFamily_154 : decode cX11_mixesFamily 154 = .ok (.aload_n 0, 1) := by decide +kernel
theorem dX11_mixesFamily_155 : decode cX11_mixesFamily 155 = .ok (.iload_n 2, 1) := by decide +kernel
theorem dX11_mixesFamily_156 : decode cX11_mixesFamily 156 = .ok (.i2l, 1) := by decide +kernel
theorem dX11_mixesFamily_157 : decode cX11_mixesFamily 157 = .ok (.invokevirtual 182, 3) := by decide +kernel
theorem dX11_mixesFamily_160 : decode cX11_mixesFamily 160 = .ok (.aload_n 0, 1) := by decide +kernel
theorem dX11_mixesFamily_161 : decode cX11_mixesFamily 161 = .ok (.aload_n 0, 1) := by decide +kernel
theorem dX11_mixesFamily_162 : decode cX11_mixesFamily 162 = .ok (.iload_n 1, 1) := by decide +kernel
theorem dX11_mixesFamily_163 : decode cX11_mixesFamily 163 = .ok (.invokevirtual 168, 3) := by decide +kernel
theorem dX11_mixesFamily_166 : decode cX11_mixesFamily 166 = .ok (.i2l, 1) := by decide +kernel
theorem dX11_mixesFamily_167 : decode cX11_mixesFamily 167 = .ok (.invokevirtual 182, 3) := by decide +kernel
theorem dX11_mixesFamily_170 : decode cX11_mixesFamily 170 = .ok (.aload_n 0, 1) := by decide +kernel
theorem dX11_mixesFamily_171 : decode cX11_mixesFamily 171 = .ok (.iload_n 1, 1) := by decide +kernel
theorem dX11_mixesFamily_172 : decode cX11_mixesFamily 172 = .ok (.invokevirtual 171, 3) := by decide +kernel
theorem dX11_mixesFamily_175 : decode cX11_mixesFamily 175 = .ok (.iconst 0, 1) := by decide +kernel
theorem dX11_mixesFamily_176 : decode cX11_mixesFamily 176 = .ok (.istore_n 3, 1) := by decide +kernel
theorem dX11_mixesFamily_177 : decode cX11_mixesFamily 177 = .ok (.iload_n 3, 1) := by decide +kernel
theorem dX11_mixesFamily_178 : decode cX11_mixesFamily 178 = .ok (.aload_n 0, 1) := by decide +kernel
theorem dX11_mixesFamily_179 : decode cX11_mixesFamily 179 = .ok (.getfield 7, 3) := by decide +kernel
theorem dX11_mixesFamily_182 : decode cX11_mixesFamily 182 = .ok (.if_icmp .gt 20, 3) := by decide +kernel
theorem dX11_mixesFamily_185 : decode cX11_mixesFamily 185 = .ok (.aload_n 0, 1) := by decide +kernel
theorem dX11_mixesFamily_186 : decode cX11_mixesFamily 186 = .ok (.aload_n 0, 1) := by decide +kernel
theorem dX11_mixesFamily_187 : decode cX11_mixesFamily 187 = .ok (.getfield 34, 3) := by decide +kernel
theorem dX11_mixesFamily_190 : decode cX11_mixesFamily 190 = .ok (.iload_n 3, 1) := by decide +kernel
theorem dX11_mixesFamily_191 : decode cX11_mixesFamily 191 = .ok (.iaload, 1) := by decide +kernel
theorem dX11_mixesFamily_192 : decode cX11_mixesFamily 192 = .ok (.i2l, 1) := by decide +kernel
theorem dX11_mixesFamily_193 : decode cX11_mixesFamily 193 = .ok (.invokevirtual 182, 3) := by decide +kernel
theorem dX11_mixesFamily_196 : decode cX11_mixesFamily 196 = .ok (.iinc 3 1, 3) := by decide +kernel
theorem dX11_mixesFamily_199 : decode cX11_mixesFamily 199 = .ok (.goto (-22), 3) := by decide +kernel
theorem dX11_mixesFamily_202 : decode cX11_mixesFamily 202 = .ok (.iconst 1, 1) := by decide +kernel
theorem dX11_mixesFamily_203 : decode cX11_mixesFamily 203 = .ok (.istore_n 3, 1) := by decide +kernel
theorem dX11_mixesFamily_204 : decode cX11_mixesFamily 204 = .ok (.iload_n 3, 1) := by decide +kernel
theorem dX11_mixesFamily_205 : decode cX11_mixesFamily 205 = .ok (.aload_n 0, 1) := by decide +kernel
theorem dX11_mixesFamily_206 : decode cX11_mixesFamily 206 = .ok (.getfield 7, 3) := by decide +kernel
theorem dX11_mixesFamily_209 : decode cX11_mixesFamily 209 = .ok (.if_icmp .gt 20, 3) := by decide +kernel
theorem dX11_mixesFamily_212 : decode cX11_mixesFamily 212 = .ok (.aload_n 0, 1) := by decide +kernel
theorem dX11_mixesFamily_213 : decode cX11_mixesFamily 213 = .ok (.aload_n 0, 1) := by decide +kernel
theorem dX11_mixesFamily_214 : decode cX11_mixesFamily 214 = .ok (.iload_n 1, 1) := by decide +kernel
theorem dX11_mixesFamily_215 : decode cX11_mixesFamily 215 = .ok (.iload_n 3, 1) := by decide +kernel
theorem dX11_mixesFamily_216 : decode cX11_mixesFamily 216 = .ok (.invokevirtual 125, 3) := by decide +kernel
theorem dX11_mixesFamily_219 : decode cX11_mixesFamily 219 = .ok (.i2l, 1) := by decide +kernel
theorem dX11_mixesFamily_220 : decode cX11_mixesFamily 220 = .ok (.invokevirtual 182, 3) := by decide +kernel
theorem dX11_mixesFamily_223 : decode cX11_mixesFamily 223 = .ok (.iinc 3 1, 3) := by decide +kernel
theorem dX11_mixesFamily_226 : decode cX11_mixesFamily 226 = .ok (.goto (-22), 3) := by decide +kernel
theorem dX11_mixesFamily_229 : decode cX11_mixesFamily 229 = .ok (.return_, 1) := by decide +kernel
theorem dX11_digest_0 : decode cX11_digest 0 = .ok (.aload_n 0, 1) := by decide +kernel
theorem dX11_digest_1 : decode cX11_digest 1 = .ok (.iconst 0, 1) := by decide +kernel
theorem dX11_digest_2 : decode cX11_digest 2 = .ok (.putfield 37, 3) := by decide +kernel
theorem dX11_digest_5 : decode cX11_digest 5 = .ok (.aload_n 0, 1) := by decide +kernel
theorem dX11_digest_6 : decode cX11_digest 6 = .ok (.ldc2_w 188, 3) := by decide +kernel
theorem dX11_digest_9 : decode cX11_digest 9 = .ok (.putfield 179, 3) := by decide +kernel
theorem dX11_digest_12 : decode cX11_digest 12 = .ok (.aload_n 0, 1) := by decide +kernel
theorem dX11_digest_13 : decode cX11_digest 13 = .ok (.aload_n 0, 1) := by decide +kernel
theorem dX11_digest_14 : decode cX11_digest 14 = .ok (.getfield 40, 3) := by decide +kernel
theorem dX11_digest_17 : decode cX11_digest 17 = .ok (.i2l, 1) := by decide +kernel
theorem dX11_digest_18 : decode cX11_digest 18 = .ok (.invokevirtual 182, 3) := by decide +kernel
theorem dX11_digest_21 : decode cX11_digest 21 = .ok (.aload_n 0, 1) := by decide +kernel
theorem dX11_digest_22 : decode cX11_digest 22 = .ok (.aload_n 0, 1) := by decide +kernel
theorem dX11_digest_23 : decode cX11_digest 23 = .ok (.getfield 174, 3) := by decide +kernel
theorem dX11_digest_26 : decode cX11_digest 26 = .ok (.i2l, 1) := by decide +kernel
theorem dX11_digest_27 : decode cX11_digest 27 = .ok (.invokevirtual 182, 3) := by decide +kernel
theorem dX11_digest_30 : decode cX11_digest 30 = .ok (.aload_n 0, 1) := by decide +kernel
theorem dX11_digest_31 : decode cX11_digest 31 = .ok (.aload_n 0, 1) := by decide +kernel
theorem dX11_digest_32 : decode cX11_digest 32 = .ok (.getfield 7, 3) := by decide +kernel
theorem dX11_digest_35 : decode cX11_digest 35 = .ok (.i2l, 1) := by decide +kernel
theorem dX11_digest_36 : decode cX11_digest 36 = .ok (.invokevirtual 182, 3) := by decide +kernel
theorem dX11_digest_39 : decode cX11_digest 39 = .ok (.iconst 0, 1) := by decide +kernel
theorem dX11_digest_40 : decode cX11_digest 40 = .ok (.istore_n 1, 1) := by decide +kernel
theorem dX11_digest_41 : decode cX11_digest 41 = .ok (.iload_n 1, 1) := by decide +kernel
theorem dX11_digest_42 : decode cX11_digest 42 = .ok (.iconst 4, 1) := by decide +kernel
theorem dX11_digest_43 : decode cX11_digest 43 = .ok (.if_icmp .ge 14, 3) := by decide +kernel
theorem dX11_digest_46 : decode cX11_digest 46 = .ok (.aload_n 0, 1) := by decide +kernel
theorem dX11_digest_47 : decode cX11_digest 47 = .ok (.iload_n 1, 1) := by decide +kernel
theorem dX11_digest_48 : decode cX11_digest 48 = .ok (.invokevirtual 190, 3) := by decide +kernel
theorem dX11_digest_51 : decode cX11_digest 51 = .ok (.iinc 1 1, 3) := by decide +kernel
theorem dX11_digest_54 : decode cX11_digest 54 = .ok (.goto (-13), 3) := by decide +kernel
theorem dX11_digest_57 : decode cX11_digest 57 = .ok (.iconst 0, 1) := by decide +kernel
theorem dX11_digest_58 : decode cX11_digest 58 = .ok (.istore_n 1, 1) := by decide +kernel
theorem dX11_digest_59 : decode cX11_digest 59 = .ok (.iload_n 1, 1) := by decide +kernel
theorem dX11_digest_60 : decode cX11_digest 60 = .ok (.iconst 4, 1) := by decide +kernel
theorem dX11_digest_61 : decode cX11_digest 61 = .ok (.if_icmp .ge 33, 3) := by decide +kernel
theorem dX11_digest_64 : decode cX11_digest 64 = .ok (.iconst 0, 1) := by decide +kernel
theorem dX11_digest_65 : decode cX11_digest 65 = .ok (.istore_n 2, 1) := by decide +kernel
theorem dX11_digest_66 : decode cX11_digest 66 = .ok (.iload_n 2, 1) := by decide +kernel
theorem dX11_digest_67 : decode cX11_digest 67 = .ok (.iconst 4, 1) := by decide +kernel
theorem dX11_digest_68 : decode cX11_digest 68 = .ok (.if_icmp .ge 20, 3) := by decide +kernel
theorem dX11_digest_71 : decode cX11_digest 71 = .ok (.aload_n 0, 1) := by decide +kernel
theorem dX11_digest_72 : decode cX11_digest 72 = .ok (.aload_n 0, 1) := by decide +kernel
theorem dX11_digest_73 : decode cX11_digest 73 = .ok (.iload_n 1, 1) := by decide +kernel
theorem dX11_digest_74 : decode cX11_digest 74 = .ok (.iload_n 2, 1) := by decide +kernel
theorem dX11_digest_75 : decode cX11_digest 75 = .ok (.invokevirtual 162, 3) := by decide +kernel
theorem dX11_digest_78 : decode cX11_digest 78 = .ok (.i2l, 1) := by decide +kernel
theorem dX11_digest_79 : decode cX11_digest 79 = .ok (.invokevirtual 182, 3) := by decide +kernel
theorem dX11_digest_82 : decode cX11_digest 82 = .ok (.iinc 2 1, 3) := by decide +kernel
theorem dX11_digest_85 : decode cX11_digest 85 = .ok (.goto (-19), 3) := by decide +kernel
theorem dX11_digest_88 : decode cX11_digest 88 = .ok (.iinc 1 1, 3) := by decide +kernel
theorem dX11_digest_91 : decode cX11_digest 91 = .ok (.goto (-32), 3) := by decide +kernel
theorem dX11_digest_94 : decode cX11_digest 94 = .ok (.aload_n 0, 1) := by decide +kernel
theorem dX11_digest_95 : decode cX11_digest 95 = .ok (.getfield 179, 3) := by decide +kernel
theorem dX11_digest_98 : decode cX11_digest 98 = .ok (.lreturn, 1) := by decide +kernel
