theorem dX4_init_0 : decode cX4_init 0 = .ok (.aload_n 0, 1) := by decide +kernel
theorem dX4_init_1 : decode cX4_init 1 = .ok (.invokespecial 1, 3) := by decide +kernel
theorem dX4_init_4 : decode cX4_init 4 = .ok (.aload_n 0, 1) := by decide +kernel
theorem dX4_init_5 : decode cX4_init 5 = .ok (.bipush 40, 2) := by decide +kernel
theorem dX4_init_7 : decode cX4_init 7 = .ok (.newarray .boolean, 2) := by decide +kernel
theorem dX4_init_9 : decode cX4_init 9 = .ok (.putfield 7, 3) := by decide +kernel
theorem dX4_init_12 : decode cX4_init 12 = .ok (.aload_n 0, 1) := by decide +kernel
theorem dX4_init_13 : decode cX4_init 13 = .ok (.bipush 16, 2) := by decide +kernel
theorem dX4_init_15 : decode cX4_init 15 = .ok (.newarray .boolean, 2) := by decide +kernel
theorem dX4_init_17 : decode cX4_init 17 = .ok (.putfield 13, 3) := by decide +kernel
theorem dX4_init_20 : decode cX4_init 20 = .ok (.aload_n 0, 1) := by decide +kernel
theorem dX4_init_21 : decode cX4_init 21 = .ok (.bipush 16, 2) := by decide +kernel
theorem dX4_init_23 : decode cX4_init 23 = .ok (.newarray .int, 2) := by decide +kernel
theorem dX4_init_25 : decode cX4_init 25 = .ok (.putfield 16, 3) := by decide +kernel
theorem dX4_init_28 : decode cX4_init 28 = .ok (.aload_n 0, 1) := by decide +kernel
theorem dX4_init_29 : decode cX4_init 29 = .ok (.bipush 6, 2) := by decide +kernel
theorem dX4_init_31 : decode cX4_init 31 = .ok (.newarray .int, 2) := by decide +kernel
theorem dX4_init_33 : decode cX4_init 33 = .ok (.putfield 20, 3) := by decide +kernel
theorem dX4_init_36 : decode cX4_init 36 = .ok (.aload_n 0, 1) := by decide +kernel
theorem dX4_init_37 : decode cX4_init 37 = .ok (.bipush 6, 2) := by decide +kernel
theorem dX4_init_39 : decode cX4_init 39 = .ok (.newarray .int, 2) := by decide +kernel
theorem dX4_init_41 : decode cX4_init 41 = .ok (.putfield 23, 3) := by decide +kernel
theorem dX4_init_44 : decode cX4_init 44 = .ok (.aload_n 0, 1) := by decide +kernel
theorem dX4_init_45 : decode cX4_init 45 = .ok (.sipush 250, 3) := by decide +kernel
theorem dX4_init_48 : decode cX4_init 48 = .ok (.newarray .int, 2) := by decide +kernel
theorem dX4_init_50 : decode cX4_init 50 = .ok (.putfield 26, 3) := by decide +kernel
theorem dX4_init_53 : decode cX4_init 53 = .ok (.aload_n 0, 1) := by decide +kernel
theorem dX4_init_54 : decode cX4_init 54 = .ok (.bipush 8, 2) := by decide +kernel
theorem dX4_init_56 : decode cX4_init 56 = .ok (.newarray .int, 2) := by decide +kernel
theorem dX4_init_58 : decode cX4_init 58 = .ok (.putfield 29, 3) := by decide +kernel
theorem dX4_init_61 : decode cX4_init 61 = .ok (.aload_n 0, 1) := by decide +kernel
theorem dX4_init_62 : decode cX4_init 62 = .ok (.bipush 8, 2) := by decide +kernel
theorem dX4_init_64 : decode cX4_init 64 = .ok (.newarray .int, 2) := by decide +kernel
theorem dX4_init_66 : decode cX4_init 66 = .ok (.putfield 32, 3) := by decide +kernel
theorem dX4_init_69 : decode cX4_init 69 = .ok (.aload_n 0, 1) := by decide +kernel
theorem dX4_init_70 : decode cX4_init 70 = .ok (.sipush 320, 3) := by decide +kernel
theorem dX4_init_73 : decode cX4_init 73 = .ok (.newarray .long, 2) := by decide +kernel
theorem dX4_init_75 : decode cX4_init 75 = .ok (.putfield 35, 3) := by decide +kernel
theorem dX4_init_78 : decode cX4_init 78 = .ok (.aload_n 0, 1) := by decide +kernel
theorem dX4_init_79 : decode cX4_init 79 = .ok (.bipush 7, 2) := by decide +kernel
theorem dX4_init_81 : decode cX4_init 81 = .ok (.newarray .int, 2) := by decide +kernel
theorem dX4_init_83 : decode cX4_init 83 = .ok (.putfield 39, 3) := by decide +kernel
theorem dX4_init_86 : decode cX4_init 86 = .ok (.aload_n 0, 1) := by decide +kernel
theorem dX4_init_87 : decode cX4_init 87 = .ok (.bipush 90, 2) := by decide +kernel
theorem dX4_init_89 : decode cX4_init 89 = .ok (.newarray .int, 2) := by decide +kernel
theorem dX4_init_91 : decode cX4_init 91 = .ok (.putfield 42, 3) := by decide +kernel
theorem dX4_init_94 : decode cX4_init 94 = .ok (.aload_n 0, 1) := by decide +kernel
theorem dX4_init_95 : decode cX4_init 95 = .ok (.bipush 90, 2) := by decide +kernel
theorem dX4_init_97 : decode cX4_init 97 = .ok (.newarray .int, 2) := by decide +kernel
theorem dX4_init_99 : decode cX4_init 99 = .ok (.putfield 45, 3) := by decide +kernel
theorem dX4_init_102 : decode cX4_init 102 = .ok (.aload_n 0, 1) := by decide +kernel
theorem dX4_init_103 : decode cX4_init 103 = .ok (.iconst 1, 1) := by decide +kernel
theorem dX4_init_104 : decode cX4_init 104 = .ok (.putfield 48, 3) := by decide +kernel
theorem dX4_init_107 : decode cX4_init 107 = .ok (.iconst 0, 1) := by decide +kernel
theorem dX4_init_108 : decode cX4_init 108 = .ok (.istore_n 1, 1) := by decide +kernel
theorem dX4_init_109 : decode cX4_init 109 = .ok (.iload_n 1, 1) := by decide +kernel
theorem dX4_init_110 : decode cX4_init 110 = .ok (.bipush 8, 2) := by decide +kernel
theorem dX4_init_112 : decode cX4_init 112 = .ok (.if_icmp .ge 16, 3) := by decide +kernel
theorem dX4_init_115 : decode cX4_init 115 = .ok (.aload_n 0, 1) := by decide +kernel
theorem dX4_init_116 : decode cX4_init 116 = .ok (.getfield 29, 3) := by decide +kernel
theorem dX4_init_119 : decode cX4_init 119 = .ok (.iload_n 1, 1) := by decide +kernel
theorem dX4_init_120 : decode cX4_init 120 = .ok (.iconst (-1), 1) := by decide +kernel
theorem dX4_init_121 : decode cX4_init 121 = .ok (.iastore, 1) := by decide +kernel
theorem dX4_init_122 : decode cX4_init 122 = .ok (.iinc 1 1, 3) := by decide +kernel
theorem dX4_init_125 : decode cX4_init 125 = .ok (.goto (-16), 3) := by decide +kernel
theorem dX4_init_128 : decode cX4_init 128 = .ok (.aload_n 0, 1) := by decide +kernel
theorem dX4_init_129 : decode cX4_init 129 = .ok (.iconst 2, 1) := by decide +kernel
theorem dX4_init_130 : decode cX4_init 130 = .ok (.iconst 2, 1) := by decide +kernel
theorem dX4_init_131 : decode cX4_init 131 = .ok (.invokevirtual 52, 3) := by decide +kernel
theorem dX4_init_134 : decode cX4_init 134 = .ok (.pop, 1) := by decide +kernel
theorem dX4_init_135 : decode cX4_init 135 = .ok (.return_, 1) := by decide +kernel
theorem dX4_no_0 : decode cX4_no 0 = .ok (.aload_n 0, 1) := by decide +kernel
theorem dX4_no_1 : decode cX4_no 1 = .ok (.getfield 39, 3) := by decide +kernel
theorem dX4_no_4 : decode cX4_no 4 = .ok (.iload_n 1, 1) := by decide +kernel
theorem dX4_no_5 : decode cX4_no 5 = .ok (.ineg, 1) := by decide +kernel
theorem dX4_no_6 : decode cX4_no 6 = .ok (.dup2, 1) := by decide +kernel
theorem dX4_no_7 : decode cX4_no 7 = .ok (.iaload, 1) := by decide +kernel
theorem dX4_no_8 : decode cX4_no 8 = .ok (.iconst 1, 1) := by decide +kernel
theorem dX4_no_9 : decode cX4_no 9 = .ok (.iadd, 1) := by decide +kernel
theorem dX4_no_10 : decode cX4_no 10 = .ok (.iastore, 1) := by decide +kernel
theorem dX4_no_11 : decode cX4_no 11 = .ok (.iload_n 1, 1) := by decide +kernel
theorem dX4_no_12 : decode cX4_no 12 = .ok (.ireturn, 1) := by decide +kernel
theorem dX4_noLead_0 : decode cX4_noLead 0 = .ok (.aload_n 0, 1) := by decide +kernel
theorem dX4_noLead_1 : decode cX4_noLead 1 = .ok (.iload_n 1, 1) := by decide +kernel
theorem dX4_noLead_2 : decode cX4_noLead 2 = .ok (.invokevirtual 56, 3) := by decide +kernel
theorem dX4_noLead_5 : decode cX4_noLead 5 = .ok (.sipush 1000, 3) := by decide +kernel
theorem dX4_noLead_8 : decode cX4_noLead 8 = .ok (.isub, 1) := by decide +kernel
theorem dX4_noLead_9 : decode cX4_noLead 9 = .ok (.ireturn, 1) := by decide +kernel
theorem dX4_within_0 : decode cX4_within 0 = .ok (.iload_n 0, 1) := by decide +kernel
theorem dX4_within_1 : decode cX4_within 1 = .ok (.iload_n 1, 1) := by decide +kernel
theorem dX4_within_2 : decode cX4_within 2 = .ok (.if_icmp .lt 12, 3) := by decide +kernel
theorem dX4_within_5 : decode cX4_within 5 = .ok (.iload_n 0, 1) := by decide +kernel
theorem dX4_within_6 : decode cX4_within 6 = .ok (.iload_n 2, 1) := by decide +kernel
theorem dX4_within_7 : decode cX4_within 7 = .ok (.if_icmp .gt 7, 3) := by decide +kernel
theorem dX4_within_10 : decode cX4_within 10 = .ok (.iconst 1, 1) := by decide +kernel
theorem dX4_within_11 : decode cX4_within 11 = .ok (.goto 4, 3) := by decide +kernel
theorem dX4_within_14 : decode cX4_within 14 = .ok (.iconst 0, 1) := by decide +kernel
theorem dX4_within_15 : decode cX4_within 15 = .ok (.ireturn, 1) := by decide +kernel
theorem dX4_isPlayer_0 : decode cX4_isPlayer 0 = .ok (.iload_n 1, 1) := by decide +kernel
theorem dX4_isPlayer_1 : decode cX4_isPlayer 1 = .ok (.iconst 0, 1) := by decide +kernel
theorem dX4_isPlayer_2 : decode cX4_isPlayer 2 = .ok (.aload_n 0, 1) := by decide +kernel
theorem dX4_isPlayer_3 : decode cX4_isPlayer 3 = .ok (.getfield 60, 3) := by decide +kernel
theorem dX4_isPlayer_6 : decode cX4_isPlayer 6 = .ok (.iconst 1, 1) := by decide +kernel
theorem dX4_isPlayer_7 : decode cX4_isPlayer 7 = .ok (.isub, 1) := by decide +kernel
theorem dX4_isPlayer_8 : decode cX4_isPlayer 8 = .ok (.invokestatic 63, 3) := by decide +kernel
theorem dX4_isPlayer_11 : decode cX4_isPlayer 11 = .ok (.ireturn, 1) := by decide +kernel
theorem dX4_isField_0 : decode cX4_isField 0 = .ok (.iload_n 1, 1) := by decide +kernel
theorem dX4_isField_1 : decode cX4_isField 1 = .ok (.iconst 0, 1) := by decide +kernel
theorem dX4_isField_2 : decode cX4_isField 2 = .ok (.aload_n 0, 1) := by decide +kernel
theorem dX4_isField_3 : decode cX4_isField 3 = .ok (.getfield 67, 3) := by decide +kernel
theorem dX4_isField_6 : decode cX4_isField 6 = .ok (.aload_n 0, 1) := by decide +kernel
theorem dX4_isField_7 : decode cX4_isField 7 = .ok (.getfield 70, 3) := by decide +kernel
theorem dX4_isField_10 : decode cX4_isField 10 = .ok (.imul, 1) := by decide +kernel
theorem dX4_isField_11 : decode cX4_isField 11 = .ok (.iconst 1, 1) := by decide +kernel
theorem dX4_isField_12 : decode cX4_isField 12 = .ok (.isub, 1) := by decide +kernel
theorem dX4_isField_13 : decode cX4_isField 13 = .ok (.invokestatic 63, 3) := by decide +kernel
theorem dX4_isField_16 : decode cX4_isField 16 = .ok (.ireturn, 1) := by decide +kernel
theorem dX4_isShelf_0 : decode cX4_isShelf 0 = .ok (.iload_n 0, 1) := by decide +kernel
theorem dX4_isShelf_1 : decode cX4_isShelf 1 = .ok (.iconst 0, 1) := by decide +kernel
theorem dX4_isShelf_2 : decode cX4_isShelf 2 = .ok (.bipush 7, 2) := by decide +kernel
theorem dX4_isShelf_4 : decode cX4_isShelf 4 = .ok (.invokestatic 63, 3) := by decide +kernel
theorem dX4_isShelf_7 : decode cX4_isShelf 7 = .ok (.ireturn, 1) := by decide +kernel
theorem dX4_isRow_0 : decode cX4_isRow 0 = .ok (.aload_n 0, 1) := by decide +kernel
theorem dX4_isRow_1 : decode cX4_isRow 1 = .ok (.getfield 29, 3) := by decide +kernel
theorem dX4_isRow_4 : decode cX4_isRow 4 = .ok (.iload_n 1, 1) := by decide +kernel
theorem dX4_isRow_5 : decode cX4_isRow 5 = .ok (.iaload, 1) := by decide +kernel
theorem dX4_isRow_6 : decode cX4_isRow 6 = .ok (.iconst 0, 1) := by decide +kernel
theorem dX4_isRow_7 : decode cX4_isRow 7 = .ok (.iconst 4, 1) := by decide +kernel
theorem dX4_isRow_8 : decode cX4_isRow 8 = .ok (.invokestatic 63, 3) := by decide +kernel
theorem dX4_isRow_11 : decode cX4_isRow 11 = .ok (.ireturn, 1) := by decide +kernel
theorem dX4_row_0 : decode cX4_row 0 = .ok (.iload_n 1, 1) := by decide +kernel
theorem dX4_row_1 : decode cX4_row 1 = .ok (.invokestatic 73, 3) := by decide +kernel
theorem dX4_row_4 : decode cX4_row 4 = .ok (.ifCond .eq 22, 3) := by decide +kernel
theorem dX4_row_7 : decode cX4_row 7 = .ok (.iload_n 2, 1) := by decide +kernel
theorem dX4_row_8 : decode cX4_row 8 = .ok (.iconst 0, 1) := by decide +kernel
theorem dX4_row_9 : decode cX4_row 9 = .ok (.iconst 4, 1) := by decide +kernel
theorem dX4_row_10 : decode cX4_row 10 = .ok (.invokestatic 63, 3) := by decide +kernel
theorem dX4_row_13 : decode cX4_row 13 = .ok (.ifCond .eq 13, 3) := by decide +kernel
theorem dX4_row_16 : decode cX4_row 16 = .ok (.iload_n 3, 1) := by decide +kernel
theorem dX4_row_17 : decode cX4_row 17 = .ok (.iconst 0, 1) := by decide +kernel
theorem dX4_row_18 : decode cX4_row 18 = .ok (.bipush 40, 2) := by decide +kernel
theorem dX4_row_20 : decode cX4_row 20 = .ok (.invokestatic 63, 3) := by decide +kernel
theorem dX4_row_23 : decode cX4_row 23 = .ok (.ifCond .ne 10, 3) := by decide +kernel
theorem dX4_row_26 : decode cX4_row 26 = .ok (.aload_n 0, 1) := by decide +kernel
theorem dX4_row_27 : decode cX4_row 27 = .ok (.bipush (-2), 2) := by decide +kernel
theorem dX4_row_29 : decode cX4_row 29 = .ok (.invokevirtual 56, 3) := by decide +kernel
theorem dX4_row_32 : decode cX4_row 32 = .ok (.ireturn, 1) := by decide +kernel
theorem dX4_row_33 : decode cX4_row 33 = .ok (.aload_n 0, 1) := by decide +kernel
theorem dX4_row_34 : decode cX4_row 34 = .ok (.getfield 29, 3) := by decide +kernel
theorem dX4_row_37 : decode cX4_row 37 = .ok (.iload_n 1, 1) := by decide +kernel
theorem dX4_row_38 : decode cX4_row 38 = .ok (.iload_n 2, 1) := by decide +kernel
theorem dX4_row_39 : decode cX4_row 39 = .ok (.iastore, 1) := by decide +kernel
theorem dX4_row_40 : decode cX4_row 40 = .ok (.aload_n 0, 1) := by decide +kernel
theorem dX4_row_41 : decode cX4_row 41 = .ok (.getfield 32, 3) := by decide +kernel
theorem dX4_row_44 : decode cX4_row 44 = .ok (.iload_n 1, 1) := by decide +kernel
theorem dX4_row_45 : decode cX4_row 45 = .ok (.iload_n 3, 1) := by decide +kernel
theorem dX4_row_46 : decode cX4_row 46 = .ok (.iastore, 1) := by decide +kernel
theorem dX4_row_47 : decode cX4_row 47 = .ok (.iconst 0, 1) := by decide +kernel
theorem dX4_row_48 : decode cX4_row 48 = .ok (.istore 4, 2) := by decide +kernel
theorem dX4_row_50 : decode cX4_row 50 = .ok (.iload 4, 2) := by decide +kernel
theorem dX4_row_52 : decode cX4_row 52 = .ok (.bipush 40, 2) := by decide +kernel
theorem dX4_row_54 : decode cX4_row 54 = .ok (.if_icmp .ge 22, 3) := by decide +kernel
theorem dX4_row_57 : decode cX4_row 57 = .ok (.aload_n 0, 1) := by decide +kernel
theorem dX4_row_58 : decode cX4_row 58 = .ok (.getfield 35, 3) := by decide +kernel
theorem dX4_row_61 : decode cX4_row 61 = .ok (.bipush 40, 2) := by decide +kernel
theorem dX4_row_63 : decode cX4_row 63 = .ok (.iload_n 1, 1) := by decide +kernel
theorem dX4_row_64 : decode cX4_row 64 = .ok (.imul, 1) := by decide +kernel
theorem dX4_row_65 : decode cX4_row 65 = .ok (.iload 4, 2) := by decide +kernel
theorem dX4_row_67 : decode cX4_row 67 = .ok (.iadd, 1) := by decide +kernel
theorem dX4_row_68 : decode cX4_row 68 = .ok (.lconst 0, 1) := by decide +kernel
theorem dX4_row_69 : decode cX4_row 69 = .ok (.lastore, 1) := by decide +kernel
theorem dX4_row_70 : decode cX4_row 70 = .ok (.iinc 4 1, 3) := by decide +kernel
theorem dX4_row_73 : decode cX4_row 73 = .ok (.goto (-23), 3) := by decide +kernel
theorem dX4_row_76 : decode cX4_row 76 = .ok (.iconst 1, 1) := by decide +kernel
theorem dX4_row_77 : decode cX4_row 77 = .ok (.ireturn, 1) := by decide +kernel
theorem dX4_noRow_0 : decode cX4_noRow 0 = .ok (.aload_n 0, 1) := by decide +kernel
theorem dX4_noRow_1 : decode cX4_noRow 1 = .ok (.getfield 29, 3) := by decide +kernel
theorem dX4_noRow_4 : decode cX4_noRow 4 = .ok (.iload_n 1, 1) := by decide +kernel
theorem dX4_noRow_5 : decode cX4_noRow 5 = .ok (.iaload, 1) := by decide +kernel
theorem dX4_noRow_6 : decode cX4_noRow 6 = .ok (.bipush 10, 2) := by decide +kernel
theorem dX4_noRow_8 : decode cX4_noRow 8 = .ok (.if_icmp .lt 8, 3) := by decide +kernel
theorem dX4_noRow_11 : decode cX4_noRow 11 = .ok (.bipush (-3), 2) := by decide +kernel
theorem dX4_noRow_13 : decode cX4_noRow 13 = .ok (.goto 18, 3) := by decide +kernel
theorem dX4_noRow_16 : decode cX4_noRow 16 = .ok (.aload_n 0, 1) := by decide +kernel
theorem dX4_noRow_17 : decode cX4_noRow 17 = .ok (.getfield 29, 3) := by decide +kernel
theorem dX4_noRow_20 : decode cX4_noRow 20 = .ok (.iload_n 1, 1) := by decide +kernel
theorem dX4_noRow_21 : decode cX4_noRow 21 = .ok (.iaload, 1) := by decide +kernel
theorem dX4_noRow_22 : decode cX4_noRow 22 = .ok (.ifCond .ge 8, 3) := by decide +kernel
theorem dX4_noRow_25 : decode cX4_noRow 25 = .ok (.bipush (-4), 2) := by decide +kernel
theorem dX4_noRow_27 : decode cX4_noRow 27 = .ok (.goto 4, 3) := by decide +kernel
theorem dX4_noRow_30 : decode cX4_noRow 30 = .ok (.iconst 0, 1) := by decide +kernel
theorem dX4_noRow_31 : decode cX4_noRow 31 = .ok (.ireturn, 1) := by decide +kernel
theorem dX4_kept_0 : decode cX4_kept 0 = .ok (.iload_n 0, 1) := by decide +kernel
theorem dX4_kept_1 : decode cX4_kept 1 = .ok (.tableswitch 47 0 3 #[31, 36, 41, 45], 31) := by decide +kernel
theorem dX4_kept_32 : decode cX4_kept 32 = .ok (.lload_n 1, 1) := by decide +kernel
theorem dX4_kept_33 : decode cX4_kept 33 = .ok (.l2i, 1) := by decide +kernel
theorem dX4_kept_34 : decode cX4_kept 34 = .ok (.i2b, 1) := by decide +kernel
theorem dX4_kept_35 : decode cX4_kept 35 = .ok (.i2l, 1) := by decide +kernel
theorem dX4_kept_36 : decode cX4_kept 36 = .ok (.lreturn, 1) := by decide +kernel
theorem dX4_kept_37 : decode cX4_kept 37 = .ok (.lload_n 1, 1) := by decide +kernel
theorem dX4_kept_38 : decode cX4_kept 38 = .ok (.l2i, 1) := by decide +kernel
theorem dX4_kept_39 : decode cX4_kept 39 = .ok (.i2s, 1) := by decide +kernel
theorem dX4_kept_40 : decode cX4_kept 40 = .ok (.i2l, 1) := by decide +kernel
theorem dX4_kept_41 : decode cX4_kept 41 = .ok (.lreturn, 1) := by decide +kernel
theorem dX4_kept_42 : decode cX4_kept 42 = .ok (.lload_n 1, 1) := by decide +kernel
theorem dX4_kept_43 : decode cX4_kept 43 = .ok (.l2i, 1) := by decide +kernel
theorem dX4_kept_44 : decode cX4_kept 44 = .ok (.i2l, 1) := by decide +kernel
theorem dX4_kept_45 : decode cX4_kept 45 = .ok (.lreturn, 1) := by decide +kernel
theorem dX4_kept_46 : decode cX4_kept 46 = .ok (.lload_n 1, 1) := by decide +kernel
theorem dX4_kept_47 : decode cX4_kept 47 = .ok (.lreturn, 1) := by decide +kernel
theorem dX4_kept_48 : decode cX4_kept 48 = .ok (.lload_n 1, 1) := by decide +kernel
theorem dX4_kept_49 : decode cX4_kept 49 = .ok (.lconst 0, 1) := by decide +kernel
theorem dX4_kept_50 : decode cX4_kept 50 = .ok (.lcmp, 1) := by decide +kernel
theorem dX4_kept_51 : decode cX4_kept 51 = .ok (.ifCond .eq 7, 3) := by decide +kernel
theorem dX4_kept_54 : decode cX4_kept 54 = .ok (.lconst 1, 1) := by decide +kernel
theorem dX4_kept_55 : decode cX4_kept 55 = .ok (.goto 4, 3) := by decide +kernel
theorem dX4_kept_58 : decode cX4_kept 58 = .ok (.lconst 0, 1) := by decide +kernel
theorem dX4_kept_59 : decode cX4_kept 59 = .ok (.lreturn, 1) := by decide +kernel
theorem dX4_set_0 : decode cX4_set 0 = .ok (.iload_n 1, 1) := by decide +kernel
theorem dX4_set_1 : decode cX4_set 1 = .ok (.invokestatic 73, 3) := by decide +kernel
theorem dX4_set_4 : decode cX4_set 4 = .ok (.ifCond .ne 10, 3) := by decide +kernel
theorem dX4_set_7 : decode cX4_set 7 = .ok (.aload_n 0, 1) := by decide +kernel
theorem dX4_set_8 : decode cX4_set 8 = .ok (.bipush (-2), 2) := by decide +kernel
theorem dX4_set_10 : decode cX4_set 10 = .ok (.invokevirtual 56, 3) := by decide +kernel
theorem dX4_set_13 : decode cX4_set 13 = .ok (.ireturn, 1) := by decide +kernel
theorem dX4_set_14 : decode cX4_set 14 = .ok (.aload_n 0, 1) := by decide +kernel
theorem dX4_set_15 : decode cX4_set 15 = .ok (.iload_n 1, 1) := by decide +kernel
theorem dX4_set_16 : decode cX4_set 16 = .ok (.invokevirtual 77, 3) := by decide +kernel
theorem dX4_set_19 : decode cX4_set 19 = .ok (.ifCond .ne 13, 3) := by decide +kernel
theorem dX4_set_22 : decode cX4_set 22 = .ok (.aload_n 0, 1) := by decide +kernel
theorem dX4_set_23 : decode cX4_set 23 = .ok (.aload_n 0, 1) := by decide +kernel
theorem dX4_set_24 : decode cX4_set 24 = .ok (.iload_n 1, 1) := by decide +kernel
theorem dX4_set_25 : decode cX4_set 25 = .ok (.invokevirtual 80, 3) := by decide +kernel
theorem dX4_set_28 : decode cX4_set 28 = .ok (.invokevirtual 56, 3) := by decide +kernel
theorem dX4_set_31 : decode cX4_set 31 = .ok (.ireturn, 1) := by decide +kernel
theorem dX4_set_32 : decode cX4_set 32 = .ok (.iload_n 2, 1) := by decide +kernel
theorem dX4_set_33 : decode cX4_set 33 = .ok (.iconst 0, 1) := by decide +kernel
theorem dX4_set_34 : decode cX4_set 34 = .ok (.aload_n 0, 1) := by decide +kernel
theorem dX4_set_35 : decode cX4_set 35 = .ok (.getfield 32, 3) := by decide +kernel
theorem dX4_set_38 : decode cX4_set 38 = .ok (.iload_n 1, 1) := by decide +kernel
theorem dX4_set_39 : decode cX4_set 39 = .ok (.iaload, 1) := by decide +kernel
theorem dX4_set_40 : decode cX4_set 40 = .ok (.iconst 1, 1) := by decide +kernel
theorem dX4_set_41 : decode cX4_set 41 = .ok (.isub, 1) := by decide +kernel
theorem dX4_set_42 : decode cX4_set 42 = .ok (.invokestatic 63, 3) := by decide +kernel
theorem dX4_set_45 : decode cX4_set 45 = .ok (.ifCond .ne 10, 3) := by decide +kernel
theorem dX4_set_48 : decode cX4_set 48 = .ok (.aload_n 0, 1) := by decide +kernel
theorem dX4_set_49 : decode cX4_set 49 = .ok (.bipush (-2), 2) := by decide +kernel
theorem dX4_set_51 : decode cX4_set 51 = .ok (.invokevirtual 56, 3) := by decide +kernel
theorem dX4_set_54 : decode cX4_set 54 = .ok (.ireturn, 1) := by decide +kernel
theorem dX4_set_55 : decode cX4_set 55 = .ok (.aload_n 0, 1) := by decide +kernel
theorem dX4_set_56 : decode cX4_set 56 = .ok (.getfield 35, 3) := by decide +kernel
theorem dX4_set_59 : decode cX4_set 59 = .ok (.bipush 40, 2) := by decide +kernel
theorem dX4_set_61 : decode cX4_set 61 = .ok (.iload_n 1, 1) := by decide +kernel
theorem dX4_set_62 : decode cX4_set 62 = .ok (.imul, 1) := by decide +kernel
theorem dX4_set_63 : decode cX4_set 63 = .ok (.iload_n 2, 1) := by decide +kernel
theorem dX4_set_64 : decode cX4_set 64 = .ok (.iadd, 1) := by decide +kernel
theorem dX4_set_65 : decode cX4_set 65 = .ok (.aload_n 0, 1) := by decide +kernel
theorem dX4_set_66 : decode cX4_set 66 = .ok (.getfield 29, 3) := by decide +kernel
theorem dX4_set_69 : decode cX4_set 69 = .ok (.iload_n 1, 1) := by decide +kernel
theorem dX4_set_70 : decode cX4_set 70 = .ok (.iaload, 1) := by decide +kernel
theorem dX4_set_71 : decode cX4_set 71 = .ok (.lload_n 3, 1) := by decide +kernel
theorem dX4_set_72 : decode cX4_set 72 = .ok (.invokestatic 83, 3) := by decide +kernel
theorem dX4_set_75 : decode cX4_set 75 = .ok (.lastore, 1) := by decide +kernel
theorem dX4_set_76 : decode cX4_set 76 = .ok (.iconst 1, 1) := by decide +kernel
theorem dX4_set_77 : decode cX4_set 77 = .ok (.ireturn, 1) := by decide +kernel
theorem dX4_copy_0 : decode cX4_copy 0 = .ok (.iload_n 1, 1) := by decide +kernel
theorem dX4_copy_1 : decode cX4_copy 1 = .ok (.invokestatic 73, 3) := by decide +kernel
theorem dX4_copy_4 : decode cX4_copy 4 = .ok (.ifCond .eq 10, 3) := by decide +kernel
theorem dX4_copy_7 : decode cX4_copy 7 = .ok (.iload_n 2, 1) := by decide +kernel
theorem dX4_copy_8 : decode cX4_copy 8 = .ok (.invokestatic 73, 3) := by decide +kernel
theorem dX4_copy_11 : decode cX4_copy 11 = .ok (.ifCond .ne 10, 3) := by decide +kernel
theorem dX4_copy_14 : decode cX4_copy 14 = .ok (.aload_n 0, 1) := by decide +kernel
theorem dX4_copy_15 : decode cX4_copy 15 = .ok (.bipush (-2), 2) := by decide +kernel
theorem dX4_copy_17 : decode cX4_copy 17 = .ok (.invokevirtual 56, 3) := by decide +kernel
theorem dX4_copy_20 : decode cX4_copy 20 = .ok (.ireturn, 1) := by decide +kernel
theorem dX4_copy_21 : decode cX4_copy 21 = .ok (.aload_n 0, 1) := by decide +kernel
theorem dX4_copy_22 : decode cX4_copy 22 = .ok (.getfield 29, 3) := by decide +kernel
theorem dX4_copy_25 : decode cX4_copy 25 = .ok (.iload_n 1, 1) := by decide +kernel
theorem dX4_copy_26 : decode cX4_copy 26 = .ok (.iaload, 1) := by decide +kernel
theorem dX4_copy_27 : decode cX4_copy 27 = .ok (.bipush 10, 2) := by decide +kernel
theorem dX4_copy_29 : decode cX4_copy 29 = .ok (.if_icmp .ge 45, 3) := by decide +kernel
theorem dX4_copy_32 : decode cX4_copy 32 = .ok (.aload_n 0, 1) := by decide +kernel
theorem dX4_copy_33 : decode cX4_copy 33 = .ok (.getfield 29, 3) := by decide +kernel
theorem dX4_copy_36 : decode cX4_copy 36 = .ok (.iload_n 2, 1) := by decide +kernel
theorem dX4_copy_37 : decode cX4_copy 37 = .ok (.iaload, 1) := by decide +kernel
theorem dX4_copy_38 : decode cX4_copy 38 = .ok (.bipush 10, 2) := by decide +kernel
theorem dX4_copy_40 : decode cX4_copy 40 = .ok (.if_icmp .ge 34, 3) := by decide +kernel
theorem dX4_copy_43 : decode cX4_copy 43 = .ok (.aload_n 0, 1) := by decide +kernel
theorem dX4_copy_44 : decode cX4_copy 44 = .ok (.iload_n 1, 1) := by decide +kernel
theorem dX4_copy_45 : decode cX4_copy 45 = .ok (.invokevirtual 77, 3) := by decide +kernel
theorem dX4_copy_48 : decode cX4_copy 48 = .ok (.ifCond .eq 33, 3) := by decide +kernel
theorem dX4_copy_51 : decode cX4_copy 51 = .ok (.aload_n 0, 1) := by decide +kernel
theorem dX4_copy_52 : decode cX4_copy 52 = .ok (.iload_n 2, 1) := by decide +kernel
theorem dX4_copy_53 : decode cX4_copy 53 = .ok (.invokevirtual 77, 3) := by decide +kernel
theorem dX4_copy_56 : decode cX4_copy 56 = .ok (.ifCond .eq 25, 3) := by decide +kernel
theorem dX4_copy_59 : decode cX4_copy 59 = .ok (.aload_n 0, 1) := by decide +kernel
theorem dX4_copy_60 : decode cX4_copy 60 = .ok (.getfield 29, 3) := by decide +kernel
theorem dX4_copy_63 : decode cX4_copy 63 = .ok (.iload_n 1, 1) := by decide +kernel
theorem dX4_copy_64 : decode cX4_copy 64 = .ok (.iaload, 1) := by decide +kernel
theorem dX4_copy_65 : decode cX4_copy 65 = .ok (.aload_n 0, 1) := by decide +kernel
theorem dX4_copy_66 : decode cX4_copy 66 = .ok (.getfield 29, 3) := by decide +kernel
theorem dX4_copy_69 : decode cX4_copy 69 = .ok (.iload_n 2, 1) := by decide +kernel
theorem dX4_copy_70 : decode cX4_copy 70 = .ok (.iaload, 1) := by decide +kernel
theorem dX4_copy_71 : decode cX4_copy 71 = .ok (.if_icmp .eq 10, 3) := by decide +kernel
theorem dX4_copy_74 : decode cX4_copy 74 = .ok (.aload_n 0, 1) := by decide +kernel
theorem dX4_copy_75 : decode cX4_copy 75 = .ok (.bipush (-3), 2) := by decide +kernel
theorem dX4_copy_77 : decode cX4_copy 77 = .ok (.invokevirtual 56, 3) := by decide +kernel
theorem dX4_copy_80 : decode cX4_copy 80 = .ok (.ireturn, 1) := by decide +kernel
theorem dX4_copy_81 : decode cX4_copy 81 = .ok (.aload_n 0, 1) := by decide +kernel
theorem dX4_copy_82 : decode cX4_copy 82 = .ok (.getfield 29, 3) := by decide +kernel
theorem dX4_copy_85 : decode cX4_copy 85 = .ok (.iload_n 1, 1) := by decide +kernel
theorem dX4_copy_86 : decode cX4_copy 86 = .ok (.iaload, 1) := by decide +kernel
theorem dX4_copy_87 : decode cX4_copy 87 = .ok (.ifCond .lt 12, 3) := by decide +kernel
theorem dX4_copy_90 : decode cX4_copy 90 = .ok (.aload_n 0, 1) := by decide +kernel
theorem dX4_copy_91 : decode cX4_copy 91 = .ok (.getfield 29, 3) := by decide +kernel
theorem dX4_copy_94 : decode cX4_copy 94 = .ok (.iload_n 2, 1) := by decide +kernel
theorem dX4_copy_95 : decode cX4_copy 95 = .ok (.iaload, 1) := by decide +kernel
theorem dX4_copy_96 : decode cX4_copy 96 = .ok (.ifCond .ge 10, 3) := by decide +kernel
theorem dX4_copy_99 : decode cX4_copy 99 = .ok (.aload_n 0, 1) := by decide +kernel
theorem dX4_copy_100 : decode cX4_copy 100 = .ok (.bipush (-4), 2) := by decide +kernel
theorem dX4_copy_102 : decode cX4_copy 102 = .ok (.invokevirtual 56, 3) := by decide +kernel
theorem dX4_copy_105 : decode cX4_copy 105 = .ok (.ireturn, 1) := by decide +kernel
theorem dX4_copy_106 : decode cX4_copy 106 = .ok (.iload 5, 2) := by decide +kernel
theorem dX4_copy_108 : decode cX4_copy 108 = .ok (.ifCond .lt 47, 3) := by decide +kernel
theorem dX4_copy_111 : decode cX4_copy 111 = .ok (.iload_n 3, 1) := by decide +kernel
theorem dX4_copy_112 : decode cX4_copy 112 = .ok (.ifCond .lt 43, 3) := by decide +kernel
theorem dX4_copy_115 : decode cX4_copy 115 = .ok (.iload 4, 2) := by decide +kernel
theorem dX4_copy_117 : decode cX4_copy 117 = .ok (.ifCond .lt 38, 3) := by decide +kernel
theorem dX4_copy_120 : decode cX4_copy 120 = .ok (.iload_n 3, 1) := by decide +kernel
theorem dX4_copy_121 : decode cX4_copy 121 = .ok (.i2l, 1) := by decide +kernel
theorem dX4_copy_122 : decode cX4_copy 122 = .ok (.iload 5, 2) := by decide +kernel
theorem dX4_copy_124 : decode cX4_copy 124 = .ok (.i2l, 1) := by decide +kernel
theorem dX4_copy_125 : decode cX4_copy 125 = .ok (.ladd, 1) := by decide +kernel
theorem dX4_copy_126 : decode cX4_copy 126 = .ok (.aload_n 0, 1) := by decide +kernel
theorem dX4_copy_127 : decode cX4_copy 127 = .ok (.getfield 32, 3) := by decide +kernel
theorem dX4_copy_130 : decode cX4_copy 130 = .ok (.iload_n 1, 1) := by decide +kernel
theorem dX4_copy_131 : decode cX4_copy 131 = .ok (.iaload, 1) := by decide +kernel
theorem dX4_copy_132 : decode cX4_copy 132 = .ok (.i2l, 1) := by decide +kernel
theorem dX4_copy_133 : decode cX4_copy 133 = .ok (.lcmp, 1) := by decide +kernel
theorem dX4_copy_134 : decode cX4_copy 134 = .ok (.ifCond .gt 21, 3) := by decide +kernel
theorem dX4_copy_137 : decode cX4_copy 137 = .ok (.iload 4, 2) := by decide +kernel
theorem dX4_copy_139 : decode cX4_copy 139 = .ok (.i2l, 1) := by decide +kernel
theorem dX4_copy_140 : decode cX4_copy 140 = .ok (.iload 5, 2) := by decide +kernel
theorem dX4_copy_142 : decode cX4_copy 142 = .ok (.i2l, 1) := by decide +kernel
theorem dX4_copy_143 : decode cX4_copy 143 = .ok (.ladd, 1) := by decide +kernel
theorem dX4_copy_144 : decode cX4_copy 144 = .ok (.aload_n 0, 1) := by decide +kernel
theorem dX4_copy_145 : decode cX4_copy 145 = .ok (.getfield 32, 3) := by decide +kernel
theorem dX4_copy_148 : decode cX4_copy 148 = .ok (.iload_n 2, 1) := by decide +kernel
theorem dX4_copy_149 : decode cX4_copy 149 = .ok (.iaload, 1) := by decide +kernel
theorem dX4_copy_150 : decode cX4_copy 150 = .ok (.i2l, 1) := by decide +kernel
theorem dX4_copy_151 : decode cX4_copy 151 = .ok (.lcmp, 1) := by decide +kernel
theorem dX4_copy_152 : decode cX4_copy 152 = .ok (.ifCond .le 10, 3) := by decide +kernel
theorem dX4_copy_155 : decode cX4_copy 155 = .ok (.aload_n 0, 1) := by decide +kernel
theorem dX4_copy_156 : decode cX4_copy 156 = .ok (.bipush (-2), 2) := by decide +kernel
theorem dX4_copy_158 : decode cX4_copy 158 = .ok (.invokevirtual 56, 3) := by decide +kernel
theorem dX4_copy_161 : decode cX4_copy 161 = .ok (.ireturn, 1) := by decide +kernel
theorem dX4_copy_162 : decode cX4_copy 162 = .ok (.iload_n 1, 1) := by decide +kernel
theorem dX4_copy_163 : decode cX4_copy 163 = .ok (.iload_n 2, 1) := by decide +kernel
theorem dX4_copy_164 : decode cX4_copy 164 = .ok (.if_icmp .ne 58, 3) := by decide +kernel
theorem dX4_copy_167 : decode cX4_copy 167 = .ok (.iload_n 3, 1) := by decide +kernel
theorem dX4_copy_168 : decode cX4_copy 168 = .ok (.iload 4, 2) := by decide +kernel
theorem dX4_copy_170 : decode cX4_copy 170 = .ok (.if_icmp .ge 52, 3) := by decide +kernel
theorem dX4_copy_173 : decode cX4_copy 173 = .ok (.iload 5, 2) := by decide +kernel
theorem dX4_copy_175 : decode cX4_copy 175 = .ok (.iconst 1, 1) := by decide +kernel
theorem dX4_copy_176 : decode cX4_copy 176 = .ok (.isub, 1) := by decide +kernel
theorem dX4_copy_177 : decode cX4_copy 177 = .ok (.istore 6, 2) := by decide +kernel
theorem dX4_copy_179 : decode cX4_copy 179 = .ok (.iload 6, 2) := by decide +kernel
theorem dX4_copy_181 : decode cX4_copy 181 = .ok (.ifCond .lt 38, 3) := by decide +kernel
theorem dX4_copy_184 : decode cX4_copy 184 = .ok (.aload_n 0, 1) := by decide +kernel
theorem dX4_copy_185 : decode cX4_copy 185 = .ok (.getfield 35, 3) := by decide +kernel
theorem dX4_copy_188 : decode cX4_copy 188 = .ok (.bipush 40, 2) := by decide +kernel
theorem dX4_copy_190 : decode cX4_copy 190 = .ok (.iload_n 2, 1) := by decide +kernel
theorem dX4_copy_191 : decode cX4_copy 191 = .ok (.imul, 1) := by decide +kernel
theorem dX4_copy_192 : decode cX4_copy 192 = .ok (.iload 4, 2) := by decide +kernel
theorem dX4_copy_194 : decode cX4_copy 194 = .ok (.iadd, 1) := by decide +kernel
theorem dX4_copy_195 : decode cX4_copy 195 = .ok (.iload 6, 2) := by decide +kernel
theorem dX4_copy_197 : decode cX4_copy 197 = .ok (.iadd, 1) := by decide +kernel
theorem dX4_copy_198 : decode cX4_copy 198 = .ok (.aload_n 0, 1) := by decide +kernel
theorem dX4_copy_199 : decode cX4_copy 199 = .ok (.getfield 35, 3) := by decide +kernel
theorem dX4_copy_202 : decode cX4_copy 202 = .ok (.bipush 40, 2) := by decide +kernel
theorem dX4_copy_204 : decode cX4_copy 204 = .ok (.iload_n 1, 1) := by decide +kernel
theorem dX4_copy_205 : decode cX4_copy 205 = .ok (.imul, 1) := by decide +kernel
theorem dX4_copy_206 : decode cX4_copy 206 = .ok (.iload_n 3, 1) := by decide +kernel
theorem dX4_copy_207 : decode cX4_copy 207 = .ok (.iadd, 1) := by decide +kernel
theorem dX4_copy_208 : decode cX4_copy 208 = .ok (.iload 6, 2) := by decide +kernel
theorem dX4_copy_210 : decode cX4_copy 210 = .ok (.iadd, 1) := by decide +kernel
theorem dX4_copy_211 : decode cX4_copy 211 = .ok (.laload, 1) := by decide +kernel
theorem dX4_copy_212 : decode cX4_copy 212 = .ok (.lastore, 1) := by decide +kernel
theorem dX4_copy_213 : decode cX4_copy 213 = .ok (.iinc 6 (-1), 3) := by decide +kernel
theorem dX4_copy_216 : decode cX4_copy 216 = .ok (.goto (-37), 3) := by decide +kernel
theorem dX4_copy_219 : decode cX4_copy 219 = .ok (.goto 48, 3) := by decide +kernel
theorem dX4_copy_222 : decode cX4_copy 222 = .ok (.iconst 0, 1) := by decide +kernel
theorem dX4_copy_223 : decode cX4_copy 223 = .ok (.istore 6, 2) := by decide +kernel
theorem dX4_copy_225 : decode cX4_copy 225 = .ok (.iload 6, 2) := by decide +kernel
theorem dX4_copy_227 : decode cX4_copy 227 = .ok (.iload 5, 2) := by decide +kernel
theorem dX4_copy_229 : decode cX4_copy 229 = .ok (.if_icmp .ge 38, 3) := by decide +kernel
theorem dX4_copy_232 : decode cX4_copy 232 = .ok (.aload_n 0, 1) := by decide +kernel
theorem dX4_copy_233 : decode cX4_copy 233 = .ok (.getfield 35, 3) := by decide +kernel
theorem dX4_copy_236 : decode cX4_copy 236 = .ok (.bipush 40, 2) := by decide +kernel
theorem dX4_copy_238 : decode cX4_copy 238 = .ok (.iload_n 2, 1) := by decide +kernel
theorem dX4_copy_239 : decode cX4_copy 239 = .ok (.imul, 1) := by decide +kernel
theorem dX4_copy_240 : decode cX4_copy 240 = .ok (.iload 4, 2) := by decide +kernel
theorem dX4_copy_242 : decode cX4_copy 242 = .ok (.iadd, 1) := by decide +kernel
theorem dX4_copy_243 : decode cX4_copy 243 = .ok (.iload 6, 2) := by decide +kernel
theorem dX4_copy_245 : decode cX4_copy 245 = .ok (.iadd, 1) := by decide +kernel
theorem dX4_copy_246 : decode cX4_copy 246 = .ok (.aload_n 0, 1) := by decide +kernel
theorem dX4_copy_247 : decode cX4_copy 247 = .ok (.getfield 35, 3) := by decide +kernel
theorem dX4_copy_250 : decode cX4_copy 250 = .ok (.bipush 40, 2) := by decide +kernel
theorem dX4_copy_252 : decode cX4_copy 252 = .ok (.iload_n 1, 1) := by decide +kernel
theorem dX4_copy_253 : decode cX4_copy 253 = .ok (.imul, 1) := by decide +kernel
theorem dX4_copy_254 : decode cX4_copy 254 = .ok (.iload_n 3, 1) := by decide +kernel
theorem dX4_copy_255 : decode cX4_copy 255 = .ok (.iadd, 1) := by decide +kernel
theorem dX4_copy_256 : decode cX4_copy 256 = .ok (.iload 6, 2) := by decide +kernel
theorem dX4_copy_258 : decode cX4_copy 258 = .ok (.iadd, 1) := by decide +kernel
theorem dX4_copy_259 : decode cX4_copy 259 = .ok (.laload, 1) := by decide +kernel
theorem dX4_copy_260 : decode cX4_copy 260 = .ok (.lastore, 1) := by decide +kernel
theorem dX4_copy_261 : decode cX4_copy 261 = .ok (.iinc 6 1, 3) := by decide +kernel
theorem dX4_copy_264 : decode cX4_copy 264 = .ok (.goto (-39), 3) := by decide +kernel
theorem dX4_copy_267 : decode cX4_copy 267 = .ok (.iload 5, 2) := by decide +kernel
theorem dX4_copy_269 : decode cX4_copy 269 = .ok (.ireturn, 1) := by decide +kernel
theorem dX4_element_0 : decode cX4_element 0 = .ok (.iload_n 1, 1) := by decide +kernel
theorem dX4_element_1 : decode cX4_element 1 = .ok (.invokestatic 73, 3) := by decide +kernel
theorem dX4_element_4 : decode cX4_element 4 = .ok (.ifCond .eq 41, 3) := by decide +kernel
theorem dX4_element_7 : decode cX4_element 7 = .ok (.aload_n 0, 1) := by decide +kernel
theorem dX4_element_8 : decode cX4_element 8 = .ok (.iload_n 1, 1) := by decide +kernel
theorem dX4_element_9 : decode cX4_element 9 = .ok (.invokevirtual 77, 3) := by decide +kernel
theorem dX4_element_12 : decode cX4_element 12 = .ok (.ifCond .eq 33, 3) := by decide +kernel
theorem dX4_element_15 : decode cX4_element 15 = .ok (.iload_n 2, 1) := by decide +kernel
theorem dX4_element_16 : decode cX4_element 16 = .ok (.iconst 0, 1) := by decide +kernel
theorem dX4_element_17 : decode cX4_element 17 = .ok (.aload_n 0, 1) := by decide +kernel
theorem dX4_element_18 : decode cX4_element 18 = .ok (.getfield 32, 3) := by decide +kernel
theorem dX4_element_21 : decode cX4_element 21 = .ok (.iload_n 1, 1) := by decide +kernel
theorem dX4_element_22 : decode cX4_element 22 = .ok (.iaload, 1) := by decide +kernel
theorem dX4_element_23 : decode cX4_element 23 = .ok (.iconst 1, 1) := by decide +kernel
theorem dX4_element_24 : decode cX4_element 24 = .ok (.isub, 1) := by decide +kernel
theorem dX4_element_25 : decode cX4_element 25 = .ok (.invokestatic 63, 3) := by decide +kernel
theorem dX4_element_28 : decode cX4_element 28 = .ok (.ifCond .eq 17, 3) := by decide +kernel
theorem dX4_element_31 : decode cX4_element 31 = .ok (.aload_n 0, 1) := by decide +kernel
theorem dX4_element_32 : decode cX4_element 32 = .ok (.getfield 35, 3) := by decide +kernel
theorem dX4_element_35 : decode cX4_element 35 = .ok (.bipush 40, 2) := by decide +kernel
theorem dX4_element_37 : decode cX4_element 37 = .ok (.iload_n 1, 1) := by decide +kernel
theorem dX4_element_38 : decode cX4_element 38 = .ok (.imul, 1) := by decide +kernel
theorem dX4_element_39 : decode cX4_element 39 = .ok (.iload_n 2, 1) := by decide +kernel
theorem dX4_element_40 : decode cX4_element 40 = .ok (.iadd, 1) := by decide +kernel
theorem dX4_element_41 : decode cX4_element 41 = .ok (.laload, 1) := by decide +kernel
theorem dX4_element_42 : decode cX4_element 42 = .ok (.goto 4, 3) := by decide +kernel
theorem dX4_element_45 : decode cX4_element 45 = .ok (.lconst 0, 1) := by decide +kernel
theorem dX4_element_46 : decode cX4_element 46 = .ok (.lreturn, 1) := by decide +kernel
theorem dX4_holds_0 : decode cX4_holds 0 = .ok (.iload_n 1, 1) := by decide +kernel
theorem dX4_holds_1 : decode cX4_holds 1 = .ok (.invokestatic 73, 3) := by decide +kernel
theorem dX4_holds_4 : decode cX4_holds 4 = .ok (.ifCond .eq 12, 3) := by decide +kernel
theorem dX4_holds_7 : decode cX4_holds 7 = .ok (.aload_n 0, 1) := by decide +kernel
theorem dX4_holds_8 : decode cX4_holds 8 = .ok (.getfield 29, 3) := by decide +kernel
theorem dX4_holds_11 : decode cX4_holds 11 = .ok (.iload_n 1, 1) := by decide +kernel
theorem dX4_holds_12 : decode cX4_holds 12 = .ok (.iaload, 1) := by decide +kernel
theorem dX4_holds_13 : decode cX4_holds 13 = .ok (.goto 4, 3) := by decide +kernel
theorem dX4_holds_16 : decode cX4_holds 16 = .ok (.iconst (-1), 1) := by decide +kernel
theorem dX4_holds_17 : decode cX4_holds 17 = .ok (.ireturn, 1) := by decide +kernel
theorem dX4_show_0 : decode cX4_show 0 = .ok (.iload_n 1, 1) := by decide +kernel
theorem dX4_show_1 : decode cX4_show 1 = .ok (.invokestatic 73, 3) := by decide +kernel
theorem dX4_show_4 : decode cX4_show 4 = .ok (.ifCond .eq 16, 3) := by decide +kernel
theorem dX4_show_7 : decode cX4_show 7 = .ok (.iload_n 2, 1) := by decide +kernel
theorem dX4_show_8 : decode cX4_show 8 = .ok (.iconst (-1), 1) := by decide +kernel
theorem dX4_show_9 : decode cX4_show 9 = .ok (.if_icmp .eq 18, 3) := by decide +kernel
theorem dX4_show_12 : decode cX4_show 12 = .ok (.aload_n 0, 1) := by decide +kernel
theorem dX4_show_13 : decode cX4_show 13 = .ok (.iload_n 2, 1) := by decide +kernel
theorem dX4_show_14 : decode cX4_show 14 = .ok (.invokevirtual 87, 3) := by decide +kernel
theorem dX4_show_17 : decode cX4_show 17 = .ok (.ifCond .ne 10, 3) := by decide +kernel
theorem dX4_show_20 : decode cX4_show 20 = .ok (.aload_n 0, 1) := by decide +kernel
theorem dX4_show_21 : decode cX4_show 21 = .ok (.bipush (-2), 2) := by decide +kernel
theorem dX4_show_23 : decode cX4_show 23 = .ok (.invokevirtual 56, 3) := by decide +kernel
theorem dX4_show_26 : decode cX4_show 26 = .ok (.ireturn, 1) := by decide +kernel
theorem dX4_show_27 : decode cX4_show 27 = .ok (.aload_n 0, 1) := by decide +kernel
theorem dX4_show_28 : decode cX4_show 28 = .ok (.getfield 29, 3) := by decide +kernel
theorem dX4_show_31 : decode cX4_show 31 = .ok (.iload_n 1, 1) := by decide +kernel
theorem dX4_show_32 : decode cX4_show 32 = .ok (.iload_n 2, 1) := by decide +kernel
theorem dX4_show_33 : decode cX4_show 33 = .ok (.iconst (-1), 1) := by decide +kernel
theorem dX4_show_34 : decode cX4_show 34 = .ok (.if_icmp .ne 7, 3) := by decide +kernel
theorem dX4_show_37 : decode cX4_show 37 = .ok (.iconst (-1), 1) := by decide +kernel
theorem dX4_show_38 : decode cX4_show 38 = .ok (.goto 7, 3) := by decide +kernel
theorem dX4_show_41 : decode cX4_show 41 = .ok (.bipush 10, 2) := by decide +kernel
theorem dX4_show_43 : decode cX4_show 43 = .ok (.iload_n 2, 1) := by decide +kernel
theorem dX4_show_44 : decode cX4_show 44 = .ok (.iadd, 1) := by decide +kernel
theorem dX4_show_45 : decode cX4_show 45 = .ok (.iastore, 1) := by decide +kernel
theorem dX4_show_46 : decode cX4_show 46 = .ok (.iconst 1, 1) := by decide +kernel
theorem dX4_show_47 : decode cX4_show 47 = .ok (.ireturn, 1) := by decide +kernel
theorem dX4_isUnder_0 : decode cX4_isUnder 0 = .ok (.iload_n 1, 1) := by decide +kernel
theorem dX4_isUnder_1 : decode cX4_isUnder 1 = .ok (.ifCond .eq 28, 3) := by decide +kernel
theorem dX4_isUnder_4 : decode cX4_isUnder 4 = .ok (.iload_n 0, 1) := by decide +kernel
theorem dX4_isUnder_5 : decode cX4_isUnder 5 = .ok (.iload_n 1, 1) := by decide +kernel
theorem dX4_isUnder_6 : decode cX4_isUnder 6 = .ok (.if_icmp .eq 23, 3) := by decide +kernel
theorem dX4_isUnder_9 : decode cX4_isUnder 9 = .ok (.iload_n 0, 1) := by decide +kernel
theorem dX4_isUnder_10 : decode cX4_isUnder 10 = .ok (.iconst 3, 1) := by decide +kernel
theorem dX4_isUnder_11 : decode cX4_isUnder 11 = .ok (.if_icmp .ne 8, 3) := by decide +kernel
theorem dX4_isUnder_14 : decode cX4_isUnder 14 = .ok (.iload_n 1, 1) := by decide +kernel
theorem dX4_isUnder_15 : decode cX4_isUnder 15 = .ok (.iconst 1, 1) := by decide +kernel
theorem dX4_isUnder_16 : decode cX4_isUnder 16 = .ok (.if_icmp .eq 13, 3) := by decide +kernel
theorem dX4_isUnder_19 : decode cX4_isUnder 19 = .ok (.iload_n 0, 1) := by decide +kernel
theorem dX4_isUnder_20 : decode cX4_isUnder 20 = .ok (.iconst 4, 1) := by decide +kernel
theorem dX4_isUnder_21 : decode cX4_isUnder 21 = .ok (.if_icmp .ne 12, 3) := by decide +kernel
theorem dX4_isUnder_24 : decode cX4_isUnder 24 = .ok (.iload_n 1, 1) := by decide +kernel
theorem dX4_isUnder_25 : decode cX4_isUnder 25 = .ok (.iconst 2, 1) := by decide +kernel
theorem dX4_isUnder_26 : decode cX4_isUnder 26 = .ok (.if_icmp .ne 7, 3) := by decide +kernel
theorem dX4_isUnder_29 : decode cX4_isUnder 29 = .ok (.iconst 1, 1) := by decide +kernel
theorem dX4_isUnder_30 : decode cX4_isUnder 30 = .ok (.goto 4, 3) := by decide +kernel
theorem dX4_isUnder_33 : decode cX4_isUnder 33 = .ok (.iconst 0, 1) := by decide +kernel
theorem dX4_isUnder_34 : decode cX4_isUnder 34 = .ok (.ireturn, 1) := by decide +kernel
theorem dX4_says_0 : decode cX4_says 0 = .ok (.iload_n 1, 1) := by decide +kernel
theorem dX4_says_1 : decode cX4_says 1 = .ok (.invokestatic 73, 3) := by decide +kernel
theorem dX4_says_4 : decode cX4_says 4 = .ok (.ifCond .eq 12, 3) := by decide +kernel
theorem dX4_says_7 : decode cX4_says 7 = .ok (.iload_n 2, 1) := by decide +kernel
theorem dX4_says_8 : decode cX4_says 8 = .ok (.iconst 0, 1) := by decide +kernel
theorem dX4_says_9 : decode cX4_says 9 = .ok (.iconst 5, 1) := by decide +kernel
theorem dX4_says_10 : decode cX4_says 10 = .ok (.invokestatic 63, 3) := by decide +kernel
theorem dX4_says_13 : decode cX4_says 13 = .ok (.ifCond .ne 10, 3) := by decide +kernel
theorem dX4_says_16 : decode cX4_says 16 = .ok (.aload_n 0, 1) := by decide +kernel
theorem dX4_says_17 : decode cX4_says 17 = .ok (.bipush (-2), 2) := by decide +kernel
theorem dX4_says_19 : decode cX4_says 19 = .ok (.invokevirtual 56, 3) := by decide +kernel
theorem dX4_says_22 : decode cX4_says 22 = .ok (.ireturn, 1) := by decide +kernel
theorem dX4_says_23 : decode cX4_says 23 = .ok (.aload_n 0, 1) := by decide +kernel
theorem dX4_says_24 : decode cX4_says 24 = .ok (.iload_n 1, 1) := by decide +kernel
theorem dX4_says_25 : decode cX4_says 25 = .ok (.invokevirtual 77, 3) := by decide +kernel
theorem dX4_says_28 : decode cX4_says 28 = .ok (.ifCond .eq 10, 3) := by decide +kernel
theorem dX4_says_31 : decode cX4_says 31 = .ok (.aload_n 0, 1) := by decide +kernel
theorem dX4_says_32 : decode cX4_says 32 = .ok (.bipush (-3), 2) := by decide +kernel
theorem dX4_says_34 : decode cX4_says 34 = .ok (.invokevirtual 56, 3) := by decide +kernel
theorem dX4_says_37 : decode cX4_says 37 = .ok (.ireturn, 1) := by decide +kernel
theorem dX4_says_38 : decode cX4_says 38 = .ok (.aload_n 0, 1) := by decide +kernel
theorem dX4_says_39 : decode cX4_says 39 = .ok (.getfield 29, 3) := by decide +kernel
theorem dX4_says_42 : decode cX4_says 42 = .ok (.iload_n 1, 1) := by decide +kernel
theorem dX4_says_43 : decode cX4_says 43 = .ok (.iaload, 1) := by decide +kernel
theorem dX4_says_44 : decode cX4_says 44 = .ok (.ifCond .ge 10, 3) := by decide +kernel
theorem dX4_says_47 : decode cX4_says 47 = .ok (.aload_n 0, 1) := by decide +kernel
theorem dX4_says_48 : decode cX4_says 48 = .ok (.bipush (-4), 2) := by decide +kernel
theorem dX4_says_50 : decode cX4_says 50 = .ok (.invokevirtual 56, 3) := by decide +kernel
theorem dX4_says_53 : decode cX4_says 53 = .ok (.ireturn, 1) := by decide +kernel
theorem dX4_says_54 : decode cX4_says 54 = .ok (.aload_n 0, 1) := by decide +kernel
theorem dX4_says_55 : decode cX4_says 55 = .ok (.getfield 29, 3) := by decide +kernel
theorem dX4_says_58 : decode cX4_says 58 = .ok (.iload_n 1, 1) := by decide +kernel
theorem dX4_says_59 : decode cX4_says 59 = .ok (.iaload, 1) := by decide +kernel
theorem dX4_says_60 : decode cX4_says 60 = .ok (.bipush 10, 2) := by decide +kernel
theorem dX4_says_62 : decode cX4_says 62 = .ok (.isub, 1) := by decide +kernel
theorem dX4_says_63 : decode cX4_says 63 = .ok (.istore_n 3, 1) := by decide +kernel
theorem dX4_says_64 : decode cX4_says 64 = .ok (.aload_n 0, 1) := by decide +kernel
theorem dX4_says_65 : decode cX4_says 65 = .ok (.getfield 20, 3) := by decide +kernel
theorem dX4_says_68 : decode cX4_says 68 = .ok (.iload_n 3, 1) := by decide +kernel
theorem dX4_says_69 : decode cX4_says 69 = .ok (.iaload, 1) := by decide +kernel
theorem dX4_says_70 : decode cX4_says 70 = .ok (.iload_n 2, 1) := by decide +kernel
theorem dX4_says_71 : decode cX4_says 71 = .ok (.invokestatic 90, 3) := by decide +kernel
theorem dX4_says_74 : decode cX4_says 74 = .ok (.ifCond .ne 10, 3) := by decide +kernel
theorem dX4_says_77 : decode cX4_says 77 = .ok (.aload_n 0, 1) := by decide +kernel
theorem dX4_says_78 : decode cX4_says 78 = .ok (.bipush (-3), 2) := by decide +kernel
theorem dX4_says_80 : decode cX4_says 80 = .ok (.invokevirtual 56, 3) := by decide +kernel
theorem dX4_says_83 : decode cX4_says 83 = .ok (.ireturn, 1) := by decide +kernel
theorem dX4_says_84 : decode cX4_says 84 = .ok (.iload_n 2, 1) := by decide +kernel
theorem dX4_says_85 : decode cX4_says 85 = .ok (.ifCond .ne 12, 3) := by decide +kernel
theorem dX4_says_88 : decode cX4_says 88 = .ok (.aload_n 0, 1) := by decide +kernel
theorem dX4_says_89 : decode cX4_says 89 = .ok (.getfield 23, 3) := by decide +kernel
theorem dX4_says_92 : decode cX4_says 92 = .ok (.iload_n 3, 1) := by decide +kernel
theorem dX4_says_93 : decode cX4_says 93 = .ok (.iaload, 1) := by decide +kernel
theorem dX4_says_94 : decode cX4_says 94 = .ok (.goto 20, 3) := by decide +kernel
theorem dX4_says_97 : decode cX4_says 97 = .ok (.iload_n 2, 1) := by decide +kernel
theorem dX4_says_98 : decode cX4_says 98 = .ok (.iconst 5, 1) := by decide +kernel
theorem dX4_says_99 : decode cX4_says 99 = .ok (.if_icmp .ne 10, 3) := by decide +kernel
theorem dX4_says_102 : decode cX4_says 102 = .ok (.aload_n 0, 1) := by decide +kernel
theorem dX4_says_103 : decode cX4_says 103 = .ok (.invokevirtual 94, 3) := by decide +kernel
theorem dX4_says_106 : decode cX4_says 106 = .ok (.goto 8, 3) := by decide +kernel
theorem dX4_says_109 : decode cX4_says 109 = .ok (.aload_n 0, 1) := by decide +kernel
theorem dX4_says_110 : decode cX4_says 110 = .ok (.iload_n 3, 1) := by decide +kernel
theorem dX4_says_111 : decode cX4_says 111 = .ok (.invokevirtual 98, 3) := by decide +kernel
theorem dX4_says_114 : decode cX4_says 114 = .ok (.ireturn, 1) := by decide +kernel
theorem dX4_sized_0 : decode cX4_sized 0 = .ok (.aload_n 0, 1) := by decide +kernel
theorem dX4_sized_1 : decode cX4_sized 1 = .ok (.iload_n 1, 1) := by decide +kernel
theorem dX4_sized_2 : decode cX4_sized 2 = .ok (.putfield 67, 3) := by decide +kernel
theorem dX4_sized_5 : decode cX4_sized 5 = .ok (.aload_n 0, 1) := by decide +kernel
theorem dX4_sized_6 : decode cX4_sized 6 = .ok (.iload_n 2, 1) := by decide +kernel
theorem dX4_sized_7 : decode cX4_sized 7 = .ok (.putfield 70, 3) := by decide +kernel
theorem dX4_sized_10 : decode cX4_sized 10 = .ok (.iconst 0, 1) := by decide +kernel
theorem dX4_sized_11 : decode cX4_sized 11 = .ok (.istore_n 3, 1) := by decide +kernel
theorem dX4_sized_12 : decode cX4_sized 12 = .ok (.iload_n 3, 1) := by decide +kernel
theorem dX4_sized_13 : decode cX4_sized 13 = .ok (.bipush 40, 2) := by decide +kernel
theorem dX4_sized_15 : decode cX4_sized 15 = .ok (.if_icmp .ge 16, 3) := by decide +kernel
theorem dX4_sized_18 : decode cX4_sized 18 = .ok (.aload_n 0, 1) := by decide +kernel
theorem dX4_sized_19 : decode cX4_sized 19 = .ok (.getfield 7, 3) := by decide +kernel
theorem dX4_sized_22 : decode cX4_sized 22 = .ok (.iload_n 3, 1) := by decide +kernel
theorem dX4_sized_23 : decode cX4_sized 23 = .ok (.iconst 0, 1) := by decide +kernel
theorem dX4_sized_24 : decode cX4_sized 24 = .ok (.bastore, 1) := by decide +kernel
theorem dX4_sized_25 : decode cX4_sized 25 = .ok (.iinc 3 1, 3) := by decide +kernel
theorem dX4_sized_28 : decode cX4_sized 28 = .ok (.goto (-16), 3) := by decide +kernel
theorem dX4_sized_31 : decode cX4_sized 31 = .ok (.iconst 0, 1) := by decide +kernel
theorem dX4_sized_32 : decode cX4_sized 32 = .ok (.istore_n 3, 1) := by decide +kernel
theorem dX4_sized_33 : decode cX4_sized 33 = .ok (.iload_n 3, 1) := by decide +kernel
theorem dX4_sized_34 : decode cX4_sized 34 = .ok (.bipush 16, 2) := by decide +kernel
theorem dX4_sized_36 : decode cX4_sized 36 = .ok (.if_icmp .ge 23, 3) := by decide +kernel
theorem dX4_sized_39 : decode cX4_sized 39 = .ok (.aload_n 0, 1) := by decide +kernel
theorem dX4_sized_40 : decode cX4_sized 40 = .ok (.getfield 13, 3) := by decide +kernel
theorem dX4_sized_43 : decode cX4_sized 43 = .ok (.iload_n 3, 1) := by decide +kernel
theorem dX4_sized_44 : decode cX4_sized 44 = .ok (.iconst 0, 1) := by decide +kernel
theorem dX4_sized_45 : decode cX4_sized 45 = .ok (.bastore, 1) := by decide +kernel
theorem dX4_sized_46 : decode cX4_sized 46 = .ok (.aload_n 0, 1) := by decide +kernel
theorem dX4_sized_47 : decode cX4_sized 47 = .ok (.getfield 16, 3) := by decide +kernel
theorem dX4_sized_50 : decode cX4_sized 50 = .ok (.iload_n 3, 1) := by decide +kernel
theorem dX4_sized_51 : decode cX4_sized 51 = .ok (.iconst (-1), 1) := by decide +kernel
theorem dX4_sized_52 : decode cX4_sized 52 = .ok (.iastore, 1) := by decide +kernel
theorem dX4_sized_53 : decode cX4_sized 53 = .ok (.iinc 3 1, 3) := by decide +kernel
theorem dX4_sized_56 : decode cX4_sized 56 = .ok (.goto (-23), 3) := by decide +kernel
theorem dX4_sized_59 : decode cX4_sized 59 = .ok (.aload_n 0, 1) := by decide +kernel
theorem dX4_sized_60 : decode cX4_sized 60 = .ok (.iconst 0, 1) := by decide +kernel
theorem dX4_sized_61 : decode cX4_sized 61 = .ok (.putfield 101, 3) := by decide +kernel
theorem dX4_sized_64 : decode cX4_sized 64 = .ok (.aload_n 0, 1) := by decide +kernel
theorem dX4_sized_65 : decode cX4_sized 65 = .ok (.iconst 0, 1) := by decide +kernel
theorem dX4_sized_66 : decode cX4_sized 66 = .ok (.putfield 104, 3) := by decide +kernel
theorem dX4_sized_69 : decode cX4_sized 69 = .ok (.aload_n 0, 1) := by decide +kernel
theorem dX4_sized_70 : decode cX4_sized 70 = .ok (.invokevirtual 107, 3) := by decide +kernel
theorem dX4_sized_73 : decode cX4_sized 73 = .ok (.ireturn, 1) := by decide +kernel
theorem dX4_level_0 : decode cX4_level 0 = .ok (.aload_n 0, 1) := by decide +kernel
theorem dX4_level_1 : decode cX4_level 1 = .ok (.getfield 67, 3) := by decide +kernel
theorem dX4_level_4 : decode cX4_level 4 = .ok (.aload_n 0, 1) := by decide +kernel
theorem dX4_level_5 : decode cX4_level 5 = .ok (.getfield 70, 3) := by decide +kernel
theorem dX4_level_8 : decode cX4_level 8 = .ok (.iconst 1, 1) := by decide +kernel
theorem dX4_level_9 : decode cX4_level 9 = .ok (.iadd, 1) := by decide +kernel
theorem dX4_level_10 : decode cX4_level 10 = .ok (.imul, 1) := by decide +kernel
theorem dX4_level_11 : decode cX4_level 11 = .ok (.ireturn, 1) := by decide +kernel
theorem dX4_edges_0 : decode cX4_edges 0 = .ok (.aload_n 0, 1) := by decide +kernel
theorem dX4_edges_1 : decode cX4_edges 1 = .ok (.invokevirtual 110, 3) := by decide +kernel
theorem dX4_edges_4 : decode cX4_edges 4 = .ok (.aload_n 0, 1) := by decide +kernel
theorem dX4_edges_5 : decode cX4_edges 5 = .ok (.getfield 70, 3) := by decide +kernel
theorem dX4_edges_8 : decode cX4_edges 8 = .ok (.aload_n 0, 1) := by decide +kernel
theorem dX4_edges_9 : decode cX4_edges 9 = .ok (.getfield 67, 3) := by decide +kernel
theorem dX4_edges_12 : decode cX4_edges 12 = .ok (.iconst 1, 1) := by decide +kernel
theorem dX4_edges_13 : decode cX4_edges 13 = .ok (.iadd, 1) := by decide +kernel
theorem dX4_edges_14 : decode cX4_edges 14 = .ok (.imul, 1) := by decide +kernel
theorem dX4_edges_15 : decode cX4_edges 15 = .ok (.iadd, 1) := by decide +kernel
theorem dX4_edges_16 : decode cX4_edges 16 = .ok (.ireturn, 1) := by decide +kernel
theorem dX4_size_0 : decode cX4_size 0 = .ok (.iload_n 1, 1) := by decide +kernel
theorem dX4_size_1 : decode cX4_size 1 = .ok (.iconst 1, 1) := by decide +kernel
theorem dX4_size_2 : decode cX4_size 2 = .ok (.iconst 4, 1) := by decide +kernel
theorem dX4_size_3 : decode cX4_size 3 = .ok (.invokestatic 63, 3) := by decide +kernel
theorem dX4_size_6 : decode cX4_size 6 = .ok (.ifCond .eq 21, 3) := by decide +kernel
theorem dX4_size_9 : decode cX4_size 9 = .ok (.iload_n 2, 1) := by decide +kernel
theorem dX4_size_10 : decode cX4_size 10 = .ok (.iconst 1, 1) := by decide +kernel
theorem dX4_size_11 : decode cX4_size 11 = .ok (.iconst 4, 1) := by decide +kernel
theorem dX4_size_12 : decode cX4_size 12 = .ok (.invokestatic 63, 3) := by decide +kernel
theorem dX4_size_15 : decode cX4_size 15 = .ok (.ifCond .eq 12, 3) := by decide +kernel
theorem dX4_size_18 : decode cX4_size 18 = .ok (.aload_n 0, 1) := by decide +kernel
theorem dX4_size_19 : decode cX4_size 19 = .ok (.iload_n 1, 1) := by decide +kernel
theorem dX4_size_20 : decode cX4_size 20 = .ok (.iload_n 2, 1) := by decide +kernel
theorem dX4_size_21 : decode cX4_size 21 = .ok (.invokevirtual 52, 3) := by decide +kernel
theorem dX4_size_24 : decode cX4_size 24 = .ok (.goto 9, 3) := by decide +kernel
theorem dX4_size_27 : decode cX4_size 27 = .ok (.aload_n 0, 1) := by decide +kernel
theorem dX4_size_28 : decode cX4_size 28 = .ok (.bipush (-2), 2) := by decide +kernel
theorem dX4_size_30 : decode cX4_size 30 = .ok (.invokevirtual 56, 3) := by decide +kernel
theorem dX4_size_33 : decode cX4_size 33 = .ok (.ireturn, 1) := by decide +kernel
theorem dX4_newPlayer_0 : decode cX4_newPlayer 0 = .ok (.aload_n 0, 1) := by decide +kernel
theorem dX4_newPlayer_1 : decode cX4_newPlayer 1 = .ok (.getfield 20, 3) := by decide +kernel
theorem dX4_newPlayer_4 : decode cX4_newPlayer 4 = .ok (.aload_n 0, 1) := by decide +kernel
theorem dX4_newPlayer_5 : decode cX4_newPlayer 5 = .ok (.getfield 60, 3) := by decide +kernel
theorem dX4_newPlayer_8 : decode cX4_newPlayer 8 = .ok (.iload_n 1, 1) := by decide +kernel
theorem dX4_newPlayer_9 : decode cX4_newPlayer 9 = .ok (.iastore, 1) := by decide +kernel
theorem dX4_newPlayer_10 : decode cX4_newPlayer 10 = .ok (.aload_n 0, 1) := by decide +kernel
theorem dX4_newPlayer_11 : decode cX4_newPlayer 11 = .ok (.getfield 23, 3) := by decide +kernel
theorem dX4_newPlayer_14 : decode cX4_newPlayer 14 = .ok (.aload_n 0, 1) := by decide +kernel
theorem dX4_newPlayer_15 : decode cX4_newPlayer 15 = .ok (.getfield 60, 3) := by decide +kernel
theorem dX4_newPlayer_18 : decode cX4_newPlayer 18 = .ok (.iload_n 2, 1) := by decide +kernel
theorem dX4_newPlayer_19 : decode cX4_newPlayer 19 = .ok (.iastore, 1) := by decide +kernel
theorem dX4_newPlayer_20 : decode cX4_newPlayer 20 = .ok (.aload_n 0, 1) := by decide +kernel
theorem dX4_newPlayer_21 : decode cX4_newPlayer 21 = .ok (.dup, 1) := by decide +kernel
theorem dX4_newPlayer_22 : decode cX4_newPlayer 22 = .ok (.getfield 60, 3) := by decide +kernel
theorem dX4_newPlayer_25 : decode cX4_newPlayer 25 = .ok (.dup_x1, 1) := by decide +kernel
theorem dX4_newPlayer_26 : decode cX4_newPlayer 26 = .ok (.iconst 1, 1) := by decide +kernel
theorem dX4_newPlayer_27 : decode cX4_newPlayer 27 = .ok (.iadd, 1) := by decide +kernel
theorem dX4_newPlayer_28 : decode cX4_newPlayer 28 = .ok (.putfield 60, 3) := by decide +kernel
theorem dX4_newPlayer_31 : decode cX4_newPlayer 31 = .ok (.ireturn, 1) := by decide +kernel
theorem dX4_player_0 : decode cX4_player 0 = .ok (.iload_n 1, 1) := by decide +kernel
theorem dX4_player_1 : decode cX4_player 1 = .ok (.iconst 0, 1) := by decide +kernel
theorem dX4_player_2 : decode cX4_player 2 = .ok (.iconst 5, 1) := by decide +kernel
theorem dX4_player_3 : decode cX4_player 3 = .ok (.invokestatic 63, 3) := by decide +kernel
theorem dX4_player_6 : decode cX4_player 6 = .ok (.ifCond .eq 13, 3) := by decide +kernel
theorem dX4_player_9 : decode cX4_player 9 = .ok (.iload_n 2, 1) := by decide +kernel
theorem dX4_player_10 : decode cX4_player 10 = .ok (.iconst 0, 1) := by decide +kernel
theorem dX4_player_11 : decode cX4_player 11 = .ok (.bipush 9, 2) := by decide +kernel
theorem dX4_player_13 : decode cX4_player 13 = .ok (.invokestatic 63, 3) := by decide +kernel
theorem dX4_player_16 : decode cX4_player 16 = .ok (.ifCond .ne 10, 3) := by decide +kernel
theorem dX4_player_19 : decode cX4_player 19 = .ok (.aload_n 0, 1) := by decide +kernel
theorem dX4_player_20 : decode cX4_player 20 = .ok (.bipush (-2), 2) := by decide +kernel
theorem dX4_player_22 : decode cX4_player 22 = .ok (.invokevirtual 56, 3) := by decide +kernel
theorem dX4_player_25 : decode cX4_player 25 = .ok (.ireturn, 1) := by decide +kernel
theorem dX4_player_26 : decode cX4_player 26 = .ok (.aload_n 0, 1) := by decide +kernel
theorem dX4_player_27 : decode cX4_player 27 = .ok (.getfield 60, 3) := by decide +kernel
theorem dX4_player_30 : decode cX4_player 30 = .ok (.bipush 6, 2) := by decide +kernel
theorem dX4_player_32 : decode cX4_player 32 = .ok (.if_icmp .ne 12, 3) := by decide +kernel
theorem dX4_player_35 : decode cX4_player 35 = .ok (.aload_n 0, 1) := by decide +kernel
theorem dX4_player_36 : decode cX4_player 36 = .ok (.bipush (-6), 2) := by decide +kernel
theorem dX4_player_38 : decode cX4_player 38 = .ok (.invokevirtual 56, 3) := by decide +kernel
theorem dX4_player_41 : decode cX4_player 41 = .ok (.goto 9, 3) := by decide +kernel
theorem dX4_player_44 : decode cX4_player 44 = .ok (.aload_n 0, 1) := by decide +kernel
theorem dX4_player_45 : decode cX4_player 45 = .ok (.iload_n 1, 1) := by decide +kernel
theorem dX4_player_46 : decode cX4_player 46 = .ok (.iload_n 2, 1) := by decide +kernel
theorem dX4_player_47 : decode cX4_player 47 = .ok (.invokevirtual 113, 3) := by decide +kernel
theorem dX4_player_50 : decode cX4_player 50 = .ok (.ireturn, 1) := by decide +kernel
theorem dX4_turn_0 : decode cX4_turn 0 = .ok (.iload_n 1, 1) := by decide +kernel
theorem dX4_turn_1 : decode cX4_turn 1 = .ok (.iconst 0, 1) := by decide +kernel
theorem dX4_turn_2 : decode cX4_turn 2 = .ok (.iconst 1, 1) := by decide +kernel
theorem dX4_turn_3 : decode cX4_turn 3 = .ok (.invokestatic 63, 3) := by decide +kernel
theorem dX4_turn_6 : decode cX4_turn 6 = .ok (.ifCond .ne 10, 3) := by decide +kernel
theorem dX4_turn_9 : decode cX4_turn 9 = .ok (.aload_n 0, 1) := by decide +kernel
theorem dX4_turn_10 : decode cX4_turn 10 = .ok (.bipush (-2), 2) := by decide +kernel
theorem dX4_turn_12 : decode cX4_turn 12 = .ok (.invokevirtual 56, 3) := by decide +kernel
theorem dX4_turn_15 : decode cX4_turn 15 = .ok (.ireturn, 1) := by decide +kernel
theorem dX4_turn_16 : decode cX4_turn 16 = .ok (.aload_n 0, 1) := by decide +kernel
theorem dX4_turn_17 : decode cX4_turn 17 = .ok (.getfield 101, 3) := by decide +kernel
theorem dX4_turn_20 : decode cX4_turn 20 = .ok (.istore_n 2, 1) := by decide +kernel
theorem dX4_turn_21 : decode cX4_turn 21 = .ok (.aload_n 0, 1) := by decide +kernel
theorem dX4_turn_22 : decode cX4_turn 22 = .ok (.iload_n 1, 1) := by decide +kernel
theorem dX4_turn_23 : decode cX4_turn 23 = .ok (.putfield 101, 3) := by decide +kernel
theorem dX4_turn_26 : decode cX4_turn 26 = .ok (.iload_n 2, 1) := by decide +kernel
theorem dX4_turn_27 : decode cX4_turn 27 = .ok (.ireturn, 1) := by decide +kernel
theorem dX4_edge_0 : decode cX4_edge 0 = .ok (.iload_n 1, 1) := by decide +kernel
theorem dX4_edge_1 : decode cX4_edge 1 = .ok (.aload_n 0, 1) := by decide +kernel
theorem dX4_edge_2 : decode cX4_edge 2 = .ok (.getfield 67, 3) := by decide +kernel
theorem dX4_edge_5 : decode cX4_edge 5 = .ok (.idiv, 1) := by decide +kernel
theorem dX4_edge_6 : decode cX4_edge 6 = .ok (.istore_n 3, 1) := by decide +kernel
theorem dX4_edge_7 : decode cX4_edge 7 = .ok (.iload_n 1, 1) := by decide +kernel
theorem dX4_edge_8 : decode cX4_edge 8 = .ok (.aload_n 0, 1) := by decide +kernel
theorem dX4_edge_9 : decode cX4_edge 9 = .ok (.getfield 67, 3) := by decide +kernel
theorem dX4_edge_12 : decode cX4_edge 12 = .ok (.irem, 1) := by decide +kernel
theorem dX4_edge_13 : decode cX4_edge 13 = .ok (.istore 4, 2) := by decide +kernel
theorem dX4_edge_15 : decode cX4_edge 15 = .ok (.iload_n 2, 1) := by decide +kernel
theorem dX4_edge_16 : decode cX4_edge 16 = .ok (.tableswitch 54 0 2 #[28, 30, 37], 28) := by decide +kernel
theorem dX4_edge_44 : decode cX4_edge 44 = .ok (.iload_n 1, 1) := by decide +kernel
theorem dX4_edge_45 : decode cX4_edge 45 = .ok (.ireturn, 1) := by decide +kernel
theorem dX4_edge_46 : decode cX4_edge 46 = .ok (.iload_n 1, 1) := by decide +kernel
theorem dX4_edge_47 : decode cX4_edge 47 = .ok (.aload_n 0, 1) := by decide +kernel
theorem dX4_edge_48 : decode cX4_edge 48 = .ok (.getfield 67, 3) := by decide +kernel
theorem dX4_edge_51 : decode cX4_edge 51 = .ok (.iadd, 1) := by decide +kernel
theorem dX4_edge_52 : decode cX4_edge 52 = .ok (.ireturn, 1) := by decide +kernel
theorem dX4_edge_53 : decode cX4_edge 53 = .ok (.aload_n 0, 1) := by decide +kernel
theorem dX4_edge_54 : decode cX4_edge 54 = .ok (.invokevirtual 110, 3) := by decide +kernel
theorem dX4_edge_57 : decode cX4_edge 57 = .ok (.iload_n 3, 1) := by decide +kernel
theorem dX4_edge_58 : decode cX4_edge 58 = .ok (.aload_n 0, 1) := by decide +kernel
theorem dX4_edge_59 : decode cX4_edge 59 = .ok (.getfield 67, 3) := by decide +kernel
theorem dX4_edge_62 : decode cX4_edge 62 = .ok (.iconst 1, 1) := by decide +kernel
theorem dX4_edge_63 : decode cX4_edge 63 = .ok (.iadd, 1) := by decide +kernel
theorem dX4_edge_64 : decode cX4_edge 64 = .ok (.imul, 1) := by decide +kernel
theorem dX4_edge_65 : decode cX4_edge 65 = .ok (.iadd, 1) := by decide +kernel
theorem dX4_edge_66 : decode cX4_edge 66 = .ok (.iload 4, 2) := by decide +kernel
theorem dX4_edge_68 : decode cX4_edge 68 = .ok (.iadd, 1) := by decide +kernel
theorem dX4_edge_69 : decode cX4_edge 69 = .ok (.ireturn, 1) := by decide +kernel
theorem dX4_edge_70 : decode cX4_edge 70 = .ok (.aload_n 0, 1) := by decide +kernel
theorem dX4_edge_71 : decode cX4_edge 71 = .ok (.invokevirtual 110, 3) := by decide +kernel
theorem dX4_edge_74 : decode cX4_edge 74 = .ok (.iload_n 3, 1) := by decide +kernel
theorem dX4_edge_75 : decode cX4_edge 75 = .ok (.aload_n 0, 1) := by decide +kernel
theorem dX4_edge_76 : decode cX4_edge 76 = .ok (.getfield 67, 3) := by decide +kernel
theorem dX4_edge_79 : decode cX4_edge 79 = .ok (.iconst 1, 1) := by decide +kernel
theorem dX4_edge_80 : decode cX4_edge 80 = .ok (.iadd, 1) := by decide +kernel
theorem dX4_edge_81 : decode cX4_edge 81 = .ok (.imul, 1) := by decide +kernel
theorem dX4_edge_82 : decode cX4_edge 82 = .ok (.iadd, 1) := by decide +kernel
theorem dX4_edge_83 : decode cX4_edge 83 = .ok (.iload 4, 2) := by decide +kernel
theorem dX4_edge_85 : decode cX4_edge 85 = .ok (.iadd, 1) := by decide +kernel
theorem dX4_edge_86 : decode cX4_edge 86 = .ok (.iconst 1, 1) := by decide +kernel
theorem dX4_edge_87 : decode cX4_edge 87 = .ok (.iadd, 1) := by decide +kernel
theorem dX4_edge_88 : decode cX4_edge 88 = .ok (.ireturn, 1) := by decide +kernel
theorem dX4_field_0 : decode cX4_field 0 = .ok (.iload_n 1, 1) := by decide +kernel
theorem dX4_field_1 : decode cX4_field 1 = .ok (.aload_n 0, 1) := by decide +kernel
theorem dX4_field_2 : decode cX4_field 2 = .ok (.invokevirtual 110, 3) := by decide +kernel
theorem dX4_field_5 : decode cX4_field 5 = .ok (.if_icmp .ge 32, 3) := by decide +kernel
theorem dX4_field_8 : decode cX4_field 8 = .ok (.iload_n 2, 1) := by decide +kernel
theorem dX4_field_9 : decode cX4_field 9 = .ok (.ifCond .ne 12, 3) := by decide +kernel
theorem dX4_field_12 : decode cX4_field 12 = .ok (.iload_n 1, 1) := by decide +kernel
theorem dX4_field_13 : decode cX4_field 13 = .ok (.aload_n 0, 1) := by decide +kernel
theorem dX4_field_14 : decode cX4_field 14 = .ok (.getfield 67, 3) := by decide +kernel
theorem dX4_field_17 : decode cX4_field 17 = .ok (.isub, 1) := by decide +kernel
theorem dX4_field_18 : decode cX4_field 18 = .ok (.goto 4, 3) := by decide +kernel
theorem dX4_field_21 : decode cX4_field 21 = .ok (.iload_n 1, 1) := by decide +kernel
theorem dX4_field_22 : decode cX4_field 22 = .ok (.istore_n 3, 1) := by decide +kernel
theorem dX4_field_23 : decode cX4_field 23 = .ok (.aload_n 0, 1) := by decide +kernel
theorem dX4_field_24 : decode cX4_field 24 = .ok (.iload_n 3, 1) := by decide +kernel
theorem dX4_field_25 : decode cX4_field 25 = .ok (.invokevirtual 116, 3) := by decide +kernel
theorem dX4_field_28 : decode cX4_field 28 = .ok (.ifCond .eq 7, 3) := by decide +kernel
theorem dX4_field_31 : decode cX4_field 31 = .ok (.iload_n 3, 1) := by decide +kernel
theorem dX4_field_32 : decode cX4_field 32 = .ok (.goto 4, 3) := by decide +kernel
theorem dX4_field_35 : decode cX4_field 35 = .ok (.iconst (-1), 1) := by decide +kernel
theorem dX4_field_36 : decode cX4_field 36 = .ok (.ireturn, 1) := by decide +kernel
theorem dX4_field_37 : decode cX4_field 37 = .ok (.iload_n 1, 1) := by decide +kernel
theorem dX4_field_38 : decode cX4_field 38 = .ok (.aload_n 0, 1) := by decide +kernel
theorem dX4_field_39 : decode cX4_field 39 = .ok (.invokevirtual 110, 3) := by decide +kernel
theorem dX4_field_42 : decode cX4_field 42 = .ok (.isub, 1) := by decide +kernel
theorem dX4_field_43 : decode cX4_field 43 = .ok (.aload_n 0, 1) := by decide +kernel
theorem dX4_field_44 : decode cX4_field 44 = .ok (.getfield 67, 3) := by decide +kernel
theorem dX4_field_47 : decode cX4_field 47 = .ok (.iconst 1, 1) := by decide +kernel
theorem dX4_field_48 : decode cX4_field 48 = .ok (.iadd, 1) := by decide +kernel
theorem dX4_field_49 : decode cX4_field 49 = .ok (.idiv, 1) := by decide +kernel
theorem dX4_field_50 : decode cX4_field 50 = .ok (.istore_n 3, 1) := by decide +kernel
theorem dX4_field_51 : decode cX4_field 51 = .ok (.iload_n 1, 1) := by decide +kernel
theorem dX4_field_52 : decode cX4_field 52 = .ok (.aload_n 0, 1) := by decide +kernel
theorem dX4_field_53 : decode cX4_field 53 = .ok (.invokevirtual 110, 3) := by decide +kernel
theorem dX4_field_56 : decode cX4_field 56 = .ok (.isub, 1) := by decide +kernel
theorem dX4_field_57 : decode cX4_field 57 = .ok (.aload_n 0, 1) := by decide +kernel
theorem dX4_field_58 : decode cX4_field 58 = .ok (.getfield 67, 3) := by decide +kernel
theorem dX4_field_61 : decode cX4_field 61 = .ok (.iconst 1, 1) := by decide +kernel
theorem dX4_field_62 : decode cX4_field 62 = .ok (.iadd, 1) := by decide +kernel
theorem dX4_field_63 : decode cX4_field 63 = .ok (.irem, 1) := by decide +kernel
theorem dX4_field_64 : decode cX4_field 64 = .ok (.iconst 1, 1) := by decide +kernel
theorem dX4_field_65 : decode cX4_field 65 = .ok (.isub, 1) := by decide +kernel
theorem dX4_field_66 : decode cX4_field 66 = .ok (.iload_n 2, 1) := by decide +kernel
theorem dX4_field_67 : decode cX4_field 67 = .ok (.iadd, 1) := by decide +kernel
theorem dX4_field_68 : decode cX4_field 68 = .ok (.istore 4, 2) := by decide +kernel
theorem dX4_field_70 : decode cX4_field 70 = .ok (.iload 4, 2) := by decide +kernel
theorem dX4_field_72 : decode cX4_field 72 = .ok (.iconst 0, 1) := by decide +kernel
theorem dX4_field_73 : decode cX4_field 73 = .ok (.aload_n 0, 1) := by decide +kernel
theorem dX4_field_74 : decode cX4_field 74 = .ok (.getfield 67, 3) := by decide +kernel
theorem dX4_field_77 : decode cX4_field 77 = .ok (.iconst 1, 1) := by decide +kernel
theorem dX4_field_78 : decode cX4_field 78 = .ok (.isub, 1) := by decide +kernel
theorem dX4_field_79 : decode cX4_field 79 = .ok (.invokestatic 63, 3) := by decide +kernel
theorem dX4_field_82 : decode cX4_field 82 = .ok (.ifCond .eq 15, 3) := by decide +kernel
theorem dX4_field_85 : decode cX4_field 85 = .ok (.iload_n 3, 1) := by decide +kernel
theorem dX4_field_86 : decode cX4_field 86 = .ok (.aload_n 0, 1) := by decide +kernel
theorem dX4_field_87 : decode cX4_field 87 = .ok (.getfield 67, 3) := by decide +kernel
theorem dX4_field_90 : decode cX4_field 90 = .ok (.imul, 1) := by decide +kernel
theorem dX4_field_91 : decode cX4_field 91 = .ok (.iload 4, 2) := by decide +kernel
theorem dX4_field_93 : decode cX4_field 93 = .ok (.iadd, 1) := by decide +kernel
theorem dX4_field_94 : decode cX4_field 94 = .ok (.goto 4, 3) := by decide +kernel
theorem dX4_field_97 : decode cX4_field 97 = .ok (.iconst (-1), 1) := by decide +kernel
theorem dX4_field_98 : decode cX4_field 98 = .ok (.ireturn, 1) := by decide +kernel
theorem dX4_isRim_0 : decode cX4_isRim 0 = .ok (.aload_n 0, 1) := by decide +kernel
theorem dX4_isRim_1 : decode cX4_isRim 1 = .ok (.iload_n 1, 1) := by decide +kernel
theorem dX4_isRim_2 : decode cX4_isRim 2 = .ok (.iconst 0, 1) := by decide +kernel
theorem dX4_isRim_3 : decode cX4_isRim 3 = .ok (.invokevirtual 119, 3) := by decide +kernel
theorem dX4_isRim_6 : decode cX4_isRim 6 = .ok (.iconst (-1), 1) := by decide +kernel
theorem dX4_isRim_7 : decode cX4_isRim 7 = .ok (.if_icmp .eq 13, 3) := by decide +kernel
theorem dX4_isRim_10 : decode cX4_isRim 10 = .ok (.aload_n 0, 1) := by decide +kernel
theorem dX4_isRim_11 : decode cX4_isRim 11 = .ok (.iload_n 1, 1) := by decide +kernel
theorem dX4_isRim_12 : decode cX4_isRim 12 = .ok (.iconst 1, 1) := by decide +kernel
theorem dX4_isRim_13 : decode cX4_isRim 13 = .ok (.invokevirtual 119, 3) := by decide +kernel
theorem dX4_isRim_16 : decode cX4_isRim 16 = .ok (.iconst (-1), 1) := by decide +kernel
theorem dX4_isRim_17 : decode cX4_isRim 17 = .ok (.if_icmp .ne 7, 3) := by decide +kernel
theorem dX4_isRim_20 : decode cX4_isRim 20 = .ok (.iconst 1, 1) := by decide +kernel
theorem dX4_isRim_21 : decode cX4_isRim 21 = .ok (.goto 4, 3) := by decide +kernel
theorem dX4_isRim_24 : decode cX4_isRim 24 = .ok (.iconst 0, 1) := by decide +kernel
theorem dX4_isRim_25 : decode cX4_isRim 25 = .ok (.ireturn, 1) := by decide +kernel
theorem dX4_hasRim_0 : decode cX4_hasRim 0 = .ok (.iconst 0, 1) := by decide +kernel
theorem dX4_hasRim_1 : decode cX4_hasRim 1 = .ok (.istore_n 2, 1) := by decide +kernel
theorem dX4_hasRim_2 : decode cX4_hasRim 2 = .ok (.iload_n 2, 1) := by decide +kernel
theorem dX4_hasRim_3 : decode cX4_hasRim 3 = .ok (.iconst 4, 1) := by decide +kernel
theorem dX4_hasRim_4 : decode cX4_hasRim 4 = .ok (.if_icmp .ge 24, 3) := by decide +kernel
theorem dX4_hasRim_7 : decode cX4_hasRim 7 = .ok (.aload_n 0, 1) := by decide +kernel
theorem dX4_hasRim_8 : decode cX4_hasRim 8 = .ok (.aload_n 0, 1) := by decide +kernel
theorem dX4_hasRim_9 : decode cX4_hasRim 9 = .ok (.iload_n 1, 1) := by decide +kernel
theorem dX4_hasRim_10 : decode cX4_hasRim 10 = .ok (.iload_n 2, 1) := by decide +kernel
theorem dX4_hasRim_11 : decode cX4_hasRim 11 = .ok (.invokevirtual 122, 3) := by decide +kernel
theorem dX4_hasRim_14 : decode cX4_hasRim 14 = .ok (.invokevirtual 125, 3) := by decide +kernel
theorem dX4_hasRim_17 : decode cX4_hasRim 17 = .ok (.ifCond .eq 5, 3) := by decide +kernel
theorem dX4_hasRim_20 : decode cX4_hasRim 20 = .ok (.iconst 1, 1) := by decide +kernel
theorem dX4_hasRim_21 : decode cX4_hasRim 21 = .ok (.ireturn, 1) := by decide +kernel
theorem dX4_hasRim_22 : decode cX4_hasRim 22 = .ok (.iinc 2 1, 3) := by decide +kernel
theorem dX4_hasRim_25 : decode cX4_hasRim 25 = .ok (.goto (-23), 3) := by decide +kernel
theorem dX4_hasRim_28 : decode cX4_hasRim 28 = .ok (.iconst 0, 1) := by decide +kernel
theorem dX4_hasRim_29 : decode cX4_hasRim 29 = .ok (.ireturn, 1) := by decide +kernel
theorem dX4_beside_0 : decode cX4_beside 0 = .ok (.aload_n 0, 1) := by decide +kernel
theorem dX4_beside_1 : decode cX4_beside 1 = .ok (.aload_n 0, 1) := by decide +kernel
theorem dX4_beside_2 : decode cX4_beside 2 = .ok (.iload_n 1, 1) := by decide +kernel
theorem dX4_beside_3 : decode cX4_beside 3 = .ok (.iload_n 2, 1) := by decide +kernel
theorem dX4_beside_4 : decode cX4_beside 4 = .ok (.invokevirtual 122, 3) := by decide +kernel
theorem dX4_beside_7 : decode cX4_beside 7 = .ok (.iload_n 2, 1) := by decide +kernel
theorem dX4_beside_8 : decode cX4_beside 8 = .ok (.iconst 2, 1) := by decide +kernel
theorem dX4_beside_9 : decode cX4_beside 9 = .ok (.irem, 1) := by decide +kernel
theorem dX4_beside_10 : decode cX4_beside 10 = .ok (.invokevirtual 119, 3) := by decide +kernel
theorem dX4_beside_13 : decode cX4_beside 13 = .ok (.ireturn, 1) := by decide +kernel
theorem dX4_hedges_0 : decode cX4_hedges 0 = .ok (.iconst 0, 1) := by decide +kernel
theorem dX4_hedges_1 : decode cX4_hedges 1 = .ok (.istore_n 2, 1) := by decide +kernel
theorem dX4_hedges_2 : decode cX4_hedges 2 = .ok (.iconst 0, 1) := by decide +kernel
theorem dX4_hedges_3 : decode cX4_hedges 3 = .ok (.istore_n 3, 1) := by decide +kernel
theorem dX4_hedges_4 : decode cX4_hedges 4 = .ok (.iload_n 3, 1) := by decide +kernel
theorem dX4_hedges_5 : decode cX4_hedges 5 = .ok (.iconst 4, 1) := by decide +kernel
theorem dX4_hedges_6 : decode cX4_hedges 6 = .ok (.if_icmp .ge 26, 3) := by decide +kernel
theorem dX4_hedges_9 : decode cX4_hedges 9 = .ok (.aload_n 0, 1) := by decide +kernel
theorem dX4_hedges_10 : decode cX4_hedges 10 = .ok (.getfield 7, 3) := by decide +kernel
theorem dX4_hedges_13 : decode cX4_hedges 13 = .ok (.aload_n 0, 1) := by decide +kernel
theorem dX4_hedges_14 : decode cX4_hedges 14 = .ok (.iload_n 1, 1) := by decide +kernel
theorem dX4_hedges_15 : decode cX4_hedges 15 = .ok (.iload_n 3, 1) := by decide +kernel
theorem dX4_hedges_16 : decode cX4_hedges 16 = .ok (.invokevirtual 122, 3) := by decide +kernel
theorem dX4_hedges_19 : decode cX4_hedges 19 = .ok (.baload, 1) := by decide +kernel
theorem dX4_hedges_20 : decode cX4_hedges 20 = .ok (.ifCond .eq 6, 3) := by decide +kernel
theorem dX4_hedges_23 : decode cX4_hedges 23 = .ok (.iinc 2 1, 3) := by decide +kernel
theorem dX4_hedges_26 : decode cX4_hedges 26 = .ok (.iinc 3 1, 3) := by decide +kernel
theorem dX4_hedges_29 : decode cX4_hedges 29 = .ok (.goto (-25), 3) := by decide +kernel
theorem dX4_hedges_32 : decode cX4_hedges 32 = .ok (.iload_n 2, 1) := by decide +kernel
theorem dX4_hedges_33 : decode cX4_hedges 33 = .ok (.ireturn, 1) := by decide +kernel
theorem dX4_feed_0 : decode cX4_feed 0 = .ok (.iload_n 1, 1) := by decide +kernel
theorem dX4_feed_1 : decode cX4_feed 1 = .ok (.iconst 0, 1) := by decide +kernel
theorem dX4_feed_2 : decode cX4_feed 2 = .ok (.sipush 255, 3) := by decide +kernel
theorem dX4_feed_5 : decode cX4_feed 5 = .ok (.invokestatic 63, 3) := by decide +kernel
theorem dX4_feed_8 : decode cX4_feed 8 = .ok (.ifCond .ne 10, 3) := by decide +kernel
theorem dX4_feed_11 : decode cX4_feed 11 = .ok (.aload_n 0, 1) := by decide +kernel
theorem dX4_feed_12 : decode cX4_feed 12 = .ok (.bipush (-2), 2) := by decide +kernel
theorem dX4_feed_14 : decode cX4_feed 14 = .ok (.invokevirtual 56, 3) := by decide +kernel
theorem dX4_feed_17 : decode cX4_feed 17 = .ok (.ireturn, 1) := by decide +kernel
theorem dX4_feed_18 : decode cX4_feed 18 = .ok (.aload_n 0, 1) := by decide +kernel
theorem dX4_feed_19 : decode cX4_feed 19 = .ok (.getfield 128, 3) := by decide +kernel
theorem dX4_feed_22 : decode cX4_feed 22 = .ok (.sipush 250, 3) := by decide +kernel
theorem dX4_feed_25 : decode cX4_feed 25 = .ok (.if_icmp .ne 10, 3) := by decide +kernel
theorem dX4_feed_28 : decode cX4_feed 28 = .ok (.aload_n 0, 1) := by decide +kernel
theorem dX4_feed_29 : decode cX4_feed 29 = .ok (.bipush (-6), 2) := by decide +kernel
theorem dX4_feed_31 : decode cX4_feed 31 = .ok (.invokevirtual 56, 3) := by decide +kernel
theorem dX4_feed_34 : decode cX4_feed 34 = .ok (.ireturn, 1) := by decide +kernel
theorem dX4_feed_35 : decode cX4_feed 35 = .ok (.aload_n 0, 1) := by decide +kernel
theorem dX4_feed_36 : decode cX4_feed 36 = .ok (.getfield 26, 3) := by decide +kernel
theorem dX4_feed_39 : decode cX4_feed 39 = .ok (.aload_n 0, 1) := by decide +kernel
theorem dX4_feed_40 : decode cX4_feed 40 = .ok (.dup, 1) := by decide +kernel
theorem dX4_feed_41 : decode cX4_feed 41 = .ok (.getfield 128, 3) := by decide +kernel
theorem dX4_feed_44 : decode cX4_feed 44 = .ok (.dup_x1, 1) := by decide +kernel
theorem dX4_feed_45 : decode cX4_feed 45 = .ok (.iconst 1, 1) := by decide +kernel
theorem dX4_feed_46 : decode cX4_feed 46 = .ok (.iadd, 1) := by decide +kernel
theorem dX4_feed_47 : decode cX4_feed 47 = .ok (.putfield 128, 3) := by decide +kernel
theorem dX4_feed_50 : decode cX4_feed 50 = .ok (.iload_n 1, 1) := by decide +kernel
theorem dX4_feed_51 : decode cX4_feed 51 = .ok (.iastore, 1) := by decide +kernel
theorem dX4_feed_52 : decode cX4_feed 52 = .ok (.aload_n 0, 1) := by decide +kernel
theorem dX4_feed_53 : decode cX4_feed 53 = .ok (.getfield 128, 3) := by decide +kernel
theorem dX4_feed_56 : decode cX4_feed 56 = .ok (.ireturn, 1) := by decide +kernel
theorem dX4_wipe_0 : decode cX4_wipe 0 = .ok (.aload_n 0, 1) := by decide +kernel
theorem dX4_wipe_1 : decode cX4_wipe 1 = .ok (.getfield 128, 3) := by decide +kernel
theorem dX4_wipe_4 : decode cX4_wipe 4 = .ok (.istore_n 1, 1) := by decide +kernel
theorem dX4_wipe_5 : decode cX4_wipe 5 = .ok (.aload_n 0, 1) := by decide +kernel
theorem dX4_wipe_6 : decode cX4_wipe 6 = .ok (.iconst 0, 1) := by decide +kernel
theorem dX4_wipe_7 : decode cX4_wipe 7 = .ok (.putfield 128, 3) := by decide +kernel
theorem dX4_wipe_10 : decode cX4_wipe 10 = .ok (.iload_n 1, 1) := by decide +kernel
theorem dX4_wipe_11 : decode cX4_wipe 11 = .ok (.ireturn, 1) := by decide +kernel
theorem dX4_isLetter_0 : decode cX4_isLetter 0 = .ok (.iload_n 0, 1) := by decide +kernel
theorem dX4_isLetter_1 : decode cX4_isLetter 1 = .ok (.bipush 97, 2) := by decide +kernel
theorem dX4_isLetter_3 : decode cX4_isLetter 3 = .ok (.if_icmp .lt 13, 3) := by decide +kernel
theorem dX4_isLetter_6 : decode cX4_isLetter 6 = .ok (.iload_n 0, 1) := by decide +kernel
theorem dX4_isLetter_7 : decode cX4_isLetter 7 = .ok (.bipush 122, 2) := by decide +kernel
theorem dX4_isLetter_9 : decode cX4_isLetter 9 = .ok (.if_icmp .gt 7, 3) := by decide +kernel
theorem dX4_isLetter_12 : decode cX4_isLetter 12 = .ok (.iconst 1, 1) := by decide +kernel
theorem dX4_isLetter_13 : decode cX4_isLetter 13 = .ok (.goto 4, 3) := by decide +kernel
theorem dX4_isLetter_16 : decode cX4_isLetter 16 = .ok (.iconst 0, 1) := by decide +kernel
theorem dX4_isLetter_17 : decode cX4_isLetter 17 = .ok (.ireturn, 1) := by decide +kernel
theorem dX4_isDigit_0 : decode cX4_isDigit 0 = .ok (.iload_n 0, 1) := by decide +kernel
theorem dX4_isDigit_1 : decode cX4_isDigit 1 = .ok (.bipush 48, 2) := by decide +kernel
theorem dX4_isDigit_3 : decode cX4_isDigit 3 = .ok (.if_icmp .lt 13, 3) := by decide +kernel
theorem dX4_isDigit_6 : decode cX4_isDigit 6 = .ok (.iload_n 0, 1) := by decide +kernel
theorem dX4_isDigit_7 : decode cX4_isDigit 7 = .ok (.bipush 57, 2) := by decide +kernel
theorem dX4_isDigit_9 : decode cX4_isDigit 9 = .ok (.if_icmp .gt 7, 3) := by decide +kernel
theorem dX4_isDigit_12 : decode cX4_isDigit 12 = .ok (.iconst 1, 1) := by decide +kernel
theorem dX4_isDigit_13 : decode cX4_isDigit 13 = .ok (.goto 4, 3) := by decide +kernel
theorem dX4_isDigit_16 : decode cX4_isDigit 16 = .ok (.iconst 0, 1) := by decide +kernel
theorem dX4_isDigit_17 : decode cX4_isDigit 17 = .ok (.ireturn, 1) := by decide +kernel
theorem dX4_next_0 : decode cX4_next 0 = .ok (.aload_n 0, 1) := by decide +kernel
theorem dX4_next_1 : decode cX4_next 1 = .ok (.aload_n 0, 1) := by decide +kernel
theorem dX4_next_2 : decode cX4_next 2 = .ok (.getfield 131, 3) := by decide +kernel
theorem dX4_next_5 : decode cX4_next 5 = .ok (.putfield 134, 3) := by decide +kernel
theorem dX4_next_8 : decode cX4_next 8 = .ok (.aload_n 0, 1) := by decide +kernel
theorem dX4_next_9 : decode cX4_next 9 = .ok (.getfield 134, 3) := by decide +kernel
theorem dX4_next_12 : decode cX4_next 12 = .ok (.aload_n 0, 1) := by decide +kernel
theorem dX4_next_13 : decode cX4_next 13 = .ok (.getfield 128, 3) := by decide +kernel
theorem dX4_next_16 : decode cX4_next 16 = .ok (.if_icmp .ge 30, 3) := by decide +kernel
theorem dX4_next_19 : decode cX4_next 19 = .ok (.aload_n 0, 1) := by decide +kernel
theorem dX4_next_20 : decode cX4_next 20 = .ok (.getfield 26, 3) := by decide +kernel
theorem dX4_next_23 : decode cX4_next 23 = .ok (.aload_n 0, 1) := by decide +kernel
theorem dX4_next_24 : decode cX4_next 24 = .ok (.getfield 134, 3) := by decide +kernel
theorem dX4_next_27 : decode cX4_next 27 = .ok (.iaload, 1) := by decide +kernel
theorem dX4_next_28 : decode cX4_next 28 = .ok (.bipush 32, 2) := by decide +kernel
theorem dX4_next_30 : decode cX4_next 30 = .ok (.if_icmp .ne 16, 3) := by decide +kernel
theorem dX4_next_33 : decode cX4_next 33 = .ok (.aload_n 0, 1) := by decide +kernel
theorem dX4_next_34 : decode cX4_next 34 = .ok (.dup, 1) := by decide +kernel
theorem dX4_next_35 : decode cX4_next 35 = .ok (.getfield 134, 3) := by decide +kernel
theorem dX4_next_38 : decode cX4_next 38 = .ok (.iconst 1, 1) := by decide +kernel
theorem dX4_next_39 : decode cX4_next 39 = .ok (.iadd, 1) := by decide +kernel
theorem dX4_next_40 : decode cX4_next 40 = .ok (.putfield 134, 3) := by decide +kernel
theorem dX4_next_43 : decode cX4_next 43 = .ok (.goto (-35), 3) := by decide +kernel
theorem dX4_next_46 : decode cX4_next 46 = .ok (.aload_n 0, 1) := by decide +kernel
theorem dX4_next_47 : decode cX4_next 47 = .ok (.aload_n 0, 1) := by decide +kernel
theorem dX4_next_48 : decode cX4_next 48 = .ok (.getfield 134, 3) := by decide +kernel
theorem dX4_next_51 : decode cX4_next 51 = .ok (.putfield 131, 3) := by decide +kernel
theorem dX4_next_54 : decode cX4_next 54 = .ok (.aload_n 0, 1) := by decide +kernel
theorem dX4_next_55 : decode cX4_next 55 = .ok (.getfield 134, 3) := by decide +kernel
theorem dX4_next_58 : decode cX4_next 58 = .ok (.aload_n 0, 1) := by decide +kernel
theorem dX4_next_59 : decode cX4_next 59 = .ok (.getfield 128, 3) := by decide +kernel
theorem dX4_next_62 : decode cX4_next 62 = .ok (.if_icmp .ne 10, 3) := by decide +kernel
theorem dX4_next_65 : decode cX4_next 65 = .ok (.aload_n 0, 1) := by decide +kernel
theorem dX4_next_66 : decode cX4_next 66 = .ok (.bipush 101, 2) := by decide +kernel
theorem dX4_next_68 : decode cX4_next 68 = .ok (.putfield 137, 3) := by decide +kernel
theorem dX4_next_71 : decode cX4_next 71 = .ok (.return_, 1) := by decide +kernel
theorem dX4_next_72 : decode cX4_next 72 = .ok (.aload_n 0, 1) := by decide +kernel
theorem dX4_next_73 : decode cX4_next 73 = .ok (.getfield 26, 3) := by decide +kernel
theorem dX4_next_76 : decode cX4_next 76 = .ok (.aload_n 0, 1) := by decide +kernel
theorem dX4_next_77 : decode cX4_next 77 = .ok (.dup, 1) := by decide +kernel
theorem dX4_next_78 : decode cX4_next 78 = .ok (.getfield 131, 3) := by decide +kernel
theorem dX4_next_81 : decode cX4_next 81 = .ok (.dup_x1, 1) := by decide +kernel
theorem dX4_next_82 : decode cX4_next 82 = .ok (.iconst 1, 1) := by decide +kernel
theorem dX4_next_83 : decode cX4_next 83 = .ok (.iadd, 1) := by decide +kernel
theorem dX4_next_84 : decode cX4_next 84 = .ok (.putfield 131, 3) := by decide +kernel
theorem dX4_next_87 : decode cX4_next 87 = .ok (.iaload, 1) := by decide +kernel
theorem dX4_next_88 : decode cX4_next 88 = .ok (.istore_n 1, 1) := by decide +kernel
theorem dX4_next_89 : decode cX4_next 89 = .ok (.iload_n 1, 1) := by decide +kernel
theorem dX4_next_90 : decode cX4_next 90 = .ok (.invokestatic 140, 3) := by decide +kernel
theorem dX4_next_93 : decode cX4_next 93 = .ok (.ifCond .eq 51, 3) := by decide +kernel
theorem dX4_next_96 : decode cX4_next 96 = .ok (.aload_n 0, 1) := by decide +kernel
theorem dX4_next_97 : decode cX4_next 97 = .ok (.getfield 131, 3) := by decide +kernel
theorem dX4_next_100 : decode cX4_next 100 = .ok (.aload_n 0, 1) := by decide +kernel
theorem dX4_next_101 : decode cX4_next 101 = .ok (.getfield 128, 3) := by decide +kernel
theorem dX4_next_104 : decode cX4_next 104 = .ok (.if_icmp .ge 31, 3) := by decide +kernel
theorem dX4_next_107 : decode cX4_next 107 = .ok (.aload_n 0, 1) := by decide +kernel
theorem dX4_next_108 : decode cX4_next 108 = .ok (.getfield 26, 3) := by decide +kernel
theorem dX4_next_111 : decode cX4_next 111 = .ok (.aload_n 0, 1) := by decide +kernel
theorem dX4_next_112 : decode cX4_next 112 = .ok (.getfield 131, 3) := by decide +kernel
theorem dX4_next_115 : decode cX4_next 115 = .ok (.iaload, 1) := by decide +kernel
theorem dX4_next_116 : decode cX4_next 116 = .ok (.invokestatic 140, 3) := by decide +kernel
theorem dX4_next_119 : decode cX4_next 119 = .ok (.ifCond .eq 16, 3) := by decide +kernel
theorem dX4_next_122 : decode cX4_next 122 = .ok (.aload_n 0, 1) := by decide +kernel
theorem dX4_next_123 : decode cX4_next 123 = .ok (.dup, 1) := by decide +kernel
theorem dX4_next_124 : decode cX4_next 124 = .ok (.getfield 131, 3) := by decide +kernel
theorem dX4_next_127 : decode cX4_next 127 = .ok (.iconst 1, 1) := by decide +kernel
theorem dX4_next_128 : decode cX4_next 128 = .ok (.iadd, 1) := by decide +kernel
theorem dX4_next_129 : decode cX4_next 129 = .ok (.putfield 131, 3) := by decide +kernel
theorem dX4_next_132 : decode cX4_next 132 = .ok (.goto (-36), 3) := by decide +kernel
theorem dX4_next_135 : decode cX4_next 135 = .ok (.aload_n 0, 1) := by decide +kernel
theorem dX4_next_136 : decode cX4_next 136 = .ok (.bipush 119, 2) := by decide +kernel
theorem dX4_next_138 : decode cX4_next 138 = .ok (.putfield 137, 3) := by decide +kernel
theorem dX4_next_141 : decode cX4_next 141 = .ok (.goto 138, 3) := by decide +kernel
theorem dX4_next_144 : decode cX4_next 144 = .ok (.iload_n 1, 1) := by decide +kernel
theorem dX4_next_145 : decode cX4_next 145 = .ok (.invokestatic 143, 3) := by decide +kernel
theorem dX4_next_148 : decode cX4_next 148 = .ok (.ifCond .eq 114, 3) := by decide +kernel
theorem dX4_next_151 : decode cX4_next 151 = .ok (.aload_n 0, 1) := by decide +kernel
theorem dX4_next_152 : decode cX4_next 152 = .ok (.iload_n 1, 1) := by decide +kernel
theorem dX4_next_153 : decode cX4_next 153 = .ok (.bipush 48, 2) := by decide +kernel
theorem dX4_next_155 : decode cX4_next 155 = .ok (.isub, 1) := by decide +kernel
theorem dX4_next_156 : decode cX4_next 156 = .ok (.putfield 146, 3) := by decide +kernel
theorem dX4_next_159 : decode cX4_next 159 = .ok (.aload_n 0, 1) := by decide +kernel
theorem dX4_next_160 : decode cX4_next 160 = .ok (.getfield 131, 3) := by decide +kernel
theorem dX4_next_163 : decode cX4_next 163 = .ok (.aload_n 0, 1) := by decide +kernel
theorem dX4_next_164 : decode cX4_next 164 = .ok (.getfield 128, 3) := by decide +kernel
theorem dX4_next_167 : decode cX4_next 167 = .ok (.if_icmp .ge 68, 3) := by decide +kernel
theorem dX4_next_170 : decode cX4_next 170 = .ok (.aload_n 0, 1) := by decide +kernel
theorem dX4_next_171 : decode cX4_next 171 = .ok (.getfield 26, 3) := by decide +kernel
theorem dX4_next_174 : decode cX4_next 174 = .ok (.aload_n 0, 1) := by decide +kernel
theorem dX4_next_175 : decode cX4_next 175 = .ok (.getfield 131, 3) := by decide +kernel
theorem dX4_next_178 : decode cX4_next 178 = .ok (.iaload, 1) := by decide +kernel
theorem dX4_next_179 : decode cX4_next 179 = .ok (.invokestatic 143, 3) := by decide +kernel
theorem dX4_next_182 : decode cX4_next 182 = .ok (.ifCond .eq 53, 3) := by decide +kernel
theorem dX4_next_185 : decode cX4_next 185 = .ok (.aload_n 0, 1) := by decide +kernel
theorem dX4_next_186 : decode cX4_next 186 = .ok (.getfield 131, 3) := by decide +kernel
theorem dX4_next_189 : decode cX4_next 189 = .ok (.aload_n 0, 1) := by decide +kernel
theorem dX4_next_190 : decode cX4_next 190 = .ok (.getfield 134, 3) := by decide +kernel
theorem dX4_next_193 : decode cX4_next 193 = .ok (.isub, 1) := by decide +kernel
theorem dX4_next_194 : decode cX4_next 194 = .ok (.iconst 2, 1) := by decide +kernel
theorem dX4_next_195 : decode cX4_next 195 = .ok (.if_icmp .ge 27, 3) := by decide +kernel
theorem dX4_next_198 : decode cX4_next 198 = .ok (.aload_n 0, 1) := by decide +kernel
theorem dX4_next_199 : decode cX4_next 199 = .ok (.bipush 10, 2) := by decide +kernel
theorem dX4_next_201 : decode cX4_next 201 = .ok (.aload_n 0, 1) := by decide +kernel
theorem dX4_next_202 : decode cX4_next 202 = .ok (.getfield 146, 3) := by decide +kernel
theorem dX4_next_205 : decode cX4_next 205 = .ok (.imul, 1) := by decide +kernel
theorem dX4_next_206 : decode cX4_next 206 = .ok (.aload_n 0, 1) := by decide +kernel
theorem dX4_next_207 : decode cX4_next 207 = .ok (.getfield 26, 3) := by decide +kernel
theorem dX4_next_210 : decode cX4_next 210 = .ok (.aload_n 0, 1) := by decide +kernel
theorem dX4_next_211 : decode cX4_next 211 = .ok (.getfield 131, 3) := by decide +kernel
theorem dX4_next_214 : decode cX4_next 214 = .ok (.iaload, 1) := by decide +kernel
theorem dX4_next_215 : decode cX4_next 215 = .ok (.iadd, 1) := by decide +kernel
theorem dX4_next_216 : decode cX4_next 216 = .ok (.bipush 48, 2) := by decide +kernel
theorem dX4_next_218 : decode cX4_next 218 = .ok (.isub, 1) := by decide +kernel
theorem dX4_next_219 : decode cX4_next 219 = .ok (.putfield 146, 3) := by decide +kernel
theorem dX4_next_222 : decode cX4_next 222 = .ok (.aload_n 0, 1) := by decide +kernel
theorem dX4_next_223 : decode cX4_next 223 = .ok (.dup, 1) := by decide +kernel
theorem dX4_next_224 : decode cX4_next 224 = .ok (.getfield 131, 3) := by decide +kernel
theorem dX4_next_227 : decode cX4_next 227 = .ok (.iconst 1, 1) := by decide +kernel
theorem dX4_next_228 : decode cX4_next 228 = .ok (.iadd, 1) := by decide +kernel
theorem dX4_next_229 : decode cX4_next 229 = .ok (.putfield 131, 3) := by decide +kernel
theorem dX4_next_232 : decode cX4_next 232 = .ok (.goto (-73), 3) := by decide +kernel
theorem dX4_next_235 : decode cX4_next 235 = .ok (.aload_n 0, 1) := by decide +kernel
theorem dX4_next_236 : decode cX4_next 236 = .ok (.aload_n 0, 1) := by decide +kernel
theorem dX4_next_237 : decode cX4_next 237 = .ok (.getfield 131, 3) := by decide +kernel
theorem dX4_next_240 : decode cX4_next 240 = .ok (.aload_n 0, 1) := by decide +kernel
theorem dX4_next_241 : decode cX4_next 241 = .ok (.getfield 134, 3) := by decide +kernel
theorem dX4_next_244 : decode cX4_next 244 = .ok (.isub, 1) := by decide +kernel
theorem dX4_next_245 : decode cX4_next 245 = .ok (.iconst 2, 1) := by decide +kernel
theorem dX4_next_246 : decode cX4_next 246 = .ok (.if_icmp .le 8, 3) := by decide +kernel
theorem dX4_next_249 : decode cX4_next 249 = .ok (.bipush 120, 2) := by decide +kernel
theorem dX4_next_251 : decode cX4_next 251 = .ok (.goto 5, 3) := by decide +kernel
theorem dX4_next_254 : decode cX4_next 254 = .ok (.bipush 48, 2) := by decide +kernel
theorem dX4_next_256 : decode cX4_next 256 = .ok (.putfield 137, 3) := by decide +kernel
theorem dX4_next_259 : decode cX4_next 259 = .ok (.goto 20, 3) := by decide +kernel
theorem dX4_next_262 : decode cX4_next 262 = .ok (.aload_n 0, 1) := by decide +kernel
theorem dX4_next_263 : decode cX4_next 263 = .ok (.iload_n 1, 1) := by decide +kernel
theorem dX4_next_264 : decode cX4_next 264 = .ok (.bipush 59, 2) := by decide +kernel
theorem dX4_next_266 : decode cX4_next 266 = .ok (.if_icmp .ne 8, 3) := by decide +kernel
theorem dX4_next_269 : decode cX4_next 269 = .ok (.bipush 59, 2) := by decide +kernel
theorem dX4_next_271 : decode cX4_next 271 = .ok (.goto 5, 3) := by decide +kernel
theorem dX4_next_274 : decode cX4_next 274 = .ok (.bipush 120, 2) := by decide +kernel
theorem dX4_next_276 : decode cX4_next 276 = .ok (.putfield 137, 3) := by decide +kernel
theorem dX4_next_279 : decode cX4_next 279 = .ok (.return_, 1) := by decide +kernel
theorem dX4_isWord_0 : decode cX4_isWord 0 = .ok (.aload_n 0, 1) := by decide +kernel
theorem dX4_isWord_1 : decode cX4_isWord 1 = .ok (.getfield 137, 3) := by decide +kernel
theorem dX4_isWord_4 : decode cX4_isWord 4 = .ok (.bipush 119, 2) := by decide +kernel
theorem dX4_isWord_6 : decode cX4_isWord 6 = .ok (.if_icmp .ne 19, 3) := by decide +kernel
theorem dX4_isWord_9 : decode cX4_isWord 9 = .ok (.aload_n 0, 1) := by decide +kernel
theorem dX4_isWord_10 : decode cX4_isWord 10 = .ok (.getfield 131, 3) := by decide +kernel
theorem dX4_isWord_13 : decode cX4_isWord 13 = .ok (.aload_n 0, 1) := by decide +kernel
theorem dX4_isWord_14 : decode cX4_isWord 14 = .ok (.getfield 134, 3) := by decide +kernel
theorem dX4_isWord_17 : decode cX4_isWord 17 = .ok (.isub, 1) := by decide +kernel
theorem dX4_isWord_18 : decode cX4_isWord 18 = .ok (.aload_n 1, 1) := by decide +kernel
theorem dX4_isWord_19 : decode cX4_isWord 19 = .ok (.invokevirtual 149, 3) := by decide +kernel
theorem dX4_isWord_22 : decode cX4_isWord 22 = .ok (.if_icmp .eq 5, 3) := by decide +kernel
theorem dX4_isWord_25 : decode cX4_isWord 25 = .ok (.iconst 0, 1) := by decide +kernel
theorem dX4_isWord_26 : decode cX4_isWord 26 = .ok (.ireturn, 1) := by decide +kernel
theorem dX4_isWord_27 : decode cX4_isWord 27 = .ok (.iconst 0, 1) := by decide +kernel
theorem dX4_isWord_28 : decode cX4_isWord 28 = .ok (.istore_n 2, 1) := by decide +kernel
theorem dX4_isWord_29 : decode cX4_isWord 29 = .ok (.iload_n 2, 1) := by decide +kernel
theorem dX4_isWord_30 : decode cX4_isWord 30 = .ok (.aload_n 1, 1) := by decide +kernel
theorem dX4_isWord_31 : decode cX4_isWord 31 = .ok (.invokevirtual 149, 3) := by decide +kernel
theorem dX4_isWord_34 : decode cX4_isWord 34 = .ok (.if_icmp .ge 30, 3) := by decide +kernel
theorem dX4_isWord_37 : decode cX4_isWord 37 = .ok (.aload_n 0, 1) := by decide +kernel
theorem dX4_isWord_38 : decode cX4_isWord 38 = .ok (.getfield 26, 3) := by decide +kernel
theorem dX4_isWord_41 : decode cX4_isWord 41 = .ok (.aload_n 0, 1) := by decide +kernel
theorem dX4_isWord_42 : decode cX4_isWord 42 = .ok (.getfield 134, 3) := by decide +kernel
theorem dX4_isWord_45 : decode cX4_isWord 45 = .ok (.iload_n 2, 1) := by decide +kernel
theorem dX4_isWord_46 : decode cX4_isWord 46 = .ok (.iadd, 1) := by decide +kernel
theorem dX4_isWord_47 : decode cX4_isWord 47 = .ok (.iaload, 1) := by decide +kernel
theorem dX4_isWord_48 : decode cX4_isWord 48 = .ok (.aload_n 1, 1) := by decide +kernel
theorem dX4_isWord_49 : decode cX4_isWord 49 = .ok (.iload_n 2, 1) := by decide +kernel
theorem dX4_isWord_50 : decode cX4_isWord 50 = .ok (.invokevirtual 154, 3) := by decide +kernel
theorem dX4_isWord_53 : decode cX4_isWord 53 = .ok (.if_icmp .eq 5, 3) := by decide +kernel
theorem dX4_isWord_56 : decode cX4_isWord 56 = .ok (.iconst 0, 1) := by decide +kernel
theorem dX4_isWord_57 : decode cX4_isWord 57 = .ok (.ireturn, 1) := by decide +kernel
theorem dX4_isWord_58 : decode cX4_isWord 58 = .ok (.iinc 2 1, 3) := by decide +kernel
theorem dX4_isWord_61 : decode cX4_isWord 61 = .ok (.goto (-32), 3) := by decide +kernel
theorem dX4_isWord_64 : decode cX4_isWord 64 = .ok (.iconst 1, 1) := by decide +kernel
theorem dX4_isWord_65 : decode cX4_isWord 65 = .ok (.ireturn, 1) := by decide +kernel
theorem dX4_number_0 : decode cX4_number 0 = .ok (.aload_n 0, 1) := by decide +kernel
theorem dX4_number_1 : decode cX4_number 1 = .ok (.invokevirtual 158, 3) := by decide +kernel
theorem dX4_number_4 : decode cX4_number 4 = .ok (.aload_n 0, 1) := by decide +kernel
theorem dX4_number_5 : decode cX4_number 5 = .ok (.getfield 137, 3) := by decide +kernel
theorem dX4_number_8 : decode cX4_number 8 = .ok (.bipush 48, 2) := by decide +kernel
theorem dX4_number_10 : decode cX4_number 10 = .ok (.if_icmp .ne 22, 3) := by decide +kernel
theorem dX4_number_13 : decode cX4_number 13 = .ok (.aload_n 0, 1) := by decide +kernel
theorem dX4_number_14 : decode cX4_number 14 = .ok (.getfield 146, 3) := by decide +kernel
theorem dX4_number_17 : decode cX4_number 17 = .ok (.iload_n 1, 1) := by decide +kernel
theorem dX4_number_18 : decode cX4_number 18 = .ok (.iload_n 2, 1) := by decide +kernel
theorem dX4_number_19 : decode cX4_number 19 = .ok (.invokestatic 63, 3) := by decide +kernel
theorem dX4_number_22 : decode cX4_number 22 = .ok (.ifCond .eq 10, 3) := by decide +kernel
theorem dX4_number_25 : decode cX4_number 25 = .ok (.aload_n 0, 1) := by decide +kernel
theorem dX4_number_26 : decode cX4_number 26 = .ok (.getfield 146, 3) := by decide +kernel
theorem dX4_number_29 : decode cX4_number 29 = .ok (.goto 4, 3) := by decide +kernel
theorem dX4_number_32 : decode cX4_number 32 = .ok (.iconst (-1), 1) := by decide +kernel
theorem dX4_number_33 : decode cX4_number 33 = .ok (.ireturn, 1) := by decide +kernel
theorem dX4_statement_0 : decode cX4_statement 0 = .ok (.aload_n 0, 1) := by decide +kernel
theorem dX4_statement_1 : decode cX4_statement 1 = .ok (.ldc 161, 2) := by decide +kernel
theorem dX4_statement_3 : decode cX4_statement 3 = .ok (.invokevirtual 163, 3) := by decide +kernel
theorem dX4_statement_6 : decode cX4_statement 6 = .ok (.ifCond .eq 42, 3) := by decide +kernel
theorem dX4_statement_9 : decode cX4_statement 9 = .ok (.aload_n 0, 1) := by decide +kernel
theorem dX4_statement_10 : decode cX4_statement 10 = .ok (.iconst 1, 1) := by decide +kernel
theorem dX4_statement_11 : decode cX4_statement 11 = .ok (.iconst 4, 1) := by decide +kernel
theorem dX4_statement_12 : decode cX4_statement 12 = .ok (.invokevirtual 167, 3) := by decide +kernel
theorem dX4_statement_15 : decode cX4_statement 15 = .ok (.istore_n 1, 1) := by decide +kernel
theorem dX4_statement_16 : decode cX4_statement 16 = .ok (.iload_n 1, 1) := by decide +kernel
theorem dX4_statement_17 : decode cX4_statement 17 = .ok (.iconst (-1), 1) := by decide +kernel
theorem dX4_statement_18 : decode cX4_statement 18 = .ok (.if_icmp .ne 7, 3) := by decide +kernel
theorem dX4_statement_21 : decode cX4_statement 21 = .ok (.iconst (-1), 1) := by decide +kernel
theorem dX4_statement_22 : decode cX4_statement 22 = .ok (.goto 9, 3) := by decide +kernel
theorem dX4_statement_25 : decode cX4_statement 25 = .ok (.aload_n 0, 1) := by decide +kernel
theorem dX4_statement_26 : decode cX4_statement 26 = .ok (.iconst 1, 1) := by decide +kernel
theorem dX4_statement_27 : decode cX4_statement 27 = .ok (.iconst 4, 1) := by decide +kernel
theorem dX4_statement_28 : decode cX4_statement 28 = .ok (.invokevirtual 167, 3) := by decide +kernel
theorem dX4_statement_31 : decode cX4_statement 31 = .ok (.istore_n 2, 1) := by decide +kernel
theorem dX4_statement_32 : decode cX4_statement 32 = .ok (.iload_n 2, 1) := by decide +kernel
theorem dX4_statement_33 : decode cX4_statement 33 = .ok (.iconst (-1), 1) := by decide +kernel
theorem dX4_statement_34 : decode cX4_statement 34 = .ok (.if_icmp .ne 5, 3) := by decide +kernel
theorem dX4_statement_37 : decode cX4_statement 37 = .ok (.iconst 0, 1) := by decide +kernel
theorem dX4_statement_38 : decode cX4_statement 38 = .ok (.ireturn, 1) := by decide +kernel
theorem dX4_statement_39 : decode cX4_statement 39 = .ok (.aload_n 0, 1) := by decide +kernel
theorem dX4_statement_40 : decode cX4_statement 40 = .ok (.iload_n 1, 1) := by decide +kernel
theorem dX4_statement_41 : decode cX4_statement 41 = .ok (.iload_n 2, 1) := by decide +kernel
theorem dX4_statement_42 : decode cX4_statement 42 = .ok (.invokevirtual 52, 3) := by decide +kernel
theorem dX4_statement_45 : decode cX4_statement 45 = .ok (.pop, 1) := by decide +kernel
theorem dX4_statement_46 : decode cX4_statement 46 = .ok (.iconst 1, 1) := by decide +kernel
theorem dX4_statement_47 : decode cX4_statement 47 = .ok (.ireturn, 1) := by decide +kernel
theorem dX4_statement_48 : decode cX4_statement 48 = .ok (.aload_n 0, 1) := by decide +kernel
theorem dX4_statement_49 : decode cX4_statement 49 = .ok (.ldc 170, 2) := by decide +kernel
theorem dX4_statement_51 : decode cX4_statement 51 = .ok (.invokevirtual 163, 3) := by decide +kernel
theorem dX4_statement_54 : decode cX4_statement 54 = .ok (.ifCond .ne 12, 3) := by decide +kernel
theorem dX4_statement_57 : decode cX4_statement 57 = .ok (.aload_n 0, 1) := by decide +kernel
theorem dX4_statement_58 : decode cX4_statement 58 = .ok (.ldc 171, 2) := by decide +kernel
theorem dX4_statement_60 : decode cX4_statement 60 = .ok (.invokevirtual 163, 3) := by decide +kernel
theorem dX4_statement_63 : decode cX4_statement 63 = .ok (.ifCond .eq 76, 3) := by decide +kernel
theorem dX4_statement_66 : decode cX4_statement 66 = .ok (.aload_n 0, 1) := by decide +kernel
theorem dX4_statement_67 : decode cX4_statement 67 = .ok (.ldc 171, 2) := by decide +kernel
theorem dX4_statement_69 : decode cX4_statement 69 = .ok (.invokevirtual 163, 3) := by decide +kernel
theorem dX4_statement_72 : decode cX4_statement 72 = .ok (.ifCond .eq 8, 3) := by decide +kernel
theorem dX4_statement_75 : decode cX4_statement 75 = .ok (.bipush 100, 2) := by decide +kernel
theorem dX4_statement_77 : decode cX4_statement 77 = .ok (.goto 4, 3) := by decide +kernel
theorem dX4_statement_80 : decode cX4_statement 80 = .ok (.iconst 0, 1) := by decide +kernel
theorem dX4_statement_81 : decode cX4_statement 81 = .ok (.istore_n 3, 1) := by decide +kernel
theorem dX4_statement_82 : decode cX4_statement 82 = .ok (.aload_n 0, 1) := by decide +kernel
theorem dX4_statement_83 : decode cX4_statement 83 = .ok (.iconst 0, 1) := by decide +kernel
theorem dX4_statement_84 : decode cX4_statement 84 = .ok (.bipush 99, 2) := by decide +kernel
theorem dX4_statement_86 : decode cX4_statement 86 = .ok (.invokevirtual 167, 3) := by decide +kernel
theorem dX4_statement_89 : decode cX4_statement 89 = .ok (.istore_n 1, 1) := by decide +kernel
theorem dX4_statement_90 : decode cX4_statement 90 = .ok (.iload_n 1, 1) := by decide +kernel
theorem dX4_statement_91 : decode cX4_statement 91 = .ok (.iconst (-1), 1) := by decide +kernel
theorem dX4_statement_92 : decode cX4_statement 92 = .ok (.if_icmp .eq 35, 3) := by decide +kernel
theorem dX4_statement_95 : decode cX4_statement 95 = .ok (.iload_n 3, 1) := by decide +kernel
theorem dX4_statement_96 : decode cX4_statement 96 = .ok (.ifCond .ne 11, 3) := by decide +kernel
theorem dX4_statement_99 : decode cX4_statement 99 = .ok (.iload_n 1, 1) := by decide +kernel
theorem dX4_statement_100 : decode cX4_statement 100 = .ok (.aload_n 0, 1) := by decide +kernel
theorem dX4_statement_101 : decode cX4_statement 101 = .ok (.invokevirtual 107, 3) := by decide +kernel
theorem dX4_statement_104 : decode cX4_statement 104 = .ok (.if_icmp .ge 23, 3) := by decide +kernel
theorem dX4_statement_107 : decode cX4_statement 107 = .ok (.aload_n 0, 1) := by decide +kernel
theorem dX4_statement_108 : decode cX4_statement 108 = .ok (.iload_n 3, 1) := by decide +kernel
theorem dX4_statement_109 : decode cX4_statement 109 = .ok (.iload_n 1, 1) := by decide +kernel
theorem dX4_statement_110 : decode cX4_statement 110 = .ok (.iadd, 1) := by decide +kernel
theorem dX4_statement_111 : decode cX4_statement 111 = .ok (.invokevirtual 173, 3) := by decide +kernel
theorem dX4_statement_114 : decode cX4_statement 114 = .ok (.ifCond .eq 13, 3) := by decide +kernel
theorem dX4_statement_117 : decode cX4_statement 117 = .ok (.aload_n 0, 1) := by decide +kernel
theorem dX4_statement_118 : decode cX4_statement 118 = .ok (.iload_n 3, 1) := by decide +kernel
theorem dX4_statement_119 : decode cX4_statement 119 = .ok (.iload_n 1, 1) := by decide +kernel
theorem dX4_statement_120 : decode cX4_statement 120 = .ok (.iadd, 1) := by decide +kernel
theorem dX4_statement_121 : decode cX4_statement 121 = .ok (.invokevirtual 176, 3) := by decide +kernel
theorem dX4_statement_124 : decode cX4_statement 124 = .ok (.ifCond .ne 5, 3) := by decide +kernel
theorem dX4_statement_127 : decode cX4_statement 127 = .ok (.iconst 0, 1) := by decide +kernel
theorem dX4_statement_128 : decode cX4_statement 128 = .ok (.ireturn, 1) := by decide +kernel
theorem dX4_statement_129 : decode cX4_statement 129 = .ok (.aload_n 0, 1) := by decide +kernel
theorem dX4_statement_130 : decode cX4_statement 130 = .ok (.iload_n 3, 1) := by decide +kernel
theorem dX4_statement_131 : decode cX4_statement 131 = .ok (.iload_n 1, 1) := by decide +kernel
theorem dX4_statement_132 : decode cX4_statement 132 = .ok (.iadd, 1) := by decide +kernel
theorem dX4_statement_133 : decode cX4_statement 133 = .ok (.invokevirtual 179, 3) := by decide +kernel
theorem dX4_statement_136 : decode cX4_statement 136 = .ok (.pop, 1) := by decide +kernel
theorem dX4_statement_137 : decode cX4_statement 137 = .ok (.iconst 1, 1) := by decide +kernel
theorem dX4_statement_138 : decode cX4_statement 138 = .ok (.ireturn, 1) := by decide +kernel
theorem dX4_statement_139 : decode cX4_statement 139 = .ok (.aload_n 0, 1) := by decide +kernel
theorem dX4_statement_140 : decode cX4_statement 140 = .ok (.ldc 182, 2) := by decide +kernel
theorem dX4_statement_142 : decode cX4_statement 142 = .ok (.invokevirtual 163, 3) := by decide +kernel
theorem dX4_statement_145 : decode cX4_statement 145 = .ok (.ifCond .eq 24, 3) := by decide +kernel
theorem dX4_statement_148 : decode cX4_statement 148 = .ok (.aload_n 0, 1) := by decide +kernel
theorem dX4_statement_149 : decode cX4_statement 149 = .ok (.iconst 0, 1) := by decide +kernel
theorem dX4_statement_150 : decode cX4_statement 150 = .ok (.iconst 1, 1) := by decide +kernel
theorem dX4_statement_151 : decode cX4_statement 151 = .ok (.invokevirtual 167, 3) := by decide +kernel
theorem dX4_statement_154 : decode cX4_statement 154 = .ok (.istore_n 1, 1) := by decide +kernel
theorem dX4_statement_155 : decode cX4_statement 155 = .ok (.iload_n 1, 1) := by decide +kernel
theorem dX4_statement_156 : decode cX4_statement 156 = .ok (.iconst (-1), 1) := by decide +kernel
theorem dX4_statement_157 : decode cX4_statement 157 = .ok (.if_icmp .ne 5, 3) := by decide +kernel
theorem dX4_statement_160 : decode cX4_statement 160 = .ok (.iconst 0, 1) := by decide +kernel
theorem dX4_statement_161 : decode cX4_statement 161 = .ok (.ireturn, 1) := by decide +kernel
theorem dX4_statement_162 : decode cX4_statement 162 = .ok (.aload_n 0, 1) := by decide +kernel
theorem dX4_statement_163 : decode cX4_statement 163 = .ok (.iload_n 1, 1) := by decide +kernel
theorem dX4_statement_164 : decode cX4_statement 164 = .ok (.putfield 101, 3) := by decide +kernel
theorem dX4_statement_167 : decode cX4_statement 167 = .ok (.iconst 1, 1) := by decide +kernel
theorem dX4_statement_168 : decode cX4_statement 168 = .ok (.ireturn, 1) := by decide +kernel
theorem dX4_statement_169 : decode cX4_statement 169 = .ok (.aload_n 0, 1) := by decide +kernel
theorem dX4_statement_170 : decode cX4_statement 170 = .ok (.ldc 183, 2) := by decide +kernel
theorem dX4_statement_172 : decode cX4_statement 172 = .ok (.invokevirtual 163, 3) := by decide +kernel
theorem dX4_statement_175 : decode cX4_statement 175 = .ok (.ifCond .eq 12, 3) := by decide +kernel
theorem dX4_statement_178 : decode cX4_statement 178 = .ok (.aload_n 0, 1) := by decide +kernel
theorem dX4_statement_179 : decode cX4_statement 179 = .ok (.getfield 60, 3) := by decide +kernel
theorem dX4_statement_182 : decode cX4_statement 182 = .ok (.bipush 6, 2) := by decide +kernel
theorem dX4_statement_184 : decode cX4_statement 184 = .ok (.if_icmp .ne 5, 3) := by decide +kernel
theorem dX4_statement_187 : decode cX4_statement 187 = .ok (.iconst 0, 1) := by decide +kernel
theorem dX4_statement_188 : decode cX4_statement 188 = .ok (.ireturn, 1) := by decide +kernel
theorem dX4_statement_189 : decode cX4_statement 189 = .ok (.aload_n 0, 1) := by decide +kernel
theorem dX4_statement_190 : decode cX4_statement 190 = .ok (.iconst 0, 1) := by decide +kernel
theorem dX4_statement_191 : decode cX4_statement 191 = .ok (.iconst 5, 1) := by decide +kernel
theorem dX4_statement_192 : decode cX4_statement 192 = .ok (.invokevirtual 167, 3) := by decide +kernel
theorem dX4_statement_195 : decode cX4_statement 195 = .ok (.istore_n 1, 1) := by decide +kernel
theorem dX4_statement_196 : decode cX4_statement 196 = .ok (.iload_n 1, 1) := by decide +kernel
theorem dX4_statement_197 : decode cX4_statement 197 = .ok (.iconst (-1), 1) := by decide +kernel
theorem dX4_statement_198 : decode cX4_statement 198 = .ok (.if_icmp .ne 7, 3) := by decide +kernel
theorem dX4_statement_201 : decode cX4_statement 201 = .ok (.iconst (-1), 1) := by decide +kernel
theorem dX4_statement_202 : decode cX4_statement 202 = .ok (.goto 10, 3) := by decide +kernel
theorem dX4_statement_205 : decode cX4_statement 205 = .ok (.aload_n 0, 1) := by decide +kernel
theorem dX4_statement_206 : decode cX4_statement 206 = .ok (.iconst 0, 1) := by decide +kernel
theorem dX4_statement_207 : decode cX4_statement 207 = .ok (.bipush 9, 2) := by decide +kernel
theorem dX4_statement_209 : decode cX4_statement 209 = .ok (.invokevirtual 167, 3) := by decide +kernel
theorem dX4_statement_212 : decode cX4_statement 212 = .ok (.istore_n 2, 1) := by decide +kernel
theorem dX4_statement_213 : decode cX4_statement 213 = .ok (.iload_n 2, 1) := by decide +kernel
theorem dX4_statement_214 : decode cX4_statement 214 = .ok (.iconst (-1), 1) := by decide +kernel
theorem dX4_statement_215 : decode cX4_statement 215 = .ok (.if_icmp .ne 5, 3) := by decide +kernel
theorem dX4_statement_218 : decode cX4_statement 218 = .ok (.iconst 0, 1) := by decide +kernel
theorem dX4_statement_219 : decode cX4_statement 219 = .ok (.ireturn, 1) := by decide +kernel
theorem dX4_statement_220 : decode cX4_statement 220 = .ok (.aload_n 0, 1) := by decide +kernel
theorem dX4_statement_221 : decode cX4_statement 221 = .ok (.iload_n 1, 1) := by decide +kernel
theorem dX4_statement_222 : decode cX4_statement 222 = .ok (.iload_n 2, 1) := by decide +kernel
theorem dX4_statement_223 : decode cX4_statement 223 = .ok (.invokevirtual 113, 3) := by decide +kernel
theorem dX4_statement_226 : decode cX4_statement 226 = .ok (.pop, 1) := by decide +kernel
theorem dX4_statement_227 : decode cX4_statement 227 = .ok (.iconst 1, 1) := by decide +kernel
theorem dX4_statement_228 : decode cX4_statement 228 = .ok (.ireturn, 1) := by decide +kernel
theorem dX4_board_0 : decode cX4_board 0 = .ok (.aload_n 0, 1) := by decide +kernel
theorem dX4_board_1 : decode cX4_board 1 = .ok (.aload_n 0, 1) := by decide +kernel
theorem dX4_board_2 : decode cX4_board 2 = .ok (.getfield 45, 3) := by decide +kernel
theorem dX4_board_5 : decode cX4_board 5 = .ok (.invokevirtual 185, 3) := by decide +kernel
theorem dX4_board_8 : decode cX4_board 8 = .ok (.aload_n 0, 1) := by decide +kernel
theorem dX4_board_9 : decode cX4_board 9 = .ok (.iconst 0, 1) := by decide +kernel
theorem dX4_board_10 : decode cX4_board 10 = .ok (.putfield 131, 3) := by decide +kernel
theorem dX4_board_13 : decode cX4_board 13 = .ok (.iconst 0, 1) := by decide +kernel
theorem dX4_board_14 : decode cX4_board 14 = .ok (.istore_n 1, 1) := by decide +kernel
theorem dX4_board_15 : decode cX4_board 15 = .ok (.iconst 1, 1) := by decide +kernel
theorem dX4_board_16 : decode cX4_board 16 = .ok (.istore_n 2, 1) := by decide +kernel
theorem dX4_board_17 : decode cX4_board 17 = .ok (.iload_n 2, 1) := by decide +kernel
theorem dX4_board_18 : decode cX4_board 18 = .ok (.ifCond .eq 60, 3) := by decide +kernel
theorem dX4_board_21 : decode cX4_board 21 = .ok (.aload_n 0, 1) := by decide +kernel
theorem dX4_board_22 : decode cX4_board 22 = .ok (.invokevirtual 158, 3) := by decide +kernel
theorem dX4_board_25 : decode cX4_board 25 = .ok (.aload_n 0, 1) := by decide +kernel
theorem dX4_board_26 : decode cX4_board 26 = .ok (.invokevirtual 189, 3) := by decide +kernel
theorem dX4_board_29 : decode cX4_board 29 = .ok (.istore_n 2, 1) := by decide +kernel
theorem dX4_board_30 : decode cX4_board 30 = .ok (.iload_n 2, 1) := by decide +kernel
theorem dX4_board_31 : decode cX4_board 31 = .ok (.ifCond .ne 6, 3) := by decide +kernel
theorem dX4_board_34 : decode cX4_board 34 = .ok (.goto (-17), 3) := by decide +kernel
theorem dX4_board_37 : decode cX4_board 37 = .ok (.iinc 1 1, 3) := by decide +kernel
theorem dX4_board_40 : decode cX4_board 40 = .ok (.aload_n 0, 1) := by decide +kernel
theorem dX4_board_41 : decode cX4_board 41 = .ok (.invokevirtual 158, 3) := by decide +kernel
theorem dX4_board_44 : decode cX4_board 44 = .ok (.aload_n 0, 1) := by decide +kernel
theorem dX4_board_45 : decode cX4_board 45 = .ok (.getfield 137, 3) := by decide +kernel
theorem dX4_board_48 : decode cX4_board 48 = .ok (.bipush 101, 2) := by decide +kernel
theorem dX4_board_50 : decode cX4_board 50 = .ok (.if_icmp .ne 10, 3) := by decide +kernel
theorem dX4_board_53 : decode cX4_board 53 = .ok (.aload_n 0, 1) := by decide +kernel
theorem dX4_board_54 : decode cX4_board 54 = .ok (.iconst 0, 1) := by decide +kernel
theorem dX4_board_55 : decode cX4_board 55 = .ok (.putfield 128, 3) := by decide +kernel
theorem dX4_board_58 : decode cX4_board 58 = .ok (.iload_n 1, 1) := by decide +kernel
theorem dX4_board_59 : decode cX4_board 59 = .ok (.ireturn, 1) := by decide +kernel
theorem dX4_board_60 : decode cX4_board 60 = .ok (.aload_n 0, 1) := by decide +kernel
theorem dX4_board_61 : decode cX4_board 61 = .ok (.getfield 137, 3) := by decide +kernel
theorem dX4_board_64 : decode cX4_board 64 = .ok (.bipush 59, 2) := by decide +kernel
theorem dX4_board_66 : decode cX4_board 66 = .ok (.if_icmp .ne 7, 3) := by decide +kernel
theorem dX4_board_69 : decode cX4_board 69 = .ok (.iconst 1, 1) := by decide +kernel
theorem dX4_board_70 : decode cX4_board 70 = .ok (.goto 4, 3) := by decide +kernel
theorem dX4_board_73 : decode cX4_board 73 = .ok (.iconst 0, 1) := by decide +kernel
theorem dX4_board_74 : decode cX4_board 74 = .ok (.istore_n 2, 1) := by decide +kernel
theorem dX4_board_75 : decode cX4_board 75 = .ok (.goto (-58), 3) := by decide +kernel
theorem dX4_board_78 : decode cX4_board 78 = .ok (.aload_n 0, 1) := by decide +kernel
theorem dX4_board_79 : decode cX4_board 79 = .ok (.aload_n 0, 1) := by decide +kernel
theorem dX4_board_80 : decode cX4_board 80 = .ok (.getfield 45, 3) := by decide +kernel
theorem dX4_board_83 : decode cX4_board 83 = .ok (.invokevirtual 193, 3) := by decide +kernel
theorem dX4_board_86 : decode cX4_board 86 = .ok (.aload_n 0, 1) := by decide +kernel
theorem dX4_board_87 : decode cX4_board 87 = .ok (.iconst 0, 1) := by decide +kernel
theorem dX4_board_88 : decode cX4_board 88 = .ok (.putfield 128, 3) := by decide +kernel
theorem dX4_board_91 : decode cX4_board 91 = .ok (.aload_n 0, 1) := by decide +kernel
theorem dX4_board_92 : decode cX4_board 92 = .ok (.bipush (-2), 2) := by decide +kernel
theorem dX4_board_94 : decode cX4_board 94 = .ok (.invokevirtual 56, 3) := by decide +kernel
theorem dX4_board_97 : decode cX4_board 97 = .ok (.pop, 1) := by decide +kernel
theorem dX4_board_98 : decode cX4_board 98 = .ok (.bipush (-20), 2) := by decide +kernel
theorem dX4_board_100 : decode cX4_board 100 = .ok (.aload_n 0, 1) := by decide +kernel
theorem dX4_board_101 : decode cX4_board 101 = .ok (.getfield 134, 3) := by decide +kernel
theorem dX4_board_104 : decode cX4_board 104 = .ok (.isub, 1) := by decide +kernel
theorem dX4_board_105 : decode cX4_board 105 = .ok (.ireturn, 1) := by decide +kernel
theorem dX4_isMove_0 : decode cX4_isMove 0 = .ok (.iload_n 1, 1) := by decide +kernel
theorem dX4_isMove_1 : decode cX4_isMove 1 = .ok (.iconst 0, 1) := by decide +kernel
theorem dX4_isMove_2 : decode cX4_isMove 2 = .ok (.aload_n 0, 1) := by decide +kernel
theorem dX4_isMove_3 : decode cX4_isMove 3 = .ok (.invokevirtual 107, 3) := by decide +kernel
theorem dX4_isMove_6 : decode cX4_isMove 6 = .ok (.iconst 1, 1) := by decide +kernel
theorem dX4_isMove_7 : decode cX4_isMove 7 = .ok (.isub, 1) := by decide +kernel
theorem dX4_isMove_8 : decode cX4_isMove 8 = .ok (.invokestatic 63, 3) := by decide +kernel
theorem dX4_isMove_11 : decode cX4_isMove 11 = .ok (.ifCond .ne 14, 3) := by decide +kernel
theorem dX4_isMove_14 : decode cX4_isMove 14 = .ok (.aload_n 0, 1) := by decide +kernel
theorem dX4_isMove_15 : decode cX4_isMove 15 = .ok (.iload_n 1, 1) := by decide +kernel
theorem dX4_isMove_16 : decode cX4_isMove 16 = .ok (.bipush 100, 2) := by decide +kernel
theorem dX4_isMove_18 : decode cX4_isMove 18 = .ok (.isub, 1) := by decide +kernel
theorem dX4_isMove_19 : decode cX4_isMove 19 = .ok (.invokevirtual 116, 3) := by decide +kernel
theorem dX4_isMove_22 : decode cX4_isMove 22 = .ok (.ifCond .eq 7, 3) := by decide +kernel
theorem dX4_isMove_25 : decode cX4_isMove 25 = .ok (.iconst 1, 1) := by decide +kernel
theorem dX4_isMove_26 : decode cX4_isMove 26 = .ok (.goto 4, 3) := by decide +kernel
theorem dX4_isMove_29 : decode cX4_isMove 29 = .ok (.iconst 0, 1) := by decide +kernel
theorem dX4_isMove_30 : decode cX4_isMove 30 = .ok (.ireturn, 1) := by decide +kernel
theorem dX4_mayBe_0 : decode cX4_mayBe 0 = .ok (.iload_n 1, 1) := by decide +kernel
theorem dX4_mayBe_1 : decode cX4_mayBe 1 = .ok (.bipush 100, 2) := by decide +kernel
theorem dX4_mayBe_3 : decode cX4_mayBe 3 = .ok (.if_icmp .ge 20, 3) := by decide +kernel
theorem dX4_mayBe_6 : decode cX4_mayBe 6 = .ok (.aload_n 0, 1) := by decide +kernel
theorem dX4_mayBe_7 : decode cX4_mayBe 7 = .ok (.getfield 7, 3) := by decide +kernel
theorem dX4_mayBe_10 : decode cX4_mayBe 10 = .ok (.iload_n 1, 1) := by decide +kernel
theorem dX4_mayBe_11 : decode cX4_mayBe 11 = .ok (.baload, 1) := by decide +kernel
theorem dX4_mayBe_12 : decode cX4_mayBe 12 = .ok (.ifCond .ne 7, 3) := by decide +kernel
theorem dX4_mayBe_15 : decode cX4_mayBe 15 = .ok (.iconst 1, 1) := by decide +kernel
theorem dX4_mayBe_16 : decode cX4_mayBe 16 = .ok (.goto 36, 3) := by decide +kernel
theorem dX4_mayBe_19 : decode cX4_mayBe 19 = .ok (.iconst 0, 1) := by decide +kernel
theorem dX4_mayBe_20 : decode cX4_mayBe 20 = .ok (.goto 32, 3) := by decide +kernel
theorem dX4_mayBe_23 : decode cX4_mayBe 23 = .ok (.aload_n 0, 1) := by decide +kernel
theorem dX4_mayBe_24 : decode cX4_mayBe 24 = .ok (.getfield 13, 3) := by decide +kernel
theorem dX4_mayBe_27 : decode cX4_mayBe 27 = .ok (.iload_n 1, 1) := by decide +kernel
theorem dX4_mayBe_28 : decode cX4_mayBe 28 = .ok (.bipush 100, 2) := by decide +kernel
theorem dX4_mayBe_30 : decode cX4_mayBe 30 = .ok (.isub, 1) := by decide +kernel
theorem dX4_mayBe_31 : decode cX4_mayBe 31 = .ok (.baload, 1) := by decide +kernel
theorem dX4_mayBe_32 : decode cX4_mayBe 32 = .ok (.ifCond .ne 19, 3) := by decide +kernel
theorem dX4_mayBe_35 : decode cX4_mayBe 35 = .ok (.aload_n 0, 1) := by decide +kernel
theorem dX4_mayBe_36 : decode cX4_mayBe 36 = .ok (.iload_n 1, 1) := by decide +kernel
theorem dX4_mayBe_37 : decode cX4_mayBe 37 = .ok (.bipush 100, 2) := by decide +kernel
theorem dX4_mayBe_39 : decode cX4_mayBe 39 = .ok (.isub, 1) := by decide +kernel
theorem dX4_mayBe_40 : decode cX4_mayBe 40 = .ok (.invokevirtual 196, 3) := by decide +kernel
theorem dX4_mayBe_43 : decode cX4_mayBe 43 = .ok (.iconst 4, 1) := by decide +kernel
theorem dX4_mayBe_44 : decode cX4_mayBe 44 = .ok (.if_icmp .ge 7, 3) := by decide +kernel
theorem dX4_mayBe_47 : decode cX4_mayBe 47 = .ok (.iconst 1, 1) := by decide +kernel
theorem dX4_mayBe_48 : decode cX4_mayBe 48 = .ok (.goto 4, 3) := by decide +kernel
theorem dX4_mayBe_51 : decode cX4_mayBe 51 = .ok (.iconst 0, 1) := by decide +kernel
theorem dX4_mayBe_52 : decode cX4_mayBe 52 = .ok (.ireturn, 1) := by decide +kernel
theorem dX4_makes_0 : decode cX4_makes 0 = .ok (.iconst 0, 1) := by decide +kernel
theorem dX4_makes_1 : decode cX4_makes 1 = .ok (.istore_n 2, 1) := by decide +kernel
theorem dX4_makes_2 : decode cX4_makes 2 = .ok (.iload_n 1, 1) := by decide +kernel
theorem dX4_makes_3 : decode cX4_makes 3 = .ok (.bipush 100, 2) := by decide +kernel
theorem dX4_makes_5 : decode cX4_makes 5 = .ok (.if_icmp .ge 67, 3) := by decide +kernel
theorem dX4_makes_8 : decode cX4_makes 8 = .ok (.aload_n 0, 1) := by decide +kernel
theorem dX4_makes_9 : decode cX4_makes 9 = .ok (.getfield 7, 3) := by decide +kernel
theorem dX4_makes_12 : decode cX4_makes 12 = .ok (.iload_n 1, 1) := by decide +kernel
theorem dX4_makes_13 : decode cX4_makes 13 = .ok (.iconst 1, 1) := by decide +kernel
theorem dX4_makes_14 : decode cX4_makes 14 = .ok (.bastore, 1) := by decide +kernel
theorem dX4_makes_15 : decode cX4_makes 15 = .ok (.iconst 0, 1) := by decide +kernel
