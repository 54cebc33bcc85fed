theorem dX3_init_0 : decode cX3_init 0 = .ok (.aload_n 0, 1) := by decide +kernel
theorem dX3_init_1 : decode cX3_init 1 = .ok (.invokespecial 1, 3) := by decide +kernel
theorem dX3_init_4 : decode cX3_init 4 = .ok (.aload_n 0, 1) := by decide +kernel
theorem dX3_init_5 : decode cX3_init 5 = .ok (.new 7, 3) := by decide +kernel
theorem dX3_init_8 : decode cX3_init 8 = .ok (.dup, 1) := by decide +kernel
theorem dX3_init_9 : decode cX3_init 9 = .ok (.invokespecial 9, 3) := by decide +kernel
theorem dX3_init_12 : decode cX3_init 12 = .ok (.putfield 10, 3) := by decide +kernel
theorem dX3_init_15 : decode cX3_init 15 = .ok (.aload_n 0, 1) := by decide +kernel
theorem dX3_init_16 : decode cX3_init 16 = .ok (.new 7, 3) := by decide +kernel
theorem dX3_init_19 : decode cX3_init 19 = .ok (.dup, 1) := by decide +kernel
theorem dX3_init_20 : decode cX3_init 20 = .ok (.invokespecial 9, 3) := by decide +kernel
theorem dX3_init_23 : decode cX3_init 23 = .ok (.putfield 16, 3) := by decide +kernel
theorem dX3_init_26 : decode cX3_init 26 = .ok (.aload_n 0, 1) := by decide +kernel
theorem dX3_init_27 : decode cX3_init 27 = .ok (.new 7, 3) := by decide +kernel
theorem dX3_init_30 : decode cX3_init 30 = .ok (.dup, 1) := by decide +kernel
theorem dX3_init_31 : decode cX3_init 31 = .ok (.invokespecial 9, 3) := by decide +kernel
theorem dX3_init_34 : decode cX3_init 34 = .ok (.putfield 19, 3) := by decide +kernel
theorem dX3_init_37 : decode cX3_init 37 = .ok (.aload_n 0, 1) := by decide +kernel
theorem dX3_init_38 : decode cX3_init 38 = .ok (.iconst (-1), 1) := by decide +kernel
theorem dX3_init_39 : decode cX3_init 39 = .ok (.putfield 22, 3) := by decide +kernel
theorem dX3_init_42 : decode cX3_init 42 = .ok (.aload_n 0, 1) := by decide +kernel
theorem dX3_init_43 : decode cX3_init 43 = .ok (.bipush 6, 2) := by decide +kernel
theorem dX3_init_45 : decode cX3_init 45 = .ok (.newarray .int, 2) := by decide +kernel
theorem dX3_init_47 : decode cX3_init 47 = .ok (.putfield 26, 3) := by decide +kernel
theorem dX3_init_50 : decode cX3_init 50 = .ok (.aload_n 0, 1) := by decide +kernel
theorem dX3_init_51 : decode cX3_init 51 = .ok (.bipush 6, 2) := by decide +kernel
theorem dX3_init_53 : decode cX3_init 53 = .ok (.newarray .int, 2) := by decide +kernel
theorem dX3_init_55 : decode cX3_init 55 = .ok (.putfield 30, 3) := by decide +kernel
theorem dX3_init_58 : decode cX3_init 58 = .ok (.aload_n 0, 1) := by decide +kernel
theorem dX3_init_59 : decode cX3_init 59 = .ok (.iconst 0, 1) := by decide +kernel
theorem dX3_init_60 : decode cX3_init 60 = .ok (.putfield 33, 3) := by decide +kernel
theorem dX3_init_63 : decode cX3_init 63 = .ok (.aload_n 0, 1) := by decide +kernel
theorem dX3_init_64 : decode cX3_init 64 = .ok (.iconst 0, 1) := by decide +kernel
theorem dX3_init_65 : decode cX3_init 65 = .ok (.putfield 36, 3) := by decide +kernel
theorem dX3_init_68 : decode cX3_init 68 = .ok (.aload_n 0, 1) := by decide +kernel
theorem dX3_init_69 : decode cX3_init 69 = .ok (.bipush 8, 2) := by decide +kernel
theorem dX3_init_71 : decode cX3_init 71 = .ok (.anewarray 39, 3) := by decide +kernel
theorem dX3_init_74 : decode cX3_init 74 = .ok (.putfield 41, 3) := by decide +kernel
theorem dX3_init_77 : decode cX3_init 77 = .ok (.aload_n 0, 1) := by decide +kernel
theorem dX3_init_78 : decode cX3_init 78 = .ok (.new 45, 3) := by decide +kernel
theorem dX3_init_81 : decode cX3_init 81 = .ok (.dup, 1) := by decide +kernel
theorem dX3_init_82 : decode cX3_init 82 = .ok (.invokespecial 47, 3) := by decide +kernel
theorem dX3_init_85 : decode cX3_init 85 = .ok (.putfield 48, 3) := by decide +kernel
theorem dX3_init_88 : decode cX3_init 88 = .ok (.aload_n 0, 1) := by decide +kernel
theorem dX3_init_89 : decode cX3_init 89 = .ok (.iconst 5, 1) := by decide +kernel
theorem dX3_init_90 : decode cX3_init 90 = .ok (.newarray .int, 2) := by decide +kernel
theorem dX3_init_92 : decode cX3_init 92 = .ok (.putfield 52, 3) := by decide +kernel
theorem dX3_init_95 : decode cX3_init 95 = .ok (.iconst 0, 1) := by decide +kernel
theorem dX3_init_96 : decode cX3_init 96 = .ok (.istore_n 1, 1) := by decide +kernel
theorem dX3_init_97 : decode cX3_init 97 = .ok (.iload_n 1, 1) := by decide +kernel
theorem dX3_init_98 : decode cX3_init 98 = .ok (.aload_n 0, 1) := by decide +kernel
theorem dX3_init_99 : decode cX3_init 99 = .ok (.getfield 41, 3) := by decide +kernel
theorem dX3_init_102 : decode cX3_init 102 = .ok (.arraylength, 1) := by decide +kernel
theorem dX3_init_103 : decode cX3_init 103 = .ok (.if_icmp .ge 22, 3) := by decide +kernel
theorem dX3_init_106 : decode cX3_init 106 = .ok (.aload_n 0, 1) := by decide +kernel
theorem dX3_init_107 : decode cX3_init 107 = .ok (.getfield 41, 3) := by decide +kernel
theorem dX3_init_110 : decode cX3_init 110 = .ok (.iload_n 1, 1) := by decide +kernel
theorem dX3_init_111 : decode cX3_init 111 = .ok (.new 39, 3) := by decide +kernel
theorem dX3_init_114 : decode cX3_init 114 = .ok (.dup, 1) := by decide +kernel
theorem dX3_init_115 : decode cX3_init 115 = .ok (.invokespecial 55, 3) := by decide +kernel
theorem dX3_init_118 : decode cX3_init 118 = .ok (.aastore, 1) := by decide +kernel
theorem dX3_init_119 : decode cX3_init 119 = .ok (.iinc 1 1, 3) := by decide +kernel
theorem dX3_init_122 : decode cX3_init 122 = .ok (.goto (-25), 3) := by decide +kernel
theorem dX3_init_125 : decode cX3_init 125 = .ok (.return_, 1) := by decide +kernel
theorem dX3_row_0 : decode cX3_row 0 = .ok (.aload_n 0, 1) := by decide +kernel
theorem dX3_row_1 : decode cX3_row 1 = .ok (.iload_n 1, 1) := by decide +kernel
theorem dX3_row_2 : decode cX3_row 2 = .ok (.invokevirtual 56, 3) := by decide +kernel
theorem dX3_row_5 : decode cX3_row 5 = .ok (.astore 4, 2) := by decide +kernel
theorem dX3_row_7 : decode cX3_row 7 = .ok (.aload 4, 2) := by decide +kernel
theorem dX3_row_9 : decode cX3_row 9 = .ok (.ifnull 22, 3) := by decide +kernel
theorem dX3_row_12 : decode cX3_row 12 = .ok (.iload_n 2, 1) := by decide +kernel
theorem dX3_row_13 : decode cX3_row 13 = .ok (.ifCond .lt 18, 3) := by decide +kernel
theorem dX3_row_16 : decode cX3_row 16 = .ok (.iload_n 2, 1) := by decide +kernel
theorem dX3_row_17 : decode cX3_row 17 = .ok (.iconst 5, 1) := by decide +kernel
theorem dX3_row_18 : decode cX3_row 18 = .ok (.if_icmp .ge 13, 3) := by decide +kernel
theorem dX3_row_21 : decode cX3_row 21 = .ok (.iload_n 3, 1) := by decide +kernel
theorem dX3_row_22 : decode cX3_row 22 = .ok (.ifCond .lt 9, 3) := by decide +kernel
theorem dX3_row_25 : decode cX3_row 25 = .ok (.iload_n 3, 1) := by decide +kernel
theorem dX3_row_26 : decode cX3_row 26 = .ok (.bipush 40, 2) := by decide +kernel
theorem dX3_row_28 : decode cX3_row 28 = .ok (.if_icmp .le 10, 3) := by decide +kernel
theorem dX3_row_31 : decode cX3_row 31 = .ok (.aload_n 0, 1) := by decide +kernel
theorem dX3_row_32 : decode cX3_row 32 = .ok (.bipush (-2), 2) := by decide +kernel
theorem dX3_row_34 : decode cX3_row 34 = .ok (.invokevirtual 60, 3) := by decide +kernel
theorem dX3_row_37 : decode cX3_row 37 = .ok (.ireturn, 1) := by decide +kernel
theorem dX3_row_38 : decode cX3_row 38 = .ok (.aload 4, 2) := by decide +kernel
theorem dX3_row_40 : decode cX3_row 40 = .ok (.iload_n 2, 1) := by decide +kernel
theorem dX3_row_41 : decode cX3_row 41 = .ok (.iload_n 3, 1) := by decide +kernel
theorem dX3_row_42 : decode cX3_row 42 = .ok (.invokevirtual 64, 3) := by decide +kernel
theorem dX3_row_45 : decode cX3_row 45 = .ok (.iconst 1, 1) := by decide +kernel
theorem dX3_row_46 : decode cX3_row 46 = .ok (.ireturn, 1) := by decide +kernel
theorem dX3_set_0 : decode cX3_set 0 = .ok (.aload_n 0, 1) := by decide +kernel
theorem dX3_set_1 : decode cX3_set 1 = .ok (.iload_n 1, 1) := by decide +kernel
theorem dX3_set_2 : decode cX3_set 2 = .ok (.invokevirtual 56, 3) := by decide +kernel
theorem dX3_set_5 : decode cX3_set 5 = .ok (.astore 5, 2) := by decide +kernel
theorem dX3_set_7 : decode cX3_set 7 = .ok (.aload 5, 2) := by decide +kernel
theorem dX3_set_9 : decode cX3_set 9 = .ok (.invokestatic 68, 3) := by decide +kernel
theorem dX3_set_12 : decode cX3_set 12 = .ok (.istore 6, 2) := by decide +kernel
theorem dX3_set_14 : decode cX3_set 14 = .ok (.iload 6, 2) := by decide +kernel
theorem dX3_set_16 : decode cX3_set 16 = .ok (.ifCond .eq 10, 3) := by decide +kernel
theorem dX3_set_19 : decode cX3_set 19 = .ok (.aload_n 0, 1) := by decide +kernel
theorem dX3_set_20 : decode cX3_set 20 = .ok (.iload 6, 2) := by decide +kernel
theorem dX3_set_22 : decode cX3_set 22 = .ok (.invokevirtual 60, 3) := by decide +kernel
theorem dX3_set_25 : decode cX3_set 25 = .ok (.ireturn, 1) := by decide +kernel
theorem dX3_set_26 : decode cX3_set 26 = .ok (.aload 5, 2) := by decide +kernel
theorem dX3_set_28 : decode cX3_set 28 = .ok (.ifnull 12, 3) := by decide +kernel
theorem dX3_set_31 : decode cX3_set 31 = .ok (.aload 5, 2) := by decide +kernel
theorem dX3_set_33 : decode cX3_set 33 = .ok (.iload_n 2, 1) := by decide +kernel
theorem dX3_set_34 : decode cX3_set 34 = .ok (.invokevirtual 72, 3) := by decide +kernel
theorem dX3_set_37 : decode cX3_set 37 = .ok (.ifCond .ne 10, 3) := by decide +kernel
theorem dX3_set_40 : decode cX3_set 40 = .ok (.aload_n 0, 1) := by decide +kernel
theorem dX3_set_41 : decode cX3_set 41 = .ok (.bipush (-2), 2) := by decide +kernel
theorem dX3_set_43 : decode cX3_set 43 = .ok (.invokevirtual 60, 3) := by decide +kernel
theorem dX3_set_46 : decode cX3_set 46 = .ok (.ireturn, 1) := by decide +kernel
theorem dX3_set_47 : decode cX3_set 47 = .ok (.aload 5, 2) := by decide +kernel
theorem dX3_set_49 : decode cX3_set 49 = .ok (.iload_n 2, 1) := by decide +kernel
theorem dX3_set_50 : decode cX3_set 50 = .ok (.lload_n 3, 1) := by decide +kernel
theorem dX3_set_51 : decode cX3_set 51 = .ok (.invokevirtual 76, 3) := by decide +kernel
theorem dX3_set_54 : decode cX3_set 54 = .ok (.iconst 1, 1) := by decide +kernel
theorem dX3_set_55 : decode cX3_set 55 = .ok (.ireturn, 1) := by decide +kernel
theorem dX3_copy_0 : decode cX3_copy 0 = .ok (.aload_n 0, 1) := by decide +kernel
theorem dX3_copy_1 : decode cX3_copy 1 = .ok (.iload_n 1, 1) := by decide +kernel
theorem dX3_copy_2 : decode cX3_copy 2 = .ok (.invokevirtual 56, 3) := by decide +kernel
theorem dX3_copy_5 : decode cX3_copy 5 = .ok (.astore 6, 2) := by decide +kernel
theorem dX3_copy_7 : decode cX3_copy 7 = .ok (.aload_n 0, 1) := by decide +kernel
theorem dX3_copy_8 : decode cX3_copy 8 = .ok (.iload_n 2, 1) := by decide +kernel
theorem dX3_copy_9 : decode cX3_copy 9 = .ok (.invokevirtual 56, 3) := by decide +kernel
theorem dX3_copy_12 : decode cX3_copy 12 = .ok (.astore 7, 2) := by decide +kernel
theorem dX3_copy_14 : decode cX3_copy 14 = .ok (.aload 6, 2) := by decide +kernel
theorem dX3_copy_16 : decode cX3_copy 16 = .ok (.ifnull 8, 3) := by decide +kernel
theorem dX3_copy_19 : decode cX3_copy 19 = .ok (.aload 7, 2) := by decide +kernel
theorem dX3_copy_21 : decode cX3_copy 21 = .ok (.ifnonnull 10, 3) := by decide +kernel
theorem dX3_copy_24 : decode cX3_copy 24 = .ok (.aload_n 0, 1) := by decide +kernel
theorem dX3_copy_25 : decode cX3_copy 25 = .ok (.bipush (-2), 2) := by decide +kernel
theorem dX3_copy_27 : decode cX3_copy 27 = .ok (.invokevirtual 60, 3) := by decide +kernel
theorem dX3_copy_30 : decode cX3_copy 30 = .ok (.ireturn, 1) := by decide +kernel
theorem dX3_copy_31 : decode cX3_copy 31 = .ok (.aload 6, 2) := by decide +kernel
theorem dX3_copy_33 : decode cX3_copy 33 = .ok (.invokevirtual 80, 3) := by decide +kernel
theorem dX3_copy_36 : decode cX3_copy 36 = .ok (.ifCond .ne 11, 3) := by decide +kernel
theorem dX3_copy_39 : decode cX3_copy 39 = .ok (.aload 7, 2) := by decide +kernel
theorem dX3_copy_41 : decode cX3_copy 41 = .ok (.invokevirtual 80, 3) := by decide +kernel
theorem dX3_copy_44 : decode cX3_copy 44 = .ok (.ifCond .eq 10, 3) := by decide +kernel
theorem dX3_copy_47 : decode cX3_copy 47 = .ok (.aload_n 0, 1) := by decide +kernel
theorem dX3_copy_48 : decode cX3_copy 48 = .ok (.bipush (-3), 2) := by decide +kernel
theorem dX3_copy_50 : decode cX3_copy 50 = .ok (.invokevirtual 60, 3) := by decide +kernel
theorem dX3_copy_53 : decode cX3_copy 53 = .ok (.ireturn, 1) := by decide +kernel
theorem dX3_copy_54 : decode cX3_copy 54 = .ok (.aload 6, 2) := by decide +kernel
theorem dX3_copy_56 : decode cX3_copy 56 = .ok (.invokevirtual 84, 3) := by decide +kernel
theorem dX3_copy_59 : decode cX3_copy 59 = .ok (.ifCond .eq 31, 3) := by decide +kernel
theorem dX3_copy_62 : decode cX3_copy 62 = .ok (.aload 7, 2) := by decide +kernel
theorem dX3_copy_64 : decode cX3_copy 64 = .ok (.invokevirtual 84, 3) := by decide +kernel
theorem dX3_copy_67 : decode cX3_copy 67 = .ok (.ifCond .eq 23, 3) := by decide +kernel
theorem dX3_copy_70 : decode cX3_copy 70 = .ok (.aload 6, 2) := by decide +kernel
theorem dX3_copy_72 : decode cX3_copy 72 = .ok (.getfield 87, 3) := by decide +kernel
theorem dX3_copy_75 : decode cX3_copy 75 = .ok (.aload 7, 2) := by decide +kernel
theorem dX3_copy_77 : decode cX3_copy 77 = .ok (.getfield 87, 3) := by decide +kernel
theorem dX3_copy_80 : decode cX3_copy 80 = .ok (.if_icmp .eq 10, 3) := by decide +kernel
theorem dX3_copy_83 : decode cX3_copy 83 = .ok (.aload_n 0, 1) := by decide +kernel
theorem dX3_copy_84 : decode cX3_copy 84 = .ok (.bipush (-3), 2) := by decide +kernel
theorem dX3_copy_86 : decode cX3_copy 86 = .ok (.invokevirtual 60, 3) := by decide +kernel
theorem dX3_copy_89 : decode cX3_copy 89 = .ok (.ireturn, 1) := by decide +kernel
theorem dX3_copy_90 : decode cX3_copy 90 = .ok (.aload 6, 2) := by decide +kernel
theorem dX3_copy_92 : decode cX3_copy 92 = .ok (.invokevirtual 84, 3) := by decide +kernel
theorem dX3_copy_95 : decode cX3_copy 95 = .ok (.ifCond .eq 11, 3) := by decide +kernel
theorem dX3_copy_98 : decode cX3_copy 98 = .ok (.aload 7, 2) := by decide +kernel
theorem dX3_copy_100 : decode cX3_copy 100 = .ok (.invokevirtual 84, 3) := by decide +kernel
theorem dX3_copy_103 : decode cX3_copy 103 = .ok (.ifCond .ne 10, 3) := by decide +kernel
theorem dX3_copy_106 : decode cX3_copy 106 = .ok (.aload_n 0, 1) := by decide +kernel
theorem dX3_copy_107 : decode cX3_copy 107 = .ok (.bipush (-4), 2) := by decide +kernel
theorem dX3_copy_109 : decode cX3_copy 109 = .ok (.invokevirtual 60, 3) := by decide +kernel
theorem dX3_copy_112 : decode cX3_copy 112 = .ok (.ireturn, 1) := by decide +kernel
theorem dX3_copy_113 : decode cX3_copy 113 = .ok (.aload 6, 2) := by decide +kernel
theorem dX3_copy_115 : decode cX3_copy 115 = .ok (.iload_n 3, 1) := by decide +kernel
theorem dX3_copy_116 : decode cX3_copy 116 = .ok (.iload 5, 2) := by decide +kernel
theorem dX3_copy_118 : decode cX3_copy 118 = .ok (.invokevirtual 90, 3) := by decide +kernel
theorem dX3_copy_121 : decode cX3_copy 121 = .ok (.ifCond .eq 15, 3) := by decide +kernel
theorem dX3_copy_124 : decode cX3_copy 124 = .ok (.aload 7, 2) := by decide +kernel
theorem dX3_copy_126 : decode cX3_copy 126 = .ok (.iload 4, 2) := by decide +kernel
theorem dX3_copy_128 : decode cX3_copy 128 = .ok (.iload 5, 2) := by decide +kernel
theorem dX3_copy_130 : decode cX3_copy 130 = .ok (.invokevirtual 90, 3) := by decide +kernel
theorem dX3_copy_133 : decode cX3_copy 133 = .ok (.ifCond .ne 10, 3) := by decide +kernel
theorem dX3_copy_136 : decode cX3_copy 136 = .ok (.aload_n 0, 1) := by decide +kernel
theorem dX3_copy_137 : decode cX3_copy 137 = .ok (.bipush (-2), 2) := by decide +kernel
theorem dX3_copy_139 : decode cX3_copy 139 = .ok (.invokevirtual 60, 3) := by decide +kernel
theorem dX3_copy_142 : decode cX3_copy 142 = .ok (.ireturn, 1) := by decide +kernel
theorem dX3_copy_143 : decode cX3_copy 143 = .ok (.aload 6, 2) := by decide +kernel
theorem dX3_copy_145 : decode cX3_copy 145 = .ok (.getfield 94, 3) := by decide +kernel
theorem dX3_copy_148 : decode cX3_copy 148 = .ok (.iload_n 3, 1) := by decide +kernel
theorem dX3_copy_149 : decode cX3_copy 149 = .ok (.aload 7, 2) := by decide +kernel
theorem dX3_copy_151 : decode cX3_copy 151 = .ok (.getfield 94, 3) := by decide +kernel
theorem dX3_copy_154 : decode cX3_copy 154 = .ok (.iload 4, 2) := by decide +kernel
theorem dX3_copy_156 : decode cX3_copy 156 = .ok (.iload 5, 2) := by decide +kernel
theorem dX3_copy_158 : decode cX3_copy 158 = .ok (.invokestatic 98, 3) := by decide +kernel
theorem dX3_copy_161 : decode cX3_copy 161 = .ok (.iload 5, 2) := by decide +kernel
theorem dX3_copy_163 : decode cX3_copy 163 = .ok (.ireturn, 1) := by decide +kernel
theorem dX3_element_0 : decode cX3_element 0 = .ok (.aload_n 0, 1) := by decide +kernel
theorem dX3_element_1 : decode cX3_element 1 = .ok (.iload_n 1, 1) := by decide +kernel
theorem dX3_element_2 : decode cX3_element 2 = .ok (.invokevirtual 56, 3) := by decide +kernel
theorem dX3_element_5 : decode cX3_element 5 = .ok (.astore_n 3, 1) := by decide +kernel
theorem dX3_element_6 : decode cX3_element 6 = .ok (.aload_n 3, 1) := by decide +kernel
theorem dX3_element_7 : decode cX3_element 7 = .ok (.ifnonnull 7, 3) := by decide +kernel
theorem dX3_element_10 : decode cX3_element 10 = .ok (.lconst 0, 1) := by decide +kernel
theorem dX3_element_11 : decode cX3_element 11 = .ok (.goto 8, 3) := by decide +kernel
theorem dX3_element_14 : decode cX3_element 14 = .ok (.aload_n 3, 1) := by decide +kernel
theorem dX3_element_15 : decode cX3_element 15 = .ok (.iload_n 2, 1) := by decide +kernel
theorem dX3_element_16 : decode cX3_element 16 = .ok (.invokevirtual 104, 3) := by decide +kernel
theorem dX3_element_19 : decode cX3_element 19 = .ok (.lreturn, 1) := by decide +kernel
theorem dX3_holds_0 : decode cX3_holds 0 = .ok (.aload_n 0, 1) := by decide +kernel
theorem dX3_holds_1 : decode cX3_holds 1 = .ok (.iload_n 1, 1) := by decide +kernel
theorem dX3_holds_2 : decode cX3_holds 2 = .ok (.invokevirtual 56, 3) := by decide +kernel
theorem dX3_holds_5 : decode cX3_holds 5 = .ok (.astore_n 2, 1) := by decide +kernel
theorem dX3_holds_6 : decode cX3_holds 6 = .ok (.aload_n 2, 1) := by decide +kernel
theorem dX3_holds_7 : decode cX3_holds 7 = .ok (.ifnonnull 7, 3) := by decide +kernel
theorem dX3_holds_10 : decode cX3_holds 10 = .ok (.iconst (-1), 1) := by decide +kernel
theorem dX3_holds_11 : decode cX3_holds 11 = .ok (.goto 7, 3) := by decide +kernel
theorem dX3_holds_14 : decode cX3_holds 14 = .ok (.aload_n 2, 1) := by decide +kernel
theorem dX3_holds_15 : decode cX3_holds 15 = .ok (.getfield 87, 3) := by decide +kernel
theorem dX3_holds_18 : decode cX3_holds 18 = .ok (.ireturn, 1) := by decide +kernel
theorem dX3_show_0 : decode cX3_show 0 = .ok (.aload_n 0, 1) := by decide +kernel
theorem dX3_show_1 : decode cX3_show 1 = .ok (.iload_n 1, 1) := by decide +kernel
theorem dX3_show_2 : decode cX3_show 2 = .ok (.invokevirtual 56, 3) := by decide +kernel
theorem dX3_show_5 : decode cX3_show 5 = .ok (.astore_n 3, 1) := by decide +kernel
theorem dX3_show_6 : decode cX3_show 6 = .ok (.aload_n 3, 1) := by decide +kernel
theorem dX3_show_7 : decode cX3_show 7 = .ok (.ifnull 16, 3) := by decide +kernel
theorem dX3_show_10 : decode cX3_show 10 = .ok (.iload_n 2, 1) := by decide +kernel
theorem dX3_show_11 : decode cX3_show 11 = .ok (.iconst (-1), 1) := by decide +kernel
theorem dX3_show_12 : decode cX3_show 12 = .ok (.if_icmp .eq 18, 3) := by decide +kernel
theorem dX3_show_15 : decode cX3_show 15 = .ok (.aload_n 0, 1) := by decide +kernel
theorem dX3_show_16 : decode cX3_show 16 = .ok (.iload_n 2, 1) := by decide +kernel
theorem dX3_show_17 : decode cX3_show 17 = .ok (.invokevirtual 108, 3) := by decide +kernel
theorem dX3_show_20 : decode cX3_show 20 = .ok (.ifCond .ne 10, 3) := by decide +kernel
theorem dX3_show_23 : decode cX3_show 23 = .ok (.aload_n 0, 1) := by decide +kernel
theorem dX3_show_24 : decode cX3_show 24 = .ok (.bipush (-2), 2) := by decide +kernel
theorem dX3_show_26 : decode cX3_show 26 = .ok (.invokevirtual 60, 3) := by decide +kernel
theorem dX3_show_29 : decode cX3_show 29 = .ok (.ireturn, 1) := by decide +kernel
theorem dX3_show_30 : decode cX3_show 30 = .ok (.iload_n 2, 1) := by decide +kernel
theorem dX3_show_31 : decode cX3_show 31 = .ok (.iconst (-1), 1) := by decide +kernel
theorem dX3_show_32 : decode cX3_show 32 = .ok (.if_icmp .ne 10, 3) := by decide +kernel
theorem dX3_show_35 : decode cX3_show 35 = .ok (.aload_n 3, 1) := by decide +kernel
theorem dX3_show_36 : decode cX3_show 36 = .ok (.invokevirtual 111, 3) := by decide +kernel
theorem dX3_show_39 : decode cX3_show 39 = .ok (.goto 8, 3) := by decide +kernel
theorem dX3_show_42 : decode cX3_show 42 = .ok (.aload_n 3, 1) := by decide +kernel
theorem dX3_show_43 : decode cX3_show 43 = .ok (.iload_n 2, 1) := by decide +kernel
theorem dX3_show_44 : decode cX3_show 44 = .ok (.invokevirtual 114, 3) := by decide +kernel
theorem dX3_show_47 : decode cX3_show 47 = .ok (.iconst 1, 1) := by decide +kernel
theorem dX3_show_48 : decode cX3_show 48 = .ok (.ireturn, 1) := by decide +kernel
theorem dX3_says_0 : decode cX3_says 0 = .ok (.aload_n 0, 1) := by decide +kernel
theorem dX3_says_1 : decode cX3_says 1 = .ok (.iload_n 1, 1) := by decide +kernel
theorem dX3_says_2 : decode cX3_says 2 = .ok (.invokevirtual 56, 3) := by decide +kernel
theorem dX3_says_5 : decode cX3_says 5 = .ok (.astore_n 3, 1) := by decide +kernel
theorem dX3_says_6 : decode cX3_says 6 = .ok (.aload_n 3, 1) := by decide +kernel
theorem dX3_says_7 : decode cX3_says 7 = .ok (.ifnull 13, 3) := by decide +kernel
theorem dX3_says_10 : decode cX3_says 10 = .ok (.iload_n 2, 1) := by decide +kernel
theorem dX3_says_11 : decode cX3_says 11 = .ok (.ifCond .lt 9, 3) := by decide +kernel
theorem dX3_says_14 : decode cX3_says 14 = .ok (.iload_n 2, 1) := by decide +kernel
theorem dX3_says_15 : decode cX3_says 15 = .ok (.bipush 6, 2) := by decide +kernel
theorem dX3_says_17 : decode cX3_says 17 = .ok (.if_icmp .lt 10, 3) := by decide +kernel
theorem dX3_says_20 : decode cX3_says 20 = .ok (.aload_n 0, 1) := by decide +kernel
theorem dX3_says_21 : decode cX3_says 21 = .ok (.bipush (-2), 2) := by decide +kernel
theorem dX3_says_23 : decode cX3_says 23 = .ok (.invokevirtual 60, 3) := by decide +kernel
theorem dX3_says_26 : decode cX3_says 26 = .ok (.ireturn, 1) := by decide +kernel
theorem dX3_says_27 : decode cX3_says 27 = .ok (.aload_n 3, 1) := by decide +kernel
theorem dX3_says_28 : decode cX3_says 28 = .ok (.getfield 87, 3) := by decide +kernel
theorem dX3_says_31 : decode cX3_says 31 = .ok (.bipush 10, 2) := by decide +kernel
theorem dX3_says_33 : decode cX3_says 33 = .ok (.isub, 1) := by decide +kernel
theorem dX3_says_34 : decode cX3_says 34 = .ok (.istore 4, 2) := by decide +kernel
theorem dX3_says_36 : decode cX3_says 36 = .ok (.aload_n 3, 1) := by decide +kernel
theorem dX3_says_37 : decode cX3_says 37 = .ok (.invokevirtual 84, 3) := by decide +kernel
theorem dX3_says_40 : decode cX3_says 40 = .ok (.ifCond .ne 23, 3) := by decide +kernel
theorem dX3_says_43 : decode cX3_says 43 = .ok (.aload_n 3, 1) := by decide +kernel
theorem dX3_says_44 : decode cX3_says 44 = .ok (.invokevirtual 80, 3) := by decide +kernel
theorem dX3_says_47 : decode cX3_says 47 = .ok (.ifCond .eq 23, 3) := by decide +kernel
theorem dX3_says_50 : decode cX3_says 50 = .ok (.aload_n 0, 1) := by decide +kernel
theorem dX3_says_51 : decode cX3_says 51 = .ok (.iload 4, 2) := by decide +kernel
theorem dX3_says_53 : decode cX3_says 53 = .ok (.invokevirtual 118, 3) := by decide +kernel
theorem dX3_says_56 : decode cX3_says 56 = .ok (.iload_n 2, 1) := by decide +kernel
theorem dX3_says_57 : decode cX3_says 57 = .ok (.invokestatic 121, 3) := by decide +kernel
theorem dX3_says_60 : decode cX3_says 60 = .ok (.ifCond .ne 10, 3) := by decide +kernel
theorem dX3_says_63 : decode cX3_says 63 = .ok (.aload_n 0, 1) := by decide +kernel
theorem dX3_says_64 : decode cX3_says 64 = .ok (.bipush (-3), 2) := by decide +kernel
theorem dX3_says_66 : decode cX3_says 66 = .ok (.invokevirtual 60, 3) := by decide +kernel
theorem dX3_says_69 : decode cX3_says 69 = .ok (.ireturn, 1) := by decide +kernel
theorem dX3_says_70 : decode cX3_says 70 = .ok (.aload_n 3, 1) := by decide +kernel
theorem dX3_says_71 : decode cX3_says 71 = .ok (.invokevirtual 80, 3) := by decide +kernel
theorem dX3_says_74 : decode cX3_says 74 = .ok (.ifCond .ne 10, 3) := by decide +kernel
theorem dX3_says_77 : decode cX3_says 77 = .ok (.aload_n 0, 1) := by decide +kernel
theorem dX3_says_78 : decode cX3_says 78 = .ok (.bipush (-4), 2) := by decide +kernel
theorem dX3_says_80 : decode cX3_says 80 = .ok (.invokevirtual 60, 3) := by decide +kernel
theorem dX3_says_83 : decode cX3_says 83 = .ok (.ireturn, 1) := by decide +kernel
theorem dX3_says_84 : decode cX3_says 84 = .ok (.iload_n 2, 1) := by decide +kernel
theorem dX3_says_85 : decode cX3_says 85 = .ok (.ifCond .ne 10, 3) := by decide +kernel
theorem dX3_says_88 : decode cX3_says 88 = .ok (.aload_n 0, 1) := by decide +kernel
theorem dX3_says_89 : decode cX3_says 89 = .ok (.iload 4, 2) := by decide +kernel
theorem dX3_says_91 : decode cX3_says 91 = .ok (.invokevirtual 124, 3) := by decide +kernel
theorem dX3_says_94 : decode cX3_says 94 = .ok (.ireturn, 1) := by decide +kernel
theorem dX3_says_95 : decode cX3_says 95 = .ok (.iload_n 2, 1) := by decide +kernel
theorem dX3_says_96 : decode cX3_says 96 = .ok (.iconst 5, 1) := by decide +kernel
theorem dX3_says_97 : decode cX3_says 97 = .ok (.if_icmp .ne 16, 3) := by decide +kernel
theorem dX3_says_100 : decode cX3_says 100 = .ok (.aload_n 0, 1) := by decide +kernel
theorem dX3_says_101 : decode cX3_says 101 = .ok (.getfield 10, 3) := by decide +kernel
theorem dX3_says_104 : decode cX3_says 104 = .ok (.invokevirtual 127, 3) := by decide +kernel
theorem dX3_says_107 : decode cX3_says 107 = .ok (.invokestatic 131, 3) := by decide +kernel
theorem dX3_says_110 : decode cX3_says 110 = .ok (.goto 9, 3) := by decide +kernel
theorem dX3_says_113 : decode cX3_says 113 = .ok (.aload_n 0, 1) := by decide +kernel
theorem dX3_says_114 : decode cX3_says 114 = .ok (.iload 4, 2) := by decide +kernel
theorem dX3_says_116 : decode cX3_says 116 = .ok (.invokevirtual 137, 3) := by decide +kernel
theorem dX3_says_119 : decode cX3_says 119 = .ok (.ireturn, 1) := by decide +kernel
theorem dX3_size_0 : decode cX3_size 0 = .ok (.iload_n 1, 1) := by decide +kernel
theorem dX3_size_1 : decode cX3_size 1 = .ok (.invokestatic 140, 3) := by decide +kernel
theorem dX3_size_4 : decode cX3_size 4 = .ok (.ifCond .eq 10, 3) := by decide +kernel
theorem dX3_size_7 : decode cX3_size 7 = .ok (.iload_n 2, 1) := by decide +kernel
theorem dX3_size_8 : decode cX3_size 8 = .ok (.invokestatic 140, 3) := by decide +kernel
theorem dX3_size_11 : decode cX3_size 11 = .ok (.ifCond .ne 10, 3) := by decide +kernel
theorem dX3_size_14 : decode cX3_size 14 = .ok (.aload_n 0, 1) := by decide +kernel
theorem dX3_size_15 : decode cX3_size 15 = .ok (.bipush (-2), 2) := by decide +kernel
theorem dX3_size_17 : decode cX3_size 17 = .ok (.invokevirtual 60, 3) := by decide +kernel
theorem dX3_size_20 : decode cX3_size 20 = .ok (.ireturn, 1) := by decide +kernel
theorem dX3_size_21 : decode cX3_size 21 = .ok (.aload_n 0, 1) := by decide +kernel
theorem dX3_size_22 : decode cX3_size 22 = .ok (.getfield 10, 3) := by decide +kernel
theorem dX3_size_25 : decode cX3_size 25 = .ok (.iload_n 1, 1) := by decide +kernel
theorem dX3_size_26 : decode cX3_size 26 = .ok (.iload_n 2, 1) := by decide +kernel
theorem dX3_size_27 : decode cX3_size 27 = .ok (.invokevirtual 143, 3) := by decide +kernel
theorem dX3_size_30 : decode cX3_size 30 = .ok (.aload_n 0, 1) := by decide +kernel
theorem dX3_size_31 : decode cX3_size 31 = .ok (.getfield 10, 3) := by decide +kernel
theorem dX3_size_34 : decode cX3_size 34 = .ok (.getfield 146, 3) := by decide +kernel
theorem dX3_size_37 : decode cX3_size 37 = .ok (.ireturn, 1) := by decide +kernel
theorem dX3_player_0 : decode cX3_player 0 = .ok (.iload_n 1, 1) := by decide +kernel
theorem dX3_player_1 : decode cX3_player 1 = .ok (.ifCond .lt 19, 3) := by decide +kernel
theorem dX3_player_4 : decode cX3_player 4 = .ok (.iload_n 1, 1) := by decide +kernel
theorem dX3_player_5 : decode cX3_player 5 = .ok (.bipush 6, 2) := by decide +kernel
theorem dX3_player_7 : decode cX3_player 7 = .ok (.if_icmp .ge 13, 3) := by decide +kernel
theorem dX3_player_10 : decode cX3_player 10 = .ok (.iload_n 2, 1) := by decide +kernel
theorem dX3_player_11 : decode cX3_player 11 = .ok (.ifCond .lt 9, 3) := by decide +kernel
theorem dX3_player_14 : decode cX3_player 14 = .ok (.iload_n 2, 1) := by decide +kernel
theorem dX3_player_15 : decode cX3_player 15 = .ok (.bipush 9, 2) := by decide +kernel
theorem dX3_player_17 : decode cX3_player 17 = .ok (.if_icmp .le 10, 3) := by decide +kernel
theorem dX3_player_20 : decode cX3_player 20 = .ok (.aload_n 0, 1) := by decide +kernel
theorem dX3_player_21 : decode cX3_player 21 = .ok (.bipush (-2), 2) := by decide +kernel
theorem dX3_player_23 : decode cX3_player 23 = .ok (.invokevirtual 60, 3) := by decide +kernel
theorem dX3_player_26 : decode cX3_player 26 = .ok (.ireturn, 1) := by decide +kernel
theorem dX3_player_27 : decode cX3_player 27 = .ok (.aload_n 0, 1) := by decide +kernel
theorem dX3_player_28 : decode cX3_player 28 = .ok (.getfield 33, 3) := by decide +kernel
theorem dX3_player_31 : decode cX3_player 31 = .ok (.bipush 6, 2) := by decide +kernel
theorem dX3_player_33 : decode cX3_player 33 = .ok (.if_icmp .lt 10, 3) := by decide +kernel
theorem dX3_player_36 : decode cX3_player 36 = .ok (.aload_n 0, 1) := by decide +kernel
theorem dX3_player_37 : decode cX3_player 37 = .ok (.bipush (-6), 2) := by decide +kernel
theorem dX3_player_39 : decode cX3_player 39 = .ok (.invokevirtual 60, 3) := by decide +kernel
theorem dX3_player_42 : decode cX3_player 42 = .ok (.ireturn, 1) := by decide +kernel
theorem dX3_player_43 : decode cX3_player 43 = .ok (.aload_n 0, 1) := by decide +kernel
theorem dX3_player_44 : decode cX3_player 44 = .ok (.aload_n 0, 1) := by decide +kernel
theorem dX3_player_45 : decode cX3_player 45 = .ok (.getfield 33, 3) := by decide +kernel
theorem dX3_player_48 : decode cX3_player 48 = .ok (.iload_n 1, 1) := by decide +kernel
theorem dX3_player_49 : decode cX3_player 49 = .ok (.iload_n 2, 1) := by decide +kernel
theorem dX3_player_50 : decode cX3_player 50 = .ok (.invokevirtual 149, 3) := by decide +kernel
theorem dX3_player_53 : decode cX3_player 53 = .ok (.aload_n 0, 1) := by decide +kernel
theorem dX3_player_54 : decode cX3_player 54 = .ok (.dup, 1) := by decide +kernel
theorem dX3_player_55 : decode cX3_player 55 = .ok (.getfield 33, 3) := by decide +kernel
theorem dX3_player_58 : decode cX3_player 58 = .ok (.iconst 1, 1) := by decide +kernel
theorem dX3_player_59 : decode cX3_player 59 = .ok (.iadd, 1) := by decide +kernel
theorem dX3_player_60 : decode cX3_player 60 = .ok (.putfield 33, 3) := by decide +kernel
theorem dX3_player_63 : decode cX3_player 63 = .ok (.aload_n 0, 1) := by decide +kernel
theorem dX3_player_64 : decode cX3_player 64 = .ok (.getfield 33, 3) := by decide +kernel
theorem dX3_player_67 : decode cX3_player 67 = .ok (.iconst 1, 1) := by decide +kernel
theorem dX3_player_68 : decode cX3_player 68 = .ok (.isub, 1) := by decide +kernel
theorem dX3_player_69 : decode cX3_player 69 = .ok (.ireturn, 1) := by decide +kernel
theorem dX3_turn_0 : decode cX3_turn 0 = .ok (.iload_n 1, 1) := by decide +kernel
theorem dX3_turn_1 : decode cX3_turn 1 = .ok (.invokestatic 153, 3) := by decide +kernel
theorem dX3_turn_4 : decode cX3_turn 4 = .ok (.ifCond .ne 10, 3) := by decide +kernel
theorem dX3_turn_7 : decode cX3_turn 7 = .ok (.aload_n 0, 1) := by decide +kernel
theorem dX3_turn_8 : decode cX3_turn 8 = .ok (.bipush (-2), 2) := by decide +kernel
theorem dX3_turn_10 : decode cX3_turn 10 = .ok (.invokevirtual 60, 3) := by decide +kernel
theorem dX3_turn_13 : decode cX3_turn 13 = .ok (.ireturn, 1) := by decide +kernel
theorem dX3_turn_14 : decode cX3_turn 14 = .ok (.aload_n 0, 1) := by decide +kernel
theorem dX3_turn_15 : decode cX3_turn 15 = .ok (.getfield 10, 3) := by decide +kernel
theorem dX3_turn_18 : decode cX3_turn 18 = .ok (.getfield 156, 3) := by decide +kernel
theorem dX3_turn_21 : decode cX3_turn 21 = .ok (.istore_n 2, 1) := by decide +kernel
theorem dX3_turn_22 : decode cX3_turn 22 = .ok (.aload_n 0, 1) := by decide +kernel
theorem dX3_turn_23 : decode cX3_turn 23 = .ok (.getfield 10, 3) := by decide +kernel
theorem dX3_turn_26 : decode cX3_turn 26 = .ok (.iload_n 1, 1) := by decide +kernel
theorem dX3_turn_27 : decode cX3_turn 27 = .ok (.putfield 156, 3) := by decide +kernel
theorem dX3_turn_30 : decode cX3_turn 30 = .ok (.iload_n 2, 1) := by decide +kernel
theorem dX3_turn_31 : decode cX3_turn 31 = .ok (.ireturn, 1) := by decide +kernel
theorem dX3_feed_0 : decode cX3_feed 0 = .ok (.iload_n 1, 1) := by decide +kernel
theorem dX3_feed_1 : decode cX3_feed 1 = .ok (.ifCond .lt 10, 3) := by decide +kernel
theorem dX3_feed_4 : decode cX3_feed 4 = .ok (.iload_n 1, 1) := by decide +kernel
theorem dX3_feed_5 : decode cX3_feed 5 = .ok (.sipush 255, 3) := by decide +kernel
theorem dX3_feed_8 : decode cX3_feed 8 = .ok (.if_icmp .le 10, 3) := by decide +kernel
theorem dX3_feed_11 : decode cX3_feed 11 = .ok (.aload_n 0, 1) := by decide +kernel
theorem dX3_feed_12 : decode cX3_feed 12 = .ok (.bipush (-2), 2) := by decide +kernel
theorem dX3_feed_14 : decode cX3_feed 14 = .ok (.invokevirtual 60, 3) := by decide +kernel
theorem dX3_feed_17 : decode cX3_feed 17 = .ok (.ireturn, 1) := by decide +kernel
theorem dX3_feed_18 : decode cX3_feed 18 = .ok (.aload_n 0, 1) := by decide +kernel
theorem dX3_feed_19 : decode cX3_feed 19 = .ok (.getfield 48, 3) := by decide +kernel
theorem dX3_feed_22 : decode cX3_feed 22 = .ok (.getfield 159, 3) := by decide +kernel
theorem dX3_feed_25 : decode cX3_feed 25 = .ok (.sipush 250, 3) := by decide +kernel
theorem dX3_feed_28 : decode cX3_feed 28 = .ok (.if_icmp .lt 10, 3) := by decide +kernel
theorem dX3_feed_31 : decode cX3_feed 31 = .ok (.aload_n 0, 1) := by decide +kernel
theorem dX3_feed_32 : decode cX3_feed 32 = .ok (.bipush (-6), 2) := by decide +kernel
theorem dX3_feed_34 : decode cX3_feed 34 = .ok (.invokevirtual 60, 3) := by decide +kernel
theorem dX3_feed_37 : decode cX3_feed 37 = .ok (.ireturn, 1) := by decide +kernel
theorem dX3_feed_38 : decode cX3_feed 38 = .ok (.aload_n 0, 1) := by decide +kernel
theorem dX3_feed_39 : decode cX3_feed 39 = .ok (.getfield 48, 3) := by decide +kernel
theorem dX3_feed_42 : decode cX3_feed 42 = .ok (.iload_n 1, 1) := by decide +kernel
theorem dX3_feed_43 : decode cX3_feed 43 = .ok (.invokevirtual 162, 3) := by decide +kernel
theorem dX3_feed_46 : decode cX3_feed 46 = .ok (.aload_n 0, 1) := by decide +kernel
theorem dX3_feed_47 : decode cX3_feed 47 = .ok (.getfield 48, 3) := by decide +kernel
theorem dX3_feed_50 : decode cX3_feed 50 = .ok (.getfield 159, 3) := by decide +kernel
theorem dX3_feed_53 : decode cX3_feed 53 = .ok (.ireturn, 1) := by decide +kernel
theorem dX3_wipe_0 : decode cX3_wipe 0 = .ok (.aload_n 0, 1) := by decide +kernel
theorem dX3_wipe_1 : decode cX3_wipe 1 = .ok (.getfield 48, 3) := by decide +kernel
theorem dX3_wipe_4 : decode cX3_wipe 4 = .ok (.getfield 159, 3) := by decide +kernel
theorem dX3_wipe_7 : decode cX3_wipe 7 = .ok (.istore_n 1, 1) := by decide +kernel
theorem dX3_wipe_8 : decode cX3_wipe 8 = .ok (.aload_n 0, 1) := by decide +kernel
theorem dX3_wipe_9 : decode cX3_wipe 9 = .ok (.getfield 48, 3) := by decide +kernel
theorem dX3_wipe_12 : decode cX3_wipe 12 = .ok (.iconst 0, 1) := by decide +kernel
theorem dX3_wipe_13 : decode cX3_wipe 13 = .ok (.putfield 159, 3) := by decide +kernel
theorem dX3_wipe_16 : decode cX3_wipe 16 = .ok (.iload_n 1, 1) := by decide +kernel
theorem dX3_wipe_17 : decode cX3_wipe 17 = .ok (.ireturn, 1) := by decide +kernel
theorem dX3_board_0 : decode cX3_board 0 = .ok (.aload_n 0, 1) := by decide +kernel
theorem dX3_board_1 : decode cX3_board 1 = .ok (.getfield 16, 3) := by decide +kernel
theorem dX3_board_4 : decode cX3_board 4 = .ok (.aload_n 0, 1) := by decide +kernel
theorem dX3_board_5 : decode cX3_board 5 = .ok (.getfield 10, 3) := by decide +kernel
theorem dX3_board_8 : decode cX3_board 8 = .ok (.invokevirtual 165, 3) := by decide +kernel
theorem dX3_board_11 : decode cX3_board 11 = .ok (.aload_n 0, 1) := by decide +kernel
theorem dX3_board_12 : decode cX3_board 12 = .ok (.aload_n 0, 1) := by decide +kernel
theorem dX3_board_13 : decode cX3_board 13 = .ok (.getfield 33, 3) := by decide +kernel
theorem dX3_board_16 : decode cX3_board 16 = .ok (.putfield 36, 3) := by decide +kernel
theorem dX3_board_19 : decode cX3_board 19 = .ok (.aload_n 0, 1) := by decide +kernel
theorem dX3_board_20 : decode cX3_board 20 = .ok (.getfield 48, 3) := by decide +kernel
theorem dX3_board_23 : decode cX3_board 23 = .ok (.invokevirtual 169, 3) := by decide +kernel
theorem dX3_board_26 : decode cX3_board 26 = .ok (.aload_n 0, 1) := by decide +kernel
theorem dX3_board_27 : decode cX3_board 27 = .ok (.invokevirtual 172, 3) := by decide +kernel
theorem dX3_board_30 : decode cX3_board 30 = .ok (.istore_n 1, 1) := by decide +kernel
theorem dX3_board_31 : decode cX3_board 31 = .ok (.aload_n 0, 1) := by decide +kernel
theorem dX3_board_32 : decode cX3_board 32 = .ok (.getfield 48, 3) := by decide +kernel
theorem dX3_board_35 : decode cX3_board 35 = .ok (.getfield 176, 3) := by decide +kernel
theorem dX3_board_38 : decode cX3_board 38 = .ok (.istore_n 2, 1) := by decide +kernel
theorem dX3_board_39 : decode cX3_board 39 = .ok (.aload_n 0, 1) := by decide +kernel
theorem dX3_board_40 : decode cX3_board 40 = .ok (.getfield 48, 3) := by decide +kernel
theorem dX3_board_43 : decode cX3_board 43 = .ok (.iconst 0, 1) := by decide +kernel
theorem dX3_board_44 : decode cX3_board 44 = .ok (.putfield 159, 3) := by decide +kernel
theorem dX3_board_47 : decode cX3_board 47 = .ok (.iload_n 1, 1) := by decide +kernel
theorem dX3_board_48 : decode cX3_board 48 = .ok (.iconst (-1), 1) := by decide +kernel
theorem dX3_board_49 : decode cX3_board 49 = .ok (.if_icmp .ne 15, 3) := by decide +kernel
theorem dX3_board_52 : decode cX3_board 52 = .ok (.aload_n 0, 1) := by decide +kernel
theorem dX3_board_53 : decode cX3_board 53 = .ok (.bipush (-2), 2) := by decide +kernel
theorem dX3_board_55 : decode cX3_board 55 = .ok (.invokevirtual 60, 3) := by decide +kernel
theorem dX3_board_58 : decode cX3_board 58 = .ok (.pop, 1) := by decide +kernel
theorem dX3_board_59 : decode cX3_board 59 = .ok (.bipush (-20), 2) := by decide +kernel
theorem dX3_board_61 : decode cX3_board 61 = .ok (.iload_n 2, 1) := by decide +kernel
theorem dX3_board_62 : decode cX3_board 62 = .ok (.isub, 1) := by decide +kernel
theorem dX3_board_63 : decode cX3_board 63 = .ok (.ireturn, 1) := by decide +kernel
theorem dX3_board_64 : decode cX3_board 64 = .ok (.aload_n 0, 1) := by decide +kernel
theorem dX3_board_65 : decode cX3_board 65 = .ok (.getfield 10, 3) := by decide +kernel
theorem dX3_board_68 : decode cX3_board 68 = .ok (.aload_n 0, 1) := by decide +kernel
theorem dX3_board_69 : decode cX3_board 69 = .ok (.getfield 16, 3) := by decide +kernel
theorem dX3_board_72 : decode cX3_board 72 = .ok (.invokevirtual 165, 3) := by decide +kernel
theorem dX3_board_75 : decode cX3_board 75 = .ok (.aload_n 0, 1) := by decide +kernel
theorem dX3_board_76 : decode cX3_board 76 = .ok (.aload_n 0, 1) := by decide +kernel
theorem dX3_board_77 : decode cX3_board 77 = .ok (.getfield 36, 3) := by decide +kernel
theorem dX3_board_80 : decode cX3_board 80 = .ok (.putfield 33, 3) := by decide +kernel
theorem dX3_board_83 : decode cX3_board 83 = .ok (.iload_n 1, 1) := by decide +kernel
theorem dX3_board_84 : decode cX3_board 84 = .ok (.ireturn, 1) := by decide +kernel
theorem dX3_fieldOf_0 : decode cX3_fieldOf 0 = .ok (.aload_n 0, 1) := by decide +kernel
theorem dX3_fieldOf_1 : decode cX3_fieldOf 1 = .ok (.getfield 10, 3) := by decide +kernel
theorem dX3_fieldOf_4 : decode cX3_fieldOf 4 = .ok (.iload_n 1, 1) := by decide +kernel
theorem dX3_fieldOf_5 : decode cX3_fieldOf 5 = .ok (.invokevirtual 179, 3) := by decide +kernel
theorem dX3_fieldOf_8 : decode cX3_fieldOf 8 = .ok (.ifCond .ne 10, 3) := by decide +kernel
theorem dX3_fieldOf_11 : decode cX3_fieldOf 11 = .ok (.aload_n 0, 1) := by decide +kernel
theorem dX3_fieldOf_12 : decode cX3_fieldOf 12 = .ok (.bipush (-2), 2) := by decide +kernel
theorem dX3_fieldOf_14 : decode cX3_fieldOf 14 = .ok (.invokevirtual 60, 3) := by decide +kernel
theorem dX3_fieldOf_17 : decode cX3_fieldOf 17 = .ok (.ireturn, 1) := by decide +kernel
theorem dX3_fieldOf_18 : decode cX3_fieldOf 18 = .ok (.iconst 1, 1) := by decide +kernel
theorem dX3_fieldOf_19 : decode cX3_fieldOf 19 = .ok (.iload_n 1, 1) := by decide +kernel
theorem dX3_fieldOf_20 : decode cX3_fieldOf 20 = .ok (.ishl, 1) := by decide +kernel
theorem dX3_fieldOf_21 : decode cX3_fieldOf 21 = .ok (.istore_n 3, 1) := by decide +kernel
theorem dX3_fieldOf_22 : decode cX3_fieldOf 22 = .ok (.iload_n 2, 1) := by decide +kernel
theorem dX3_fieldOf_23 : decode cX3_fieldOf 23 = .ok (.tableswitch 194 0 8 #[49, 69, 90, 109, 130, 139, 148, 157, 166], 49) := by decide +kernel
theorem dX3_fieldOf_72 : decode cX3_fieldOf 72 = .ok (.aload_n 0, 1) := by decide +kernel
theorem dX3_fieldOf_73 : decode cX3_fieldOf 73 = .ok (.getfield 10, 3) := by decide +kernel
theorem dX3_fieldOf_76 : decode cX3_fieldOf 76 = .ok (.iload_n 3, 1) := by decide +kernel
theorem dX3_fieldOf_77 : decode cX3_fieldOf 77 = .ok (.invokevirtual 182, 3) := by decide +kernel
theorem dX3_fieldOf_80 : decode cX3_fieldOf 80 = .ok (.aload_n 0, 1) := by decide +kernel
theorem dX3_fieldOf_81 : decode cX3_fieldOf 81 = .ok (.getfield 10, 3) := by decide +kernel
theorem dX3_fieldOf_84 : decode cX3_fieldOf 84 = .ok (.getfield 185, 3) := by decide +kernel
theorem dX3_fieldOf_87 : decode cX3_fieldOf 87 = .ok (.land, 1) := by decide +kernel
theorem dX3_fieldOf_88 : decode cX3_fieldOf 88 = .ok (.invokestatic 131, 3) := by decide +kernel
theorem dX3_fieldOf_91 : decode cX3_fieldOf 91 = .ok (.ireturn, 1) := by decide +kernel
theorem dX3_fieldOf_92 : decode cX3_fieldOf 92 = .ok (.aload_n 0, 1) := by decide +kernel
theorem dX3_fieldOf_93 : decode cX3_fieldOf 93 = .ok (.getfield 10, 3) := by decide +kernel
theorem dX3_fieldOf_96 : decode cX3_fieldOf 96 = .ok (.getfield 189, 3) := by decide +kernel
theorem dX3_fieldOf_99 : decode cX3_fieldOf 99 = .ok (.iload_n 3, 1) := by decide +kernel
theorem dX3_fieldOf_100 : decode cX3_fieldOf 100 = .ok (.iand, 1) := by decide +kernel
theorem dX3_fieldOf_101 : decode cX3_fieldOf 101 = .ok (.ifCond .eq 7, 3) := by decide +kernel
theorem dX3_fieldOf_104 : decode cX3_fieldOf 104 = .ok (.iconst 1, 1) := by decide +kernel
theorem dX3_fieldOf_105 : decode cX3_fieldOf 105 = .ok (.goto 4, 3) := by decide +kernel
theorem dX3_fieldOf_108 : decode cX3_fieldOf 108 = .ok (.iconst 0, 1) := by decide +kernel
theorem dX3_fieldOf_109 : decode cX3_fieldOf 109 = .ok (.invokestatic 192, 3) := by decide +kernel
theorem dX3_fieldOf_112 : decode cX3_fieldOf 112 = .ok (.ireturn, 1) := by decide +kernel
theorem dX3_fieldOf_113 : decode cX3_fieldOf 113 = .ok (.iload_n 3, 1) := by decide +kernel
theorem dX3_fieldOf_114 : decode cX3_fieldOf 114 = .ok (.aload_n 0, 1) := by decide +kernel
theorem dX3_fieldOf_115 : decode cX3_fieldOf 115 = .ok (.getfield 10, 3) := by decide +kernel
theorem dX3_fieldOf_118 : decode cX3_fieldOf 118 = .ok (.getfield 196, 3) := by decide +kernel
theorem dX3_fieldOf_121 : decode cX3_fieldOf 121 = .ok (.aload_n 0, 1) := by decide +kernel
theorem dX3_fieldOf_122 : decode cX3_fieldOf 122 = .ok (.getfield 10, 3) := by decide +kernel
theorem dX3_fieldOf_125 : decode cX3_fieldOf 125 = .ok (.getfield 199, 3) := by decide +kernel
theorem dX3_fieldOf_128 : decode cX3_fieldOf 128 = .ok (.invokestatic 202, 3) := by decide +kernel
theorem dX3_fieldOf_131 : decode cX3_fieldOf 131 = .ok (.ireturn, 1) := by decide +kernel
theorem dX3_fieldOf_132 : decode cX3_fieldOf 132 = .ok (.iload_n 3, 1) := by decide +kernel
theorem dX3_fieldOf_133 : decode cX3_fieldOf 133 = .ok (.aload_n 0, 1) := by decide +kernel
theorem dX3_fieldOf_134 : decode cX3_fieldOf 134 = .ok (.getfield 10, 3) := by decide +kernel
theorem dX3_fieldOf_137 : decode cX3_fieldOf 137 = .ok (.iconst 0, 1) := by decide +kernel
theorem dX3_fieldOf_138 : decode cX3_fieldOf 138 = .ok (.invokevirtual 206, 3) := by decide +kernel
theorem dX3_fieldOf_141 : decode cX3_fieldOf 141 = .ok (.aload_n 0, 1) := by decide +kernel
theorem dX3_fieldOf_142 : decode cX3_fieldOf 142 = .ok (.getfield 10, 3) := by decide +kernel
theorem dX3_fieldOf_145 : decode cX3_fieldOf 145 = .ok (.iconst 1, 1) := by decide +kernel
theorem dX3_fieldOf_146 : decode cX3_fieldOf 146 = .ok (.invokevirtual 206, 3) := by decide +kernel
theorem dX3_fieldOf_149 : decode cX3_fieldOf 149 = .ok (.invokestatic 202, 3) := by decide +kernel
theorem dX3_fieldOf_152 : decode cX3_fieldOf 152 = .ok (.ireturn, 1) := by decide +kernel
theorem dX3_fieldOf_153 : decode cX3_fieldOf 153 = .ok (.aload_n 0, 1) := by decide +kernel
theorem dX3_fieldOf_154 : decode cX3_fieldOf 154 = .ok (.getfield 10, 3) := by decide +kernel
theorem dX3_fieldOf_157 : decode cX3_fieldOf 157 = .ok (.iload_n 1, 1) := by decide +kernel
theorem dX3_fieldOf_158 : decode cX3_fieldOf 158 = .ok (.invokevirtual 209, 3) := by decide +kernel
theorem dX3_fieldOf_161 : decode cX3_fieldOf 161 = .ok (.ireturn, 1) := by decide +kernel
theorem dX3_fieldOf_162 : decode cX3_fieldOf 162 = .ok (.aload_n 0, 1) := by decide +kernel
theorem dX3_fieldOf_163 : decode cX3_fieldOf 163 = .ok (.getfield 10, 3) := by decide +kernel
theorem dX3_fieldOf_166 : decode cX3_fieldOf 166 = .ok (.iload_n 1, 1) := by decide +kernel
theorem dX3_fieldOf_167 : decode cX3_fieldOf 167 = .ok (.invokevirtual 212, 3) := by decide +kernel
theorem dX3_fieldOf_170 : decode cX3_fieldOf 170 = .ok (.ireturn, 1) := by decide +kernel
theorem dX3_fieldOf_171 : decode cX3_fieldOf 171 = .ok (.aload_n 0, 1) := by decide +kernel
theorem dX3_fieldOf_172 : decode cX3_fieldOf 172 = .ok (.getfield 10, 3) := by decide +kernel
theorem dX3_fieldOf_175 : decode cX3_fieldOf 175 = .ok (.iload_n 1, 1) := by decide +kernel
theorem dX3_fieldOf_176 : decode cX3_fieldOf 176 = .ok (.invokevirtual 215, 3) := by decide +kernel
theorem dX3_fieldOf_179 : decode cX3_fieldOf 179 = .ok (.ireturn, 1) := by decide +kernel
theorem dX3_fieldOf_180 : decode cX3_fieldOf 180 = .ok (.aload_n 0, 1) := by decide +kernel
theorem dX3_fieldOf_181 : decode cX3_fieldOf 181 = .ok (.getfield 10, 3) := by decide +kernel
theorem dX3_fieldOf_184 : decode cX3_fieldOf 184 = .ok (.iload_n 1, 1) := by decide +kernel
theorem dX3_fieldOf_185 : decode cX3_fieldOf 185 = .ok (.invokevirtual 218, 3) := by decide +kernel
theorem dX3_fieldOf_188 : decode cX3_fieldOf 188 = .ok (.ireturn, 1) := by decide +kernel
theorem dX3_fieldOf_189 : decode cX3_fieldOf 189 = .ok (.aload_n 0, 1) := by decide +kernel
theorem dX3_fieldOf_190 : decode cX3_fieldOf 190 = .ok (.getfield 10, 3) := by decide +kernel
theorem dX3_fieldOf_193 : decode cX3_fieldOf 193 = .ok (.aload_n 0, 1) := by decide +kernel
theorem dX3_fieldOf_194 : decode cX3_fieldOf 194 = .ok (.getfield 10, 3) := by decide +kernel
theorem dX3_fieldOf_197 : decode cX3_fieldOf 197 = .ok (.getfield 221, 3) := by decide +kernel
theorem dX3_fieldOf_200 : decode cX3_fieldOf 200 = .ok (.invokevirtual 224, 3) := by decide +kernel
theorem dX3_fieldOf_203 : decode cX3_fieldOf 203 = .ok (.iload_n 3, 1) := by decide +kernel
theorem dX3_fieldOf_204 : decode cX3_fieldOf 204 = .ok (.iand, 1) := by decide +kernel
theorem dX3_fieldOf_205 : decode cX3_fieldOf 205 = .ok (.ifCond .eq 7, 3) := by decide +kernel
theorem dX3_fieldOf_208 : decode cX3_fieldOf 208 = .ok (.iconst 1, 1) := by decide +kernel
theorem dX3_fieldOf_209 : decode cX3_fieldOf 209 = .ok (.goto 4, 3) := by decide +kernel
theorem dX3_fieldOf_212 : decode cX3_fieldOf 212 = .ok (.iconst 0, 1) := by decide +kernel
theorem dX3_fieldOf_213 : decode cX3_fieldOf 213 = .ok (.invokestatic 192, 3) := by decide +kernel
theorem dX3_fieldOf_216 : decode cX3_fieldOf 216 = .ok (.ireturn, 1) := by decide +kernel
theorem dX3_fieldOf_217 : decode cX3_fieldOf 217 = .ok (.aload_n 0, 1) := by decide +kernel
theorem dX3_fieldOf_218 : decode cX3_fieldOf 218 = .ok (.bipush (-2), 2) := by decide +kernel
theorem dX3_fieldOf_220 : decode cX3_fieldOf 220 = .ok (.invokevirtual 60, 3) := by decide +kernel
theorem dX3_fieldOf_223 : decode cX3_fieldOf 223 = .ok (.ireturn, 1) := by decide +kernel
theorem dX3_edgeOf_0 : decode cX3_edgeOf 0 = .ok (.aload_n 0, 1) := by decide +kernel
theorem dX3_edgeOf_1 : decode cX3_edgeOf 1 = .ok (.getfield 10, 3) := by decide +kernel
theorem dX3_edgeOf_4 : decode cX3_edgeOf 4 = .ok (.iload_n 1, 1) := by decide +kernel
theorem dX3_edgeOf_5 : decode cX3_edgeOf 5 = .ok (.invokevirtual 227, 3) := by decide +kernel
theorem dX3_edgeOf_8 : decode cX3_edgeOf 8 = .ok (.ifCond .ne 10, 3) := by decide +kernel
theorem dX3_edgeOf_11 : decode cX3_edgeOf 11 = .ok (.aload_n 0, 1) := by decide +kernel
theorem dX3_edgeOf_12 : decode cX3_edgeOf 12 = .ok (.bipush (-2), 2) := by decide +kernel
theorem dX3_edgeOf_14 : decode cX3_edgeOf 14 = .ok (.invokevirtual 60, 3) := by decide +kernel
theorem dX3_edgeOf_17 : decode cX3_edgeOf 17 = .ok (.ireturn, 1) := by decide +kernel
theorem dX3_edgeOf_18 : decode cX3_edgeOf 18 = .ok (.iload_n 2, 1) := by decide +kernel
theorem dX3_edgeOf_19 : decode cX3_edgeOf 19 = .ok (.tableswitch 55 0 2 #[25, 37, 46], 25) := by decide +kernel
theorem dX3_edgeOf_44 : decode cX3_edgeOf 44 = .ok (.aload_n 0, 1) := by decide +kernel
theorem dX3_edgeOf_45 : decode cX3_edgeOf 45 = .ok (.getfield 10, 3) := by decide +kernel
theorem dX3_edgeOf_48 : decode cX3_edgeOf 48 = .ok (.iload_n 1, 1) := by decide +kernel
theorem dX3_edgeOf_49 : decode cX3_edgeOf 49 = .ok (.invokevirtual 230, 3) := by decide +kernel
theorem dX3_edgeOf_52 : decode cX3_edgeOf 52 = .ok (.invokestatic 192, 3) := by decide +kernel
theorem dX3_edgeOf_55 : decode cX3_edgeOf 55 = .ok (.ireturn, 1) := by decide +kernel
theorem dX3_edgeOf_56 : decode cX3_edgeOf 56 = .ok (.aload_n 0, 1) := by decide +kernel
theorem dX3_edgeOf_57 : decode cX3_edgeOf 57 = .ok (.getfield 10, 3) := by decide +kernel
theorem dX3_edgeOf_60 : decode cX3_edgeOf 60 = .ok (.iload_n 1, 1) := by decide +kernel
theorem dX3_edgeOf_61 : decode cX3_edgeOf 61 = .ok (.invokevirtual 233, 3) := by decide +kernel
theorem dX3_edgeOf_64 : decode cX3_edgeOf 64 = .ok (.ireturn, 1) := by decide +kernel
theorem dX3_edgeOf_65 : decode cX3_edgeOf 65 = .ok (.aload_n 0, 1) := by decide +kernel
theorem dX3_edgeOf_66 : decode cX3_edgeOf 66 = .ok (.getfield 10, 3) := by decide +kernel
theorem dX3_edgeOf_69 : decode cX3_edgeOf 69 = .ok (.iload_n 1, 1) := by decide +kernel
theorem dX3_edgeOf_70 : decode cX3_edgeOf 70 = .ok (.invokevirtual 236, 3) := by decide +kernel
theorem dX3_edgeOf_73 : decode cX3_edgeOf 73 = .ok (.ireturn, 1) := by decide +kernel
theorem dX3_edgeOf_74 : decode cX3_edgeOf 74 = .ok (.aload_n 0, 1) := by decide +kernel
theorem dX3_edgeOf_75 : decode cX3_edgeOf 75 = .ok (.bipush (-2), 2) := by decide +kernel
theorem dX3_edgeOf_77 : decode cX3_edgeOf 77 = .ok (.invokevirtual 60, 3) := by decide +kernel
theorem dX3_edgeOf_80 : decode cX3_edgeOf 80 = .ok (.ireturn, 1) := by decide +kernel
theorem dX3_playerOf_0 : decode cX3_playerOf 0 = .ok (.aload_n 0, 1) := by decide +kernel
theorem dX3_playerOf_1 : decode cX3_playerOf 1 = .ok (.iload_n 1, 1) := by decide +kernel
theorem dX3_playerOf_2 : decode cX3_playerOf 2 = .ok (.invokevirtual 108, 3) := by decide +kernel
theorem dX3_playerOf_5 : decode cX3_playerOf 5 = .ok (.ifCond .ne 10, 3) := by decide +kernel
theorem dX3_playerOf_8 : decode cX3_playerOf 8 = .ok (.aload_n 0, 1) := by decide +kernel
theorem dX3_playerOf_9 : decode cX3_playerOf 9 = .ok (.bipush (-2), 2) := by decide +kernel
theorem dX3_playerOf_11 : decode cX3_playerOf 11 = .ok (.invokevirtual 60, 3) := by decide +kernel
theorem dX3_playerOf_14 : decode cX3_playerOf 14 = .ok (.ireturn, 1) := by decide +kernel
theorem dX3_playerOf_15 : decode cX3_playerOf 15 = .ok (.iload_n 2, 1) := by decide +kernel
theorem dX3_playerOf_16 : decode cX3_playerOf 16 = .ok (.lookupswitch 40 #[(0, 28), (1, 34)], 28) := by decide +kernel
theorem dX3_playerOf_44 : decode cX3_playerOf 44 = .ok (.aload_n 0, 1) := by decide +kernel
theorem dX3_playerOf_45 : decode cX3_playerOf 45 = .ok (.iload_n 1, 1) := by decide +kernel
theorem dX3_playerOf_46 : decode cX3_playerOf 46 = .ok (.invokevirtual 118, 3) := by decide +kernel
theorem dX3_playerOf_49 : decode cX3_playerOf 49 = .ok (.ireturn, 1) := by decide +kernel
theorem dX3_playerOf_50 : decode cX3_playerOf 50 = .ok (.aload_n 0, 1) := by decide +kernel
theorem dX3_playerOf_51 : decode cX3_playerOf 51 = .ok (.iload_n 1, 1) := by decide +kernel
theorem dX3_playerOf_52 : decode cX3_playerOf 52 = .ok (.invokevirtual 124, 3) := by decide +kernel
theorem dX3_playerOf_55 : decode cX3_playerOf 55 = .ok (.ireturn, 1) := by decide +kernel
theorem dX3_playerOf_56 : decode cX3_playerOf 56 = .ok (.aload_n 0, 1) := by decide +kernel
theorem dX3_playerOf_57 : decode cX3_playerOf 57 = .ok (.bipush (-2), 2) := by decide +kernel
theorem dX3_playerOf_59 : decode cX3_playerOf 59 = .ok (.invokevirtual 60, 3) := by decide +kernel
theorem dX3_playerOf_62 : decode cX3_playerOf 62 = .ok (.ireturn, 1) := by decide +kernel
theorem dX3_may_0 : decode cX3_may 0 = .ok (.aload_n 0, 1) := by decide +kernel
theorem dX3_may_1 : decode cX3_may 1 = .ok (.getfield 10, 3) := by decide +kernel
theorem dX3_may_4 : decode cX3_may 4 = .ok (.iload_n 1, 1) := by decide +kernel
theorem dX3_may_5 : decode cX3_may 5 = .ok (.invokevirtual 239, 3) := by decide +kernel
theorem dX3_may_8 : decode cX3_may 8 = .ok (.istore_n 2, 1) := by decide +kernel
theorem dX3_may_9 : decode cX3_may 9 = .ok (.iload_n 2, 1) := by decide +kernel
theorem dX3_may_10 : decode cX3_may 10 = .ok (.iconst (-1), 1) := by decide +kernel
theorem dX3_may_11 : decode cX3_may 11 = .ok (.if_icmp .ne 12, 3) := by decide +kernel
theorem dX3_may_14 : decode cX3_may 14 = .ok (.aload_n 0, 1) := by decide +kernel
theorem dX3_may_15 : decode cX3_may 15 = .ok (.bipush (-2), 2) := by decide +kernel
theorem dX3_may_17 : decode cX3_may 17 = .ok (.invokevirtual 60, 3) := by decide +kernel
theorem dX3_may_20 : decode cX3_may 20 = .ok (.goto 14, 3) := by decide +kernel
theorem dX3_may_23 : decode cX3_may 23 = .ok (.aload_n 0, 1) := by decide +kernel
theorem dX3_may_24 : decode cX3_may 24 = .ok (.getfield 10, 3) := by decide +kernel
theorem dX3_may_27 : decode cX3_may 27 = .ok (.iload_n 2, 1) := by decide +kernel
theorem dX3_may_28 : decode cX3_may 28 = .ok (.invokevirtual 242, 3) := by decide +kernel
theorem dX3_may_31 : decode cX3_may 31 = .ok (.invokestatic 192, 3) := by decide +kernel
theorem dX3_may_34 : decode cX3_may 34 = .ok (.ireturn, 1) := by decide +kernel
theorem dX3_moves_0 : decode cX3_moves 0 = .ok (.aload_n 0, 1) := by decide +kernel
theorem dX3_moves_1 : decode cX3_moves 1 = .ok (.getfield 10, 3) := by decide +kernel
theorem dX3_moves_4 : decode cX3_moves 4 = .ok (.invokevirtual 127, 3) := by decide +kernel
theorem dX3_moves_7 : decode cX3_moves 7 = .ok (.lstore_n 2, 1) := by decide +kernel
theorem dX3_moves_8 : decode cX3_moves 8 = .ok (.iload_n 1, 1) := by decide +kernel
theorem dX3_moves_9 : decode cX3_moves 9 = .ok (.iconst (-1), 1) := by decide +kernel
theorem dX3_moves_10 : decode cX3_moves 10 = .ok (.if_icmp .ge 10, 3) := by decide +kernel
theorem dX3_moves_13 : decode cX3_moves 13 = .ok (.aload_n 0, 1) := by decide +kernel
theorem dX3_moves_14 : decode cX3_moves 14 = .ok (.bipush (-2), 2) := by decide +kernel
theorem dX3_moves_16 : decode cX3_moves 16 = .ok (.invokevirtual 60, 3) := by decide +kernel
theorem dX3_moves_19 : decode cX3_moves 19 = .ok (.ireturn, 1) := by decide +kernel
theorem dX3_moves_20 : decode cX3_moves 20 = .ok (.iload_n 1, 1) := by decide +kernel
theorem dX3_moves_21 : decode cX3_moves 21 = .ok (.iconst (-1), 1) := by decide +kernel
theorem dX3_moves_22 : decode cX3_moves 22 = .ok (.if_icmp .ne 8, 3) := by decide +kernel
theorem dX3_moves_25 : decode cX3_moves 25 = .ok (.lload_n 2, 1) := by decide +kernel
theorem dX3_moves_26 : decode cX3_moves 26 = .ok (.invokestatic 131, 3) := by decide +kernel
theorem dX3_moves_29 : decode cX3_moves 29 = .ok (.ireturn, 1) := by decide +kernel
theorem dX3_moves_30 : decode cX3_moves 30 = .ok (.iload_n 1, 1) := by decide +kernel
theorem dX3_moves_31 : decode cX3_moves 31 = .ok (.lload_n 2, 1) := by decide +kernel
theorem dX3_moves_32 : decode cX3_moves 32 = .ok (.invokestatic 131, 3) := by decide +kernel
theorem dX3_moves_35 : decode cX3_moves 35 = .ok (.if_icmp .lt 12, 3) := by decide +kernel
theorem dX3_moves_38 : decode cX3_moves 38 = .ok (.aload_n 0, 1) := by decide +kernel
theorem dX3_moves_39 : decode cX3_moves 39 = .ok (.bipush (-5), 2) := by decide +kernel
theorem dX3_moves_41 : decode cX3_moves 41 = .ok (.invokevirtual 60, 3) := by decide +kernel
theorem dX3_moves_44 : decode cX3_moves 44 = .ok (.goto 11, 3) := by decide +kernel
theorem dX3_moves_47 : decode cX3_moves 47 = .ok (.lload_n 2, 1) := by decide +kernel
theorem dX3_moves_48 : decode cX3_moves 48 = .ok (.iload_n 1, 1) := by decide +kernel
theorem dX3_moves_49 : decode cX3_moves 49 = .ok (.invokestatic 245, 3) := by decide +kernel
theorem dX3_moves_52 : decode cX3_moves 52 = .ok (.invokestatic 249, 3) := by decide +kernel
theorem dX3_moves_55 : decode cX3_moves 55 = .ok (.ireturn, 1) := by decide +kernel
theorem dX3_score_0 : decode cX3_score 0 = .ok (.iload_n 1, 1) := by decide +kernel
theorem dX3_score_1 : decode cX3_score 1 = .ok (.invokestatic 153, 3) := by decide +kernel
theorem dX3_score_4 : decode cX3_score 4 = .ok (.ifCond .eq 14, 3) := by decide +kernel
theorem dX3_score_7 : decode cX3_score 7 = .ok (.aload_n 0, 1) := by decide +kernel
theorem dX3_score_8 : decode cX3_score 8 = .ok (.getfield 10, 3) := by decide +kernel
theorem dX3_score_11 : decode cX3_score 11 = .ok (.iload_n 1, 1) := by decide +kernel
theorem dX3_score_12 : decode cX3_score 12 = .ok (.invokevirtual 252, 3) := by decide +kernel
theorem dX3_score_15 : decode cX3_score 15 = .ok (.goto 9, 3) := by decide +kernel
theorem dX3_score_18 : decode cX3_score 18 = .ok (.aload_n 0, 1) := by decide +kernel
theorem dX3_score_19 : decode cX3_score 19 = .ok (.bipush (-2), 2) := by decide +kernel
theorem dX3_score_21 : decode cX3_score 21 = .ok (.invokevirtual 60, 3) := by decide +kernel
theorem dX3_score_24 : decode cX3_score 24 = .ok (.ireturn, 1) := by decide +kernel
theorem dX3_lead_0 : decode cX3_lead 0 = .ok (.iload_n 1, 1) := by decide +kernel
theorem dX3_lead_1 : decode cX3_lead 1 = .ok (.invokestatic 153, 3) := by decide +kernel
theorem dX3_lead_4 : decode cX3_lead 4 = .ok (.ifCond .eq 14, 3) := by decide +kernel
theorem dX3_lead_7 : decode cX3_lead 7 = .ok (.aload_n 0, 1) := by decide +kernel
theorem dX3_lead_8 : decode cX3_lead 8 = .ok (.getfield 10, 3) := by decide +kernel
theorem dX3_lead_11 : decode cX3_lead 11 = .ok (.iload_n 1, 1) := by decide +kernel
theorem dX3_lead_12 : decode cX3_lead 12 = .ok (.invokevirtual 255, 3) := by decide +kernel
theorem dX3_lead_15 : decode cX3_lead 15 = .ok (.goto 9, 3) := by decide +kernel
theorem dX3_lead_18 : decode cX3_lead 18 = .ok (.aload_n 0, 1) := by decide +kernel
theorem dX3_lead_19 : decode cX3_lead 19 = .ok (.bipush (-2), 2) := by decide +kernel
theorem dX3_lead_21 : decode cX3_lead 21 = .ok (.invokevirtual 258, 3) := by decide +kernel
theorem dX3_lead_24 : decode cX3_lead 24 = .ok (.ireturn, 1) := by decide +kernel
theorem dX3_lanes_0 : decode cX3_lanes 0 = .ok (.iload_n 1, 1) := by decide +kernel
theorem dX3_lanes_1 : decode cX3_lanes 1 = .ok (.invokestatic 153, 3) := by decide +kernel
theorem dX3_lanes_4 : decode cX3_lanes 4 = .ok (.ifCond .eq 21, 3) := by decide +kernel
theorem dX3_lanes_7 : decode cX3_lanes 7 = .ok (.aload_n 0, 1) := by decide +kernel
theorem dX3_lanes_8 : decode cX3_lanes 8 = .ok (.getfield 10, 3) := by decide +kernel
theorem dX3_lanes_11 : decode cX3_lanes 11 = .ok (.aload_n 0, 1) := by decide +kernel
theorem dX3_lanes_12 : decode cX3_lanes 12 = .ok (.getfield 10, 3) := by decide +kernel
theorem dX3_lanes_15 : decode cX3_lanes 15 = .ok (.iload_n 1, 1) := by decide +kernel
theorem dX3_lanes_16 : decode cX3_lanes 16 = .ok (.invokevirtual 206, 3) := by decide +kernel
theorem dX3_lanes_19 : decode cX3_lanes 19 = .ok (.invokevirtual 261, 3) := by decide +kernel
theorem dX3_lanes_22 : decode cX3_lanes 22 = .ok (.goto 9, 3) := by decide +kernel
theorem dX3_lanes_25 : decode cX3_lanes 25 = .ok (.aload_n 0, 1) := by decide +kernel
theorem dX3_lanes_26 : decode cX3_lanes 26 = .ok (.bipush (-2), 2) := by decide +kernel
theorem dX3_lanes_28 : decode cX3_lanes 28 = .ok (.invokevirtual 60, 3) := by decide +kernel
theorem dX3_lanes_31 : decode cX3_lanes 31 = .ok (.ireturn, 1) := by decide +kernel
theorem dX3_ditch_0 : decode cX3_ditch 0 = .ok (.aload_n 0, 1) := by decide +kernel
theorem dX3_ditch_1 : decode cX3_ditch 1 = .ok (.getfield 10, 3) := by decide +kernel
theorem dX3_ditch_4 : decode cX3_ditch 4 = .ok (.iload_n 1, 1) := by decide +kernel
theorem dX3_ditch_5 : decode cX3_ditch 5 = .ok (.invokevirtual 179, 3) := by decide +kernel
theorem dX3_ditch_8 : decode cX3_ditch 8 = .ok (.ifCond .ne 10, 3) := by decide +kernel
theorem dX3_ditch_11 : decode cX3_ditch 11 = .ok (.aload_n 0, 1) := by decide +kernel
theorem dX3_ditch_12 : decode cX3_ditch 12 = .ok (.bipush (-2), 2) := by decide +kernel
theorem dX3_ditch_14 : decode cX3_ditch 14 = .ok (.invokevirtual 60, 3) := by decide +kernel
theorem dX3_ditch_17 : decode cX3_ditch 17 = .ok (.ireturn, 1) := by decide +kernel
theorem dX3_ditch_18 : decode cX3_ditch 18 = .ok (.iconst 1, 1) := by decide +kernel
theorem dX3_ditch_19 : decode cX3_ditch 19 = .ok (.iload_n 1, 1) := by decide +kernel
theorem dX3_ditch_20 : decode cX3_ditch 20 = .ok (.ishl, 1) := by decide +kernel
theorem dX3_ditch_21 : decode cX3_ditch 21 = .ok (.istore_n 2, 1) := by decide +kernel
theorem dX3_ditch_22 : decode cX3_ditch 22 = .ok (.aload_n 0, 1) := by decide +kernel
theorem dX3_ditch_23 : decode cX3_ditch 23 = .ok (.getfield 10, 3) := by decide +kernel
theorem dX3_ditch_26 : decode cX3_ditch 26 = .ok (.getfield 189, 3) := by decide +kernel
theorem dX3_ditch_29 : decode cX3_ditch 29 = .ok (.iload_n 2, 1) := by decide +kernel
theorem dX3_ditch_30 : decode cX3_ditch 30 = .ok (.iand, 1) := by decide +kernel
theorem dX3_ditch_31 : decode cX3_ditch 31 = .ok (.ifCond .ne 12, 3) := by decide +kernel
theorem dX3_ditch_34 : decode cX3_ditch 34 = .ok (.aload_n 0, 1) := by decide +kernel
theorem dX3_ditch_35 : decode cX3_ditch 35 = .ok (.bipush (-5), 2) := by decide +kernel
theorem dX3_ditch_37 : decode cX3_ditch 37 = .ok (.invokevirtual 60, 3) := by decide +kernel
theorem dX3_ditch_40 : decode cX3_ditch 40 = .ok (.goto 19, 3) := by decide +kernel
theorem dX3_ditch_43 : decode cX3_ditch 43 = .ok (.aload_n 0, 1) := by decide +kernel
theorem dX3_ditch_44 : decode cX3_ditch 44 = .ok (.getfield 10, 3) := by decide +kernel
theorem dX3_ditch_47 : decode cX3_ditch 47 = .ok (.iload_n 2, 1) := by decide +kernel
theorem dX3_ditch_48 : decode cX3_ditch 48 = .ok (.aload_n 0, 1) := by decide +kernel
theorem dX3_ditch_49 : decode cX3_ditch 49 = .ok (.getfield 10, 3) := by decide +kernel
theorem dX3_ditch_52 : decode cX3_ditch 52 = .ok (.getfield 189, 3) := by decide +kernel
theorem dX3_ditch_55 : decode cX3_ditch 55 = .ok (.lconst 0, 1) := by decide +kernel
theorem dX3_ditch_56 : decode cX3_ditch 56 = .ok (.invokevirtual 264, 3) := by decide +kernel
theorem dX3_ditch_59 : decode cX3_ditch 59 = .ok (.ireturn, 1) := by decide +kernel
theorem dX3_drained_0 : decode cX3_drained 0 = .ok (.aload_n 0, 1) := by decide +kernel
theorem dX3_drained_1 : decode cX3_drained 1 = .ok (.getfield 10, 3) := by decide +kernel
theorem dX3_drained_4 : decode cX3_drained 4 = .ok (.invokevirtual 268, 3) := by decide +kernel
theorem dX3_drained_7 : decode cX3_drained 7 = .ok (.ireturn, 1) := by decide +kernel
theorem dX3_thirds_0 : decode cX3_thirds 0 = .ok (.aload_n 0, 1) := by decide +kernel
theorem dX3_thirds_1 : decode cX3_thirds 1 = .ok (.getfield 10, 3) := by decide +kernel
theorem dX3_thirds_4 : decode cX3_thirds 4 = .ok (.aload_n 0, 1) := by decide +kernel
theorem dX3_thirds_5 : decode cX3_thirds 5 = .ok (.getfield 10, 3) := by decide +kernel
theorem dX3_thirds_8 : decode cX3_thirds 8 = .ok (.getfield 185, 3) := by decide +kernel
theorem dX3_thirds_11 : decode cX3_thirds 11 = .ok (.invokevirtual 271, 3) := by decide +kernel
theorem dX3_thirds_14 : decode cX3_thirds 14 = .ok (.ireturn, 1) := by decide +kernel
theorem dX3_chain_0 : decode cX3_chain 0 = .ok (.aload_n 0, 1) := by decide +kernel
theorem dX3_chain_1 : decode cX3_chain 1 = .ok (.getfield 10, 3) := by decide +kernel
theorem dX3_chain_4 : decode cX3_chain 4 = .ok (.iload_n 1, 1) := by decide +kernel
theorem dX3_chain_5 : decode cX3_chain 5 = .ok (.invokevirtual 179, 3) := by decide +kernel
theorem dX3_chain_8 : decode cX3_chain 8 = .ok (.ifCond .eq 14, 3) := by decide +kernel
theorem dX3_chain_11 : decode cX3_chain 11 = .ok (.aload_n 0, 1) := by decide +kernel
theorem dX3_chain_12 : decode cX3_chain 12 = .ok (.getfield 10, 3) := by decide +kernel
theorem dX3_chain_15 : decode cX3_chain 15 = .ok (.iload_n 1, 1) := by decide +kernel
theorem dX3_chain_16 : decode cX3_chain 16 = .ok (.invokevirtual 274, 3) := by decide +kernel
theorem dX3_chain_19 : decode cX3_chain 19 = .ok (.goto 9, 3) := by decide +kernel
theorem dX3_chain_22 : decode cX3_chain 22 = .ok (.aload_n 0, 1) := by decide +kernel
theorem dX3_chain_23 : decode cX3_chain 23 = .ok (.bipush (-2), 2) := by decide +kernel
theorem dX3_chain_25 : decode cX3_chain 25 = .ok (.invokevirtual 60, 3) := by decide +kernel
theorem dX3_chain_28 : decode cX3_chain 28 = .ok (.ireturn, 1) := by decide +kernel
theorem dX3_longest_0 : decode cX3_longest 0 = .ok (.iconst 0, 1) := by decide +kernel
theorem dX3_longest_1 : decode cX3_longest 1 = .ok (.istore_n 1, 1) := by decide +kernel
theorem dX3_longest_2 : decode cX3_longest 2 = .ok (.iconst 0, 1) := by decide +kernel
theorem dX3_longest_3 : decode cX3_longest 3 = .ok (.istore_n 2, 1) := by decide +kernel
theorem dX3_longest_4 : decode cX3_longest 4 = .ok (.iconst 0, 1) := by decide +kernel
theorem dX3_longest_5 : decode cX3_longest 5 = .ok (.istore_n 3, 1) := by decide +kernel
theorem dX3_longest_6 : decode cX3_longest 6 = .ok (.iload_n 3, 1) := by decide +kernel
theorem dX3_longest_7 : decode cX3_longest 7 = .ok (.aload_n 0, 1) := by decide +kernel
theorem dX3_longest_8 : decode cX3_longest 8 = .ok (.getfield 10, 3) := by decide +kernel
theorem dX3_longest_11 : decode cX3_longest 11 = .ok (.getfield 277, 3) := by decide +kernel
theorem dX3_longest_14 : decode cX3_longest 14 = .ok (.if_icmp .ge 30, 3) := by decide +kernel
theorem dX3_longest_17 : decode cX3_longest 17 = .ok (.aload_n 0, 1) := by decide +kernel
theorem dX3_longest_18 : decode cX3_longest 18 = .ok (.getfield 10, 3) := by decide +kernel
theorem dX3_longest_21 : decode cX3_longest 21 = .ok (.iload_n 3, 1) := by decide +kernel
theorem dX3_longest_22 : decode cX3_longest 22 = .ok (.invokevirtual 274, 3) := by decide +kernel
theorem dX3_longest_25 : decode cX3_longest 25 = .ok (.istore 4, 2) := by decide +kernel
theorem dX3_longest_27 : decode cX3_longest 27 = .ok (.iload 4, 2) := by decide +kernel
theorem dX3_longest_29 : decode cX3_longest 29 = .ok (.iload_n 2, 1) := by decide +kernel
theorem dX3_longest_30 : decode cX3_longest 30 = .ok (.if_icmp .le 8, 3) := by decide +kernel
theorem dX3_longest_33 : decode cX3_longest 33 = .ok (.iload 4, 2) := by decide +kernel
theorem dX3_longest_35 : decode cX3_longest 35 = .ok (.istore_n 2, 1) := by decide +kernel
theorem dX3_longest_36 : decode cX3_longest 36 = .ok (.iload_n 3, 1) := by decide +kernel
theorem dX3_longest_37 : decode cX3_longest 37 = .ok (.istore_n 1, 1) := by decide +kernel
theorem dX3_longest_38 : decode cX3_longest 38 = .ok (.iinc 3 1, 3) := by decide +kernel
theorem dX3_longest_41 : decode cX3_longest 41 = .ok (.goto (-35), 3) := by decide +kernel
theorem dX3_longest_44 : decode cX3_longest 44 = .ok (.iload_n 1, 1) := by decide +kernel
theorem dX3_longest_45 : decode cX3_longest 45 = .ok (.ireturn, 1) := by decide +kernel
theorem dX3_shuts_0 : decode cX3_shuts 0 = .ok (.aload_n 0, 1) := by decide +kernel
theorem dX3_shuts_1 : decode cX3_shuts 1 = .ok (.getfield 10, 3) := by decide +kernel
theorem dX3_shuts_4 : decode cX3_shuts 4 = .ok (.iload_n 1, 1) := by decide +kernel
theorem dX3_shuts_5 : decode cX3_shuts 5 = .ok (.invokevirtual 227, 3) := by decide +kernel
theorem dX3_shuts_8 : decode cX3_shuts 8 = .ok (.ifCond .ne 10, 3) := by decide +kernel
theorem dX3_shuts_11 : decode cX3_shuts 11 = .ok (.aload_n 0, 1) := by decide +kernel
theorem dX3_shuts_12 : decode cX3_shuts 12 = .ok (.bipush (-2), 2) := by decide +kernel
theorem dX3_shuts_14 : decode cX3_shuts 14 = .ok (.invokevirtual 60, 3) := by decide +kernel
theorem dX3_shuts_17 : decode cX3_shuts 17 = .ok (.ireturn, 1) := by decide +kernel
theorem dX3_shuts_18 : decode cX3_shuts 18 = .ok (.aload_n 0, 1) := by decide +kernel
theorem dX3_shuts_19 : decode cX3_shuts 19 = .ok (.getfield 10, 3) := by decide +kernel
theorem dX3_shuts_22 : decode cX3_shuts 22 = .ok (.iload_n 1, 1) := by decide +kernel
theorem dX3_shuts_23 : decode cX3_shuts 23 = .ok (.invokevirtual 230, 3) := by decide +kernel
theorem dX3_shuts_26 : decode cX3_shuts 26 = .ok (.ifCond .eq 10, 3) := by decide +kernel
theorem dX3_shuts_29 : decode cX3_shuts 29 = .ok (.aload_n 0, 1) := by decide +kernel
theorem dX3_shuts_30 : decode cX3_shuts 30 = .ok (.bipush (-5), 2) := by decide +kernel
theorem dX3_shuts_32 : decode cX3_shuts 32 = .ok (.invokevirtual 60, 3) := by decide +kernel
theorem dX3_shuts_35 : decode cX3_shuts 35 = .ok (.ireturn, 1) := by decide +kernel
theorem dX3_shuts_36 : decode cX3_shuts 36 = .ok (.aload_n 0, 1) := by decide +kernel
theorem dX3_shuts_37 : decode cX3_shuts 37 = .ok (.getfield 10, 3) := by decide +kernel
theorem dX3_shuts_40 : decode cX3_shuts 40 = .ok (.aload_n 0, 1) := by decide +kernel
theorem dX3_shuts_41 : decode cX3_shuts 41 = .ok (.getfield 10, 3) := by decide +kernel
theorem dX3_shuts_44 : decode cX3_shuts 44 = .ok (.getfield 185, 3) := by decide +kernel
theorem dX3_shuts_47 : decode cX3_shuts 47 = .ok (.lconst 1, 1) := by decide +kernel
theorem dX3_shuts_48 : decode cX3_shuts 48 = .ok (.iload_n 1, 1) := by decide +kernel
theorem dX3_shuts_49 : decode cX3_shuts 49 = .ok (.lshl, 1) := by decide +kernel
theorem dX3_shuts_50 : decode cX3_shuts 50 = .ok (.lor, 1) := by decide +kernel
theorem dX3_shuts_51 : decode cX3_shuts 51 = .ok (.invokevirtual 280, 3) := by decide +kernel
theorem dX3_shuts_54 : decode cX3_shuts 54 = .ok (.aload_n 0, 1) := by decide +kernel
theorem dX3_shuts_55 : decode cX3_shuts 55 = .ok (.getfield 10, 3) := by decide +kernel
theorem dX3_shuts_58 : decode cX3_shuts 58 = .ok (.invokevirtual 283, 3) := by decide +kernel
theorem dX3_shuts_61 : decode cX3_shuts 61 = .ok (.iconst (-1), 1) := by decide +kernel
theorem dX3_shuts_62 : decode cX3_shuts 62 = .ok (.ixor, 1) := by decide +kernel
theorem dX3_shuts_63 : decode cX3_shuts 63 = .ok (.iand, 1) := by decide +kernel
theorem dX3_shuts_64 : decode cX3_shuts 64 = .ok (.invokestatic 286, 3) := by decide +kernel
theorem dX3_shuts_67 : decode cX3_shuts 67 = .ok (.ireturn, 1) := by decide +kernel
theorem dX3_calm_0 : decode cX3_calm 0 = .ok (.aload_n 0, 1) := by decide +kernel
theorem dX3_calm_1 : decode cX3_calm 1 = .ok (.getfield 10, 3) := by decide +kernel
theorem dX3_calm_4 : decode cX3_calm 4 = .ok (.invokevirtual 290, 3) := by decide +kernel
theorem dX3_calm_7 : decode cX3_calm 7 = .ok (.invokestatic 131, 3) := by decide +kernel
theorem dX3_calm_10 : decode cX3_calm 10 = .ok (.ireturn, 1) := by decide +kernel
theorem dX3_part_0 : decode cX3_part 0 = .ok (.aload_n 0, 1) := by decide +kernel
theorem dX3_part_1 : decode cX3_part 1 = .ok (.getfield 10, 3) := by decide +kernel
theorem dX3_part_4 : decode cX3_part 4 = .ok (.iload_n 1, 1) := by decide +kernel
theorem dX3_part_5 : decode cX3_part 5 = .ok (.invokevirtual 179, 3) := by decide +kernel
theorem dX3_part_8 : decode cX3_part 8 = .ok (.ifCond .eq 30, 3) := by decide +kernel
theorem dX3_part_11 : decode cX3_part 11 = .ok (.aload_n 0, 1) := by decide +kernel
theorem dX3_part_12 : decode cX3_part 12 = .ok (.getfield 10, 3) := by decide +kernel
theorem dX3_part_15 : decode cX3_part 15 = .ok (.iconst 1, 1) := by decide +kernel
theorem dX3_part_16 : decode cX3_part 16 = .ok (.iload_n 1, 1) := by decide +kernel
theorem dX3_part_17 : decode cX3_part 17 = .ok (.ishl, 1) := by decide +kernel
theorem dX3_part_18 : decode cX3_part 18 = .ok (.aload_n 0, 1) := by decide +kernel
theorem dX3_part_19 : decode cX3_part 19 = .ok (.getfield 10, 3) := by decide +kernel
theorem dX3_part_22 : decode cX3_part 22 = .ok (.getfield 293, 3) := by decide +kernel
theorem dX3_part_25 : decode cX3_part 25 = .ok (.aload_n 0, 1) := by decide +kernel
theorem dX3_part_26 : decode cX3_part 26 = .ok (.getfield 10, 3) := by decide +kernel
theorem dX3_part_29 : decode cX3_part 29 = .ok (.getfield 185, 3) := by decide +kernel
theorem dX3_part_32 : decode cX3_part 32 = .ok (.invokevirtual 264, 3) := by decide +kernel
theorem dX3_part_35 : decode cX3_part 35 = .ok (.goto 9, 3) := by decide +kernel
theorem dX3_part_38 : decode cX3_part 38 = .ok (.aload_n 0, 1) := by decide +kernel
theorem dX3_part_39 : decode cX3_part 39 = .ok (.bipush (-2), 2) := by decide +kernel
theorem dX3_part_41 : decode cX3_part 41 = .ok (.invokevirtual 60, 3) := by decide +kernel
theorem dX3_part_44 : decode cX3_part 44 = .ok (.ireturn, 1) := by decide +kernel
theorem dX3_parts_0 : decode cX3_parts 0 = .ok (.aload_n 0, 1) := by decide +kernel
theorem dX3_parts_1 : decode cX3_parts 1 = .ok (.getfield 10, 3) := by decide +kernel
theorem dX3_parts_4 : decode cX3_parts 4 = .ok (.aload_n 0, 1) := by decide +kernel
theorem dX3_parts_5 : decode cX3_parts 5 = .ok (.getfield 10, 3) := by decide +kernel
theorem dX3_parts_8 : decode cX3_parts 8 = .ok (.getfield 293, 3) := by decide +kernel
theorem dX3_parts_11 : decode cX3_parts 11 = .ok (.aload_n 0, 1) := by decide +kernel
theorem dX3_parts_12 : decode cX3_parts 12 = .ok (.getfield 10, 3) := by decide +kernel
theorem dX3_parts_15 : decode cX3_parts 15 = .ok (.getfield 185, 3) := by decide +kernel
theorem dX3_parts_18 : decode cX3_parts 18 = .ok (.invokevirtual 296, 3) := by decide +kernel
theorem dX3_parts_21 : decode cX3_parts 21 = .ok (.ireturn, 1) := by decide +kernel
theorem dX3_ditches_0 : decode cX3_ditches 0 = .ok (.aload_n 0, 1) := by decide +kernel
theorem dX3_ditches_1 : decode cX3_ditches 1 = .ok (.getfield 10, 3) := by decide +kernel
theorem dX3_ditches_4 : decode cX3_ditches 4 = .ok (.aload_n 0, 1) := by decide +kernel
theorem dX3_ditches_5 : decode cX3_ditches 5 = .ok (.getfield 10, 3) := by decide +kernel
theorem dX3_ditches_8 : decode cX3_ditches 8 = .ok (.getfield 189, 3) := by decide +kernel
theorem dX3_ditches_11 : decode cX3_ditches 11 = .ok (.lconst 0, 1) := by decide +kernel
theorem dX3_ditches_12 : decode cX3_ditches 12 = .ok (.invokevirtual 296, 3) := by decide +kernel
theorem dX3_ditches_15 : decode cX3_ditches 15 = .ok (.ireturn, 1) := by decide +kernel
theorem dX3_owned_0 : decode cX3_owned 0 = .ok (.iload_n 1, 1) := by decide +kernel
theorem dX3_owned_1 : decode cX3_owned 1 = .ok (.invokestatic 153, 3) := by decide +kernel
theorem dX3_owned_4 : decode cX3_owned 4 = .ok (.ifCond .eq 14, 3) := by decide +kernel
theorem dX3_owned_7 : decode cX3_owned 7 = .ok (.aload_n 0, 1) := by decide +kernel
theorem dX3_owned_8 : decode cX3_owned 8 = .ok (.getfield 10, 3) := by decide +kernel
theorem dX3_owned_11 : decode cX3_owned 11 = .ok (.iload_n 1, 1) := by decide +kernel
theorem dX3_owned_12 : decode cX3_owned 12 = .ok (.invokevirtual 300, 3) := by decide +kernel
theorem dX3_owned_15 : decode cX3_owned 15 = .ok (.goto 9, 3) := by decide +kernel
theorem dX3_owned_18 : decode cX3_owned 18 = .ok (.aload_n 0, 1) := by decide +kernel
theorem dX3_owned_19 : decode cX3_owned 19 = .ok (.bipush (-2), 2) := by decide +kernel
theorem dX3_owned_21 : decode cX3_owned 21 = .ok (.invokevirtual 60, 3) := by decide +kernel
theorem dX3_owned_24 : decode cX3_owned 24 = .ok (.ireturn, 1) := by decide +kernel
theorem dX3_coloured_0 : decode cX3_coloured 0 = .ok (.iload_n 1, 1) := by decide +kernel
theorem dX3_coloured_1 : decode cX3_coloured 1 = .ok (.invokestatic 153, 3) := by decide +kernel
theorem dX3_coloured_4 : decode cX3_coloured 4 = .ok (.ifCond .eq 14, 3) := by decide +kernel
theorem dX3_coloured_7 : decode cX3_coloured 7 = .ok (.aload_n 0, 1) := by decide +kernel
theorem dX3_coloured_8 : decode cX3_coloured 8 = .ok (.getfield 10, 3) := by decide +kernel
theorem dX3_coloured_11 : decode cX3_coloured 11 = .ok (.iload_n 1, 1) := by decide +kernel
theorem dX3_coloured_12 : decode cX3_coloured 12 = .ok (.invokevirtual 206, 3) := by decide +kernel
theorem dX3_coloured_15 : decode cX3_coloured 15 = .ok (.goto 9, 3) := by decide +kernel
theorem dX3_coloured_18 : decode cX3_coloured 18 = .ok (.aload_n 0, 1) := by decide +kernel
theorem dX3_coloured_19 : decode cX3_coloured 19 = .ok (.bipush (-2), 2) := by decide +kernel
theorem dX3_coloured_21 : decode cX3_coloured 21 = .ok (.invokevirtual 60, 3) := by decide +kernel
theorem dX3_coloured_24 : decode cX3_coloured 24 = .ok (.ireturn, 1) := by decide +kernel
theorem dX3_gives_0 : decode cX3_gives 0 = .ok (.aload_n 0, 1) := by decide +kernel
theorem dX3_gives_1 : decode cX3_gives 1 = .ok (.getfield 10, 3) := by decide +kernel
theorem dX3_gives_4 : decode cX3_gives 4 = .ok (.iload_n 1, 1) := by decide +kernel
theorem dX3_gives_5 : decode cX3_gives 5 = .ok (.invokevirtual 227, 3) := by decide +kernel
theorem dX3_gives_8 : decode cX3_gives 8 = .ok (.ifCond .ne 10, 3) := by decide +kernel
theorem dX3_gives_11 : decode cX3_gives 11 = .ok (.aload_n 0, 1) := by decide +kernel
theorem dX3_gives_12 : decode cX3_gives 12 = .ok (.bipush (-2), 2) := by decide +kernel
theorem dX3_gives_14 : decode cX3_gives 14 = .ok (.invokevirtual 60, 3) := by decide +kernel
theorem dX3_gives_17 : decode cX3_gives 17 = .ok (.ireturn, 1) := by decide +kernel
theorem dX3_gives_18 : decode cX3_gives 18 = .ok (.aload_n 0, 1) := by decide +kernel
theorem dX3_gives_19 : decode cX3_gives 19 = .ok (.getfield 10, 3) := by decide +kernel
theorem dX3_gives_22 : decode cX3_gives 22 = .ok (.iload_n 1, 1) := by decide +kernel
theorem dX3_gives_23 : decode cX3_gives 23 = .ok (.invokevirtual 230, 3) := by decide +kernel
theorem dX3_gives_26 : decode cX3_gives 26 = .ok (.ifCond .eq 10, 3) := by decide +kernel
theorem dX3_gives_29 : decode cX3_gives 29 = .ok (.aload_n 0, 1) := by decide +kernel
theorem dX3_gives_30 : decode cX3_gives 30 = .ok (.bipush (-5), 2) := by decide +kernel
theorem dX3_gives_32 : decode cX3_gives 32 = .ok (.invokevirtual 60, 3) := by decide +kernel
theorem dX3_gives_35 : decode cX3_gives 35 = .ok (.ireturn, 1) := by decide +kernel
theorem dX3_gives_36 : decode cX3_gives 36 = .ok (.aload_n 0, 1) := by decide +kernel
theorem dX3_gives_37 : decode cX3_gives 37 = .ok (.getfield 10, 3) := by decide +kernel
theorem dX3_gives_40 : decode cX3_gives 40 = .ok (.aload_n 0, 1) := by decide +kernel
theorem dX3_gives_41 : decode cX3_gives 41 = .ok (.getfield 10, 3) := by decide +kernel
theorem dX3_gives_44 : decode cX3_gives 44 = .ok (.getfield 185, 3) := by decide +kernel
theorem dX3_gives_47 : decode cX3_gives 47 = .ok (.lconst 1, 1) := by decide +kernel
theorem dX3_gives_48 : decode cX3_gives 48 = .ok (.iload_n 1, 1) := by decide +kernel
theorem dX3_gives_49 : decode cX3_gives 49 = .ok (.lshl, 1) := by decide +kernel
theorem dX3_gives_50 : decode cX3_gives 50 = .ok (.lor, 1) := by decide +kernel
theorem dX3_gives_51 : decode cX3_gives 51 = .ok (.invokevirtual 271, 3) := by decide +kernel
theorem dX3_gives_54 : decode cX3_gives 54 = .ok (.aload_n 0, 1) := by decide +kernel
theorem dX3_gives_55 : decode cX3_gives 55 = .ok (.getfield 10, 3) := by decide +kernel
theorem dX3_gives_58 : decode cX3_gives 58 = .ok (.aload_n 0, 1) := by decide +kernel
theorem dX3_gives_59 : decode cX3_gives 59 = .ok (.getfield 10, 3) := by decide +kernel
theorem dX3_gives_62 : decode cX3_gives 62 = .ok (.getfield 185, 3) := by decide +kernel
theorem dX3_gives_65 : decode cX3_gives 65 = .ok (.invokevirtual 271, 3) := by decide +kernel
theorem dX3_gives_68 : decode cX3_gives 68 = .ok (.iconst (-1), 1) := by decide +kernel
theorem dX3_gives_69 : decode cX3_gives 69 = .ok (.ixor, 1) := by decide +kernel
theorem dX3_gives_70 : decode cX3_gives 70 = .ok (.iand, 1) := by decide +kernel
theorem dX3_gives_71 : decode cX3_gives 71 = .ok (.invokestatic 286, 3) := by decide +kernel
theorem dX3_gives_74 : decode cX3_gives 74 = .ok (.ireturn, 1) := by decide +kernel
theorem dX3_gaps_0 : decode cX3_gaps 0 = .ok (.aload_n 0, 1) := by decide +kernel
theorem dX3_gaps_1 : decode cX3_gaps 1 = .ok (.getfield 10, 3) := by decide +kernel
theorem dX3_gaps_4 : decode cX3_gaps 4 = .ok (.getfield 221, 3) := by decide +kernel
theorem dX3_gaps_7 : decode cX3_gaps 7 = .ok (.aload_n 0, 1) := by decide +kernel
theorem dX3_gaps_8 : decode cX3_gaps 8 = .ok (.getfield 10, 3) := by decide +kernel
theorem dX3_gaps_11 : decode cX3_gaps 11 = .ok (.getfield 185, 3) := by decide +kernel
theorem dX3_gaps_14 : decode cX3_gaps 14 = .ok (.ldc2_w 303, 3) := by decide +kernel
theorem dX3_gaps_17 : decode cX3_gaps 17 = .ok (.lxor, 1) := by decide +kernel
theorem dX3_gaps_18 : decode cX3_gaps 18 = .ok (.land, 1) := by decide +kernel
theorem dX3_gaps_19 : decode cX3_gaps 19 = .ok (.invokestatic 131, 3) := by decide +kernel
theorem dX3_gaps_22 : decode cX3_gaps 22 = .ok (.ireturn, 1) := by decide +kernel
theorem dX3_rim_0 : decode cX3_rim 0 = .ok (.aload_n 0, 1) := by decide +kernel
theorem dX3_rim_1 : decode cX3_rim 1 = .ok (.getfield 10, 3) := by decide +kernel
theorem dX3_rim_4 : decode cX3_rim 4 = .ok (.aload_n 0, 1) := by decide +kernel
theorem dX3_rim_5 : decode cX3_rim 5 = .ok (.getfield 10, 3) := by decide +kernel
theorem dX3_rim_8 : decode cX3_rim 8 = .ok (.getfield 221, 3) := by decide +kernel
theorem dX3_rim_11 : decode cX3_rim 11 = .ok (.invokevirtual 224, 3) := by decide +kernel
theorem dX3_rim_14 : decode cX3_rim 14 = .ok (.ireturn, 1) := by decide +kernel
theorem dX3_leader_0 : decode cX3_leader 0 = .ok (.aload_n 0, 1) := by decide +kernel
theorem dX3_leader_1 : decode cX3_leader 1 = .ok (.getfield 10, 3) := by decide +kernel
theorem dX3_leader_4 : decode cX3_leader 4 = .ok (.iconst 0, 1) := by decide +kernel
theorem dX3_leader_5 : decode cX3_leader 5 = .ok (.invokevirtual 255, 3) := by decide +kernel
theorem dX3_leader_8 : decode cX3_leader 8 = .ok (.istore_n 1, 1) := by decide +kernel
theorem dX3_leader_9 : decode cX3_leader 9 = .ok (.iload_n 1, 1) := by decide +kernel
theorem dX3_leader_10 : decode cX3_leader 10 = .ok (.ifCond .ne 5, 3) := by decide +kernel
theorem dX3_leader_13 : decode cX3_leader 13 = .ok (.iconst (-1), 1) := by decide +kernel
theorem dX3_leader_14 : decode cX3_leader 14 = .ok (.ireturn, 1) := by decide +kernel
theorem dX3_leader_15 : decode cX3_leader 15 = .ok (.iload_n 1, 1) := by decide +kernel
theorem dX3_leader_16 : decode cX3_leader 16 = .ok (.ifCond .le 7, 3) := by decide +kernel
theorem dX3_leader_19 : decode cX3_leader 19 = .ok (.iconst 0, 1) := by decide +kernel
theorem dX3_leader_20 : decode cX3_leader 20 = .ok (.goto 4, 3) := by decide +kernel
theorem dX3_leader_23 : decode cX3_leader 23 = .ok (.iconst 1, 1) := by decide +kernel
theorem dX3_leader_24 : decode cX3_leader 24 = .ok (.ireturn, 1) := by decide +kernel
theorem dX3_bare_0 : decode cX3_bare 0 = .ok (.aload_n 0, 1) := by decide +kernel
theorem dX3_bare_1 : decode cX3_bare 1 = .ok (.getfield 10, 3) := by decide +kernel
theorem dX3_bare_4 : decode cX3_bare 4 = .ok (.getfield 293, 3) := by decide +kernel
theorem dX3_bare_7 : decode cX3_bare 7 = .ok (.aload_n 0, 1) := by decide +kernel
theorem dX3_bare_8 : decode cX3_bare 8 = .ok (.getfield 10, 3) := by decide +kernel
theorem dX3_bare_11 : decode cX3_bare 11 = .ok (.aload_n 0, 1) := by decide +kernel
theorem dX3_bare_12 : decode cX3_bare 12 = .ok (.getfield 10, 3) := by decide +kernel
theorem dX3_bare_15 : decode cX3_bare 15 = .ok (.getfield 185, 3) := by decide +kernel
theorem dX3_bare_18 : decode cX3_bare 18 = .ok (.invokevirtual 224, 3) := by decide +kernel
theorem dX3_bare_21 : decode cX3_bare 21 = .ok (.iconst (-1), 1) := by decide +kernel
theorem dX3_bare_22 : decode cX3_bare 22 = .ok (.ixor, 1) := by decide +kernel
theorem dX3_bare_23 : decode cX3_bare 23 = .ok (.iand, 1) := by decide +kernel
theorem dX3_bare_24 : decode cX3_bare 24 = .ok (.ireturn, 1) := by decide +kernel
theorem dX3_soft_0 : decode cX3_soft 0 = .ok (.aload_n 0, 1) := by decide +kernel
theorem dX3_soft_1 : decode cX3_soft 1 = .ok (.getfield 10, 3) := by decide +kernel
theorem dX3_soft_4 : decode cX3_soft 4 = .ok (.invokevirtual 305, 3) := by decide +kernel
theorem dX3_soft_7 : decode cX3_soft 7 = .ok (.ireturn, 1) := by decide +kernel
theorem dX3_after_0 : decode cX3_after 0 = .ok (.aload_n 0, 1) := by decide +kernel
theorem dX3_after_1 : decode cX3_after 1 = .ok (.getfield 10, 3) := by decide +kernel
theorem dX3_after_4 : decode cX3_after 4 = .ok (.iload_n 1, 1) := by decide +kernel
theorem dX3_after_5 : decode cX3_after 5 = .ok (.invokevirtual 239, 3) := by decide +kernel
theorem dX3_after_8 : decode cX3_after 8 = .ok (.istore_n 2, 1) := by decide +kernel
theorem dX3_after_9 : decode cX3_after 9 = .ok (.iload_n 2, 1) := by decide +kernel
theorem dX3_after_10 : decode cX3_after 10 = .ok (.iconst (-1), 1) := by decide +kernel
theorem dX3_after_11 : decode cX3_after 11 = .ok (.if_icmp .ne 10, 3) := by decide +kernel
theorem dX3_after_14 : decode cX3_after 14 = .ok (.aload_n 0, 1) := by decide +kernel
theorem dX3_after_15 : decode cX3_after 15 = .ok (.bipush (-2), 2) := by decide +kernel
theorem dX3_after_17 : decode cX3_after 17 = .ok (.invokevirtual 258, 3) := by decide +kernel
theorem dX3_after_20 : decode cX3_after 20 = .ok (.ireturn, 1) := by decide +kernel
theorem dX3_after_21 : decode cX3_after 21 = .ok (.aload_n 0, 1) := by decide +kernel
theorem dX3_after_22 : decode cX3_after 22 = .ok (.getfield 10, 3) := by decide +kernel
theorem dX3_after_25 : decode cX3_after 25 = .ok (.iload_n 2, 1) := by decide +kernel
theorem dX3_after_26 : decode cX3_after 26 = .ok (.invokevirtual 242, 3) := by decide +kernel
theorem dX3_after_29 : decode cX3_after 29 = .ok (.ifCond .eq 10, 3) := by decide +kernel
theorem dX3_after_32 : decode cX3_after 32 = .ok (.aload_n 0, 1) := by decide +kernel
theorem dX3_after_33 : decode cX3_after 33 = .ok (.invokevirtual 308, 3) := by decide +kernel
theorem dX3_after_36 : decode cX3_after 36 = .ok (.ifCond .ne 10, 3) := by decide +kernel
theorem dX3_after_39 : decode cX3_after 39 = .ok (.aload_n 0, 1) := by decide +kernel
theorem dX3_after_40 : decode cX3_after 40 = .ok (.bipush (-5), 2) := by decide +kernel
theorem dX3_after_42 : decode cX3_after 42 = .ok (.invokevirtual 258, 3) := by decide +kernel
theorem dX3_after_45 : decode cX3_after 45 = .ok (.ireturn, 1) := by decide +kernel
theorem dX3_after_46 : decode cX3_after 46 = .ok (.aload_n 0, 1) := by decide +kernel
theorem dX3_after_47 : decode cX3_after 47 = .ok (.getfield 16, 3) := by decide +kernel
theorem dX3_after_50 : decode cX3_after 50 = .ok (.aload_n 0, 1) := by decide +kernel
theorem dX3_after_51 : decode cX3_after 51 = .ok (.getfield 10, 3) := by decide +kernel
theorem dX3_after_54 : decode cX3_after 54 = .ok (.invokevirtual 165, 3) := by decide +kernel
theorem dX3_after_57 : decode cX3_after 57 = .ok (.aload_n 0, 1) := by decide +kernel
theorem dX3_after_58 : decode cX3_after 58 = .ok (.getfield 16, 3) := by decide +kernel
theorem dX3_after_61 : decode cX3_after 61 = .ok (.iload_n 2, 1) := by decide +kernel
theorem dX3_after_62 : decode cX3_after 62 = .ok (.invokevirtual 311, 3) := by decide +kernel
theorem dX3_after_65 : decode cX3_after 65 = .ok (.aload_n 0, 1) := by decide +kernel
theorem dX3_after_66 : decode cX3_after 66 = .ok (.getfield 16, 3) := by decide +kernel
theorem dX3_after_69 : decode cX3_after 69 = .ok (.bipush (-100), 2) := by decide +kernel
theorem dX3_after_71 : decode cX3_after 71 = .ok (.bipush 100, 2) := by decide +kernel
theorem dX3_after_73 : decode cX3_after 73 = .ok (.bipush 6, 2) := by decide +kernel
theorem dX3_after_75 : decode cX3_after 75 = .ok (.invokestatic 314, 3) := by decide +kernel
theorem dX3_after_78 : decode cX3_after 78 = .ok (.ineg, 1) := by decide +kernel
theorem dX3_after_79 : decode cX3_after 79 = .ok (.ireturn, 1) := by decide +kernel
theorem dX3_best_0 : decode cX3_best 0 = .ok (.aload_n 0, 1) := by decide +kernel
theorem dX3_best_1 : decode cX3_best 1 = .ok (.invokevirtual 308, 3) := by decide +kernel
theorem dX3_best_4 : decode cX3_best 4 = .ok (.ifCond .ne 10, 3) := by decide +kernel
theorem dX3_best_7 : decode cX3_best 7 = .ok (.aload_n 0, 1) := by decide +kernel
theorem dX3_best_8 : decode cX3_best 8 = .ok (.bipush (-5), 2) := by decide +kernel
theorem dX3_best_10 : decode cX3_best 10 = .ok (.invokevirtual 60, 3) := by decide +kernel
theorem dX3_best_13 : decode cX3_best 13 = .ok (.ireturn, 1) := by decide +kernel
theorem dX3_best_14 : decode cX3_best 14 = .ok (.aload_n 0, 1) := by decide +kernel
theorem dX3_best_15 : decode cX3_best 15 = .ok (.getfield 10, 3) := by decide +kernel
theorem dX3_best_18 : decode cX3_best 18 = .ok (.invokevirtual 127, 3) := by decide +kernel
theorem dX3_best_21 : decode cX3_best 21 = .ok (.lstore_n 1, 1) := by decide +kernel
theorem dX3_best_22 : decode cX3_best 22 = .ok (.iconst (-1), 1) := by decide +kernel
theorem dX3_best_23 : decode cX3_best 23 = .ok (.istore_n 3, 1) := by decide +kernel
theorem dX3_best_24 : decode cX3_best 24 = .ok (.bipush (-100), 2) := by decide +kernel
theorem dX3_best_26 : decode cX3_best 26 = .ok (.istore 4, 2) := by decide +kernel
theorem dX3_best_28 : decode cX3_best 28 = .ok (.iconst 0, 1) := by decide +kernel
theorem dX3_best_29 : decode cX3_best 29 = .ok (.istore 5, 2) := by decide +kernel
theorem dX3_best_31 : decode cX3_best 31 = .ok (.iload 5, 2) := by decide +kernel
theorem dX3_best_33 : decode cX3_best 33 = .ok (.bipush 7, 2) := by decide +kernel
theorem dX3_best_35 : decode cX3_best 35 = .ok (.if_icmp .ge 78, 3) := by decide +kernel
theorem dX3_best_38 : decode cX3_best 38 = .ok (.lload_n 1, 1) := by decide +kernel
theorem dX3_best_39 : decode cX3_best 39 = .ok (.lconst 0, 1) := by decide +kernel
theorem dX3_best_40 : decode cX3_best 40 = .ok (.lcmp, 1) := by decide +kernel
theorem dX3_best_41 : decode cX3_best 41 = .ok (.ifCond .eq 72, 3) := by decide +kernel
theorem dX3_best_44 : decode cX3_best 44 = .ok (.lload_n 1, 1) := by decide +kernel
theorem dX3_best_45 : decode cX3_best 45 = .ok (.invokestatic 318, 3) := by decide +kernel
theorem dX3_best_48 : decode cX3_best 48 = .ok (.istore 6, 2) := by decide +kernel
theorem dX3_best_50 : decode cX3_best 50 = .ok (.lload_n 1, 1) := by decide +kernel
theorem dX3_best_51 : decode cX3_best 51 = .ok (.lload_n 1, 1) := by decide +kernel
theorem dX3_best_52 : decode cX3_best 52 = .ok (.lconst 1, 1) := by decide +kernel
theorem dX3_best_53 : decode cX3_best 53 = .ok (.lsub, 1) := by decide +kernel
theorem dX3_best_54 : decode cX3_best 54 = .ok (.land, 1) := by decide +kernel
theorem dX3_best_55 : decode cX3_best 55 = .ok (.lstore_n 1, 1) := by decide +kernel
theorem dX3_best_56 : decode cX3_best 56 = .ok (.aload_n 0, 1) := by decide +kernel
theorem dX3_best_57 : decode cX3_best 57 = .ok (.getfield 16, 3) := by decide +kernel
theorem dX3_best_60 : decode cX3_best 60 = .ok (.aload_n 0, 1) := by decide +kernel
theorem dX3_best_61 : decode cX3_best 61 = .ok (.getfield 10, 3) := by decide +kernel
theorem dX3_best_64 : decode cX3_best 64 = .ok (.invokevirtual 165, 3) := by decide +kernel
theorem dX3_best_67 : decode cX3_best 67 = .ok (.aload_n 0, 1) := by decide +kernel
theorem dX3_best_68 : decode cX3_best 68 = .ok (.getfield 16, 3) := by decide +kernel
theorem dX3_best_71 : decode cX3_best 71 = .ok (.iload 6, 2) := by decide +kernel
theorem dX3_best_73 : decode cX3_best 73 = .ok (.invokevirtual 311, 3) := by decide +kernel
theorem dX3_best_76 : decode cX3_best 76 = .ok (.aload_n 0, 1) := by decide +kernel
theorem dX3_best_77 : decode cX3_best 77 = .ok (.getfield 16, 3) := by decide +kernel
theorem dX3_best_80 : decode cX3_best 80 = .ok (.bipush (-100), 2) := by decide +kernel
theorem dX3_best_82 : decode cX3_best 82 = .ok (.iload 4, 2) := by decide +kernel
theorem dX3_best_84 : decode cX3_best 84 = .ok (.ineg, 1) := by decide +kernel
theorem dX3_best_85 : decode cX3_best 85 = .ok (.bipush 6, 2) := by decide +kernel
theorem dX3_best_87 : decode cX3_best 87 = .ok (.invokestatic 314, 3) := by decide +kernel
theorem dX3_best_90 : decode cX3_best 90 = .ok (.ineg, 1) := by decide +kernel
theorem dX3_best_91 : decode cX3_best 91 = .ok (.istore 7, 2) := by decide +kernel
theorem dX3_best_93 : decode cX3_best 93 = .ok (.iload 7, 2) := by decide +kernel
theorem dX3_best_95 : decode cX3_best 95 = .ok (.iload 4, 2) := by decide +kernel
theorem dX3_best_97 : decode cX3_best 97 = .ok (.if_icmp .le 10, 3) := by decide +kernel
theorem dX3_best_100 : decode cX3_best 100 = .ok (.iload 7, 2) := by decide +kernel
theorem dX3_best_102 : decode cX3_best 102 = .ok (.istore 4, 2) := by decide +kernel
theorem dX3_best_104 : decode cX3_best 104 = .ok (.iload 6, 2) := by decide +kernel
theorem dX3_best_106 : decode cX3_best 106 = .ok (.istore_n 3, 1) := by decide +kernel
theorem dX3_best_107 : decode cX3_best 107 = .ok (.iinc 5 1, 3) := by decide +kernel
theorem dX3_best_110 : decode cX3_best 110 = .ok (.goto (-79), 3) := by decide +kernel
theorem dX3_best_113 : decode cX3_best 113 = .ok (.iload_n 3, 1) := by decide +kernel
theorem dX3_best_114 : decode cX3_best 114 = .ok (.invokestatic 249, 3) := by decide +kernel
theorem dX3_best_117 : decode cX3_best 117 = .ok (.ireturn, 1) := by decide +kernel
theorem dX3_worth_0 : decode cX3_worth 0 = .ok (.aload_n 0, 1) := by decide +kernel
theorem dX3_worth_1 : decode cX3_worth 1 = .ok (.invokevirtual 308, 3) := by decide +kernel
theorem dX3_worth_4 : decode cX3_worth 4 = .ok (.ifCond .ne 10, 3) := by decide +kernel
theorem dX3_worth_7 : decode cX3_worth 7 = .ok (.aload_n 0, 1) := by decide +kernel
theorem dX3_worth_8 : decode cX3_worth 8 = .ok (.bipush (-5), 2) := by decide +kernel
theorem dX3_worth_10 : decode cX3_worth 10 = .ok (.invokevirtual 258, 3) := by decide +kernel
theorem dX3_worth_13 : decode cX3_worth 13 = .ok (.ireturn, 1) := by decide +kernel
theorem dX3_worth_14 : decode cX3_worth 14 = .ok (.aload_n 0, 1) := by decide +kernel
theorem dX3_worth_15 : decode cX3_worth 15 = .ok (.getfield 16, 3) := by decide +kernel
theorem dX3_worth_18 : decode cX3_worth 18 = .ok (.aload_n 0, 1) := by decide +kernel
theorem dX3_worth_19 : decode cX3_worth 19 = .ok (.getfield 10, 3) := by decide +kernel
theorem dX3_worth_22 : decode cX3_worth 22 = .ok (.invokevirtual 165, 3) := by decide +kernel
theorem dX3_worth_25 : decode cX3_worth 25 = .ok (.aload_n 0, 1) := by decide +kernel
theorem dX3_worth_26 : decode cX3_worth 26 = .ok (.getfield 16, 3) := by decide +kernel
theorem dX3_worth_29 : decode cX3_worth 29 = .ok (.bipush (-100), 2) := by decide +kernel
theorem dX3_worth_31 : decode cX3_worth 31 = .ok (.bipush 100, 2) := by decide +kernel
theorem dX3_worth_33 : decode cX3_worth 33 = .ok (.bipush 7, 2) := by decide +kernel
theorem dX3_worth_35 : decode cX3_worth 35 = .ok (.invokestatic 314, 3) := by decide +kernel
theorem dX3_worth_38 : decode cX3_worth 38 = .ok (.ireturn, 1) := by decide +kernel
theorem dX3_choice_0 : decode cX3_choice 0 = .ok (.aload_n 0, 1) := by decide +kernel
theorem dX3_choice_1 : decode cX3_choice 1 = .ok (.iload_n 1, 1) := by decide +kernel
theorem dX3_choice_2 : decode cX3_choice 2 = .ok (.invokevirtual 108, 3) := by decide +kernel
theorem dX3_choice_5 : decode cX3_choice 5 = .ok (.ifCond .eq 11, 3) := by decide +kernel
theorem dX3_choice_8 : decode cX3_choice 8 = .ok (.aload_n 0, 1) := by decide +kernel
theorem dX3_choice_9 : decode cX3_choice 9 = .ok (.iload_n 1, 1) := by decide +kernel
theorem dX3_choice_10 : decode cX3_choice 10 = .ok (.invokevirtual 137, 3) := by decide +kernel
theorem dX3_choice_13 : decode cX3_choice 13 = .ok (.goto 9, 3) := by decide +kernel
theorem dX3_choice_16 : decode cX3_choice 16 = .ok (.aload_n 0, 1) := by decide +kernel
theorem dX3_choice_17 : decode cX3_choice 17 = .ok (.bipush (-2), 2) := by decide +kernel
theorem dX3_choice_19 : decode cX3_choice 19 = .ok (.invokevirtual 60, 3) := by decide +kernel
theorem dX3_choice_22 : decode cX3_choice 22 = .ok (.ireturn, 1) := by decide +kernel
theorem dX3_played_0 : decode cX3_played 0 = .ok (.aload_n 0, 1) := by decide +kernel
theorem dX3_played_1 : decode cX3_played 1 = .ok (.iload_n 1, 1) := by decide +kernel
theorem dX3_played_2 : decode cX3_played 2 = .ok (.invokevirtual 108, 3) := by decide +kernel
theorem dX3_played_5 : decode cX3_played 5 = .ok (.ifCond .eq 20, 3) := by decide +kernel
theorem dX3_played_8 : decode cX3_played 8 = .ok (.aload_n 0, 1) := by decide +kernel
theorem dX3_played_9 : decode cX3_played 9 = .ok (.iload_n 2, 1) := by decide +kernel
theorem dX3_played_10 : decode cX3_played 10 = .ok (.invokevirtual 108, 3) := by decide +kernel
theorem dX3_played_13 : decode cX3_played 13 = .ok (.ifCond .eq 12, 3) := by decide +kernel
theorem dX3_played_16 : decode cX3_played 16 = .ok (.iload_n 3, 1) := by decide +kernel
theorem dX3_played_17 : decode cX3_played 17 = .ok (.ifCond .lt 8, 3) := by decide +kernel
theorem dX3_played_20 : decode cX3_played 20 = .ok (.iload_n 3, 1) := by decide +kernel
theorem dX3_played_21 : decode cX3_played 21 = .ok (.iconst 2, 1) := by decide +kernel
theorem dX3_played_22 : decode cX3_played 22 = .ok (.if_icmp .le 10, 3) := by decide +kernel
theorem dX3_played_25 : decode cX3_played 25 = .ok (.aload_n 0, 1) := by decide +kernel
theorem dX3_played_26 : decode cX3_played 26 = .ok (.bipush (-2), 2) := by decide +kernel
theorem dX3_played_28 : decode cX3_played 28 = .ok (.invokevirtual 258, 3) := by decide +kernel
theorem dX3_played_31 : decode cX3_played 31 = .ok (.ireturn, 1) := by decide +kernel
theorem dX3_played_32 : decode cX3_played 32 = .ok (.aload_n 0, 1) := by decide +kernel
theorem dX3_played_33 : decode cX3_played 33 = .ok (.iload_n 1, 1) := by decide +kernel
theorem dX3_played_34 : decode cX3_played 34 = .ok (.iload_n 2, 1) := by decide +kernel
theorem dX3_played_35 : decode cX3_played 35 = .ok (.invokevirtual 321, 3) := by decide +kernel
theorem dX3_played_38 : decode cX3_played 38 = .ok (.istore 4, 2) := by decide +kernel
theorem dX3_played_40 : decode cX3_played 40 = .ok (.iload_n 3, 1) := by decide +kernel
theorem dX3_played_41 : decode cX3_played 41 = .ok (.ifCond .ne 19, 3) := by decide +kernel
theorem dX3_played_44 : decode cX3_played 44 = .ok (.aload_n 0, 1) := by decide +kernel
theorem dX3_played_45 : decode cX3_played 45 = .ok (.getfield 16, 3) := by decide +kernel
theorem dX3_played_48 : decode cX3_played 48 = .ok (.getfield 325, 3) := by decide +kernel
theorem dX3_played_51 : decode cX3_played 51 = .ok (.aload_n 0, 1) := by decide +kernel
theorem dX3_played_52 : decode cX3_played 52 = .ok (.getfield 10, 3) := by decide +kernel
theorem dX3_played_55 : decode cX3_played 55 = .ok (.getfield 325, 3) := by decide +kernel
theorem dX3_played_58 : decode cX3_played 58 = .ok (.isub, 1) := by decide +kernel
theorem dX3_played_59 : decode cX3_played 59 = .ok (.ireturn, 1) := by decide +kernel
theorem dX3_played_60 : decode cX3_played 60 = .ok (.iload_n 3, 1) := by decide +kernel
theorem dX3_played_61 : decode cX3_played 61 = .ok (.iconst 1, 1) := by decide +kernel
theorem dX3_played_62 : decode cX3_played 62 = .ok (.if_icmp .ne 14, 3) := by decide +kernel
theorem dX3_played_65 : decode cX3_played 65 = .ok (.aload_n 0, 1) := by decide +kernel
theorem dX3_played_66 : decode cX3_played 66 = .ok (.getfield 16, 3) := by decide +kernel
theorem dX3_played_69 : decode cX3_played 69 = .ok (.iconst 0, 1) := by decide +kernel
theorem dX3_played_70 : decode cX3_played 70 = .ok (.invokevirtual 255, 3) := by decide +kernel
theorem dX3_played_73 : decode cX3_played 73 = .ok (.goto 8, 3) := by decide +kernel
theorem dX3_played_76 : decode cX3_played 76 = .ok (.iload 4, 2) := by decide +kernel
theorem dX3_played_78 : decode cX3_played 78 = .ok (.invokestatic 249, 3) := by decide +kernel
theorem dX3_played_81 : decode cX3_played 81 = .ok (.ireturn, 1) := by decide +kernel
theorem dX3_wins_0 : decode cX3_wins 0 = .ok (.aload_n 0, 1) := by decide +kernel
theorem dX3_wins_1 : decode cX3_wins 1 = .ok (.iload_n 1, 1) := by decide +kernel
theorem dX3_wins_2 : decode cX3_wins 2 = .ok (.invokevirtual 108, 3) := by decide +kernel
theorem dX3_wins_5 : decode cX3_wins 5 = .ok (.ifCond .eq 11, 3) := by decide +kernel
theorem dX3_wins_8 : decode cX3_wins 8 = .ok (.aload_n 0, 1) := by decide +kernel
theorem dX3_wins_9 : decode cX3_wins 9 = .ok (.iload_n 1, 1) := by decide +kernel
theorem dX3_wins_10 : decode cX3_wins 10 = .ok (.invokevirtual 328, 3) := by decide +kernel
theorem dX3_wins_13 : decode cX3_wins 13 = .ok (.goto 9, 3) := by decide +kernel
theorem dX3_wins_16 : decode cX3_wins 16 = .ok (.aload_n 0, 1) := by decide +kernel
theorem dX3_wins_17 : decode cX3_wins 17 = .ok (.bipush (-2), 2) := by decide +kernel
theorem dX3_wins_19 : decode cX3_wins 19 = .ok (.invokevirtual 258, 3) := by decide +kernel
theorem dX3_wins_22 : decode cX3_wins 22 = .ok (.ireturn, 1) := by decide +kernel
theorem dX3_champion_0 : decode cX3_champion 0 = .ok (.aload_n 0, 1) := by decide +kernel
theorem dX3_champion_1 : decode cX3_champion 1 = .ok (.getfield 33, 3) := by decide +kernel
theorem dX3_champion_4 : decode cX3_champion 4 = .ok (.ifCond .gt 10, 3) := by decide +kernel
theorem dX3_champion_7 : decode cX3_champion 7 = .ok (.aload_n 0, 1) := by decide +kernel
theorem dX3_champion_8 : decode cX3_champion 8 = .ok (.bipush (-5), 2) := by decide +kernel
theorem dX3_champion_10 : decode cX3_champion 10 = .ok (.invokevirtual 60, 3) := by decide +kernel
theorem dX3_champion_13 : decode cX3_champion 13 = .ok (.ireturn, 1) := by decide +kernel
theorem dX3_champion_14 : decode cX3_champion 14 = .ok (.iconst 0, 1) := by decide +kernel
theorem dX3_champion_15 : decode cX3_champion 15 = .ok (.istore_n 1, 1) := by decide +kernel
theorem dX3_champion_16 : decode cX3_champion 16 = .ok (.aload_n 0, 1) := by decide +kernel
theorem dX3_champion_17 : decode cX3_champion 17 = .ok (.iconst 0, 1) := by decide +kernel
theorem dX3_champion_18 : decode cX3_champion 18 = .ok (.invokevirtual 328, 3) := by decide +kernel
theorem dX3_champion_21 : decode cX3_champion 21 = .ok (.istore_n 2, 1) := by decide +kernel
theorem dX3_champion_22 : decode cX3_champion 22 = .ok (.iconst 1, 1) := by decide +kernel
theorem dX3_champion_23 : decode cX3_champion 23 = .ok (.istore_n 3, 1) := by decide +kernel
theorem dX3_champion_24 : decode cX3_champion 24 = .ok (.iload_n 3, 1) := by decide +kernel
theorem dX3_champion_25 : decode cX3_champion 25 = .ok (.aload_n 0, 1) := by decide +kernel
theorem dX3_champion_26 : decode cX3_champion 26 = .ok (.getfield 33, 3) := by decide +kernel
theorem dX3_champion_29 : decode cX3_champion 29 = .ok (.if_icmp .ge 27, 3) := by decide +kernel
theorem dX3_champion_32 : decode cX3_champion 32 = .ok (.aload_n 0, 1) := by decide +kernel
theorem dX3_champion_33 : decode cX3_champion 33 = .ok (.iload_n 3, 1) := by decide +kernel
theorem dX3_champion_34 : decode cX3_champion 34 = .ok (.invokevirtual 328, 3) := by decide +kernel
theorem dX3_champion_37 : decode cX3_champion 37 = .ok (.istore 4, 2) := by decide +kernel
theorem dX3_champion_39 : decode cX3_champion 39 = .ok (.iload 4, 2) := by decide +kernel
theorem dX3_champion_41 : decode cX3_champion 41 = .ok (.iload_n 2, 1) := by decide +kernel
theorem dX3_champion_42 : decode cX3_champion 42 = .ok (.if_icmp .le 8, 3) := by decide +kernel
theorem dX3_champion_45 : decode cX3_champion 45 = .ok (.iload 4, 2) := by decide +kernel
theorem dX3_champion_47 : decode cX3_champion 47 = .ok (.istore_n 2, 1) := by decide +kernel
theorem dX3_champion_48 : decode cX3_champion 48 = .ok (.iload_n 3, 1) := by decide +kernel
theorem dX3_champion_49 : decode cX3_champion 49 = .ok (.istore_n 1, 1) := by decide +kernel
theorem dX3_champion_50 : decode cX3_champion 50 = .ok (.iinc 3 1, 3) := by decide +kernel
theorem dX3_champion_53 : decode cX3_champion 53 = .ok (.goto (-29), 3) := by decide +kernel
theorem dX3_champion_56 : decode cX3_champion 56 = .ok (.iload_n 1, 1) := by decide +kernel
theorem dX3_champion_57 : decode cX3_champion 57 = .ok (.ireturn, 1) := by decide +kernel
theorem dX3_likenesses_0 : decode cX3_likenesses 0 = .ok (.iconst 0, 1) := by decide +kernel
theorem dX3_likenesses_1 : decode cX3_likenesses 1 = .ok (.istore_n 1, 1) := by decide +kernel
theorem dX3_likenesses_2 : decode cX3_likenesses 2 = .ok (.iconst 0, 1) := by decide +kernel
theorem dX3_likenesses_3 : decode cX3_likenesses 3 = .ok (.istore_n 2, 1) := by decide +kernel
theorem dX3_likenesses_4 : decode cX3_likenesses 4 = .ok (.iload_n 2, 1) := by decide +kernel
theorem dX3_likenesses_5 : decode cX3_likenesses 5 = .ok (.aload_n 0, 1) := by decide +kernel
theorem dX3_likenesses_6 : decode cX3_likenesses 6 = .ok (.invokevirtual 331, 3) := by decide +kernel
theorem dX3_likenesses_9 : decode cX3_likenesses 9 = .ok (.if_icmp .ge 23, 3) := by decide +kernel
theorem dX3_likenesses_12 : decode cX3_likenesses 12 = .ok (.iload_n 1, 1) := by decide +kernel
theorem dX3_likenesses_13 : decode cX3_likenesses 13 = .ok (.aload_n 0, 1) := by decide +kernel
theorem dX3_likenesses_14 : decode cX3_likenesses 14 = .ok (.getfield 10, 3) := by decide +kernel
theorem dX3_likenesses_17 : decode cX3_likenesses 17 = .ok (.iload_n 2, 1) := by decide +kernel
theorem dX3_likenesses_18 : decode cX3_likenesses 18 = .ok (.invokevirtual 334, 3) := by decide +kernel
theorem dX3_likenesses_21 : decode cX3_likenesses 21 = .ok (.invokestatic 192, 3) := by decide +kernel
theorem dX3_likenesses_24 : decode cX3_likenesses 24 = .ok (.iadd, 1) := by decide +kernel
theorem dX3_likenesses_25 : decode cX3_likenesses 25 = .ok (.istore_n 1, 1) := by decide +kernel
theorem dX3_likenesses_26 : decode cX3_likenesses 26 = .ok (.iinc 2 1, 3) := by decide +kernel
theorem dX3_likenesses_29 : decode cX3_likenesses 29 = .ok (.goto (-25), 3) := by decide +kernel
theorem dX3_likenesses_32 : decode cX3_likenesses 32 = .ok (.iload_n 1, 1) := by decide +kernel
theorem dX3_likenesses_33 : decode cX3_likenesses 33 = .ok (.ireturn, 1) := by decide +kernel
theorem dX3_alike_0 : decode cX3_alike 0 = .ok (.iload_n 1, 1) := by decide +kernel
theorem dX3_alike_1 : decode cX3_alike 1 = .ok (.ifCond .lt 11, 3) := by decide +kernel
theorem dX3_alike_4 : decode cX3_alike 4 = .ok (.iload_n 1, 1) := by decide +kernel
theorem dX3_alike_5 : decode cX3_alike 5 = .ok (.aload_n 0, 1) := by decide +kernel
theorem dX3_alike_6 : decode cX3_alike 6 = .ok (.invokevirtual 331, 3) := by decide +kernel
theorem dX3_alike_9 : decode cX3_alike 9 = .ok (.if_icmp .lt 10, 3) := by decide +kernel
theorem dX3_alike_12 : decode cX3_alike 12 = .ok (.aload_n 0, 1) := by decide +kernel
theorem dX3_alike_13 : decode cX3_alike 13 = .ok (.bipush (-2), 2) := by decide +kernel
theorem dX3_alike_15 : decode cX3_alike 15 = .ok (.invokevirtual 60, 3) := by decide +kernel
theorem dX3_alike_18 : decode cX3_alike 18 = .ok (.ireturn, 1) := by decide +kernel
theorem dX3_alike_19 : decode cX3_alike 19 = .ok (.aload_n 0, 1) := by decide +kernel
theorem dX3_alike_20 : decode cX3_alike 20 = .ok (.getfield 10, 3) := by decide +kernel
theorem dX3_alike_23 : decode cX3_alike 23 = .ok (.iload_n 1, 1) := by decide +kernel
theorem dX3_alike_24 : decode cX3_alike 24 = .ok (.invokevirtual 334, 3) := by decide +kernel
theorem dX3_alike_27 : decode cX3_alike 27 = .ok (.invokestatic 192, 3) := by decide +kernel
theorem dX3_alike_30 : decode cX3_alike 30 = .ok (.ireturn, 1) := by decide +kernel
theorem dX3_judge_0 : decode cX3_judge 0 = .ok (.aload_n 0, 1) := by decide +kernel
theorem dX3_judge_1 : decode cX3_judge 1 = .ok (.iload_n 1, 1) := by decide +kernel
theorem dX3_judge_2 : decode cX3_judge 2 = .ok (.invokevirtual 56, 3) := by decide +kernel
theorem dX3_judge_5 : decode cX3_judge 5 = .ok (.iload_n 2, 1) := by decide +kernel
theorem dX3_judge_6 : decode cX3_judge 6 = .ok (.invokestatic 337, 3) := by decide +kernel
theorem dX3_judge_9 : decode cX3_judge 9 = .ok (.istore_n 3, 1) := by decide +kernel
theorem dX3_judge_10 : decode cX3_judge 10 = .ok (.iload_n 3, 1) := by decide +kernel
theorem dX3_judge_11 : decode cX3_judge 11 = .ok (.ifCond .ne 16, 3) := by decide +kernel
theorem dX3_judge_14 : decode cX3_judge 14 = .ok (.aload_n 0, 1) := by decide +kernel
theorem dX3_judge_15 : decode cX3_judge 15 = .ok (.aload_n 0, 1) := by decide +kernel
theorem dX3_judge_16 : decode cX3_judge 16 = .ok (.iload_n 1, 1) := by decide +kernel
theorem dX3_judge_17 : decode cX3_judge 17 = .ok (.invokevirtual 56, 3) := by decide +kernel
theorem dX3_judge_20 : decode cX3_judge 20 = .ok (.iload_n 2, 1) := by decide +kernel
theorem dX3_judge_21 : decode cX3_judge 21 = .ok (.invokevirtual 341, 3) := by decide +kernel
theorem dX3_judge_24 : decode cX3_judge 24 = .ok (.goto 8, 3) := by decide +kernel
theorem dX3_judge_27 : decode cX3_judge 27 = .ok (.aload_n 0, 1) := by decide +kernel
theorem dX3_judge_28 : decode cX3_judge 28 = .ok (.iload_n 3, 1) := by decide +kernel
theorem dX3_judge_29 : decode cX3_judge 29 = .ok (.invokevirtual 60, 3) := by decide +kernel
theorem dX3_judge_32 : decode cX3_judge 32 = .ok (.ireturn, 1) := by decide +kernel
theorem dX3_behind_0 : decode cX3_behind 0 = .ok (.aload_n 0, 1) := by decide +kernel
theorem dX3_behind_1 : decode cX3_behind 1 = .ok (.iload_n 1, 1) := by decide +kernel
theorem dX3_behind_2 : decode cX3_behind 2 = .ok (.invokevirtual 56, 3) := by decide +kernel
theorem dX3_behind_5 : decode cX3_behind 5 = .ok (.iload_n 2, 1) := by decide +kernel
theorem dX3_behind_6 : decode cX3_behind 6 = .ok (.invokestatic 337, 3) := by decide +kernel
theorem dX3_behind_9 : decode cX3_behind 9 = .ok (.istore_n 3, 1) := by decide +kernel
theorem dX3_behind_10 : decode cX3_behind 10 = .ok (.iload_n 3, 1) := by decide +kernel
theorem dX3_behind_11 : decode cX3_behind 11 = .ok (.ifCond .eq 9, 3) := by decide +kernel
theorem dX3_behind_14 : decode cX3_behind 14 = .ok (.aload_n 0, 1) := by decide +kernel
theorem dX3_behind_15 : decode cX3_behind 15 = .ok (.iload_n 3, 1) := by decide +kernel
theorem dX3_behind_16 : decode cX3_behind 16 = .ok (.invokevirtual 258, 3) := by decide +kernel
theorem dX3_behind_19 : decode cX3_behind 19 = .ok (.ireturn, 1) := by decide +kernel
theorem dX3_behind_20 : decode cX3_behind 20 = .ok (.aload_n 0, 1) := by decide +kernel
theorem dX3_behind_21 : decode cX3_behind 21 = .ok (.aload_n 0, 1) := by decide +kernel
theorem dX3_behind_22 : decode cX3_behind 22 = .ok (.iload_n 1, 1) := by decide +kernel
theorem dX3_behind_23 : decode cX3_behind 23 = .ok (.invokevirtual 56, 3) := by decide +kernel
theorem dX3_behind_26 : decode cX3_behind 26 = .ok (.iload_n 2, 1) := by decide +kernel
theorem dX3_behind_27 : decode cX3_behind 27 = .ok (.invokevirtual 341, 3) := by decide +kernel
theorem dX3_behind_30 : decode cX3_behind 30 = .ok (.iconst (-1), 1) := by decide +kernel
theorem dX3_behind_31 : decode cX3_behind 31 = .ok (.if_icmp .ne 14, 3) := by decide +kernel
theorem dX3_behind_34 : decode cX3_behind 34 = .ok (.aload_n 0, 1) := by decide +kernel
theorem dX3_behind_35 : decode cX3_behind 35 = .ok (.getfield 16, 3) := by decide +kernel
theorem dX3_behind_38 : decode cX3_behind 38 = .ok (.iconst 0, 1) := by decide +kernel
theorem dX3_behind_39 : decode cX3_behind 39 = .ok (.invokevirtual 255, 3) := by decide +kernel
theorem dX3_behind_42 : decode cX3_behind 42 = .ok (.goto 9, 3) := by decide +kernel
theorem dX3_behind_45 : decode cX3_behind 45 = .ok (.aload_n 0, 1) := by decide +kernel
theorem dX3_behind_46 : decode cX3_behind 46 = .ok (.bipush (-5), 2) := by decide +kernel
theorem dX3_behind_48 : decode cX3_behind 48 = .ok (.invokevirtual 258, 3) := by decide +kernel
theorem dX3_behind_51 : decode cX3_behind 51 = .ok (.ireturn, 1) := by decide +kernel
theorem dX3_done_0 : decode cX3_done 0 = .ok (.aload_n 0, 1) := by decide +kernel
theorem dX3_done_1 : decode cX3_done 1 = .ok (.iload_n 1, 1) := by decide +kernel
theorem dX3_done_2 : decode cX3_done 2 = .ok (.invokevirtual 56, 3) := by decide +kernel
theorem dX3_done_5 : decode cX3_done 5 = .ok (.iload_n 2, 1) := by decide +kernel
theorem dX3_done_6 : decode cX3_done 6 = .ok (.invokestatic 337, 3) := by decide +kernel
theorem dX3_done_9 : decode cX3_done 9 = .ok (.istore_n 3, 1) := by decide +kernel
theorem dX3_done_10 : decode cX3_done 10 = .ok (.iload_n 3, 1) := by decide +kernel
theorem dX3_done_11 : decode cX3_done 11 = .ok (.ifCond .eq 9, 3) := by decide +kernel
theorem dX3_done_14 : decode cX3_done 14 = .ok (.aload_n 0, 1) := by decide +kernel
theorem dX3_done_15 : decode cX3_done 15 = .ok (.iload_n 3, 1) := by decide +kernel
theorem dX3_done_16 : decode cX3_done 16 = .ok (.invokevirtual 60, 3) := by decide +kernel
theorem dX3_done_19 : decode cX3_done 19 = .ok (.ireturn, 1) := by decide +kernel
theorem dX3_done_20 : decode cX3_done 20 = .ok (.aload_n 0, 1) := by decide +kernel
theorem dX3_done_21 : decode cX3_done 21 = .ok (.aload_n 0, 1) := by decide +kernel
theorem dX3_done_22 : decode cX3_done 22 = .ok (.iload_n 1, 1) := by decide +kernel
theorem dX3_done_23 : decode cX3_done 23 = .ok (.invokevirtual 56, 3) := by decide +kernel
theorem dX3_done_26 : decode cX3_done 26 = .ok (.iload_n 2, 1) := by decide +kernel
theorem dX3_done_27 : decode cX3_done 27 = .ok (.invokevirtual 341, 3) := by decide +kernel
theorem dX3_done_30 : decode cX3_done 30 = .ok (.iconst (-1), 1) := by decide +kernel
theorem dX3_done_31 : decode cX3_done 31 = .ok (.if_icmp .eq 10, 3) := by decide +kernel
theorem dX3_done_34 : decode cX3_done 34 = .ok (.aload_n 0, 1) := by decide +kernel
theorem dX3_done_35 : decode cX3_done 35 = .ok (.bipush (-5), 2) := by decide +kernel
theorem dX3_done_37 : decode cX3_done 37 = .ok (.invokevirtual 60, 3) := by decide +kernel
theorem dX3_done_40 : decode cX3_done 40 = .ok (.ireturn, 1) := by decide +kernel
theorem dX3_done_41 : decode cX3_done 41 = .ok (.aload_n 0, 1) := by decide +kernel
theorem dX3_done_42 : decode cX3_done 42 = .ok (.getfield 10, 3) := by decide +kernel
theorem dX3_done_45 : decode cX3_done 45 = .ok (.aload_n 0, 1) := by decide +kernel
theorem dX3_done_46 : decode cX3_done 46 = .ok (.getfield 16, 3) := by decide +kernel
theorem dX3_done_49 : decode cX3_done 49 = .ok (.invokevirtual 165, 3) := by decide +kernel
theorem dX3_done_52 : decode cX3_done 52 = .ok (.aload_n 0, 1) := by decide +kernel
theorem dX3_done_53 : decode cX3_done 53 = .ok (.getfield 10, 3) := by decide +kernel
theorem dX3_done_56 : decode cX3_done 56 = .ok (.getfield 325, 3) := by decide +kernel
theorem dX3_done_59 : decode cX3_done 59 = .ok (.ireturn, 1) := by decide +kernel
theorem dX3_move_0 : decode cX3_move 0 = .ok (.aload_n 0, 1) := by decide +kernel
theorem dX3_move_1 : decode cX3_move 1 = .ok (.getfield 10, 3) := by decide +kernel
theorem dX3_move_4 : decode cX3_move 4 = .ok (.iload_n 1, 1) := by decide +kernel
theorem dX3_move_5 : decode cX3_move 5 = .ok (.invokevirtual 239, 3) := by decide +kernel
theorem dX3_move_8 : decode cX3_move 8 = .ok (.istore_n 2, 1) := by decide +kernel
theorem dX3_move_9 : decode cX3_move 9 = .ok (.iload_n 2, 1) := by decide +kernel
theorem dX3_move_10 : decode cX3_move 10 = .ok (.iconst (-1), 1) := by decide +kernel
theorem dX3_move_11 : decode cX3_move 11 = .ok (.if_icmp .ne 10, 3) := by decide +kernel
theorem dX3_move_14 : decode cX3_move 14 = .ok (.aload_n 0, 1) := by decide +kernel
theorem dX3_move_15 : decode cX3_move 15 = .ok (.bipush (-2), 2) := by decide +kernel
theorem dX3_move_17 : decode cX3_move 17 = .ok (.invokevirtual 60, 3) := by decide +kernel
theorem dX3_move_20 : decode cX3_move 20 = .ok (.ireturn, 1) := by decide +kernel
theorem dX3_move_21 : decode cX3_move 21 = .ok (.aload_n 0, 1) := by decide +kernel
theorem dX3_move_22 : decode cX3_move 22 = .ok (.getfield 10, 3) := by decide +kernel
theorem dX3_move_25 : decode cX3_move 25 = .ok (.iload_n 2, 1) := by decide +kernel
theorem dX3_move_26 : decode cX3_move 26 = .ok (.invokevirtual 242, 3) := by decide +kernel
theorem dX3_move_29 : decode cX3_move 29 = .ok (.ifCond .ne 10, 3) := by decide +kernel
theorem dX3_move_32 : decode cX3_move 32 = .ok (.aload_n 0, 1) := by decide +kernel
theorem dX3_move_33 : decode cX3_move 33 = .ok (.bipush (-5), 2) := by decide +kernel
theorem dX3_move_35 : decode cX3_move 35 = .ok (.invokevirtual 60, 3) := by decide +kernel
theorem dX3_move_38 : decode cX3_move 38 = .ok (.ireturn, 1) := by decide +kernel
theorem dX3_move_39 : decode cX3_move 39 = .ok (.aload_n 0, 1) := by decide +kernel
theorem dX3_move_40 : decode cX3_move 40 = .ok (.getfield 10, 3) := by decide +kernel
theorem dX3_move_43 : decode cX3_move 43 = .ok (.invokevirtual 283, 3) := by decide +kernel
theorem dX3_move_46 : decode cX3_move 46 = .ok (.istore_n 3, 1) := by decide +kernel
theorem dX3_move_47 : decode cX3_move 47 = .ok (.aload_n 0, 1) := by decide +kernel
theorem dX3_move_48 : decode cX3_move 48 = .ok (.getfield 10, 3) := by decide +kernel
theorem dX3_move_51 : decode cX3_move 51 = .ok (.iload_n 2, 1) := by decide +kernel
theorem dX3_move_52 : decode cX3_move 52 = .ok (.invokevirtual 311, 3) := by decide +kernel
theorem dX3_move_55 : decode cX3_move 55 = .ok (.aload_n 0, 1) := by decide +kernel
theorem dX3_move_56 : decode cX3_move 56 = .ok (.getfield 10, 3) := by decide +kernel
theorem dX3_move_59 : decode cX3_move 59 = .ok (.invokevirtual 283, 3) := by decide +kernel
theorem dX3_move_62 : decode cX3_move 62 = .ok (.iload_n 3, 1) := by decide +kernel
theorem dX3_move_63 : decode cX3_move 63 = .ok (.iconst (-1), 1) := by decide +kernel
theorem dX3_move_64 : decode cX3_move 64 = .ok (.ixor, 1) := by decide +kernel
theorem dX3_move_65 : decode cX3_move 65 = .ok (.iand, 1) := by decide +kernel
theorem dX3_move_66 : decode cX3_move 66 = .ok (.invokestatic 286, 3) := by decide +kernel
theorem dX3_move_69 : decode cX3_move 69 = .ok (.ireturn, 1) := by decide +kernel
theorem dX3_goes_0 : decode cX3_goes 0 = .ok (.aload_n 0, 1) := by decide +kernel
theorem dX3_goes_1 : decode cX3_goes 1 = .ok (.iload_n 1, 1) := by decide +kernel
theorem dX3_goes_2 : decode cX3_goes 2 = .ok (.invokevirtual 108, 3) := by decide +kernel
theorem dX3_goes_5 : decode cX3_goes 5 = .ok (.ifCond .eq 14, 3) := by decide +kernel
theorem dX3_goes_8 : decode cX3_goes 8 = .ok (.iload_n 2, 1) := by decide +kernel
theorem dX3_goes_9 : decode cX3_goes 9 = .ok (.iconst 1, 1) := by decide +kernel
theorem dX3_goes_10 : decode cX3_goes 10 = .ok (.if_icmp .lt 9, 3) := by decide +kernel
theorem dX3_goes_13 : decode cX3_goes 13 = .ok (.iload_n 2, 1) := by decide +kernel
theorem dX3_goes_14 : decode cX3_goes 14 = .ok (.bipush 40, 2) := by decide +kernel
theorem dX3_goes_16 : decode cX3_goes 16 = .ok (.if_icmp .le 10, 3) := by decide +kernel
theorem dX3_goes_19 : decode cX3_goes 19 = .ok (.aload_n 0, 1) := by decide +kernel
theorem dX3_goes_20 : decode cX3_goes 20 = .ok (.bipush (-2), 2) := by decide +kernel
theorem dX3_goes_22 : decode cX3_goes 22 = .ok (.invokevirtual 60, 3) := by decide +kernel
theorem dX3_goes_25 : decode cX3_goes 25 = .ok (.ireturn, 1) := by decide +kernel
theorem dX3_goes_26 : decode cX3_goes 26 = .ok (.iconst 0, 1) := by decide +kernel
theorem dX3_goes_27 : decode cX3_goes 27 = .ok (.istore_n 3, 1) := by decide +kernel
theorem dX3_goes_28 : decode cX3_goes 28 = .ok (.iload_n 3, 1) := by decide +kernel
theorem dX3_goes_29 : decode cX3_goes 29 = .ok (.iload_n 2, 1) := by decide +kernel
theorem dX3_goes_30 : decode cX3_goes 30 = .ok (.if_icmp .ge 37, 3) := by decide +kernel
theorem dX3_goes_33 : decode cX3_goes 33 = .ok (.aload_n 0, 1) := by decide +kernel
theorem dX3_goes_34 : decode cX3_goes 34 = .ok (.aload_n 0, 1) := by decide +kernel
theorem dX3_goes_35 : decode cX3_goes 35 = .ok (.getfield 10, 3) := by decide +kernel
theorem dX3_goes_38 : decode cX3_goes 38 = .ok (.iload_n 1, 1) := by decide +kernel
theorem dX3_goes_39 : decode cX3_goes 39 = .ok (.invokevirtual 344, 3) := by decide +kernel
theorem dX3_goes_42 : decode cX3_goes 42 = .ok (.istore 4, 2) := by decide +kernel
theorem dX3_goes_44 : decode cX3_goes 44 = .ok (.iload 4, 2) := by decide +kernel
theorem dX3_goes_46 : decode cX3_goes 46 = .ok (.iconst (-1), 1) := by decide +kernel
theorem dX3_goes_47 : decode cX3_goes 47 = .ok (.if_icmp .ne 5, 3) := by decide +kernel
theorem dX3_goes_50 : decode cX3_goes 50 = .ok (.iload_n 3, 1) := by decide +kernel
theorem dX3_goes_51 : decode cX3_goes 51 = .ok (.ireturn, 1) := by decide +kernel
theorem dX3_goes_52 : decode cX3_goes 52 = .ok (.aload_n 0, 1) := by decide +kernel
theorem dX3_goes_53 : decode cX3_goes 53 = .ok (.getfield 10, 3) := by decide +kernel
theorem dX3_goes_56 : decode cX3_goes 56 = .ok (.iload 4, 2) := by decide +kernel
theorem dX3_goes_58 : decode cX3_goes 58 = .ok (.invokevirtual 311, 3) := by decide +kernel
theorem dX3_goes_61 : decode cX3_goes 61 = .ok (.iinc 3 1, 3) := by decide +kernel
theorem dX3_goes_64 : decode cX3_goes 64 = .ok (.goto (-36), 3) := by decide +kernel
theorem dX3_goes_67 : decode cX3_goes 67 = .ok (.iload_n 2, 1) := by decide +kernel
theorem dX3_goes_68 : decode cX3_goes 68 = .ok (.ireturn, 1) := by decide +kernel
theorem dX3_games_0 : decode cX3_games 0 = .ok (.iload_n 1, 1) := by decide +kernel
theorem dX3_games_1 : decode cX3_games 1 = .ok (.iconst 1, 1) := by decide +kernel
theorem dX3_games_2 : decode cX3_games 2 = .ok (.if_icmp .lt 9, 3) := by decide +kernel
theorem dX3_games_5 : decode cX3_games 5 = .ok (.iload_n 1, 1) := by decide +kernel
theorem dX3_games_6 : decode cX3_games 6 = .ok (.bipush 20, 2) := by decide +kernel
theorem dX3_games_8 : decode cX3_games 8 = .ok (.if_icmp .le 10, 3) := by decide +kernel
theorem dX3_games_11 : decode cX3_games 11 = .ok (.aload_n 0, 1) := by decide +kernel
theorem dX3_games_12 : decode cX3_games 12 = .ok (.bipush (-2), 2) := by decide +kernel
theorem dX3_games_14 : decode cX3_games 14 = .ok (.invokevirtual 60, 3) := by decide +kernel
