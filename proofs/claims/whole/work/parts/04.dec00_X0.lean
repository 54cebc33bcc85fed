theorem dX0_init_0 : decode cX0_init 0 = .ok (.aload_n 0, 1) := by decide +kernel
theorem dX0_init_1 : decode cX0_init 1 = .ok (.invokespecial 3, 3) := by decide +kernel
theorem dX0_init_4 : decode cX0_init 4 = .ok (.aload_n 0, 1) := by decide +kernel
theorem dX0_init_5 : decode cX0_init 5 = .ok (.iconst 1, 1) := by decide +kernel
theorem dX0_init_6 : decode cX0_init 6 = .ok (.putfield 9, 3) := by decide +kernel
theorem dX0_init_9 : decode cX0_init 9 = .ok (.aload_n 0, 1) := by decide +kernel
theorem dX0_init_10 : decode cX0_init 10 = .ok (.iconst 2, 1) := by decide +kernel
theorem dX0_init_11 : decode cX0_init 11 = .ok (.iconst 2, 1) := by decide +kernel
theorem dX0_init_12 : decode cX0_init 12 = .ok (.invokevirtual 15, 3) := by decide +kernel
theorem dX0_init_15 : decode cX0_init 15 = .ok (.return_, 1) := by decide +kernel
theorem dX0_lay_0 : decode cX0_lay 0 = .ok (.aload_n 0, 1) := by decide +kernel
theorem dX0_lay_1 : decode cX0_lay 1 = .ok (.iload_n 1, 1) := by decide +kernel
theorem dX0_lay_2 : decode cX0_lay 2 = .ok (.putfield 19, 3) := by decide +kernel
theorem dX0_lay_5 : decode cX0_lay 5 = .ok (.aload_n 0, 1) := by decide +kernel
theorem dX0_lay_6 : decode cX0_lay 6 = .ok (.iload_n 2, 1) := by decide +kernel
theorem dX0_lay_7 : decode cX0_lay 7 = .ok (.putfield 22, 3) := by decide +kernel
theorem dX0_lay_10 : decode cX0_lay 10 = .ok (.aload_n 0, 1) := by decide +kernel
theorem dX0_lay_11 : decode cX0_lay 11 = .ok (.iload_n 1, 1) := by decide +kernel
theorem dX0_lay_12 : decode cX0_lay 12 = .ok (.iload_n 2, 1) := by decide +kernel
theorem dX0_lay_13 : decode cX0_lay 13 = .ok (.imul, 1) := by decide +kernel
theorem dX0_lay_14 : decode cX0_lay 14 = .ok (.putfield 25, 3) := by decide +kernel
theorem dX0_lay_17 : decode cX0_lay 17 = .ok (.aload_n 0, 1) := by decide +kernel
theorem dX0_lay_18 : decode cX0_lay 18 = .ok (.iload_n 2, 1) := by decide +kernel
theorem dX0_lay_19 : decode cX0_lay 19 = .ok (.iconst 1, 1) := by decide +kernel
theorem dX0_lay_20 : decode cX0_lay 20 = .ok (.iadd, 1) := by decide +kernel
theorem dX0_lay_21 : decode cX0_lay 21 = .ok (.iload_n 1, 1) := by decide +kernel
theorem dX0_lay_22 : decode cX0_lay 22 = .ok (.imul, 1) := by decide +kernel
theorem dX0_lay_23 : decode cX0_lay 23 = .ok (.putfield 28, 3) := by decide +kernel
theorem dX0_lay_26 : decode cX0_lay 26 = .ok (.aload_n 0, 1) := by decide +kernel
theorem dX0_lay_27 : decode cX0_lay 27 = .ok (.aload_n 0, 1) := by decide +kernel
theorem dX0_lay_28 : decode cX0_lay 28 = .ok (.getfield 28, 3) := by decide +kernel
theorem dX0_lay_31 : decode cX0_lay 31 = .ok (.iload_n 2, 1) := by decide +kernel
theorem dX0_lay_32 : decode cX0_lay 32 = .ok (.iload_n 1, 1) := by decide +kernel
theorem dX0_lay_33 : decode cX0_lay 33 = .ok (.iconst 1, 1) := by decide +kernel
theorem dX0_lay_34 : decode cX0_lay 34 = .ok (.iadd, 1) := by decide +kernel
theorem dX0_lay_35 : decode cX0_lay 35 = .ok (.imul, 1) := by decide +kernel
theorem dX0_lay_36 : decode cX0_lay 36 = .ok (.iadd, 1) := by decide +kernel
theorem dX0_lay_37 : decode cX0_lay 37 = .ok (.putfield 31, 3) := by decide +kernel
theorem dX0_lay_40 : decode cX0_lay 40 = .ok (.aload_n 0, 1) := by decide +kernel
theorem dX0_lay_41 : decode cX0_lay 41 = .ok (.iconst 1, 1) := by decide +kernel
theorem dX0_lay_42 : decode cX0_lay 42 = .ok (.aload_n 0, 1) := by decide +kernel
theorem dX0_lay_43 : decode cX0_lay 43 = .ok (.getfield 25, 3) := by decide +kernel
theorem dX0_lay_46 : decode cX0_lay 46 = .ok (.ishl, 1) := by decide +kernel
theorem dX0_lay_47 : decode cX0_lay 47 = .ok (.iconst 1, 1) := by decide +kernel
theorem dX0_lay_48 : decode cX0_lay 48 = .ok (.isub, 1) := by decide +kernel
theorem dX0_lay_49 : decode cX0_lay 49 = .ok (.putfield 34, 3) := by decide +kernel
theorem dX0_lay_52 : decode cX0_lay 52 = .ok (.aload_n 0, 1) := by decide +kernel
theorem dX0_lay_53 : decode cX0_lay 53 = .ok (.iconst 0, 1) := by decide +kernel
theorem dX0_lay_54 : decode cX0_lay 54 = .ok (.putfield 37, 3) := by decide +kernel
theorem dX0_lay_57 : decode cX0_lay 57 = .ok (.iconst 0, 1) := by decide +kernel
theorem dX0_lay_58 : decode cX0_lay 58 = .ok (.istore_n 3, 1) := by decide +kernel
theorem dX0_lay_59 : decode cX0_lay 59 = .ok (.iload_n 3, 1) := by decide +kernel
theorem dX0_lay_60 : decode cX0_lay 60 = .ok (.iload_n 2, 1) := by decide +kernel
theorem dX0_lay_61 : decode cX0_lay 61 = .ok (.if_icmp .ge 23, 3) := by decide +kernel
theorem dX0_lay_64 : decode cX0_lay 64 = .ok (.aload_n 0, 1) := by decide +kernel
theorem dX0_lay_65 : decode cX0_lay 65 = .ok (.dup, 1) := by decide +kernel
theorem dX0_lay_66 : decode cX0_lay 66 = .ok (.getfield 37, 3) := by decide +kernel
theorem dX0_lay_69 : decode cX0_lay 69 = .ok (.iconst 1, 1) := by decide +kernel
theorem dX0_lay_70 : decode cX0_lay 70 = .ok (.iload_n 3, 1) := by decide +kernel
theorem dX0_lay_71 : decode cX0_lay 71 = .ok (.iload_n 1, 1) := by decide +kernel
theorem dX0_lay_72 : decode cX0_lay 72 = .ok (.imul, 1) := by decide +kernel
theorem dX0_lay_73 : decode cX0_lay 73 = .ok (.ishl, 1) := by decide +kernel
theorem dX0_lay_74 : decode cX0_lay 74 = .ok (.ior, 1) := by decide +kernel
theorem dX0_lay_75 : decode cX0_lay 75 = .ok (.putfield 37, 3) := by decide +kernel
theorem dX0_lay_78 : decode cX0_lay 78 = .ok (.iinc 3 1, 3) := by decide +kernel
theorem dX0_lay_81 : decode cX0_lay 81 = .ok (.goto (-22), 3) := by decide +kernel
theorem dX0_lay_84 : decode cX0_lay 84 = .ok (.aload_n 0, 1) := by decide +kernel
theorem dX0_lay_85 : decode cX0_lay 85 = .ok (.aload_n 0, 1) := by decide +kernel
theorem dX0_lay_86 : decode cX0_lay 86 = .ok (.getfield 37, 3) := by decide +kernel
theorem dX0_lay_89 : decode cX0_lay 89 = .ok (.iload_n 1, 1) := by decide +kernel
theorem dX0_lay_90 : decode cX0_lay 90 = .ok (.iconst 1, 1) := by decide +kernel
theorem dX0_lay_91 : decode cX0_lay 91 = .ok (.isub, 1) := by decide +kernel
theorem dX0_lay_92 : decode cX0_lay 92 = .ok (.ishl, 1) := by decide +kernel
theorem dX0_lay_93 : decode cX0_lay 93 = .ok (.putfield 40, 3) := by decide +kernel
theorem dX0_lay_96 : decode cX0_lay 96 = .ok (.aload_n 0, 1) := by decide +kernel
theorem dX0_lay_97 : decode cX0_lay 97 = .ok (.lconst 0, 1) := by decide +kernel
theorem dX0_lay_98 : decode cX0_lay 98 = .ok (.putfield 43, 3) := by decide +kernel
theorem dX0_lay_101 : decode cX0_lay 101 = .ok (.iconst 0, 1) := by decide +kernel
theorem dX0_lay_102 : decode cX0_lay 102 = .ok (.istore_n 3, 1) := by decide +kernel
theorem dX0_lay_103 : decode cX0_lay 103 = .ok (.iload_n 3, 1) := by decide +kernel
theorem dX0_lay_104 : decode cX0_lay 104 = .ok (.aload_n 0, 1) := by decide +kernel
theorem dX0_lay_105 : decode cX0_lay 105 = .ok (.getfield 31, 3) := by decide +kernel
theorem dX0_lay_108 : decode cX0_lay 108 = .ok (.if_icmp .ge 39, 3) := by decide +kernel
theorem dX0_lay_111 : decode cX0_lay 111 = .ok (.aload_n 0, 1) := by decide +kernel
theorem dX0_lay_112 : decode cX0_lay 112 = .ok (.iload_n 3, 1) := by decide +kernel
theorem dX0_lay_113 : decode cX0_lay 113 = .ok (.invokevirtual 47, 3) := by decide +kernel
theorem dX0_lay_116 : decode cX0_lay 116 = .ok (.iconst (-1), 1) := by decide +kernel
theorem dX0_lay_117 : decode cX0_lay 117 = .ok (.if_icmp .eq 12, 3) := by decide +kernel
theorem dX0_lay_120 : decode cX0_lay 120 = .ok (.aload_n 0, 1) := by decide +kernel
theorem dX0_lay_121 : decode cX0_lay 121 = .ok (.iload_n 3, 1) := by decide +kernel
theorem dX0_lay_122 : decode cX0_lay 122 = .ok (.invokevirtual 51, 3) := by decide +kernel
theorem dX0_lay_125 : decode cX0_lay 125 = .ok (.iconst (-1), 1) := by decide +kernel
theorem dX0_lay_126 : decode cX0_lay 126 = .ok (.if_icmp .ne 15, 3) := by decide +kernel
theorem dX0_lay_129 : decode cX0_lay 129 = .ok (.aload_n 0, 1) := by decide +kernel
theorem dX0_lay_130 : decode cX0_lay 130 = .ok (.dup, 1) := by decide +kernel
theorem dX0_lay_131 : decode cX0_lay 131 = .ok (.getfield 43, 3) := by decide +kernel
theorem dX0_lay_134 : decode cX0_lay 134 = .ok (.lconst 1, 1) := by decide +kernel
theorem dX0_lay_135 : decode cX0_lay 135 = .ok (.iload_n 3, 1) := by decide +kernel
theorem dX0_lay_136 : decode cX0_lay 136 = .ok (.lshl, 1) := by decide +kernel
theorem dX0_lay_137 : decode cX0_lay 137 = .ok (.lor, 1) := by decide +kernel
theorem dX0_lay_138 : decode cX0_lay 138 = .ok (.putfield 43, 3) := by decide +kernel
theorem dX0_lay_141 : decode cX0_lay 141 = .ok (.iinc 3 1, 3) := by decide +kernel
theorem dX0_lay_144 : decode cX0_lay 144 = .ok (.goto (-41), 3) := by decide +kernel
theorem dX0_lay_147 : decode cX0_lay 147 = .ok (.aload_n 0, 1) := by decide +kernel
theorem dX0_lay_148 : decode cX0_lay 148 = .ok (.invokevirtual 54, 3) := by decide +kernel
theorem dX0_lay_151 : decode cX0_lay 151 = .ok (.return_, 1) := by decide +kernel
theorem dX0_clear_0 : decode cX0_clear 0 = .ok (.aload_n 0, 1) := by decide +kernel
theorem dX0_clear_1 : decode cX0_clear 1 = .ok (.lconst 0, 1) := by decide +kernel
theorem dX0_clear_2 : decode cX0_clear 2 = .ok (.putfield 57, 3) := by decide +kernel
theorem dX0_clear_5 : decode cX0_clear 5 = .ok (.aload_n 0, 1) := by decide +kernel
theorem dX0_clear_6 : decode cX0_clear 6 = .ok (.iconst 0, 1) := by decide +kernel
theorem dX0_clear_7 : decode cX0_clear 7 = .ok (.putfield 60, 3) := by decide +kernel
theorem dX0_clear_10 : decode cX0_clear 10 = .ok (.aload_n 0, 1) := by decide +kernel
theorem dX0_clear_11 : decode cX0_clear 11 = .ok (.iconst 0, 1) := by decide +kernel
theorem dX0_clear_12 : decode cX0_clear 12 = .ok (.putfield 63, 3) := by decide +kernel
theorem dX0_clear_15 : decode cX0_clear 15 = .ok (.aload_n 0, 1) := by decide +kernel
theorem dX0_clear_16 : decode cX0_clear 16 = .ok (.iconst 0, 1) := by decide +kernel
theorem dX0_clear_17 : decode cX0_clear 17 = .ok (.putfield 66, 3) := by decide +kernel
theorem dX0_clear_20 : decode cX0_clear 20 = .ok (.aload_n 0, 1) := by decide +kernel
theorem dX0_clear_21 : decode cX0_clear 21 = .ok (.iconst 0, 1) := by decide +kernel
theorem dX0_clear_22 : decode cX0_clear 22 = .ok (.putfield 69, 3) := by decide +kernel
theorem dX0_clear_25 : decode cX0_clear 25 = .ok (.aload_n 0, 1) := by decide +kernel
theorem dX0_clear_26 : decode cX0_clear 26 = .ok (.iconst 0, 1) := by decide +kernel
theorem dX0_clear_27 : decode cX0_clear 27 = .ok (.putfield 72, 3) := by decide +kernel
theorem dX0_clear_30 : decode cX0_clear 30 = .ok (.return_, 1) := by decide +kernel
theorem dX0_become_0 : decode cX0_become 0 = .ok (.aload_n 0, 1) := by decide +kernel
theorem dX0_become_1 : decode cX0_become 1 = .ok (.aload_n 1, 1) := by decide +kernel
theorem dX0_become_2 : decode cX0_become 2 = .ok (.getfield 19, 3) := by decide +kernel
theorem dX0_become_5 : decode cX0_become 5 = .ok (.putfield 19, 3) := by decide +kernel
theorem dX0_become_8 : decode cX0_become 8 = .ok (.aload_n 0, 1) := by decide +kernel
theorem dX0_become_9 : decode cX0_become 9 = .ok (.aload_n 1, 1) := by decide +kernel
theorem dX0_become_10 : decode cX0_become 10 = .ok (.getfield 22, 3) := by decide +kernel
theorem dX0_become_13 : decode cX0_become 13 = .ok (.putfield 22, 3) := by decide +kernel
theorem dX0_become_16 : decode cX0_become 16 = .ok (.aload_n 0, 1) := by decide +kernel
theorem dX0_become_17 : decode cX0_become 17 = .ok (.aload_n 1, 1) := by decide +kernel
theorem dX0_become_18 : decode cX0_become 18 = .ok (.getfield 25, 3) := by decide +kernel
theorem dX0_become_21 : decode cX0_become 21 = .ok (.putfield 25, 3) := by decide +kernel
theorem dX0_become_24 : decode cX0_become 24 = .ok (.aload_n 0, 1) := by decide +kernel
theorem dX0_become_25 : decode cX0_become 25 = .ok (.aload_n 1, 1) := by decide +kernel
theorem dX0_become_26 : decode cX0_become 26 = .ok (.getfield 31, 3) := by decide +kernel
theorem dX0_become_29 : decode cX0_become 29 = .ok (.putfield 31, 3) := by decide +kernel
theorem dX0_become_32 : decode cX0_become 32 = .ok (.aload_n 0, 1) := by decide +kernel
theorem dX0_become_33 : decode cX0_become 33 = .ok (.aload_n 1, 1) := by decide +kernel
theorem dX0_become_34 : decode cX0_become 34 = .ok (.getfield 28, 3) := by decide +kernel
theorem dX0_become_37 : decode cX0_become 37 = .ok (.putfield 28, 3) := by decide +kernel
theorem dX0_become_40 : decode cX0_become 40 = .ok (.aload_n 0, 1) := by decide +kernel
theorem dX0_become_41 : decode cX0_become 41 = .ok (.aload_n 1, 1) := by decide +kernel
theorem dX0_become_42 : decode cX0_become 42 = .ok (.getfield 34, 3) := by decide +kernel
theorem dX0_become_45 : decode cX0_become 45 = .ok (.putfield 34, 3) := by decide +kernel
theorem dX0_become_48 : decode cX0_become 48 = .ok (.aload_n 0, 1) := by decide +kernel
theorem dX0_become_49 : decode cX0_become 49 = .ok (.aload_n 1, 1) := by decide +kernel
theorem dX0_become_50 : decode cX0_become 50 = .ok (.getfield 37, 3) := by decide +kernel
theorem dX0_become_53 : decode cX0_become 53 = .ok (.putfield 37, 3) := by decide +kernel
theorem dX0_become_56 : decode cX0_become 56 = .ok (.aload_n 0, 1) := by decide +kernel
theorem dX0_become_57 : decode cX0_become 57 = .ok (.aload_n 1, 1) := by decide +kernel
theorem dX0_become_58 : decode cX0_become 58 = .ok (.getfield 40, 3) := by decide +kernel
theorem dX0_become_61 : decode cX0_become 61 = .ok (.putfield 40, 3) := by decide +kernel
theorem dX0_become_64 : decode cX0_become 64 = .ok (.aload_n 0, 1) := by decide +kernel
theorem dX0_become_65 : decode cX0_become 65 = .ok (.aload_n 1, 1) := by decide +kernel
theorem dX0_become_66 : decode cX0_become 66 = .ok (.getfield 43, 3) := by decide +kernel
theorem dX0_become_69 : decode cX0_become 69 = .ok (.putfield 43, 3) := by decide +kernel
theorem dX0_become_72 : decode cX0_become 72 = .ok (.aload_n 0, 1) := by decide +kernel
theorem dX0_become_73 : decode cX0_become 73 = .ok (.aload_n 1, 1) := by decide +kernel
theorem dX0_become_74 : decode cX0_become 74 = .ok (.getfield 57, 3) := by decide +kernel
theorem dX0_become_77 : decode cX0_become 77 = .ok (.putfield 57, 3) := by decide +kernel
theorem dX0_become_80 : decode cX0_become 80 = .ok (.aload_n 0, 1) := by decide +kernel
theorem dX0_become_81 : decode cX0_become 81 = .ok (.aload_n 1, 1) := by decide +kernel
theorem dX0_become_82 : decode cX0_become 82 = .ok (.getfield 60, 3) := by decide +kernel
theorem dX0_become_85 : decode cX0_become 85 = .ok (.putfield 60, 3) := by decide +kernel
theorem dX0_become_88 : decode cX0_become 88 = .ok (.aload_n 0, 1) := by decide +kernel
theorem dX0_become_89 : decode cX0_become 89 = .ok (.aload_n 1, 1) := by decide +kernel
theorem dX0_become_90 : decode cX0_become 90 = .ok (.getfield 63, 3) := by decide +kernel
theorem dX0_become_93 : decode cX0_become 93 = .ok (.putfield 63, 3) := by decide +kernel
theorem dX0_become_96 : decode cX0_become 96 = .ok (.aload_n 0, 1) := by decide +kernel
theorem dX0_become_97 : decode cX0_become 97 = .ok (.aload_n 1, 1) := by decide +kernel
theorem dX0_become_98 : decode cX0_become 98 = .ok (.getfield 66, 3) := by decide +kernel
theorem dX0_become_101 : decode cX0_become 101 = .ok (.putfield 66, 3) := by decide +kernel
theorem dX0_become_104 : decode cX0_become 104 = .ok (.aload_n 0, 1) := by decide +kernel
theorem dX0_become_105 : decode cX0_become 105 = .ok (.aload_n 1, 1) := by decide +kernel
theorem dX0_become_106 : decode cX0_become 106 = .ok (.getfield 69, 3) := by decide +kernel
theorem dX0_become_109 : decode cX0_become 109 = .ok (.putfield 69, 3) := by decide +kernel
theorem dX0_become_112 : decode cX0_become 112 = .ok (.aload_n 0, 1) := by decide +kernel
theorem dX0_become_113 : decode cX0_become 113 = .ok (.aload_n 1, 1) := by decide +kernel
theorem dX0_become_114 : decode cX0_become 114 = .ok (.getfield 72, 3) := by decide +kernel
theorem dX0_become_117 : decode cX0_become 117 = .ok (.putfield 72, 3) := by decide +kernel
theorem dX0_become_120 : decode cX0_become 120 = .ok (.aload_n 0, 1) := by decide +kernel
theorem dX0_become_121 : decode cX0_become 121 = .ok (.aload_n 1, 1) := by decide +kernel
theorem dX0_become_122 : decode cX0_become 122 = .ok (.getfield 9, 3) := by decide +kernel
theorem dX0_become_125 : decode cX0_become 125 = .ok (.putfield 9, 3) := by decide +kernel
theorem dX0_become_128 : decode cX0_become 128 = .ok (.return_, 1) := by decide +kernel
theorem dX0_isField_0 : decode cX0_isField 0 = .ok (.iload_n 1, 1) := by decide +kernel
theorem dX0_isField_1 : decode cX0_isField 1 = .ok (.ifCond .lt 15, 3) := by decide +kernel
theorem dX0_isField_4 : decode cX0_isField 4 = .ok (.iload_n 1, 1) := by decide +kernel
theorem dX0_isField_5 : decode cX0_isField 5 = .ok (.aload_n 0, 1) := by decide +kernel
theorem dX0_isField_6 : decode cX0_isField 6 = .ok (.getfield 25, 3) := by decide +kernel
theorem dX0_isField_9 : decode cX0_isField 9 = .ok (.if_icmp .ge 7, 3) := by decide +kernel
theorem dX0_isField_12 : decode cX0_isField 12 = .ok (.iconst 1, 1) := by decide +kernel
theorem dX0_isField_13 : decode cX0_isField 13 = .ok (.goto 4, 3) := by decide +kernel
theorem dX0_isField_16 : decode cX0_isField 16 = .ok (.iconst 0, 1) := by decide +kernel
theorem dX0_isField_17 : decode cX0_isField 17 = .ok (.ireturn, 1) := by decide +kernel
theorem dX0_isEdge_0 : decode cX0_isEdge 0 = .ok (.iload_n 1, 1) := by decide +kernel
theorem dX0_isEdge_1 : decode cX0_isEdge 1 = .ok (.ifCond .lt 15, 3) := by decide +kernel
theorem dX0_isEdge_4 : decode cX0_isEdge 4 = .ok (.iload_n 1, 1) := by decide +kernel
theorem dX0_isEdge_5 : decode cX0_isEdge 5 = .ok (.aload_n 0, 1) := by decide +kernel
theorem dX0_isEdge_6 : decode cX0_isEdge 6 = .ok (.getfield 31, 3) := by decide +kernel
theorem dX0_isEdge_9 : decode cX0_isEdge 9 = .ok (.if_icmp .ge 7, 3) := by decide +kernel
theorem dX0_isEdge_12 : decode cX0_isEdge 12 = .ok (.iconst 1, 1) := by decide +kernel
theorem dX0_isEdge_13 : decode cX0_isEdge 13 = .ok (.goto 4, 3) := by decide +kernel
theorem dX0_isEdge_16 : decode cX0_isEdge 16 = .ok (.iconst 0, 1) := by decide +kernel
theorem dX0_isEdge_17 : decode cX0_isEdge 17 = .ok (.ireturn, 1) := by decide +kernel
theorem dX0_isHedged_0 : decode cX0_isHedged 0 = .ok (.aload_n 0, 1) := by decide +kernel
theorem dX0_isHedged_1 : decode cX0_isHedged 1 = .ok (.getfield 57, 3) := by decide +kernel
theorem dX0_isHedged_4 : decode cX0_isHedged 4 = .ok (.iload_n 1, 1) := by decide +kernel
theorem dX0_isHedged_5 : decode cX0_isHedged 5 = .ok (.lushr, 1) := by decide +kernel
theorem dX0_isHedged_6 : decode cX0_isHedged 6 = .ok (.lconst 1, 1) := by decide +kernel
theorem dX0_isHedged_7 : decode cX0_isHedged 7 = .ok (.land, 1) := by decide +kernel
theorem dX0_isHedged_8 : decode cX0_isHedged 8 = .ok (.lconst 0, 1) := by decide +kernel
theorem dX0_isHedged_9 : decode cX0_isHedged 9 = .ok (.lcmp, 1) := by decide +kernel
theorem dX0_isHedged_10 : decode cX0_isHedged 10 = .ok (.ifCond .eq 7, 3) := by decide +kernel
theorem dX0_isHedged_13 : decode cX0_isHedged 13 = .ok (.iconst 1, 1) := by decide +kernel
theorem dX0_isHedged_14 : decode cX0_isHedged 14 = .ok (.goto 4, 3) := by decide +kernel
theorem dX0_isHedged_17 : decode cX0_isHedged 17 = .ok (.iconst 0, 1) := by decide +kernel
theorem dX0_isHedged_18 : decode cX0_isHedged 18 = .ok (.ireturn, 1) := by decide +kernel
theorem dX0_rowOf_0 : decode cX0_rowOf 0 = .ok (.aload_n 0, 1) := by decide +kernel
theorem dX0_rowOf_1 : decode cX0_rowOf 1 = .ok (.getfield 19, 3) := by decide +kernel
theorem dX0_rowOf_4 : decode cX0_rowOf 4 = .ok (.ifCond .le 12, 3) := by decide +kernel
theorem dX0_rowOf_7 : decode cX0_rowOf 7 = .ok (.iload_n 1, 1) := by decide +kernel
theorem dX0_rowOf_8 : decode cX0_rowOf 8 = .ok (.aload_n 0, 1) := by decide +kernel
theorem dX0_rowOf_9 : decode cX0_rowOf 9 = .ok (.getfield 19, 3) := by decide +kernel
theorem dX0_rowOf_12 : decode cX0_rowOf 12 = .ok (.idiv, 1) := by decide +kernel
theorem dX0_rowOf_13 : decode cX0_rowOf 13 = .ok (.goto 4, 3) := by decide +kernel
theorem dX0_rowOf_16 : decode cX0_rowOf 16 = .ok (.iconst 0, 1) := by decide +kernel
theorem dX0_rowOf_17 : decode cX0_rowOf 17 = .ok (.ireturn, 1) := by decide +kernel
theorem dX0_edgeAbove_0 : decode cX0_edgeAbove 0 = .ok (.iload_n 1, 1) := by decide +kernel
theorem dX0_edgeAbove_1 : decode cX0_edgeAbove 1 = .ok (.ireturn, 1) := by decide +kernel
theorem dX0_edgeBelow_0 : decode cX0_edgeBelow 0 = .ok (.iload_n 1, 1) := by decide +kernel
theorem dX0_edgeBelow_1 : decode cX0_edgeBelow 1 = .ok (.aload_n 0, 1) := by decide +kernel
theorem dX0_edgeBelow_2 : decode cX0_edgeBelow 2 = .ok (.getfield 19, 3) := by decide +kernel
theorem dX0_edgeBelow_5 : decode cX0_edgeBelow 5 = .ok (.iadd, 1) := by decide +kernel
theorem dX0_edgeBelow_6 : decode cX0_edgeBelow 6 = .ok (.ireturn, 1) := by decide +kernel
theorem dX0_edgeLeft_0 : decode cX0_edgeLeft 0 = .ok (.aload_n 0, 1) := by decide +kernel
theorem dX0_edgeLeft_1 : decode cX0_edgeLeft 1 = .ok (.getfield 28, 3) := by decide +kernel
theorem dX0_edgeLeft_4 : decode cX0_edgeLeft 4 = .ok (.iload_n 1, 1) := by decide +kernel
theorem dX0_edgeLeft_5 : decode cX0_edgeLeft 5 = .ok (.iadd, 1) := by decide +kernel
theorem dX0_edgeLeft_6 : decode cX0_edgeLeft 6 = .ok (.aload_n 0, 1) := by decide +kernel
theorem dX0_edgeLeft_7 : decode cX0_edgeLeft 7 = .ok (.iload_n 1, 1) := by decide +kernel
theorem dX0_edgeLeft_8 : decode cX0_edgeLeft 8 = .ok (.invokevirtual 75, 3) := by decide +kernel
theorem dX0_edgeLeft_11 : decode cX0_edgeLeft 11 = .ok (.iadd, 1) := by decide +kernel
theorem dX0_edgeLeft_12 : decode cX0_edgeLeft 12 = .ok (.ireturn, 1) := by decide +kernel
theorem dX0_edgeRight_0 : decode cX0_edgeRight 0 = .ok (.aload_n 0, 1) := by decide +kernel
theorem dX0_edgeRight_1 : decode cX0_edgeRight 1 = .ok (.iload_n 1, 1) := by decide +kernel
theorem dX0_edgeRight_2 : decode cX0_edgeRight 2 = .ok (.invokevirtual 78, 3) := by decide +kernel
theorem dX0_edgeRight_5 : decode cX0_edgeRight 5 = .ok (.iconst 1, 1) := by decide +kernel
theorem dX0_edgeRight_6 : decode cX0_edgeRight 6 = .ok (.iadd, 1) := by decide +kernel
theorem dX0_edgeRight_7 : decode cX0_edgeRight 7 = .ok (.ireturn, 1) := by decide +kernel
theorem dX0_uprightRow_0 : decode cX0_uprightRow 0 = .ok (.aload_n 0, 1) := by decide +kernel
theorem dX0_uprightRow_1 : decode cX0_uprightRow 1 = .ok (.getfield 19, 3) := by decide +kernel
theorem dX0_uprightRow_4 : decode cX0_uprightRow 4 = .ok (.iconst 1, 1) := by decide +kernel
theorem dX0_uprightRow_5 : decode cX0_uprightRow 5 = .ok (.iadd, 1) := by decide +kernel
theorem dX0_uprightRow_6 : decode cX0_uprightRow 6 = .ok (.istore_n 2, 1) := by decide +kernel
theorem dX0_uprightRow_7 : decode cX0_uprightRow 7 = .ok (.iload_n 2, 1) := by decide +kernel
theorem dX0_uprightRow_8 : decode cX0_uprightRow 8 = .ok (.ifCond .le 14, 3) := by decide +kernel
theorem dX0_uprightRow_11 : decode cX0_uprightRow 11 = .ok (.iload_n 1, 1) := by decide +kernel
theorem dX0_uprightRow_12 : decode cX0_uprightRow 12 = .ok (.aload_n 0, 1) := by decide +kernel
theorem dX0_uprightRow_13 : decode cX0_uprightRow 13 = .ok (.getfield 28, 3) := by decide +kernel
theorem dX0_uprightRow_16 : decode cX0_uprightRow 16 = .ok (.isub, 1) := by decide +kernel
theorem dX0_uprightRow_17 : decode cX0_uprightRow 17 = .ok (.iload_n 2, 1) := by decide +kernel
theorem dX0_uprightRow_18 : decode cX0_uprightRow 18 = .ok (.idiv, 1) := by decide +kernel
theorem dX0_uprightRow_19 : decode cX0_uprightRow 19 = .ok (.goto 4, 3) := by decide +kernel
theorem dX0_uprightRow_22 : decode cX0_uprightRow 22 = .ok (.iconst 0, 1) := by decide +kernel
theorem dX0_uprightRow_23 : decode cX0_uprightRow 23 = .ok (.ireturn, 1) := by decide +kernel
theorem dX0_fieldAhead_0 : decode cX0_fieldAhead 0 = .ok (.iload_n 1, 1) := by decide +kernel
theorem dX0_fieldAhead_1 : decode cX0_fieldAhead 1 = .ok (.aload_n 0, 1) := by decide +kernel
theorem dX0_fieldAhead_2 : decode cX0_fieldAhead 2 = .ok (.getfield 28, 3) := by decide +kernel
theorem dX0_fieldAhead_5 : decode cX0_fieldAhead 5 = .ok (.if_icmp .ge 22, 3) := by decide +kernel
theorem dX0_fieldAhead_8 : decode cX0_fieldAhead 8 = .ok (.iload_n 1, 1) := by decide +kernel
theorem dX0_fieldAhead_9 : decode cX0_fieldAhead 9 = .ok (.aload_n 0, 1) := by decide +kernel
theorem dX0_fieldAhead_10 : decode cX0_fieldAhead 10 = .ok (.getfield 19, 3) := by decide +kernel
theorem dX0_fieldAhead_13 : decode cX0_fieldAhead 13 = .ok (.if_icmp .lt 12, 3) := by decide +kernel
theorem dX0_fieldAhead_16 : decode cX0_fieldAhead 16 = .ok (.iload_n 1, 1) := by decide +kernel
theorem dX0_fieldAhead_17 : decode cX0_fieldAhead 17 = .ok (.aload_n 0, 1) := by decide +kernel
theorem dX0_fieldAhead_18 : decode cX0_fieldAhead 18 = .ok (.getfield 19, 3) := by decide +kernel
theorem dX0_fieldAhead_21 : decode cX0_fieldAhead 21 = .ok (.isub, 1) := by decide +kernel
theorem dX0_fieldAhead_22 : decode cX0_fieldAhead 22 = .ok (.goto 4, 3) := by decide +kernel
theorem dX0_fieldAhead_25 : decode cX0_fieldAhead 25 = .ok (.iconst (-1), 1) := by decide +kernel
theorem dX0_fieldAhead_26 : decode cX0_fieldAhead 26 = .ok (.ireturn, 1) := by decide +kernel
theorem dX0_fieldAhead_27 : decode cX0_fieldAhead 27 = .ok (.aload_n 0, 1) := by decide +kernel
theorem dX0_fieldAhead_28 : decode cX0_fieldAhead 28 = .ok (.iload_n 1, 1) := by decide +kernel
theorem dX0_fieldAhead_29 : decode cX0_fieldAhead 29 = .ok (.invokevirtual 81, 3) := by decide +kernel
theorem dX0_fieldAhead_32 : decode cX0_fieldAhead 32 = .ok (.istore_n 2, 1) := by decide +kernel
theorem dX0_fieldAhead_33 : decode cX0_fieldAhead 33 = .ok (.iload_n 1, 1) := by decide +kernel
theorem dX0_fieldAhead_34 : decode cX0_fieldAhead 34 = .ok (.aload_n 0, 1) := by decide +kernel
theorem dX0_fieldAhead_35 : decode cX0_fieldAhead 35 = .ok (.getfield 28, 3) := by decide +kernel
theorem dX0_fieldAhead_38 : decode cX0_fieldAhead 38 = .ok (.isub, 1) := by decide +kernel
theorem dX0_fieldAhead_39 : decode cX0_fieldAhead 39 = .ok (.iload_n 2, 1) := by decide +kernel
theorem dX0_fieldAhead_40 : decode cX0_fieldAhead 40 = .ok (.aload_n 0, 1) := by decide +kernel
theorem dX0_fieldAhead_41 : decode cX0_fieldAhead 41 = .ok (.getfield 19, 3) := by decide +kernel
theorem dX0_fieldAhead_44 : decode cX0_fieldAhead 44 = .ok (.iconst 1, 1) := by decide +kernel
theorem dX0_fieldAhead_45 : decode cX0_fieldAhead 45 = .ok (.iadd, 1) := by decide +kernel
theorem dX0_fieldAhead_46 : decode cX0_fieldAhead 46 = .ok (.imul, 1) := by decide +kernel
theorem dX0_fieldAhead_47 : decode cX0_fieldAhead 47 = .ok (.isub, 1) := by decide +kernel
theorem dX0_fieldAhead_48 : decode cX0_fieldAhead 48 = .ok (.istore_n 3, 1) := by decide +kernel
theorem dX0_fieldAhead_49 : decode cX0_fieldAhead 49 = .ok (.iload_n 3, 1) := by decide +kernel
theorem dX0_fieldAhead_50 : decode cX0_fieldAhead 50 = .ok (.ifCond .le 16, 3) := by decide +kernel
theorem dX0_fieldAhead_53 : decode cX0_fieldAhead 53 = .ok (.iload_n 2, 1) := by decide +kernel
theorem dX0_fieldAhead_54 : decode cX0_fieldAhead 54 = .ok (.aload_n 0, 1) := by decide +kernel
theorem dX0_fieldAhead_55 : decode cX0_fieldAhead 55 = .ok (.getfield 19, 3) := by decide +kernel
theorem dX0_fieldAhead_58 : decode cX0_fieldAhead 58 = .ok (.imul, 1) := by decide +kernel
theorem dX0_fieldAhead_59 : decode cX0_fieldAhead 59 = .ok (.iload_n 3, 1) := by decide +kernel
theorem dX0_fieldAhead_60 : decode cX0_fieldAhead 60 = .ok (.iadd, 1) := by decide +kernel
theorem dX0_fieldAhead_61 : decode cX0_fieldAhead 61 = .ok (.iconst 1, 1) := by decide +kernel
theorem dX0_fieldAhead_62 : decode cX0_fieldAhead 62 = .ok (.isub, 1) := by decide +kernel
theorem dX0_fieldAhead_63 : decode cX0_fieldAhead 63 = .ok (.goto 4, 3) := by decide +kernel
theorem dX0_fieldAhead_66 : decode cX0_fieldAhead 66 = .ok (.iconst (-1), 1) := by decide +kernel
theorem dX0_fieldAhead_67 : decode cX0_fieldAhead 67 = .ok (.ireturn, 1) := by decide +kernel
theorem dX0_fieldBeyond_0 : decode cX0_fieldBeyond 0 = .ok (.iload_n 1, 1) := by decide +kernel
theorem dX0_fieldBeyond_1 : decode cX0_fieldBeyond 1 = .ok (.aload_n 0, 1) := by decide +kernel
theorem dX0_fieldBeyond_2 : decode cX0_fieldBeyond 2 = .ok (.getfield 28, 3) := by decide +kernel
theorem dX0_fieldBeyond_5 : decode cX0_fieldBeyond 5 = .ok (.if_icmp .ge 17, 3) := by decide +kernel
theorem dX0_fieldBeyond_8 : decode cX0_fieldBeyond 8 = .ok (.iload_n 1, 1) := by decide +kernel
theorem dX0_fieldBeyond_9 : decode cX0_fieldBeyond 9 = .ok (.aload_n 0, 1) := by decide +kernel
theorem dX0_fieldBeyond_10 : decode cX0_fieldBeyond 10 = .ok (.getfield 25, 3) := by decide +kernel
theorem dX0_fieldBeyond_13 : decode cX0_fieldBeyond 13 = .ok (.if_icmp .ge 7, 3) := by decide +kernel
theorem dX0_fieldBeyond_16 : decode cX0_fieldBeyond 16 = .ok (.iload_n 1, 1) := by decide +kernel
theorem dX0_fieldBeyond_17 : decode cX0_fieldBeyond 17 = .ok (.goto 4, 3) := by decide +kernel
theorem dX0_fieldBeyond_20 : decode cX0_fieldBeyond 20 = .ok (.iconst (-1), 1) := by decide +kernel
theorem dX0_fieldBeyond_21 : decode cX0_fieldBeyond 21 = .ok (.ireturn, 1) := by decide +kernel
theorem dX0_fieldBeyond_22 : decode cX0_fieldBeyond 22 = .ok (.aload_n 0, 1) := by decide +kernel
theorem dX0_fieldBeyond_23 : decode cX0_fieldBeyond 23 = .ok (.iload_n 1, 1) := by decide +kernel
theorem dX0_fieldBeyond_24 : decode cX0_fieldBeyond 24 = .ok (.invokevirtual 81, 3) := by decide +kernel
theorem dX0_fieldBeyond_27 : decode cX0_fieldBeyond 27 = .ok (.istore_n 2, 1) := by decide +kernel
theorem dX0_fieldBeyond_28 : decode cX0_fieldBeyond 28 = .ok (.iload_n 1, 1) := by decide +kernel
theorem dX0_fieldBeyond_29 : decode cX0_fieldBeyond 29 = .ok (.aload_n 0, 1) := by decide +kernel
theorem dX0_fieldBeyond_30 : decode cX0_fieldBeyond 30 = .ok (.getfield 28, 3) := by decide +kernel
theorem dX0_fieldBeyond_33 : decode cX0_fieldBeyond 33 = .ok (.isub, 1) := by decide +kernel
theorem dX0_fieldBeyond_34 : decode cX0_fieldBeyond 34 = .ok (.iload_n 2, 1) := by decide +kernel
theorem dX0_fieldBeyond_35 : decode cX0_fieldBeyond 35 = .ok (.aload_n 0, 1) := by decide +kernel
theorem dX0_fieldBeyond_36 : decode cX0_fieldBeyond 36 = .ok (.getfield 19, 3) := by decide +kernel
theorem dX0_fieldBeyond_39 : decode cX0_fieldBeyond 39 = .ok (.iconst 1, 1) := by decide +kernel
theorem dX0_fieldBeyond_40 : decode cX0_fieldBeyond 40 = .ok (.iadd, 1) := by decide +kernel
theorem dX0_fieldBeyond_41 : decode cX0_fieldBeyond 41 = .ok (.imul, 1) := by decide +kernel
theorem dX0_fieldBeyond_42 : decode cX0_fieldBeyond 42 = .ok (.isub, 1) := by decide +kernel
theorem dX0_fieldBeyond_43 : decode cX0_fieldBeyond 43 = .ok (.istore_n 3, 1) := by decide +kernel
theorem dX0_fieldBeyond_44 : decode cX0_fieldBeyond 44 = .ok (.iload_n 3, 1) := by decide +kernel
theorem dX0_fieldBeyond_45 : decode cX0_fieldBeyond 45 = .ok (.aload_n 0, 1) := by decide +kernel
theorem dX0_fieldBeyond_46 : decode cX0_fieldBeyond 46 = .ok (.getfield 19, 3) := by decide +kernel
theorem dX0_fieldBeyond_49 : decode cX0_fieldBeyond 49 = .ok (.if_icmp .ge 14, 3) := by decide +kernel
theorem dX0_fieldBeyond_52 : decode cX0_fieldBeyond 52 = .ok (.iload_n 2, 1) := by decide +kernel
theorem dX0_fieldBeyond_53 : decode cX0_fieldBeyond 53 = .ok (.aload_n 0, 1) := by decide +kernel
theorem dX0_fieldBeyond_54 : decode cX0_fieldBeyond 54 = .ok (.getfield 19, 3) := by decide +kernel
theorem dX0_fieldBeyond_57 : decode cX0_fieldBeyond 57 = .ok (.imul, 1) := by decide +kernel
theorem dX0_fieldBeyond_58 : decode cX0_fieldBeyond 58 = .ok (.iload_n 3, 1) := by decide +kernel
theorem dX0_fieldBeyond_59 : decode cX0_fieldBeyond 59 = .ok (.iadd, 1) := by decide +kernel
theorem dX0_fieldBeyond_60 : decode cX0_fieldBeyond 60 = .ok (.goto 4, 3) := by decide +kernel
theorem dX0_fieldBeyond_63 : decode cX0_fieldBeyond 63 = .ok (.iconst (-1), 1) := by decide +kernel
theorem dX0_fieldBeyond_64 : decode cX0_fieldBeyond 64 = .ok (.ireturn, 1) := by decide +kernel
theorem dX0_withAbove_0 : decode cX0_withAbove 0 = .ok (.lload_n 1, 1) := by decide +kernel
theorem dX0_withAbove_1 : decode cX0_withAbove 1 = .ok (.l2i, 1) := by decide +kernel
theorem dX0_withAbove_2 : decode cX0_withAbove 2 = .ok (.aload_n 0, 1) := by decide +kernel
theorem dX0_withAbove_3 : decode cX0_withAbove 3 = .ok (.getfield 34, 3) := by decide +kernel
theorem dX0_withAbove_6 : decode cX0_withAbove 6 = .ok (.iand, 1) := by decide +kernel
theorem dX0_withAbove_7 : decode cX0_withAbove 7 = .ok (.ireturn, 1) := by decide +kernel
theorem dX0_withBelow_0 : decode cX0_withBelow 0 = .ok (.lload_n 1, 1) := by decide +kernel
theorem dX0_withBelow_1 : decode cX0_withBelow 1 = .ok (.aload_n 0, 1) := by decide +kernel
theorem dX0_withBelow_2 : decode cX0_withBelow 2 = .ok (.getfield 19, 3) := by decide +kernel
theorem dX0_withBelow_5 : decode cX0_withBelow 5 = .ok (.lushr, 1) := by decide +kernel
theorem dX0_withBelow_6 : decode cX0_withBelow 6 = .ok (.l2i, 1) := by decide +kernel
theorem dX0_withBelow_7 : decode cX0_withBelow 7 = .ok (.aload_n 0, 1) := by decide +kernel
theorem dX0_withBelow_8 : decode cX0_withBelow 8 = .ok (.getfield 34, 3) := by decide +kernel
theorem dX0_withBelow_11 : decode cX0_withBelow 11 = .ok (.iand, 1) := by decide +kernel
theorem dX0_withBelow_12 : decode cX0_withBelow 12 = .ok (.ireturn, 1) := by decide +kernel
theorem dX0_withUpright_0 : decode cX0_withUpright 0 = .ok (.iconst 1, 1) := by decide +kernel
theorem dX0_withUpright_1 : decode cX0_withUpright 1 = .ok (.aload_n 0, 1) := by decide +kernel
theorem dX0_withUpright_2 : decode cX0_withUpright 2 = .ok (.getfield 19, 3) := by decide +kernel
theorem dX0_withUpright_5 : decode cX0_withUpright 5 = .ok (.ishl, 1) := by decide +kernel
theorem dX0_withUpright_6 : decode cX0_withUpright 6 = .ok (.iconst 1, 1) := by decide +kernel
theorem dX0_withUpright_7 : decode cX0_withUpright 7 = .ok (.isub, 1) := by decide +kernel
theorem dX0_withUpright_8 : decode cX0_withUpright 8 = .ok (.istore 4, 2) := by decide +kernel
theorem dX0_withUpright_10 : decode cX0_withUpright 10 = .ok (.iconst 0, 1) := by decide +kernel
theorem dX0_withUpright_11 : decode cX0_withUpright 11 = .ok (.istore 5, 2) := by decide +kernel
theorem dX0_withUpright_13 : decode cX0_withUpright 13 = .ok (.iconst 0, 1) := by decide +kernel
theorem dX0_withUpright_14 : decode cX0_withUpright 14 = .ok (.istore 6, 2) := by decide +kernel
theorem dX0_withUpright_16 : decode cX0_withUpright 16 = .ok (.iload 6, 2) := by decide +kernel
theorem dX0_withUpright_18 : decode cX0_withUpright 18 = .ok (.aload_n 0, 1) := by decide +kernel
theorem dX0_withUpright_19 : decode cX0_withUpright 19 = .ok (.getfield 22, 3) := by decide +kernel
theorem dX0_withUpright_22 : decode cX0_withUpright 22 = .ok (.if_icmp .ge 44, 3) := by decide +kernel
theorem dX0_withUpright_25 : decode cX0_withUpright 25 = .ok (.iload 5, 2) := by decide +kernel
theorem dX0_withUpright_27 : decode cX0_withUpright 27 = .ok (.lload_n 1, 1) := by decide +kernel
theorem dX0_withUpright_28 : decode cX0_withUpright 28 = .ok (.aload_n 0, 1) := by decide +kernel
theorem dX0_withUpright_29 : decode cX0_withUpright 29 = .ok (.getfield 28, 3) := by decide +kernel
theorem dX0_withUpright_32 : decode cX0_withUpright 32 = .ok (.iload 6, 2) := by decide +kernel
theorem dX0_withUpright_34 : decode cX0_withUpright 34 = .ok (.aload_n 0, 1) := by decide +kernel
theorem dX0_withUpright_35 : decode cX0_withUpright 35 = .ok (.getfield 19, 3) := by decide +kernel
theorem dX0_withUpright_38 : decode cX0_withUpright 38 = .ok (.iconst 1, 1) := by decide +kernel
theorem dX0_withUpright_39 : decode cX0_withUpright 39 = .ok (.iadd, 1) := by decide +kernel
theorem dX0_withUpright_40 : decode cX0_withUpright 40 = .ok (.imul, 1) := by decide +kernel
theorem dX0_withUpright_41 : decode cX0_withUpright 41 = .ok (.iadd, 1) := by decide +kernel
theorem dX0_withUpright_42 : decode cX0_withUpright 42 = .ok (.iload_n 3, 1) := by decide +kernel
theorem dX0_withUpright_43 : decode cX0_withUpright 43 = .ok (.iadd, 1) := by decide +kernel
theorem dX0_withUpright_44 : decode cX0_withUpright 44 = .ok (.lushr, 1) := by decide +kernel
theorem dX0_withUpright_45 : decode cX0_withUpright 45 = .ok (.l2i, 1) := by decide +kernel
theorem dX0_withUpright_46 : decode cX0_withUpright 46 = .ok (.iload 4, 2) := by decide +kernel
theorem dX0_withUpright_48 : decode cX0_withUpright 48 = .ok (.iand, 1) := by decide +kernel
theorem dX0_withUpright_49 : decode cX0_withUpright 49 = .ok (.iload 6, 2) := by decide +kernel
theorem dX0_withUpright_51 : decode cX0_withUpright 51 = .ok (.aload_n 0, 1) := by decide +kernel
theorem dX0_withUpright_52 : decode cX0_withUpright 52 = .ok (.getfield 19, 3) := by decide +kernel
theorem dX0_withUpright_55 : decode cX0_withUpright 55 = .ok (.imul, 1) := by decide +kernel
theorem dX0_withUpright_56 : decode cX0_withUpright 56 = .ok (.ishl, 1) := by decide +kernel
theorem dX0_withUpright_57 : decode cX0_withUpright 57 = .ok (.ior, 1) := by decide +kernel
theorem dX0_withUpright_58 : decode cX0_withUpright 58 = .ok (.istore 5, 2) := by decide +kernel
theorem dX0_withUpright_60 : decode cX0_withUpright 60 = .ok (.iinc 6 1, 3) := by decide +kernel
theorem dX0_withUpright_63 : decode cX0_withUpright 63 = .ok (.goto (-47), 3) := by decide +kernel
theorem dX0_withUpright_66 : decode cX0_withUpright 66 = .ok (.iload 5, 2) := by decide +kernel
theorem dX0_withUpright_68 : decode cX0_withUpright 68 = .ok (.ireturn, 1) := by decide +kernel
theorem dX0_touched_0 : decode cX0_touched 0 = .ok (.aload_n 0, 1) := by decide +kernel
theorem dX0_touched_1 : decode cX0_touched 1 = .ok (.lload_n 1, 1) := by decide +kernel
theorem dX0_touched_2 : decode cX0_touched 2 = .ok (.invokevirtual 84, 3) := by decide +kernel
theorem dX0_touched_5 : decode cX0_touched 5 = .ok (.aload_n 0, 1) := by decide +kernel
theorem dX0_touched_6 : decode cX0_touched 6 = .ok (.lload_n 1, 1) := by decide +kernel
theorem dX0_touched_7 : decode cX0_touched 7 = .ok (.invokevirtual 88, 3) := by decide +kernel
theorem dX0_touched_10 : decode cX0_touched 10 = .ok (.ior, 1) := by decide +kernel
theorem dX0_touched_11 : decode cX0_touched 11 = .ok (.aload_n 0, 1) := by decide +kernel
theorem dX0_touched_12 : decode cX0_touched 12 = .ok (.lload_n 1, 1) := by decide +kernel
theorem dX0_touched_13 : decode cX0_touched 13 = .ok (.iconst 0, 1) := by decide +kernel
theorem dX0_touched_14 : decode cX0_touched 14 = .ok (.invokevirtual 91, 3) := by decide +kernel
theorem dX0_touched_17 : decode cX0_touched 17 = .ok (.ior, 1) := by decide +kernel
theorem dX0_touched_18 : decode cX0_touched 18 = .ok (.aload_n 0, 1) := by decide +kernel
theorem dX0_touched_19 : decode cX0_touched 19 = .ok (.lload_n 1, 1) := by decide +kernel
theorem dX0_touched_20 : decode cX0_touched 20 = .ok (.iconst 1, 1) := by decide +kernel
theorem dX0_touched_21 : decode cX0_touched 21 = .ok (.invokevirtual 91, 3) := by decide +kernel
theorem dX0_touched_24 : decode cX0_touched 24 = .ok (.ior, 1) := by decide +kernel
theorem dX0_touched_25 : decode cX0_touched 25 = .ok (.ireturn, 1) := by decide +kernel
theorem dX0_closed_0 : decode cX0_closed 0 = .ok (.aload_n 0, 1) := by decide +kernel
theorem dX0_closed_1 : decode cX0_closed 1 = .ok (.lload_n 1, 1) := by decide +kernel
theorem dX0_closed_2 : decode cX0_closed 2 = .ok (.invokevirtual 84, 3) := by decide +kernel
theorem dX0_closed_5 : decode cX0_closed 5 = .ok (.aload_n 0, 1) := by decide +kernel
theorem dX0_closed_6 : decode cX0_closed 6 = .ok (.lload_n 1, 1) := by decide +kernel
theorem dX0_closed_7 : decode cX0_closed 7 = .ok (.invokevirtual 88, 3) := by decide +kernel
theorem dX0_closed_10 : decode cX0_closed 10 = .ok (.iand, 1) := by decide +kernel
theorem dX0_closed_11 : decode cX0_closed 11 = .ok (.aload_n 0, 1) := by decide +kernel
theorem dX0_closed_12 : decode cX0_closed 12 = .ok (.lload_n 1, 1) := by decide +kernel
theorem dX0_closed_13 : decode cX0_closed 13 = .ok (.iconst 0, 1) := by decide +kernel
theorem dX0_closed_14 : decode cX0_closed 14 = .ok (.invokevirtual 91, 3) := by decide +kernel
theorem dX0_closed_17 : decode cX0_closed 17 = .ok (.iand, 1) := by decide +kernel
theorem dX0_closed_18 : decode cX0_closed 18 = .ok (.aload_n 0, 1) := by decide +kernel
theorem dX0_closed_19 : decode cX0_closed 19 = .ok (.lload_n 1, 1) := by decide +kernel
theorem dX0_closed_20 : decode cX0_closed 20 = .ok (.iconst 1, 1) := by decide +kernel
theorem dX0_closed_21 : decode cX0_closed 21 = .ok (.invokevirtual 91, 3) := by decide +kernel
theorem dX0_closed_24 : decode cX0_closed 24 = .ok (.iand, 1) := by decide +kernel
theorem dX0_closed_25 : decode cX0_closed 25 = .ok (.ireturn, 1) := by decide +kernel
theorem dX0_withThree_0 : decode cX0_withThree 0 = .ok (.aload_n 0, 1) := by decide +kernel
theorem dX0_withThree_1 : decode cX0_withThree 1 = .ok (.lload_n 1, 1) := by decide +kernel
theorem dX0_withThree_2 : decode cX0_withThree 2 = .ok (.invokevirtual 84, 3) := by decide +kernel
theorem dX0_withThree_5 : decode cX0_withThree 5 = .ok (.istore_n 3, 1) := by decide +kernel
theorem dX0_withThree_6 : decode cX0_withThree 6 = .ok (.aload_n 0, 1) := by decide +kernel
theorem dX0_withThree_7 : decode cX0_withThree 7 = .ok (.lload_n 1, 1) := by decide +kernel
theorem dX0_withThree_8 : decode cX0_withThree 8 = .ok (.invokevirtual 88, 3) := by decide +kernel
theorem dX0_withThree_11 : decode cX0_withThree 11 = .ok (.istore 4, 2) := by decide +kernel
theorem dX0_withThree_13 : decode cX0_withThree 13 = .ok (.aload_n 0, 1) := by decide +kernel
theorem dX0_withThree_14 : decode cX0_withThree 14 = .ok (.lload_n 1, 1) := by decide +kernel
theorem dX0_withThree_15 : decode cX0_withThree 15 = .ok (.iconst 0, 1) := by decide +kernel
theorem dX0_withThree_16 : decode cX0_withThree 16 = .ok (.invokevirtual 91, 3) := by decide +kernel
theorem dX0_withThree_19 : decode cX0_withThree 19 = .ok (.istore 5, 2) := by decide +kernel
theorem dX0_withThree_21 : decode cX0_withThree 21 = .ok (.aload_n 0, 1) := by decide +kernel
theorem dX0_withThree_22 : decode cX0_withThree 22 = .ok (.lload_n 1, 1) := by decide +kernel
theorem dX0_withThree_23 : decode cX0_withThree 23 = .ok (.iconst 1, 1) := by decide +kernel
theorem dX0_withThree_24 : decode cX0_withThree 24 = .ok (.invokevirtual 91, 3) := by decide +kernel
theorem dX0_withThree_27 : decode cX0_withThree 27 = .ok (.istore 6, 2) := by decide +kernel
theorem dX0_withThree_29 : decode cX0_withThree 29 = .ok (.iload_n 3, 1) := by decide +kernel
theorem dX0_withThree_30 : decode cX0_withThree 30 = .ok (.iload 4, 2) := by decide +kernel
theorem dX0_withThree_32 : decode cX0_withThree 32 = .ok (.iand, 1) := by decide +kernel
theorem dX0_withThree_33 : decode cX0_withThree 33 = .ok (.iload 5, 2) := by decide +kernel
theorem dX0_withThree_35 : decode cX0_withThree 35 = .ok (.iload 6, 2) := by decide +kernel
theorem dX0_withThree_37 : decode cX0_withThree 37 = .ok (.ixor, 1) := by decide +kernel
theorem dX0_withThree_38 : decode cX0_withThree 38 = .ok (.iand, 1) := by decide +kernel
theorem dX0_withThree_39 : decode cX0_withThree 39 = .ok (.iload 5, 2) := by decide +kernel
theorem dX0_withThree_41 : decode cX0_withThree 41 = .ok (.iload 6, 2) := by decide +kernel
theorem dX0_withThree_43 : decode cX0_withThree 43 = .ok (.iand, 1) := by decide +kernel
theorem dX0_withThree_44 : decode cX0_withThree 44 = .ok (.iload_n 3, 1) := by decide +kernel
theorem dX0_withThree_45 : decode cX0_withThree 45 = .ok (.iload 4, 2) := by decide +kernel
theorem dX0_withThree_47 : decode cX0_withThree 47 = .ok (.ixor, 1) := by decide +kernel
theorem dX0_withThree_48 : decode cX0_withThree 48 = .ok (.iand, 1) := by decide +kernel
theorem dX0_withThree_49 : decode cX0_withThree 49 = .ok (.ior, 1) := by decide +kernel
theorem dX0_withThree_50 : decode cX0_withThree 50 = .ok (.ireturn, 1) := by decide +kernel
theorem dX0_withTwo_0 : decode cX0_withTwo 0 = .ok (.aload_n 0, 1) := by decide +kernel
theorem dX0_withTwo_1 : decode cX0_withTwo 1 = .ok (.lload_n 1, 1) := by decide +kernel
theorem dX0_withTwo_2 : decode cX0_withTwo 2 = .ok (.invokevirtual 84, 3) := by decide +kernel
theorem dX0_withTwo_5 : decode cX0_withTwo 5 = .ok (.istore_n 3, 1) := by decide +kernel
theorem dX0_withTwo_6 : decode cX0_withTwo 6 = .ok (.aload_n 0, 1) := by decide +kernel
theorem dX0_withTwo_7 : decode cX0_withTwo 7 = .ok (.lload_n 1, 1) := by decide +kernel
theorem dX0_withTwo_8 : decode cX0_withTwo 8 = .ok (.invokevirtual 88, 3) := by decide +kernel
theorem dX0_withTwo_11 : decode cX0_withTwo 11 = .ok (.istore 4, 2) := by decide +kernel
theorem dX0_withTwo_13 : decode cX0_withTwo 13 = .ok (.aload_n 0, 1) := by decide +kernel
theorem dX0_withTwo_14 : decode cX0_withTwo 14 = .ok (.lload_n 1, 1) := by decide +kernel
theorem dX0_withTwo_15 : decode cX0_withTwo 15 = .ok (.iconst 0, 1) := by decide +kernel
theorem dX0_withTwo_16 : decode cX0_withTwo 16 = .ok (.invokevirtual 91, 3) := by decide +kernel
theorem dX0_withTwo_19 : decode cX0_withTwo 19 = .ok (.istore 5, 2) := by decide +kernel
theorem dX0_withTwo_21 : decode cX0_withTwo 21 = .ok (.aload_n 0, 1) := by decide +kernel
theorem dX0_withTwo_22 : decode cX0_withTwo 22 = .ok (.lload_n 1, 1) := by decide +kernel
theorem dX0_withTwo_23 : decode cX0_withTwo 23 = .ok (.iconst 1, 1) := by decide +kernel
theorem dX0_withTwo_24 : decode cX0_withTwo 24 = .ok (.invokevirtual 91, 3) := by decide +kernel
theorem dX0_withTwo_27 : decode cX0_withTwo 27 = .ok (.istore 6, 2) := by decide +kernel
theorem dX0_withTwo_29 : decode cX0_withTwo 29 = .ok (.iload_n 3, 1) := by decide +kernel
theorem dX0_withTwo_30 : decode cX0_withTwo 30 = .ok (.iload 4, 2) := by decide +kernel
theorem dX0_withTwo_32 : decode cX0_withTwo 32 = .ok (.ixor, 1) := by decide +kernel
theorem dX0_withTwo_33 : decode cX0_withTwo 33 = .ok (.iload 5, 2) := by decide +kernel
theorem dX0_withTwo_35 : decode cX0_withTwo 35 = .ok (.iload 6, 2) := by decide +kernel
theorem dX0_withTwo_37 : decode cX0_withTwo 37 = .ok (.ixor, 1) := by decide +kernel
theorem dX0_withTwo_38 : decode cX0_withTwo 38 = .ok (.iand, 1) := by decide +kernel
theorem dX0_withTwo_39 : decode cX0_withTwo 39 = .ok (.iload_n 3, 1) := by decide +kernel
theorem dX0_withTwo_40 : decode cX0_withTwo 40 = .ok (.iload 4, 2) := by decide +kernel
theorem dX0_withTwo_42 : decode cX0_withTwo 42 = .ok (.iand, 1) := by decide +kernel
theorem dX0_withTwo_43 : decode cX0_withTwo 43 = .ok (.iload 5, 2) := by decide +kernel
theorem dX0_withTwo_45 : decode cX0_withTwo 45 = .ok (.iconst (-1), 1) := by decide +kernel
theorem dX0_withTwo_46 : decode cX0_withTwo 46 = .ok (.ixor, 1) := by decide +kernel
theorem dX0_withTwo_47 : decode cX0_withTwo 47 = .ok (.iand, 1) := by decide +kernel
theorem dX0_withTwo_48 : decode cX0_withTwo 48 = .ok (.iload 6, 2) := by decide +kernel
theorem dX0_withTwo_50 : decode cX0_withTwo 50 = .ok (.iconst (-1), 1) := by decide +kernel
theorem dX0_withTwo_51 : decode cX0_withTwo 51 = .ok (.ixor, 1) := by decide +kernel
theorem dX0_withTwo_52 : decode cX0_withTwo 52 = .ok (.iand, 1) := by decide +kernel
theorem dX0_withTwo_53 : decode cX0_withTwo 53 = .ok (.ior, 1) := by decide +kernel
theorem dX0_withTwo_54 : decode cX0_withTwo 54 = .ok (.iload 5, 2) := by decide +kernel
theorem dX0_withTwo_56 : decode cX0_withTwo 56 = .ok (.iload 6, 2) := by decide +kernel
theorem dX0_withTwo_58 : decode cX0_withTwo 58 = .ok (.iand, 1) := by decide +kernel
theorem dX0_withTwo_59 : decode cX0_withTwo 59 = .ok (.iload_n 3, 1) := by decide +kernel
theorem dX0_withTwo_60 : decode cX0_withTwo 60 = .ok (.iconst (-1), 1) := by decide +kernel
theorem dX0_withTwo_61 : decode cX0_withTwo 61 = .ok (.ixor, 1) := by decide +kernel
theorem dX0_withTwo_62 : decode cX0_withTwo 62 = .ok (.iand, 1) := by decide +kernel
theorem dX0_withTwo_63 : decode cX0_withTwo 63 = .ok (.iload 4, 2) := by decide +kernel
theorem dX0_withTwo_65 : decode cX0_withTwo 65 = .ok (.iconst (-1), 1) := by decide +kernel
theorem dX0_withTwo_66 : decode cX0_withTwo 66 = .ok (.ixor, 1) := by decide +kernel
theorem dX0_withTwo_67 : decode cX0_withTwo 67 = .ok (.iand, 1) := by decide +kernel
theorem dX0_withTwo_68 : decode cX0_withTwo 68 = .ok (.ior, 1) := by decide +kernel
theorem dX0_withTwo_69 : decode cX0_withTwo 69 = .ok (.ireturn, 1) := by decide +kernel
theorem dX0_around_0 : decode cX0_around 0 = .ok (.iconst 1, 1) := by decide +kernel
theorem dX0_around_1 : decode cX0_around 1 = .ok (.aload_n 0, 1) := by decide +kernel
theorem dX0_around_2 : decode cX0_around 2 = .ok (.getfield 19, 3) := by decide +kernel
theorem dX0_around_5 : decode cX0_around 5 = .ok (.ishl, 1) := by decide +kernel
theorem dX0_around_6 : decode cX0_around 6 = .ok (.iconst 1, 1) := by decide +kernel
theorem dX0_around_7 : decode cX0_around 7 = .ok (.isub, 1) := by decide +kernel
theorem dX0_around_8 : decode cX0_around 8 = .ok (.istore_n 2, 1) := by decide +kernel
theorem dX0_around_9 : decode cX0_around 9 = .ok (.iload_n 1, 1) := by decide +kernel
theorem dX0_around_10 : decode cX0_around 10 = .ok (.i2l, 1) := by decide +kernel
theorem dX0_around_11 : decode cX0_around 11 = .ok (.iload_n 1, 1) := by decide +kernel
theorem dX0_around_12 : decode cX0_around 12 = .ok (.i2l, 1) := by decide +kernel
theorem dX0_around_13 : decode cX0_around 13 = .ok (.aload_n 0, 1) := by decide +kernel
theorem dX0_around_14 : decode cX0_around 14 = .ok (.getfield 19, 3) := by decide +kernel
theorem dX0_around_17 : decode cX0_around 17 = .ok (.lshl, 1) := by decide +kernel
theorem dX0_around_18 : decode cX0_around 18 = .ok (.lor, 1) := by decide +kernel
theorem dX0_around_19 : decode cX0_around 19 = .ok (.lstore_n 3, 1) := by decide +kernel
theorem dX0_around_20 : decode cX0_around 20 = .ok (.iconst 0, 1) := by decide +kernel
theorem dX0_around_21 : decode cX0_around 21 = .ok (.istore 5, 2) := by decide +kernel
theorem dX0_around_23 : decode cX0_around 23 = .ok (.iload 5, 2) := by decide +kernel
theorem dX0_around_25 : decode cX0_around 25 = .ok (.aload_n 0, 1) := by decide +kernel
theorem dX0_around_26 : decode cX0_around 26 = .ok (.getfield 22, 3) := by decide +kernel
theorem dX0_around_29 : decode cX0_around 29 = .ok (.if_icmp .ge 48, 3) := by decide +kernel
theorem dX0_around_32 : decode cX0_around 32 = .ok (.iload_n 1, 1) := by decide +kernel
theorem dX0_around_33 : decode cX0_around 33 = .ok (.iload 5, 2) := by decide +kernel
theorem dX0_around_35 : decode cX0_around 35 = .ok (.aload_n 0, 1) := by decide +kernel
theorem dX0_around_36 : decode cX0_around 36 = .ok (.getfield 19, 3) := by decide +kernel
theorem dX0_around_39 : decode cX0_around 39 = .ok (.imul, 1) := by decide +kernel
theorem dX0_around_40 : decode cX0_around 40 = .ok (.iushr, 1) := by decide +kernel
theorem dX0_around_41 : decode cX0_around 41 = .ok (.iload_n 2, 1) := by decide +kernel
theorem dX0_around_42 : decode cX0_around 42 = .ok (.iand, 1) := by decide +kernel
theorem dX0_around_43 : decode cX0_around 43 = .ok (.istore 6, 2) := by decide +kernel
theorem dX0_around_45 : decode cX0_around 45 = .ok (.lload_n 3, 1) := by decide +kernel
theorem dX0_around_46 : decode cX0_around 46 = .ok (.iload 6, 2) := by decide +kernel
theorem dX0_around_48 : decode cX0_around 48 = .ok (.iload 6, 2) := by decide +kernel
theorem dX0_around_50 : decode cX0_around 50 = .ok (.iconst 1, 1) := by decide +kernel
theorem dX0_around_51 : decode cX0_around 51 = .ok (.ishl, 1) := by decide +kernel
theorem dX0_around_52 : decode cX0_around 52 = .ok (.ior, 1) := by decide +kernel
theorem dX0_around_53 : decode cX0_around 53 = .ok (.i2l, 1) := by decide +kernel
theorem dX0_around_54 : decode cX0_around 54 = .ok (.aload_n 0, 1) := by decide +kernel
theorem dX0_around_55 : decode cX0_around 55 = .ok (.getfield 28, 3) := by decide +kernel
theorem dX0_around_58 : decode cX0_around 58 = .ok (.iload 5, 2) := by decide +kernel
theorem dX0_around_60 : decode cX0_around 60 = .ok (.aload_n 0, 1) := by decide +kernel
theorem dX0_around_61 : decode cX0_around 61 = .ok (.getfield 19, 3) := by decide +kernel
theorem dX0_around_64 : decode cX0_around 64 = .ok (.iconst 1, 1) := by decide +kernel
theorem dX0_around_65 : decode cX0_around 65 = .ok (.iadd, 1) := by decide +kernel
theorem dX0_around_66 : decode cX0_around 66 = .ok (.imul, 1) := by decide +kernel
theorem dX0_around_67 : decode cX0_around 67 = .ok (.iadd, 1) := by decide +kernel
theorem dX0_around_68 : decode cX0_around 68 = .ok (.lshl, 1) := by decide +kernel
theorem dX0_around_69 : decode cX0_around 69 = .ok (.lor, 1) := by decide +kernel
theorem dX0_around_70 : decode cX0_around 70 = .ok (.lstore_n 3, 1) := by decide +kernel
theorem dX0_around_71 : decode cX0_around 71 = .ok (.iinc 5 1, 3) := by decide +kernel
theorem dX0_around_74 : decode cX0_around 74 = .ok (.goto (-51), 3) := by decide +kernel
theorem dX0_around_77 : decode cX0_around 77 = .ok (.lload_n 3, 1) := by decide +kernel
theorem dX0_around_78 : decode cX0_around 78 = .ok (.lreturn, 1) := by decide +kernel
theorem dX0_beside_0 : decode cX0_beside 0 = .ok (.iload_n 1, 1) := by decide +kernel
theorem dX0_beside_1 : decode cX0_beside 1 = .ok (.aload_n 0, 1) := by decide +kernel
theorem dX0_beside_2 : decode cX0_beside 2 = .ok (.lload_n 2, 1) := by decide +kernel
theorem dX0_beside_3 : decode cX0_beside 3 = .ok (.invokevirtual 84, 3) := by decide +kernel
theorem dX0_beside_6 : decode cX0_beside 6 = .ok (.iconst (-1), 1) := by decide +kernel
theorem dX0_beside_7 : decode cX0_beside 7 = .ok (.ixor, 1) := by decide +kernel
theorem dX0_beside_8 : decode cX0_beside 8 = .ok (.iand, 1) := by decide +kernel
theorem dX0_beside_9 : decode cX0_beside 9 = .ok (.aload_n 0, 1) := by decide +kernel
theorem dX0_beside_10 : decode cX0_beside 10 = .ok (.getfield 19, 3) := by decide +kernel
theorem dX0_beside_13 : decode cX0_beside 13 = .ok (.iushr, 1) := by decide +kernel
theorem dX0_beside_14 : decode cX0_beside 14 = .ok (.istore 4, 2) := by decide +kernel
theorem dX0_beside_16 : decode cX0_beside 16 = .ok (.iload_n 1, 1) := by decide +kernel
theorem dX0_beside_17 : decode cX0_beside 17 = .ok (.aload_n 0, 1) := by decide +kernel
theorem dX0_beside_18 : decode cX0_beside 18 = .ok (.lload_n 2, 1) := by decide +kernel
theorem dX0_beside_19 : decode cX0_beside 19 = .ok (.invokevirtual 88, 3) := by decide +kernel
theorem dX0_beside_22 : decode cX0_beside 22 = .ok (.iconst (-1), 1) := by decide +kernel
theorem dX0_beside_23 : decode cX0_beside 23 = .ok (.ixor, 1) := by decide +kernel
theorem dX0_beside_24 : decode cX0_beside 24 = .ok (.iand, 1) := by decide +kernel
theorem dX0_beside_25 : decode cX0_beside 25 = .ok (.aload_n 0, 1) := by decide +kernel
theorem dX0_beside_26 : decode cX0_beside 26 = .ok (.getfield 19, 3) := by decide +kernel
theorem dX0_beside_29 : decode cX0_beside 29 = .ok (.ishl, 1) := by decide +kernel
theorem dX0_beside_30 : decode cX0_beside 30 = .ok (.aload_n 0, 1) := by decide +kernel
theorem dX0_beside_31 : decode cX0_beside 31 = .ok (.getfield 34, 3) := by decide +kernel
theorem dX0_beside_34 : decode cX0_beside 34 = .ok (.iand, 1) := by decide +kernel
theorem dX0_beside_35 : decode cX0_beside 35 = .ok (.istore 5, 2) := by decide +kernel
theorem dX0_beside_37 : decode cX0_beside 37 = .ok (.iload_n 1, 1) := by decide +kernel
theorem dX0_beside_38 : decode cX0_beside 38 = .ok (.aload_n 0, 1) := by decide +kernel
theorem dX0_beside_39 : decode cX0_beside 39 = .ok (.lload_n 2, 1) := by decide +kernel
theorem dX0_beside_40 : decode cX0_beside 40 = .ok (.iconst 0, 1) := by decide +kernel
theorem dX0_beside_41 : decode cX0_beside 41 = .ok (.invokevirtual 91, 3) := by decide +kernel
theorem dX0_beside_44 : decode cX0_beside 44 = .ok (.iconst (-1), 1) := by decide +kernel
theorem dX0_beside_45 : decode cX0_beside 45 = .ok (.ixor, 1) := by decide +kernel
theorem dX0_beside_46 : decode cX0_beside 46 = .ok (.iand, 1) := by decide +kernel
theorem dX0_beside_47 : decode cX0_beside 47 = .ok (.aload_n 0, 1) := by decide +kernel
theorem dX0_beside_48 : decode cX0_beside 48 = .ok (.getfield 37, 3) := by decide +kernel
theorem dX0_beside_51 : decode cX0_beside 51 = .ok (.iconst (-1), 1) := by decide +kernel
theorem dX0_beside_52 : decode cX0_beside 52 = .ok (.ixor, 1) := by decide +kernel
theorem dX0_beside_53 : decode cX0_beside 53 = .ok (.iand, 1) := by decide +kernel
theorem dX0_beside_54 : decode cX0_beside 54 = .ok (.iconst 1, 1) := by decide +kernel
theorem dX0_beside_55 : decode cX0_beside 55 = .ok (.iushr, 1) := by decide +kernel
theorem dX0_beside_56 : decode cX0_beside 56 = .ok (.istore 6, 2) := by decide +kernel
theorem dX0_beside_58 : decode cX0_beside 58 = .ok (.iload_n 1, 1) := by decide +kernel
theorem dX0_beside_59 : decode cX0_beside 59 = .ok (.aload_n 0, 1) := by decide +kernel
theorem dX0_beside_60 : decode cX0_beside 60 = .ok (.lload_n 2, 1) := by decide +kernel
theorem dX0_beside_61 : decode cX0_beside 61 = .ok (.iconst 1, 1) := by decide +kernel
theorem dX0_beside_62 : decode cX0_beside 62 = .ok (.invokevirtual 91, 3) := by decide +kernel
theorem dX0_beside_65 : decode cX0_beside 65 = .ok (.iconst (-1), 1) := by decide +kernel
theorem dX0_beside_66 : decode cX0_beside 66 = .ok (.ixor, 1) := by decide +kernel
theorem dX0_beside_67 : decode cX0_beside 67 = .ok (.iand, 1) := by decide +kernel
theorem dX0_beside_68 : decode cX0_beside 68 = .ok (.aload_n 0, 1) := by decide +kernel
theorem dX0_beside_69 : decode cX0_beside 69 = .ok (.getfield 40, 3) := by decide +kernel
theorem dX0_beside_72 : decode cX0_beside 72 = .ok (.iconst (-1), 1) := by decide +kernel
theorem dX0_beside_73 : decode cX0_beside 73 = .ok (.ixor, 1) := by decide +kernel
theorem dX0_beside_74 : decode cX0_beside 74 = .ok (.iand, 1) := by decide +kernel
theorem dX0_beside_75 : decode cX0_beside 75 = .ok (.iconst 1, 1) := by decide +kernel
theorem dX0_beside_76 : decode cX0_beside 76 = .ok (.ishl, 1) := by decide +kernel
theorem dX0_beside_77 : decode cX0_beside 77 = .ok (.istore 7, 2) := by decide +kernel
theorem dX0_beside_79 : decode cX0_beside 79 = .ok (.iload 4, 2) := by decide +kernel
theorem dX0_beside_81 : decode cX0_beside 81 = .ok (.iload 5, 2) := by decide +kernel
theorem dX0_beside_83 : decode cX0_beside 83 = .ok (.ior, 1) := by decide +kernel
theorem dX0_beside_84 : decode cX0_beside 84 = .ok (.iload 6, 2) := by decide +kernel
theorem dX0_beside_86 : decode cX0_beside 86 = .ok (.ior, 1) := by decide +kernel
theorem dX0_beside_87 : decode cX0_beside 87 = .ok (.iload 7, 2) := by decide +kernel
theorem dX0_beside_89 : decode cX0_beside 89 = .ok (.ior, 1) := by decide +kernel
theorem dX0_beside_90 : decode cX0_beside 90 = .ok (.ireturn, 1) := by decide +kernel
theorem dX0_hanging_0 : decode cX0_hanging 0 = .ok (.iload_n 1, 1) := by decide +kernel
theorem dX0_hanging_1 : decode cX0_hanging 1 = .ok (.iload_n 2, 1) := by decide +kernel
theorem dX0_hanging_2 : decode cX0_hanging 2 = .ok (.iand, 1) := by decide +kernel
theorem dX0_hanging_3 : decode cX0_hanging 3 = .ok (.istore 5, 2) := by decide +kernel
theorem dX0_hanging_5 : decode cX0_hanging 5 = .ok (.iconst 0, 1) := by decide +kernel
theorem dX0_hanging_6 : decode cX0_hanging 6 = .ok (.istore 6, 2) := by decide +kernel
theorem dX0_hanging_8 : decode cX0_hanging 8 = .ok (.iload 6, 2) := by decide +kernel
theorem dX0_hanging_10 : decode cX0_hanging 10 = .ok (.bipush 16, 2) := by decide +kernel
theorem dX0_hanging_12 : decode cX0_hanging 12 = .ok (.if_icmp .ge 37, 3) := by decide +kernel
theorem dX0_hanging_15 : decode cX0_hanging 15 = .ok (.iload 5, 2) := by decide +kernel
theorem dX0_hanging_17 : decode cX0_hanging 17 = .ok (.aload_n 0, 1) := by decide +kernel
theorem dX0_hanging_18 : decode cX0_hanging 18 = .ok (.iload 5, 2) := by decide +kernel
theorem dX0_hanging_20 : decode cX0_hanging 20 = .ok (.lload_n 3, 1) := by decide +kernel
theorem dX0_hanging_21 : decode cX0_hanging 21 = .ok (.invokevirtual 95, 3) := by decide +kernel
theorem dX0_hanging_24 : decode cX0_hanging 24 = .ok (.ior, 1) := by decide +kernel
theorem dX0_hanging_25 : decode cX0_hanging 25 = .ok (.iload_n 2, 1) := by decide +kernel
theorem dX0_hanging_26 : decode cX0_hanging 26 = .ok (.iand, 1) := by decide +kernel
theorem dX0_hanging_27 : decode cX0_hanging 27 = .ok (.istore 7, 2) := by decide +kernel
theorem dX0_hanging_29 : decode cX0_hanging 29 = .ok (.iload 7, 2) := by decide +kernel
theorem dX0_hanging_31 : decode cX0_hanging 31 = .ok (.iload 5, 2) := by decide +kernel
theorem dX0_hanging_33 : decode cX0_hanging 33 = .ok (.if_icmp .ne 6, 3) := by decide +kernel
theorem dX0_hanging_36 : decode cX0_hanging 36 = .ok (.goto 13, 3) := by decide +kernel
theorem dX0_hanging_39 : decode cX0_hanging 39 = .ok (.iload 7, 2) := by decide +kernel
theorem dX0_hanging_41 : decode cX0_hanging 41 = .ok (.istore 5, 2) := by decide +kernel
theorem dX0_hanging_43 : decode cX0_hanging 43 = .ok (.iinc 6 1, 3) := by decide +kernel
theorem dX0_hanging_46 : decode cX0_hanging 46 = .ok (.goto (-38), 3) := by decide +kernel
theorem dX0_hanging_49 : decode cX0_hanging 49 = .ok (.iload 5, 2) := by decide +kernel
theorem dX0_hanging_51 : decode cX0_hanging 51 = .ok (.ireturn, 1) := by decide +kernel
theorem dX0_countHanging_0 : decode cX0_countHanging 0 = .ok (.iload_n 1, 1) := by decide +kernel
theorem dX0_countHanging_1 : decode cX0_countHanging 1 = .ok (.istore 4, 2) := by decide +kernel
theorem dX0_countHanging_3 : decode cX0_countHanging 3 = .ok (.iconst 0, 1) := by decide +kernel
theorem dX0_countHanging_4 : decode cX0_countHanging 4 = .ok (.istore 5, 2) := by decide +kernel
theorem dX0_countHanging_6 : decode cX0_countHanging 6 = .ok (.iconst 0, 1) := by decide +kernel
theorem dX0_countHanging_7 : decode cX0_countHanging 7 = .ok (.istore 6, 2) := by decide +kernel
theorem dX0_countHanging_9 : decode cX0_countHanging 9 = .ok (.iload 6, 2) := by decide +kernel
theorem dX0_countHanging_11 : decode cX0_countHanging 11 = .ok (.bipush 16, 2) := by decide +kernel
theorem dX0_countHanging_13 : decode cX0_countHanging 13 = .ok (.if_icmp .ge 36, 3) := by decide +kernel
theorem dX0_countHanging_16 : decode cX0_countHanging 16 = .ok (.iload 4, 2) := by decide +kernel
theorem dX0_countHanging_18 : decode cX0_countHanging 18 = .ok (.ifCond .eq 31, 3) := by decide +kernel
theorem dX0_countHanging_21 : decode cX0_countHanging 21 = .ok (.iload 4, 2) := by decide +kernel
theorem dX0_countHanging_23 : decode cX0_countHanging 23 = .ok (.aload_n 0, 1) := by decide +kernel
theorem dX0_countHanging_24 : decode cX0_countHanging 24 = .ok (.iload 4, 2) := by decide +kernel
theorem dX0_countHanging_26 : decode cX0_countHanging 26 = .ok (.iload 4, 2) := by decide +kernel
theorem dX0_countHanging_28 : decode cX0_countHanging 28 = .ok (.ineg, 1) := by decide +kernel
theorem dX0_countHanging_29 : decode cX0_countHanging 29 = .ok (.iand, 1) := by decide +kernel
theorem dX0_countHanging_30 : decode cX0_countHanging 30 = .ok (.iload_n 1, 1) := by decide +kernel
theorem dX0_countHanging_31 : decode cX0_countHanging 31 = .ok (.lload_n 2, 1) := by decide +kernel
theorem dX0_countHanging_32 : decode cX0_countHanging 32 = .ok (.invokevirtual 99, 3) := by decide +kernel
theorem dX0_countHanging_35 : decode cX0_countHanging 35 = .ok (.iconst (-1), 1) := by decide +kernel
theorem dX0_countHanging_36 : decode cX0_countHanging 36 = .ok (.ixor, 1) := by decide +kernel
theorem dX0_countHanging_37 : decode cX0_countHanging 37 = .ok (.iand, 1) := by decide +kernel
theorem dX0_countHanging_38 : decode cX0_countHanging 38 = .ok (.istore 4, 2) := by decide +kernel
theorem dX0_countHanging_40 : decode cX0_countHanging 40 = .ok (.iinc 5 1, 3) := by decide +kernel
theorem dX0_countHanging_43 : decode cX0_countHanging 43 = .ok (.iinc 6 1, 3) := by decide +kernel
theorem dX0_countHanging_46 : decode cX0_countHanging 46 = .ok (.goto (-37), 3) := by decide +kernel
theorem dX0_countHanging_49 : decode cX0_countHanging 49 = .ok (.iload 5, 2) := by decide +kernel
theorem dX0_countHanging_51 : decode cX0_countHanging 51 = .ok (.ireturn, 1) := by decide +kernel
theorem dX0_slotOf_0 : decode cX0_slotOf 0 = .ok (.aload_n 0, 1) := by decide +kernel
theorem dX0_slotOf_1 : decode cX0_slotOf 1 = .ok (.iload_n 1, 1) := by decide +kernel
theorem dX0_slotOf_2 : decode cX0_slotOf 2 = .ok (.invokevirtual 103, 3) := by decide +kernel
theorem dX0_slotOf_5 : decode cX0_slotOf 5 = .ok (.ifCond .eq 5, 3) := by decide +kernel
theorem dX0_slotOf_8 : decode cX0_slotOf 8 = .ok (.iload_n 1, 1) := by decide +kernel
theorem dX0_slotOf_9 : decode cX0_slotOf 9 = .ok (.ireturn, 1) := by decide +kernel
theorem dX0_slotOf_10 : decode cX0_slotOf 10 = .ok (.iload_n 1, 1) := by decide +kernel
theorem dX0_slotOf_11 : decode cX0_slotOf 11 = .ok (.bipush 100, 2) := by decide +kernel
theorem dX0_slotOf_13 : decode cX0_slotOf 13 = .ok (.if_icmp .lt 24, 3) := by decide +kernel
theorem dX0_slotOf_16 : decode cX0_slotOf 16 = .ok (.aload_n 0, 1) := by decide +kernel
theorem dX0_slotOf_17 : decode cX0_slotOf 17 = .ok (.iload_n 1, 1) := by decide +kernel
theorem dX0_slotOf_18 : decode cX0_slotOf 18 = .ok (.bipush 100, 2) := by decide +kernel
theorem dX0_slotOf_20 : decode cX0_slotOf 20 = .ok (.isub, 1) := by decide +kernel
theorem dX0_slotOf_21 : decode cX0_slotOf 21 = .ok (.invokevirtual 107, 3) := by decide +kernel
theorem dX0_slotOf_24 : decode cX0_slotOf 24 = .ok (.ifCond .eq 13, 3) := by decide +kernel
theorem dX0_slotOf_27 : decode cX0_slotOf 27 = .ok (.iload_n 1, 1) := by decide +kernel
theorem dX0_slotOf_28 : decode cX0_slotOf 28 = .ok (.bipush 100, 2) := by decide +kernel
theorem dX0_slotOf_30 : decode cX0_slotOf 30 = .ok (.isub, 1) := by decide +kernel
theorem dX0_slotOf_31 : decode cX0_slotOf 31 = .ok (.bipush 40, 2) := by decide +kernel
theorem dX0_slotOf_33 : decode cX0_slotOf 33 = .ok (.iadd, 1) := by decide +kernel
theorem dX0_slotOf_34 : decode cX0_slotOf 34 = .ok (.goto 4, 3) := by decide +kernel
theorem dX0_slotOf_37 : decode cX0_slotOf 37 = .ok (.iconst (-1), 1) := by decide +kernel
theorem dX0_slotOf_38 : decode cX0_slotOf 38 = .ok (.ireturn, 1) := by decide +kernel
theorem dX0_freeEdges_0 : decode cX0_freeEdges 0 = .ok (.aload_n 0, 1) := by decide +kernel
theorem dX0_freeEdges_1 : decode cX0_freeEdges 1 = .ok (.getfield 57, 3) := by decide +kernel
theorem dX0_freeEdges_4 : decode cX0_freeEdges 4 = .ok (.ldc2_w 110, 3) := by decide +kernel
theorem dX0_freeEdges_7 : decode cX0_freeEdges 7 = .ok (.lxor, 1) := by decide +kernel
theorem dX0_freeEdges_8 : decode cX0_freeEdges 8 = .ok (.lconst 1, 1) := by decide +kernel
theorem dX0_freeEdges_9 : decode cX0_freeEdges 9 = .ok (.aload_n 0, 1) := by decide +kernel
theorem dX0_freeEdges_10 : decode cX0_freeEdges 10 = .ok (.getfield 31, 3) := by decide +kernel
theorem dX0_freeEdges_13 : decode cX0_freeEdges 13 = .ok (.lshl, 1) := by decide +kernel
theorem dX0_freeEdges_14 : decode cX0_freeEdges 14 = .ok (.lconst 1, 1) := by decide +kernel
theorem dX0_freeEdges_15 : decode cX0_freeEdges 15 = .ok (.lsub, 1) := by decide +kernel
theorem dX0_freeEdges_16 : decode cX0_freeEdges 16 = .ok (.land, 1) := by decide +kernel
theorem dX0_freeEdges_17 : decode cX0_freeEdges 17 = .ok (.lreturn, 1) := by decide +kernel
theorem dX0_softFields_0 : decode cX0_softFields 0 = .ok (.aload_n 0, 1) := by decide +kernel
theorem dX0_softFields_1 : decode cX0_softFields 1 = .ok (.getfield 34, 3) := by decide +kernel
theorem dX0_softFields_4 : decode cX0_softFields 4 = .ok (.aload_n 0, 1) := by decide +kernel
theorem dX0_softFields_5 : decode cX0_softFields 5 = .ok (.getfield 60, 3) := by decide +kernel
theorem dX0_softFields_8 : decode cX0_softFields 8 = .ok (.iconst (-1), 1) := by decide +kernel
theorem dX0_softFields_9 : decode cX0_softFields 9 = .ok (.ixor, 1) := by decide +kernel
theorem dX0_softFields_10 : decode cX0_softFields 10 = .ok (.iand, 1) := by decide +kernel
theorem dX0_softFields_11 : decode cX0_softFields 11 = .ok (.aload_n 0, 1) := by decide +kernel
theorem dX0_softFields_12 : decode cX0_softFields 12 = .ok (.invokevirtual 112, 3) := by decide +kernel
theorem dX0_softFields_15 : decode cX0_softFields 15 = .ok (.iconst (-1), 1) := by decide +kernel
theorem dX0_softFields_16 : decode cX0_softFields 16 = .ok (.ixor, 1) := by decide +kernel
theorem dX0_softFields_17 : decode cX0_softFields 17 = .ok (.iand, 1) := by decide +kernel
theorem dX0_softFields_18 : decode cX0_softFields 18 = .ok (.ireturn, 1) := by decide +kernel
theorem dX0_openSlots_0 : decode cX0_openSlots 0 = .ok (.aload_n 0, 1) := by decide +kernel
theorem dX0_openSlots_1 : decode cX0_openSlots 1 = .ok (.invokevirtual 116, 3) := by decide +kernel
theorem dX0_openSlots_4 : decode cX0_openSlots 4 = .ok (.aload_n 0, 1) := by decide +kernel
theorem dX0_openSlots_5 : decode cX0_openSlots 5 = .ok (.invokevirtual 120, 3) := by decide +kernel
theorem dX0_openSlots_8 : decode cX0_openSlots 8 = .ok (.i2l, 1) := by decide +kernel
theorem dX0_openSlots_9 : decode cX0_openSlots 9 = .ok (.bipush 40, 2) := by decide +kernel
theorem dX0_openSlots_11 : decode cX0_openSlots 11 = .ok (.lshl, 1) := by decide +kernel
theorem dX0_openSlots_12 : decode cX0_openSlots 12 = .ok (.lor, 1) := by decide +kernel
theorem dX0_openSlots_13 : decode cX0_openSlots 13 = .ok (.lreturn, 1) := by decide +kernel
theorem dX0_isOpen_0 : decode cX0_isOpen 0 = .ok (.aload_n 0, 1) := by decide +kernel
theorem dX0_isOpen_1 : decode cX0_isOpen 1 = .ok (.invokevirtual 123, 3) := by decide +kernel
theorem dX0_isOpen_4 : decode cX0_isOpen 4 = .ok (.iload_n 1, 1) := by decide +kernel
theorem dX0_isOpen_5 : decode cX0_isOpen 5 = .ok (.lushr, 1) := by decide +kernel
theorem dX0_isOpen_6 : decode cX0_isOpen 6 = .ok (.lconst 1, 1) := by decide +kernel
theorem dX0_isOpen_7 : decode cX0_isOpen 7 = .ok (.land, 1) := by decide +kernel
theorem dX0_isOpen_8 : decode cX0_isOpen 8 = .ok (.lconst 0, 1) := by decide +kernel
theorem dX0_isOpen_9 : decode cX0_isOpen 9 = .ok (.lcmp, 1) := by decide +kernel
theorem dX0_isOpen_10 : decode cX0_isOpen 10 = .ok (.ifCond .eq 7, 3) := by decide +kernel
theorem dX0_isOpen_13 : decode cX0_isOpen 13 = .ok (.iconst 1, 1) := by decide +kernel
theorem dX0_isOpen_14 : decode cX0_isOpen 14 = .ok (.goto 4, 3) := by decide +kernel
theorem dX0_isOpen_17 : decode cX0_isOpen 17 = .ok (.iconst 0, 1) := by decide +kernel
theorem dX0_isOpen_18 : decode cX0_isOpen 18 = .ok (.ireturn, 1) := by decide +kernel
theorem dX0_make_0 : decode cX0_make 0 = .ok (.iload_n 1, 1) := by decide +kernel
theorem dX0_make_1 : decode cX0_make 1 = .ok (.bipush 40, 2) := by decide +kernel
theorem dX0_make_3 : decode cX0_make 3 = .ok (.if_icmp .ge 64, 3) := by decide +kernel
theorem dX0_make_6 : decode cX0_make 6 = .ok (.aload_n 0, 1) := by decide +kernel
theorem dX0_make_7 : decode cX0_make 7 = .ok (.dup, 1) := by decide +kernel
theorem dX0_make_8 : decode cX0_make 8 = .ok (.getfield 57, 3) := by decide +kernel
theorem dX0_make_11 : decode cX0_make 11 = .ok (.lconst 1, 1) := by decide +kernel
theorem dX0_make_12 : decode cX0_make 12 = .ok (.iload_n 1, 1) := by decide +kernel
theorem dX0_make_13 : decode cX0_make 13 = .ok (.lshl, 1) := by decide +kernel
theorem dX0_make_14 : decode cX0_make 14 = .ok (.lor, 1) := by decide +kernel
theorem dX0_make_15 : decode cX0_make 15 = .ok (.putfield 57, 3) := by decide +kernel
theorem dX0_make_18 : decode cX0_make 18 = .ok (.aload_n 0, 1) := by decide +kernel
theorem dX0_make_19 : decode cX0_make 19 = .ok (.aload_n 0, 1) := by decide +kernel
theorem dX0_make_20 : decode cX0_make 20 = .ok (.getfield 57, 3) := by decide +kernel
theorem dX0_make_23 : decode cX0_make 23 = .ok (.invokevirtual 126, 3) := by decide +kernel
theorem dX0_make_26 : decode cX0_make 26 = .ok (.aload_n 0, 1) := by decide +kernel
theorem dX0_make_27 : decode cX0_make 27 = .ok (.invokevirtual 112, 3) := by decide +kernel
theorem dX0_make_30 : decode cX0_make 30 = .ok (.iconst (-1), 1) := by decide +kernel
theorem dX0_make_31 : decode cX0_make 31 = .ok (.ixor, 1) := by decide +kernel
theorem dX0_make_32 : decode cX0_make 32 = .ok (.iand, 1) := by decide +kernel
theorem dX0_make_33 : decode cX0_make 33 = .ok (.istore_n 2, 1) := by decide +kernel
theorem dX0_make_34 : decode cX0_make 34 = .ok (.aload_n 0, 1) := by decide +kernel
theorem dX0_make_35 : decode cX0_make 35 = .ok (.getfield 69, 3) := by decide +kernel
theorem dX0_make_38 : decode cX0_make 38 = .ok (.ifCond .ne 16, 3) := by decide +kernel
theorem dX0_make_41 : decode cX0_make 41 = .ok (.aload_n 0, 1) := by decide +kernel
theorem dX0_make_42 : decode cX0_make 42 = .ok (.dup, 1) := by decide +kernel
theorem dX0_make_43 : decode cX0_make 43 = .ok (.getfield 63, 3) := by decide +kernel
theorem dX0_make_46 : decode cX0_make 46 = .ok (.iload_n 2, 1) := by decide +kernel
theorem dX0_make_47 : decode cX0_make 47 = .ok (.ior, 1) := by decide +kernel
theorem dX0_make_48 : decode cX0_make 48 = .ok (.putfield 63, 3) := by decide +kernel
theorem dX0_make_51 : decode cX0_make 51 = .ok (.goto 13, 3) := by decide +kernel
theorem dX0_make_54 : decode cX0_make 54 = .ok (.aload_n 0, 1) := by decide +kernel
theorem dX0_make_55 : decode cX0_make 55 = .ok (.dup, 1) := by decide +kernel
theorem dX0_make_56 : decode cX0_make 56 = .ok (.getfield 66, 3) := by decide +kernel
theorem dX0_make_59 : decode cX0_make 59 = .ok (.iload_n 2, 1) := by decide +kernel
theorem dX0_make_60 : decode cX0_make 60 = .ok (.ior, 1) := by decide +kernel
theorem dX0_make_61 : decode cX0_make 61 = .ok (.putfield 66, 3) := by decide +kernel
theorem dX0_make_64 : decode cX0_make 64 = .ok (.goto 18, 3) := by decide +kernel
theorem dX0_make_67 : decode cX0_make 67 = .ok (.aload_n 0, 1) := by decide +kernel
theorem dX0_make_68 : decode cX0_make 68 = .ok (.dup, 1) := by decide +kernel
theorem dX0_make_69 : decode cX0_make 69 = .ok (.getfield 60, 3) := by decide +kernel
theorem dX0_make_72 : decode cX0_make 72 = .ok (.iconst 1, 1) := by decide +kernel
theorem dX0_make_73 : decode cX0_make 73 = .ok (.iload_n 1, 1) := by decide +kernel
theorem dX0_make_74 : decode cX0_make 74 = .ok (.bipush 40, 2) := by decide +kernel
theorem dX0_make_76 : decode cX0_make 76 = .ok (.isub, 1) := by decide +kernel
theorem dX0_make_77 : decode cX0_make 77 = .ok (.ishl, 1) := by decide +kernel
theorem dX0_make_78 : decode cX0_make 78 = .ok (.ior, 1) := by decide +kernel
theorem dX0_make_79 : decode cX0_make 79 = .ok (.putfield 60, 3) := by decide +kernel
theorem dX0_make_82 : decode cX0_make 82 = .ok (.aload_n 0, 1) := by decide +kernel
theorem dX0_make_83 : decode cX0_make 83 = .ok (.iconst 1, 1) := by decide +kernel
theorem dX0_make_84 : decode cX0_make 84 = .ok (.aload_n 0, 1) := by decide +kernel
theorem dX0_make_85 : decode cX0_make 85 = .ok (.getfield 69, 3) := by decide +kernel
theorem dX0_make_88 : decode cX0_make 88 = .ok (.isub, 1) := by decide +kernel
theorem dX0_make_89 : decode cX0_make 89 = .ok (.putfield 69, 3) := by decide +kernel
theorem dX0_make_92 : decode cX0_make 92 = .ok (.aload_n 0, 1) := by decide +kernel
theorem dX0_make_93 : decode cX0_make 93 = .ok (.dup, 1) := by decide +kernel
theorem dX0_make_94 : decode cX0_make 94 = .ok (.getfield 72, 3) := by decide +kernel
theorem dX0_make_97 : decode cX0_make 97 = .ok (.iconst 1, 1) := by decide +kernel
theorem dX0_make_98 : decode cX0_make 98 = .ok (.iadd, 1) := by decide +kernel
theorem dX0_make_99 : decode cX0_make 99 = .ok (.putfield 72, 3) := by decide +kernel
theorem dX0_make_102 : decode cX0_make 102 = .ok (.return_, 1) := by decide +kernel
theorem dX0_unmake_0 : decode cX0_unmake 0 = .ok (.aload_n 0, 1) := by decide +kernel
theorem dX0_unmake_1 : decode cX0_unmake 1 = .ok (.lload_n 1, 1) := by decide +kernel
theorem dX0_unmake_2 : decode cX0_unmake 2 = .ok (.putfield 57, 3) := by decide +kernel
theorem dX0_unmake_5 : decode cX0_unmake 5 = .ok (.aload_n 0, 1) := by decide +kernel
theorem dX0_unmake_6 : decode cX0_unmake 6 = .ok (.iload_n 3, 1) := by decide +kernel
theorem dX0_unmake_7 : decode cX0_unmake 7 = .ok (.putfield 60, 3) := by decide +kernel
theorem dX0_unmake_10 : decode cX0_unmake 10 = .ok (.aload_n 0, 1) := by decide +kernel
theorem dX0_unmake_11 : decode cX0_unmake 11 = .ok (.iload 4, 2) := by decide +kernel
theorem dX0_unmake_13 : decode cX0_unmake 13 = .ok (.putfield 63, 3) := by decide +kernel
theorem dX0_unmake_16 : decode cX0_unmake 16 = .ok (.aload_n 0, 1) := by decide +kernel
theorem dX0_unmake_17 : decode cX0_unmake 17 = .ok (.iload 5, 2) := by decide +kernel
theorem dX0_unmake_19 : decode cX0_unmake 19 = .ok (.putfield 66, 3) := by decide +kernel
theorem dX0_unmake_22 : decode cX0_unmake 22 = .ok (.aload_n 0, 1) := by decide +kernel
theorem dX0_unmake_23 : decode cX0_unmake 23 = .ok (.iconst 1, 1) := by decide +kernel
theorem dX0_unmake_24 : decode cX0_unmake 24 = .ok (.aload_n 0, 1) := by decide +kernel
theorem dX0_unmake_25 : decode cX0_unmake 25 = .ok (.getfield 69, 3) := by decide +kernel
theorem dX0_unmake_28 : decode cX0_unmake 28 = .ok (.isub, 1) := by decide +kernel
theorem dX0_unmake_29 : decode cX0_unmake 29 = .ok (.putfield 69, 3) := by decide +kernel
theorem dX0_unmake_32 : decode cX0_unmake 32 = .ok (.aload_n 0, 1) := by decide +kernel
theorem dX0_unmake_33 : decode cX0_unmake 33 = .ok (.dup, 1) := by decide +kernel
theorem dX0_unmake_34 : decode cX0_unmake 34 = .ok (.getfield 72, 3) := by decide +kernel
theorem dX0_unmake_37 : decode cX0_unmake 37 = .ok (.iconst 1, 1) := by decide +kernel
theorem dX0_unmake_38 : decode cX0_unmake 38 = .ok (.isub, 1) := by decide +kernel
theorem dX0_unmake_39 : decode cX0_unmake 39 = .ok (.putfield 72, 3) := by decide +kernel
theorem dX0_unmake_42 : decode cX0_unmake 42 = .ok (.return_, 1) := by decide +kernel
theorem dX0_shutFields_0 : decode cX0_shutFields 0 = .ok (.aload_n 0, 1) := by decide +kernel
theorem dX0_shutFields_1 : decode cX0_shutFields 1 = .ok (.getfield 63, 3) := by decide +kernel
theorem dX0_shutFields_4 : decode cX0_shutFields 4 = .ok (.aload_n 0, 1) := by decide +kernel
theorem dX0_shutFields_5 : decode cX0_shutFields 5 = .ok (.getfield 66, 3) := by decide +kernel
theorem dX0_shutFields_8 : decode cX0_shutFields 8 = .ok (.ior, 1) := by decide +kernel
theorem dX0_shutFields_9 : decode cX0_shutFields 9 = .ok (.ireturn, 1) := by decide +kernel
theorem dX0_ownedBy_0 : decode cX0_ownedBy 0 = .ok (.iload_n 1, 1) := by decide +kernel
theorem dX0_ownedBy_1 : decode cX0_ownedBy 1 = .ok (.ifCond .ne 10, 3) := by decide +kernel
theorem dX0_ownedBy_4 : decode cX0_ownedBy 4 = .ok (.aload_n 0, 1) := by decide +kernel
theorem dX0_ownedBy_5 : decode cX0_ownedBy 5 = .ok (.getfield 63, 3) := by decide +kernel
theorem dX0_ownedBy_8 : decode cX0_ownedBy 8 = .ok (.goto 7, 3) := by decide +kernel
theorem dX0_ownedBy_11 : decode cX0_ownedBy 11 = .ok (.aload_n 0, 1) := by decide +kernel
theorem dX0_ownedBy_12 : decode cX0_ownedBy 12 = .ok (.getfield 66, 3) := by decide +kernel
theorem dX0_ownedBy_15 : decode cX0_ownedBy 15 = .ok (.ireturn, 1) := by decide +kernel
theorem dX0_drainedFields_0 : decode cX0_drainedFields 0 = .ok (.aload_n 0, 1) := by decide +kernel
theorem dX0_drainedFields_1 : decode cX0_drainedFields 1 = .ok (.aload_n 0, 1) := by decide +kernel
theorem dX0_drainedFields_2 : decode cX0_drainedFields 2 = .ok (.aload_n 0, 1) := by decide +kernel
theorem dX0_drainedFields_3 : decode cX0_drainedFields 3 = .ok (.getfield 43, 3) := by decide +kernel
theorem dX0_drainedFields_6 : decode cX0_drainedFields 6 = .ok (.aload_n 0, 1) := by decide +kernel
theorem dX0_drainedFields_7 : decode cX0_drainedFields 7 = .ok (.getfield 57, 3) := by decide +kernel
theorem dX0_drainedFields_10 : decode cX0_drainedFields 10 = .ok (.ldc2_w 110, 3) := by decide +kernel
theorem dX0_drainedFields_13 : decode cX0_drainedFields 13 = .ok (.lxor, 1) := by decide +kernel
theorem dX0_drainedFields_14 : decode cX0_drainedFields 14 = .ok (.land, 1) := by decide +kernel
theorem dX0_drainedFields_15 : decode cX0_drainedFields 15 = .ok (.invokevirtual 129, 3) := by decide +kernel
theorem dX0_drainedFields_18 : decode cX0_drainedFields 18 = .ok (.aload_n 0, 1) := by decide +kernel
theorem dX0_drainedFields_19 : decode cX0_drainedFields 19 = .ok (.getfield 60, 3) := by decide +kernel
theorem dX0_drainedFields_22 : decode cX0_drainedFields 22 = .ok (.lconst 0, 1) := by decide +kernel
theorem dX0_drainedFields_23 : decode cX0_drainedFields 23 = .ok (.invokevirtual 99, 3) := by decide +kernel
theorem dX0_drainedFields_26 : decode cX0_drainedFields 26 = .ok (.ireturn, 1) := by decide +kernel
theorem dX0_dryFields_0 : decode cX0_dryFields 0 = .ok (.aload_n 0, 1) := by decide +kernel
theorem dX0_dryFields_1 : decode cX0_dryFields 1 = .ok (.invokevirtual 132, 3) := by decide +kernel
theorem dX0_dryFields_4 : decode cX0_dryFields 4 = .ok (.istore_n 1, 1) := by decide +kernel
theorem dX0_dryFields_5 : decode cX0_dryFields 5 = .ok (.aload_n 0, 1) := by decide +kernel
theorem dX0_dryFields_6 : decode cX0_dryFields 6 = .ok (.getfield 34, 3) := by decide +kernel
theorem dX0_dryFields_9 : decode cX0_dryFields 9 = .ok (.iload_n 1, 1) := by decide +kernel
theorem dX0_dryFields_10 : decode cX0_dryFields 10 = .ok (.aload_n 0, 1) := by decide +kernel
theorem dX0_dryFields_11 : decode cX0_dryFields 11 = .ok (.iload_n 1, 1) := by decide +kernel
theorem dX0_dryFields_12 : decode cX0_dryFields 12 = .ok (.lconst 0, 1) := by decide +kernel
theorem dX0_dryFields_13 : decode cX0_dryFields 13 = .ok (.invokevirtual 95, 3) := by decide +kernel
theorem dX0_dryFields_16 : decode cX0_dryFields 16 = .ok (.ior, 1) := by decide +kernel
theorem dX0_dryFields_17 : decode cX0_dryFields 17 = .ok (.iconst (-1), 1) := by decide +kernel
theorem dX0_dryFields_18 : decode cX0_dryFields 18 = .ok (.ixor, 1) := by decide +kernel
theorem dX0_dryFields_19 : decode cX0_dryFields 19 = .ok (.iand, 1) := by decide +kernel
theorem dX0_dryFields_20 : decode cX0_dryFields 20 = .ok (.ireturn, 1) := by decide +kernel
theorem dX0_tinted_0 : decode cX0_tinted 0 = .ok (.aload_n 0, 1) := by decide +kernel
theorem dX0_tinted_1 : decode cX0_tinted 1 = .ok (.iload_n 1, 1) := by decide +kernel
theorem dX0_tinted_2 : decode cX0_tinted 2 = .ok (.invokevirtual 135, 3) := by decide +kernel
theorem dX0_tinted_5 : decode cX0_tinted 5 = .ok (.aload_n 0, 1) := by decide +kernel
theorem dX0_tinted_6 : decode cX0_tinted 6 = .ok (.invokevirtual 138, 3) := by decide +kernel
theorem dX0_tinted_9 : decode cX0_tinted 9 = .ok (.iand, 1) := by decide +kernel
theorem dX0_tinted_10 : decode cX0_tinted 10 = .ok (.ireturn, 1) := by decide +kernel
theorem dX0_lanesAmong_0 : decode cX0_lanesAmong 0 = .ok (.iload_n 1, 1) := by decide +kernel
theorem dX0_lanesAmong_1 : decode cX0_lanesAmong 1 = .ok (.iload_n 1, 1) := by decide +kernel
theorem dX0_lanesAmong_2 : decode cX0_lanesAmong 2 = .ok (.iconst 1, 1) := by decide +kernel
theorem dX0_lanesAmong_3 : decode cX0_lanesAmong 3 = .ok (.iushr, 1) := by decide +kernel
theorem dX0_lanesAmong_4 : decode cX0_lanesAmong 4 = .ok (.iand, 1) := by decide +kernel
theorem dX0_lanesAmong_5 : decode cX0_lanesAmong 5 = .ok (.iload_n 1, 1) := by decide +kernel
theorem dX0_lanesAmong_6 : decode cX0_lanesAmong 6 = .ok (.iconst 2, 1) := by decide +kernel
theorem dX0_lanesAmong_7 : decode cX0_lanesAmong 7 = .ok (.iushr, 1) := by decide +kernel
theorem dX0_lanesAmong_8 : decode cX0_lanesAmong 8 = .ok (.iand, 1) := by decide +kernel
theorem dX0_lanesAmong_9 : decode cX0_lanesAmong 9 = .ok (.aload_n 0, 1) := by decide +kernel
theorem dX0_lanesAmong_10 : decode cX0_lanesAmong 10 = .ok (.getfield 40, 3) := by decide +kernel
theorem dX0_lanesAmong_13 : decode cX0_lanesAmong 13 = .ok (.iconst (-1), 1) := by decide +kernel
theorem dX0_lanesAmong_14 : decode cX0_lanesAmong 14 = .ok (.ixor, 1) := by decide +kernel
theorem dX0_lanesAmong_15 : decode cX0_lanesAmong 15 = .ok (.iand, 1) := by decide +kernel
theorem dX0_lanesAmong_16 : decode cX0_lanesAmong 16 = .ok (.aload_n 0, 1) := by decide +kernel
theorem dX0_lanesAmong_17 : decode cX0_lanesAmong 17 = .ok (.getfield 40, 3) := by decide +kernel
theorem dX0_lanesAmong_20 : decode cX0_lanesAmong 20 = .ok (.iconst 1, 1) := by decide +kernel
theorem dX0_lanesAmong_21 : decode cX0_lanesAmong 21 = .ok (.iushr, 1) := by decide +kernel
theorem dX0_lanesAmong_22 : decode cX0_lanesAmong 22 = .ok (.iconst (-1), 1) := by decide +kernel
theorem dX0_lanesAmong_23 : decode cX0_lanesAmong 23 = .ok (.ixor, 1) := by decide +kernel
theorem dX0_lanesAmong_24 : decode cX0_lanesAmong 24 = .ok (.iand, 1) := by decide +kernel
theorem dX0_lanesAmong_25 : decode cX0_lanesAmong 25 = .ok (.istore_n 2, 1) := by decide +kernel
theorem dX0_lanesAmong_26 : decode cX0_lanesAmong 26 = .ok (.iload_n 1, 1) := by decide +kernel
theorem dX0_lanesAmong_27 : decode cX0_lanesAmong 27 = .ok (.iload_n 1, 1) := by decide +kernel
theorem dX0_lanesAmong_28 : decode cX0_lanesAmong 28 = .ok (.aload_n 0, 1) := by decide +kernel
theorem dX0_lanesAmong_29 : decode cX0_lanesAmong 29 = .ok (.getfield 19, 3) := by decide +kernel
theorem dX0_lanesAmong_32 : decode cX0_lanesAmong 32 = .ok (.iushr, 1) := by decide +kernel
theorem dX0_lanesAmong_33 : decode cX0_lanesAmong 33 = .ok (.iand, 1) := by decide +kernel
theorem dX0_lanesAmong_34 : decode cX0_lanesAmong 34 = .ok (.iload_n 1, 1) := by decide +kernel
theorem dX0_lanesAmong_35 : decode cX0_lanesAmong 35 = .ok (.iconst 2, 1) := by decide +kernel
theorem dX0_lanesAmong_36 : decode cX0_lanesAmong 36 = .ok (.aload_n 0, 1) := by decide +kernel
theorem dX0_lanesAmong_37 : decode cX0_lanesAmong 37 = .ok (.getfield 19, 3) := by decide +kernel
theorem dX0_lanesAmong_40 : decode cX0_lanesAmong 40 = .ok (.imul, 1) := by decide +kernel
theorem dX0_lanesAmong_41 : decode cX0_lanesAmong 41 = .ok (.iushr, 1) := by decide +kernel
theorem dX0_lanesAmong_42 : decode cX0_lanesAmong 42 = .ok (.iand, 1) := by decide +kernel
theorem dX0_lanesAmong_43 : decode cX0_lanesAmong 43 = .ok (.istore_n 3, 1) := by decide +kernel
theorem dX0_lanesAmong_44 : decode cX0_lanesAmong 44 = .ok (.iload_n 2, 1) := by decide +kernel
theorem dX0_lanesAmong_45 : decode cX0_lanesAmong 45 = .ok (.invokestatic 141, 3) := by decide +kernel
theorem dX0_lanesAmong_48 : decode cX0_lanesAmong 48 = .ok (.iload_n 3, 1) := by decide +kernel
theorem dX0_lanesAmong_49 : decode cX0_lanesAmong 49 = .ok (.invokestatic 141, 3) := by decide +kernel
theorem dX0_lanesAmong_52 : decode cX0_lanesAmong 52 = .ok (.iadd, 1) := by decide +kernel
theorem dX0_lanesAmong_53 : decode cX0_lanesAmong 53 = .ok (.ireturn, 1) := by decide +kernel
theorem dX0_scoreOf_0 : decode cX0_scoreOf 0 = .ok (.aload_n 0, 1) := by decide +kernel
theorem dX0_scoreOf_1 : decode cX0_scoreOf 1 = .ok (.iload_n 1, 1) := by decide +kernel
theorem dX0_scoreOf_2 : decode cX0_scoreOf 2 = .ok (.invokevirtual 146, 3) := by decide +kernel
theorem dX0_scoreOf_5 : decode cX0_scoreOf 5 = .ok (.invokestatic 141, 3) := by decide +kernel
theorem dX0_scoreOf_8 : decode cX0_scoreOf 8 = .ok (.aload_n 0, 1) := by decide +kernel
theorem dX0_scoreOf_9 : decode cX0_scoreOf 9 = .ok (.aload_n 0, 1) := by decide +kernel
theorem dX0_scoreOf_10 : decode cX0_scoreOf 10 = .ok (.iconst 1, 1) := by decide +kernel
theorem dX0_scoreOf_11 : decode cX0_scoreOf 11 = .ok (.iload_n 1, 1) := by decide +kernel
theorem dX0_scoreOf_12 : decode cX0_scoreOf 12 = .ok (.isub, 1) := by decide +kernel
theorem dX0_scoreOf_13 : decode cX0_scoreOf 13 = .ok (.invokevirtual 146, 3) := by decide +kernel
theorem dX0_scoreOf_16 : decode cX0_scoreOf 16 = .ok (.invokevirtual 149, 3) := by decide +kernel
theorem dX0_scoreOf_19 : decode cX0_scoreOf 19 = .ok (.iadd, 1) := by decide +kernel
theorem dX0_scoreOf_20 : decode cX0_scoreOf 20 = .ok (.ireturn, 1) := by decide +kernel
theorem dX0_leadOf_0 : decode cX0_leadOf 0 = .ok (.aload_n 0, 1) := by decide +kernel
theorem dX0_leadOf_1 : decode cX0_leadOf 1 = .ok (.invokevirtual 138, 3) := by decide +kernel
theorem dX0_leadOf_4 : decode cX0_leadOf 4 = .ok (.istore_n 2, 1) := by decide +kernel
theorem dX0_leadOf_5 : decode cX0_leadOf 5 = .ok (.aload_n 0, 1) := by decide +kernel
theorem dX0_leadOf_6 : decode cX0_leadOf 6 = .ok (.iload_n 1, 1) := by decide +kernel
theorem dX0_leadOf_7 : decode cX0_leadOf 7 = .ok (.invokevirtual 135, 3) := by decide +kernel
theorem dX0_leadOf_10 : decode cX0_leadOf 10 = .ok (.iload_n 2, 1) := by decide +kernel
theorem dX0_leadOf_11 : decode cX0_leadOf 11 = .ok (.iand, 1) := by decide +kernel
theorem dX0_leadOf_12 : decode cX0_leadOf 12 = .ok (.istore_n 3, 1) := by decide +kernel
theorem dX0_leadOf_13 : decode cX0_leadOf 13 = .ok (.aload_n 0, 1) := by decide +kernel
theorem dX0_leadOf_14 : decode cX0_leadOf 14 = .ok (.iconst 1, 1) := by decide +kernel
theorem dX0_leadOf_15 : decode cX0_leadOf 15 = .ok (.iload_n 1, 1) := by decide +kernel
theorem dX0_leadOf_16 : decode cX0_leadOf 16 = .ok (.isub, 1) := by decide +kernel
theorem dX0_leadOf_17 : decode cX0_leadOf 17 = .ok (.invokevirtual 135, 3) := by decide +kernel
theorem dX0_leadOf_20 : decode cX0_leadOf 20 = .ok (.iload_n 2, 1) := by decide +kernel
theorem dX0_leadOf_21 : decode cX0_leadOf 21 = .ok (.iand, 1) := by decide +kernel
theorem dX0_leadOf_22 : decode cX0_leadOf 22 = .ok (.istore 4, 2) := by decide +kernel
theorem dX0_leadOf_24 : decode cX0_leadOf 24 = .ok (.iload_n 3, 1) := by decide +kernel
theorem dX0_leadOf_25 : decode cX0_leadOf 25 = .ok (.invokestatic 141, 3) := by decide +kernel
theorem dX0_leadOf_28 : decode cX0_leadOf 28 = .ok (.aload_n 0, 1) := by decide +kernel
theorem dX0_leadOf_29 : decode cX0_leadOf 29 = .ok (.iload 4, 2) := by decide +kernel
theorem dX0_leadOf_31 : decode cX0_leadOf 31 = .ok (.invokevirtual 149, 3) := by decide +kernel
theorem dX0_leadOf_34 : decode cX0_leadOf 34 = .ok (.iadd, 1) := by decide +kernel
theorem dX0_leadOf_35 : decode cX0_leadOf 35 = .ok (.iload 4, 2) := by decide +kernel
theorem dX0_leadOf_37 : decode cX0_leadOf 37 = .ok (.invokestatic 141, 3) := by decide +kernel
theorem dX0_leadOf_40 : decode cX0_leadOf 40 = .ok (.isub, 1) := by decide +kernel
theorem dX0_leadOf_41 : decode cX0_leadOf 41 = .ok (.aload_n 0, 1) := by decide +kernel
theorem dX0_leadOf_42 : decode cX0_leadOf 42 = .ok (.iload_n 3, 1) := by decide +kernel
theorem dX0_leadOf_43 : decode cX0_leadOf 43 = .ok (.invokevirtual 149, 3) := by decide +kernel
theorem dX0_leadOf_46 : decode cX0_leadOf 46 = .ok (.isub, 1) := by decide +kernel
theorem dX0_leadOf_47 : decode cX0_leadOf 47 = .ok (.ireturn, 1) := by decide +kernel
theorem dX0_shuttingEdges_0 : decode cX0_shuttingEdges 0 = .ok (.aload_n 0, 1) := by decide +kernel
theorem dX0_shuttingEdges_1 : decode cX0_shuttingEdges 1 = .ok (.aload_n 0, 1) := by decide +kernel
theorem dX0_shuttingEdges_2 : decode cX0_shuttingEdges 2 = .ok (.aload_n 0, 1) := by decide +kernel
theorem dX0_shuttingEdges_3 : decode cX0_shuttingEdges 3 = .ok (.getfield 57, 3) := by decide +kernel
theorem dX0_shuttingEdges_6 : decode cX0_shuttingEdges 6 = .ok (.invokevirtual 152, 3) := by decide +kernel
theorem dX0_shuttingEdges_9 : decode cX0_shuttingEdges 9 = .ok (.invokevirtual 155, 3) := by decide +kernel
theorem dX0_shuttingEdges_12 : decode cX0_shuttingEdges 12 = .ok (.aload_n 0, 1) := by decide +kernel
theorem dX0_shuttingEdges_13 : decode cX0_shuttingEdges 13 = .ok (.invokevirtual 116, 3) := by decide +kernel
theorem dX0_shuttingEdges_16 : decode cX0_shuttingEdges 16 = .ok (.land, 1) := by decide +kernel
theorem dX0_shuttingEdges_17 : decode cX0_shuttingEdges 17 = .ok (.lreturn, 1) := by decide +kernel
theorem dX0_calmEdges_0 : decode cX0_calmEdges 0 = .ok (.aload_n 0, 1) := by decide +kernel
theorem dX0_calmEdges_1 : decode cX0_calmEdges 1 = .ok (.invokevirtual 116, 3) := by decide +kernel
theorem dX0_calmEdges_4 : decode cX0_calmEdges 4 = .ok (.aload_n 0, 1) := by decide +kernel
theorem dX0_calmEdges_5 : decode cX0_calmEdges 5 = .ok (.aload_n 0, 1) := by decide +kernel
theorem dX0_calmEdges_6 : decode cX0_calmEdges 6 = .ok (.aload_n 0, 1) := by decide +kernel
theorem dX0_calmEdges_7 : decode cX0_calmEdges 7 = .ok (.getfield 57, 3) := by decide +kernel
theorem dX0_calmEdges_10 : decode cX0_calmEdges 10 = .ok (.invokevirtual 159, 3) := by decide +kernel
theorem dX0_calmEdges_13 : decode cX0_calmEdges 13 = .ok (.invokevirtual 155, 3) := by decide +kernel
theorem dX0_calmEdges_16 : decode cX0_calmEdges 16 = .ok (.ldc2_w 110, 3) := by decide +kernel
theorem dX0_calmEdges_19 : decode cX0_calmEdges 19 = .ok (.lxor, 1) := by decide +kernel
theorem dX0_calmEdges_20 : decode cX0_calmEdges 20 = .ok (.land, 1) := by decide +kernel
theorem dX0_calmEdges_21 : decode cX0_calmEdges 21 = .ok (.lstore_n 1, 1) := by decide +kernel
theorem dX0_calmEdges_22 : decode cX0_calmEdges 22 = .ok (.aload_n 0, 1) := by decide +kernel
theorem dX0_calmEdges_23 : decode cX0_calmEdges 23 = .ok (.aload_n 0, 1) := by decide +kernel
theorem dX0_calmEdges_24 : decode cX0_calmEdges 24 = .ok (.getfield 57, 3) := by decide +kernel
theorem dX0_calmEdges_27 : decode cX0_calmEdges 27 = .ok (.invokevirtual 152, 3) := by decide +kernel
theorem dX0_calmEdges_30 : decode cX0_calmEdges 30 = .ok (.istore_n 3, 1) := by decide +kernel
theorem dX0_calmEdges_31 : decode cX0_calmEdges 31 = .ok (.iconst 0, 1) := by decide +kernel
theorem dX0_calmEdges_32 : decode cX0_calmEdges 32 = .ok (.istore 4, 2) := by decide +kernel
theorem dX0_calmEdges_34 : decode cX0_calmEdges 34 = .ok (.iload 4, 2) := by decide +kernel
theorem dX0_calmEdges_36 : decode cX0_calmEdges 36 = .ok (.bipush 16, 2) := by decide +kernel
theorem dX0_calmEdges_38 : decode cX0_calmEdges 38 = .ok (.if_icmp .ge 33, 3) := by decide +kernel
theorem dX0_calmEdges_41 : decode cX0_calmEdges 41 = .ok (.iload_n 3, 1) := by decide +kernel
theorem dX0_calmEdges_42 : decode cX0_calmEdges 42 = .ok (.ifCond .eq 29, 3) := by decide +kernel
theorem dX0_calmEdges_45 : decode cX0_calmEdges 45 = .ok (.iload_n 3, 1) := by decide +kernel
theorem dX0_calmEdges_46 : decode cX0_calmEdges 46 = .ok (.iload_n 3, 1) := by decide +kernel
theorem dX0_calmEdges_47 : decode cX0_calmEdges 47 = .ok (.ineg, 1) := by decide +kernel
theorem dX0_calmEdges_48 : decode cX0_calmEdges 48 = .ok (.iand, 1) := by decide +kernel
theorem dX0_calmEdges_49 : decode cX0_calmEdges 49 = .ok (.istore 5, 2) := by decide +kernel
theorem dX0_calmEdges_51 : decode cX0_calmEdges 51 = .ok (.lload_n 1, 1) := by decide +kernel
theorem dX0_calmEdges_52 : decode cX0_calmEdges 52 = .ok (.aload_n 0, 1) := by decide +kernel
theorem dX0_calmEdges_53 : decode cX0_calmEdges 53 = .ok (.iload 5, 2) := by decide +kernel
theorem dX0_calmEdges_55 : decode cX0_calmEdges 55 = .ok (.invokevirtual 155, 3) := by decide +kernel
theorem dX0_calmEdges_58 : decode cX0_calmEdges 58 = .ok (.land, 1) := by decide +kernel
theorem dX0_calmEdges_59 : decode cX0_calmEdges 59 = .ok (.lstore_n 1, 1) := by decide +kernel
theorem dX0_calmEdges_60 : decode cX0_calmEdges 60 = .ok (.iload_n 3, 1) := by decide +kernel
theorem dX0_calmEdges_61 : decode cX0_calmEdges 61 = .ok (.iload 5, 2) := by decide +kernel
theorem dX0_calmEdges_63 : decode cX0_calmEdges 63 = .ok (.ixor, 1) := by decide +kernel
theorem dX0_calmEdges_64 : decode cX0_calmEdges 64 = .ok (.istore_n 3, 1) := by decide +kernel
theorem dX0_calmEdges_65 : decode cX0_calmEdges 65 = .ok (.iinc 4 1, 3) := by decide +kernel
theorem dX0_calmEdges_68 : decode cX0_calmEdges 68 = .ok (.goto (-34), 3) := by decide +kernel
theorem dX0_calmEdges_71 : decode cX0_calmEdges 71 = .ok (.lload_n 1, 1) := by decide +kernel
theorem dX0_calmEdges_72 : decode cX0_calmEdges 72 = .ok (.lreturn, 1) := by decide +kernel
theorem dX0_digsBelow_0 : decode cX0_digsBelow 0 = .ok (.aload_n 0, 1) := by decide +kernel
theorem dX0_digsBelow_1 : decode cX0_digsBelow 1 = .ok (.getfield 60, 3) := by decide +kernel
theorem dX0_digsBelow_4 : decode cX0_digsBelow 4 = .ok (.invokestatic 141, 3) := by decide +kernel
theorem dX0_digsBelow_7 : decode cX0_digsBelow 7 = .ok (.iload_n 1, 1) := by decide +kernel
theorem dX0_digsBelow_8 : decode cX0_digsBelow 8 = .ok (.if_icmp .ge 16, 3) := by decide +kernel
theorem dX0_digsBelow_11 : decode cX0_digsBelow 11 = .ok (.aload_n 0, 1) := by decide +kernel
theorem dX0_digsBelow_12 : decode cX0_digsBelow 12 = .ok (.invokevirtual 120, 3) := by decide +kernel
theorem dX0_digsBelow_15 : decode cX0_digsBelow 15 = .ok (.iload_n 2, 1) := by decide +kernel
theorem dX0_digsBelow_16 : decode cX0_digsBelow 16 = .ok (.iand, 1) := by decide +kernel
theorem dX0_digsBelow_17 : decode cX0_digsBelow 17 = .ok (.i2l, 1) := by decide +kernel
theorem dX0_digsBelow_18 : decode cX0_digsBelow 18 = .ok (.bipush 40, 2) := by decide +kernel
theorem dX0_digsBelow_20 : decode cX0_digsBelow 20 = .ok (.lshl, 1) := by decide +kernel
theorem dX0_digsBelow_21 : decode cX0_digsBelow 21 = .ok (.goto 4, 3) := by decide +kernel
theorem dX0_digsBelow_24 : decode cX0_digsBelow 24 = .ok (.lconst 0, 1) := by decide +kernel
theorem dX0_digsBelow_25 : decode cX0_digsBelow 25 = .ok (.lreturn, 1) := by decide +kernel
theorem dX0_drawBelow_0 : decode cX0_drawBelow 0 = .ok (.aload_n 0, 1) := by decide +kernel
theorem dX0_drawBelow_1 : decode cX0_drawBelow 1 = .ok (.aload_n 0, 1) := by decide +kernel
theorem dX0_drawBelow_2 : decode cX0_drawBelow 2 = .ok (.getfield 9, 3) := by decide +kernel
theorem dX0_drawBelow_5 : decode cX0_drawBelow 5 = .ok (.ldc 162, 2) := by decide +kernel
theorem dX0_drawBelow_7 : decode cX0_drawBelow 7 = .ok (.imul, 1) := by decide +kernel
theorem dX0_drawBelow_8 : decode cX0_drawBelow 8 = .ok (.sipush 12345, 3) := by decide +kernel
theorem dX0_drawBelow_11 : decode cX0_drawBelow 11 = .ok (.iadd, 1) := by decide +kernel
theorem dX0_drawBelow_12 : decode cX0_drawBelow 12 = .ok (.putfield 9, 3) := by decide +kernel
theorem dX0_drawBelow_15 : decode cX0_drawBelow 15 = .ok (.iload_n 1, 1) := by decide +kernel
theorem dX0_drawBelow_16 : decode cX0_drawBelow 16 = .ok (.ifCond .le 15, 3) := by decide +kernel
theorem dX0_drawBelow_19 : decode cX0_drawBelow 19 = .ok (.aload_n 0, 1) := by decide +kernel
theorem dX0_drawBelow_20 : decode cX0_drawBelow 20 = .ok (.getfield 9, 3) := by decide +kernel
theorem dX0_drawBelow_23 : decode cX0_drawBelow 23 = .ok (.bipush 16, 2) := by decide +kernel
theorem dX0_drawBelow_25 : decode cX0_drawBelow 25 = .ok (.iushr, 1) := by decide +kernel
theorem dX0_drawBelow_26 : decode cX0_drawBelow 26 = .ok (.iload_n 1, 1) := by decide +kernel
theorem dX0_drawBelow_27 : decode cX0_drawBelow 27 = .ok (.irem, 1) := by decide +kernel
theorem dX0_drawBelow_28 : decode cX0_drawBelow 28 = .ok (.goto 4, 3) := by decide +kernel
theorem dX0_drawBelow_31 : decode cX0_drawBelow 31 = .ok (.iconst 0, 1) := by decide +kernel
theorem dX0_drawBelow_32 : decode cX0_drawBelow 32 = .ok (.ireturn, 1) := by decide +kernel
theorem dX0_drawnSlot_0 : decode cX0_drawnSlot 0 = .ok (.lload_n 1, 1) := by decide +kernel
theorem dX0_drawnSlot_1 : decode cX0_drawnSlot 1 = .ok (.lconst 0, 1) := by decide +kernel
theorem dX0_drawnSlot_2 : decode cX0_drawnSlot 2 = .ok (.lcmp, 1) := by decide +kernel
theorem dX0_drawnSlot_3 : decode cX0_drawnSlot 3 = .ok (.ifCond .ne 7, 3) := by decide +kernel
theorem dX0_drawnSlot_6 : decode cX0_drawnSlot 6 = .ok (.iconst (-1), 1) := by decide +kernel
theorem dX0_drawnSlot_7 : decode cX0_drawnSlot 7 = .ok (.goto 15, 3) := by decide +kernel
theorem dX0_drawnSlot_10 : decode cX0_drawnSlot 10 = .ok (.lload_n 1, 1) := by decide +kernel
theorem dX0_drawnSlot_11 : decode cX0_drawnSlot 11 = .ok (.aload_n 0, 1) := by decide +kernel
theorem dX0_drawnSlot_12 : decode cX0_drawnSlot 12 = .ok (.lload_n 1, 1) := by decide +kernel
theorem dX0_drawnSlot_13 : decode cX0_drawnSlot 13 = .ok (.invokestatic 163, 3) := by decide +kernel
theorem dX0_drawnSlot_16 : decode cX0_drawnSlot 16 = .ok (.invokevirtual 167, 3) := by decide +kernel
theorem dX0_drawnSlot_19 : decode cX0_drawnSlot 19 = .ok (.invokestatic 170, 3) := by decide +kernel
theorem dX0_drawnSlot_22 : decode cX0_drawnSlot 22 = .ok (.ireturn, 1) := by decide +kernel
theorem dX0_chainFrom_0 : decode cX0_chainFrom 0 = .ok (.aload_n 0, 1) := by decide +kernel
theorem dX0_chainFrom_1 : decode cX0_chainFrom 1 = .ok (.getfield 57, 3) := by decide +kernel
theorem dX0_chainFrom_4 : decode cX0_chainFrom 4 = .ok (.lstore_n 2, 1) := by decide +kernel
theorem dX0_chainFrom_5 : decode cX0_chainFrom 5 = .ok (.iload_n 1, 1) := by decide +kernel
theorem dX0_chainFrom_6 : decode cX0_chainFrom 6 = .ok (.istore 4, 2) := by decide +kernel
theorem dX0_chainFrom_8 : decode cX0_chainFrom 8 = .ok (.iconst 0, 1) := by decide +kernel
theorem dX0_chainFrom_9 : decode cX0_chainFrom 9 = .ok (.istore 5, 2) := by decide +kernel
theorem dX0_chainFrom_11 : decode cX0_chainFrom 11 = .ok (.iconst 0, 1) := by decide +kernel
theorem dX0_chainFrom_12 : decode cX0_chainFrom 12 = .ok (.istore 6, 2) := by decide +kernel
theorem dX0_chainFrom_14 : decode cX0_chainFrom 14 = .ok (.iload 6, 2) := by decide +kernel
theorem dX0_chainFrom_16 : decode cX0_chainFrom 16 = .ok (.bipush 16, 2) := by decide +kernel
theorem dX0_chainFrom_18 : decode cX0_chainFrom 18 = .ok (.if_icmp .ge 91, 3) := by decide +kernel
theorem dX0_chainFrom_21 : decode cX0_chainFrom 21 = .ok (.aload_n 0, 1) := by decide +kernel
theorem dX0_chainFrom_22 : decode cX0_chainFrom 22 = .ok (.iload 4, 2) := by decide +kernel
theorem dX0_chainFrom_24 : decode cX0_chainFrom 24 = .ok (.invokevirtual 107, 3) := by decide +kernel
theorem dX0_chainFrom_27 : decode cX0_chainFrom 27 = .ok (.ifCond .eq 82, 3) := by decide +kernel
theorem dX0_chainFrom_30 : decode cX0_chainFrom 30 = .ok (.aload_n 0, 1) := by decide +kernel
theorem dX0_chainFrom_31 : decode cX0_chainFrom 31 = .ok (.lload_n 2, 1) := by decide +kernel
theorem dX0_chainFrom_32 : decode cX0_chainFrom 32 = .ok (.invokevirtual 152, 3) := by decide +kernel
theorem dX0_chainFrom_35 : decode cX0_chainFrom 35 = .ok (.iload 4, 2) := by decide +kernel
theorem dX0_chainFrom_37 : decode cX0_chainFrom 37 = .ok (.iushr, 1) := by decide +kernel
theorem dX0_chainFrom_38 : decode cX0_chainFrom 38 = .ok (.iconst 1, 1) := by decide +kernel
theorem dX0_chainFrom_39 : decode cX0_chainFrom 39 = .ok (.iand, 1) := by decide +kernel
theorem dX0_chainFrom_40 : decode cX0_chainFrom 40 = .ok (.ifCond .ne 6, 3) := by decide +kernel
theorem dX0_chainFrom_43 : decode cX0_chainFrom 43 = .ok (.goto 66, 3) := by decide +kernel
theorem dX0_chainFrom_46 : decode cX0_chainFrom 46 = .ok (.aload_n 0, 1) := by decide +kernel
theorem dX0_chainFrom_47 : decode cX0_chainFrom 47 = .ok (.iconst 1, 1) := by decide +kernel
theorem dX0_chainFrom_48 : decode cX0_chainFrom 48 = .ok (.iload 4, 2) := by decide +kernel
theorem dX0_chainFrom_50 : decode cX0_chainFrom 50 = .ok (.ishl, 1) := by decide +kernel
theorem dX0_chainFrom_51 : decode cX0_chainFrom 51 = .ok (.invokevirtual 155, 3) := by decide +kernel
theorem dX0_chainFrom_54 : decode cX0_chainFrom 54 = .ok (.lload_n 2, 1) := by decide +kernel
theorem dX0_chainFrom_55 : decode cX0_chainFrom 55 = .ok (.ldc2_w 110, 3) := by decide +kernel
theorem dX0_chainFrom_58 : decode cX0_chainFrom 58 = .ok (.lxor, 1) := by decide +kernel
theorem dX0_chainFrom_59 : decode cX0_chainFrom 59 = .ok (.land, 1) := by decide +kernel
theorem dX0_chainFrom_60 : decode cX0_chainFrom 60 = .ok (.invokestatic 173, 3) := by decide +kernel
theorem dX0_chainFrom_63 : decode cX0_chainFrom 63 = .ok (.istore 7, 2) := by decide +kernel
theorem dX0_chainFrom_65 : decode cX0_chainFrom 65 = .ok (.lload_n 2, 1) := by decide +kernel
theorem dX0_chainFrom_66 : decode cX0_chainFrom 66 = .ok (.lconst 1, 1) := by decide +kernel
theorem dX0_chainFrom_67 : decode cX0_chainFrom 67 = .ok (.iload 7, 2) := by decide +kernel
theorem dX0_chainFrom_69 : decode cX0_chainFrom 69 = .ok (.lshl, 1) := by decide +kernel
theorem dX0_chainFrom_70 : decode cX0_chainFrom 70 = .ok (.lor, 1) := by decide +kernel
theorem dX0_chainFrom_71 : decode cX0_chainFrom 71 = .ok (.lstore_n 2, 1) := by decide +kernel
theorem dX0_chainFrom_72 : decode cX0_chainFrom 72 = .ok (.iinc 5 1, 3) := by decide +kernel
theorem dX0_chainFrom_75 : decode cX0_chainFrom 75 = .ok (.aload_n 0, 1) := by decide +kernel
theorem dX0_chainFrom_76 : decode cX0_chainFrom 76 = .ok (.iload 7, 2) := by decide +kernel
theorem dX0_chainFrom_78 : decode cX0_chainFrom 78 = .ok (.invokevirtual 47, 3) := by decide +kernel
theorem dX0_chainFrom_81 : decode cX0_chainFrom 81 = .ok (.iload 4, 2) := by decide +kernel
theorem dX0_chainFrom_83 : decode cX0_chainFrom 83 = .ok (.if_icmp .ne 12, 3) := by decide +kernel
theorem dX0_chainFrom_86 : decode cX0_chainFrom 86 = .ok (.aload_n 0, 1) := by decide +kernel
theorem dX0_chainFrom_87 : decode cX0_chainFrom 87 = .ok (.iload 7, 2) := by decide +kernel
theorem dX0_chainFrom_89 : decode cX0_chainFrom 89 = .ok (.invokevirtual 51, 3) := by decide +kernel
theorem dX0_chainFrom_92 : decode cX0_chainFrom 92 = .ok (.goto 9, 3) := by decide +kernel
theorem dX0_chainFrom_95 : decode cX0_chainFrom 95 = .ok (.aload_n 0, 1) := by decide +kernel
theorem dX0_chainFrom_96 : decode cX0_chainFrom 96 = .ok (.iload 7, 2) := by decide +kernel
theorem dX0_chainFrom_98 : decode cX0_chainFrom 98 = .ok (.invokevirtual 47, 3) := by decide +kernel
theorem dX0_chainFrom_101 : decode cX0_chainFrom 101 = .ok (.istore 4, 2) := by decide +kernel
theorem dX0_chainFrom_103 : decode cX0_chainFrom 103 = .ok (.iinc 6 1, 3) := by decide +kernel
theorem dX0_chainFrom_106 : decode cX0_chainFrom 106 = .ok (.goto (-92), 3) := by decide +kernel
theorem dX0_chainFrom_109 : decode cX0_chainFrom 109 = .ok (.iload 5, 2) := by decide +kernel
theorem dX0_chainFrom_111 : decode cX0_chainFrom 111 = .ok (.ireturn, 1) := by decide +kernel
theorem dX0_isAlike_0 : decode cX0_isAlike 0 = .ok (.aload_n 0, 1) := by decide +kernel
theorem dX0_isAlike_1 : decode cX0_isAlike 1 = .ok (.aload_n 0, 1) := by decide +kernel
theorem dX0_isAlike_2 : decode cX0_isAlike 2 = .ok (.getfield 57, 3) := by decide +kernel
theorem dX0_isAlike_5 : decode cX0_isAlike 5 = .ok (.iload_n 1, 1) := by decide +kernel
theorem dX0_isAlike_6 : decode cX0_isAlike 6 = .ok (.invokevirtual 176, 3) := by decide +kernel
theorem dX0_isAlike_9 : decode cX0_isAlike 9 = .ok (.aload_n 0, 1) := by decide +kernel
theorem dX0_isAlike_10 : decode cX0_isAlike 10 = .ok (.getfield 57, 3) := by decide +kernel
theorem dX0_isAlike_13 : decode cX0_isAlike 13 = .ok (.lcmp, 1) := by decide +kernel
theorem dX0_isAlike_14 : decode cX0_isAlike 14 = .ok (.ifCond .ne 55, 3) := by decide +kernel
theorem dX0_isAlike_17 : decode cX0_isAlike 17 = .ok (.aload_n 0, 1) := by decide +kernel
theorem dX0_isAlike_18 : decode cX0_isAlike 18 = .ok (.aload_n 0, 1) := by decide +kernel
theorem dX0_isAlike_19 : decode cX0_isAlike 19 = .ok (.getfield 60, 3) := by decide +kernel
theorem dX0_isAlike_22 : decode cX0_isAlike 22 = .ok (.iload_n 1, 1) := by decide +kernel
theorem dX0_isAlike_23 : decode cX0_isAlike 23 = .ok (.invokevirtual 180, 3) := by decide +kernel
theorem dX0_isAlike_26 : decode cX0_isAlike 26 = .ok (.aload_n 0, 1) := by decide +kernel
theorem dX0_isAlike_27 : decode cX0_isAlike 27 = .ok (.getfield 60, 3) := by decide +kernel
theorem dX0_isAlike_30 : decode cX0_isAlike 30 = .ok (.if_icmp .ne 39, 3) := by decide +kernel
theorem dX0_isAlike_33 : decode cX0_isAlike 33 = .ok (.aload_n 0, 1) := by decide +kernel
theorem dX0_isAlike_34 : decode cX0_isAlike 34 = .ok (.aload_n 0, 1) := by decide +kernel
theorem dX0_isAlike_35 : decode cX0_isAlike 35 = .ok (.getfield 63, 3) := by decide +kernel
theorem dX0_isAlike_38 : decode cX0_isAlike 38 = .ok (.iload_n 1, 1) := by decide +kernel
theorem dX0_isAlike_39 : decode cX0_isAlike 39 = .ok (.invokevirtual 180, 3) := by decide +kernel
theorem dX0_isAlike_42 : decode cX0_isAlike 42 = .ok (.aload_n 0, 1) := by decide +kernel
theorem dX0_isAlike_43 : decode cX0_isAlike 43 = .ok (.getfield 63, 3) := by decide +kernel
theorem dX0_isAlike_46 : decode cX0_isAlike 46 = .ok (.if_icmp .ne 23, 3) := by decide +kernel
theorem dX0_isAlike_49 : decode cX0_isAlike 49 = .ok (.aload_n 0, 1) := by decide +kernel
theorem dX0_isAlike_50 : decode cX0_isAlike 50 = .ok (.aload_n 0, 1) := by decide +kernel
theorem dX0_isAlike_51 : decode cX0_isAlike 51 = .ok (.getfield 66, 3) := by decide +kernel
theorem dX0_isAlike_54 : decode cX0_isAlike 54 = .ok (.iload_n 1, 1) := by decide +kernel
theorem dX0_isAlike_55 : decode cX0_isAlike 55 = .ok (.invokevirtual 180, 3) := by decide +kernel
theorem dX0_isAlike_58 : decode cX0_isAlike 58 = .ok (.aload_n 0, 1) := by decide +kernel
theorem dX0_isAlike_59 : decode cX0_isAlike 59 = .ok (.getfield 66, 3) := by decide +kernel
theorem dX0_isAlike_62 : decode cX0_isAlike 62 = .ok (.if_icmp .ne 7, 3) := by decide +kernel
theorem dX0_isAlike_65 : decode cX0_isAlike 65 = .ok (.iconst 1, 1) := by decide +kernel
theorem dX0_isAlike_66 : decode cX0_isAlike 66 = .ok (.goto 4, 3) := by decide +kernel
theorem dX0_isAlike_69 : decode cX0_isAlike 69 = .ok (.iconst 0, 1) := by decide +kernel
theorem dX0_isAlike_70 : decode cX0_isAlike 70 = .ok (.ireturn, 1) := by decide +kernel
theorem dX0_turnedFields_0 : decode cX0_turnedFields 0 = .ok (.iconst 0, 1) := by decide +kernel
theorem dX0_turnedFields_1 : decode cX0_turnedFields 1 = .ok (.istore_n 3, 1) := by decide +kernel
theorem dX0_turnedFields_2 : decode cX0_turnedFields 2 = .ok (.iconst 0, 1) := by decide +kernel
theorem dX0_turnedFields_3 : decode cX0_turnedFields 3 = .ok (.istore 4, 2) := by decide +kernel
theorem dX0_turnedFields_5 : decode cX0_turnedFields 5 = .ok (.iload 4, 2) := by decide +kernel
theorem dX0_turnedFields_7 : decode cX0_turnedFields 7 = .ok (.aload_n 0, 1) := by decide +kernel
theorem dX0_turnedFields_8 : decode cX0_turnedFields 8 = .ok (.getfield 25, 3) := by decide +kernel
theorem dX0_turnedFields_11 : decode cX0_turnedFields 11 = .ok (.if_icmp .ge 56, 3) := by decide +kernel
theorem dX0_turnedFields_14 : decode cX0_turnedFields 14 = .ok (.iload_n 1, 1) := by decide +kernel
theorem dX0_turnedFields_15 : decode cX0_turnedFields 15 = .ok (.iload 4, 2) := by decide +kernel
theorem dX0_turnedFields_17 : decode cX0_turnedFields 17 = .ok (.iushr, 1) := by decide +kernel
theorem dX0_turnedFields_18 : decode cX0_turnedFields 18 = .ok (.iconst 1, 1) := by decide +kernel
theorem dX0_turnedFields_19 : decode cX0_turnedFields 19 = .ok (.iand, 1) := by decide +kernel
theorem dX0_turnedFields_20 : decode cX0_turnedFields 20 = .ok (.ifCond .eq 41, 3) := by decide +kernel
theorem dX0_turnedFields_23 : decode cX0_turnedFields 23 = .ok (.aload_n 0, 1) := by decide +kernel
theorem dX0_turnedFields_24 : decode cX0_turnedFields 24 = .ok (.iload 4, 2) := by decide +kernel
theorem dX0_turnedFields_26 : decode cX0_turnedFields 26 = .ok (.invokevirtual 75, 3) := by decide +kernel
theorem dX0_turnedFields_29 : decode cX0_turnedFields 29 = .ok (.istore 5, 2) := by decide +kernel
theorem dX0_turnedFields_31 : decode cX0_turnedFields 31 = .ok (.iload_n 3, 1) := by decide +kernel
theorem dX0_turnedFields_32 : decode cX0_turnedFields 32 = .ok (.iconst 1, 1) := by decide +kernel
theorem dX0_turnedFields_33 : decode cX0_turnedFields 33 = .ok (.aload_n 0, 1) := by decide +kernel
theorem dX0_turnedFields_34 : decode cX0_turnedFields 34 = .ok (.iload 5, 2) := by decide +kernel
theorem dX0_turnedFields_36 : decode cX0_turnedFields 36 = .ok (.iload 4, 2) := by decide +kernel
theorem dX0_turnedFields_38 : decode cX0_turnedFields 38 = .ok (.iload 5, 2) := by decide +kernel
theorem dX0_turnedFields_40 : decode cX0_turnedFields 40 = .ok (.aload_n 0, 1) := by decide +kernel
theorem dX0_turnedFields_41 : decode cX0_turnedFields 41 = .ok (.getfield 19, 3) := by decide +kernel
theorem dX0_turnedFields_44 : decode cX0_turnedFields 44 = .ok (.imul, 1) := by decide +kernel
theorem dX0_turnedFields_45 : decode cX0_turnedFields 45 = .ok (.isub, 1) := by decide +kernel
theorem dX0_turnedFields_46 : decode cX0_turnedFields 46 = .ok (.aload_n 0, 1) := by decide +kernel
theorem dX0_turnedFields_47 : decode cX0_turnedFields 47 = .ok (.getfield 22, 3) := by decide +kernel
theorem dX0_turnedFields_50 : decode cX0_turnedFields 50 = .ok (.aload_n 0, 1) := by decide +kernel
theorem dX0_turnedFields_51 : decode cX0_turnedFields 51 = .ok (.getfield 19, 3) := by decide +kernel
theorem dX0_turnedFields_54 : decode cX0_turnedFields 54 = .ok (.iload_n 2, 1) := by decide +kernel
theorem dX0_turnedFields_55 : decode cX0_turnedFields 55 = .ok (.invokevirtual 184, 3) := by decide +kernel
theorem dX0_turnedFields_58 : decode cX0_turnedFields 58 = .ok (.ishl, 1) := by decide +kernel
theorem dX0_turnedFields_59 : decode cX0_turnedFields 59 = .ok (.ior, 1) := by decide +kernel
theorem dX0_turnedFields_60 : decode cX0_turnedFields 60 = .ok (.istore_n 3, 1) := by decide +kernel
theorem dX0_turnedFields_61 : decode cX0_turnedFields 61 = .ok (.iinc 4 1, 3) := by decide +kernel
theorem dX0_turnedFields_64 : decode cX0_turnedFields 64 = .ok (.goto (-59), 3) := by decide +kernel
theorem dX0_turnedFields_67 : decode cX0_turnedFields 67 = .ok (.iload_n 3, 1) := by decide +kernel
theorem dX0_turnedFields_68 : decode cX0_turnedFields 68 = .ok (.ireturn, 1) := by decide +kernel
theorem dX0_turnedEdges_0 : decode cX0_turnedEdges 0 = .ok (.lconst 0, 1) := by decide +kernel
theorem dX0_turnedEdges_1 : decode cX0_turnedEdges 1 = .ok (.lstore 4, 2) := by decide +kernel
theorem dX0_turnedEdges_3 : decode cX0_turnedEdges 3 = .ok (.iconst 0, 1) := by decide +kernel
theorem dX0_turnedEdges_4 : decode cX0_turnedEdges 4 = .ok (.istore 6, 2) := by decide +kernel
theorem dX0_turnedEdges_6 : decode cX0_turnedEdges 6 = .ok (.iload 6, 2) := by decide +kernel
theorem dX0_turnedEdges_8 : decode cX0_turnedEdges 8 = .ok (.aload_n 0, 1) := by decide +kernel
theorem dX0_turnedEdges_9 : decode cX0_turnedEdges 9 = .ok (.getfield 31, 3) := by decide +kernel
theorem dX0_turnedEdges_12 : decode cX0_turnedEdges 12 = .ok (.if_icmp .ge 34, 3) := by decide +kernel
theorem dX0_turnedEdges_15 : decode cX0_turnedEdges 15 = .ok (.lload_n 1, 1) := by decide +kernel
theorem dX0_turnedEdges_16 : decode cX0_turnedEdges 16 = .ok (.iload 6, 2) := by decide +kernel
theorem dX0_turnedEdges_18 : decode cX0_turnedEdges 18 = .ok (.lushr, 1) := by decide +kernel
theorem dX0_turnedEdges_19 : decode cX0_turnedEdges 19 = .ok (.lconst 1, 1) := by decide +kernel
theorem dX0_turnedEdges_20 : decode cX0_turnedEdges 20 = .ok (.land, 1) := by decide +kernel
theorem dX0_turnedEdges_21 : decode cX0_turnedEdges 21 = .ok (.lconst 0, 1) := by decide +kernel
theorem dX0_turnedEdges_22 : decode cX0_turnedEdges 22 = .ok (.lcmp, 1) := by decide +kernel
theorem dX0_turnedEdges_23 : decode cX0_turnedEdges 23 = .ok (.ifCond .eq 17, 3) := by decide +kernel
theorem dX0_turnedEdges_26 : decode cX0_turnedEdges 26 = .ok (.lload 4, 2) := by decide +kernel
theorem dX0_turnedEdges_28 : decode cX0_turnedEdges 28 = .ok (.lconst 1, 1) := by decide +kernel
theorem dX0_turnedEdges_29 : decode cX0_turnedEdges 29 = .ok (.aload_n 0, 1) := by decide +kernel
theorem dX0_turnedEdges_30 : decode cX0_turnedEdges 30 = .ok (.iload 6, 2) := by decide +kernel
theorem dX0_turnedEdges_32 : decode cX0_turnedEdges 32 = .ok (.iload_n 3, 1) := by decide +kernel
theorem dX0_turnedEdges_33 : decode cX0_turnedEdges 33 = .ok (.invokevirtual 188, 3) := by decide +kernel
theorem dX0_turnedEdges_36 : decode cX0_turnedEdges 36 = .ok (.lshl, 1) := by decide +kernel
theorem dX0_turnedEdges_37 : decode cX0_turnedEdges 37 = .ok (.lor, 1) := by decide +kernel
theorem dX0_turnedEdges_38 : decode cX0_turnedEdges 38 = .ok (.lstore 4, 2) := by decide +kernel
theorem dX0_turnedEdges_40 : decode cX0_turnedEdges 40 = .ok (.iinc 6 1, 3) := by decide +kernel
theorem dX0_turnedEdges_43 : decode cX0_turnedEdges 43 = .ok (.goto (-37), 3) := by decide +kernel
theorem dX0_turnedEdges_46 : decode cX0_turnedEdges 46 = .ok (.lload 4, 2) := by decide +kernel
theorem dX0_turnedEdges_48 : decode cX0_turnedEdges 48 = .ok (.lreturn, 1) := by decide +kernel
theorem dX0_edgeTurned_0 : decode cX0_edgeTurned 0 = .ok (.iload_n 1, 1) := by decide +kernel
theorem dX0_edgeTurned_1 : decode cX0_edgeTurned 1 = .ok (.aload_n 0, 1) := by decide +kernel
theorem dX0_edgeTurned_2 : decode cX0_edgeTurned 2 = .ok (.getfield 28, 3) := by decide +kernel
theorem dX0_edgeTurned_5 : decode cX0_edgeTurned 5 = .ok (.if_icmp .ge 7, 3) := by decide +kernel
theorem dX0_edgeTurned_8 : decode cX0_edgeTurned 8 = .ok (.iconst 1, 1) := by decide +kernel
theorem dX0_edgeTurned_9 : decode cX0_edgeTurned 9 = .ok (.goto 4, 3) := by decide +kernel
theorem dX0_edgeTurned_12 : decode cX0_edgeTurned 12 = .ok (.iconst 0, 1) := by decide +kernel
theorem dX0_edgeTurned_13 : decode cX0_edgeTurned 13 = .ok (.istore_n 3, 1) := by decide +kernel
theorem dX0_edgeTurned_14 : decode cX0_edgeTurned 14 = .ok (.iload_n 3, 1) := by decide +kernel
theorem dX0_edgeTurned_15 : decode cX0_edgeTurned 15 = .ok (.ifCond .eq 11, 3) := by decide +kernel
theorem dX0_edgeTurned_18 : decode cX0_edgeTurned 18 = .ok (.aload_n 0, 1) := by decide +kernel
theorem dX0_edgeTurned_19 : decode cX0_edgeTurned 19 = .ok (.iload_n 1, 1) := by decide +kernel
theorem dX0_edgeTurned_20 : decode cX0_edgeTurned 20 = .ok (.invokevirtual 75, 3) := by decide +kernel
theorem dX0_edgeTurned_23 : decode cX0_edgeTurned 23 = .ok (.goto 8, 3) := by decide +kernel
theorem dX0_edgeTurned_26 : decode cX0_edgeTurned 26 = .ok (.aload_n 0, 1) := by decide +kernel
theorem dX0_edgeTurned_27 : decode cX0_edgeTurned 27 = .ok (.iload_n 1, 1) := by decide +kernel
theorem dX0_edgeTurned_28 : decode cX0_edgeTurned 28 = .ok (.invokevirtual 81, 3) := by decide +kernel
theorem dX0_edgeTurned_31 : decode cX0_edgeTurned 31 = .ok (.istore 4, 2) := by decide +kernel
theorem dX0_edgeTurned_33 : decode cX0_edgeTurned 33 = .ok (.iload_n 3, 1) := by decide +kernel
theorem dX0_edgeTurned_34 : decode cX0_edgeTurned 34 = .ok (.ifCond .eq 15, 3) := by decide +kernel
theorem dX0_edgeTurned_37 : decode cX0_edgeTurned 37 = .ok (.iload_n 1, 1) := by decide +kernel
theorem dX0_edgeTurned_38 : decode cX0_edgeTurned 38 = .ok (.iload 4, 2) := by decide +kernel
theorem dX0_edgeTurned_40 : decode cX0_edgeTurned 40 = .ok (.aload_n 0, 1) := by decide +kernel
theorem dX0_edgeTurned_41 : decode cX0_edgeTurned 41 = .ok (.getfield 19, 3) := by decide +kernel
theorem dX0_edgeTurned_44 : decode cX0_edgeTurned 44 = .ok (.imul, 1) := by decide +kernel
theorem dX0_edgeTurned_45 : decode cX0_edgeTurned 45 = .ok (.isub, 1) := by decide +kernel
theorem dX0_edgeTurned_46 : decode cX0_edgeTurned 46 = .ok (.goto 19, 3) := by decide +kernel
theorem dX0_edgeTurned_49 : decode cX0_edgeTurned 49 = .ok (.iload_n 1, 1) := by decide +kernel
theorem dX0_edgeTurned_50 : decode cX0_edgeTurned 50 = .ok (.aload_n 0, 1) := by decide +kernel
theorem dX0_edgeTurned_51 : decode cX0_edgeTurned 51 = .ok (.getfield 28, 3) := by decide +kernel
theorem dX0_edgeTurned_54 : decode cX0_edgeTurned 54 = .ok (.isub, 1) := by decide +kernel
theorem dX0_edgeTurned_55 : decode cX0_edgeTurned 55 = .ok (.iload 4, 2) := by decide +kernel
theorem dX0_edgeTurned_57 : decode cX0_edgeTurned 57 = .ok (.aload_n 0, 1) := by decide +kernel
theorem dX0_edgeTurned_58 : decode cX0_edgeTurned 58 = .ok (.getfield 19, 3) := by decide +kernel
theorem dX0_edgeTurned_61 : decode cX0_edgeTurned 61 = .ok (.iconst 1, 1) := by decide +kernel
theorem dX0_edgeTurned_62 : decode cX0_edgeTurned 62 = .ok (.iadd, 1) := by decide +kernel
theorem dX0_edgeTurned_63 : decode cX0_edgeTurned 63 = .ok (.imul, 1) := by decide +kernel
theorem dX0_edgeTurned_64 : decode cX0_edgeTurned 64 = .ok (.isub, 1) := by decide +kernel
theorem dX0_edgeTurned_65 : decode cX0_edgeTurned 65 = .ok (.istore 5, 2) := by decide +kernel
theorem dX0_edgeTurned_67 : decode cX0_edgeTurned 67 = .ok (.iload_n 3, 1) := by decide +kernel
theorem dX0_edgeTurned_68 : decode cX0_edgeTurned 68 = .ok (.iload_n 2, 1) := by decide +kernel
theorem dX0_edgeTurned_69 : decode cX0_edgeTurned 69 = .ok (.iconst 4, 1) := by decide +kernel
theorem dX0_edgeTurned_70 : decode cX0_edgeTurned 70 = .ok (.if_icmp .ge 7, 3) := by decide +kernel
theorem dX0_edgeTurned_73 : decode cX0_edgeTurned 73 = .ok (.iconst 1, 1) := by decide +kernel
theorem dX0_edgeTurned_74 : decode cX0_edgeTurned 74 = .ok (.goto 4, 3) := by decide +kernel
theorem dX0_edgeTurned_77 : decode cX0_edgeTurned 77 = .ok (.iconst 0, 1) := by decide +kernel
theorem dX0_edgeTurned_78 : decode cX0_edgeTurned 78 = .ok (.if_icmp .ne 7, 3) := by decide +kernel
theorem dX0_edgeTurned_81 : decode cX0_edgeTurned 81 = .ok (.iconst 1, 1) := by decide +kernel
theorem dX0_edgeTurned_82 : decode cX0_edgeTurned 82 = .ok (.goto 4, 3) := by decide +kernel
theorem dX0_edgeTurned_85 : decode cX0_edgeTurned 85 = .ok (.iconst 0, 1) := by decide +kernel
theorem dX0_edgeTurned_86 : decode cX0_edgeTurned 86 = .ok (.istore 6, 2) := by decide +kernel
theorem dX0_edgeTurned_88 : decode cX0_edgeTurned 88 = .ok (.iload 6, 2) := by decide +kernel
theorem dX0_edgeTurned_90 : decode cX0_edgeTurned 90 = .ok (.ifCond .eq 12, 3) := by decide +kernel
theorem dX0_edgeTurned_93 : decode cX0_edgeTurned 93 = .ok (.aload_n 0, 1) := by decide +kernel
theorem dX0_edgeTurned_94 : decode cX0_edgeTurned 94 = .ok (.getfield 22, 3) := by decide +kernel
theorem dX0_edgeTurned_97 : decode cX0_edgeTurned 97 = .ok (.iconst 1, 1) := by decide +kernel
theorem dX0_edgeTurned_98 : decode cX0_edgeTurned 98 = .ok (.iadd, 1) := by decide +kernel
theorem dX0_edgeTurned_99 : decode cX0_edgeTurned 99 = .ok (.goto 7, 3) := by decide +kernel
theorem dX0_edgeTurned_102 : decode cX0_edgeTurned 102 = .ok (.aload_n 0, 1) := by decide +kernel
theorem dX0_edgeTurned_103 : decode cX0_edgeTurned 103 = .ok (.getfield 22, 3) := by decide +kernel
theorem dX0_edgeTurned_106 : decode cX0_edgeTurned 106 = .ok (.istore 7, 2) := by decide +kernel
theorem dX0_edgeTurned_108 : decode cX0_edgeTurned 108 = .ok (.iload 6, 2) := by decide +kernel
theorem dX0_edgeTurned_110 : decode cX0_edgeTurned 110 = .ok (.ifCond .eq 10, 3) := by decide +kernel
theorem dX0_edgeTurned_113 : decode cX0_edgeTurned 113 = .ok (.aload_n 0, 1) := by decide +kernel
theorem dX0_edgeTurned_114 : decode cX0_edgeTurned 114 = .ok (.getfield 19, 3) := by decide +kernel
theorem dX0_edgeTurned_117 : decode cX0_edgeTurned 117 = .ok (.goto 9, 3) := by decide +kernel
theorem dX0_edgeTurned_120 : decode cX0_edgeTurned 120 = .ok (.aload_n 0, 1) := by decide +kernel
theorem dX0_edgeTurned_121 : decode cX0_edgeTurned 121 = .ok (.getfield 19, 3) := by decide +kernel
theorem dX0_edgeTurned_124 : decode cX0_edgeTurned 124 = .ok (.iconst 1, 1) := by decide +kernel
theorem dX0_edgeTurned_125 : decode cX0_edgeTurned 125 = .ok (.iadd, 1) := by decide +kernel
theorem dX0_edgeTurned_126 : decode cX0_edgeTurned 126 = .ok (.istore 8, 2) := by decide +kernel
theorem dX0_edgeTurned_128 : decode cX0_edgeTurned 128 = .ok (.iload 6, 2) := by decide +kernel
theorem dX0_edgeTurned_130 : decode cX0_edgeTurned 130 = .ok (.ifCond .eq 7, 3) := by decide +kernel
theorem dX0_edgeTurned_133 : decode cX0_edgeTurned 133 = .ok (.iconst 0, 1) := by decide +kernel
theorem dX0_edgeTurned_134 : decode cX0_edgeTurned 134 = .ok (.goto 7, 3) := by decide +kernel
theorem dX0_edgeTurned_137 : decode cX0_edgeTurned 137 = .ok (.aload_n 0, 1) := by decide +kernel
theorem dX0_edgeTurned_138 : decode cX0_edgeTurned 138 = .ok (.getfield 28, 3) := by decide +kernel
theorem dX0_edgeTurned_141 : decode cX0_edgeTurned 141 = .ok (.aload_n 0, 1) := by decide +kernel
theorem dX0_edgeTurned_142 : decode cX0_edgeTurned 142 = .ok (.iload 4, 2) := by decide +kernel
theorem dX0_edgeTurned_144 : decode cX0_edgeTurned 144 = .ok (.iload 5, 2) := by decide +kernel
theorem dX0_edgeTurned_146 : decode cX0_edgeTurned 146 = .ok (.iload 7, 2) := by decide +kernel
theorem dX0_edgeTurned_148 : decode cX0_edgeTurned 148 = .ok (.iload 8, 2) := by decide +kernel
theorem dX0_edgeTurned_150 : decode cX0_edgeTurned 150 = .ok (.iload_n 2, 1) := by decide +kernel
theorem dX0_edgeTurned_151 : decode cX0_edgeTurned 151 = .ok (.invokevirtual 184, 3) := by decide +kernel
theorem dX0_edgeTurned_154 : decode cX0_edgeTurned 154 = .ok (.iadd, 1) := by decide +kernel
theorem dX0_edgeTurned_155 : decode cX0_edgeTurned 155 = .ok (.ireturn, 1) := by decide +kernel
theorem dX0_placeTurned_0 : decode cX0_placeTurned 0 = .ok (.iload 5, 2) := by decide +kernel
theorem dX0_placeTurned_2 : decode cX0_placeTurned 2 = .ok (.iconst 4, 1) := by decide +kernel
theorem dX0_placeTurned_3 : decode cX0_placeTurned 3 = .ok (.if_icmp .ge 7, 3) := by decide +kernel
theorem dX0_placeTurned_6 : decode cX0_placeTurned 6 = .ok (.iload_n 1, 1) := by decide +kernel
theorem dX0_placeTurned_7 : decode cX0_placeTurned 7 = .ok (.goto 4, 3) := by decide +kernel
theorem dX0_placeTurned_10 : decode cX0_placeTurned 10 = .ok (.iload_n 2, 1) := by decide +kernel
theorem dX0_placeTurned_11 : decode cX0_placeTurned 11 = .ok (.istore 6, 2) := by decide +kernel
theorem dX0_placeTurned_13 : decode cX0_placeTurned 13 = .ok (.iload 5, 2) := by decide +kernel
theorem dX0_placeTurned_15 : decode cX0_placeTurned 15 = .ok (.iconst 4, 1) := by decide +kernel
theorem dX0_placeTurned_16 : decode cX0_placeTurned 16 = .ok (.if_icmp .ge 7, 3) := by decide +kernel
theorem dX0_placeTurned_19 : decode cX0_placeTurned 19 = .ok (.iload_n 2, 1) := by decide +kernel
theorem dX0_placeTurned_20 : decode cX0_placeTurned 20 = .ok (.goto 4, 3) := by decide +kernel
theorem dX0_placeTurned_23 : decode cX0_placeTurned 23 = .ok (.iload_n 1, 1) := by decide +kernel
theorem dX0_placeTurned_24 : decode cX0_placeTurned 24 = .ok (.istore 7, 2) := by decide +kernel
theorem dX0_placeTurned_26 : decode cX0_placeTurned 26 = .ok (.iload 5, 2) := by decide +kernel
theorem dX0_placeTurned_28 : decode cX0_placeTurned 28 = .ok (.iconst 1, 1) := by decide +kernel
theorem dX0_placeTurned_29 : decode cX0_placeTurned 29 = .ok (.iand, 1) := by decide +kernel
theorem dX0_placeTurned_30 : decode cX0_placeTurned 30 = .ok (.ifCond .eq 12, 3) := by decide +kernel
theorem dX0_placeTurned_33 : decode cX0_placeTurned 33 = .ok (.iload 4, 2) := by decide +kernel
theorem dX0_placeTurned_35 : decode cX0_placeTurned 35 = .ok (.iconst 1, 1) := by decide +kernel
theorem dX0_placeTurned_36 : decode cX0_placeTurned 36 = .ok (.isub, 1) := by decide +kernel
theorem dX0_placeTurned_37 : decode cX0_placeTurned 37 = .ok (.iload 7, 2) := by decide +kernel
theorem dX0_placeTurned_39 : decode cX0_placeTurned 39 = .ok (.isub, 1) := by decide +kernel
theorem dX0_placeTurned_40 : decode cX0_placeTurned 40 = .ok (.istore 7, 2) := by decide +kernel
theorem dX0_placeTurned_42 : decode cX0_placeTurned 42 = .ok (.iload 5, 2) := by decide +kernel
theorem dX0_placeTurned_44 : decode cX0_placeTurned 44 = .ok (.iconst 2, 1) := by decide +kernel
theorem dX0_placeTurned_45 : decode cX0_placeTurned 45 = .ok (.iand, 1) := by decide +kernel
theorem dX0_placeTurned_46 : decode cX0_placeTurned 46 = .ok (.ifCond .eq 11, 3) := by decide +kernel
theorem dX0_placeTurned_49 : decode cX0_placeTurned 49 = .ok (.iload_n 3, 1) := by decide +kernel
theorem dX0_placeTurned_50 : decode cX0_placeTurned 50 = .ok (.iconst 1, 1) := by decide +kernel
theorem dX0_placeTurned_51 : decode cX0_placeTurned 51 = .ok (.isub, 1) := by decide +kernel
theorem dX0_placeTurned_52 : decode cX0_placeTurned 52 = .ok (.iload 6, 2) := by decide +kernel
theorem dX0_placeTurned_54 : decode cX0_placeTurned 54 = .ok (.isub, 1) := by decide +kernel
theorem dX0_placeTurned_55 : decode cX0_placeTurned 55 = .ok (.istore 6, 2) := by decide +kernel
theorem dX0_placeTurned_57 : decode cX0_placeTurned 57 = .ok (.iload 6, 2) := by decide +kernel
theorem dX0_placeTurned_59 : decode cX0_placeTurned 59 = .ok (.iload 4, 2) := by decide +kernel
theorem dX0_placeTurned_61 : decode cX0_placeTurned 61 = .ok (.imul, 1) := by decide +kernel
theorem dX0_placeTurned_62 : decode cX0_placeTurned 62 = .ok (.iload 7, 2) := by decide +kernel
theorem dX0_placeTurned_64 : decode cX0_placeTurned 64 = .ok (.iadd, 1) := by decide +kernel
theorem dX0_placeTurned_65 : decode cX0_placeTurned 65 = .ok (.ireturn, 1) := by decide +kernel
