theorem dX4_makes_16 : decode cX4_makes 16 = .ok (.istore_n 3, 1) := by decide +kernel
theorem dX4_makes_17 : decode cX4_makes 17 = .ok (.iload_n 3, 1) := by decide +kernel
theorem dX4_makes_18 : decode cX4_makes 18 = .ok (.iconst 2, 1) := by decide +kernel
theorem dX4_makes_19 : decode cX4_makes 19 = .ok (.if_icmp .ge 50, 3) := by decide +kernel
theorem dX4_makes_22 : decode cX4_makes 22 = .ok (.aload_n 0, 1) := by decide +kernel
theorem dX4_makes_23 : decode cX4_makes 23 = .ok (.iload_n 1, 1) := by decide +kernel
theorem dX4_makes_24 : decode cX4_makes 24 = .ok (.iload_n 3, 1) := by decide +kernel
theorem dX4_makes_25 : decode cX4_makes 25 = .ok (.invokevirtual 119, 3) := by decide +kernel
theorem dX4_makes_28 : decode cX4_makes 28 = .ok (.istore 4, 2) := by decide +kernel
theorem dX4_makes_30 : decode cX4_makes 30 = .ok (.iload 4, 2) := by decide +kernel
theorem dX4_makes_32 : decode cX4_makes 32 = .ok (.iconst (-1), 1) := by decide +kernel
theorem dX4_makes_33 : decode cX4_makes 33 = .ok (.if_icmp .eq 30, 3) := by decide +kernel
theorem dX4_makes_36 : decode cX4_makes 36 = .ok (.aload_n 0, 1) := by decide +kernel
theorem dX4_makes_37 : decode cX4_makes 37 = .ok (.iload 4, 2) := by decide +kernel
theorem dX4_makes_39 : decode cX4_makes 39 = .ok (.invokevirtual 196, 3) := by decide +kernel
theorem dX4_makes_42 : decode cX4_makes 42 = .ok (.iconst 4, 1) := by decide +kernel
theorem dX4_makes_43 : decode cX4_makes 43 = .ok (.if_icmp .ge 6, 3) := by decide +kernel
theorem dX4_makes_46 : decode cX4_makes 46 = .ok (.goto 17, 3) := by decide +kernel
theorem dX4_makes_49 : decode cX4_makes 49 = .ok (.aload_n 0, 1) := by decide +kernel
theorem dX4_makes_50 : decode cX4_makes 50 = .ok (.getfield 16, 3) := by decide +kernel
theorem dX4_makes_53 : decode cX4_makes 53 = .ok (.iload 4, 2) := by decide +kernel
theorem dX4_makes_55 : decode cX4_makes 55 = .ok (.aload_n 0, 1) := by decide +kernel
theorem dX4_makes_56 : decode cX4_makes 56 = .ok (.getfield 101, 3) := by decide +kernel
theorem dX4_makes_59 : decode cX4_makes 59 = .ok (.iastore, 1) := by decide +kernel
theorem dX4_makes_60 : decode cX4_makes 60 = .ok (.iinc 2 1, 3) := by decide +kernel
theorem dX4_makes_63 : decode cX4_makes 63 = .ok (.iinc 3 1, 3) := by decide +kernel
theorem dX4_makes_66 : decode cX4_makes 66 = .ok (.goto (-49), 3) := by decide +kernel
theorem dX4_makes_69 : decode cX4_makes 69 = .ok (.goto 13, 3) := by decide +kernel
theorem dX4_makes_72 : decode cX4_makes 72 = .ok (.aload_n 0, 1) := by decide +kernel
theorem dX4_makes_73 : decode cX4_makes 73 = .ok (.getfield 13, 3) := by decide +kernel
theorem dX4_makes_76 : decode cX4_makes 76 = .ok (.iload_n 1, 1) := by decide +kernel
theorem dX4_makes_77 : decode cX4_makes 77 = .ok (.bipush 100, 2) := by decide +kernel
theorem dX4_makes_79 : decode cX4_makes 79 = .ok (.isub, 1) := by decide +kernel
theorem dX4_makes_80 : decode cX4_makes 80 = .ok (.iconst 1, 1) := by decide +kernel
theorem dX4_makes_81 : decode cX4_makes 81 = .ok (.bastore, 1) := by decide +kernel
theorem dX4_makes_82 : decode cX4_makes 82 = .ok (.aload_n 0, 1) := by decide +kernel
theorem dX4_makes_83 : decode cX4_makes 83 = .ok (.iconst 1, 1) := by decide +kernel
theorem dX4_makes_84 : decode cX4_makes 84 = .ok (.aload_n 0, 1) := by decide +kernel
theorem dX4_makes_85 : decode cX4_makes 85 = .ok (.getfield 101, 3) := by decide +kernel
theorem dX4_makes_88 : decode cX4_makes 88 = .ok (.isub, 1) := by decide +kernel
theorem dX4_makes_89 : decode cX4_makes 89 = .ok (.putfield 101, 3) := by decide +kernel
theorem dX4_makes_92 : decode cX4_makes 92 = .ok (.aload_n 0, 1) := by decide +kernel
theorem dX4_makes_93 : decode cX4_makes 93 = .ok (.dup, 1) := by decide +kernel
theorem dX4_makes_94 : decode cX4_makes 94 = .ok (.getfield 104, 3) := by decide +kernel
theorem dX4_makes_97 : decode cX4_makes 97 = .ok (.iconst 1, 1) := by decide +kernel
theorem dX4_makes_98 : decode cX4_makes 98 = .ok (.iadd, 1) := by decide +kernel
theorem dX4_makes_99 : decode cX4_makes 99 = .ok (.putfield 104, 3) := by decide +kernel
theorem dX4_makes_102 : decode cX4_makes 102 = .ok (.iload_n 2, 1) := by decide +kernel
theorem dX4_makes_103 : decode cX4_makes 103 = .ok (.ireturn, 1) := by decide +kernel
theorem dX4_ith_0 : decode cX4_ith 0 = .ok (.iload_n 1, 1) := by decide +kernel
theorem dX4_ith_1 : decode cX4_ith 1 = .ok (.istore_n 2, 1) := by decide +kernel
theorem dX4_ith_2 : decode cX4_ith 2 = .ok (.iconst 0, 1) := by decide +kernel
theorem dX4_ith_3 : decode cX4_ith 3 = .ok (.istore_n 3, 1) := by decide +kernel
theorem dX4_ith_4 : decode cX4_ith 4 = .ok (.iload_n 3, 1) := by decide +kernel
theorem dX4_ith_5 : decode cX4_ith 5 = .ok (.bipush 116, 2) := by decide +kernel
theorem dX4_ith_7 : decode cX4_ith 7 = .ok (.if_icmp .ge 37, 3) := by decide +kernel
theorem dX4_ith_10 : decode cX4_ith 10 = .ok (.aload_n 0, 1) := by decide +kernel
theorem dX4_ith_11 : decode cX4_ith 11 = .ok (.iload_n 3, 1) := by decide +kernel
theorem dX4_ith_12 : decode cX4_ith 12 = .ok (.invokevirtual 173, 3) := by decide +kernel
theorem dX4_ith_15 : decode cX4_ith 15 = .ok (.ifCond .eq 23, 3) := by decide +kernel
theorem dX4_ith_18 : decode cX4_ith 18 = .ok (.aload_n 0, 1) := by decide +kernel
theorem dX4_ith_19 : decode cX4_ith 19 = .ok (.iload_n 3, 1) := by decide +kernel
theorem dX4_ith_20 : decode cX4_ith 20 = .ok (.invokevirtual 176, 3) := by decide +kernel
theorem dX4_ith_23 : decode cX4_ith 23 = .ok (.ifCond .ne 6, 3) := by decide +kernel
theorem dX4_ith_26 : decode cX4_ith 26 = .ok (.goto 12, 3) := by decide +kernel
theorem dX4_ith_29 : decode cX4_ith 29 = .ok (.iload_n 2, 1) := by decide +kernel
theorem dX4_ith_30 : decode cX4_ith 30 = .ok (.ifCond .ne 5, 3) := by decide +kernel
theorem dX4_ith_33 : decode cX4_ith 33 = .ok (.iload_n 3, 1) := by decide +kernel
theorem dX4_ith_34 : decode cX4_ith 34 = .ok (.ireturn, 1) := by decide +kernel
theorem dX4_ith_35 : decode cX4_ith 35 = .ok (.iinc 2 (-1), 3) := by decide +kernel
theorem dX4_ith_38 : decode cX4_ith 38 = .ok (.iinc 3 1, 3) := by decide +kernel
theorem dX4_ith_41 : decode cX4_ith 41 = .ok (.goto (-37), 3) := by decide +kernel
theorem dX4_ith_44 : decode cX4_ith 44 = .ok (.iconst (-1), 1) := by decide +kernel
theorem dX4_ith_45 : decode cX4_ith 45 = .ok (.ireturn, 1) := by decide +kernel
theorem dX4_howMany_0 : decode cX4_howMany 0 = .ok (.iconst 0, 1) := by decide +kernel
theorem dX4_howMany_1 : decode cX4_howMany 1 = .ok (.istore_n 1, 1) := by decide +kernel
theorem dX4_howMany_2 : decode cX4_howMany 2 = .ok (.iconst 0, 1) := by decide +kernel
theorem dX4_howMany_3 : decode cX4_howMany 3 = .ok (.istore_n 2, 1) := by decide +kernel
theorem dX4_howMany_4 : decode cX4_howMany 4 = .ok (.iload_n 2, 1) := by decide +kernel
theorem dX4_howMany_5 : decode cX4_howMany 5 = .ok (.bipush 116, 2) := by decide +kernel
theorem dX4_howMany_7 : decode cX4_howMany 7 = .ok (.if_icmp .ge 28, 3) := by decide +kernel
theorem dX4_howMany_10 : decode cX4_howMany 10 = .ok (.aload_n 0, 1) := by decide +kernel
theorem dX4_howMany_11 : decode cX4_howMany 11 = .ok (.iload_n 2, 1) := by decide +kernel
theorem dX4_howMany_12 : decode cX4_howMany 12 = .ok (.invokevirtual 173, 3) := by decide +kernel
theorem dX4_howMany_15 : decode cX4_howMany 15 = .ok (.ifCond .eq 14, 3) := by decide +kernel
theorem dX4_howMany_18 : decode cX4_howMany 18 = .ok (.aload_n 0, 1) := by decide +kernel
theorem dX4_howMany_19 : decode cX4_howMany 19 = .ok (.iload_n 2, 1) := by decide +kernel
theorem dX4_howMany_20 : decode cX4_howMany 20 = .ok (.invokevirtual 176, 3) := by decide +kernel
theorem dX4_howMany_23 : decode cX4_howMany 23 = .ok (.ifCond .eq 6, 3) := by decide +kernel
theorem dX4_howMany_26 : decode cX4_howMany 26 = .ok (.iinc 1 1, 3) := by decide +kernel
theorem dX4_howMany_29 : decode cX4_howMany 29 = .ok (.iinc 2 1, 3) := by decide +kernel
theorem dX4_howMany_32 : decode cX4_howMany 32 = .ok (.goto (-28), 3) := by decide +kernel
theorem dX4_howMany_35 : decode cX4_howMany 35 = .ok (.iload_n 1, 1) := by decide +kernel
theorem dX4_howMany_36 : decode cX4_howMany 36 = .ok (.ireturn, 1) := by decide +kernel
theorem dX4_fieldOf_0 : decode cX4_fieldOf 0 = .ok (.aload_n 0, 1) := by decide +kernel
theorem dX4_fieldOf_1 : decode cX4_fieldOf 1 = .ok (.iload_n 1, 1) := by decide +kernel
theorem dX4_fieldOf_2 : decode cX4_fieldOf 2 = .ok (.invokevirtual 116, 3) := by decide +kernel
theorem dX4_fieldOf_5 : decode cX4_fieldOf 5 = .ok (.ifCond .eq 13, 3) := by decide +kernel
theorem dX4_fieldOf_8 : decode cX4_fieldOf 8 = .ok (.iload_n 2, 1) := by decide +kernel
theorem dX4_fieldOf_9 : decode cX4_fieldOf 9 = .ok (.iconst 0, 1) := by decide +kernel
theorem dX4_fieldOf_10 : decode cX4_fieldOf 10 = .ok (.bipush 8, 2) := by decide +kernel
theorem dX4_fieldOf_12 : decode cX4_fieldOf 12 = .ok (.invokestatic 63, 3) := by decide +kernel
theorem dX4_fieldOf_15 : decode cX4_fieldOf 15 = .ok (.ifCond .ne 10, 3) := by decide +kernel
theorem dX4_fieldOf_18 : decode cX4_fieldOf 18 = .ok (.aload_n 0, 1) := by decide +kernel
theorem dX4_fieldOf_19 : decode cX4_fieldOf 19 = .ok (.bipush (-2), 2) := by decide +kernel
theorem dX4_fieldOf_21 : decode cX4_fieldOf 21 = .ok (.invokevirtual 56, 3) := by decide +kernel
theorem dX4_fieldOf_24 : decode cX4_fieldOf 24 = .ok (.ireturn, 1) := by decide +kernel
theorem dX4_fieldOf_25 : decode cX4_fieldOf 25 = .ok (.iload_n 2, 1) := by decide +kernel
theorem dX4_fieldOf_26 : decode cX4_fieldOf 26 = .ok (.tableswitch 102 0 8 #[50, 56, 71, 78, 102, 102, 102, 102, 88], 50) := by decide +kernel
theorem dX4_fieldOf_76 : decode cX4_fieldOf 76 = .ok (.aload_n 0, 1) := by decide +kernel
theorem dX4_fieldOf_77 : decode cX4_fieldOf 77 = .ok (.iload_n 1, 1) := by decide +kernel
theorem dX4_fieldOf_78 : decode cX4_fieldOf 78 = .ok (.invokevirtual 196, 3) := by decide +kernel
theorem dX4_fieldOf_81 : decode cX4_fieldOf 81 = .ok (.ireturn, 1) := by decide +kernel
theorem dX4_fieldOf_82 : decode cX4_fieldOf 82 = .ok (.aload_n 0, 1) := by decide +kernel
theorem dX4_fieldOf_83 : decode cX4_fieldOf 83 = .ok (.getfield 13, 3) := by decide +kernel
theorem dX4_fieldOf_86 : decode cX4_fieldOf 86 = .ok (.iload_n 1, 1) := by decide +kernel
theorem dX4_fieldOf_87 : decode cX4_fieldOf 87 = .ok (.baload, 1) := by decide +kernel
theorem dX4_fieldOf_88 : decode cX4_fieldOf 88 = .ok (.ifCond .eq 7, 3) := by decide +kernel
theorem dX4_fieldOf_91 : decode cX4_fieldOf 91 = .ok (.iconst 1, 1) := by decide +kernel
theorem dX4_fieldOf_92 : decode cX4_fieldOf 92 = .ok (.goto 4, 3) := by decide +kernel
theorem dX4_fieldOf_95 : decode cX4_fieldOf 95 = .ok (.iconst 0, 1) := by decide +kernel
theorem dX4_fieldOf_96 : decode cX4_fieldOf 96 = .ok (.ireturn, 1) := by decide +kernel
theorem dX4_fieldOf_97 : decode cX4_fieldOf 97 = .ok (.aload_n 0, 1) := by decide +kernel
theorem dX4_fieldOf_98 : decode cX4_fieldOf 98 = .ok (.getfield 16, 3) := by decide +kernel
theorem dX4_fieldOf_101 : decode cX4_fieldOf 101 = .ok (.iload_n 1, 1) := by decide +kernel
theorem dX4_fieldOf_102 : decode cX4_fieldOf 102 = .ok (.iaload, 1) := by decide +kernel
theorem dX4_fieldOf_103 : decode cX4_fieldOf 103 = .ok (.ireturn, 1) := by decide +kernel
theorem dX4_fieldOf_104 : decode cX4_fieldOf 104 = .ok (.aload_n 0, 1) := by decide +kernel
theorem dX4_fieldOf_105 : decode cX4_fieldOf 105 = .ok (.iload_n 1, 1) := by decide +kernel
theorem dX4_fieldOf_106 : decode cX4_fieldOf 106 = .ok (.aload_n 0, 1) := by decide +kernel
theorem dX4_fieldOf_107 : decode cX4_fieldOf 107 = .ok (.invokevirtual 199, 3) := by decide +kernel
theorem dX4_fieldOf_110 : decode cX4_fieldOf 110 = .ok (.invokevirtual 202, 3) := by decide +kernel
theorem dX4_fieldOf_113 : decode cX4_fieldOf 113 = .ok (.ireturn, 1) := by decide +kernel
theorem dX4_fieldOf_114 : decode cX4_fieldOf 114 = .ok (.aload_n 0, 1) := by decide +kernel
theorem dX4_fieldOf_115 : decode cX4_fieldOf 115 = .ok (.iload_n 1, 1) := by decide +kernel
theorem dX4_fieldOf_116 : decode cX4_fieldOf 116 = .ok (.invokevirtual 205, 3) := by decide +kernel
theorem dX4_fieldOf_119 : decode cX4_fieldOf 119 = .ok (.ifCond .eq 7, 3) := by decide +kernel
theorem dX4_fieldOf_122 : decode cX4_fieldOf 122 = .ok (.iconst 1, 1) := by decide +kernel
theorem dX4_fieldOf_123 : decode cX4_fieldOf 123 = .ok (.goto 4, 3) := by decide +kernel
theorem dX4_fieldOf_126 : decode cX4_fieldOf 126 = .ok (.iconst 0, 1) := by decide +kernel
theorem dX4_fieldOf_127 : decode cX4_fieldOf 127 = .ok (.ireturn, 1) := by decide +kernel
theorem dX4_fieldOf_128 : decode cX4_fieldOf 128 = .ok (.aload_n 0, 1) := by decide +kernel
theorem dX4_fieldOf_129 : decode cX4_fieldOf 129 = .ok (.iload_n 1, 1) := by decide +kernel
theorem dX4_fieldOf_130 : decode cX4_fieldOf 130 = .ok (.iload_n 2, 1) := by decide +kernel
theorem dX4_fieldOf_131 : decode cX4_fieldOf 131 = .ok (.iconst 4, 1) := by decide +kernel
theorem dX4_fieldOf_132 : decode cX4_fieldOf 132 = .ok (.isub, 1) := by decide +kernel
theorem dX4_fieldOf_133 : decode cX4_fieldOf 133 = .ok (.invokevirtual 122, 3) := by decide +kernel
theorem dX4_fieldOf_136 : decode cX4_fieldOf 136 = .ok (.ireturn, 1) := by decide +kernel
theorem dX4_edgeOf_0 : decode cX4_edgeOf 0 = .ok (.iload_n 1, 1) := by decide +kernel
theorem dX4_edgeOf_1 : decode cX4_edgeOf 1 = .ok (.iconst 0, 1) := by decide +kernel
theorem dX4_edgeOf_2 : decode cX4_edgeOf 2 = .ok (.aload_n 0, 1) := by decide +kernel
theorem dX4_edgeOf_3 : decode cX4_edgeOf 3 = .ok (.invokevirtual 107, 3) := by decide +kernel
theorem dX4_edgeOf_6 : decode cX4_edgeOf 6 = .ok (.iconst 1, 1) := by decide +kernel
theorem dX4_edgeOf_7 : decode cX4_edgeOf 7 = .ok (.isub, 1) := by decide +kernel
theorem dX4_edgeOf_8 : decode cX4_edgeOf 8 = .ok (.invokestatic 63, 3) := by decide +kernel
theorem dX4_edgeOf_11 : decode cX4_edgeOf 11 = .ok (.ifCond .eq 12, 3) := by decide +kernel
theorem dX4_edgeOf_14 : decode cX4_edgeOf 14 = .ok (.iload_n 2, 1) := by decide +kernel
theorem dX4_edgeOf_15 : decode cX4_edgeOf 15 = .ok (.iconst 0, 1) := by decide +kernel
theorem dX4_edgeOf_16 : decode cX4_edgeOf 16 = .ok (.iconst 2, 1) := by decide +kernel
theorem dX4_edgeOf_17 : decode cX4_edgeOf 17 = .ok (.invokestatic 63, 3) := by decide +kernel
theorem dX4_edgeOf_20 : decode cX4_edgeOf 20 = .ok (.ifCond .ne 10, 3) := by decide +kernel
theorem dX4_edgeOf_23 : decode cX4_edgeOf 23 = .ok (.aload_n 0, 1) := by decide +kernel
theorem dX4_edgeOf_24 : decode cX4_edgeOf 24 = .ok (.bipush (-2), 2) := by decide +kernel
theorem dX4_edgeOf_26 : decode cX4_edgeOf 26 = .ok (.invokevirtual 56, 3) := by decide +kernel
theorem dX4_edgeOf_29 : decode cX4_edgeOf 29 = .ok (.ireturn, 1) := by decide +kernel
theorem dX4_edgeOf_30 : decode cX4_edgeOf 30 = .ok (.iload_n 2, 1) := by decide +kernel
theorem dX4_edgeOf_31 : decode cX4_edgeOf 31 = .ok (.ifCond .ne 20, 3) := by decide +kernel
theorem dX4_edgeOf_34 : decode cX4_edgeOf 34 = .ok (.aload_n 0, 1) := by decide +kernel
theorem dX4_edgeOf_35 : decode cX4_edgeOf 35 = .ok (.getfield 7, 3) := by decide +kernel
theorem dX4_edgeOf_38 : decode cX4_edgeOf 38 = .ok (.iload_n 1, 1) := by decide +kernel
theorem dX4_edgeOf_39 : decode cX4_edgeOf 39 = .ok (.baload, 1) := by decide +kernel
theorem dX4_edgeOf_40 : decode cX4_edgeOf 40 = .ok (.ifCond .eq 7, 3) := by decide +kernel
theorem dX4_edgeOf_43 : decode cX4_edgeOf 43 = .ok (.iconst 1, 1) := by decide +kernel
theorem dX4_edgeOf_44 : decode cX4_edgeOf 44 = .ok (.goto 15, 3) := by decide +kernel
theorem dX4_edgeOf_47 : decode cX4_edgeOf 47 = .ok (.iconst 0, 1) := by decide +kernel
theorem dX4_edgeOf_48 : decode cX4_edgeOf 48 = .ok (.goto 11, 3) := by decide +kernel
theorem dX4_edgeOf_51 : decode cX4_edgeOf 51 = .ok (.aload_n 0, 1) := by decide +kernel
theorem dX4_edgeOf_52 : decode cX4_edgeOf 52 = .ok (.iload_n 1, 1) := by decide +kernel
theorem dX4_edgeOf_53 : decode cX4_edgeOf 53 = .ok (.iload_n 2, 1) := by decide +kernel
theorem dX4_edgeOf_54 : decode cX4_edgeOf 54 = .ok (.iconst 1, 1) := by decide +kernel
theorem dX4_edgeOf_55 : decode cX4_edgeOf 55 = .ok (.isub, 1) := by decide +kernel
theorem dX4_edgeOf_56 : decode cX4_edgeOf 56 = .ok (.invokevirtual 119, 3) := by decide +kernel
theorem dX4_edgeOf_59 : decode cX4_edgeOf 59 = .ok (.ireturn, 1) := by decide +kernel
theorem dX4_playerOf_0 : decode cX4_playerOf 0 = .ok (.aload_n 0, 1) := by decide +kernel
theorem dX4_playerOf_1 : decode cX4_playerOf 1 = .ok (.iload_n 1, 1) := by decide +kernel
theorem dX4_playerOf_2 : decode cX4_playerOf 2 = .ok (.invokevirtual 87, 3) := by decide +kernel
theorem dX4_playerOf_5 : decode cX4_playerOf 5 = .ok (.ifCond .eq 12, 3) := by decide +kernel
theorem dX4_playerOf_8 : decode cX4_playerOf 8 = .ok (.iload_n 2, 1) := by decide +kernel
theorem dX4_playerOf_9 : decode cX4_playerOf 9 = .ok (.iconst 0, 1) := by decide +kernel
theorem dX4_playerOf_10 : decode cX4_playerOf 10 = .ok (.iconst 1, 1) := by decide +kernel
theorem dX4_playerOf_11 : decode cX4_playerOf 11 = .ok (.invokestatic 63, 3) := by decide +kernel
theorem dX4_playerOf_14 : decode cX4_playerOf 14 = .ok (.ifCond .ne 10, 3) := by decide +kernel
theorem dX4_playerOf_17 : decode cX4_playerOf 17 = .ok (.aload_n 0, 1) := by decide +kernel
theorem dX4_playerOf_18 : decode cX4_playerOf 18 = .ok (.bipush (-2), 2) := by decide +kernel
theorem dX4_playerOf_20 : decode cX4_playerOf 20 = .ok (.invokevirtual 56, 3) := by decide +kernel
theorem dX4_playerOf_23 : decode cX4_playerOf 23 = .ok (.ireturn, 1) := by decide +kernel
theorem dX4_playerOf_24 : decode cX4_playerOf 24 = .ok (.iload_n 2, 1) := by decide +kernel
theorem dX4_playerOf_25 : decode cX4_playerOf 25 = .ok (.ifCond .ne 12, 3) := by decide +kernel
theorem dX4_playerOf_28 : decode cX4_playerOf 28 = .ok (.aload_n 0, 1) := by decide +kernel
theorem dX4_playerOf_29 : decode cX4_playerOf 29 = .ok (.getfield 20, 3) := by decide +kernel
theorem dX4_playerOf_32 : decode cX4_playerOf 32 = .ok (.iload_n 1, 1) := by decide +kernel
theorem dX4_playerOf_33 : decode cX4_playerOf 33 = .ok (.iaload, 1) := by decide +kernel
theorem dX4_playerOf_34 : decode cX4_playerOf 34 = .ok (.goto 9, 3) := by decide +kernel
theorem dX4_playerOf_37 : decode cX4_playerOf 37 = .ok (.aload_n 0, 1) := by decide +kernel
theorem dX4_playerOf_38 : decode cX4_playerOf 38 = .ok (.getfield 23, 3) := by decide +kernel
theorem dX4_playerOf_41 : decode cX4_playerOf 41 = .ok (.iload_n 1, 1) := by decide +kernel
theorem dX4_playerOf_42 : decode cX4_playerOf 42 = .ok (.iaload, 1) := by decide +kernel
theorem dX4_playerOf_43 : decode cX4_playerOf 43 = .ok (.ireturn, 1) := by decide +kernel
theorem dX4_may_0 : decode cX4_may 0 = .ok (.aload_n 0, 1) := by decide +kernel
theorem dX4_may_1 : decode cX4_may 1 = .ok (.iload_n 1, 1) := by decide +kernel
theorem dX4_may_2 : decode cX4_may 2 = .ok (.invokevirtual 173, 3) := by decide +kernel
theorem dX4_may_5 : decode cX4_may 5 = .ok (.ifCond .eq 19, 3) := by decide +kernel
theorem dX4_may_8 : decode cX4_may 8 = .ok (.aload_n 0, 1) := by decide +kernel
theorem dX4_may_9 : decode cX4_may 9 = .ok (.iload_n 1, 1) := by decide +kernel
theorem dX4_may_10 : decode cX4_may 10 = .ok (.invokevirtual 176, 3) := by decide +kernel
theorem dX4_may_13 : decode cX4_may 13 = .ok (.ifCond .eq 7, 3) := by decide +kernel
theorem dX4_may_16 : decode cX4_may 16 = .ok (.iconst 1, 1) := by decide +kernel
theorem dX4_may_17 : decode cX4_may 17 = .ok (.goto 13, 3) := by decide +kernel
theorem dX4_may_20 : decode cX4_may 20 = .ok (.iconst 0, 1) := by decide +kernel
theorem dX4_may_21 : decode cX4_may 21 = .ok (.goto 9, 3) := by decide +kernel
theorem dX4_may_24 : decode cX4_may 24 = .ok (.aload_n 0, 1) := by decide +kernel
theorem dX4_may_25 : decode cX4_may 25 = .ok (.bipush (-2), 2) := by decide +kernel
theorem dX4_may_27 : decode cX4_may 27 = .ok (.invokevirtual 56, 3) := by decide +kernel
theorem dX4_may_30 : decode cX4_may 30 = .ok (.ireturn, 1) := by decide +kernel
theorem dX4_moves_0 : decode cX4_moves 0 = .ok (.iload_n 1, 1) := by decide +kernel
theorem dX4_moves_1 : decode cX4_moves 1 = .ok (.iconst (-1), 1) := by decide +kernel
theorem dX4_moves_2 : decode cX4_moves 2 = .ok (.if_icmp .ge 10, 3) := by decide +kernel
theorem dX4_moves_5 : decode cX4_moves 5 = .ok (.aload_n 0, 1) := by decide +kernel
theorem dX4_moves_6 : decode cX4_moves 6 = .ok (.bipush (-2), 2) := by decide +kernel
theorem dX4_moves_8 : decode cX4_moves 8 = .ok (.invokevirtual 56, 3) := by decide +kernel
theorem dX4_moves_11 : decode cX4_moves 11 = .ok (.ireturn, 1) := by decide +kernel
theorem dX4_moves_12 : decode cX4_moves 12 = .ok (.iload_n 1, 1) := by decide +kernel
theorem dX4_moves_13 : decode cX4_moves 13 = .ok (.iconst (-1), 1) := by decide +kernel
theorem dX4_moves_14 : decode cX4_moves 14 = .ok (.if_icmp .ne 8, 3) := by decide +kernel
theorem dX4_moves_17 : decode cX4_moves 17 = .ok (.aload_n 0, 1) := by decide +kernel
theorem dX4_moves_18 : decode cX4_moves 18 = .ok (.invokevirtual 94, 3) := by decide +kernel
theorem dX4_moves_21 : decode cX4_moves 21 = .ok (.ireturn, 1) := by decide +kernel
theorem dX4_moves_22 : decode cX4_moves 22 = .ok (.aload_n 0, 1) := by decide +kernel
theorem dX4_moves_23 : decode cX4_moves 23 = .ok (.iload_n 1, 1) := by decide +kernel
theorem dX4_moves_24 : decode cX4_moves 24 = .ok (.invokevirtual 208, 3) := by decide +kernel
theorem dX4_moves_27 : decode cX4_moves 27 = .ok (.istore_n 2, 1) := by decide +kernel
theorem dX4_moves_28 : decode cX4_moves 28 = .ok (.iload_n 2, 1) := by decide +kernel
theorem dX4_moves_29 : decode cX4_moves 29 = .ok (.iconst (-1), 1) := by decide +kernel
theorem dX4_moves_30 : decode cX4_moves 30 = .ok (.if_icmp .ne 12, 3) := by decide +kernel
theorem dX4_moves_33 : decode cX4_moves 33 = .ok (.aload_n 0, 1) := by decide +kernel
theorem dX4_moves_34 : decode cX4_moves 34 = .ok (.bipush (-5), 2) := by decide +kernel
theorem dX4_moves_36 : decode cX4_moves 36 = .ok (.invokevirtual 56, 3) := by decide +kernel
theorem dX4_moves_39 : decode cX4_moves 39 = .ok (.goto 4, 3) := by decide +kernel
theorem dX4_moves_42 : decode cX4_moves 42 = .ok (.iload_n 2, 1) := by decide +kernel
theorem dX4_moves_43 : decode cX4_moves 43 = .ok (.ireturn, 1) := by decide +kernel
theorem dX4_ditchOf_0 : decode cX4_ditchOf 0 = .ok (.iconst 1, 1) := by decide +kernel
theorem dX4_ditchOf_1 : decode cX4_ditchOf 1 = .ok (.iload_n 1, 1) := by decide +kernel
theorem dX4_ditchOf_2 : decode cX4_ditchOf 2 = .ok (.ishl, 1) := by decide +kernel
theorem dX4_ditchOf_3 : decode cX4_ditchOf 3 = .ok (.istore_n 2, 1) := by decide +kernel
theorem dX4_ditchOf_4 : decode cX4_ditchOf 4 = .ok (.iconst 0, 1) := by decide +kernel
theorem dX4_ditchOf_5 : decode cX4_ditchOf 5 = .ok (.istore_n 3, 1) := by decide +kernel
theorem dX4_ditchOf_6 : decode cX4_ditchOf 6 = .ok (.iload_n 2, 1) := by decide +kernel
theorem dX4_ditchOf_7 : decode cX4_ditchOf 7 = .ok (.iload_n 3, 1) := by decide +kernel
theorem dX4_ditchOf_8 : decode cX4_ditchOf 8 = .ok (.if_icmp .eq 89, 3) := by decide +kernel
theorem dX4_ditchOf_11 : decode cX4_ditchOf 11 = .ok (.iload_n 2, 1) := by decide +kernel
theorem dX4_ditchOf_12 : decode cX4_ditchOf 12 = .ok (.istore_n 3, 1) := by decide +kernel
theorem dX4_ditchOf_13 : decode cX4_ditchOf 13 = .ok (.iconst 0, 1) := by decide +kernel
theorem dX4_ditchOf_14 : decode cX4_ditchOf 14 = .ok (.istore 4, 2) := by decide +kernel
theorem dX4_ditchOf_16 : decode cX4_ditchOf 16 = .ok (.iload 4, 2) := by decide +kernel
theorem dX4_ditchOf_18 : decode cX4_ditchOf 18 = .ok (.aload_n 0, 1) := by decide +kernel
theorem dX4_ditchOf_19 : decode cX4_ditchOf 19 = .ok (.getfield 67, 3) := by decide +kernel
theorem dX4_ditchOf_22 : decode cX4_ditchOf 22 = .ok (.aload_n 0, 1) := by decide +kernel
theorem dX4_ditchOf_23 : decode cX4_ditchOf 23 = .ok (.getfield 70, 3) := by decide +kernel
theorem dX4_ditchOf_26 : decode cX4_ditchOf 26 = .ok (.imul, 1) := by decide +kernel
theorem dX4_ditchOf_27 : decode cX4_ditchOf 27 = .ok (.if_icmp .ge 67, 3) := by decide +kernel
theorem dX4_ditchOf_30 : decode cX4_ditchOf 30 = .ok (.iconst 0, 1) := by decide +kernel
theorem dX4_ditchOf_31 : decode cX4_ditchOf 31 = .ok (.istore 5, 2) := by decide +kernel
theorem dX4_ditchOf_33 : decode cX4_ditchOf 33 = .ok (.iload 5, 2) := by decide +kernel
theorem dX4_ditchOf_35 : decode cX4_ditchOf 35 = .ok (.iconst 4, 1) := by decide +kernel
theorem dX4_ditchOf_36 : decode cX4_ditchOf 36 = .ok (.if_icmp .ge 52, 3) := by decide +kernel
theorem dX4_ditchOf_39 : decode cX4_ditchOf 39 = .ok (.aload_n 0, 1) := by decide +kernel
theorem dX4_ditchOf_40 : decode cX4_ditchOf 40 = .ok (.iload 4, 2) := by decide +kernel
theorem dX4_ditchOf_42 : decode cX4_ditchOf 42 = .ok (.iload 5, 2) := by decide +kernel
theorem dX4_ditchOf_44 : decode cX4_ditchOf 44 = .ok (.invokevirtual 211, 3) := by decide +kernel
theorem dX4_ditchOf_47 : decode cX4_ditchOf 47 = .ok (.istore 6, 2) := by decide +kernel
theorem dX4_ditchOf_49 : decode cX4_ditchOf 49 = .ok (.iload_n 3, 1) := by decide +kernel
theorem dX4_ditchOf_50 : decode cX4_ditchOf 50 = .ok (.iload 4, 2) := by decide +kernel
theorem dX4_ditchOf_52 : decode cX4_ditchOf 52 = .ok (.ishr, 1) := by decide +kernel
theorem dX4_ditchOf_53 : decode cX4_ditchOf 53 = .ok (.iconst 1, 1) := by decide +kernel
theorem dX4_ditchOf_54 : decode cX4_ditchOf 54 = .ok (.iand, 1) := by decide +kernel
theorem dX4_ditchOf_55 : decode cX4_ditchOf 55 = .ok (.iconst 1, 1) := by decide +kernel
theorem dX4_ditchOf_56 : decode cX4_ditchOf 56 = .ok (.if_icmp .ne 26, 3) := by decide +kernel
theorem dX4_ditchOf_59 : decode cX4_ditchOf 59 = .ok (.iload 6, 2) := by decide +kernel
theorem dX4_ditchOf_61 : decode cX4_ditchOf 61 = .ok (.iconst (-1), 1) := by decide +kernel
theorem dX4_ditchOf_62 : decode cX4_ditchOf 62 = .ok (.if_icmp .eq 20, 3) := by decide +kernel
theorem dX4_ditchOf_65 : decode cX4_ditchOf 65 = .ok (.aload_n 0, 1) := by decide +kernel
theorem dX4_ditchOf_66 : decode cX4_ditchOf 66 = .ok (.getfield 13, 3) := by decide +kernel
theorem dX4_ditchOf_69 : decode cX4_ditchOf 69 = .ok (.iload 6, 2) := by decide +kernel
theorem dX4_ditchOf_71 : decode cX4_ditchOf 71 = .ok (.baload, 1) := by decide +kernel
theorem dX4_ditchOf_72 : decode cX4_ditchOf 72 = .ok (.ifCond .eq 10, 3) := by decide +kernel
theorem dX4_ditchOf_75 : decode cX4_ditchOf 75 = .ok (.iload_n 2, 1) := by decide +kernel
theorem dX4_ditchOf_76 : decode cX4_ditchOf 76 = .ok (.iconst 1, 1) := by decide +kernel
theorem dX4_ditchOf_77 : decode cX4_ditchOf 77 = .ok (.iload 6, 2) := by decide +kernel
theorem dX4_ditchOf_79 : decode cX4_ditchOf 79 = .ok (.ishl, 1) := by decide +kernel
theorem dX4_ditchOf_80 : decode cX4_ditchOf 80 = .ok (.ior, 1) := by decide +kernel
theorem dX4_ditchOf_81 : decode cX4_ditchOf 81 = .ok (.istore_n 2, 1) := by decide +kernel
theorem dX4_ditchOf_82 : decode cX4_ditchOf 82 = .ok (.iinc 5 1, 3) := by decide +kernel
theorem dX4_ditchOf_85 : decode cX4_ditchOf 85 = .ok (.goto (-52), 3) := by decide +kernel
theorem dX4_ditchOf_88 : decode cX4_ditchOf 88 = .ok (.iinc 4 1, 3) := by decide +kernel
theorem dX4_ditchOf_91 : decode cX4_ditchOf 91 = .ok (.goto (-75), 3) := by decide +kernel
theorem dX4_ditchOf_94 : decode cX4_ditchOf 94 = .ok (.goto (-88), 3) := by decide +kernel
theorem dX4_ditchOf_97 : decode cX4_ditchOf 97 = .ok (.iload_n 2, 1) := by decide +kernel
theorem dX4_ditchOf_98 : decode cX4_ditchOf 98 = .ok (.ireturn, 1) := by decide +kernel
theorem dX4_isOpen_0 : decode cX4_isOpen 0 = .ok (.iconst 0, 1) := by decide +kernel
theorem dX4_isOpen_1 : decode cX4_isOpen 1 = .ok (.istore_n 2, 1) := by decide +kernel
theorem dX4_isOpen_2 : decode cX4_isOpen 2 = .ok (.iload_n 2, 1) := by decide +kernel
theorem dX4_isOpen_3 : decode cX4_isOpen 3 = .ok (.aload_n 0, 1) := by decide +kernel
theorem dX4_isOpen_4 : decode cX4_isOpen 4 = .ok (.getfield 67, 3) := by decide +kernel
theorem dX4_isOpen_7 : decode cX4_isOpen 7 = .ok (.aload_n 0, 1) := by decide +kernel
theorem dX4_isOpen_8 : decode cX4_isOpen 8 = .ok (.getfield 70, 3) := by decide +kernel
theorem dX4_isOpen_11 : decode cX4_isOpen 11 = .ok (.imul, 1) := by decide +kernel
theorem dX4_isOpen_12 : decode cX4_isOpen 12 = .ok (.if_icmp .ge 60, 3) := by decide +kernel
theorem dX4_isOpen_15 : decode cX4_isOpen 15 = .ok (.iconst 0, 1) := by decide +kernel
theorem dX4_isOpen_16 : decode cX4_isOpen 16 = .ok (.istore_n 3, 1) := by decide +kernel
theorem dX4_isOpen_17 : decode cX4_isOpen 17 = .ok (.iload_n 3, 1) := by decide +kernel
theorem dX4_isOpen_18 : decode cX4_isOpen 18 = .ok (.iconst 4, 1) := by decide +kernel
theorem dX4_isOpen_19 : decode cX4_isOpen 19 = .ok (.if_icmp .ge 47, 3) := by decide +kernel
theorem dX4_isOpen_22 : decode cX4_isOpen 22 = .ok (.iload_n 1, 1) := by decide +kernel
theorem dX4_isOpen_23 : decode cX4_isOpen 23 = .ok (.iload_n 2, 1) := by decide +kernel
theorem dX4_isOpen_24 : decode cX4_isOpen 24 = .ok (.ishr, 1) := by decide +kernel
theorem dX4_isOpen_25 : decode cX4_isOpen 25 = .ok (.iconst 1, 1) := by decide +kernel
theorem dX4_isOpen_26 : decode cX4_isOpen 26 = .ok (.iand, 1) := by decide +kernel
theorem dX4_isOpen_27 : decode cX4_isOpen 27 = .ok (.iconst 1, 1) := by decide +kernel
theorem dX4_isOpen_28 : decode cX4_isOpen 28 = .ok (.if_icmp .ne 32, 3) := by decide +kernel
theorem dX4_isOpen_31 : decode cX4_isOpen 31 = .ok (.aload_n 0, 1) := by decide +kernel
theorem dX4_isOpen_32 : decode cX4_isOpen 32 = .ok (.aload_n 0, 1) := by decide +kernel
theorem dX4_isOpen_33 : decode cX4_isOpen 33 = .ok (.iload_n 2, 1) := by decide +kernel
theorem dX4_isOpen_34 : decode cX4_isOpen 34 = .ok (.iload_n 3, 1) := by decide +kernel
theorem dX4_isOpen_35 : decode cX4_isOpen 35 = .ok (.invokevirtual 122, 3) := by decide +kernel
theorem dX4_isOpen_38 : decode cX4_isOpen 38 = .ok (.invokevirtual 125, 3) := by decide +kernel
theorem dX4_isOpen_41 : decode cX4_isOpen 41 = .ok (.ifCond .eq 19, 3) := by decide +kernel
theorem dX4_isOpen_44 : decode cX4_isOpen 44 = .ok (.aload_n 0, 1) := by decide +kernel
theorem dX4_isOpen_45 : decode cX4_isOpen 45 = .ok (.getfield 7, 3) := by decide +kernel
theorem dX4_isOpen_48 : decode cX4_isOpen 48 = .ok (.aload_n 0, 1) := by decide +kernel
theorem dX4_isOpen_49 : decode cX4_isOpen 49 = .ok (.iload_n 2, 1) := by decide +kernel
theorem dX4_isOpen_50 : decode cX4_isOpen 50 = .ok (.iload_n 3, 1) := by decide +kernel
theorem dX4_isOpen_51 : decode cX4_isOpen 51 = .ok (.invokevirtual 122, 3) := by decide +kernel
theorem dX4_isOpen_54 : decode cX4_isOpen 54 = .ok (.baload, 1) := by decide +kernel
theorem dX4_isOpen_55 : decode cX4_isOpen 55 = .ok (.ifCond .ne 5, 3) := by decide +kernel
theorem dX4_isOpen_58 : decode cX4_isOpen 58 = .ok (.iconst 1, 1) := by decide +kernel
theorem dX4_isOpen_59 : decode cX4_isOpen 59 = .ok (.ireturn, 1) := by decide +kernel
theorem dX4_isOpen_60 : decode cX4_isOpen 60 = .ok (.iinc 3 1, 3) := by decide +kernel
theorem dX4_isOpen_63 : decode cX4_isOpen 63 = .ok (.goto (-46), 3) := by decide +kernel
theorem dX4_isOpen_66 : decode cX4_isOpen 66 = .ok (.iinc 2 1, 3) := by decide +kernel
theorem dX4_isOpen_69 : decode cX4_isOpen 69 = .ok (.goto (-67), 3) := by decide +kernel
theorem dX4_isOpen_72 : decode cX4_isOpen 72 = .ok (.iconst 0, 1) := by decide +kernel
theorem dX4_isOpen_73 : decode cX4_isOpen 73 = .ok (.ireturn, 1) := by decide +kernel
theorem dX4_drains_0 : decode cX4_drains 0 = .ok (.iconst 0, 1) := by decide +kernel
theorem dX4_drains_1 : decode cX4_drains 1 = .ok (.istore_n 1, 1) := by decide +kernel
theorem dX4_drains_2 : decode cX4_drains 2 = .ok (.iconst 0, 1) := by decide +kernel
theorem dX4_drains_3 : decode cX4_drains 3 = .ok (.istore_n 2, 1) := by decide +kernel
theorem dX4_drains_4 : decode cX4_drains 4 = .ok (.iload_n 2, 1) := by decide +kernel
theorem dX4_drains_5 : decode cX4_drains 5 = .ok (.aload_n 0, 1) := by decide +kernel
theorem dX4_drains_6 : decode cX4_drains 6 = .ok (.getfield 67, 3) := by decide +kernel
theorem dX4_drains_9 : decode cX4_drains 9 = .ok (.aload_n 0, 1) := by decide +kernel
theorem dX4_drains_10 : decode cX4_drains 10 = .ok (.getfield 70, 3) := by decide +kernel
theorem dX4_drains_13 : decode cX4_drains 13 = .ok (.imul, 1) := by decide +kernel
theorem dX4_drains_14 : decode cX4_drains 14 = .ok (.if_icmp .ge 36, 3) := by decide +kernel
theorem dX4_drains_17 : decode cX4_drains 17 = .ok (.aload_n 0, 1) := by decide +kernel
theorem dX4_drains_18 : decode cX4_drains 18 = .ok (.getfield 13, 3) := by decide +kernel
theorem dX4_drains_21 : decode cX4_drains 21 = .ok (.iload_n 2, 1) := by decide +kernel
theorem dX4_drains_22 : decode cX4_drains 22 = .ok (.baload, 1) := by decide +kernel
theorem dX4_drains_23 : decode cX4_drains 23 = .ok (.ifCond .eq 21, 3) := by decide +kernel
theorem dX4_drains_26 : decode cX4_drains 26 = .ok (.aload_n 0, 1) := by decide +kernel
theorem dX4_drains_27 : decode cX4_drains 27 = .ok (.aload_n 0, 1) := by decide +kernel
theorem dX4_drains_28 : decode cX4_drains 28 = .ok (.iload_n 2, 1) := by decide +kernel
theorem dX4_drains_29 : decode cX4_drains 29 = .ok (.invokevirtual 214, 3) := by decide +kernel
theorem dX4_drains_32 : decode cX4_drains 32 = .ok (.invokevirtual 217, 3) := by decide +kernel
theorem dX4_drains_35 : decode cX4_drains 35 = .ok (.ifCond .eq 9, 3) := by decide +kernel
theorem dX4_drains_38 : decode cX4_drains 38 = .ok (.iload_n 1, 1) := by decide +kernel
theorem dX4_drains_39 : decode cX4_drains 39 = .ok (.iconst 1, 1) := by decide +kernel
theorem dX4_drains_40 : decode cX4_drains 40 = .ok (.iload_n 2, 1) := by decide +kernel
theorem dX4_drains_41 : decode cX4_drains 41 = .ok (.ishl, 1) := by decide +kernel
theorem dX4_drains_42 : decode cX4_drains 42 = .ok (.ior, 1) := by decide +kernel
theorem dX4_drains_43 : decode cX4_drains 43 = .ok (.istore_n 1, 1) := by decide +kernel
theorem dX4_drains_44 : decode cX4_drains 44 = .ok (.iinc 2 1, 3) := by decide +kernel
theorem dX4_drains_47 : decode cX4_drains 47 = .ok (.goto (-43), 3) := by decide +kernel
theorem dX4_drains_50 : decode cX4_drains 50 = .ok (.iload_n 1, 1) := by decide +kernel
theorem dX4_drains_51 : decode cX4_drains 51 = .ok (.ireturn, 1) := by decide +kernel
theorem dX4_colour_0 : decode cX4_colour 0 = .ok (.iload_n 2, 1) := by decide +kernel
theorem dX4_colour_1 : decode cX4_colour 1 = .ok (.iload_n 1, 1) := by decide +kernel
theorem dX4_colour_2 : decode cX4_colour 2 = .ok (.ishr, 1) := by decide +kernel
theorem dX4_colour_3 : decode cX4_colour 3 = .ok (.iconst 1, 1) := by decide +kernel
theorem dX4_colour_4 : decode cX4_colour 4 = .ok (.iand, 1) := by decide +kernel
theorem dX4_colour_5 : decode cX4_colour 5 = .ok (.iconst 1, 1) := by decide +kernel
theorem dX4_colour_6 : decode cX4_colour 6 = .ok (.if_icmp .ne 5, 3) := by decide +kernel
theorem dX4_colour_9 : decode cX4_colour 9 = .ok (.iconst (-1), 1) := by decide +kernel
theorem dX4_colour_10 : decode cX4_colour 10 = .ok (.ireturn, 1) := by decide +kernel
theorem dX4_colour_11 : decode cX4_colour 11 = .ok (.iconst 0, 1) := by decide +kernel
theorem dX4_colour_12 : decode cX4_colour 12 = .ok (.istore_n 3, 1) := by decide +kernel
theorem dX4_colour_13 : decode cX4_colour 13 = .ok (.iload_n 3, 1) := by decide +kernel
theorem dX4_colour_14 : decode cX4_colour 14 = .ok (.iconst 4, 1) := by decide +kernel
theorem dX4_colour_15 : decode cX4_colour 15 = .ok (.if_icmp .ge 35, 3) := by decide +kernel
theorem dX4_colour_18 : decode cX4_colour 18 = .ok (.aload_n 0, 1) := by decide +kernel
theorem dX4_colour_19 : decode cX4_colour 19 = .ok (.iload_n 1, 1) := by decide +kernel
theorem dX4_colour_20 : decode cX4_colour 20 = .ok (.iload_n 3, 1) := by decide +kernel
theorem dX4_colour_21 : decode cX4_colour 21 = .ok (.invokevirtual 211, 3) := by decide +kernel
theorem dX4_colour_24 : decode cX4_colour 24 = .ok (.istore 4, 2) := by decide +kernel
theorem dX4_colour_26 : decode cX4_colour 26 = .ok (.iload 4, 2) := by decide +kernel
theorem dX4_colour_28 : decode cX4_colour 28 = .ok (.iconst (-1), 1) := by decide +kernel
theorem dX4_colour_29 : decode cX4_colour 29 = .ok (.if_icmp .eq 15, 3) := by decide +kernel
theorem dX4_colour_32 : decode cX4_colour 32 = .ok (.iload_n 2, 1) := by decide +kernel
theorem dX4_colour_33 : decode cX4_colour 33 = .ok (.iload 4, 2) := by decide +kernel
theorem dX4_colour_35 : decode cX4_colour 35 = .ok (.ishr, 1) := by decide +kernel
theorem dX4_colour_36 : decode cX4_colour 36 = .ok (.iconst 1, 1) := by decide +kernel
theorem dX4_colour_37 : decode cX4_colour 37 = .ok (.iand, 1) := by decide +kernel
theorem dX4_colour_38 : decode cX4_colour 38 = .ok (.iconst 1, 1) := by decide +kernel
theorem dX4_colour_39 : decode cX4_colour 39 = .ok (.if_icmp .ne 5, 3) := by decide +kernel
theorem dX4_colour_42 : decode cX4_colour 42 = .ok (.iconst (-1), 1) := by decide +kernel
theorem dX4_colour_43 : decode cX4_colour 43 = .ok (.ireturn, 1) := by decide +kernel
theorem dX4_colour_44 : decode cX4_colour 44 = .ok (.iinc 3 1, 3) := by decide +kernel
theorem dX4_colour_47 : decode cX4_colour 47 = .ok (.goto (-34), 3) := by decide +kernel
theorem dX4_colour_50 : decode cX4_colour 50 = .ok (.aload_n 0, 1) := by decide +kernel
theorem dX4_colour_51 : decode cX4_colour 51 = .ok (.getfield 16, 3) := by decide +kernel
theorem dX4_colour_54 : decode cX4_colour 54 = .ok (.iload_n 1, 1) := by decide +kernel
theorem dX4_colour_55 : decode cX4_colour 55 = .ok (.iaload, 1) := by decide +kernel
theorem dX4_colour_56 : decode cX4_colour 56 = .ok (.ireturn, 1) := by decide +kernel
theorem dX4_lanesOf_0 : decode cX4_lanesOf 0 = .ok (.aload_n 0, 1) := by decide +kernel
theorem dX4_lanesOf_1 : decode cX4_lanesOf 1 = .ok (.invokevirtual 199, 3) := by decide +kernel
theorem dX4_lanesOf_4 : decode cX4_lanesOf 4 = .ok (.istore_n 2, 1) := by decide +kernel
theorem dX4_lanesOf_5 : decode cX4_lanesOf 5 = .ok (.iconst 0, 1) := by decide +kernel
theorem dX4_lanesOf_6 : decode cX4_lanesOf 6 = .ok (.istore_n 3, 1) := by decide +kernel
theorem dX4_lanesOf_7 : decode cX4_lanesOf 7 = .ok (.iconst 0, 1) := by decide +kernel
theorem dX4_lanesOf_8 : decode cX4_lanesOf 8 = .ok (.istore 4, 2) := by decide +kernel
theorem dX4_lanesOf_10 : decode cX4_lanesOf 10 = .ok (.iload 4, 2) := by decide +kernel
theorem dX4_lanesOf_12 : decode cX4_lanesOf 12 = .ok (.aload_n 0, 1) := by decide +kernel
theorem dX4_lanesOf_13 : decode cX4_lanesOf 13 = .ok (.getfield 67, 3) := by decide +kernel
theorem dX4_lanesOf_16 : decode cX4_lanesOf 16 = .ok (.aload_n 0, 1) := by decide +kernel
theorem dX4_lanesOf_17 : decode cX4_lanesOf 17 = .ok (.getfield 70, 3) := by decide +kernel
theorem dX4_lanesOf_20 : decode cX4_lanesOf 20 = .ok (.imul, 1) := by decide +kernel
theorem dX4_lanesOf_21 : decode cX4_lanesOf 21 = .ok (.if_icmp .ge 121, 3) := by decide +kernel
theorem dX4_lanesOf_24 : decode cX4_lanesOf 24 = .ok (.aload_n 0, 1) := by decide +kernel
theorem dX4_lanesOf_25 : decode cX4_lanesOf 25 = .ok (.iload 4, 2) := by decide +kernel
theorem dX4_lanesOf_27 : decode cX4_lanesOf 27 = .ok (.iload_n 2, 1) := by decide +kernel
theorem dX4_lanesOf_28 : decode cX4_lanesOf 28 = .ok (.invokevirtual 202, 3) := by decide +kernel
theorem dX4_lanesOf_31 : decode cX4_lanesOf 31 = .ok (.iload_n 1, 1) := by decide +kernel
theorem dX4_lanesOf_32 : decode cX4_lanesOf 32 = .ok (.if_icmp .eq 6, 3) := by decide +kernel
theorem dX4_lanesOf_35 : decode cX4_lanesOf 35 = .ok (.goto 101, 3) := by decide +kernel
theorem dX4_lanesOf_38 : decode cX4_lanesOf 38 = .ok (.iload 4, 2) := by decide +kernel
theorem dX4_lanesOf_40 : decode cX4_lanesOf 40 = .ok (.aload_n 0, 1) := by decide +kernel
theorem dX4_lanesOf_41 : decode cX4_lanesOf 41 = .ok (.getfield 67, 3) := by decide +kernel
theorem dX4_lanesOf_44 : decode cX4_lanesOf 44 = .ok (.irem, 1) := by decide +kernel
theorem dX4_lanesOf_45 : decode cX4_lanesOf 45 = .ok (.iconst 2, 1) := by decide +kernel
theorem dX4_lanesOf_46 : decode cX4_lanesOf 46 = .ok (.iadd, 1) := by decide +kernel
theorem dX4_lanesOf_47 : decode cX4_lanesOf 47 = .ok (.aload_n 0, 1) := by decide +kernel
theorem dX4_lanesOf_48 : decode cX4_lanesOf 48 = .ok (.getfield 67, 3) := by decide +kernel
theorem dX4_lanesOf_51 : decode cX4_lanesOf 51 = .ok (.if_icmp .ge 32, 3) := by decide +kernel
theorem dX4_lanesOf_54 : decode cX4_lanesOf 54 = .ok (.aload_n 0, 1) := by decide +kernel
theorem dX4_lanesOf_55 : decode cX4_lanesOf 55 = .ok (.iload 4, 2) := by decide +kernel
theorem dX4_lanesOf_57 : decode cX4_lanesOf 57 = .ok (.iconst 1, 1) := by decide +kernel
theorem dX4_lanesOf_58 : decode cX4_lanesOf 58 = .ok (.iadd, 1) := by decide +kernel
theorem dX4_lanesOf_59 : decode cX4_lanesOf 59 = .ok (.iload_n 2, 1) := by decide +kernel
theorem dX4_lanesOf_60 : decode cX4_lanesOf 60 = .ok (.invokevirtual 202, 3) := by decide +kernel
theorem dX4_lanesOf_63 : decode cX4_lanesOf 63 = .ok (.iload_n 1, 1) := by decide +kernel
theorem dX4_lanesOf_64 : decode cX4_lanesOf 64 = .ok (.if_icmp .ne 19, 3) := by decide +kernel
theorem dX4_lanesOf_67 : decode cX4_lanesOf 67 = .ok (.aload_n 0, 1) := by decide +kernel
theorem dX4_lanesOf_68 : decode cX4_lanesOf 68 = .ok (.iload 4, 2) := by decide +kernel
theorem dX4_lanesOf_70 : decode cX4_lanesOf 70 = .ok (.iconst 2, 1) := by decide +kernel
theorem dX4_lanesOf_71 : decode cX4_lanesOf 71 = .ok (.iadd, 1) := by decide +kernel
theorem dX4_lanesOf_72 : decode cX4_lanesOf 72 = .ok (.iload_n 2, 1) := by decide +kernel
theorem dX4_lanesOf_73 : decode cX4_lanesOf 73 = .ok (.invokevirtual 202, 3) := by decide +kernel
theorem dX4_lanesOf_76 : decode cX4_lanesOf 76 = .ok (.iload_n 1, 1) := by decide +kernel
theorem dX4_lanesOf_77 : decode cX4_lanesOf 77 = .ok (.if_icmp .ne 6, 3) := by decide +kernel
theorem dX4_lanesOf_80 : decode cX4_lanesOf 80 = .ok (.iinc 3 1, 3) := by decide +kernel
theorem dX4_lanesOf_83 : decode cX4_lanesOf 83 = .ok (.iload 4, 2) := by decide +kernel
theorem dX4_lanesOf_85 : decode cX4_lanesOf 85 = .ok (.aload_n 0, 1) := by decide +kernel
theorem dX4_lanesOf_86 : decode cX4_lanesOf 86 = .ok (.getfield 67, 3) := by decide +kernel
theorem dX4_lanesOf_89 : decode cX4_lanesOf 89 = .ok (.idiv, 1) := by decide +kernel
theorem dX4_lanesOf_90 : decode cX4_lanesOf 90 = .ok (.iconst 2, 1) := by decide +kernel
theorem dX4_lanesOf_91 : decode cX4_lanesOf 91 = .ok (.iadd, 1) := by decide +kernel
theorem dX4_lanesOf_92 : decode cX4_lanesOf 92 = .ok (.aload_n 0, 1) := by decide +kernel
theorem dX4_lanesOf_93 : decode cX4_lanesOf 93 = .ok (.getfield 70, 3) := by decide +kernel
theorem dX4_lanesOf_96 : decode cX4_lanesOf 96 = .ok (.if_icmp .ge 40, 3) := by decide +kernel
theorem dX4_lanesOf_99 : decode cX4_lanesOf 99 = .ok (.aload_n 0, 1) := by decide +kernel
theorem dX4_lanesOf_100 : decode cX4_lanesOf 100 = .ok (.iload 4, 2) := by decide +kernel
theorem dX4_lanesOf_102 : decode cX4_lanesOf 102 = .ok (.aload_n 0, 1) := by decide +kernel
theorem dX4_lanesOf_103 : decode cX4_lanesOf 103 = .ok (.getfield 67, 3) := by decide +kernel
theorem dX4_lanesOf_106 : decode cX4_lanesOf 106 = .ok (.iadd, 1) := by decide +kernel
theorem dX4_lanesOf_107 : decode cX4_lanesOf 107 = .ok (.iload_n 2, 1) := by decide +kernel
theorem dX4_lanesOf_108 : decode cX4_lanesOf 108 = .ok (.invokevirtual 202, 3) := by decide +kernel
theorem dX4_lanesOf_111 : decode cX4_lanesOf 111 = .ok (.iload_n 1, 1) := by decide +kernel
theorem dX4_lanesOf_112 : decode cX4_lanesOf 112 = .ok (.if_icmp .ne 24, 3) := by decide +kernel
theorem dX4_lanesOf_115 : decode cX4_lanesOf 115 = .ok (.aload_n 0, 1) := by decide +kernel
theorem dX4_lanesOf_116 : decode cX4_lanesOf 116 = .ok (.iload 4, 2) := by decide +kernel
theorem dX4_lanesOf_118 : decode cX4_lanesOf 118 = .ok (.iconst 2, 1) := by decide +kernel
theorem dX4_lanesOf_119 : decode cX4_lanesOf 119 = .ok (.aload_n 0, 1) := by decide +kernel
theorem dX4_lanesOf_120 : decode cX4_lanesOf 120 = .ok (.getfield 67, 3) := by decide +kernel
theorem dX4_lanesOf_123 : decode cX4_lanesOf 123 = .ok (.imul, 1) := by decide +kernel
theorem dX4_lanesOf_124 : decode cX4_lanesOf 124 = .ok (.iadd, 1) := by decide +kernel
theorem dX4_lanesOf_125 : decode cX4_lanesOf 125 = .ok (.iload_n 2, 1) := by decide +kernel
theorem dX4_lanesOf_126 : decode cX4_lanesOf 126 = .ok (.invokevirtual 202, 3) := by decide +kernel
theorem dX4_lanesOf_129 : decode cX4_lanesOf 129 = .ok (.iload_n 1, 1) := by decide +kernel
theorem dX4_lanesOf_130 : decode cX4_lanesOf 130 = .ok (.if_icmp .ne 6, 3) := by decide +kernel
theorem dX4_lanesOf_133 : decode cX4_lanesOf 133 = .ok (.iinc 3 1, 3) := by decide +kernel
theorem dX4_lanesOf_136 : decode cX4_lanesOf 136 = .ok (.iinc 4 1, 3) := by decide +kernel
theorem dX4_lanesOf_139 : decode cX4_lanesOf 139 = .ok (.goto (-129), 3) := by decide +kernel
theorem dX4_lanesOf_142 : decode cX4_lanesOf 142 = .ok (.iload_n 3, 1) := by decide +kernel
theorem dX4_lanesOf_143 : decode cX4_lanesOf 143 = .ok (.ireturn, 1) := by decide +kernel
theorem dX4_scoreOf_0 : decode cX4_scoreOf 0 = .ok (.aload_n 0, 1) := by decide +kernel
theorem dX4_scoreOf_1 : decode cX4_scoreOf 1 = .ok (.invokevirtual 199, 3) := by decide +kernel
theorem dX4_scoreOf_4 : decode cX4_scoreOf 4 = .ok (.istore_n 2, 1) := by decide +kernel
theorem dX4_scoreOf_5 : decode cX4_scoreOf 5 = .ok (.aload_n 0, 1) := by decide +kernel
theorem dX4_scoreOf_6 : decode cX4_scoreOf 6 = .ok (.iconst 1, 1) := by decide +kernel
theorem dX4_scoreOf_7 : decode cX4_scoreOf 7 = .ok (.iload_n 1, 1) := by decide +kernel
theorem dX4_scoreOf_8 : decode cX4_scoreOf 8 = .ok (.isub, 1) := by decide +kernel
theorem dX4_scoreOf_9 : decode cX4_scoreOf 9 = .ok (.invokevirtual 220, 3) := by decide +kernel
theorem dX4_scoreOf_12 : decode cX4_scoreOf 12 = .ok (.istore_n 3, 1) := by decide +kernel
theorem dX4_scoreOf_13 : decode cX4_scoreOf 13 = .ok (.iconst 0, 1) := by decide +kernel
theorem dX4_scoreOf_14 : decode cX4_scoreOf 14 = .ok (.istore 4, 2) := by decide +kernel
theorem dX4_scoreOf_16 : decode cX4_scoreOf 16 = .ok (.iload 4, 2) := by decide +kernel
theorem dX4_scoreOf_18 : decode cX4_scoreOf 18 = .ok (.aload_n 0, 1) := by decide +kernel
theorem dX4_scoreOf_19 : decode cX4_scoreOf 19 = .ok (.getfield 67, 3) := by decide +kernel
theorem dX4_scoreOf_22 : decode cX4_scoreOf 22 = .ok (.aload_n 0, 1) := by decide +kernel
theorem dX4_scoreOf_23 : decode cX4_scoreOf 23 = .ok (.getfield 70, 3) := by decide +kernel
theorem dX4_scoreOf_26 : decode cX4_scoreOf 26 = .ok (.imul, 1) := by decide +kernel
theorem dX4_scoreOf_27 : decode cX4_scoreOf 27 = .ok (.if_icmp .ge 23, 3) := by decide +kernel
theorem dX4_scoreOf_30 : decode cX4_scoreOf 30 = .ok (.aload_n 0, 1) := by decide +kernel
theorem dX4_scoreOf_31 : decode cX4_scoreOf 31 = .ok (.iload 4, 2) := by decide +kernel
theorem dX4_scoreOf_33 : decode cX4_scoreOf 33 = .ok (.iload_n 2, 1) := by decide +kernel
theorem dX4_scoreOf_34 : decode cX4_scoreOf 34 = .ok (.invokevirtual 202, 3) := by decide +kernel
theorem dX4_scoreOf_37 : decode cX4_scoreOf 37 = .ok (.iload_n 1, 1) := by decide +kernel
theorem dX4_scoreOf_38 : decode cX4_scoreOf 38 = .ok (.if_icmp .ne 6, 3) := by decide +kernel
theorem dX4_scoreOf_41 : decode cX4_scoreOf 41 = .ok (.iinc 3 1, 3) := by decide +kernel
theorem dX4_scoreOf_44 : decode cX4_scoreOf 44 = .ok (.iinc 4 1, 3) := by decide +kernel
theorem dX4_scoreOf_47 : decode cX4_scoreOf 47 = .ok (.goto (-31), 3) := by decide +kernel
theorem dX4_scoreOf_50 : decode cX4_scoreOf 50 = .ok (.iload_n 3, 1) := by decide +kernel
theorem dX4_scoreOf_51 : decode cX4_scoreOf 51 = .ok (.ireturn, 1) := by decide +kernel
theorem dX4_leadOf_0 : decode cX4_leadOf 0 = .ok (.aload_n 0, 1) := by decide +kernel
theorem dX4_leadOf_1 : decode cX4_leadOf 1 = .ok (.iload_n 1, 1) := by decide +kernel
theorem dX4_leadOf_2 : decode cX4_leadOf 2 = .ok (.invokevirtual 223, 3) := by decide +kernel
theorem dX4_leadOf_5 : decode cX4_leadOf 5 = .ok (.aload_n 0, 1) := by decide +kernel
theorem dX4_leadOf_6 : decode cX4_leadOf 6 = .ok (.iconst 1, 1) := by decide +kernel
theorem dX4_leadOf_7 : decode cX4_leadOf 7 = .ok (.iload_n 1, 1) := by decide +kernel
theorem dX4_leadOf_8 : decode cX4_leadOf 8 = .ok (.isub, 1) := by decide +kernel
theorem dX4_leadOf_9 : decode cX4_leadOf 9 = .ok (.invokevirtual 223, 3) := by decide +kernel
theorem dX4_leadOf_12 : decode cX4_leadOf 12 = .ok (.isub, 1) := by decide +kernel
theorem dX4_leadOf_13 : decode cX4_leadOf 13 = .ok (.ireturn, 1) := by decide +kernel
theorem dX4_score_0 : decode cX4_score 0 = .ok (.iload_n 1, 1) := by decide +kernel
theorem dX4_score_1 : decode cX4_score 1 = .ok (.iconst 0, 1) := by decide +kernel
theorem dX4_score_2 : decode cX4_score 2 = .ok (.iconst 1, 1) := by decide +kernel
theorem dX4_score_3 : decode cX4_score 3 = .ok (.invokestatic 63, 3) := by decide +kernel
theorem dX4_score_6 : decode cX4_score 6 = .ok (.ifCond .eq 11, 3) := by decide +kernel
theorem dX4_score_9 : decode cX4_score 9 = .ok (.aload_n 0, 1) := by decide +kernel
theorem dX4_score_10 : decode cX4_score 10 = .ok (.iload_n 1, 1) := by decide +kernel
theorem dX4_score_11 : decode cX4_score 11 = .ok (.invokevirtual 223, 3) := by decide +kernel
theorem dX4_score_14 : decode cX4_score 14 = .ok (.goto 9, 3) := by decide +kernel
theorem dX4_score_17 : decode cX4_score 17 = .ok (.aload_n 0, 1) := by decide +kernel
theorem dX4_score_18 : decode cX4_score 18 = .ok (.bipush (-2), 2) := by decide +kernel
theorem dX4_score_20 : decode cX4_score 20 = .ok (.invokevirtual 56, 3) := by decide +kernel
theorem dX4_score_23 : decode cX4_score 23 = .ok (.ireturn, 1) := by decide +kernel
theorem dX4_lead_0 : decode cX4_lead 0 = .ok (.iload_n 1, 1) := by decide +kernel
theorem dX4_lead_1 : decode cX4_lead 1 = .ok (.iconst 0, 1) := by decide +kernel
theorem dX4_lead_2 : decode cX4_lead 2 = .ok (.iconst 1, 1) := by decide +kernel
theorem dX4_lead_3 : decode cX4_lead 3 = .ok (.invokestatic 63, 3) := by decide +kernel
theorem dX4_lead_6 : decode cX4_lead 6 = .ok (.ifCond .eq 11, 3) := by decide +kernel
theorem dX4_lead_9 : decode cX4_lead 9 = .ok (.aload_n 0, 1) := by decide +kernel
theorem dX4_lead_10 : decode cX4_lead 10 = .ok (.iload_n 1, 1) := by decide +kernel
theorem dX4_lead_11 : decode cX4_lead 11 = .ok (.invokevirtual 226, 3) := by decide +kernel
theorem dX4_lead_14 : decode cX4_lead 14 = .ok (.goto 9, 3) := by decide +kernel
theorem dX4_lead_17 : decode cX4_lead 17 = .ok (.aload_n 0, 1) := by decide +kernel
theorem dX4_lead_18 : decode cX4_lead 18 = .ok (.bipush (-2), 2) := by decide +kernel
theorem dX4_lead_20 : decode cX4_lead 20 = .ok (.invokevirtual 229, 3) := by decide +kernel
theorem dX4_lead_23 : decode cX4_lead 23 = .ok (.ireturn, 1) := by decide +kernel
theorem dX4_lanes_0 : decode cX4_lanes 0 = .ok (.iload_n 1, 1) := by decide +kernel
theorem dX4_lanes_1 : decode cX4_lanes 1 = .ok (.iconst 0, 1) := by decide +kernel
theorem dX4_lanes_2 : decode cX4_lanes 2 = .ok (.iconst 1, 1) := by decide +kernel
theorem dX4_lanes_3 : decode cX4_lanes 3 = .ok (.invokestatic 63, 3) := by decide +kernel
theorem dX4_lanes_6 : decode cX4_lanes 6 = .ok (.ifCond .eq 11, 3) := by decide +kernel
theorem dX4_lanes_9 : decode cX4_lanes 9 = .ok (.aload_n 0, 1) := by decide +kernel
theorem dX4_lanes_10 : decode cX4_lanes 10 = .ok (.iload_n 1, 1) := by decide +kernel
theorem dX4_lanes_11 : decode cX4_lanes 11 = .ok (.invokevirtual 220, 3) := by decide +kernel
theorem dX4_lanes_14 : decode cX4_lanes 14 = .ok (.goto 9, 3) := by decide +kernel
theorem dX4_lanes_17 : decode cX4_lanes 17 = .ok (.aload_n 0, 1) := by decide +kernel
theorem dX4_lanes_18 : decode cX4_lanes 18 = .ok (.bipush (-2), 2) := by decide +kernel
theorem dX4_lanes_20 : decode cX4_lanes 20 = .ok (.invokevirtual 56, 3) := by decide +kernel
theorem dX4_lanes_23 : decode cX4_lanes 23 = .ok (.ireturn, 1) := by decide +kernel
theorem dX4_ditch_0 : decode cX4_ditch 0 = .ok (.aload_n 0, 1) := by decide +kernel
theorem dX4_ditch_1 : decode cX4_ditch 1 = .ok (.iload_n 1, 1) := by decide +kernel
theorem dX4_ditch_2 : decode cX4_ditch 2 = .ok (.invokevirtual 116, 3) := by decide +kernel
theorem dX4_ditch_5 : decode cX4_ditch 5 = .ok (.ifCond .ne 10, 3) := by decide +kernel
theorem dX4_ditch_8 : decode cX4_ditch 8 = .ok (.aload_n 0, 1) := by decide +kernel
theorem dX4_ditch_9 : decode cX4_ditch 9 = .ok (.bipush (-2), 2) := by decide +kernel
theorem dX4_ditch_11 : decode cX4_ditch 11 = .ok (.invokevirtual 56, 3) := by decide +kernel
theorem dX4_ditch_14 : decode cX4_ditch 14 = .ok (.ireturn, 1) := by decide +kernel
theorem dX4_ditch_15 : decode cX4_ditch 15 = .ok (.aload_n 0, 1) := by decide +kernel
theorem dX4_ditch_16 : decode cX4_ditch 16 = .ok (.getfield 13, 3) := by decide +kernel
theorem dX4_ditch_19 : decode cX4_ditch 19 = .ok (.iload_n 1, 1) := by decide +kernel
theorem dX4_ditch_20 : decode cX4_ditch 20 = .ok (.baload, 1) := by decide +kernel
theorem dX4_ditch_21 : decode cX4_ditch 21 = .ok (.ifCond .eq 11, 3) := by decide +kernel
theorem dX4_ditch_24 : decode cX4_ditch 24 = .ok (.aload_n 0, 1) := by decide +kernel
theorem dX4_ditch_25 : decode cX4_ditch 25 = .ok (.iload_n 1, 1) := by decide +kernel
theorem dX4_ditch_26 : decode cX4_ditch 26 = .ok (.invokevirtual 214, 3) := by decide +kernel
theorem dX4_ditch_29 : decode cX4_ditch 29 = .ok (.goto 9, 3) := by decide +kernel
theorem dX4_ditch_32 : decode cX4_ditch 32 = .ok (.aload_n 0, 1) := by decide +kernel
theorem dX4_ditch_33 : decode cX4_ditch 33 = .ok (.bipush (-5), 2) := by decide +kernel
theorem dX4_ditch_35 : decode cX4_ditch 35 = .ok (.invokevirtual 56, 3) := by decide +kernel
theorem dX4_ditch_38 : decode cX4_ditch 38 = .ok (.ireturn, 1) := by decide +kernel
theorem dX4_drained_0 : decode cX4_drained 0 = .ok (.aload_n 0, 1) := by decide +kernel
theorem dX4_drained_1 : decode cX4_drained 1 = .ok (.invokevirtual 199, 3) := by decide +kernel
theorem dX4_drained_4 : decode cX4_drained 4 = .ok (.ireturn, 1) := by decide +kernel
theorem dX4_thirds_0 : decode cX4_thirds 0 = .ok (.iconst 0, 1) := by decide +kernel
theorem dX4_thirds_1 : decode cX4_thirds 1 = .ok (.istore_n 1, 1) := by decide +kernel
theorem dX4_thirds_2 : decode cX4_thirds 2 = .ok (.iconst 0, 1) := by decide +kernel
theorem dX4_thirds_3 : decode cX4_thirds 3 = .ok (.istore_n 2, 1) := by decide +kernel
theorem dX4_thirds_4 : decode cX4_thirds 4 = .ok (.iload_n 2, 1) := by decide +kernel
theorem dX4_thirds_5 : decode cX4_thirds 5 = .ok (.aload_n 0, 1) := by decide +kernel
theorem dX4_thirds_6 : decode cX4_thirds 6 = .ok (.getfield 67, 3) := by decide +kernel
theorem dX4_thirds_9 : decode cX4_thirds 9 = .ok (.aload_n 0, 1) := by decide +kernel
theorem dX4_thirds_10 : decode cX4_thirds 10 = .ok (.getfield 70, 3) := by decide +kernel
theorem dX4_thirds_13 : decode cX4_thirds 13 = .ok (.imul, 1) := by decide +kernel
theorem dX4_thirds_14 : decode cX4_thirds 14 = .ok (.if_icmp .ge 24, 3) := by decide +kernel
theorem dX4_thirds_17 : decode cX4_thirds 17 = .ok (.aload_n 0, 1) := by decide +kernel
theorem dX4_thirds_18 : decode cX4_thirds 18 = .ok (.iload_n 2, 1) := by decide +kernel
theorem dX4_thirds_19 : decode cX4_thirds 19 = .ok (.invokevirtual 196, 3) := by decide +kernel
theorem dX4_thirds_22 : decode cX4_thirds 22 = .ok (.iconst 3, 1) := by decide +kernel
theorem dX4_thirds_23 : decode cX4_thirds 23 = .ok (.if_icmp .ne 9, 3) := by decide +kernel
theorem dX4_thirds_26 : decode cX4_thirds 26 = .ok (.iload_n 1, 1) := by decide +kernel
theorem dX4_thirds_27 : decode cX4_thirds 27 = .ok (.iconst 1, 1) := by decide +kernel
theorem dX4_thirds_28 : decode cX4_thirds 28 = .ok (.iload_n 2, 1) := by decide +kernel
theorem dX4_thirds_29 : decode cX4_thirds 29 = .ok (.ishl, 1) := by decide +kernel
theorem dX4_thirds_30 : decode cX4_thirds 30 = .ok (.ior, 1) := by decide +kernel
theorem dX4_thirds_31 : decode cX4_thirds 31 = .ok (.istore_n 1, 1) := by decide +kernel
theorem dX4_thirds_32 : decode cX4_thirds 32 = .ok (.iinc 2 1, 3) := by decide +kernel
theorem dX4_thirds_35 : decode cX4_thirds 35 = .ok (.goto (-31), 3) := by decide +kernel
theorem dX4_thirds_38 : decode cX4_thirds 38 = .ok (.iload_n 1, 1) := by decide +kernel
theorem dX4_thirds_39 : decode cX4_thirds 39 = .ok (.ireturn, 1) := by decide +kernel
theorem dX4_chain_0 : decode cX4_chain 0 = .ok (.aload_n 0, 1) := by decide +kernel
theorem dX4_chain_1 : decode cX4_chain 1 = .ok (.iload_n 1, 1) := by decide +kernel
theorem dX4_chain_2 : decode cX4_chain 2 = .ok (.invokevirtual 116, 3) := by decide +kernel
theorem dX4_chain_5 : decode cX4_chain 5 = .ok (.ifCond .eq 11, 3) := by decide +kernel
theorem dX4_chain_8 : decode cX4_chain 8 = .ok (.aload_n 0, 1) := by decide +kernel
theorem dX4_chain_9 : decode cX4_chain 9 = .ok (.iload_n 1, 1) := by decide +kernel
theorem dX4_chain_10 : decode cX4_chain 10 = .ok (.invokevirtual 232, 3) := by decide +kernel
theorem dX4_chain_13 : decode cX4_chain 13 = .ok (.goto 9, 3) := by decide +kernel
theorem dX4_chain_16 : decode cX4_chain 16 = .ok (.aload_n 0, 1) := by decide +kernel
theorem dX4_chain_17 : decode cX4_chain 17 = .ok (.bipush (-2), 2) := by decide +kernel
theorem dX4_chain_19 : decode cX4_chain 19 = .ok (.invokevirtual 56, 3) := by decide +kernel
theorem dX4_chain_22 : decode cX4_chain 22 = .ok (.ireturn, 1) := by decide +kernel
theorem dX4_chainOf_0 : decode cX4_chainOf 0 = .ok (.aload_n 0, 1) := by decide +kernel
theorem dX4_chainOf_1 : decode cX4_chainOf 1 = .ok (.aload_n 0, 1) := by decide +kernel
theorem dX4_chainOf_2 : decode cX4_chainOf 2 = .ok (.getfield 45, 3) := by decide +kernel
theorem dX4_chainOf_5 : decode cX4_chainOf 5 = .ok (.invokevirtual 185, 3) := by decide +kernel
theorem dX4_chainOf_8 : decode cX4_chainOf 8 = .ok (.iconst 0, 1) := by decide +kernel
theorem dX4_chainOf_9 : decode cX4_chainOf 9 = .ok (.istore_n 2, 1) := by decide +kernel
theorem dX4_chainOf_10 : decode cX4_chainOf 10 = .ok (.iload_n 1, 1) := by decide +kernel
theorem dX4_chainOf_11 : decode cX4_chainOf 11 = .ok (.istore_n 3, 1) := by decide +kernel
theorem dX4_chainOf_12 : decode cX4_chainOf 12 = .ok (.iload_n 3, 1) := by decide +kernel
theorem dX4_chainOf_13 : decode cX4_chainOf 13 = .ok (.iconst (-1), 1) := by decide +kernel
theorem dX4_chainOf_14 : decode cX4_chainOf 14 = .ok (.if_icmp .eq 67, 3) := by decide +kernel
theorem dX4_chainOf_17 : decode cX4_chainOf 17 = .ok (.aload_n 0, 1) := by decide +kernel
theorem dX4_chainOf_18 : decode cX4_chainOf 18 = .ok (.iload_n 3, 1) := by decide +kernel
theorem dX4_chainOf_19 : decode cX4_chainOf 19 = .ok (.invokevirtual 196, 3) := by decide +kernel
theorem dX4_chainOf_22 : decode cX4_chainOf 22 = .ok (.iconst 3, 1) := by decide +kernel
theorem dX4_chainOf_23 : decode cX4_chainOf 23 = .ok (.if_icmp .ne 58, 3) := by decide +kernel
theorem dX4_chainOf_26 : decode cX4_chainOf 26 = .ok (.iconst 0, 1) := by decide +kernel
theorem dX4_chainOf_27 : decode cX4_chainOf 27 = .ok (.istore 4, 2) := by decide +kernel
theorem dX4_chainOf_29 : decode cX4_chainOf 29 = .ok (.aload_n 0, 1) := by decide +kernel
theorem dX4_chainOf_30 : decode cX4_chainOf 30 = .ok (.getfield 7, 3) := by decide +kernel
theorem dX4_chainOf_33 : decode cX4_chainOf 33 = .ok (.aload_n 0, 1) := by decide +kernel
theorem dX4_chainOf_34 : decode cX4_chainOf 34 = .ok (.iload_n 3, 1) := by decide +kernel
theorem dX4_chainOf_35 : decode cX4_chainOf 35 = .ok (.iload 4, 2) := by decide +kernel
theorem dX4_chainOf_37 : decode cX4_chainOf 37 = .ok (.invokevirtual 122, 3) := by decide +kernel
theorem dX4_chainOf_40 : decode cX4_chainOf 40 = .ok (.baload, 1) := by decide +kernel
theorem dX4_chainOf_41 : decode cX4_chainOf 41 = .ok (.ifCond .eq 9, 3) := by decide +kernel
theorem dX4_chainOf_44 : decode cX4_chainOf 44 = .ok (.iinc 4 1, 3) := by decide +kernel
theorem dX4_chainOf_47 : decode cX4_chainOf 47 = .ok (.goto (-18), 3) := by decide +kernel
theorem dX4_chainOf_50 : decode cX4_chainOf 50 = .ok (.aload_n 0, 1) := by decide +kernel
theorem dX4_chainOf_51 : decode cX4_chainOf 51 = .ok (.iload_n 3, 1) := by decide +kernel
theorem dX4_chainOf_52 : decode cX4_chainOf 52 = .ok (.iload 4, 2) := by decide +kernel
theorem dX4_chainOf_54 : decode cX4_chainOf 54 = .ok (.invokevirtual 211, 3) := by decide +kernel
theorem dX4_chainOf_57 : decode cX4_chainOf 57 = .ok (.istore 5, 2) := by decide +kernel
theorem dX4_chainOf_59 : decode cX4_chainOf 59 = .ok (.aload_n 0, 1) := by decide +kernel
theorem dX4_chainOf_60 : decode cX4_chainOf 60 = .ok (.getfield 7, 3) := by decide +kernel
theorem dX4_chainOf_63 : decode cX4_chainOf 63 = .ok (.aload_n 0, 1) := by decide +kernel
theorem dX4_chainOf_64 : decode cX4_chainOf 64 = .ok (.iload_n 3, 1) := by decide +kernel
theorem dX4_chainOf_65 : decode cX4_chainOf 65 = .ok (.iload 4, 2) := by decide +kernel
theorem dX4_chainOf_67 : decode cX4_chainOf 67 = .ok (.invokevirtual 122, 3) := by decide +kernel
theorem dX4_chainOf_70 : decode cX4_chainOf 70 = .ok (.iconst 1, 1) := by decide +kernel
theorem dX4_chainOf_71 : decode cX4_chainOf 71 = .ok (.bastore, 1) := by decide +kernel
theorem dX4_chainOf_72 : decode cX4_chainOf 72 = .ok (.iinc 2 1, 3) := by decide +kernel
theorem dX4_chainOf_75 : decode cX4_chainOf 75 = .ok (.iload 5, 2) := by decide +kernel
theorem dX4_chainOf_77 : decode cX4_chainOf 77 = .ok (.istore_n 3, 1) := by decide +kernel
theorem dX4_chainOf_78 : decode cX4_chainOf 78 = .ok (.goto (-66), 3) := by decide +kernel
theorem dX4_chainOf_81 : decode cX4_chainOf 81 = .ok (.aload_n 0, 1) := by decide +kernel
theorem dX4_chainOf_82 : decode cX4_chainOf 82 = .ok (.aload_n 0, 1) := by decide +kernel
theorem dX4_chainOf_83 : decode cX4_chainOf 83 = .ok (.getfield 45, 3) := by decide +kernel
theorem dX4_chainOf_86 : decode cX4_chainOf 86 = .ok (.invokevirtual 193, 3) := by decide +kernel
theorem dX4_chainOf_89 : decode cX4_chainOf 89 = .ok (.iload_n 2, 1) := by decide +kernel
theorem dX4_chainOf_90 : decode cX4_chainOf 90 = .ok (.ireturn, 1) := by decide +kernel
theorem dX4_takes_0 : decode cX4_takes 0 = .ok (.aload_n 0, 1) := by decide +kernel
theorem dX4_takes_1 : decode cX4_takes 1 = .ok (.iconst 1, 1) := by decide +kernel
theorem dX4_takes_2 : decode cX4_takes 2 = .ok (.aload_n 0, 1) := by decide +kernel
theorem dX4_takes_3 : decode cX4_takes 3 = .ok (.getfield 101, 3) := by decide +kernel
theorem dX4_takes_6 : decode cX4_takes 6 = .ok (.isub, 1) := by decide +kernel
theorem dX4_takes_7 : decode cX4_takes 7 = .ok (.putfield 101, 3) := by decide +kernel
theorem dX4_takes_10 : decode cX4_takes 10 = .ok (.aload_n 0, 1) := by decide +kernel
theorem dX4_takes_11 : decode cX4_takes 11 = .ok (.dup, 1) := by decide +kernel
theorem dX4_takes_12 : decode cX4_takes 12 = .ok (.getfield 104, 3) := by decide +kernel
theorem dX4_takes_15 : decode cX4_takes 15 = .ok (.iconst 1, 1) := by decide +kernel
theorem dX4_takes_16 : decode cX4_takes 16 = .ok (.isub, 1) := by decide +kernel
theorem dX4_takes_17 : decode cX4_takes 17 = .ok (.putfield 104, 3) := by decide +kernel
theorem dX4_takes_20 : decode cX4_takes 20 = .ok (.iload_n 1, 1) := by decide +kernel
theorem dX4_takes_21 : decode cX4_takes 21 = .ok (.bipush 100, 2) := by decide +kernel
theorem dX4_takes_23 : decode cX4_takes 23 = .ok (.if_icmp .lt 14, 3) := by decide +kernel
theorem dX4_takes_26 : decode cX4_takes 26 = .ok (.aload_n 0, 1) := by decide +kernel
theorem dX4_takes_27 : decode cX4_takes 27 = .ok (.getfield 13, 3) := by decide +kernel
theorem dX4_takes_30 : decode cX4_takes 30 = .ok (.iload_n 1, 1) := by decide +kernel
theorem dX4_takes_31 : decode cX4_takes 31 = .ok (.bipush 100, 2) := by decide +kernel
theorem dX4_takes_33 : decode cX4_takes 33 = .ok (.isub, 1) := by decide +kernel
theorem dX4_takes_34 : decode cX4_takes 34 = .ok (.iconst 0, 1) := by decide +kernel
theorem dX4_takes_35 : decode cX4_takes 35 = .ok (.bastore, 1) := by decide +kernel
theorem dX4_takes_36 : decode cX4_takes 36 = .ok (.return_, 1) := by decide +kernel
theorem dX4_takes_37 : decode cX4_takes 37 = .ok (.iconst 0, 1) := by decide +kernel
theorem dX4_takes_38 : decode cX4_takes 38 = .ok (.istore_n 2, 1) := by decide +kernel
theorem dX4_takes_39 : decode cX4_takes 39 = .ok (.iload_n 2, 1) := by decide +kernel
theorem dX4_takes_40 : decode cX4_takes 40 = .ok (.iconst 2, 1) := by decide +kernel
theorem dX4_takes_41 : decode cX4_takes 41 = .ok (.if_icmp .ge 37, 3) := by decide +kernel
theorem dX4_takes_44 : decode cX4_takes 44 = .ok (.aload_n 0, 1) := by decide +kernel
theorem dX4_takes_45 : decode cX4_takes 45 = .ok (.iload_n 1, 1) := by decide +kernel
theorem dX4_takes_46 : decode cX4_takes 46 = .ok (.iload_n 2, 1) := by decide +kernel
theorem dX4_takes_47 : decode cX4_takes 47 = .ok (.invokevirtual 119, 3) := by decide +kernel
theorem dX4_takes_50 : decode cX4_takes 50 = .ok (.istore_n 3, 1) := by decide +kernel
theorem dX4_takes_51 : decode cX4_takes 51 = .ok (.iload_n 3, 1) := by decide +kernel
theorem dX4_takes_52 : decode cX4_takes 52 = .ok (.iconst (-1), 1) := by decide +kernel
theorem dX4_takes_53 : decode cX4_takes 53 = .ok (.if_icmp .eq 19, 3) := by decide +kernel
theorem dX4_takes_56 : decode cX4_takes 56 = .ok (.aload_n 0, 1) := by decide +kernel
theorem dX4_takes_57 : decode cX4_takes 57 = .ok (.iload_n 3, 1) := by decide +kernel
theorem dX4_takes_58 : decode cX4_takes 58 = .ok (.invokevirtual 196, 3) := by decide +kernel
theorem dX4_takes_61 : decode cX4_takes 61 = .ok (.iconst 4, 1) := by decide +kernel
theorem dX4_takes_62 : decode cX4_takes 62 = .ok (.if_icmp .ne 10, 3) := by decide +kernel
theorem dX4_takes_65 : decode cX4_takes 65 = .ok (.aload_n 0, 1) := by decide +kernel
theorem dX4_takes_66 : decode cX4_takes 66 = .ok (.getfield 16, 3) := by decide +kernel
theorem dX4_takes_69 : decode cX4_takes 69 = .ok (.iload_n 3, 1) := by decide +kernel
theorem dX4_takes_70 : decode cX4_takes 70 = .ok (.iconst (-1), 1) := by decide +kernel
theorem dX4_takes_71 : decode cX4_takes 71 = .ok (.iastore, 1) := by decide +kernel
theorem dX4_takes_72 : decode cX4_takes 72 = .ok (.iinc 2 1, 3) := by decide +kernel
theorem dX4_takes_75 : decode cX4_takes 75 = .ok (.goto (-36), 3) := by decide +kernel
theorem dX4_takes_78 : decode cX4_takes 78 = .ok (.aload_n 0, 1) := by decide +kernel
theorem dX4_takes_79 : decode cX4_takes 79 = .ok (.getfield 7, 3) := by decide +kernel
theorem dX4_takes_82 : decode cX4_takes 82 = .ok (.iload_n 1, 1) := by decide +kernel
theorem dX4_takes_83 : decode cX4_takes 83 = .ok (.iconst 0, 1) := by decide +kernel
theorem dX4_takes_84 : decode cX4_takes 84 = .ok (.bastore, 1) := by decide +kernel
theorem dX4_takes_85 : decode cX4_takes 85 = .ok (.return_, 1) := by decide +kernel
theorem dX4_search_0 : decode cX4_search 0 = .ok (.iconst (-1), 1) := by decide +kernel
theorem dX4_search_1 : decode cX4_search 1 = .ok (.istore_n 1, 1) := by decide +kernel
theorem dX4_search_2 : decode cX4_search 2 = .ok (.iconst 0, 1) := by decide +kernel
theorem dX4_search_3 : decode cX4_search 3 = .ok (.istore_n 2, 1) := by decide +kernel
theorem dX4_search_4 : decode cX4_search 4 = .ok (.iconst 0, 1) := by decide +kernel
theorem dX4_search_5 : decode cX4_search 5 = .ok (.istore_n 3, 1) := by decide +kernel
theorem dX4_search_6 : decode cX4_search 6 = .ok (.iload_n 3, 1) := by decide +kernel
theorem dX4_search_7 : decode cX4_search 7 = .ok (.bipush 116, 2) := by decide +kernel
theorem dX4_search_9 : decode cX4_search 9 = .ok (.if_icmp .ge 65, 3) := by decide +kernel
theorem dX4_search_12 : decode cX4_search 12 = .ok (.aload_n 0, 1) := by decide +kernel
theorem dX4_search_13 : decode cX4_search 13 = .ok (.iload_n 3, 1) := by decide +kernel
theorem dX4_search_14 : decode cX4_search 14 = .ok (.invokevirtual 173, 3) := by decide +kernel
theorem dX4_search_17 : decode cX4_search 17 = .ok (.ifCond .eq 51, 3) := by decide +kernel
theorem dX4_search_20 : decode cX4_search 20 = .ok (.aload_n 0, 1) := by decide +kernel
theorem dX4_search_21 : decode cX4_search 21 = .ok (.iload_n 3, 1) := by decide +kernel
theorem dX4_search_22 : decode cX4_search 22 = .ok (.invokevirtual 176, 3) := by decide +kernel
theorem dX4_search_25 : decode cX4_search 25 = .ok (.ifCond .ne 6, 3) := by decide +kernel
theorem dX4_search_28 : decode cX4_search 28 = .ok (.goto 40, 3) := by decide +kernel
theorem dX4_search_31 : decode cX4_search 31 = .ok (.aload_n 0, 1) := by decide +kernel
theorem dX4_search_32 : decode cX4_search 32 = .ok (.iload_n 3, 1) := by decide +kernel
theorem dX4_search_33 : decode cX4_search 33 = .ok (.invokevirtual 179, 3) := by decide +kernel
theorem dX4_search_36 : decode cX4_search 36 = .ok (.pop, 1) := by decide +kernel
theorem dX4_search_37 : decode cX4_search 37 = .ok (.aload_n 0, 1) := by decide +kernel
theorem dX4_search_38 : decode cX4_search 38 = .ok (.invokevirtual 235, 3) := by decide +kernel
theorem dX4_search_41 : decode cX4_search 41 = .ok (.ineg, 1) := by decide +kernel
theorem dX4_search_42 : decode cX4_search 42 = .ok (.istore 4, 2) := by decide +kernel
theorem dX4_search_44 : decode cX4_search 44 = .ok (.aload_n 0, 1) := by decide +kernel
theorem dX4_search_45 : decode cX4_search 45 = .ok (.iload_n 3, 1) := by decide +kernel
theorem dX4_search_46 : decode cX4_search 46 = .ok (.invokevirtual 238, 3) := by decide +kernel
theorem dX4_search_49 : decode cX4_search 49 = .ok (.iload_n 1, 1) := by decide +kernel
theorem dX4_search_50 : decode cX4_search 50 = .ok (.iconst (-1), 1) := by decide +kernel
theorem dX4_search_51 : decode cX4_search 51 = .ok (.if_icmp .eq 12, 3) := by decide +kernel
theorem dX4_search_54 : decode cX4_search 54 = .ok (.iload 4, 2) := by decide +kernel
theorem dX4_search_56 : decode cX4_search 56 = .ok (.iload_n 2, 1) := by decide +kernel
theorem dX4_search_57 : decode cX4_search 57 = .ok (.if_icmp .gt 6, 3) := by decide +kernel
theorem dX4_search_60 : decode cX4_search 60 = .ok (.goto 8, 3) := by decide +kernel
theorem dX4_search_63 : decode cX4_search 63 = .ok (.iload_n 3, 1) := by decide +kernel
theorem dX4_search_64 : decode cX4_search 64 = .ok (.istore_n 1, 1) := by decide +kernel
theorem dX4_search_65 : decode cX4_search 65 = .ok (.iload 4, 2) := by decide +kernel
theorem dX4_search_67 : decode cX4_search 67 = .ok (.istore_n 2, 1) := by decide +kernel
theorem dX4_search_68 : decode cX4_search 68 = .ok (.iinc 3 1, 3) := by decide +kernel
theorem dX4_search_71 : decode cX4_search 71 = .ok (.goto (-65), 3) := by decide +kernel
theorem dX4_search_74 : decode cX4_search 74 = .ok (.aload_n 0, 1) := by decide +kernel
theorem dX4_search_75 : decode cX4_search 75 = .ok (.iload_n 1, 1) := by decide +kernel
theorem dX4_search_76 : decode cX4_search 76 = .ok (.putfield 242, 3) := by decide +kernel
theorem dX4_search_79 : decode cX4_search 79 = .ok (.iload_n 1, 1) := by decide +kernel
theorem dX4_search_80 : decode cX4_search 80 = .ok (.iconst (-1), 1) := by decide +kernel
theorem dX4_search_81 : decode cX4_search 81 = .ok (.if_icmp .ne 14, 3) := by decide +kernel
theorem dX4_search_84 : decode cX4_search 84 = .ok (.aload_n 0, 1) := by decide +kernel
theorem dX4_search_85 : decode cX4_search 85 = .ok (.aload_n 0, 1) := by decide +kernel
theorem dX4_search_86 : decode cX4_search 86 = .ok (.getfield 101, 3) := by decide +kernel
theorem dX4_search_89 : decode cX4_search 89 = .ok (.invokevirtual 226, 3) := by decide +kernel
theorem dX4_search_92 : decode cX4_search 92 = .ok (.goto 4, 3) := by decide +kernel
theorem dX4_search_95 : decode cX4_search 95 = .ok (.iload_n 2, 1) := by decide +kernel
theorem dX4_search_96 : decode cX4_search 96 = .ok (.ireturn, 1) := by decide +kernel
theorem dX4_best_0 : decode cX4_best 0 = .ok (.aload_n 0, 1) := by decide +kernel
theorem dX4_best_1 : decode cX4_best 1 = .ok (.invokevirtual 94, 3) := by decide +kernel
theorem dX4_best_4 : decode cX4_best 4 = .ok (.bipush 7, 2) := by decide +kernel
theorem dX4_best_6 : decode cX4_best 6 = .ok (.if_icmp .le 10, 3) := by decide +kernel
theorem dX4_best_9 : decode cX4_best 9 = .ok (.aload_n 0, 1) := by decide +kernel
theorem dX4_best_10 : decode cX4_best 10 = .ok (.bipush (-5), 2) := by decide +kernel
theorem dX4_best_12 : decode cX4_best 12 = .ok (.invokevirtual 56, 3) := by decide +kernel
theorem dX4_best_15 : decode cX4_best 15 = .ok (.ireturn, 1) := by decide +kernel
theorem dX4_best_16 : decode cX4_best 16 = .ok (.aload_n 0, 1) := by decide +kernel
theorem dX4_best_17 : decode cX4_best 17 = .ok (.invokevirtual 235, 3) := by decide +kernel
theorem dX4_best_20 : decode cX4_best 20 = .ok (.pop, 1) := by decide +kernel
theorem dX4_best_21 : decode cX4_best 21 = .ok (.aload_n 0, 1) := by decide +kernel
theorem dX4_best_22 : decode cX4_best 22 = .ok (.getfield 242, 3) := by decide +kernel
theorem dX4_best_25 : decode cX4_best 25 = .ok (.ireturn, 1) := by decide +kernel
theorem dX4_worth_0 : decode cX4_worth 0 = .ok (.aload_n 0, 1) := by decide +kernel
theorem dX4_worth_1 : decode cX4_worth 1 = .ok (.invokevirtual 94, 3) := by decide +kernel
theorem dX4_worth_4 : decode cX4_worth 4 = .ok (.bipush 7, 2) := by decide +kernel
theorem dX4_worth_6 : decode cX4_worth 6 = .ok (.if_icmp .le 12, 3) := by decide +kernel
theorem dX4_worth_9 : decode cX4_worth 9 = .ok (.aload_n 0, 1) := by decide +kernel
theorem dX4_worth_10 : decode cX4_worth 10 = .ok (.bipush (-5), 2) := by decide +kernel
theorem dX4_worth_12 : decode cX4_worth 12 = .ok (.invokevirtual 229, 3) := by decide +kernel
theorem dX4_worth_15 : decode cX4_worth 15 = .ok (.goto 7, 3) := by decide +kernel
theorem dX4_worth_18 : decode cX4_worth 18 = .ok (.aload_n 0, 1) := by decide +kernel
theorem dX4_worth_19 : decode cX4_worth 19 = .ok (.invokevirtual 235, 3) := by decide +kernel
theorem dX4_worth_22 : decode cX4_worth 22 = .ok (.ireturn, 1) := by decide +kernel
theorem dX4_draw_0 : decode cX4_draw 0 = .ok (.aload_n 0, 1) := by decide +kernel
theorem dX4_draw_1 : decode cX4_draw 1 = .ok (.aload_n 0, 1) := by decide +kernel
theorem dX4_draw_2 : decode cX4_draw 2 = .ok (.getfield 48, 3) := by decide +kernel
theorem dX4_draw_5 : decode cX4_draw 5 = .ok (.ldc 245, 2) := by decide +kernel
theorem dX4_draw_7 : decode cX4_draw 7 = .ok (.imul, 1) := by decide +kernel
theorem dX4_draw_8 : decode cX4_draw 8 = .ok (.sipush 12345, 3) := by decide +kernel
theorem dX4_draw_11 : decode cX4_draw 11 = .ok (.iadd, 1) := by decide +kernel
theorem dX4_draw_12 : decode cX4_draw 12 = .ok (.putfield 48, 3) := by decide +kernel
theorem dX4_draw_15 : decode cX4_draw 15 = .ok (.aload_n 0, 1) := by decide +kernel
theorem dX4_draw_16 : decode cX4_draw 16 = .ok (.getfield 48, 3) := by decide +kernel
theorem dX4_draw_19 : decode cX4_draw 19 = .ok (.bipush 16, 2) := by decide +kernel
theorem dX4_draw_21 : decode cX4_draw 21 = .ok (.iushr, 1) := by decide +kernel
theorem dX4_draw_22 : decode cX4_draw 22 = .ok (.iload_n 1, 1) := by decide +kernel
theorem dX4_draw_23 : decode cX4_draw 23 = .ok (.irem, 1) := by decide +kernel
theorem dX4_draw_24 : decode cX4_draw 24 = .ok (.ireturn, 1) := by decide +kernel
theorem dX4_shuts_0 : decode cX4_shuts 0 = .ok (.iconst 0, 1) := by decide +kernel
theorem dX4_shuts_1 : decode cX4_shuts 1 = .ok (.istore_n 1, 1) := by decide +kernel
theorem dX4_shuts_2 : decode cX4_shuts 2 = .ok (.iload_n 1, 1) := by decide +kernel
theorem dX4_shuts_3 : decode cX4_shuts 3 = .ok (.aload_n 0, 1) := by decide +kernel
theorem dX4_shuts_4 : decode cX4_shuts 4 = .ok (.invokevirtual 107, 3) := by decide +kernel
theorem dX4_shuts_7 : decode cX4_shuts 7 = .ok (.if_icmp .ge 60, 3) := by decide +kernel
theorem dX4_shuts_10 : decode cX4_shuts 10 = .ok (.aload_n 0, 1) := by decide +kernel
theorem dX4_shuts_11 : decode cX4_shuts 11 = .ok (.getfield 7, 3) := by decide +kernel
theorem dX4_shuts_14 : decode cX4_shuts 14 = .ok (.iload_n 1, 1) := by decide +kernel
theorem dX4_shuts_15 : decode cX4_shuts 15 = .ok (.baload, 1) := by decide +kernel
theorem dX4_shuts_16 : decode cX4_shuts 16 = .ok (.ifCond .eq 6, 3) := by decide +kernel
theorem dX4_shuts_19 : decode cX4_shuts 19 = .ok (.goto 42, 3) := by decide +kernel
theorem dX4_shuts_22 : decode cX4_shuts 22 = .ok (.iconst 0, 1) := by decide +kernel
theorem dX4_shuts_23 : decode cX4_shuts 23 = .ok (.istore_n 2, 1) := by decide +kernel
theorem dX4_shuts_24 : decode cX4_shuts 24 = .ok (.iload_n 2, 1) := by decide +kernel
theorem dX4_shuts_25 : decode cX4_shuts 25 = .ok (.iconst 2, 1) := by decide +kernel
theorem dX4_shuts_26 : decode cX4_shuts 26 = .ok (.if_icmp .ge 35, 3) := by decide +kernel
theorem dX4_shuts_29 : decode cX4_shuts 29 = .ok (.aload_n 0, 1) := by decide +kernel
theorem dX4_shuts_30 : decode cX4_shuts 30 = .ok (.iload_n 1, 1) := by decide +kernel
theorem dX4_shuts_31 : decode cX4_shuts 31 = .ok (.iload_n 2, 1) := by decide +kernel
theorem dX4_shuts_32 : decode cX4_shuts 32 = .ok (.invokevirtual 119, 3) := by decide +kernel
theorem dX4_shuts_35 : decode cX4_shuts 35 = .ok (.iconst (-1), 1) := by decide +kernel
theorem dX4_shuts_36 : decode cX4_shuts 36 = .ok (.if_icmp .eq 19, 3) := by decide +kernel
theorem dX4_shuts_39 : decode cX4_shuts 39 = .ok (.aload_n 0, 1) := by decide +kernel
theorem dX4_shuts_40 : decode cX4_shuts 40 = .ok (.aload_n 0, 1) := by decide +kernel
theorem dX4_shuts_41 : decode cX4_shuts 41 = .ok (.iload_n 1, 1) := by decide +kernel
theorem dX4_shuts_42 : decode cX4_shuts 42 = .ok (.iload_n 2, 1) := by decide +kernel
theorem dX4_shuts_43 : decode cX4_shuts 43 = .ok (.invokevirtual 119, 3) := by decide +kernel
theorem dX4_shuts_46 : decode cX4_shuts 46 = .ok (.invokevirtual 196, 3) := by decide +kernel
theorem dX4_shuts_49 : decode cX4_shuts 49 = .ok (.iconst 3, 1) := by decide +kernel
theorem dX4_shuts_50 : decode cX4_shuts 50 = .ok (.if_icmp .ne 5, 3) := by decide +kernel
theorem dX4_shuts_53 : decode cX4_shuts 53 = .ok (.iload_n 1, 1) := by decide +kernel
theorem dX4_shuts_54 : decode cX4_shuts 54 = .ok (.ireturn, 1) := by decide +kernel
theorem dX4_shuts_55 : decode cX4_shuts 55 = .ok (.iinc 2 1, 3) := by decide +kernel
theorem dX4_shuts_58 : decode cX4_shuts 58 = .ok (.goto (-34), 3) := by decide +kernel
theorem dX4_shuts_61 : decode cX4_shuts 61 = .ok (.iinc 1 1, 3) := by decide +kernel
theorem dX4_shuts_64 : decode cX4_shuts 64 = .ok (.goto (-62), 3) := by decide +kernel
theorem dX4_shuts_67 : decode cX4_shuts 67 = .ok (.iconst (-1), 1) := by decide +kernel
theorem dX4_shuts_68 : decode cX4_shuts 68 = .ok (.ireturn, 1) := by decide +kernel
theorem dX4_isCalm_0 : decode cX4_isCalm 0 = .ok (.aload_n 0, 1) := by decide +kernel
theorem dX4_isCalm_1 : decode cX4_isCalm 1 = .ok (.getfield 7, 3) := by decide +kernel
theorem dX4_isCalm_4 : decode cX4_isCalm 4 = .ok (.iload_n 1, 1) := by decide +kernel
theorem dX4_isCalm_5 : decode cX4_isCalm 5 = .ok (.baload, 1) := by decide +kernel
theorem dX4_isCalm_6 : decode cX4_isCalm 6 = .ok (.ifCond .eq 5, 3) := by decide +kernel
theorem dX4_isCalm_9 : decode cX4_isCalm 9 = .ok (.iconst 0, 1) := by decide +kernel
theorem dX4_isCalm_10 : decode cX4_isCalm 10 = .ok (.ireturn, 1) := by decide +kernel
theorem dX4_isCalm_11 : decode cX4_isCalm 11 = .ok (.aload_n 0, 1) := by decide +kernel
theorem dX4_isCalm_12 : decode cX4_isCalm 12 = .ok (.getfield 7, 3) := by decide +kernel
theorem dX4_isCalm_15 : decode cX4_isCalm 15 = .ok (.iload_n 1, 1) := by decide +kernel
theorem dX4_isCalm_16 : decode cX4_isCalm 16 = .ok (.iconst 1, 1) := by decide +kernel
theorem dX4_isCalm_17 : decode cX4_isCalm 17 = .ok (.bastore, 1) := by decide +kernel
theorem dX4_isCalm_18 : decode cX4_isCalm 18 = .ok (.aload_n 0, 1) := by decide +kernel
theorem dX4_isCalm_19 : decode cX4_isCalm 19 = .ok (.invokevirtual 246, 3) := by decide +kernel
theorem dX4_isCalm_22 : decode cX4_isCalm 22 = .ok (.ifCond .ne 7, 3) := by decide +kernel
theorem dX4_isCalm_25 : decode cX4_isCalm 25 = .ok (.iconst 1, 1) := by decide +kernel
theorem dX4_isCalm_26 : decode cX4_isCalm 26 = .ok (.goto 4, 3) := by decide +kernel
theorem dX4_isCalm_29 : decode cX4_isCalm 29 = .ok (.iconst 0, 1) := by decide +kernel
theorem dX4_isCalm_30 : decode cX4_isCalm 30 = .ok (.istore_n 2, 1) := by decide +kernel
theorem dX4_isCalm_31 : decode cX4_isCalm 31 = .ok (.aload_n 0, 1) := by decide +kernel
theorem dX4_isCalm_32 : decode cX4_isCalm 32 = .ok (.getfield 7, 3) := by decide +kernel
theorem dX4_isCalm_35 : decode cX4_isCalm 35 = .ok (.iload_n 1, 1) := by decide +kernel
theorem dX4_isCalm_36 : decode cX4_isCalm 36 = .ok (.iconst 0, 1) := by decide +kernel
theorem dX4_isCalm_37 : decode cX4_isCalm 37 = .ok (.bastore, 1) := by decide +kernel
theorem dX4_isCalm_38 : decode cX4_isCalm 38 = .ok (.iload_n 2, 1) := by decide +kernel
theorem dX4_isCalm_39 : decode cX4_isCalm 39 = .ok (.ireturn, 1) := by decide +kernel
theorem dX4_careful_0 : decode cX4_careful 0 = .ok (.iconst 0, 1) := by decide +kernel
theorem dX4_careful_1 : decode cX4_careful 1 = .ok (.istore_n 1, 1) := by decide +kernel
theorem dX4_careful_2 : decode cX4_careful 2 = .ok (.iload_n 1, 1) := by decide +kernel
theorem dX4_careful_3 : decode cX4_careful 3 = .ok (.aload_n 0, 1) := by decide +kernel
theorem dX4_careful_4 : decode cX4_careful 4 = .ok (.invokevirtual 107, 3) := by decide +kernel
theorem dX4_careful_7 : decode cX4_careful 7 = .ok (.if_icmp .ge 19, 3) := by decide +kernel
theorem dX4_careful_10 : decode cX4_careful 10 = .ok (.aload_n 0, 1) := by decide +kernel
theorem dX4_careful_11 : decode cX4_careful 11 = .ok (.iload_n 1, 1) := by decide +kernel
theorem dX4_careful_12 : decode cX4_careful 12 = .ok (.invokevirtual 249, 3) := by decide +kernel
theorem dX4_careful_15 : decode cX4_careful 15 = .ok (.ifCond .eq 5, 3) := by decide +kernel
theorem dX4_careful_18 : decode cX4_careful 18 = .ok (.iload_n 1, 1) := by decide +kernel
theorem dX4_careful_19 : decode cX4_careful 19 = .ok (.ireturn, 1) := by decide +kernel
theorem dX4_careful_20 : decode cX4_careful 20 = .ok (.iinc 1 1, 3) := by decide +kernel
theorem dX4_careful_23 : decode cX4_careful 23 = .ok (.goto (-21), 3) := by decide +kernel
theorem dX4_careful_26 : decode cX4_careful 26 = .ok (.iconst (-1), 1) := by decide +kernel
theorem dX4_careful_27 : decode cX4_careful 27 = .ok (.ireturn, 1) := by decide +kernel
theorem dX4_digs_0 : decode cX4_digs 0 = .ok (.iconst 0, 1) := by decide +kernel
theorem dX4_digs_1 : decode cX4_digs 1 = .ok (.istore_n 3, 1) := by decide +kernel
theorem dX4_digs_2 : decode cX4_digs 2 = .ok (.iconst 0, 1) := by decide +kernel
theorem dX4_digs_3 : decode cX4_digs 3 = .ok (.istore 4, 2) := by decide +kernel
theorem dX4_digs_5 : decode cX4_digs 5 = .ok (.iload 4, 2) := by decide +kernel
theorem dX4_digs_7 : decode cX4_digs 7 = .ok (.aload_n 0, 1) := by decide +kernel
theorem dX4_digs_8 : decode cX4_digs 8 = .ok (.getfield 67, 3) := by decide +kernel
theorem dX4_digs_11 : decode cX4_digs 11 = .ok (.aload_n 0, 1) := by decide +kernel
theorem dX4_digs_12 : decode cX4_digs 12 = .ok (.getfield 70, 3) := by decide +kernel
theorem dX4_digs_15 : decode cX4_digs 15 = .ok (.imul, 1) := by decide +kernel
theorem dX4_digs_16 : decode cX4_digs 16 = .ok (.if_icmp .ge 22, 3) := by decide +kernel
theorem dX4_digs_19 : decode cX4_digs 19 = .ok (.aload_n 0, 1) := by decide +kernel
theorem dX4_digs_20 : decode cX4_digs 20 = .ok (.getfield 13, 3) := by decide +kernel
theorem dX4_digs_23 : decode cX4_digs 23 = .ok (.iload 4, 2) := by decide +kernel
theorem dX4_digs_25 : decode cX4_digs 25 = .ok (.baload, 1) := by decide +kernel
theorem dX4_digs_26 : decode cX4_digs 26 = .ok (.ifCond .eq 6, 3) := by decide +kernel
theorem dX4_digs_29 : decode cX4_digs 29 = .ok (.iinc 3 1, 3) := by decide +kernel
theorem dX4_digs_32 : decode cX4_digs 32 = .ok (.iinc 4 1, 3) := by decide +kernel
theorem dX4_digs_35 : decode cX4_digs 35 = .ok (.goto (-30), 3) := by decide +kernel
theorem dX4_digs_38 : decode cX4_digs 38 = .ok (.iconst 0, 1) := by decide +kernel
theorem dX4_digs_39 : decode cX4_digs 39 = .ok (.istore 4, 2) := by decide +kernel
theorem dX4_digs_41 : decode cX4_digs 41 = .ok (.iload 4, 2) := by decide +kernel
theorem dX4_digs_43 : decode cX4_digs 43 = .ok (.aload_n 0, 1) := by decide +kernel
theorem dX4_digs_44 : decode cX4_digs 44 = .ok (.getfield 67, 3) := by decide +kernel
theorem dX4_digs_47 : decode cX4_digs 47 = .ok (.aload_n 0, 1) := by decide +kernel
theorem dX4_digs_48 : decode cX4_digs 48 = .ok (.getfield 70, 3) := by decide +kernel
theorem dX4_digs_51 : decode cX4_digs 51 = .ok (.imul, 1) := by decide +kernel
theorem dX4_digs_52 : decode cX4_digs 52 = .ok (.if_icmp .ge 45, 3) := by decide +kernel
theorem dX4_digs_55 : decode cX4_digs 55 = .ok (.iload_n 3, 1) := by decide +kernel
theorem dX4_digs_56 : decode cX4_digs 56 = .ok (.iload_n 1, 1) := by decide +kernel
theorem dX4_digs_57 : decode cX4_digs 57 = .ok (.if_icmp .ge 40, 3) := by decide +kernel
theorem dX4_digs_60 : decode cX4_digs 60 = .ok (.aload_n 0, 1) := by decide +kernel
theorem dX4_digs_61 : decode cX4_digs 61 = .ok (.bipush 100, 2) := by decide +kernel
theorem dX4_digs_63 : decode cX4_digs 63 = .ok (.iload 4, 2) := by decide +kernel
theorem dX4_digs_65 : decode cX4_digs 65 = .ok (.iadd, 1) := by decide +kernel
theorem dX4_digs_66 : decode cX4_digs 66 = .ok (.invokevirtual 176, 3) := by decide +kernel
theorem dX4_digs_69 : decode cX4_digs 69 = .ok (.ifCond .eq 22, 3) := by decide +kernel
theorem dX4_digs_72 : decode cX4_digs 72 = .ok (.iload_n 2, 1) := by decide +kernel
theorem dX4_digs_73 : decode cX4_digs 73 = .ok (.ifCond .eq 12, 3) := by decide +kernel
theorem dX4_digs_76 : decode cX4_digs 76 = .ok (.aload_n 0, 1) := by decide +kernel
theorem dX4_digs_77 : decode cX4_digs 77 = .ok (.iload 4, 2) := by decide +kernel
theorem dX4_digs_79 : decode cX4_digs 79 = .ok (.invokevirtual 205, 3) := by decide +kernel
theorem dX4_digs_82 : decode cX4_digs 82 = .ok (.ifCond .eq 9, 3) := by decide +kernel
theorem dX4_digs_85 : decode cX4_digs 85 = .ok (.bipush 100, 2) := by decide +kernel
theorem dX4_digs_87 : decode cX4_digs 87 = .ok (.iload 4, 2) := by decide +kernel
theorem dX4_digs_89 : decode cX4_digs 89 = .ok (.iadd, 1) := by decide +kernel
theorem dX4_digs_90 : decode cX4_digs 90 = .ok (.ireturn, 1) := by decide +kernel
theorem dX4_digs_91 : decode cX4_digs 91 = .ok (.iinc 4 1, 3) := by decide +kernel
theorem dX4_digs_94 : decode cX4_digs 94 = .ok (.goto (-53), 3) := by decide +kernel
theorem dX4_digs_97 : decode cX4_digs 97 = .ok (.iconst (-1), 1) := by decide +kernel
theorem dX4_digs_98 : decode cX4_digs 98 = .ok (.ireturn, 1) := by decide +kernel
theorem dX4_chosen_0 : decode cX4_chosen 0 = .ok (.iconst (-1), 1) := by decide +kernel
theorem dX4_chosen_1 : decode cX4_chosen 1 = .ok (.istore_n 2, 1) := by decide +kernel
theorem dX4_chosen_2 : decode cX4_chosen 2 = .ok (.aload_n 0, 1) := by decide +kernel
theorem dX4_chosen_3 : decode cX4_chosen 3 = .ok (.invokevirtual 94, 3) := by decide +kernel
theorem dX4_chosen_6 : decode cX4_chosen 6 = .ok (.istore_n 3, 1) := by decide +kernel
theorem dX4_chosen_7 : decode cX4_chosen 7 = .ok (.iload_n 3, 1) := by decide +kernel
theorem dX4_chosen_8 : decode cX4_chosen 8 = .ok (.ifCond .ne 5, 3) := by decide +kernel
theorem dX4_chosen_11 : decode cX4_chosen 11 = .ok (.iconst (-1), 1) := by decide +kernel
theorem dX4_chosen_12 : decode cX4_chosen 12 = .ok (.ireturn, 1) := by decide +kernel
theorem dX4_chosen_13 : decode cX4_chosen 13 = .ok (.aload_n 0, 1) := by decide +kernel
theorem dX4_chosen_14 : decode cX4_chosen 14 = .ok (.getfield 20, 3) := by decide +kernel
theorem dX4_chosen_17 : decode cX4_chosen 17 = .ok (.iload_n 1, 1) := by decide +kernel
theorem dX4_chosen_18 : decode cX4_chosen 18 = .ok (.iaload, 1) := by decide +kernel
theorem dX4_chosen_19 : decode cX4_chosen 19 = .ok (.tableswitch 98 1 5 #[33, 41, 70, 41, 88], 33) := by decide +kernel
theorem dX4_chosen_52 : decode cX4_chosen 52 = .ok (.aload_n 0, 1) := by decide +kernel
theorem dX4_chosen_53 : decode cX4_chosen 53 = .ok (.invokevirtual 252, 3) := by decide +kernel
theorem dX4_chosen_56 : decode cX4_chosen 56 = .ok (.istore_n 2, 1) := by decide +kernel
theorem dX4_chosen_57 : decode cX4_chosen 57 = .ok (.goto 60, 3) := by decide +kernel
theorem dX4_chosen_60 : decode cX4_chosen 60 = .ok (.aload_n 0, 1) := by decide +kernel
theorem dX4_chosen_61 : decode cX4_chosen 61 = .ok (.aload_n 0, 1) := by decide +kernel
theorem dX4_chosen_62 : decode cX4_chosen 62 = .ok (.getfield 23, 3) := by decide +kernel
theorem dX4_chosen_65 : decode cX4_chosen 65 = .ok (.iload_n 1, 1) := by decide +kernel
theorem dX4_chosen_66 : decode cX4_chosen 66 = .ok (.iaload, 1) := by decide +kernel
theorem dX4_chosen_67 : decode cX4_chosen 67 = .ok (.aload_n 0, 1) := by decide +kernel
theorem dX4_chosen_68 : decode cX4_chosen 68 = .ok (.getfield 20, 3) := by decide +kernel
theorem dX4_chosen_71 : decode cX4_chosen 71 = .ok (.iload_n 1, 1) := by decide +kernel
theorem dX4_chosen_72 : decode cX4_chosen 72 = .ok (.iaload, 1) := by decide +kernel
theorem dX4_chosen_73 : decode cX4_chosen 73 = .ok (.iconst 4, 1) := by decide +kernel
theorem dX4_chosen_74 : decode cX4_chosen 74 = .ok (.if_icmp .ne 7, 3) := by decide +kernel
theorem dX4_chosen_77 : decode cX4_chosen 77 = .ok (.iconst 1, 1) := by decide +kernel
theorem dX4_chosen_78 : decode cX4_chosen 78 = .ok (.goto 4, 3) := by decide +kernel
theorem dX4_chosen_81 : decode cX4_chosen 81 = .ok (.iconst 0, 1) := by decide +kernel
theorem dX4_chosen_82 : decode cX4_chosen 82 = .ok (.invokevirtual 255, 3) := by decide +kernel
theorem dX4_chosen_85 : decode cX4_chosen 85 = .ok (.istore_n 2, 1) := by decide +kernel
theorem dX4_chosen_86 : decode cX4_chosen 86 = .ok (.goto 31, 3) := by decide +kernel
theorem dX4_chosen_89 : decode cX4_chosen 89 = .ok (.aload_n 0, 1) := by decide +kernel
theorem dX4_chosen_90 : decode cX4_chosen 90 = .ok (.invokevirtual 252, 3) := by decide +kernel
theorem dX4_chosen_93 : decode cX4_chosen 93 = .ok (.istore_n 2, 1) := by decide +kernel
theorem dX4_chosen_94 : decode cX4_chosen 94 = .ok (.iload_n 2, 1) := by decide +kernel
theorem dX4_chosen_95 : decode cX4_chosen 95 = .ok (.iconst (-1), 1) := by decide +kernel
theorem dX4_chosen_96 : decode cX4_chosen 96 = .ok (.if_icmp .ne 21, 3) := by decide +kernel
theorem dX4_chosen_99 : decode cX4_chosen 99 = .ok (.aload_n 0, 1) := by decide +kernel
theorem dX4_chosen_100 : decode cX4_chosen 100 = .ok (.invokevirtual 259, 3) := by decide +kernel
theorem dX4_chosen_103 : decode cX4_chosen 103 = .ok (.istore_n 2, 1) := by decide +kernel
theorem dX4_chosen_104 : decode cX4_chosen 104 = .ok (.goto 13, 3) := by decide +kernel
theorem dX4_chosen_107 : decode cX4_chosen 107 = .ok (.aload_n 0, 1) := by decide +kernel
theorem dX4_chosen_108 : decode cX4_chosen 108 = .ok (.aload_n 0, 1) := by decide +kernel
theorem dX4_chosen_109 : decode cX4_chosen 109 = .ok (.iload_n 3, 1) := by decide +kernel
theorem dX4_chosen_110 : decode cX4_chosen 110 = .ok (.invokevirtual 262, 3) := by decide +kernel
theorem dX4_chosen_113 : decode cX4_chosen 113 = .ok (.invokevirtual 208, 3) := by decide +kernel
theorem dX4_chosen_116 : decode cX4_chosen 116 = .ok (.ireturn, 1) := by decide +kernel
theorem dX4_chosen_117 : decode cX4_chosen 117 = .ok (.iload_n 2, 1) := by decide +kernel
theorem dX4_chosen_118 : decode cX4_chosen 118 = .ok (.iconst (-1), 1) := by decide +kernel
theorem dX4_chosen_119 : decode cX4_chosen 119 = .ok (.if_icmp .ne 11, 3) := by decide +kernel
theorem dX4_chosen_122 : decode cX4_chosen 122 = .ok (.aload_n 0, 1) := by decide +kernel
theorem dX4_chosen_123 : decode cX4_chosen 123 = .ok (.iconst 0, 1) := by decide +kernel
theorem dX4_chosen_124 : decode cX4_chosen 124 = .ok (.invokevirtual 208, 3) := by decide +kernel
theorem dX4_chosen_127 : decode cX4_chosen 127 = .ok (.goto 4, 3) := by decide +kernel
theorem dX4_chosen_130 : decode cX4_chosen 130 = .ok (.iload_n 2, 1) := by decide +kernel
theorem dX4_chosen_131 : decode cX4_chosen 131 = .ok (.ireturn, 1) := by decide +kernel
theorem dX4_choiceOf_0 : decode cX4_choiceOf 0 = .ok (.aload_n 0, 1) := by decide +kernel
theorem dX4_choiceOf_1 : decode cX4_choiceOf 1 = .ok (.getfield 48, 3) := by decide +kernel
theorem dX4_choiceOf_4 : decode cX4_choiceOf 4 = .ok (.istore_n 2, 1) := by decide +kernel
theorem dX4_choiceOf_5 : decode cX4_choiceOf 5 = .ok (.aload_n 0, 1) := by decide +kernel
theorem dX4_choiceOf_6 : decode cX4_choiceOf 6 = .ok (.iload_n 1, 1) := by decide +kernel
theorem dX4_choiceOf_7 : decode cX4_choiceOf 7 = .ok (.invokevirtual 265, 3) := by decide +kernel
theorem dX4_choiceOf_10 : decode cX4_choiceOf 10 = .ok (.istore_n 3, 1) := by decide +kernel
theorem dX4_choiceOf_11 : decode cX4_choiceOf 11 = .ok (.aload_n 0, 1) := by decide +kernel
theorem dX4_choiceOf_12 : decode cX4_choiceOf 12 = .ok (.iload_n 2, 1) := by decide +kernel
theorem dX4_choiceOf_13 : decode cX4_choiceOf 13 = .ok (.putfield 48, 3) := by decide +kernel
theorem dX4_choiceOf_16 : decode cX4_choiceOf 16 = .ok (.iload_n 3, 1) := by decide +kernel
theorem dX4_choiceOf_17 : decode cX4_choiceOf 17 = .ok (.ireturn, 1) := by decide +kernel
theorem dX4_choice_0 : decode cX4_choice 0 = .ok (.aload_n 0, 1) := by decide +kernel
theorem dX4_choice_1 : decode cX4_choice 1 = .ok (.iload_n 1, 1) := by decide +kernel
theorem dX4_choice_2 : decode cX4_choice 2 = .ok (.invokevirtual 87, 3) := by decide +kernel
theorem dX4_choice_5 : decode cX4_choice 5 = .ok (.ifCond .eq 11, 3) := by decide +kernel
theorem dX4_choice_8 : decode cX4_choice 8 = .ok (.aload_n 0, 1) := by decide +kernel
theorem dX4_choice_9 : decode cX4_choice 9 = .ok (.iload_n 1, 1) := by decide +kernel
theorem dX4_choice_10 : decode cX4_choice 10 = .ok (.invokevirtual 98, 3) := by decide +kernel
theorem dX4_choice_13 : decode cX4_choice 13 = .ok (.goto 9, 3) := by decide +kernel
theorem dX4_choice_16 : decode cX4_choice 16 = .ok (.aload_n 0, 1) := by decide +kernel
theorem dX4_choice_17 : decode cX4_choice 17 = .ok (.bipush (-2), 2) := by decide +kernel
theorem dX4_choice_19 : decode cX4_choice 19 = .ok (.invokevirtual 56, 3) := by decide +kernel
theorem dX4_choice_22 : decode cX4_choice 22 = .ok (.ireturn, 1) := by decide +kernel
theorem dX4_plays_0 : decode cX4_plays 0 = .ok (.aload_n 0, 1) := by decide +kernel
theorem dX4_plays_1 : decode cX4_plays 1 = .ok (.iload_n 1, 1) := by decide +kernel
theorem dX4_plays_2 : decode cX4_plays 2 = .ok (.invokevirtual 265, 3) := by decide +kernel
theorem dX4_plays_5 : decode cX4_plays 5 = .ok (.istore_n 3, 1) := by decide +kernel
theorem dX4_plays_6 : decode cX4_plays 6 = .ok (.iload_n 3, 1) := by decide +kernel
theorem dX4_plays_7 : decode cX4_plays 7 = .ok (.istore 4, 2) := by decide +kernel
theorem dX4_plays_9 : decode cX4_plays 9 = .ok (.iconst 1, 1) := by decide +kernel
theorem dX4_plays_10 : decode cX4_plays 10 = .ok (.istore 5, 2) := by decide +kernel
theorem dX4_plays_12 : decode cX4_plays 12 = .ok (.iload_n 3, 1) := by decide +kernel
theorem dX4_plays_13 : decode cX4_plays 13 = .ok (.iconst (-1), 1) := by decide +kernel
theorem dX4_plays_14 : decode cX4_plays 14 = .ok (.if_icmp .eq 32, 3) := by decide +kernel
theorem dX4_plays_17 : decode cX4_plays 17 = .ok (.aload_n 0, 1) := by decide +kernel
theorem dX4_plays_18 : decode cX4_plays 18 = .ok (.iload_n 3, 1) := by decide +kernel
theorem dX4_plays_19 : decode cX4_plays 19 = .ok (.invokevirtual 179, 3) := by decide +kernel
theorem dX4_plays_22 : decode cX4_plays 22 = .ok (.pop, 1) := by decide +kernel
theorem dX4_plays_23 : decode cX4_plays 23 = .ok (.aload_n 0, 1) := by decide +kernel
theorem dX4_plays_24 : decode cX4_plays 24 = .ok (.iload 5, 2) := by decide +kernel
theorem dX4_plays_26 : decode cX4_plays 26 = .ok (.iconst 2, 1) := by decide +kernel
theorem dX4_plays_27 : decode cX4_plays 27 = .ok (.irem, 1) := by decide +kernel
theorem dX4_plays_28 : decode cX4_plays 28 = .ok (.ifCond .ne 7, 3) := by decide +kernel
theorem dX4_plays_31 : decode cX4_plays 31 = .ok (.iload_n 1, 1) := by decide +kernel
theorem dX4_plays_32 : decode cX4_plays 32 = .ok (.goto 4, 3) := by decide +kernel
theorem dX4_plays_35 : decode cX4_plays 35 = .ok (.iload_n 2, 1) := by decide +kernel
theorem dX4_plays_36 : decode cX4_plays 36 = .ok (.invokevirtual 265, 3) := by decide +kernel
theorem dX4_plays_39 : decode cX4_plays 39 = .ok (.istore_n 3, 1) := by decide +kernel
theorem dX4_plays_40 : decode cX4_plays 40 = .ok (.iinc 5 1, 3) := by decide +kernel
theorem dX4_plays_43 : decode cX4_plays 43 = .ok (.goto (-31), 3) := by decide +kernel
theorem dX4_plays_46 : decode cX4_plays 46 = .ok (.iload 4, 2) := by decide +kernel
theorem dX4_plays_48 : decode cX4_plays 48 = .ok (.ireturn, 1) := by decide +kernel
theorem dX4_leadPlayed_0 : decode cX4_leadPlayed 0 = .ok (.aload_n 0, 1) := by decide +kernel
theorem dX4_leadPlayed_1 : decode cX4_leadPlayed 1 = .ok (.aload_n 0, 1) := by decide +kernel
theorem dX4_leadPlayed_2 : decode cX4_leadPlayed 2 = .ok (.getfield 45, 3) := by decide +kernel
theorem dX4_leadPlayed_5 : decode cX4_leadPlayed 5 = .ok (.invokevirtual 185, 3) := by decide +kernel
theorem dX4_leadPlayed_8 : decode cX4_leadPlayed 8 = .ok (.aload_n 0, 1) := by decide +kernel
theorem dX4_leadPlayed_9 : decode cX4_leadPlayed 9 = .ok (.iload_n 1, 1) := by decide +kernel
theorem dX4_leadPlayed_10 : decode cX4_leadPlayed 10 = .ok (.iload_n 2, 1) := by decide +kernel
theorem dX4_leadPlayed_11 : decode cX4_leadPlayed 11 = .ok (.invokevirtual 268, 3) := by decide +kernel
theorem dX4_leadPlayed_14 : decode cX4_leadPlayed 14 = .ok (.pop, 1) := by decide +kernel
theorem dX4_leadPlayed_15 : decode cX4_leadPlayed 15 = .ok (.aload_n 0, 1) := by decide +kernel
theorem dX4_leadPlayed_16 : decode cX4_leadPlayed 16 = .ok (.iconst 0, 1) := by decide +kernel
theorem dX4_leadPlayed_17 : decode cX4_leadPlayed 17 = .ok (.invokevirtual 226, 3) := by decide +kernel
theorem dX4_leadPlayed_20 : decode cX4_leadPlayed 20 = .ok (.istore_n 3, 1) := by decide +kernel
theorem dX4_leadPlayed_21 : decode cX4_leadPlayed 21 = .ok (.aload_n 0, 1) := by decide +kernel
theorem dX4_leadPlayed_22 : decode cX4_leadPlayed 22 = .ok (.aload_n 0, 1) := by decide +kernel
theorem dX4_leadPlayed_23 : decode cX4_leadPlayed 23 = .ok (.getfield 45, 3) := by decide +kernel
theorem dX4_leadPlayed_26 : decode cX4_leadPlayed 26 = .ok (.invokevirtual 193, 3) := by decide +kernel
theorem dX4_leadPlayed_29 : decode cX4_leadPlayed 29 = .ok (.iload_n 3, 1) := by decide +kernel
theorem dX4_leadPlayed_30 : decode cX4_leadPlayed 30 = .ok (.ireturn, 1) := by decide +kernel
theorem dX4_played_0 : decode cX4_played 0 = .ok (.aload_n 0, 1) := by decide +kernel
theorem dX4_played_1 : decode cX4_played 1 = .ok (.iload_n 1, 1) := by decide +kernel
theorem dX4_played_2 : decode cX4_played 2 = .ok (.invokevirtual 87, 3) := by decide +kernel
theorem dX4_played_5 : decode cX4_played 5 = .ok (.ifCond .eq 20, 3) := by decide +kernel
theorem dX4_played_8 : decode cX4_played 8 = .ok (.aload_n 0, 1) := by decide +kernel
theorem dX4_played_9 : decode cX4_played 9 = .ok (.iload_n 2, 1) := by decide +kernel
theorem dX4_played_10 : decode cX4_played 10 = .ok (.invokevirtual 87, 3) := by decide +kernel
theorem dX4_played_13 : decode cX4_played 13 = .ok (.ifCond .eq 12, 3) := by decide +kernel
theorem dX4_played_16 : decode cX4_played 16 = .ok (.iload_n 3, 1) := by decide +kernel
theorem dX4_played_17 : decode cX4_played 17 = .ok (.iconst 0, 1) := by decide +kernel
theorem dX4_played_18 : decode cX4_played 18 = .ok (.iconst 2, 1) := by decide +kernel
theorem dX4_played_19 : decode cX4_played 19 = .ok (.invokestatic 63, 3) := by decide +kernel
theorem dX4_played_22 : decode cX4_played 22 = .ok (.ifCond .ne 10, 3) := by decide +kernel
theorem dX4_played_25 : decode cX4_played 25 = .ok (.aload_n 0, 1) := by decide +kernel
theorem dX4_played_26 : decode cX4_played 26 = .ok (.bipush (-2), 2) := by decide +kernel
theorem dX4_played_28 : decode cX4_played 28 = .ok (.invokevirtual 229, 3) := by decide +kernel
theorem dX4_played_31 : decode cX4_played 31 = .ok (.ireturn, 1) := by decide +kernel
theorem dX4_played_32 : decode cX4_played 32 = .ok (.aload_n 0, 1) := by decide +kernel
theorem dX4_played_33 : decode cX4_played 33 = .ok (.aload_n 0, 1) := by decide +kernel
theorem dX4_played_34 : decode cX4_played 34 = .ok (.getfield 45, 3) := by decide +kernel
theorem dX4_played_37 : decode cX4_played 37 = .ok (.invokevirtual 185, 3) := by decide +kernel
theorem dX4_played_40 : decode cX4_played 40 = .ok (.aload_n 0, 1) := by decide +kernel
theorem dX4_played_41 : decode cX4_played 41 = .ok (.getfield 104, 3) := by decide +kernel
theorem dX4_played_44 : decode cX4_played 44 = .ok (.istore 4, 2) := by decide +kernel
theorem dX4_played_46 : decode cX4_played 46 = .ok (.aload_n 0, 1) := by decide +kernel
theorem dX4_played_47 : decode cX4_played 47 = .ok (.iload_n 1, 1) := by decide +kernel
theorem dX4_played_48 : decode cX4_played 48 = .ok (.iload_n 2, 1) := by decide +kernel
theorem dX4_played_49 : decode cX4_played 49 = .ok (.invokevirtual 268, 3) := by decide +kernel
theorem dX4_played_52 : decode cX4_played 52 = .ok (.istore 5, 2) := by decide +kernel
theorem dX4_played_54 : decode cX4_played 54 = .ok (.aload_n 0, 1) := by decide +kernel
theorem dX4_played_55 : decode cX4_played 55 = .ok (.getfield 104, 3) := by decide +kernel
theorem dX4_played_58 : decode cX4_played 58 = .ok (.iload 4, 2) := by decide +kernel
theorem dX4_played_60 : decode cX4_played 60 = .ok (.isub, 1) := by decide +kernel
theorem dX4_played_61 : decode cX4_played 61 = .ok (.istore 6, 2) := by decide +kernel
theorem dX4_played_63 : decode cX4_played 63 = .ok (.aload_n 0, 1) := by decide +kernel
theorem dX4_played_64 : decode cX4_played 64 = .ok (.iconst 0, 1) := by decide +kernel
theorem dX4_played_65 : decode cX4_played 65 = .ok (.invokevirtual 226, 3) := by decide +kernel
theorem dX4_played_68 : decode cX4_played 68 = .ok (.istore 7, 2) := by decide +kernel
theorem dX4_played_70 : decode cX4_played 70 = .ok (.aload_n 0, 1) := by decide +kernel
theorem dX4_played_71 : decode cX4_played 71 = .ok (.aload_n 0, 1) := by decide +kernel
theorem dX4_played_72 : decode cX4_played 72 = .ok (.getfield 45, 3) := by decide +kernel
theorem dX4_played_75 : decode cX4_played 75 = .ok (.invokevirtual 193, 3) := by decide +kernel
theorem dX4_played_78 : decode cX4_played 78 = .ok (.iload_n 3, 1) := by decide +kernel
theorem dX4_played_79 : decode cX4_played 79 = .ok (.ifCond .ne 8, 3) := by decide +kernel
theorem dX4_played_82 : decode cX4_played 82 = .ok (.iload 6, 2) := by decide +kernel
theorem dX4_played_84 : decode cX4_played 84 = .ok (.goto 15, 3) := by decide +kernel
theorem dX4_played_87 : decode cX4_played 87 = .ok (.iload_n 3, 1) := by decide +kernel
theorem dX4_played_88 : decode cX4_played 88 = .ok (.iconst 1, 1) := by decide +kernel
theorem dX4_played_89 : decode cX4_played 89 = .ok (.if_icmp .ne 8, 3) := by decide +kernel
theorem dX4_played_92 : decode cX4_played 92 = .ok (.iload 7, 2) := by decide +kernel
theorem dX4_played_94 : decode cX4_played 94 = .ok (.goto 5, 3) := by decide +kernel
theorem dX4_played_97 : decode cX4_played 97 = .ok (.iload 5, 2) := by decide +kernel
theorem dX4_played_99 : decode cX4_played 99 = .ok (.ireturn, 1) := by decide +kernel
theorem dX4_turned_0 : decode cX4_turned 0 = .ok (.iload_n 2, 1) := by decide +kernel
theorem dX4_turned_1 : decode cX4_turned 1 = .ok (.iconst 4, 1) := by decide +kernel
theorem dX4_turned_2 : decode cX4_turned 2 = .ok (.if_icmp .ge 12, 3) := by decide +kernel
theorem dX4_turned_5 : decode cX4_turned 5 = .ok (.iload_n 1, 1) := by decide +kernel
theorem dX4_turned_6 : decode cX4_turned 6 = .ok (.aload_n 0, 1) := by decide +kernel
theorem dX4_turned_7 : decode cX4_turned 7 = .ok (.getfield 67, 3) := by decide +kernel
theorem dX4_turned_10 : decode cX4_turned 10 = .ok (.idiv, 1) := by decide +kernel
theorem dX4_turned_11 : decode cX4_turned 11 = .ok (.goto 9, 3) := by decide +kernel
theorem dX4_turned_14 : decode cX4_turned 14 = .ok (.iload_n 1, 1) := by decide +kernel
theorem dX4_turned_15 : decode cX4_turned 15 = .ok (.aload_n 0, 1) := by decide +kernel
theorem dX4_turned_16 : decode cX4_turned 16 = .ok (.getfield 67, 3) := by decide +kernel
theorem dX4_turned_19 : decode cX4_turned 19 = .ok (.irem, 1) := by decide +kernel
theorem dX4_turned_20 : decode cX4_turned 20 = .ok (.istore_n 3, 1) := by decide +kernel
theorem dX4_turned_21 : decode cX4_turned 21 = .ok (.iload_n 2, 1) := by decide +kernel
theorem dX4_turned_22 : decode cX4_turned 22 = .ok (.iconst 4, 1) := by decide +kernel
theorem dX4_turned_23 : decode cX4_turned 23 = .ok (.if_icmp .ge 12, 3) := by decide +kernel
theorem dX4_turned_26 : decode cX4_turned 26 = .ok (.iload_n 1, 1) := by decide +kernel
theorem dX4_turned_27 : decode cX4_turned 27 = .ok (.aload_n 0, 1) := by decide +kernel
theorem dX4_turned_28 : decode cX4_turned 28 = .ok (.getfield 67, 3) := by decide +kernel
theorem dX4_turned_31 : decode cX4_turned 31 = .ok (.irem, 1) := by decide +kernel
theorem dX4_turned_32 : decode cX4_turned 32 = .ok (.goto 9, 3) := by decide +kernel
theorem dX4_turned_35 : decode cX4_turned 35 = .ok (.iload_n 1, 1) := by decide +kernel
theorem dX4_turned_36 : decode cX4_turned 36 = .ok (.aload_n 0, 1) := by decide +kernel
theorem dX4_turned_37 : decode cX4_turned 37 = .ok (.getfield 67, 3) := by decide +kernel
theorem dX4_turned_40 : decode cX4_turned 40 = .ok (.idiv, 1) := by decide +kernel
theorem dX4_turned_41 : decode cX4_turned 41 = .ok (.istore 4, 2) := by decide +kernel
theorem dX4_turned_43 : decode cX4_turned 43 = .ok (.iload_n 2, 1) := by decide +kernel
theorem dX4_turned_44 : decode cX4_turned 44 = .ok (.iconst 2, 1) := by decide +kernel
theorem dX4_turned_45 : decode cX4_turned 45 = .ok (.irem, 1) := by decide +kernel
theorem dX4_turned_46 : decode cX4_turned 46 = .ok (.iconst 1, 1) := by decide +kernel
theorem dX4_turned_47 : decode cX4_turned 47 = .ok (.if_icmp .ne 14, 3) := by decide +kernel
theorem dX4_turned_50 : decode cX4_turned 50 = .ok (.aload_n 0, 1) := by decide +kernel
theorem dX4_turned_51 : decode cX4_turned 51 = .ok (.getfield 67, 3) := by decide +kernel
theorem dX4_turned_54 : decode cX4_turned 54 = .ok (.iconst 1, 1) := by decide +kernel
theorem dX4_turned_55 : decode cX4_turned 55 = .ok (.isub, 1) := by decide +kernel
theorem dX4_turned_56 : decode cX4_turned 56 = .ok (.iload 4, 2) := by decide +kernel
theorem dX4_turned_58 : decode cX4_turned 58 = .ok (.isub, 1) := by decide +kernel
theorem dX4_turned_59 : decode cX4_turned 59 = .ok (.istore 4, 2) := by decide +kernel
theorem dX4_turned_61 : decode cX4_turned 61 = .ok (.iload_n 2, 1) := by decide +kernel
theorem dX4_turned_62 : decode cX4_turned 62 = .ok (.iconst 2, 1) := by decide +kernel
theorem dX4_turned_63 : decode cX4_turned 63 = .ok (.idiv, 1) := by decide +kernel
theorem dX4_turned_64 : decode cX4_turned 64 = .ok (.iconst 2, 1) := by decide +kernel
theorem dX4_turned_65 : decode cX4_turned 65 = .ok (.irem, 1) := by decide +kernel
theorem dX4_turned_66 : decode cX4_turned 66 = .ok (.iconst 1, 1) := by decide +kernel
theorem dX4_turned_67 : decode cX4_turned 67 = .ok (.if_icmp .ne 12, 3) := by decide +kernel
theorem dX4_turned_70 : decode cX4_turned 70 = .ok (.aload_n 0, 1) := by decide +kernel
theorem dX4_turned_71 : decode cX4_turned 71 = .ok (.getfield 70, 3) := by decide +kernel
theorem dX4_turned_74 : decode cX4_turned 74 = .ok (.iconst 1, 1) := by decide +kernel
theorem dX4_turned_75 : decode cX4_turned 75 = .ok (.isub, 1) := by decide +kernel
theorem dX4_turned_76 : decode cX4_turned 76 = .ok (.iload_n 3, 1) := by decide +kernel
theorem dX4_turned_77 : decode cX4_turned 77 = .ok (.isub, 1) := by decide +kernel
theorem dX4_turned_78 : decode cX4_turned 78 = .ok (.istore_n 3, 1) := by decide +kernel
theorem dX4_turned_79 : decode cX4_turned 79 = .ok (.iload_n 3, 1) := by decide +kernel
theorem dX4_turned_80 : decode cX4_turned 80 = .ok (.aload_n 0, 1) := by decide +kernel
theorem dX4_turned_81 : decode cX4_turned 81 = .ok (.getfield 67, 3) := by decide +kernel
theorem dX4_turned_84 : decode cX4_turned 84 = .ok (.imul, 1) := by decide +kernel
theorem dX4_turned_85 : decode cX4_turned 85 = .ok (.iload 4, 2) := by decide +kernel
theorem dX4_turned_87 : decode cX4_turned 87 = .ok (.iadd, 1) := by decide +kernel
theorem dX4_turned_88 : decode cX4_turned 88 = .ok (.ireturn, 1) := by decide +kernel
theorem dX4_turnedSide_0 : decode cX4_turnedSide 0 = .ok (.iload_n 1, 1) := by decide +kernel
theorem dX4_turnedSide_1 : decode cX4_turnedSide 1 = .ok (.iconst 4, 1) := by decide +kernel
theorem dX4_turnedSide_2 : decode cX4_turnedSide 2 = .ok (.if_icmp .ge 7, 3) := by decide +kernel
theorem dX4_turnedSide_5 : decode cX4_turnedSide 5 = .ok (.iload_n 0, 1) := by decide +kernel
theorem dX4_turnedSide_6 : decode cX4_turnedSide 6 = .ok (.goto 8, 3) := by decide +kernel
theorem dX4_turnedSide_9 : decode cX4_turnedSide 9 = .ok (.iload_n 0, 1) := by decide +kernel
theorem dX4_turnedSide_10 : decode cX4_turnedSide 10 = .ok (.iconst 2, 1) := by decide +kernel
theorem dX4_turnedSide_11 : decode cX4_turnedSide 11 = .ok (.iadd, 1) := by decide +kernel
theorem dX4_turnedSide_12 : decode cX4_turnedSide 12 = .ok (.iconst 4, 1) := by decide +kernel
theorem dX4_turnedSide_13 : decode cX4_turnedSide 13 = .ok (.irem, 1) := by decide +kernel
theorem dX4_turnedSide_14 : decode cX4_turnedSide 14 = .ok (.istore_n 2, 1) := by decide +kernel
theorem dX4_turnedSide_15 : decode cX4_turnedSide 15 = .ok (.iload_n 2, 1) := by decide +kernel
theorem dX4_turnedSide_16 : decode cX4_turnedSide 16 = .ok (.iconst 1, 1) := by decide +kernel
theorem dX4_turnedSide_17 : decode cX4_turnedSide 17 = .ok (.if_icmp .le 14, 3) := by decide +kernel
theorem dX4_turnedSide_20 : decode cX4_turnedSide 20 = .ok (.iload_n 1, 1) := by decide +kernel
theorem dX4_turnedSide_21 : decode cX4_turnedSide 21 = .ok (.iconst 2, 1) := by decide +kernel
theorem dX4_turnedSide_22 : decode cX4_turnedSide 22 = .ok (.irem, 1) := by decide +kernel
theorem dX4_turnedSide_23 : decode cX4_turnedSide 23 = .ok (.iconst 1, 1) := by decide +kernel
theorem dX4_turnedSide_24 : decode cX4_turnedSide 24 = .ok (.if_icmp .ne 7, 3) := by decide +kernel
theorem dX4_turnedSide_27 : decode cX4_turnedSide 27 = .ok (.iconst 5, 1) := by decide +kernel
theorem dX4_turnedSide_28 : decode cX4_turnedSide 28 = .ok (.iload_n 2, 1) := by decide +kernel
theorem dX4_turnedSide_29 : decode cX4_turnedSide 29 = .ok (.isub, 1) := by decide +kernel
theorem dX4_turnedSide_30 : decode cX4_turnedSide 30 = .ok (.ireturn, 1) := by decide +kernel
theorem dX4_turnedSide_31 : decode cX4_turnedSide 31 = .ok (.iload_n 2, 1) := by decide +kernel
theorem dX4_turnedSide_32 : decode cX4_turnedSide 32 = .ok (.iconst 2, 1) := by decide +kernel
theorem dX4_turnedSide_33 : decode cX4_turnedSide 33 = .ok (.if_icmp .ge 16, 3) := by decide +kernel
theorem dX4_turnedSide_36 : decode cX4_turnedSide 36 = .ok (.iload_n 1, 1) := by decide +kernel
theorem dX4_turnedSide_37 : decode cX4_turnedSide 37 = .ok (.iconst 2, 1) := by decide +kernel
theorem dX4_turnedSide_38 : decode cX4_turnedSide 38 = .ok (.idiv, 1) := by decide +kernel
theorem dX4_turnedSide_39 : decode cX4_turnedSide 39 = .ok (.iconst 2, 1) := by decide +kernel
theorem dX4_turnedSide_40 : decode cX4_turnedSide 40 = .ok (.irem, 1) := by decide +kernel
theorem dX4_turnedSide_41 : decode cX4_turnedSide 41 = .ok (.iconst 1, 1) := by decide +kernel
theorem dX4_turnedSide_42 : decode cX4_turnedSide 42 = .ok (.if_icmp .ne 7, 3) := by decide +kernel
theorem dX4_turnedSide_45 : decode cX4_turnedSide 45 = .ok (.iconst 1, 1) := by decide +kernel
theorem dX4_turnedSide_46 : decode cX4_turnedSide 46 = .ok (.iload_n 2, 1) := by decide +kernel
theorem dX4_turnedSide_47 : decode cX4_turnedSide 47 = .ok (.isub, 1) := by decide +kernel
theorem dX4_turnedSide_48 : decode cX4_turnedSide 48 = .ok (.ireturn, 1) := by decide +kernel
theorem dX4_turnedSide_49 : decode cX4_turnedSide 49 = .ok (.iload_n 2, 1) := by decide +kernel
theorem dX4_turnedSide_50 : decode cX4_turnedSide 50 = .ok (.ireturn, 1) := by decide +kernel
theorem dX4_isAlike_0 : decode cX4_isAlike 0 = .ok (.iconst 0, 1) := by decide +kernel
theorem dX4_isAlike_1 : decode cX4_isAlike 1 = .ok (.istore_n 2, 1) := by decide +kernel
theorem dX4_isAlike_2 : decode cX4_isAlike 2 = .ok (.iload_n 2, 1) := by decide +kernel
theorem dX4_isAlike_3 : decode cX4_isAlike 3 = .ok (.aload_n 0, 1) := by decide +kernel
theorem dX4_isAlike_4 : decode cX4_isAlike 4 = .ok (.getfield 67, 3) := by decide +kernel
theorem dX4_isAlike_7 : decode cX4_isAlike 7 = .ok (.aload_n 0, 1) := by decide +kernel
theorem dX4_isAlike_8 : decode cX4_isAlike 8 = .ok (.getfield 70, 3) := by decide +kernel
theorem dX4_isAlike_11 : decode cX4_isAlike 11 = .ok (.imul, 1) := by decide +kernel
theorem dX4_isAlike_12 : decode cX4_isAlike 12 = .ok (.if_icmp .ge 96, 3) := by decide +kernel
theorem dX4_isAlike_15 : decode cX4_isAlike 15 = .ok (.aload_n 0, 1) := by decide +kernel
theorem dX4_isAlike_16 : decode cX4_isAlike 16 = .ok (.iload_n 2, 1) := by decide +kernel
theorem dX4_isAlike_17 : decode cX4_isAlike 17 = .ok (.iload_n 1, 1) := by decide +kernel
theorem dX4_isAlike_18 : decode cX4_isAlike 18 = .ok (.invokevirtual 271, 3) := by decide +kernel
theorem dX4_isAlike_21 : decode cX4_isAlike 21 = .ok (.istore_n 3, 1) := by decide +kernel
theorem dX4_isAlike_22 : decode cX4_isAlike 22 = .ok (.aload_n 0, 1) := by decide +kernel
theorem dX4_isAlike_23 : decode cX4_isAlike 23 = .ok (.getfield 13, 3) := by decide +kernel
theorem dX4_isAlike_26 : decode cX4_isAlike 26 = .ok (.iload_n 2, 1) := by decide +kernel
theorem dX4_isAlike_27 : decode cX4_isAlike 27 = .ok (.baload, 1) := by decide +kernel
theorem dX4_isAlike_28 : decode cX4_isAlike 28 = .ok (.aload_n 0, 1) := by decide +kernel
theorem dX4_isAlike_29 : decode cX4_isAlike 29 = .ok (.getfield 13, 3) := by decide +kernel
theorem dX4_isAlike_32 : decode cX4_isAlike 32 = .ok (.iload_n 3, 1) := by decide +kernel
theorem dX4_isAlike_33 : decode cX4_isAlike 33 = .ok (.baload, 1) := by decide +kernel
theorem dX4_isAlike_34 : decode cX4_isAlike 34 = .ok (.if_icmp .ne 18, 3) := by decide +kernel
theorem dX4_isAlike_37 : decode cX4_isAlike 37 = .ok (.aload_n 0, 1) := by decide +kernel
theorem dX4_isAlike_38 : decode cX4_isAlike 38 = .ok (.getfield 16, 3) := by decide +kernel
theorem dX4_isAlike_41 : decode cX4_isAlike 41 = .ok (.iload_n 2, 1) := by decide +kernel
theorem dX4_isAlike_42 : decode cX4_isAlike 42 = .ok (.iaload, 1) := by decide +kernel
theorem dX4_isAlike_43 : decode cX4_isAlike 43 = .ok (.aload_n 0, 1) := by decide +kernel
theorem dX4_isAlike_44 : decode cX4_isAlike 44 = .ok (.getfield 16, 3) := by decide +kernel
theorem dX4_isAlike_47 : decode cX4_isAlike 47 = .ok (.iload_n 3, 1) := by decide +kernel
theorem dX4_isAlike_48 : decode cX4_isAlike 48 = .ok (.iaload, 1) := by decide +kernel
theorem dX4_isAlike_49 : decode cX4_isAlike 49 = .ok (.if_icmp .eq 5, 3) := by decide +kernel
theorem dX4_isAlike_52 : decode cX4_isAlike 52 = .ok (.iconst 0, 1) := by decide +kernel
theorem dX4_isAlike_53 : decode cX4_isAlike 53 = .ok (.ireturn, 1) := by decide +kernel
theorem dX4_isAlike_54 : decode cX4_isAlike 54 = .ok (.iconst 0, 1) := by decide +kernel
theorem dX4_isAlike_55 : decode cX4_isAlike 55 = .ok (.istore 4, 2) := by decide +kernel
theorem dX4_isAlike_57 : decode cX4_isAlike 57 = .ok (.iload 4, 2) := by decide +kernel
theorem dX4_isAlike_59 : decode cX4_isAlike 59 = .ok (.iconst 4, 1) := by decide +kernel
theorem dX4_isAlike_60 : decode cX4_isAlike 60 = .ok (.if_icmp .ge 42, 3) := by decide +kernel
theorem dX4_isAlike_63 : decode cX4_isAlike 63 = .ok (.aload_n 0, 1) := by decide +kernel
theorem dX4_isAlike_64 : decode cX4_isAlike 64 = .ok (.getfield 7, 3) := by decide +kernel
theorem dX4_isAlike_67 : decode cX4_isAlike 67 = .ok (.aload_n 0, 1) := by decide +kernel
theorem dX4_isAlike_68 : decode cX4_isAlike 68 = .ok (.iload_n 2, 1) := by decide +kernel
theorem dX4_isAlike_69 : decode cX4_isAlike 69 = .ok (.iload 4, 2) := by decide +kernel
theorem dX4_isAlike_71 : decode cX4_isAlike 71 = .ok (.invokevirtual 122, 3) := by decide +kernel
theorem dX4_isAlike_74 : decode cX4_isAlike 74 = .ok (.baload, 1) := by decide +kernel
theorem dX4_isAlike_75 : decode cX4_isAlike 75 = .ok (.aload_n 0, 1) := by decide +kernel
theorem dX4_isAlike_76 : decode cX4_isAlike 76 = .ok (.getfield 7, 3) := by decide +kernel
theorem dX4_isAlike_79 : decode cX4_isAlike 79 = .ok (.aload_n 0, 1) := by decide +kernel
theorem dX4_isAlike_80 : decode cX4_isAlike 80 = .ok (.iload_n 3, 1) := by decide +kernel
theorem dX4_isAlike_81 : decode cX4_isAlike 81 = .ok (.iload 4, 2) := by decide +kernel
theorem dX4_isAlike_83 : decode cX4_isAlike 83 = .ok (.iload_n 1, 1) := by decide +kernel
theorem dX4_isAlike_84 : decode cX4_isAlike 84 = .ok (.invokestatic 274, 3) := by decide +kernel
theorem dX4_isAlike_87 : decode cX4_isAlike 87 = .ok (.invokevirtual 122, 3) := by decide +kernel
theorem dX4_isAlike_90 : decode cX4_isAlike 90 = .ok (.baload, 1) := by decide +kernel
theorem dX4_isAlike_91 : decode cX4_isAlike 91 = .ok (.if_icmp .eq 5, 3) := by decide +kernel
theorem dX4_isAlike_94 : decode cX4_isAlike 94 = .ok (.iconst 0, 1) := by decide +kernel
theorem dX4_isAlike_95 : decode cX4_isAlike 95 = .ok (.ireturn, 1) := by decide +kernel
theorem dX4_isAlike_96 : decode cX4_isAlike 96 = .ok (.iinc 4 1, 3) := by decide +kernel
theorem dX4_isAlike_99 : decode cX4_isAlike 99 = .ok (.goto (-42), 3) := by decide +kernel
theorem dX4_isAlike_102 : decode cX4_isAlike 102 = .ok (.iinc 2 1, 3) := by decide +kernel
theorem dX4_isAlike_105 : decode cX4_isAlike 105 = .ok (.goto (-103), 3) := by decide +kernel
theorem dX4_isAlike_108 : decode cX4_isAlike 108 = .ok (.iconst 1, 1) := by decide +kernel
theorem dX4_isAlike_109 : decode cX4_isAlike 109 = .ok (.ireturn, 1) := by decide +kernel
theorem dX4_alike_0 : decode cX4_alike 0 = .ok (.iload_n 1, 1) := by decide +kernel
theorem dX4_alike_1 : decode cX4_alike 1 = .ok (.iconst 0, 1) := by decide +kernel
theorem dX4_alike_2 : decode cX4_alike 2 = .ok (.bipush 7, 2) := by decide +kernel
theorem dX4_alike_4 : decode cX4_alike 4 = .ok (.invokestatic 63, 3) := by decide +kernel
theorem dX4_alike_7 : decode cX4_alike 7 = .ok (.ifCond .eq 19, 3) := by decide +kernel
theorem dX4_alike_10 : decode cX4_alike 10 = .ok (.iload_n 1, 1) := by decide +kernel
theorem dX4_alike_11 : decode cX4_alike 11 = .ok (.iconst 3, 1) := by decide +kernel
theorem dX4_alike_12 : decode cX4_alike 12 = .ok (.if_icmp .le 21, 3) := by decide +kernel
theorem dX4_alike_15 : decode cX4_alike 15 = .ok (.aload_n 0, 1) := by decide +kernel
theorem dX4_alike_16 : decode cX4_alike 16 = .ok (.getfield 67, 3) := by decide +kernel
theorem dX4_alike_19 : decode cX4_alike 19 = .ok (.aload_n 0, 1) := by decide +kernel
theorem dX4_alike_20 : decode cX4_alike 20 = .ok (.getfield 70, 3) := by decide +kernel
theorem dX4_alike_23 : decode cX4_alike 23 = .ok (.if_icmp .eq 10, 3) := by decide +kernel
theorem dX4_alike_26 : decode cX4_alike 26 = .ok (.aload_n 0, 1) := by decide +kernel
theorem dX4_alike_27 : decode cX4_alike 27 = .ok (.bipush (-2), 2) := by decide +kernel
theorem dX4_alike_29 : decode cX4_alike 29 = .ok (.invokevirtual 56, 3) := by decide +kernel
theorem dX4_alike_32 : decode cX4_alike 32 = .ok (.ireturn, 1) := by decide +kernel
theorem dX4_alike_33 : decode cX4_alike 33 = .ok (.aload_n 0, 1) := by decide +kernel
theorem dX4_alike_34 : decode cX4_alike 34 = .ok (.iload_n 1, 1) := by decide +kernel
theorem dX4_alike_35 : decode cX4_alike 35 = .ok (.invokevirtual 277, 3) := by decide +kernel
theorem dX4_alike_38 : decode cX4_alike 38 = .ok (.ifCond .eq 7, 3) := by decide +kernel
theorem dX4_alike_41 : decode cX4_alike 41 = .ok (.iconst 1, 1) := by decide +kernel
theorem dX4_alike_42 : decode cX4_alike 42 = .ok (.goto 4, 3) := by decide +kernel
theorem dX4_alike_45 : decode cX4_alike 45 = .ok (.iconst 0, 1) := by decide +kernel
theorem dX4_alike_46 : decode cX4_alike 46 = .ok (.ireturn, 1) := by decide +kernel
theorem dX4_leader_0 : decode cX4_leader 0 = .ok (.aload_n 0, 1) := by decide +kernel
theorem dX4_leader_1 : decode cX4_leader 1 = .ok (.iconst 0, 1) := by decide +kernel
theorem dX4_leader_2 : decode cX4_leader 2 = .ok (.invokevirtual 226, 3) := by decide +kernel
theorem dX4_leader_5 : decode cX4_leader 5 = .ok (.istore_n 1, 1) := by decide +kernel
theorem dX4_leader_6 : decode cX4_leader 6 = .ok (.iload_n 1, 1) := by decide +kernel
theorem dX4_leader_7 : decode cX4_leader 7 = .ok (.ifCond .le 7, 3) := by decide +kernel
theorem dX4_leader_10 : decode cX4_leader 10 = .ok (.iconst 0, 1) := by decide +kernel
theorem dX4_leader_11 : decode cX4_leader 11 = .ok (.goto 12, 3) := by decide +kernel
theorem dX4_leader_14 : decode cX4_leader 14 = .ok (.iload_n 1, 1) := by decide +kernel
theorem dX4_leader_15 : decode cX4_leader 15 = .ok (.ifCond .ge 7, 3) := by decide +kernel
theorem dX4_leader_18 : decode cX4_leader 18 = .ok (.iconst 1, 1) := by decide +kernel
theorem dX4_leader_19 : decode cX4_leader 19 = .ok (.goto 4, 3) := by decide +kernel
theorem dX4_leader_22 : decode cX4_leader 22 = .ok (.iconst (-1), 1) := by decide +kernel
theorem dX4_leader_23 : decode cX4_leader 23 = .ok (.ireturn, 1) := by decide +kernel
theorem dX4_longest_0 : decode cX4_longest 0 = .ok (.iconst 0, 1) := by decide +kernel
theorem dX4_longest_1 : decode cX4_longest 1 = .ok (.istore_n 1, 1) := by decide +kernel
theorem dX4_longest_2 : decode cX4_longest 2 = .ok (.iconst 1, 1) := by decide +kernel
theorem dX4_longest_3 : decode cX4_longest 3 = .ok (.istore_n 2, 1) := by decide +kernel
theorem dX4_longest_4 : decode cX4_longest 4 = .ok (.iload_n 2, 1) := by decide +kernel
theorem dX4_longest_5 : decode cX4_longest 5 = .ok (.aload_n 0, 1) := by decide +kernel
theorem dX4_longest_6 : decode cX4_longest 6 = .ok (.getfield 67, 3) := by decide +kernel
theorem dX4_longest_9 : decode cX4_longest 9 = .ok (.aload_n 0, 1) := by decide +kernel
theorem dX4_longest_10 : decode cX4_longest 10 = .ok (.getfield 70, 3) := by decide +kernel
theorem dX4_longest_13 : decode cX4_longest 13 = .ok (.imul, 1) := by decide +kernel
theorem dX4_longest_14 : decode cX4_longest 14 = .ok (.if_icmp .ge 24, 3) := by decide +kernel
theorem dX4_longest_17 : decode cX4_longest 17 = .ok (.aload_n 0, 1) := by decide +kernel
theorem dX4_longest_18 : decode cX4_longest 18 = .ok (.iload_n 2, 1) := by decide +kernel
theorem dX4_longest_19 : decode cX4_longest 19 = .ok (.invokevirtual 232, 3) := by decide +kernel
theorem dX4_longest_22 : decode cX4_longest 22 = .ok (.aload_n 0, 1) := by decide +kernel
theorem dX4_longest_23 : decode cX4_longest 23 = .ok (.iload_n 1, 1) := by decide +kernel
theorem dX4_longest_24 : decode cX4_longest 24 = .ok (.invokevirtual 232, 3) := by decide +kernel
theorem dX4_longest_27 : decode cX4_longest 27 = .ok (.if_icmp .le 5, 3) := by decide +kernel
theorem dX4_longest_30 : decode cX4_longest 30 = .ok (.iload_n 2, 1) := by decide +kernel
theorem dX4_longest_31 : decode cX4_longest 31 = .ok (.istore_n 1, 1) := by decide +kernel
theorem dX4_longest_32 : decode cX4_longest 32 = .ok (.iinc 2 1, 3) := by decide +kernel
theorem dX4_longest_35 : decode cX4_longest 35 = .ok (.goto (-31), 3) := by decide +kernel
theorem dX4_longest_38 : decode cX4_longest 38 = .ok (.iload_n 1, 1) := by decide +kernel
theorem dX4_longest_39 : decode cX4_longest 39 = .ok (.ireturn, 1) := by decide +kernel
theorem dX4_shuts__0 : decode cX4_shuts_ 0 = .ok (.iload_n 1, 1) := by decide +kernel
theorem dX4_shuts__1 : decode cX4_shuts_ 1 = .ok (.iconst 0, 1) := by decide +kernel
theorem dX4_shuts__2 : decode cX4_shuts_ 2 = .ok (.aload_n 0, 1) := by decide +kernel
theorem dX4_shuts__3 : decode cX4_shuts_ 3 = .ok (.invokevirtual 107, 3) := by decide +kernel
theorem dX4_shuts__6 : decode cX4_shuts_ 6 = .ok (.iconst 1, 1) := by decide +kernel
theorem dX4_shuts__7 : decode cX4_shuts_ 7 = .ok (.isub, 1) := by decide +kernel
theorem dX4_shuts__8 : decode cX4_shuts_ 8 = .ok (.invokestatic 63, 3) := by decide +kernel
theorem dX4_shuts__11 : decode cX4_shuts_ 11 = .ok (.ifCond .ne 10, 3) := by decide +kernel
theorem dX4_shuts__14 : decode cX4_shuts_ 14 = .ok (.aload_n 0, 1) := by decide +kernel
theorem dX4_shuts__15 : decode cX4_shuts_ 15 = .ok (.bipush (-2), 2) := by decide +kernel
theorem dX4_shuts__17 : decode cX4_shuts_ 17 = .ok (.invokevirtual 56, 3) := by decide +kernel
theorem dX4_shuts__20 : decode cX4_shuts_ 20 = .ok (.ireturn, 1) := by decide +kernel
theorem dX4_shuts__21 : decode cX4_shuts_ 21 = .ok (.aload_n 0, 1) := by decide +kernel
theorem dX4_shuts__22 : decode cX4_shuts_ 22 = .ok (.getfield 7, 3) := by decide +kernel
theorem dX4_shuts__25 : decode cX4_shuts_ 25 = .ok (.iload_n 1, 1) := by decide +kernel
