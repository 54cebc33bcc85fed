theorem dX3_games_17 : decode cX3_games 17 = .ok (.ireturn, 1) := by decide +kernel
theorem dX3_games_18 : decode cX3_games 18 = .ok (.aload_n 0, 1) := by decide +kernel
theorem dX3_games_19 : decode cX3_games 19 = .ok (.getfield 16, 3) := by decide +kernel
theorem dX3_games_22 : decode cX3_games 22 = .ok (.aload_n 0, 1) := by decide +kernel
theorem dX3_games_23 : decode cX3_games 23 = .ok (.getfield 10, 3) := by decide +kernel
theorem dX3_games_26 : decode cX3_games 26 = .ok (.invokevirtual 165, 3) := by decide +kernel
theorem dX3_games_29 : decode cX3_games 29 = .ok (.iconst 0, 1) := by decide +kernel
theorem dX3_games_30 : decode cX3_games 30 = .ok (.istore_n 2, 1) := by decide +kernel
theorem dX3_games_31 : decode cX3_games 31 = .ok (.iconst 0, 1) := by decide +kernel
theorem dX3_games_32 : decode cX3_games 32 = .ok (.istore_n 3, 1) := by decide +kernel
theorem dX3_games_33 : decode cX3_games 33 = .ok (.iload_n 3, 1) := by decide +kernel
theorem dX3_games_34 : decode cX3_games 34 = .ok (.iload_n 1, 1) := by decide +kernel
theorem dX3_games_35 : decode cX3_games 35 = .ok (.if_icmp .ge 42, 3) := by decide +kernel
theorem dX3_games_38 : decode cX3_games 38 = .ok (.aload_n 0, 1) := by decide +kernel
theorem dX3_games_39 : decode cX3_games 39 = .ok (.getfield 16, 3) := by decide +kernel
theorem dX3_games_42 : decode cX3_games 42 = .ok (.invokevirtual 348, 3) := by decide +kernel
theorem dX3_games_45 : decode cX3_games 45 = .ok (.aload_n 0, 1) := by decide +kernel
theorem dX3_games_46 : decode cX3_games 46 = .ok (.invokevirtual 351, 3) := by decide +kernel
theorem dX3_games_49 : decode cX3_games 49 = .ok (.iload_n 2, 1) := by decide +kernel
theorem dX3_games_50 : decode cX3_games 50 = .ok (.aload_n 0, 1) := by decide +kernel
theorem dX3_games_51 : decode cX3_games 51 = .ok (.getfield 16, 3) := by decide +kernel
theorem dX3_games_54 : decode cX3_games 54 = .ok (.iconst 0, 1) := by decide +kernel
theorem dX3_games_55 : decode cX3_games 55 = .ok (.invokevirtual 255, 3) := by decide +kernel
theorem dX3_games_58 : decode cX3_games 58 = .ok (.ifCond .le 7, 3) := by decide +kernel
theorem dX3_games_61 : decode cX3_games 61 = .ok (.iconst 1, 1) := by decide +kernel
theorem dX3_games_62 : decode cX3_games 62 = .ok (.goto 4, 3) := by decide +kernel
theorem dX3_games_65 : decode cX3_games 65 = .ok (.iconst 0, 1) := by decide +kernel
theorem dX3_games_66 : decode cX3_games 66 = .ok (.invokestatic 192, 3) := by decide +kernel
theorem dX3_games_69 : decode cX3_games 69 = .ok (.iadd, 1) := by decide +kernel
theorem dX3_games_70 : decode cX3_games 70 = .ok (.istore_n 2, 1) := by decide +kernel
theorem dX3_games_71 : decode cX3_games 71 = .ok (.iinc 3 1, 3) := by decide +kernel
theorem dX3_games_74 : decode cX3_games 74 = .ok (.goto (-41), 3) := by decide +kernel
theorem dX3_games_77 : decode cX3_games 77 = .ok (.aload_n 0, 1) := by decide +kernel
theorem dX3_games_78 : decode cX3_games 78 = .ok (.getfield 10, 3) := by decide +kernel
theorem dX3_games_81 : decode cX3_games 81 = .ok (.aload_n 0, 1) := by decide +kernel
theorem dX3_games_82 : decode cX3_games 82 = .ok (.getfield 16, 3) := by decide +kernel
theorem dX3_games_85 : decode cX3_games 85 = .ok (.getfield 354, 3) := by decide +kernel
theorem dX3_games_88 : decode cX3_games 88 = .ok (.putfield 354, 3) := by decide +kernel
theorem dX3_games_91 : decode cX3_games 91 = .ok (.iload_n 2, 1) := by decide +kernel
theorem dX3_games_92 : decode cX3_games 92 = .ok (.ireturn, 1) := by decide +kernel
theorem dX3_seed_0 : decode cX3_seed 0 = .ok (.aload_n 0, 1) := by decide +kernel
theorem dX3_seed_1 : decode cX3_seed 1 = .ok (.getfield 10, 3) := by decide +kernel
theorem dX3_seed_4 : decode cX3_seed 4 = .ok (.getfield 354, 3) := by decide +kernel
theorem dX3_seed_7 : decode cX3_seed 7 = .ok (.istore_n 2, 1) := by decide +kernel
theorem dX3_seed_8 : decode cX3_seed 8 = .ok (.aload_n 0, 1) := by decide +kernel
theorem dX3_seed_9 : decode cX3_seed 9 = .ok (.getfield 10, 3) := by decide +kernel
theorem dX3_seed_12 : decode cX3_seed 12 = .ok (.iload_n 1, 1) := by decide +kernel
theorem dX3_seed_13 : decode cX3_seed 13 = .ok (.putfield 354, 3) := by decide +kernel
theorem dX3_seed_16 : decode cX3_seed 16 = .ok (.iload_n 2, 1) := by decide +kernel
theorem dX3_seed_17 : decode cX3_seed 17 = .ok (.ireturn, 1) := by decide +kernel
theorem dX3_image_0 : decode cX3_image 0 = .ok (.aload_n 0, 1) := by decide +kernel
theorem dX3_image_1 : decode cX3_image 1 = .ok (.getfield 19, 3) := by decide +kernel
theorem dX3_image_4 : decode cX3_image 4 = .ok (.aload_n 0, 1) := by decide +kernel
theorem dX3_image_5 : decode cX3_image 5 = .ok (.getfield 10, 3) := by decide +kernel
theorem dX3_image_8 : decode cX3_image 8 = .ok (.invokevirtual 165, 3) := by decide +kernel
theorem dX3_image_11 : decode cX3_image 11 = .ok (.aload_n 0, 1) := by decide +kernel
theorem dX3_image_12 : decode cX3_image 12 = .ok (.aload_n 0, 1) := by decide +kernel
theorem dX3_image_13 : decode cX3_image 13 = .ok (.getfield 33, 3) := by decide +kernel
theorem dX3_image_16 : decode cX3_image 16 = .ok (.putfield 22, 3) := by decide +kernel
theorem dX3_image_19 : decode cX3_image 19 = .ok (.iconst 1, 1) := by decide +kernel
theorem dX3_image_20 : decode cX3_image 20 = .ok (.ireturn, 1) := by decide +kernel
theorem dX3_back_0 : decode cX3_back 0 = .ok (.aload_n 0, 1) := by decide +kernel
theorem dX3_back_1 : decode cX3_back 1 = .ok (.getfield 22, 3) := by decide +kernel
theorem dX3_back_4 : decode cX3_back 4 = .ok (.iconst (-1), 1) := by decide +kernel
theorem dX3_back_5 : decode cX3_back 5 = .ok (.if_icmp .ne 10, 3) := by decide +kernel
theorem dX3_back_8 : decode cX3_back 8 = .ok (.aload_n 0, 1) := by decide +kernel
theorem dX3_back_9 : decode cX3_back 9 = .ok (.bipush (-5), 2) := by decide +kernel
theorem dX3_back_11 : decode cX3_back 11 = .ok (.invokevirtual 60, 3) := by decide +kernel
theorem dX3_back_14 : decode cX3_back 14 = .ok (.ireturn, 1) := by decide +kernel
theorem dX3_back_15 : decode cX3_back 15 = .ok (.aload_n 0, 1) := by decide +kernel
theorem dX3_back_16 : decode cX3_back 16 = .ok (.getfield 10, 3) := by decide +kernel
theorem dX3_back_19 : decode cX3_back 19 = .ok (.aload_n 0, 1) := by decide +kernel
theorem dX3_back_20 : decode cX3_back 20 = .ok (.getfield 19, 3) := by decide +kernel
theorem dX3_back_23 : decode cX3_back 23 = .ok (.invokevirtual 165, 3) := by decide +kernel
theorem dX3_back_26 : decode cX3_back 26 = .ok (.aload_n 0, 1) := by decide +kernel
theorem dX3_back_27 : decode cX3_back 27 = .ok (.aload_n 0, 1) := by decide +kernel
theorem dX3_back_28 : decode cX3_back 28 = .ok (.getfield 22, 3) := by decide +kernel
theorem dX3_back_31 : decode cX3_back 31 = .ok (.putfield 33, 3) := by decide +kernel
theorem dX3_back_34 : decode cX3_back 34 = .ok (.iconst 0, 1) := by decide +kernel
theorem dX3_back_35 : decode cX3_back 35 = .ok (.istore_n 1, 1) := by decide +kernel
theorem dX3_back_36 : decode cX3_back 36 = .ok (.iload_n 1, 1) := by decide +kernel
theorem dX3_back_37 : decode cX3_back 37 = .ok (.bipush 8, 2) := by decide +kernel
theorem dX3_back_39 : decode cX3_back 39 = .ok (.if_icmp .ge 18, 3) := by decide +kernel
theorem dX3_back_42 : decode cX3_back 42 = .ok (.aload_n 0, 1) := by decide +kernel
theorem dX3_back_43 : decode cX3_back 43 = .ok (.aload_n 0, 1) := by decide +kernel
theorem dX3_back_44 : decode cX3_back 44 = .ok (.iload_n 1, 1) := by decide +kernel
theorem dX3_back_45 : decode cX3_back 45 = .ok (.invokevirtual 56, 3) := by decide +kernel
theorem dX3_back_48 : decode cX3_back 48 = .ok (.invokevirtual 357, 3) := by decide +kernel
theorem dX3_back_51 : decode cX3_back 51 = .ok (.iinc 1 1, 3) := by decide +kernel
theorem dX3_back_54 : decode cX3_back 54 = .ok (.goto (-18), 3) := by decide +kernel
theorem dX3_back_57 : decode cX3_back 57 = .ok (.iconst 1, 1) := by decide +kernel
theorem dX3_back_58 : decode cX3_back 58 = .ok (.ireturn, 1) := by decide +kernel
theorem dX3_status_0 : decode cX3_status 0 = .ok (.iload_n 1, 1) := by decide +kernel
theorem dX3_status_1 : decode cX3_status 1 = .ok (.tableswitch 162 0 11 #[63, 71, 79, 90, 101, 112, 120, 128, 133, 141, 149, 154], 63) := by decide +kernel
theorem dX3_status_64 : decode cX3_status 64 = .ok (.aload_n 0, 1) := by decide +kernel
theorem dX3_status_65 : decode cX3_status 65 = .ok (.getfield 10, 3) := by decide +kernel
theorem dX3_status_68 : decode cX3_status 68 = .ok (.getfield 361, 3) := by decide +kernel
theorem dX3_status_71 : decode cX3_status 71 = .ok (.ireturn, 1) := by decide +kernel
theorem dX3_status_72 : decode cX3_status 72 = .ok (.aload_n 0, 1) := by decide +kernel
theorem dX3_status_73 : decode cX3_status 73 = .ok (.getfield 10, 3) := by decide +kernel
theorem dX3_status_76 : decode cX3_status 76 = .ok (.getfield 364, 3) := by decide +kernel
theorem dX3_status_79 : decode cX3_status 79 = .ok (.ireturn, 1) := by decide +kernel
theorem dX3_status_80 : decode cX3_status 80 = .ok (.aload_n 0, 1) := by decide +kernel
theorem dX3_status_81 : decode cX3_status 81 = .ok (.getfield 10, 3) := by decide +kernel
theorem dX3_status_84 : decode cX3_status 84 = .ok (.getfield 185, 3) := by decide +kernel
theorem dX3_status_87 : decode cX3_status 87 = .ok (.invokestatic 131, 3) := by decide +kernel
theorem dX3_status_90 : decode cX3_status 90 = .ok (.ireturn, 1) := by decide +kernel
theorem dX3_status_91 : decode cX3_status 91 = .ok (.aload_n 0, 1) := by decide +kernel
theorem dX3_status_92 : decode cX3_status 92 = .ok (.getfield 10, 3) := by decide +kernel
theorem dX3_status_95 : decode cX3_status 95 = .ok (.getfield 189, 3) := by decide +kernel
theorem dX3_status_98 : decode cX3_status 98 = .ok (.invokestatic 286, 3) := by decide +kernel
theorem dX3_status_101 : decode cX3_status 101 = .ok (.ireturn, 1) := by decide +kernel
theorem dX3_status_102 : decode cX3_status 102 = .ok (.aload_n 0, 1) := by decide +kernel
theorem dX3_status_103 : decode cX3_status 103 = .ok (.getfield 10, 3) := by decide +kernel
theorem dX3_status_106 : decode cX3_status 106 = .ok (.invokevirtual 283, 3) := by decide +kernel
theorem dX3_status_109 : decode cX3_status 109 = .ok (.invokestatic 286, 3) := by decide +kernel
theorem dX3_status_112 : decode cX3_status 112 = .ok (.ireturn, 1) := by decide +kernel
theorem dX3_status_113 : decode cX3_status 113 = .ok (.aload_n 0, 1) := by decide +kernel
theorem dX3_status_114 : decode cX3_status 114 = .ok (.getfield 10, 3) := by decide +kernel
theorem dX3_status_117 : decode cX3_status 117 = .ok (.getfield 156, 3) := by decide +kernel
theorem dX3_status_120 : decode cX3_status 120 = .ok (.ireturn, 1) := by decide +kernel
theorem dX3_status_121 : decode cX3_status 121 = .ok (.aload_n 0, 1) := by decide +kernel
theorem dX3_status_122 : decode cX3_status 122 = .ok (.getfield 10, 3) := by decide +kernel
theorem dX3_status_125 : decode cX3_status 125 = .ok (.getfield 325, 3) := by decide +kernel
theorem dX3_status_128 : decode cX3_status 128 = .ok (.ireturn, 1) := by decide +kernel
theorem dX3_status_129 : decode cX3_status 129 = .ok (.aload_n 0, 1) := by decide +kernel
theorem dX3_status_130 : decode cX3_status 130 = .ok (.getfield 33, 3) := by decide +kernel
theorem dX3_status_133 : decode cX3_status 133 = .ok (.ireturn, 1) := by decide +kernel
theorem dX3_status_134 : decode cX3_status 134 = .ok (.aload_n 0, 1) := by decide +kernel
theorem dX3_status_135 : decode cX3_status 135 = .ok (.getfield 48, 3) := by decide +kernel
theorem dX3_status_138 : decode cX3_status 138 = .ok (.getfield 159, 3) := by decide +kernel
theorem dX3_status_141 : decode cX3_status 141 = .ok (.ireturn, 1) := by decide +kernel
theorem dX3_status_142 : decode cX3_status 142 = .ok (.aload_n 0, 1) := by decide +kernel
theorem dX3_status_143 : decode cX3_status 143 = .ok (.getfield 10, 3) := by decide +kernel
theorem dX3_status_146 : decode cX3_status 146 = .ok (.getfield 354, 3) := by decide +kernel
theorem dX3_status_149 : decode cX3_status 149 = .ok (.ireturn, 1) := by decide +kernel
theorem dX3_status_150 : decode cX3_status 150 = .ok (.aload_n 0, 1) := by decide +kernel
theorem dX3_status_151 : decode cX3_status 151 = .ok (.invokevirtual 367, 3) := by decide +kernel
theorem dX3_status_154 : decode cX3_status 154 = .ok (.ireturn, 1) := by decide +kernel
theorem dX3_status_155 : decode cX3_status 155 = .ok (.aload_n 0, 1) := by decide +kernel
theorem dX3_status_156 : decode cX3_status 156 = .ok (.getfield 10, 3) := by decide +kernel
theorem dX3_status_159 : decode cX3_status 159 = .ok (.getfield 146, 3) := by decide +kernel
theorem dX3_status_162 : decode cX3_status 162 = .ok (.ireturn, 1) := by decide +kernel
theorem dX3_status_163 : decode cX3_status 163 = .ok (.aload_n 0, 1) := by decide +kernel
theorem dX3_status_164 : decode cX3_status 164 = .ok (.iload_n 1, 1) := by decide +kernel
theorem dX3_status_165 : decode cX3_status 165 = .ok (.invokevirtual 370, 3) := by decide +kernel
theorem dX3_status_168 : decode cX3_status 168 = .ok (.ireturn, 1) := by decide +kernel
theorem dX3_refuse_0 : decode cX3_refuse 0 = .ok (.bipush (-2), 2) := by decide +kernel
theorem dX3_refuse_2 : decode cX3_refuse 2 = .ok (.iload_n 1, 1) := by decide +kernel
theorem dX3_refuse_3 : decode cX3_refuse 3 = .ok (.isub, 1) := by decide +kernel
theorem dX3_refuse_4 : decode cX3_refuse 4 = .ok (.istore_n 2, 1) := by decide +kernel
theorem dX3_refuse_5 : decode cX3_refuse 5 = .ok (.iload_n 2, 1) := by decide +kernel
theorem dX3_refuse_6 : decode cX3_refuse 6 = .ok (.ifCond .lt 22, 3) := by decide +kernel
theorem dX3_refuse_9 : decode cX3_refuse 9 = .ok (.iload_n 2, 1) := by decide +kernel
theorem dX3_refuse_10 : decode cX3_refuse 10 = .ok (.aload_n 0, 1) := by decide +kernel
theorem dX3_refuse_11 : decode cX3_refuse 11 = .ok (.getfield 52, 3) := by decide +kernel
theorem dX3_refuse_14 : decode cX3_refuse 14 = .ok (.arraylength, 1) := by decide +kernel
theorem dX3_refuse_15 : decode cX3_refuse 15 = .ok (.if_icmp .ge 13, 3) := by decide +kernel
theorem dX3_refuse_18 : decode cX3_refuse 18 = .ok (.aload_n 0, 1) := by decide +kernel
theorem dX3_refuse_19 : decode cX3_refuse 19 = .ok (.getfield 52, 3) := by decide +kernel
theorem dX3_refuse_22 : decode cX3_refuse 22 = .ok (.iload_n 2, 1) := by decide +kernel
theorem dX3_refuse_23 : decode cX3_refuse 23 = .ok (.dup2, 1) := by decide +kernel
theorem dX3_refuse_24 : decode cX3_refuse 24 = .ok (.iaload, 1) := by decide +kernel
theorem dX3_refuse_25 : decode cX3_refuse 25 = .ok (.iconst 1, 1) := by decide +kernel
theorem dX3_refuse_26 : decode cX3_refuse 26 = .ok (.iadd, 1) := by decide +kernel
theorem dX3_refuse_27 : decode cX3_refuse 27 = .ok (.iastore, 1) := by decide +kernel
theorem dX3_refuse_28 : decode cX3_refuse 28 = .ok (.iload_n 1, 1) := by decide +kernel
theorem dX3_refuse_29 : decode cX3_refuse 29 = .ok (.ireturn, 1) := by decide +kernel
theorem dX3_refuseLead_0 : decode cX3_refuseLead 0 = .ok (.sipush (-1000), 3) := by decide +kernel
theorem dX3_refuseLead_3 : decode cX3_refuseLead 3 = .ok (.aload_n 0, 1) := by decide +kernel
theorem dX3_refuseLead_4 : decode cX3_refuseLead 4 = .ok (.iload_n 1, 1) := by decide +kernel
theorem dX3_refuseLead_5 : decode cX3_refuseLead 5 = .ok (.invokevirtual 60, 3) := by decide +kernel
theorem dX3_refuseLead_8 : decode cX3_refuseLead 8 = .ok (.iadd, 1) := by decide +kernel
theorem dX3_refuseLead_9 : decode cX3_refuseLead 9 = .ok (.ireturn, 1) := by decide +kernel
theorem dX3_refusalCount_0 : decode cX3_refusalCount 0 = .ok (.iload_n 1, 1) := by decide +kernel
theorem dX3_refusalCount_1 : decode cX3_refusalCount 1 = .ok (.bipush 12, 2) := by decide +kernel
theorem dX3_refusalCount_3 : decode cX3_refusalCount 3 = .ok (.if_icmp .lt 15, 3) := by decide +kernel
theorem dX3_refusalCount_6 : decode cX3_refusalCount 6 = .ok (.iload_n 1, 1) := by decide +kernel
theorem dX3_refusalCount_7 : decode cX3_refusalCount 7 = .ok (.bipush 12, 2) := by decide +kernel
theorem dX3_refusalCount_9 : decode cX3_refusalCount 9 = .ok (.isub, 1) := by decide +kernel
theorem dX3_refusalCount_10 : decode cX3_refusalCount 10 = .ok (.aload_n 0, 1) := by decide +kernel
theorem dX3_refusalCount_11 : decode cX3_refusalCount 11 = .ok (.getfield 52, 3) := by decide +kernel
theorem dX3_refusalCount_14 : decode cX3_refusalCount 14 = .ok (.arraylength, 1) := by decide +kernel
theorem dX3_refusalCount_15 : decode cX3_refusalCount 15 = .ok (.if_icmp .lt 5, 3) := by decide +kernel
theorem dX3_refusalCount_18 : decode cX3_refusalCount 18 = .ok (.iconst (-1), 1) := by decide +kernel
theorem dX3_refusalCount_19 : decode cX3_refusalCount 19 = .ok (.ireturn, 1) := by decide +kernel
theorem dX3_refusalCount_20 : decode cX3_refusalCount 20 = .ok (.aload_n 0, 1) := by decide +kernel
theorem dX3_refusalCount_21 : decode cX3_refusalCount 21 = .ok (.getfield 52, 3) := by decide +kernel
theorem dX3_refusalCount_24 : decode cX3_refusalCount 24 = .ok (.iload_n 1, 1) := by decide +kernel
theorem dX3_refusalCount_25 : decode cX3_refusalCount 25 = .ok (.bipush 12, 2) := by decide +kernel
theorem dX3_refusalCount_27 : decode cX3_refusalCount 27 = .ok (.isub, 1) := by decide +kernel
theorem dX3_refusalCount_28 : decode cX3_refusalCount 28 = .ok (.iaload, 1) := by decide +kernel
theorem dX3_refusalCount_29 : decode cX3_refusalCount 29 = .ok (.ireturn, 1) := by decide +kernel
theorem dX3_truth_0 : decode cX3_truth 0 = .ok (.iload_n 0, 1) := by decide +kernel
theorem dX3_truth_1 : decode cX3_truth 1 = .ok (.ifCond .eq 7, 3) := by decide +kernel
theorem dX3_truth_4 : decode cX3_truth 4 = .ok (.iconst 1, 1) := by decide +kernel
theorem dX3_truth_5 : decode cX3_truth 5 = .ok (.goto 4, 3) := by decide +kernel
theorem dX3_truth_8 : decode cX3_truth 8 = .ok (.iconst 0, 1) := by decide +kernel
theorem dX3_truth_9 : decode cX3_truth 9 = .ok (.ireturn, 1) := by decide +kernel
theorem dX3_isSeat_0 : decode cX3_isSeat 0 = .ok (.iload_n 0, 1) := by decide +kernel
theorem dX3_isSeat_1 : decode cX3_isSeat 1 = .ok (.ifCond .eq 8, 3) := by decide +kernel
theorem dX3_isSeat_4 : decode cX3_isSeat 4 = .ok (.iload_n 0, 1) := by decide +kernel
theorem dX3_isSeat_5 : decode cX3_isSeat 5 = .ok (.iconst 1, 1) := by decide +kernel
theorem dX3_isSeat_6 : decode cX3_isSeat 6 = .ok (.if_icmp .ne 7, 3) := by decide +kernel
theorem dX3_isSeat_9 : decode cX3_isSeat 9 = .ok (.iconst 1, 1) := by decide +kernel
theorem dX3_isSeat_10 : decode cX3_isSeat 10 = .ok (.goto 4, 3) := by decide +kernel
theorem dX3_isSeat_13 : decode cX3_isSeat 13 = .ok (.iconst 0, 1) := by decide +kernel
theorem dX3_isSeat_14 : decode cX3_isSeat 14 = .ok (.ireturn, 1) := by decide +kernel
theorem dX3_isSide_0 : decode cX3_isSide 0 = .ok (.iload_n 0, 1) := by decide +kernel
theorem dX3_isSide_1 : decode cX3_isSide 1 = .ok (.iconst 1, 1) := by decide +kernel
theorem dX3_isSide_2 : decode cX3_isSide 2 = .ok (.if_icmp .lt 12, 3) := by decide +kernel
theorem dX3_isSide_5 : decode cX3_isSide 5 = .ok (.iload_n 0, 1) := by decide +kernel
theorem dX3_isSide_6 : decode cX3_isSide 6 = .ok (.iconst 4, 1) := by decide +kernel
theorem dX3_isSide_7 : decode cX3_isSide 7 = .ok (.if_icmp .gt 7, 3) := by decide +kernel
theorem dX3_isSide_10 : decode cX3_isSide 10 = .ok (.iconst 1, 1) := by decide +kernel
theorem dX3_isSide_11 : decode cX3_isSide 11 = .ok (.goto 4, 3) := by decide +kernel
theorem dX3_isSide_14 : decode cX3_isSide 14 = .ok (.iconst 0, 1) := by decide +kernel
theorem dX3_isSide_15 : decode cX3_isSide 15 = .ok (.ireturn, 1) := by decide +kernel
theorem dX3_seatOf_0 : decode cX3_seatOf 0 = .ok (.iload_n 1, 1) := by decide +kernel
theorem dX3_seatOf_1 : decode cX3_seatOf 1 = .ok (.iload_n 0, 1) := by decide +kernel
theorem dX3_seatOf_2 : decode cX3_seatOf 2 = .ok (.iand, 1) := by decide +kernel
theorem dX3_seatOf_3 : decode cX3_seatOf 3 = .ok (.ifCond .eq 5, 3) := by decide +kernel
theorem dX3_seatOf_6 : decode cX3_seatOf 6 = .ok (.iconst 0, 1) := by decide +kernel
theorem dX3_seatOf_7 : decode cX3_seatOf 7 = .ok (.ireturn, 1) := by decide +kernel
theorem dX3_seatOf_8 : decode cX3_seatOf 8 = .ok (.iload_n 2, 1) := by decide +kernel
theorem dX3_seatOf_9 : decode cX3_seatOf 9 = .ok (.iload_n 0, 1) := by decide +kernel
theorem dX3_seatOf_10 : decode cX3_seatOf 10 = .ok (.iand, 1) := by decide +kernel
theorem dX3_seatOf_11 : decode cX3_seatOf 11 = .ok (.ifCond .eq 7, 3) := by decide +kernel
theorem dX3_seatOf_14 : decode cX3_seatOf 14 = .ok (.iconst 1, 1) := by decide +kernel
theorem dX3_seatOf_15 : decode cX3_seatOf 15 = .ok (.goto 4, 3) := by decide +kernel
theorem dX3_seatOf_18 : decode cX3_seatOf 18 = .ok (.iconst (-1), 1) := by decide +kernel
theorem dX3_seatOf_19 : decode cX3_seatOf 19 = .ok (.ireturn, 1) := by decide +kernel
theorem dX3_moveOf_0 : decode cX3_moveOf 0 = .ok (.iload_n 0, 1) := by decide +kernel
theorem dX3_moveOf_1 : decode cX3_moveOf 1 = .ok (.bipush 40, 2) := by decide +kernel
theorem dX3_moveOf_3 : decode cX3_moveOf 3 = .ok (.if_icmp .ge 7, 3) := by decide +kernel
theorem dX3_moveOf_6 : decode cX3_moveOf 6 = .ok (.iload_n 0, 1) := by decide +kernel
theorem dX3_moveOf_7 : decode cX3_moveOf 7 = .ok (.goto 10, 3) := by decide +kernel
theorem dX3_moveOf_10 : decode cX3_moveOf 10 = .ok (.bipush 100, 2) := by decide +kernel
theorem dX3_moveOf_12 : decode cX3_moveOf 12 = .ok (.iload_n 0, 1) := by decide +kernel
theorem dX3_moveOf_13 : decode cX3_moveOf 13 = .ok (.iadd, 1) := by decide +kernel
theorem dX3_moveOf_14 : decode cX3_moveOf 14 = .ok (.bipush 40, 2) := by decide +kernel
theorem dX3_moveOf_16 : decode cX3_moveOf 16 = .ok (.isub, 1) := by decide +kernel
theorem dX3_moveOf_17 : decode cX3_moveOf 17 = .ok (.ireturn, 1) := by decide +kernel
theorem dX3_firstSlot_0 : decode cX3_firstSlot 0 = .ok (.lload_n 0, 1) := by decide +kernel
theorem dX3_firstSlot_1 : decode cX3_firstSlot 1 = .ok (.lconst 0, 1) := by decide +kernel
theorem dX3_firstSlot_2 : decode cX3_firstSlot 2 = .ok (.lcmp, 1) := by decide +kernel
theorem dX3_firstSlot_3 : decode cX3_firstSlot 3 = .ok (.ifCond .ne 7, 3) := by decide +kernel
theorem dX3_firstSlot_6 : decode cX3_firstSlot 6 = .ok (.iconst (-1), 1) := by decide +kernel
theorem dX3_firstSlot_7 : decode cX3_firstSlot 7 = .ok (.goto 12, 3) := by decide +kernel
theorem dX3_firstSlot_10 : decode cX3_firstSlot 10 = .ok (.lload_n 0, 1) := by decide +kernel
theorem dX3_firstSlot_11 : decode cX3_firstSlot 11 = .ok (.lload_n 0, 1) := by decide +kernel
theorem dX3_firstSlot_12 : decode cX3_firstSlot 12 = .ok (.lneg, 1) := by decide +kernel
theorem dX3_firstSlot_13 : decode cX3_firstSlot 13 = .ok (.land, 1) := by decide +kernel
theorem dX3_firstSlot_14 : decode cX3_firstSlot 14 = .ok (.lconst 1, 1) := by decide +kernel
theorem dX3_firstSlot_15 : decode cX3_firstSlot 15 = .ok (.lsub, 1) := by decide +kernel
theorem dX3_firstSlot_16 : decode cX3_firstSlot 16 = .ok (.invokestatic 131, 3) := by decide +kernel
theorem dX3_firstSlot_19 : decode cX3_firstSlot 19 = .ok (.ireturn, 1) := by decide +kernel
theorem dX3_slotAt_0 : decode cX3_slotAt 0 = .ok (.lload_n 0, 1) := by decide +kernel
theorem dX3_slotAt_1 : decode cX3_slotAt 1 = .ok (.lstore_n 3, 1) := by decide +kernel
theorem dX3_slotAt_2 : decode cX3_slotAt 2 = .ok (.iconst 0, 1) := by decide +kernel
theorem dX3_slotAt_3 : decode cX3_slotAt 3 = .ok (.istore 5, 2) := by decide +kernel
theorem dX3_slotAt_5 : decode cX3_slotAt 5 = .ok (.iload 5, 2) := by decide +kernel
theorem dX3_slotAt_7 : decode cX3_slotAt 7 = .ok (.iload_n 2, 1) := by decide +kernel
theorem dX3_slotAt_8 : decode cX3_slotAt 8 = .ok (.if_icmp .ge 22, 3) := by decide +kernel
theorem dX3_slotAt_11 : decode cX3_slotAt 11 = .ok (.iload 5, 2) := by decide +kernel
theorem dX3_slotAt_13 : decode cX3_slotAt 13 = .ok (.bipush 56, 2) := by decide +kernel
theorem dX3_slotAt_15 : decode cX3_slotAt 15 = .ok (.if_icmp .ge 15, 3) := by decide +kernel
theorem dX3_slotAt_18 : decode cX3_slotAt 18 = .ok (.lload_n 3, 1) := by decide +kernel
theorem dX3_slotAt_19 : decode cX3_slotAt 19 = .ok (.lload_n 3, 1) := by decide +kernel
theorem dX3_slotAt_20 : decode cX3_slotAt 20 = .ok (.lconst 1, 1) := by decide +kernel
theorem dX3_slotAt_21 : decode cX3_slotAt 21 = .ok (.lsub, 1) := by decide +kernel
theorem dX3_slotAt_22 : decode cX3_slotAt 22 = .ok (.land, 1) := by decide +kernel
theorem dX3_slotAt_23 : decode cX3_slotAt 23 = .ok (.lstore_n 3, 1) := by decide +kernel
theorem dX3_slotAt_24 : decode cX3_slotAt 24 = .ok (.iinc 5 1, 3) := by decide +kernel
theorem dX3_slotAt_27 : decode cX3_slotAt 27 = .ok (.goto (-22), 3) := by decide +kernel
theorem dX3_slotAt_30 : decode cX3_slotAt 30 = .ok (.lload_n 3, 1) := by decide +kernel
theorem dX3_slotAt_31 : decode cX3_slotAt 31 = .ok (.invokestatic 318, 3) := by decide +kernel
theorem dX3_slotAt_34 : decode cX3_slotAt 34 = .ok (.ireturn, 1) := by decide +kernel
theorem dX3_shelfAt_0 : decode cX3_shelfAt 0 = .ok (.iload_n 1, 1) := by decide +kernel
theorem dX3_shelfAt_1 : decode cX3_shelfAt 1 = .ok (.ifCond .lt 12, 3) := by decide +kernel
theorem dX3_shelfAt_4 : decode cX3_shelfAt 4 = .ok (.iload_n 1, 1) := by decide +kernel
theorem dX3_shelfAt_5 : decode cX3_shelfAt 5 = .ok (.aload_n 0, 1) := by decide +kernel
theorem dX3_shelfAt_6 : decode cX3_shelfAt 6 = .ok (.getfield 41, 3) := by decide +kernel
theorem dX3_shelfAt_9 : decode cX3_shelfAt 9 = .ok (.arraylength, 1) := by decide +kernel
theorem dX3_shelfAt_10 : decode cX3_shelfAt 10 = .ok (.if_icmp .lt 7, 3) := by decide +kernel
theorem dX3_shelfAt_13 : decode cX3_shelfAt 13 = .ok (.aconst_null, 1) := by decide +kernel
theorem dX3_shelfAt_14 : decode cX3_shelfAt 14 = .ok (.goto 9, 3) := by decide +kernel
theorem dX3_shelfAt_17 : decode cX3_shelfAt 17 = .ok (.aload_n 0, 1) := by decide +kernel
theorem dX3_shelfAt_18 : decode cX3_shelfAt 18 = .ok (.getfield 41, 3) := by decide +kernel
theorem dX3_shelfAt_21 : decode cX3_shelfAt 21 = .ok (.iload_n 1, 1) := by decide +kernel
theorem dX3_shelfAt_22 : decode cX3_shelfAt 22 = .ok (.aaload, 1) := by decide +kernel
theorem dX3_shelfAt_23 : decode cX3_shelfAt 23 = .ok (.areturn, 1) := by decide +kernel
theorem dX3_rowTrouble_0 : decode cX3_rowTrouble 0 = .ok (.aload_n 0, 1) := by decide +kernel
theorem dX3_rowTrouble_1 : decode cX3_rowTrouble 1 = .ok (.ifnonnull 6, 3) := by decide +kernel
theorem dX3_rowTrouble_4 : decode cX3_rowTrouble 4 = .ok (.bipush (-2), 2) := by decide +kernel
theorem dX3_rowTrouble_6 : decode cX3_rowTrouble 6 = .ok (.ireturn, 1) := by decide +kernel
theorem dX3_rowTrouble_7 : decode cX3_rowTrouble 7 = .ok (.aload_n 0, 1) := by decide +kernel
theorem dX3_rowTrouble_8 : decode cX3_rowTrouble 8 = .ok (.invokevirtual 80, 3) := by decide +kernel
theorem dX3_rowTrouble_11 : decode cX3_rowTrouble 11 = .ok (.ifCond .eq 6, 3) := by decide +kernel
theorem dX3_rowTrouble_14 : decode cX3_rowTrouble 14 = .ok (.bipush (-3), 2) := by decide +kernel
theorem dX3_rowTrouble_16 : decode cX3_rowTrouble 16 = .ok (.ireturn, 1) := by decide +kernel
theorem dX3_rowTrouble_17 : decode cX3_rowTrouble 17 = .ok (.aload_n 0, 1) := by decide +kernel
theorem dX3_rowTrouble_18 : decode cX3_rowTrouble 18 = .ok (.invokevirtual 84, 3) := by decide +kernel
theorem dX3_rowTrouble_21 : decode cX3_rowTrouble 21 = .ok (.ifCond .eq 7, 3) := by decide +kernel
theorem dX3_rowTrouble_24 : decode cX3_rowTrouble 24 = .ok (.iconst 0, 1) := by decide +kernel
theorem dX3_rowTrouble_25 : decode cX3_rowTrouble 25 = .ok (.goto 5, 3) := by decide +kernel
theorem dX3_rowTrouble_28 : decode cX3_rowTrouble 28 = .ok (.bipush (-4), 2) := by decide +kernel
theorem dX3_rowTrouble_30 : decode cX3_rowTrouble 30 = .ok (.ireturn, 1) := by decide +kernel
theorem dX3_toldTrouble_0 : decode cX3_toldTrouble 0 = .ok (.aload_n 0, 1) := by decide +kernel
theorem dX3_toldTrouble_1 : decode cX3_toldTrouble 1 = .ok (.ifnull 13, 3) := by decide +kernel
theorem dX3_toldTrouble_4 : decode cX3_toldTrouble 4 = .ok (.iload_n 1, 1) := by decide +kernel
theorem dX3_toldTrouble_5 : decode cX3_toldTrouble 5 = .ok (.ifCond .lt 9, 3) := by decide +kernel
theorem dX3_toldTrouble_8 : decode cX3_toldTrouble 8 = .ok (.iload_n 1, 1) := by decide +kernel
theorem dX3_toldTrouble_9 : decode cX3_toldTrouble 9 = .ok (.bipush 40, 2) := by decide +kernel
theorem dX3_toldTrouble_11 : decode cX3_toldTrouble 11 = .ok (.if_icmp .le 6, 3) := by decide +kernel
theorem dX3_toldTrouble_14 : decode cX3_toldTrouble 14 = .ok (.bipush (-2), 2) := by decide +kernel
theorem dX3_toldTrouble_16 : decode cX3_toldTrouble 16 = .ok (.ireturn, 1) := by decide +kernel
theorem dX3_toldTrouble_17 : decode cX3_toldTrouble 17 = .ok (.aload_n 0, 1) := by decide +kernel
theorem dX3_toldTrouble_18 : decode cX3_toldTrouble 18 = .ok (.invokestatic 68, 3) := by decide +kernel
theorem dX3_toldTrouble_21 : decode cX3_toldTrouble 21 = .ok (.istore_n 2, 1) := by decide +kernel
theorem dX3_toldTrouble_22 : decode cX3_toldTrouble 22 = .ok (.iload_n 2, 1) := by decide +kernel
theorem dX3_toldTrouble_23 : decode cX3_toldTrouble 23 = .ok (.ifCond .ne 16, 3) := by decide +kernel
theorem dX3_toldTrouble_26 : decode cX3_toldTrouble 26 = .ok (.iload_n 1, 1) := by decide +kernel
theorem dX3_toldTrouble_27 : decode cX3_toldTrouble 27 = .ok (.aload_n 0, 1) := by decide +kernel
theorem dX3_toldTrouble_28 : decode cX3_toldTrouble 28 = .ok (.getfield 373, 3) := by decide +kernel
theorem dX3_toldTrouble_31 : decode cX3_toldTrouble 31 = .ok (.if_icmp .le 8, 3) := by decide +kernel
theorem dX3_toldTrouble_34 : decode cX3_toldTrouble 34 = .ok (.bipush (-2), 2) := by decide +kernel
theorem dX3_toldTrouble_36 : decode cX3_toldTrouble 36 = .ok (.goto 4, 3) := by decide +kernel
theorem dX3_toldTrouble_39 : decode cX3_toldTrouble 39 = .ok (.iload_n 2, 1) := by decide +kernel
theorem dX3_toldTrouble_40 : decode cX3_toldTrouble 40 = .ok (.ireturn, 1) := by decide +kernel
theorem dX3_toldWrong_0 : decode cX3_toldWrong 0 = .ok (.aload_n 0, 1) := by decide +kernel
theorem dX3_toldWrong_1 : decode cX3_toldWrong 1 = .ok (.getfield 16, 3) := by decide +kernel
theorem dX3_toldWrong_4 : decode cX3_toldWrong 4 = .ok (.aload_n 0, 1) := by decide +kernel
theorem dX3_toldWrong_5 : decode cX3_toldWrong 5 = .ok (.getfield 10, 3) := by decide +kernel
theorem dX3_toldWrong_8 : decode cX3_toldWrong 8 = .ok (.invokevirtual 165, 3) := by decide +kernel
theorem dX3_toldWrong_11 : decode cX3_toldWrong 11 = .ok (.iconst 0, 1) := by decide +kernel
theorem dX3_toldWrong_12 : decode cX3_toldWrong 12 = .ok (.istore_n 3, 1) := by decide +kernel
theorem dX3_toldWrong_13 : decode cX3_toldWrong 13 = .ok (.iload_n 3, 1) := by decide +kernel
theorem dX3_toldWrong_14 : decode cX3_toldWrong 14 = .ok (.iload_n 2, 1) := by decide +kernel
theorem dX3_toldWrong_15 : decode cX3_toldWrong 15 = .ok (.if_icmp .ge 81, 3) := by decide +kernel
theorem dX3_toldWrong_18 : decode cX3_toldWrong 18 = .ok (.aload_n 1, 1) := by decide +kernel
theorem dX3_toldWrong_19 : decode cX3_toldWrong 19 = .ok (.ifnonnull 9, 3) := by decide +kernel
theorem dX3_toldWrong_22 : decode cX3_toldWrong 22 = .ok (.ldc2_w 303, 3) := by decide +kernel
theorem dX3_toldWrong_25 : decode cX3_toldWrong 25 = .ok (.goto 8, 3) := by decide +kernel
theorem dX3_toldWrong_28 : decode cX3_toldWrong 28 = .ok (.aload_n 1, 1) := by decide +kernel
theorem dX3_toldWrong_29 : decode cX3_toldWrong 29 = .ok (.iload_n 3, 1) := by decide +kernel
theorem dX3_toldWrong_30 : decode cX3_toldWrong 30 = .ok (.invokevirtual 104, 3) := by decide +kernel
theorem dX3_toldWrong_33 : decode cX3_toldWrong 33 = .ok (.lstore 4, 2) := by decide +kernel
theorem dX3_toldWrong_35 : decode cX3_toldWrong 35 = .ok (.lload 4, 2) := by decide +kernel
theorem dX3_toldWrong_37 : decode cX3_toldWrong 37 = .ok (.lload 4, 2) := by decide +kernel
theorem dX3_toldWrong_39 : decode cX3_toldWrong 39 = .ok (.l2i, 1) := by decide +kernel
theorem dX3_toldWrong_40 : decode cX3_toldWrong 40 = .ok (.i2l, 1) := by decide +kernel
theorem dX3_toldWrong_41 : decode cX3_toldWrong 41 = .ok (.lcmp, 1) := by decide +kernel
theorem dX3_toldWrong_42 : decode cX3_toldWrong 42 = .ok (.ifCond .ne 16, 3) := by decide +kernel
theorem dX3_toldWrong_45 : decode cX3_toldWrong 45 = .ok (.aload_n 0, 1) := by decide +kernel
theorem dX3_toldWrong_46 : decode cX3_toldWrong 46 = .ok (.getfield 16, 3) := by decide +kernel
theorem dX3_toldWrong_49 : decode cX3_toldWrong 49 = .ok (.lload 4, 2) := by decide +kernel
theorem dX3_toldWrong_51 : decode cX3_toldWrong 51 = .ok (.l2i, 1) := by decide +kernel
theorem dX3_toldWrong_52 : decode cX3_toldWrong 52 = .ok (.invokevirtual 239, 3) := by decide +kernel
theorem dX3_toldWrong_55 : decode cX3_toldWrong 55 = .ok (.goto 4, 3) := by decide +kernel
theorem dX3_toldWrong_58 : decode cX3_toldWrong 58 = .ok (.iconst (-1), 1) := by decide +kernel
theorem dX3_toldWrong_59 : decode cX3_toldWrong 59 = .ok (.istore 6, 2) := by decide +kernel
theorem dX3_toldWrong_61 : decode cX3_toldWrong 61 = .ok (.iload 6, 2) := by decide +kernel
theorem dX3_toldWrong_63 : decode cX3_toldWrong 63 = .ok (.iconst (-1), 1) := by decide +kernel
theorem dX3_toldWrong_64 : decode cX3_toldWrong 64 = .ok (.if_icmp .eq 15, 3) := by decide +kernel
theorem dX3_toldWrong_67 : decode cX3_toldWrong 67 = .ok (.aload_n 0, 1) := by decide +kernel
theorem dX3_toldWrong_68 : decode cX3_toldWrong 68 = .ok (.getfield 16, 3) := by decide +kernel
theorem dX3_toldWrong_71 : decode cX3_toldWrong 71 = .ok (.iload 6, 2) := by decide +kernel
theorem dX3_toldWrong_73 : decode cX3_toldWrong 73 = .ok (.invokevirtual 242, 3) := by decide +kernel
theorem dX3_toldWrong_76 : decode cX3_toldWrong 76 = .ok (.ifCond .ne 5, 3) := by decide +kernel
theorem dX3_toldWrong_79 : decode cX3_toldWrong 79 = .ok (.iload_n 3, 1) := by decide +kernel
theorem dX3_toldWrong_80 : decode cX3_toldWrong 80 = .ok (.ireturn, 1) := by decide +kernel
theorem dX3_toldWrong_81 : decode cX3_toldWrong 81 = .ok (.aload_n 0, 1) := by decide +kernel
theorem dX3_toldWrong_82 : decode cX3_toldWrong 82 = .ok (.getfield 16, 3) := by decide +kernel
theorem dX3_toldWrong_85 : decode cX3_toldWrong 85 = .ok (.iload 6, 2) := by decide +kernel
theorem dX3_toldWrong_87 : decode cX3_toldWrong 87 = .ok (.invokevirtual 311, 3) := by decide +kernel
theorem dX3_toldWrong_90 : decode cX3_toldWrong 90 = .ok (.iinc 3 1, 3) := by decide +kernel
theorem dX3_toldWrong_93 : decode cX3_toldWrong 93 = .ok (.goto (-80), 3) := by decide +kernel
theorem dX3_toldWrong_96 : decode cX3_toldWrong 96 = .ok (.iconst (-1), 1) := by decide +kernel
theorem dX3_toldWrong_97 : decode cX3_toldWrong 97 = .ok (.ireturn, 1) := by decide +kernel
theorem dX3_dropLostPlayer_0 : decode cX3_dropLostPlayer 0 = .ok (.aload_n 1, 1) := by decide +kernel
theorem dX3_dropLostPlayer_1 : decode cX3_dropLostPlayer 1 = .ok (.ifnull 28, 3) := by decide +kernel
theorem dX3_dropLostPlayer_4 : decode cX3_dropLostPlayer 4 = .ok (.aload_n 1, 1) := by decide +kernel
theorem dX3_dropLostPlayer_5 : decode cX3_dropLostPlayer 5 = .ok (.invokevirtual 80, 3) := by decide +kernel
theorem dX3_dropLostPlayer_8 : decode cX3_dropLostPlayer 8 = .ok (.ifCond .eq 21, 3) := by decide +kernel
theorem dX3_dropLostPlayer_11 : decode cX3_dropLostPlayer 11 = .ok (.aload_n 0, 1) := by decide +kernel
theorem dX3_dropLostPlayer_12 : decode cX3_dropLostPlayer 12 = .ok (.aload_n 1, 1) := by decide +kernel
theorem dX3_dropLostPlayer_13 : decode cX3_dropLostPlayer 13 = .ok (.getfield 87, 3) := by decide +kernel
theorem dX3_dropLostPlayer_16 : decode cX3_dropLostPlayer 16 = .ok (.bipush 10, 2) := by decide +kernel
theorem dX3_dropLostPlayer_18 : decode cX3_dropLostPlayer 18 = .ok (.isub, 1) := by decide +kernel
theorem dX3_dropLostPlayer_19 : decode cX3_dropLostPlayer 19 = .ok (.invokevirtual 108, 3) := by decide +kernel
theorem dX3_dropLostPlayer_22 : decode cX3_dropLostPlayer 22 = .ok (.ifCond .ne 7, 3) := by decide +kernel
theorem dX3_dropLostPlayer_25 : decode cX3_dropLostPlayer 25 = .ok (.aload_n 1, 1) := by decide +kernel
theorem dX3_dropLostPlayer_26 : decode cX3_dropLostPlayer 26 = .ok (.invokevirtual 111, 3) := by decide +kernel
theorem dX3_dropLostPlayer_29 : decode cX3_dropLostPlayer 29 = .ok (.return_, 1) := by decide +kernel
theorem dX3_fullShelves_0 : decode cX3_fullShelves 0 = .ok (.iconst 0, 1) := by decide +kernel
theorem dX3_fullShelves_1 : decode cX3_fullShelves 1 = .ok (.istore_n 1, 1) := by decide +kernel
theorem dX3_fullShelves_2 : decode cX3_fullShelves 2 = .ok (.iconst 0, 1) := by decide +kernel
theorem dX3_fullShelves_3 : decode cX3_fullShelves 3 = .ok (.istore_n 2, 1) := by decide +kernel
theorem dX3_fullShelves_4 : decode cX3_fullShelves 4 = .ok (.iload_n 2, 1) := by decide +kernel
theorem dX3_fullShelves_5 : decode cX3_fullShelves 5 = .ok (.bipush 8, 2) := by decide +kernel
theorem dX3_fullShelves_7 : decode cX3_fullShelves 7 = .ok (.if_icmp .ge 29, 3) := by decide +kernel
theorem dX3_fullShelves_10 : decode cX3_fullShelves 10 = .ok (.iload_n 1, 1) := by decide +kernel
theorem dX3_fullShelves_11 : decode cX3_fullShelves 11 = .ok (.aload_n 0, 1) := by decide +kernel
theorem dX3_fullShelves_12 : decode cX3_fullShelves 12 = .ok (.iload_n 2, 1) := by decide +kernel
theorem dX3_fullShelves_13 : decode cX3_fullShelves 13 = .ok (.invokevirtual 374, 3) := by decide +kernel
theorem dX3_fullShelves_16 : decode cX3_fullShelves 16 = .ok (.iconst (-1), 1) := by decide +kernel
theorem dX3_fullShelves_17 : decode cX3_fullShelves 17 = .ok (.if_icmp .eq 7, 3) := by decide +kernel
theorem dX3_fullShelves_20 : decode cX3_fullShelves 20 = .ok (.iconst 1, 1) := by decide +kernel
theorem dX3_fullShelves_21 : decode cX3_fullShelves 21 = .ok (.goto 4, 3) := by decide +kernel
theorem dX3_fullShelves_24 : decode cX3_fullShelves 24 = .ok (.iconst 0, 1) := by decide +kernel
theorem dX3_fullShelves_25 : decode cX3_fullShelves 25 = .ok (.invokestatic 192, 3) := by decide +kernel
theorem dX3_fullShelves_28 : decode cX3_fullShelves 28 = .ok (.iadd, 1) := by decide +kernel
theorem dX3_fullShelves_29 : decode cX3_fullShelves 29 = .ok (.istore_n 1, 1) := by decide +kernel
theorem dX3_fullShelves_30 : decode cX3_fullShelves 30 = .ok (.iinc 2 1, 3) := by decide +kernel
theorem dX3_fullShelves_33 : decode cX3_fullShelves 33 = .ok (.goto (-29), 3) := by decide +kernel
theorem dX3_fullShelves_36 : decode cX3_fullShelves 36 = .ok (.iload_n 1, 1) := by decide +kernel
theorem dX3_fullShelves_37 : decode cX3_fullShelves 37 = .ok (.ireturn, 1) := by decide +kernel
theorem dX3_isPlayer_0 : decode cX3_isPlayer 0 = .ok (.iload_n 1, 1) := by decide +kernel
theorem dX3_isPlayer_1 : decode cX3_isPlayer 1 = .ok (.ifCond .lt 15, 3) := by decide +kernel
theorem dX3_isPlayer_4 : decode cX3_isPlayer 4 = .ok (.iload_n 1, 1) := by decide +kernel
theorem dX3_isPlayer_5 : decode cX3_isPlayer 5 = .ok (.aload_n 0, 1) := by decide +kernel
theorem dX3_isPlayer_6 : decode cX3_isPlayer 6 = .ok (.getfield 33, 3) := by decide +kernel
theorem dX3_isPlayer_9 : decode cX3_isPlayer 9 = .ok (.if_icmp .ge 7, 3) := by decide +kernel
theorem dX3_isPlayer_12 : decode cX3_isPlayer 12 = .ok (.iconst 1, 1) := by decide +kernel
theorem dX3_isPlayer_13 : decode cX3_isPlayer 13 = .ok (.goto 4, 3) := by decide +kernel
theorem dX3_isPlayer_16 : decode cX3_isPlayer 16 = .ok (.iconst 0, 1) := by decide +kernel
theorem dX3_isPlayer_17 : decode cX3_isPlayer 17 = .ok (.ireturn, 1) := by decide +kernel
theorem dX3_kindOf_0 : decode cX3_kindOf 0 = .ok (.iload_n 1, 1) := by decide +kernel
theorem dX3_kindOf_1 : decode cX3_kindOf 1 = .ok (.ifCond .lt 21, 3) := by decide +kernel
theorem dX3_kindOf_4 : decode cX3_kindOf 4 = .ok (.iload_n 1, 1) := by decide +kernel
theorem dX3_kindOf_5 : decode cX3_kindOf 5 = .ok (.aload_n 0, 1) := by decide +kernel
theorem dX3_kindOf_6 : decode cX3_kindOf 6 = .ok (.getfield 26, 3) := by decide +kernel
theorem dX3_kindOf_9 : decode cX3_kindOf 9 = .ok (.arraylength, 1) := by decide +kernel
theorem dX3_kindOf_10 : decode cX3_kindOf 10 = .ok (.if_icmp .ge 12, 3) := by decide +kernel
theorem dX3_kindOf_13 : decode cX3_kindOf 13 = .ok (.aload_n 0, 1) := by decide +kernel
theorem dX3_kindOf_14 : decode cX3_kindOf 14 = .ok (.getfield 26, 3) := by decide +kernel
theorem dX3_kindOf_17 : decode cX3_kindOf 17 = .ok (.iload_n 1, 1) := by decide +kernel
theorem dX3_kindOf_18 : decode cX3_kindOf 18 = .ok (.iaload, 1) := by decide +kernel
theorem dX3_kindOf_19 : decode cX3_kindOf 19 = .ok (.goto 4, 3) := by decide +kernel
theorem dX3_kindOf_22 : decode cX3_kindOf 22 = .ok (.iconst 0, 1) := by decide +kernel
theorem dX3_kindOf_23 : decode cX3_kindOf 23 = .ok (.ireturn, 1) := by decide +kernel
theorem dX3_amountOf_0 : decode cX3_amountOf 0 = .ok (.iload_n 1, 1) := by decide +kernel
theorem dX3_amountOf_1 : decode cX3_amountOf 1 = .ok (.ifCond .lt 21, 3) := by decide +kernel
theorem dX3_amountOf_4 : decode cX3_amountOf 4 = .ok (.iload_n 1, 1) := by decide +kernel
theorem dX3_amountOf_5 : decode cX3_amountOf 5 = .ok (.aload_n 0, 1) := by decide +kernel
theorem dX3_amountOf_6 : decode cX3_amountOf 6 = .ok (.getfield 30, 3) := by decide +kernel
theorem dX3_amountOf_9 : decode cX3_amountOf 9 = .ok (.arraylength, 1) := by decide +kernel
theorem dX3_amountOf_10 : decode cX3_amountOf 10 = .ok (.if_icmp .ge 12, 3) := by decide +kernel
theorem dX3_amountOf_13 : decode cX3_amountOf 13 = .ok (.aload_n 0, 1) := by decide +kernel
theorem dX3_amountOf_14 : decode cX3_amountOf 14 = .ok (.getfield 30, 3) := by decide +kernel
theorem dX3_amountOf_17 : decode cX3_amountOf 17 = .ok (.iload_n 1, 1) := by decide +kernel
theorem dX3_amountOf_18 : decode cX3_amountOf 18 = .ok (.iaload, 1) := by decide +kernel
theorem dX3_amountOf_19 : decode cX3_amountOf 19 = .ok (.goto 4, 3) := by decide +kernel
theorem dX3_amountOf_22 : decode cX3_amountOf 22 = .ok (.iconst 0, 1) := by decide +kernel
theorem dX3_amountOf_23 : decode cX3_amountOf 23 = .ok (.ireturn, 1) := by decide +kernel
theorem dX3_enlist_0 : decode cX3_enlist 0 = .ok (.iload_n 1, 1) := by decide +kernel
theorem dX3_enlist_1 : decode cX3_enlist 1 = .ok (.ifCond .lt 35, 3) := by decide +kernel
theorem dX3_enlist_4 : decode cX3_enlist 4 = .ok (.iload_n 1, 1) := by decide +kernel
theorem dX3_enlist_5 : decode cX3_enlist 5 = .ok (.aload_n 0, 1) := by decide +kernel
theorem dX3_enlist_6 : decode cX3_enlist 6 = .ok (.getfield 26, 3) := by decide +kernel
theorem dX3_enlist_9 : decode cX3_enlist 9 = .ok (.arraylength, 1) := by decide +kernel
theorem dX3_enlist_10 : decode cX3_enlist 10 = .ok (.if_icmp .ge 26, 3) := by decide +kernel
theorem dX3_enlist_13 : decode cX3_enlist 13 = .ok (.iload_n 1, 1) := by decide +kernel
theorem dX3_enlist_14 : decode cX3_enlist 14 = .ok (.aload_n 0, 1) := by decide +kernel
theorem dX3_enlist_15 : decode cX3_enlist 15 = .ok (.getfield 30, 3) := by decide +kernel
theorem dX3_enlist_18 : decode cX3_enlist 18 = .ok (.arraylength, 1) := by decide +kernel
theorem dX3_enlist_19 : decode cX3_enlist 19 = .ok (.if_icmp .ge 17, 3) := by decide +kernel
theorem dX3_enlist_22 : decode cX3_enlist 22 = .ok (.aload_n 0, 1) := by decide +kernel
theorem dX3_enlist_23 : decode cX3_enlist 23 = .ok (.getfield 26, 3) := by decide +kernel
theorem dX3_enlist_26 : decode cX3_enlist 26 = .ok (.iload_n 1, 1) := by decide +kernel
theorem dX3_enlist_27 : decode cX3_enlist 27 = .ok (.iload_n 2, 1) := by decide +kernel
theorem dX3_enlist_28 : decode cX3_enlist 28 = .ok (.iastore, 1) := by decide +kernel
theorem dX3_enlist_29 : decode cX3_enlist 29 = .ok (.aload_n 0, 1) := by decide +kernel
theorem dX3_enlist_30 : decode cX3_enlist 30 = .ok (.getfield 30, 3) := by decide +kernel
theorem dX3_enlist_33 : decode cX3_enlist 33 = .ok (.iload_n 1, 1) := by decide +kernel
theorem dX3_enlist_34 : decode cX3_enlist 34 = .ok (.iload_n 3, 1) := by decide +kernel
theorem dX3_enlist_35 : decode cX3_enlist 35 = .ok (.iastore, 1) := by decide +kernel
theorem dX3_enlist_36 : decode cX3_enlist 36 = .ok (.return_, 1) := by decide +kernel
theorem dX3_isUnder_0 : decode cX3_isUnder 0 = .ok (.iload_n 0, 1) := by decide +kernel
theorem dX3_isUnder_1 : decode cX3_isUnder 1 = .ok (.istore_n 2, 1) := by decide +kernel
theorem dX3_isUnder_2 : decode cX3_isUnder 2 = .ok (.iconst 0, 1) := by decide +kernel
theorem dX3_isUnder_3 : decode cX3_isUnder 3 = .ok (.istore_n 3, 1) := by decide +kernel
theorem dX3_isUnder_4 : decode cX3_isUnder 4 = .ok (.iload_n 3, 1) := by decide +kernel
theorem dX3_isUnder_5 : decode cX3_isUnder 5 = .ok (.bipush 6, 2) := by decide +kernel
theorem dX3_isUnder_7 : decode cX3_isUnder 7 = .ok (.if_icmp .ge 32, 3) := by decide +kernel
theorem dX3_isUnder_10 : decode cX3_isUnder 10 = .ok (.iload_n 2, 1) := by decide +kernel
theorem dX3_isUnder_11 : decode cX3_isUnder 11 = .ok (.iload_n 1, 1) := by decide +kernel
theorem dX3_isUnder_12 : decode cX3_isUnder 12 = .ok (.if_icmp .eq 27, 3) := by decide +kernel
theorem dX3_isUnder_15 : decode cX3_isUnder 15 = .ok (.iload_n 2, 1) := by decide +kernel
theorem dX3_isUnder_16 : decode cX3_isUnder 16 = .ok (.ifCond .lt 23, 3) := by decide +kernel
theorem dX3_isUnder_19 : decode cX3_isUnder 19 = .ok (.iload_n 2, 1) := by decide +kernel
theorem dX3_isUnder_20 : decode cX3_isUnder 20 = .ok (.getstatic 377, 3) := by decide +kernel
theorem dX3_isUnder_23 : decode cX3_isUnder 23 = .ok (.arraylength, 1) := by decide +kernel
theorem dX3_isUnder_24 : decode cX3_isUnder 24 = .ok (.if_icmp .ge 15, 3) := by decide +kernel
theorem dX3_isUnder_27 : decode cX3_isUnder 27 = .ok (.getstatic 377, 3) := by decide +kernel
theorem dX3_isUnder_30 : decode cX3_isUnder 30 = .ok (.iload_n 2, 1) := by decide +kernel
theorem dX3_isUnder_31 : decode cX3_isUnder 31 = .ok (.iaload, 1) := by decide +kernel
theorem dX3_isUnder_32 : decode cX3_isUnder 32 = .ok (.istore_n 2, 1) := by decide +kernel
theorem dX3_isUnder_33 : decode cX3_isUnder 33 = .ok (.iinc 3 1, 3) := by decide +kernel
theorem dX3_isUnder_36 : decode cX3_isUnder 36 = .ok (.goto (-32), 3) := by decide +kernel
theorem dX3_isUnder_39 : decode cX3_isUnder 39 = .ok (.iload_n 2, 1) := by decide +kernel
theorem dX3_isUnder_40 : decode cX3_isUnder 40 = .ok (.iload_n 1, 1) := by decide +kernel
theorem dX3_isUnder_41 : decode cX3_isUnder 41 = .ok (.if_icmp .ne 7, 3) := by decide +kernel
theorem dX3_isUnder_44 : decode cX3_isUnder 44 = .ok (.iconst 1, 1) := by decide +kernel
theorem dX3_isUnder_45 : decode cX3_isUnder 45 = .ok (.goto 4, 3) := by decide +kernel
theorem dX3_isUnder_48 : decode cX3_isUnder 48 = .ok (.iconst 0, 1) := by decide +kernel
theorem dX3_isUnder_49 : decode cX3_isUnder 49 = .ok (.ireturn, 1) := by decide +kernel
theorem dX3_chosenSlot_0 : decode cX3_chosenSlot 0 = .ok (.aload_n 1, 1) := by decide +kernel
theorem dX3_chosenSlot_1 : decode cX3_chosenSlot 1 = .ok (.invokevirtual 127, 3) := by decide +kernel
theorem dX3_chosenSlot_4 : decode cX3_chosenSlot 4 = .ok (.lstore_n 3, 1) := by decide +kernel
theorem dX3_chosenSlot_5 : decode cX3_chosenSlot 5 = .ok (.lconst 0, 1) := by decide +kernel
theorem dX3_chosenSlot_6 : decode cX3_chosenSlot 6 = .ok (.lstore 5, 2) := by decide +kernel
theorem dX3_chosenSlot_8 : decode cX3_chosenSlot 8 = .ok (.aload_n 0, 1) := by decide +kernel
theorem dX3_chosenSlot_9 : decode cX3_chosenSlot 9 = .ok (.iload_n 2, 1) := by decide +kernel
theorem dX3_chosenSlot_10 : decode cX3_chosenSlot 10 = .ok (.invokevirtual 118, 3) := by decide +kernel
theorem dX3_chosenSlot_13 : decode cX3_chosenSlot 13 = .ok (.tableswitch 112 1 5 #[35, 66, 44, 84, 106], 35) := by decide +kernel
theorem dX3_chosenSlot_48 : decode cX3_chosenSlot 48 = .ok (.aload_n 1, 1) := by decide +kernel
theorem dX3_chosenSlot_49 : decode cX3_chosenSlot 49 = .ok (.invokevirtual 380, 3) := by decide +kernel
theorem dX3_chosenSlot_52 : decode cX3_chosenSlot 52 = .ok (.lstore 5, 2) := by decide +kernel
theorem dX3_chosenSlot_54 : decode cX3_chosenSlot 54 = .ok (.goto 71, 3) := by decide +kernel
theorem dX3_chosenSlot_57 : decode cX3_chosenSlot 57 = .ok (.aload_n 1, 1) := by decide +kernel
theorem dX3_chosenSlot_58 : decode cX3_chosenSlot 58 = .ok (.invokevirtual 380, 3) := by decide +kernel
theorem dX3_chosenSlot_61 : decode cX3_chosenSlot 61 = .ok (.lstore 5, 2) := by decide +kernel
theorem dX3_chosenSlot_63 : decode cX3_chosenSlot 63 = .ok (.lload 5, 2) := by decide +kernel
theorem dX3_chosenSlot_65 : decode cX3_chosenSlot 65 = .ok (.lconst 0, 1) := by decide +kernel
theorem dX3_chosenSlot_66 : decode cX3_chosenSlot 66 = .ok (.lcmp, 1) := by decide +kernel
theorem dX3_chosenSlot_67 : decode cX3_chosenSlot 67 = .ok (.ifCond .ne 58, 3) := by decide +kernel
theorem dX3_chosenSlot_70 : decode cX3_chosenSlot 70 = .ok (.aload_n 1, 1) := by decide +kernel
theorem dX3_chosenSlot_71 : decode cX3_chosenSlot 71 = .ok (.invokevirtual 290, 3) := by decide +kernel
theorem dX3_chosenSlot_74 : decode cX3_chosenSlot 74 = .ok (.lstore 5, 2) := by decide +kernel
theorem dX3_chosenSlot_76 : decode cX3_chosenSlot 76 = .ok (.goto 49, 3) := by decide +kernel
theorem dX3_chosenSlot_79 : decode cX3_chosenSlot 79 = .ok (.aload_n 1, 1) := by decide +kernel
theorem dX3_chosenSlot_80 : decode cX3_chosenSlot 80 = .ok (.aload_n 0, 1) := by decide +kernel
theorem dX3_chosenSlot_81 : decode cX3_chosenSlot 81 = .ok (.iload_n 2, 1) := by decide +kernel
theorem dX3_chosenSlot_82 : decode cX3_chosenSlot 82 = .ok (.invokevirtual 124, 3) := by decide +kernel
theorem dX3_chosenSlot_85 : decode cX3_chosenSlot 85 = .ok (.aload_n 1, 1) := by decide +kernel
theorem dX3_chosenSlot_86 : decode cX3_chosenSlot 86 = .ok (.getfield 293, 3) := by decide +kernel
theorem dX3_chosenSlot_89 : decode cX3_chosenSlot 89 = .ok (.invokevirtual 383, 3) := by decide +kernel
theorem dX3_chosenSlot_92 : decode cX3_chosenSlot 92 = .ok (.lstore 5, 2) := by decide +kernel
theorem dX3_chosenSlot_94 : decode cX3_chosenSlot 94 = .ok (.goto 31, 3) := by decide +kernel
theorem dX3_chosenSlot_97 : decode cX3_chosenSlot 97 = .ok (.aload_n 1, 1) := by decide +kernel
theorem dX3_chosenSlot_98 : decode cX3_chosenSlot 98 = .ok (.aload_n 0, 1) := by decide +kernel
theorem dX3_chosenSlot_99 : decode cX3_chosenSlot 99 = .ok (.iload_n 2, 1) := by decide +kernel
theorem dX3_chosenSlot_100 : decode cX3_chosenSlot 100 = .ok (.invokevirtual 124, 3) := by decide +kernel
theorem dX3_chosenSlot_103 : decode cX3_chosenSlot 103 = .ok (.aload_n 1, 1) := by decide +kernel
theorem dX3_chosenSlot_104 : decode cX3_chosenSlot 104 = .ok (.aload_n 1, 1) := by decide +kernel
theorem dX3_chosenSlot_105 : decode cX3_chosenSlot 105 = .ok (.getfield 221, 3) := by decide +kernel
theorem dX3_chosenSlot_108 : decode cX3_chosenSlot 108 = .ok (.invokevirtual 224, 3) := by decide +kernel
theorem dX3_chosenSlot_111 : decode cX3_chosenSlot 111 = .ok (.invokevirtual 383, 3) := by decide +kernel
theorem dX3_chosenSlot_114 : decode cX3_chosenSlot 114 = .ok (.lstore 5, 2) := by decide +kernel
theorem dX3_chosenSlot_116 : decode cX3_chosenSlot 116 = .ok (.goto 9, 3) := by decide +kernel
theorem dX3_chosenSlot_119 : decode cX3_chosenSlot 119 = .ok (.aload_n 1, 1) := by decide +kernel
theorem dX3_chosenSlot_120 : decode cX3_chosenSlot 120 = .ok (.lload_n 3, 1) := by decide +kernel
theorem dX3_chosenSlot_121 : decode cX3_chosenSlot 121 = .ok (.invokevirtual 387, 3) := by decide +kernel
theorem dX3_chosenSlot_124 : decode cX3_chosenSlot 124 = .ok (.ireturn, 1) := by decide +kernel
theorem dX3_chosenSlot_125 : decode cX3_chosenSlot 125 = .ok (.lload 5, 2) := by decide +kernel
theorem dX3_chosenSlot_127 : decode cX3_chosenSlot 127 = .ok (.lconst 0, 1) := by decide +kernel
theorem dX3_chosenSlot_128 : decode cX3_chosenSlot 128 = .ok (.lcmp, 1) := by decide +kernel
theorem dX3_chosenSlot_129 : decode cX3_chosenSlot 129 = .ok (.ifCond .ne 7, 3) := by decide +kernel
theorem dX3_chosenSlot_132 : decode cX3_chosenSlot 132 = .ok (.lload_n 3, 1) := by decide +kernel
theorem dX3_chosenSlot_133 : decode cX3_chosenSlot 133 = .ok (.goto 5, 3) := by decide +kernel
theorem dX3_chosenSlot_136 : decode cX3_chosenSlot 136 = .ok (.lload 5, 2) := by decide +kernel
theorem dX3_chosenSlot_138 : decode cX3_chosenSlot 138 = .ok (.invokestatic 318, 3) := by decide +kernel
theorem dX3_chosenSlot_141 : decode cX3_chosenSlot 141 = .ok (.ireturn, 1) := by decide +kernel
theorem dX3_thoughtChoice_0 : decode cX3_thoughtChoice 0 = .ok (.aload_n 0, 1) := by decide +kernel
theorem dX3_thoughtChoice_1 : decode cX3_thoughtChoice 1 = .ok (.getfield 16, 3) := by decide +kernel
theorem dX3_thoughtChoice_4 : decode cX3_thoughtChoice 4 = .ok (.aload_n 0, 1) := by decide +kernel
theorem dX3_thoughtChoice_5 : decode cX3_thoughtChoice 5 = .ok (.getfield 10, 3) := by decide +kernel
theorem dX3_thoughtChoice_8 : decode cX3_thoughtChoice 8 = .ok (.invokevirtual 165, 3) := by decide +kernel
theorem dX3_thoughtChoice_11 : decode cX3_thoughtChoice 11 = .ok (.aload_n 0, 1) := by decide +kernel
theorem dX3_thoughtChoice_12 : decode cX3_thoughtChoice 12 = .ok (.aload_n 0, 1) := by decide +kernel
theorem dX3_thoughtChoice_13 : decode cX3_thoughtChoice 13 = .ok (.getfield 16, 3) := by decide +kernel
theorem dX3_thoughtChoice_16 : decode cX3_thoughtChoice 16 = .ok (.iload_n 1, 1) := by decide +kernel
theorem dX3_thoughtChoice_17 : decode cX3_thoughtChoice 17 = .ok (.invokevirtual 344, 3) := by decide +kernel
theorem dX3_thoughtChoice_20 : decode cX3_thoughtChoice 20 = .ok (.invokestatic 249, 3) := by decide +kernel
theorem dX3_thoughtChoice_23 : decode cX3_thoughtChoice 23 = .ok (.ireturn, 1) := by decide +kernel
theorem dX3_playOut_0 : decode cX3_playOut 0 = .ok (.aload_n 0, 1) := by decide +kernel
theorem dX3_playOut_1 : decode cX3_playOut 1 = .ok (.getfield 16, 3) := by decide +kernel
theorem dX3_playOut_4 : decode cX3_playOut 4 = .ok (.aload_n 0, 1) := by decide +kernel
theorem dX3_playOut_5 : decode cX3_playOut 5 = .ok (.getfield 10, 3) := by decide +kernel
theorem dX3_playOut_8 : decode cX3_playOut 8 = .ok (.invokevirtual 165, 3) := by decide +kernel
theorem dX3_playOut_11 : decode cX3_playOut 11 = .ok (.iconst (-1), 1) := by decide +kernel
theorem dX3_playOut_12 : decode cX3_playOut 12 = .ok (.istore_n 3, 1) := by decide +kernel
theorem dX3_playOut_13 : decode cX3_playOut 13 = .ok (.iconst 0, 1) := by decide +kernel
theorem dX3_playOut_14 : decode cX3_playOut 14 = .ok (.istore 4, 2) := by decide +kernel
theorem dX3_playOut_16 : decode cX3_playOut 16 = .ok (.iload 4, 2) := by decide +kernel
theorem dX3_playOut_18 : decode cX3_playOut 18 = .ok (.bipush 56, 2) := by decide +kernel
theorem dX3_playOut_20 : decode cX3_playOut 20 = .ok (.if_icmp .ge 67, 3) := by decide +kernel
theorem dX3_playOut_23 : decode cX3_playOut 23 = .ok (.aload_n 0, 1) := by decide +kernel
theorem dX3_playOut_24 : decode cX3_playOut 24 = .ok (.aload_n 0, 1) := by decide +kernel
theorem dX3_playOut_25 : decode cX3_playOut 25 = .ok (.getfield 16, 3) := by decide +kernel
theorem dX3_playOut_28 : decode cX3_playOut 28 = .ok (.aload_n 0, 1) := by decide +kernel
theorem dX3_playOut_29 : decode cX3_playOut 29 = .ok (.getfield 16, 3) := by decide +kernel
theorem dX3_playOut_32 : decode cX3_playOut 32 = .ok (.getfield 156, 3) := by decide +kernel
theorem dX3_playOut_35 : decode cX3_playOut 35 = .ok (.aload_n 0, 1) := by decide +kernel
theorem dX3_playOut_36 : decode cX3_playOut 36 = .ok (.getfield 10, 3) := by decide +kernel
theorem dX3_playOut_39 : decode cX3_playOut 39 = .ok (.getfield 156, 3) := by decide +kernel
theorem dX3_playOut_42 : decode cX3_playOut 42 = .ok (.if_icmp .ne 7, 3) := by decide +kernel
theorem dX3_playOut_45 : decode cX3_playOut 45 = .ok (.iload_n 1, 1) := by decide +kernel
theorem dX3_playOut_46 : decode cX3_playOut 46 = .ok (.goto 4, 3) := by decide +kernel
theorem dX3_playOut_49 : decode cX3_playOut 49 = .ok (.iload_n 2, 1) := by decide +kernel
theorem dX3_playOut_50 : decode cX3_playOut 50 = .ok (.invokevirtual 344, 3) := by decide +kernel
theorem dX3_playOut_53 : decode cX3_playOut 53 = .ok (.istore 5, 2) := by decide +kernel
theorem dX3_playOut_55 : decode cX3_playOut 55 = .ok (.iload 5, 2) := by decide +kernel
theorem dX3_playOut_57 : decode cX3_playOut 57 = .ok (.iconst (-1), 1) := by decide +kernel
theorem dX3_playOut_58 : decode cX3_playOut 58 = .ok (.if_icmp .ne 6, 3) := by decide +kernel
theorem dX3_playOut_61 : decode cX3_playOut 61 = .ok (.goto 26, 3) := by decide +kernel
theorem dX3_playOut_64 : decode cX3_playOut 64 = .ok (.iload 4, 2) := by decide +kernel
theorem dX3_playOut_66 : decode cX3_playOut 66 = .ok (.ifCond .ne 6, 3) := by decide +kernel
theorem dX3_playOut_69 : decode cX3_playOut 69 = .ok (.iload 5, 2) := by decide +kernel
theorem dX3_playOut_71 : decode cX3_playOut 71 = .ok (.istore_n 3, 1) := by decide +kernel
theorem dX3_playOut_72 : decode cX3_playOut 72 = .ok (.aload_n 0, 1) := by decide +kernel
theorem dX3_playOut_73 : decode cX3_playOut 73 = .ok (.getfield 16, 3) := by decide +kernel
theorem dX3_playOut_76 : decode cX3_playOut 76 = .ok (.iload 5, 2) := by decide +kernel
theorem dX3_playOut_78 : decode cX3_playOut 78 = .ok (.invokevirtual 311, 3) := by decide +kernel
theorem dX3_playOut_81 : decode cX3_playOut 81 = .ok (.iinc 4 1, 3) := by decide +kernel
theorem dX3_playOut_84 : decode cX3_playOut 84 = .ok (.goto (-68), 3) := by decide +kernel
theorem dX3_playOut_87 : decode cX3_playOut 87 = .ok (.iload_n 3, 1) := by decide +kernel
theorem dX3_playOut_88 : decode cX3_playOut 88 = .ok (.ireturn, 1) := by decide +kernel
theorem dX3_winnings_0 : decode cX3_winnings 0 = .ok (.iconst 0, 1) := by decide +kernel
theorem dX3_winnings_1 : decode cX3_winnings 1 = .ok (.istore_n 2, 1) := by decide +kernel
theorem dX3_winnings_2 : decode cX3_winnings 2 = .ok (.iconst 0, 1) := by decide +kernel
theorem dX3_winnings_3 : decode cX3_winnings 3 = .ok (.istore_n 3, 1) := by decide +kernel
theorem dX3_winnings_4 : decode cX3_winnings 4 = .ok (.iload_n 3, 1) := by decide +kernel
theorem dX3_winnings_5 : decode cX3_winnings 5 = .ok (.aload_n 0, 1) := by decide +kernel
theorem dX3_winnings_6 : decode cX3_winnings 6 = .ok (.getfield 33, 3) := by decide +kernel
theorem dX3_winnings_9 : decode cX3_winnings 9 = .ok (.if_icmp .ge 64, 3) := by decide +kernel
theorem dX3_winnings_12 : decode cX3_winnings 12 = .ok (.iload_n 3, 1) := by decide +kernel
theorem dX3_winnings_13 : decode cX3_winnings 13 = .ok (.iload_n 1, 1) := by decide +kernel
theorem dX3_winnings_14 : decode cX3_winnings 14 = .ok (.if_icmp .eq 53, 3) := by decide +kernel
theorem dX3_winnings_17 : decode cX3_winnings 17 = .ok (.aload_n 0, 1) := by decide +kernel
theorem dX3_winnings_18 : decode cX3_winnings 18 = .ok (.iload_n 1, 1) := by decide +kernel
theorem dX3_winnings_19 : decode cX3_winnings 19 = .ok (.iload_n 3, 1) := by decide +kernel
theorem dX3_winnings_20 : decode cX3_winnings 20 = .ok (.invokevirtual 321, 3) := by decide +kernel
theorem dX3_winnings_23 : decode cX3_winnings 23 = .ok (.pop, 1) := by decide +kernel
theorem dX3_winnings_24 : decode cX3_winnings 24 = .ok (.iload_n 2, 1) := by decide +kernel
theorem dX3_winnings_25 : decode cX3_winnings 25 = .ok (.aload_n 0, 1) := by decide +kernel
theorem dX3_winnings_26 : decode cX3_winnings 26 = .ok (.getfield 16, 3) := by decide +kernel
theorem dX3_winnings_29 : decode cX3_winnings 29 = .ok (.aload_n 0, 1) := by decide +kernel
theorem dX3_winnings_30 : decode cX3_winnings 30 = .ok (.getfield 10, 3) := by decide +kernel
theorem dX3_winnings_33 : decode cX3_winnings 33 = .ok (.getfield 156, 3) := by decide +kernel
theorem dX3_winnings_36 : decode cX3_winnings 36 = .ok (.invokevirtual 255, 3) := by decide +kernel
theorem dX3_winnings_39 : decode cX3_winnings 39 = .ok (.iadd, 1) := by decide +kernel
theorem dX3_winnings_40 : decode cX3_winnings 40 = .ok (.istore_n 2, 1) := by decide +kernel
theorem dX3_winnings_41 : decode cX3_winnings 41 = .ok (.aload_n 0, 1) := by decide +kernel
theorem dX3_winnings_42 : decode cX3_winnings 42 = .ok (.iload_n 3, 1) := by decide +kernel
theorem dX3_winnings_43 : decode cX3_winnings 43 = .ok (.iload_n 1, 1) := by decide +kernel
theorem dX3_winnings_44 : decode cX3_winnings 44 = .ok (.invokevirtual 321, 3) := by decide +kernel
theorem dX3_winnings_47 : decode cX3_winnings 47 = .ok (.pop, 1) := by decide +kernel
theorem dX3_winnings_48 : decode cX3_winnings 48 = .ok (.iload_n 2, 1) := by decide +kernel
theorem dX3_winnings_49 : decode cX3_winnings 49 = .ok (.aload_n 0, 1) := by decide +kernel
theorem dX3_winnings_50 : decode cX3_winnings 50 = .ok (.getfield 16, 3) := by decide +kernel
theorem dX3_winnings_53 : decode cX3_winnings 53 = .ok (.iconst 1, 1) := by decide +kernel
theorem dX3_winnings_54 : decode cX3_winnings 54 = .ok (.aload_n 0, 1) := by decide +kernel
theorem dX3_winnings_55 : decode cX3_winnings 55 = .ok (.getfield 10, 3) := by decide +kernel
theorem dX3_winnings_58 : decode cX3_winnings 58 = .ok (.getfield 156, 3) := by decide +kernel
theorem dX3_winnings_61 : decode cX3_winnings 61 = .ok (.isub, 1) := by decide +kernel
theorem dX3_winnings_62 : decode cX3_winnings 62 = .ok (.invokevirtual 255, 3) := by decide +kernel
theorem dX3_winnings_65 : decode cX3_winnings 65 = .ok (.iadd, 1) := by decide +kernel
theorem dX3_winnings_66 : decode cX3_winnings 66 = .ok (.istore_n 2, 1) := by decide +kernel
theorem dX3_winnings_67 : decode cX3_winnings 67 = .ok (.iinc 3 1, 3) := by decide +kernel
theorem dX3_winnings_70 : decode cX3_winnings 70 = .ok (.goto (-66), 3) := by decide +kernel
theorem dX3_winnings_73 : decode cX3_winnings 73 = .ok (.iload_n 2, 1) := by decide +kernel
theorem dX3_winnings_74 : decode cX3_winnings 74 = .ok (.ireturn, 1) := by decide +kernel
theorem dX3_endByDraws_0 : decode cX3_endByDraws 0 = .ok (.iconst 0, 1) := by decide +kernel
theorem dX3_endByDraws_1 : decode cX3_endByDraws 1 = .ok (.istore_n 1, 1) := by decide +kernel
theorem dX3_endByDraws_2 : decode cX3_endByDraws 2 = .ok (.iload_n 1, 1) := by decide +kernel
theorem dX3_endByDraws_3 : decode cX3_endByDraws 3 = .ok (.bipush 56, 2) := by decide +kernel
theorem dX3_endByDraws_5 : decode cX3_endByDraws 5 = .ok (.if_icmp .ge 40, 3) := by decide +kernel
theorem dX3_endByDraws_8 : decode cX3_endByDraws 8 = .ok (.aload_n 0, 1) := by decide +kernel
theorem dX3_endByDraws_9 : decode cX3_endByDraws 9 = .ok (.getfield 16, 3) := by decide +kernel
theorem dX3_endByDraws_12 : decode cX3_endByDraws 12 = .ok (.aload_n 0, 1) := by decide +kernel
theorem dX3_endByDraws_13 : decode cX3_endByDraws 13 = .ok (.getfield 16, 3) := by decide +kernel
theorem dX3_endByDraws_16 : decode cX3_endByDraws 16 = .ok (.invokevirtual 127, 3) := by decide +kernel
theorem dX3_endByDraws_19 : decode cX3_endByDraws 19 = .ok (.invokevirtual 387, 3) := by decide +kernel
theorem dX3_endByDraws_22 : decode cX3_endByDraws 22 = .ok (.istore_n 2, 1) := by decide +kernel
theorem dX3_endByDraws_23 : decode cX3_endByDraws 23 = .ok (.iload_n 2, 1) := by decide +kernel
theorem dX3_endByDraws_24 : decode cX3_endByDraws 24 = .ok (.iconst (-1), 1) := by decide +kernel
theorem dX3_endByDraws_25 : decode cX3_endByDraws 25 = .ok (.if_icmp .ne 6, 3) := by decide +kernel
theorem dX3_endByDraws_28 : decode cX3_endByDraws 28 = .ok (.goto 17, 3) := by decide +kernel
theorem dX3_endByDraws_31 : decode cX3_endByDraws 31 = .ok (.aload_n 0, 1) := by decide +kernel
theorem dX3_endByDraws_32 : decode cX3_endByDraws 32 = .ok (.getfield 16, 3) := by decide +kernel
theorem dX3_endByDraws_35 : decode cX3_endByDraws 35 = .ok (.iload_n 2, 1) := by decide +kernel
theorem dX3_endByDraws_36 : decode cX3_endByDraws 36 = .ok (.invokevirtual 311, 3) := by decide +kernel
theorem dX3_endByDraws_39 : decode cX3_endByDraws 39 = .ok (.iinc 1 1, 3) := by decide +kernel
theorem dX3_endByDraws_42 : decode cX3_endByDraws 42 = .ok (.goto (-40), 3) := by decide +kernel
theorem dX3_endByDraws_45 : decode cX3_endByDraws 45 = .ok (.return_, 1) := by decide +kernel
theorem dX3_isNearEnd_0 : decode cX3_isNearEnd 0 = .ok (.aload_n 0, 1) := by decide +kernel
theorem dX3_isNearEnd_1 : decode cX3_isNearEnd 1 = .ok (.getfield 10, 3) := by decide +kernel
theorem dX3_isNearEnd_4 : decode cX3_isNearEnd 4 = .ok (.invokevirtual 127, 3) := by decide +kernel
theorem dX3_isNearEnd_7 : decode cX3_isNearEnd 7 = .ok (.invokestatic 131, 3) := by decide +kernel
theorem dX3_isNearEnd_10 : decode cX3_isNearEnd 10 = .ok (.bipush 7, 2) := by decide +kernel
theorem dX3_isNearEnd_12 : decode cX3_isNearEnd 12 = .ok (.if_icmp .gt 7, 3) := by decide +kernel
theorem dX3_isNearEnd_15 : decode cX3_isNearEnd 15 = .ok (.iconst 1, 1) := by decide +kernel
theorem dX3_isNearEnd_16 : decode cX3_isNearEnd 16 = .ok (.goto 4, 3) := by decide +kernel
theorem dX3_isNearEnd_19 : decode cX3_isNearEnd 19 = .ok (.iconst 0, 1) := by decide +kernel
theorem dX3_isNearEnd_20 : decode cX3_isNearEnd 20 = .ok (.ireturn, 1) := by decide +kernel
theorem dX3_outcome_0 : decode cX3_outcome 0 = .ok (.aload_n 0, 1) := by decide +kernel
theorem dX3_outcome_1 : decode cX3_outcome 1 = .ok (.invokevirtual 127, 3) := by decide +kernel
theorem dX3_outcome_4 : decode cX3_outcome 4 = .ok (.lstore 4, 2) := by decide +kernel
theorem dX3_outcome_6 : decode cX3_outcome 6 = .ok (.lload 4, 2) := by decide +kernel
theorem dX3_outcome_8 : decode cX3_outcome 8 = .ok (.lconst 0, 1) := by decide +kernel
theorem dX3_outcome_9 : decode cX3_outcome 9 = .ok (.lcmp, 1) := by decide +kernel
theorem dX3_outcome_10 : decode cX3_outcome 10 = .ok (.ifCond .eq 7, 3) := by decide +kernel
theorem dX3_outcome_13 : decode cX3_outcome 13 = .ok (.iload_n 3, 1) := by decide +kernel
theorem dX3_outcome_14 : decode cX3_outcome 14 = .ok (.ifCond .gt 12, 3) := by decide +kernel
theorem dX3_outcome_17 : decode cX3_outcome 17 = .ok (.aload_n 0, 1) := by decide +kernel
theorem dX3_outcome_18 : decode cX3_outcome 18 = .ok (.aload_n 0, 1) := by decide +kernel
theorem dX3_outcome_19 : decode cX3_outcome 19 = .ok (.getfield 156, 3) := by decide +kernel
theorem dX3_outcome_22 : decode cX3_outcome 22 = .ok (.invokevirtual 255, 3) := by decide +kernel
theorem dX3_outcome_25 : decode cX3_outcome 25 = .ok (.ireturn, 1) := by decide +kernel
theorem dX3_outcome_26 : decode cX3_outcome 26 = .ok (.aload_n 0, 1) := by decide +kernel
theorem dX3_outcome_27 : decode cX3_outcome 27 = .ok (.getfield 185, 3) := by decide +kernel
theorem dX3_outcome_30 : decode cX3_outcome 30 = .ok (.lstore 6, 2) := by decide +kernel
theorem dX3_outcome_32 : decode cX3_outcome 32 = .ok (.aload_n 0, 1) := by decide +kernel
theorem dX3_outcome_33 : decode cX3_outcome 33 = .ok (.getfield 189, 3) := by decide +kernel
theorem dX3_outcome_36 : decode cX3_outcome 36 = .ok (.istore 8, 2) := by decide +kernel
theorem dX3_outcome_38 : decode cX3_outcome 38 = .ok (.aload_n 0, 1) := by decide +kernel
theorem dX3_outcome_39 : decode cX3_outcome 39 = .ok (.getfield 196, 3) := by decide +kernel
theorem dX3_outcome_42 : decode cX3_outcome 42 = .ok (.istore 9, 2) := by decide +kernel
theorem dX3_outcome_44 : decode cX3_outcome 44 = .ok (.aload_n 0, 1) := by decide +kernel
theorem dX3_outcome_45 : decode cX3_outcome 45 = .ok (.getfield 199, 3) := by decide +kernel
theorem dX3_outcome_48 : decode cX3_outcome 48 = .ok (.istore 10, 2) := by decide +kernel
theorem dX3_outcome_50 : decode cX3_outcome 50 = .ok (.bipush (-100), 2) := by decide +kernel
theorem dX3_outcome_52 : decode cX3_outcome 52 = .ok (.istore 11, 2) := by decide +kernel
theorem dX3_outcome_54 : decode cX3_outcome 54 = .ok (.iconst 0, 1) := by decide +kernel
theorem dX3_outcome_55 : decode cX3_outcome 55 = .ok (.istore 12, 2) := by decide +kernel
theorem dX3_outcome_57 : decode cX3_outcome 57 = .ok (.iload 12, 2) := by decide +kernel
theorem dX3_outcome_59 : decode cX3_outcome 59 = .ok (.bipush 7, 2) := by decide +kernel
theorem dX3_outcome_61 : decode cX3_outcome 61 = .ok (.if_icmp .ge 76, 3) := by decide +kernel
theorem dX3_outcome_64 : decode cX3_outcome 64 = .ok (.lload 4, 2) := by decide +kernel
theorem dX3_outcome_66 : decode cX3_outcome 66 = .ok (.lconst 0, 1) := by decide +kernel
theorem dX3_outcome_67 : decode cX3_outcome 67 = .ok (.lcmp, 1) := by decide +kernel
theorem dX3_outcome_68 : decode cX3_outcome 68 = .ok (.ifCond .eq 69, 3) := by decide +kernel
theorem dX3_outcome_71 : decode cX3_outcome 71 = .ok (.iload 11, 2) := by decide +kernel
theorem dX3_outcome_73 : decode cX3_outcome 73 = .ok (.iload_n 2, 1) := by decide +kernel
theorem dX3_outcome_74 : decode cX3_outcome 74 = .ok (.if_icmp .ge 63, 3) := by decide +kernel
theorem dX3_outcome_77 : decode cX3_outcome 77 = .ok (.aload_n 0, 1) := by decide +kernel
theorem dX3_outcome_78 : decode cX3_outcome 78 = .ok (.lload 4, 2) := by decide +kernel
theorem dX3_outcome_80 : decode cX3_outcome 80 = .ok (.invokestatic 318, 3) := by decide +kernel
theorem dX3_outcome_83 : decode cX3_outcome 83 = .ok (.invokevirtual 311, 3) := by decide +kernel
theorem dX3_outcome_86 : decode cX3_outcome 86 = .ok (.iload 11, 2) := by decide +kernel
theorem dX3_outcome_88 : decode cX3_outcome 88 = .ok (.aload_n 0, 1) := by decide +kernel
theorem dX3_outcome_89 : decode cX3_outcome 89 = .ok (.iload_n 2, 1) := by decide +kernel
theorem dX3_outcome_90 : decode cX3_outcome 90 = .ok (.ineg, 1) := by decide +kernel
theorem dX3_outcome_91 : decode cX3_outcome 91 = .ok (.iload_n 1, 1) := by decide +kernel
theorem dX3_outcome_92 : decode cX3_outcome 92 = .ok (.iload 11, 2) := by decide +kernel
theorem dX3_outcome_94 : decode cX3_outcome 94 = .ok (.invokestatic 390, 3) := by decide +kernel
theorem dX3_outcome_97 : decode cX3_outcome 97 = .ok (.ineg, 1) := by decide +kernel
theorem dX3_outcome_98 : decode cX3_outcome 98 = .ok (.iload_n 3, 1) := by decide +kernel
theorem dX3_outcome_99 : decode cX3_outcome 99 = .ok (.iconst 1, 1) := by decide +kernel
theorem dX3_outcome_100 : decode cX3_outcome 100 = .ok (.isub, 1) := by decide +kernel
theorem dX3_outcome_101 : decode cX3_outcome 101 = .ok (.invokestatic 314, 3) := by decide +kernel
theorem dX3_outcome_104 : decode cX3_outcome 104 = .ok (.ineg, 1) := by decide +kernel
theorem dX3_outcome_105 : decode cX3_outcome 105 = .ok (.invokestatic 390, 3) := by decide +kernel
theorem dX3_outcome_108 : decode cX3_outcome 108 = .ok (.istore 11, 2) := by decide +kernel
theorem dX3_outcome_110 : decode cX3_outcome 110 = .ok (.aload_n 0, 1) := by decide +kernel
theorem dX3_outcome_111 : decode cX3_outcome 111 = .ok (.lload 6, 2) := by decide +kernel
theorem dX3_outcome_113 : decode cX3_outcome 113 = .ok (.iload 8, 2) := by decide +kernel
theorem dX3_outcome_115 : decode cX3_outcome 115 = .ok (.iload 9, 2) := by decide +kernel
theorem dX3_outcome_117 : decode cX3_outcome 117 = .ok (.iload 10, 2) := by decide +kernel
theorem dX3_outcome_119 : decode cX3_outcome 119 = .ok (.invokevirtual 395, 3) := by decide +kernel
theorem dX3_outcome_122 : decode cX3_outcome 122 = .ok (.lload 4, 2) := by decide +kernel
theorem dX3_outcome_124 : decode cX3_outcome 124 = .ok (.lload 4, 2) := by decide +kernel
theorem dX3_outcome_126 : decode cX3_outcome 126 = .ok (.lconst 1, 1) := by decide +kernel
theorem dX3_outcome_127 : decode cX3_outcome 127 = .ok (.lsub, 1) := by decide +kernel
theorem dX3_outcome_128 : decode cX3_outcome 128 = .ok (.land, 1) := by decide +kernel
theorem dX3_outcome_129 : decode cX3_outcome 129 = .ok (.lstore 4, 2) := by decide +kernel
theorem dX3_outcome_131 : decode cX3_outcome 131 = .ok (.iinc 12 1, 3) := by decide +kernel
theorem dX3_outcome_134 : decode cX3_outcome 134 = .ok (.goto (-77), 3) := by decide +kernel
theorem dX3_outcome_137 : decode cX3_outcome 137 = .ok (.iload 11, 2) := by decide +kernel
theorem dX3_outcome_139 : decode cX3_outcome 139 = .ok (.ireturn, 1) := by decide +kernel
theorem dX3_waysToTurn_0 : decode cX3_waysToTurn 0 = .ok (.aload_n 0, 1) := by decide +kernel
theorem dX3_waysToTurn_1 : decode cX3_waysToTurn 1 = .ok (.getfield 10, 3) := by decide +kernel
theorem dX3_waysToTurn_4 : decode cX3_waysToTurn 4 = .ok (.getfield 361, 3) := by decide +kernel
theorem dX3_waysToTurn_7 : decode cX3_waysToTurn 7 = .ok (.aload_n 0, 1) := by decide +kernel
theorem dX3_waysToTurn_8 : decode cX3_waysToTurn 8 = .ok (.getfield 10, 3) := by decide +kernel
theorem dX3_waysToTurn_11 : decode cX3_waysToTurn 11 = .ok (.getfield 364, 3) := by decide +kernel
theorem dX3_waysToTurn_14 : decode cX3_waysToTurn 14 = .ok (.if_icmp .ne 8, 3) := by decide +kernel
theorem dX3_waysToTurn_17 : decode cX3_waysToTurn 17 = .ok (.bipush 8, 2) := by decide +kernel
theorem dX3_waysToTurn_19 : decode cX3_waysToTurn 19 = .ok (.goto 4, 3) := by decide +kernel
theorem dX3_waysToTurn_22 : decode cX3_waysToTurn 22 = .ok (.iconst 4, 1) := by decide +kernel
theorem dX3_waysToTurn_23 : decode cX3_waysToTurn 23 = .ok (.ireturn, 1) := by decide +kernel
theorem dX3_readStatements_0 : decode cX3_readStatements 0 = .ok (.iconst 1, 1) := by decide +kernel
theorem dX3_readStatements_1 : decode cX3_readStatements 1 = .ok (.istore_n 1, 1) := by decide +kernel
theorem dX3_readStatements_2 : decode cX3_readStatements 2 = .ok (.iload_n 1, 1) := by decide +kernel
theorem dX3_readStatements_3 : decode cX3_readStatements 3 = .ok (.sipush 250, 3) := by decide +kernel
theorem dX3_readStatements_6 : decode cX3_readStatements 6 = .ok (.if_icmp .gt 49, 3) := by decide +kernel
theorem dX3_readStatements_9 : decode cX3_readStatements 9 = .ok (.aload_n 0, 1) := by decide +kernel
theorem dX3_readStatements_10 : decode cX3_readStatements 10 = .ok (.invokevirtual 399, 3) := by decide +kernel
theorem dX3_readStatements_13 : decode cX3_readStatements 13 = .ok (.ifCond .ne 5, 3) := by decide +kernel
theorem dX3_readStatements_16 : decode cX3_readStatements 16 = .ok (.iconst (-1), 1) := by decide +kernel
theorem dX3_readStatements_17 : decode cX3_readStatements 17 = .ok (.ireturn, 1) := by decide +kernel
theorem dX3_readStatements_18 : decode cX3_readStatements 18 = .ok (.aload_n 0, 1) := by decide +kernel
theorem dX3_readStatements_19 : decode cX3_readStatements 19 = .ok (.getfield 48, 3) := by decide +kernel
theorem dX3_readStatements_22 : decode cX3_readStatements 22 = .ok (.invokevirtual 402, 3) := by decide +kernel
theorem dX3_readStatements_25 : decode cX3_readStatements 25 = .ok (.aload_n 0, 1) := by decide +kernel
theorem dX3_readStatements_26 : decode cX3_readStatements 26 = .ok (.getfield 48, 3) := by decide +kernel
theorem dX3_readStatements_29 : decode cX3_readStatements 29 = .ok (.invokevirtual 405, 3) := by decide +kernel
theorem dX3_readStatements_32 : decode cX3_readStatements 32 = .ok (.ifCond .eq 5, 3) := by decide +kernel
theorem dX3_readStatements_35 : decode cX3_readStatements 35 = .ok (.iload_n 1, 1) := by decide +kernel
theorem dX3_readStatements_36 : decode cX3_readStatements 36 = .ok (.ireturn, 1) := by decide +kernel
theorem dX3_readStatements_37 : decode cX3_readStatements 37 = .ok (.aload_n 0, 1) := by decide +kernel
theorem dX3_readStatements_38 : decode cX3_readStatements 38 = .ok (.getfield 48, 3) := by decide +kernel
theorem dX3_readStatements_41 : decode cX3_readStatements 41 = .ok (.invokevirtual 408, 3) := by decide +kernel
theorem dX3_readStatements_44 : decode cX3_readStatements 44 = .ok (.ifCond .ne 5, 3) := by decide +kernel
theorem dX3_readStatements_47 : decode cX3_readStatements 47 = .ok (.iconst (-1), 1) := by decide +kernel
theorem dX3_readStatements_48 : decode cX3_readStatements 48 = .ok (.ireturn, 1) := by decide +kernel
theorem dX3_readStatements_49 : decode cX3_readStatements 49 = .ok (.iinc 1 1, 3) := by decide +kernel
theorem dX3_readStatements_52 : decode cX3_readStatements 52 = .ok (.goto (-50), 3) := by decide +kernel
theorem dX3_readStatements_55 : decode cX3_readStatements 55 = .ok (.iconst (-1), 1) := by decide +kernel
theorem dX3_readStatements_56 : decode cX3_readStatements 56 = .ok (.ireturn, 1) := by decide +kernel
theorem dX3_readStatement_0 : decode cX3_readStatement 0 = .ok (.aload_n 0, 1) := by decide +kernel
theorem dX3_readStatement_1 : decode cX3_readStatement 1 = .ok (.getfield 48, 3) := by decide +kernel
theorem dX3_readStatement_4 : decode cX3_readStatement 4 = .ok (.invokevirtual 402, 3) := by decide +kernel
theorem dX3_readStatement_7 : decode cX3_readStatement 7 = .ok (.aload_n 0, 1) := by decide +kernel
theorem dX3_readStatement_8 : decode cX3_readStatement 8 = .ok (.getfield 48, 3) := by decide +kernel
theorem dX3_readStatement_11 : decode cX3_readStatement 11 = .ok (.ldc_w 411, 3) := by decide +kernel
theorem dX3_readStatement_14 : decode cX3_readStatement 14 = .ok (.invokevirtual 413, 3) := by decide +kernel
theorem dX3_readStatement_17 : decode cX3_readStatement 17 = .ok (.ifCond .eq 8, 3) := by decide +kernel
theorem dX3_readStatement_20 : decode cX3_readStatement 20 = .ok (.aload_n 0, 1) := by decide +kernel
theorem dX3_readStatement_21 : decode cX3_readStatement 21 = .ok (.invokevirtual 417, 3) := by decide +kernel
theorem dX3_readStatement_24 : decode cX3_readStatement 24 = .ok (.ireturn, 1) := by decide +kernel
theorem dX3_readStatement_25 : decode cX3_readStatement 25 = .ok (.aload_n 0, 1) := by decide +kernel
theorem dX3_readStatement_26 : decode cX3_readStatement 26 = .ok (.getfield 48, 3) := by decide +kernel
theorem dX3_readStatement_29 : decode cX3_readStatement 29 = .ok (.ldc_w 420, 3) := by decide +kernel
theorem dX3_readStatement_32 : decode cX3_readStatement 32 = .ok (.invokevirtual 413, 3) := by decide +kernel
theorem dX3_readStatement_35 : decode cX3_readStatement 35 = .ok (.ifCond .eq 9, 3) := by decide +kernel
theorem dX3_readStatement_38 : decode cX3_readStatement 38 = .ok (.aload_n 0, 1) := by decide +kernel
theorem dX3_readStatement_39 : decode cX3_readStatement 39 = .ok (.iconst 0, 1) := by decide +kernel
theorem dX3_readStatement_40 : decode cX3_readStatement 40 = .ok (.invokevirtual 422, 3) := by decide +kernel
theorem dX3_readStatement_43 : decode cX3_readStatement 43 = .ok (.ireturn, 1) := by decide +kernel
theorem dX3_readStatement_44 : decode cX3_readStatement 44 = .ok (.aload_n 0, 1) := by decide +kernel
theorem dX3_readStatement_45 : decode cX3_readStatement 45 = .ok (.getfield 48, 3) := by decide +kernel
theorem dX3_readStatement_48 : decode cX3_readStatement 48 = .ok (.ldc_w 425, 3) := by decide +kernel
theorem dX3_readStatement_51 : decode cX3_readStatement 51 = .ok (.invokevirtual 413, 3) := by decide +kernel
theorem dX3_readStatement_54 : decode cX3_readStatement 54 = .ok (.ifCond .eq 10, 3) := by decide +kernel
theorem dX3_readStatement_57 : decode cX3_readStatement 57 = .ok (.aload_n 0, 1) := by decide +kernel
theorem dX3_readStatement_58 : decode cX3_readStatement 58 = .ok (.bipush 100, 2) := by decide +kernel
theorem dX3_readStatement_60 : decode cX3_readStatement 60 = .ok (.invokevirtual 422, 3) := by decide +kernel
theorem dX3_readStatement_63 : decode cX3_readStatement 63 = .ok (.ireturn, 1) := by decide +kernel
theorem dX3_readStatement_64 : decode cX3_readStatement 64 = .ok (.aload_n 0, 1) := by decide +kernel
theorem dX3_readStatement_65 : decode cX3_readStatement 65 = .ok (.getfield 48, 3) := by decide +kernel
theorem dX3_readStatement_68 : decode cX3_readStatement 68 = .ok (.ldc_w 427, 3) := by decide +kernel
theorem dX3_readStatement_71 : decode cX3_readStatement 71 = .ok (.invokevirtual 413, 3) := by decide +kernel
theorem dX3_readStatement_74 : decode cX3_readStatement 74 = .ok (.ifCond .eq 8, 3) := by decide +kernel
theorem dX3_readStatement_77 : decode cX3_readStatement 77 = .ok (.aload_n 0, 1) := by decide +kernel
theorem dX3_readStatement_78 : decode cX3_readStatement 78 = .ok (.invokevirtual 428, 3) := by decide +kernel
theorem dX3_readStatement_81 : decode cX3_readStatement 81 = .ok (.ireturn, 1) := by decide +kernel
theorem dX3_readStatement_82 : decode cX3_readStatement 82 = .ok (.aload_n 0, 1) := by decide +kernel
theorem dX3_readStatement_83 : decode cX3_readStatement 83 = .ok (.getfield 48, 3) := by decide +kernel
theorem dX3_readStatement_86 : decode cX3_readStatement 86 = .ok (.ldc_w 431, 3) := by decide +kernel
theorem dX3_readStatement_89 : decode cX3_readStatement 89 = .ok (.invokevirtual 413, 3) := by decide +kernel
theorem dX3_readStatement_92 : decode cX3_readStatement 92 = .ok (.ifCond .eq 23, 3) := by decide +kernel
theorem dX3_readStatement_95 : decode cX3_readStatement 95 = .ok (.aload_n 0, 1) := by decide +kernel
theorem dX3_readStatement_96 : decode cX3_readStatement 96 = .ok (.getfield 36, 3) := by decide +kernel
theorem dX3_readStatement_99 : decode cX3_readStatement 99 = .ok (.bipush 6, 2) := by decide +kernel
theorem dX3_readStatement_101 : decode cX3_readStatement 101 = .ok (.if_icmp .ge 14, 3) := by decide +kernel
theorem dX3_readStatement_104 : decode cX3_readStatement 104 = .ok (.aload_n 0, 1) := by decide +kernel
theorem dX3_readStatement_105 : decode cX3_readStatement 105 = .ok (.invokevirtual 433, 3) := by decide +kernel
theorem dX3_readStatement_108 : decode cX3_readStatement 108 = .ok (.ifCond .eq 7, 3) := by decide +kernel
theorem dX3_readStatement_111 : decode cX3_readStatement 111 = .ok (.iconst 1, 1) := by decide +kernel
theorem dX3_readStatement_112 : decode cX3_readStatement 112 = .ok (.goto 4, 3) := by decide +kernel
theorem dX3_readStatement_115 : decode cX3_readStatement 115 = .ok (.iconst 0, 1) := by decide +kernel
theorem dX3_readStatement_116 : decode cX3_readStatement 116 = .ok (.ireturn, 1) := by decide +kernel
theorem dX3_readNumber_0 : decode cX3_readNumber 0 = .ok (.aload_n 0, 1) := by decide +kernel
theorem dX3_readNumber_1 : decode cX3_readNumber 1 = .ok (.getfield 48, 3) := by decide +kernel
theorem dX3_readNumber_4 : decode cX3_readNumber 4 = .ok (.invokevirtual 402, 3) := by decide +kernel
theorem dX3_readNumber_7 : decode cX3_readNumber 7 = .ok (.aload_n 0, 1) := by decide +kernel
theorem dX3_readNumber_8 : decode cX3_readNumber 8 = .ok (.getfield 48, 3) := by decide +kernel
theorem dX3_readNumber_11 : decode cX3_readNumber 11 = .ok (.invokevirtual 436, 3) := by decide +kernel
theorem dX3_readNumber_14 : decode cX3_readNumber 14 = .ok (.istore_n 3, 1) := by decide +kernel
theorem dX3_readNumber_15 : decode cX3_readNumber 15 = .ok (.iload_n 3, 1) := by decide +kernel
theorem dX3_readNumber_16 : decode cX3_readNumber 16 = .ok (.iload_n 1, 1) := by decide +kernel
theorem dX3_readNumber_17 : decode cX3_readNumber 17 = .ok (.if_icmp .lt 12, 3) := by decide +kernel
theorem dX3_readNumber_20 : decode cX3_readNumber 20 = .ok (.iload_n 3, 1) := by decide +kernel
theorem dX3_readNumber_21 : decode cX3_readNumber 21 = .ok (.iload_n 2, 1) := by decide +kernel
theorem dX3_readNumber_22 : decode cX3_readNumber 22 = .ok (.if_icmp .gt 7, 3) := by decide +kernel
theorem dX3_readNumber_25 : decode cX3_readNumber 25 = .ok (.iload_n 3, 1) := by decide +kernel
theorem dX3_readNumber_26 : decode cX3_readNumber 26 = .ok (.goto 4, 3) := by decide +kernel
theorem dX3_readNumber_29 : decode cX3_readNumber 29 = .ok (.iconst (-1), 1) := by decide +kernel
theorem dX3_readNumber_30 : decode cX3_readNumber 30 = .ok (.ireturn, 1) := by decide +kernel
theorem dX3_readSize_0 : decode cX3_readSize 0 = .ok (.aload_n 0, 1) := by decide +kernel
theorem dX3_readSize_1 : decode cX3_readSize 1 = .ok (.iconst 1, 1) := by decide +kernel
theorem dX3_readSize_2 : decode cX3_readSize 2 = .ok (.iconst 4, 1) := by decide +kernel
theorem dX3_readSize_3 : decode cX3_readSize 3 = .ok (.invokevirtual 439, 3) := by decide +kernel
theorem dX3_readSize_6 : decode cX3_readSize 6 = .ok (.istore_n 1, 1) := by decide +kernel
theorem dX3_readSize_7 : decode cX3_readSize 7 = .ok (.iload_n 1, 1) := by decide +kernel
theorem dX3_readSize_8 : decode cX3_readSize 8 = .ok (.iconst (-1), 1) := by decide +kernel
theorem dX3_readSize_9 : decode cX3_readSize 9 = .ok (.if_icmp .ne 5, 3) := by decide +kernel
theorem dX3_readSize_12 : decode cX3_readSize 12 = .ok (.iconst 0, 1) := by decide +kernel
theorem dX3_readSize_13 : decode cX3_readSize 13 = .ok (.ireturn, 1) := by decide +kernel
theorem dX3_readSize_14 : decode cX3_readSize 14 = .ok (.aload_n 0, 1) := by decide +kernel
theorem dX3_readSize_15 : decode cX3_readSize 15 = .ok (.iconst 1, 1) := by decide +kernel
theorem dX3_readSize_16 : decode cX3_readSize 16 = .ok (.iconst 4, 1) := by decide +kernel
theorem dX3_readSize_17 : decode cX3_readSize 17 = .ok (.invokevirtual 439, 3) := by decide +kernel
theorem dX3_readSize_20 : decode cX3_readSize 20 = .ok (.istore_n 2, 1) := by decide +kernel
theorem dX3_readSize_21 : decode cX3_readSize 21 = .ok (.iload_n 2, 1) := by decide +kernel
theorem dX3_readSize_22 : decode cX3_readSize 22 = .ok (.iconst (-1), 1) := by decide +kernel
theorem dX3_readSize_23 : decode cX3_readSize 23 = .ok (.if_icmp .ne 5, 3) := by decide +kernel
theorem dX3_readSize_26 : decode cX3_readSize 26 = .ok (.iconst 0, 1) := by decide +kernel
theorem dX3_readSize_27 : decode cX3_readSize 27 = .ok (.ireturn, 1) := by decide +kernel
theorem dX3_readSize_28 : decode cX3_readSize 28 = .ok (.aload_n 0, 1) := by decide +kernel
theorem dX3_readSize_29 : decode cX3_readSize 29 = .ok (.getfield 16, 3) := by decide +kernel
theorem dX3_readSize_32 : decode cX3_readSize 32 = .ok (.iload_n 1, 1) := by decide +kernel
theorem dX3_readSize_33 : decode cX3_readSize 33 = .ok (.iload_n 2, 1) := by decide +kernel
theorem dX3_readSize_34 : decode cX3_readSize 34 = .ok (.invokevirtual 143, 3) := by decide +kernel
theorem dX3_readSize_37 : decode cX3_readSize 37 = .ok (.iconst 1, 1) := by decide +kernel
theorem dX3_readSize_38 : decode cX3_readSize 38 = .ok (.ireturn, 1) := by decide +kernel
theorem dX3_readMove_0 : decode cX3_readMove 0 = .ok (.aload_n 0, 1) := by decide +kernel
theorem dX3_readMove_1 : decode cX3_readMove 1 = .ok (.iconst 0, 1) := by decide +kernel
theorem dX3_readMove_2 : decode cX3_readMove 2 = .ok (.bipush 99, 2) := by decide +kernel
theorem dX3_readMove_4 : decode cX3_readMove 4 = .ok (.invokevirtual 439, 3) := by decide +kernel
theorem dX3_readMove_7 : decode cX3_readMove 7 = .ok (.istore_n 2, 1) := by decide +kernel
theorem dX3_readMove_8 : decode cX3_readMove 8 = .ok (.iload_n 2, 1) := by decide +kernel
theorem dX3_readMove_9 : decode cX3_readMove 9 = .ok (.iconst (-1), 1) := by decide +kernel
theorem dX3_readMove_10 : decode cX3_readMove 10 = .ok (.if_icmp .ne 7, 3) := by decide +kernel
theorem dX3_readMove_13 : decode cX3_readMove 13 = .ok (.iconst (-1), 1) := by decide +kernel
theorem dX3_readMove_14 : decode cX3_readMove 14 = .ok (.goto 13, 3) := by decide +kernel
theorem dX3_readMove_17 : decode cX3_readMove 17 = .ok (.aload_n 0, 1) := by decide +kernel
theorem dX3_readMove_18 : decode cX3_readMove 18 = .ok (.getfield 16, 3) := by decide +kernel
theorem dX3_readMove_21 : decode cX3_readMove 21 = .ok (.iload_n 1, 1) := by decide +kernel
theorem dX3_readMove_22 : decode cX3_readMove 22 = .ok (.iload_n 2, 1) := by decide +kernel
theorem dX3_readMove_23 : decode cX3_readMove 23 = .ok (.iadd, 1) := by decide +kernel
theorem dX3_readMove_24 : decode cX3_readMove 24 = .ok (.invokevirtual 239, 3) := by decide +kernel
theorem dX3_readMove_27 : decode cX3_readMove 27 = .ok (.istore_n 3, 1) := by decide +kernel
theorem dX3_readMove_28 : decode cX3_readMove 28 = .ok (.iload_n 3, 1) := by decide +kernel
theorem dX3_readMove_29 : decode cX3_readMove 29 = .ok (.iconst (-1), 1) := by decide +kernel
theorem dX3_readMove_30 : decode cX3_readMove 30 = .ok (.if_icmp .eq 14, 3) := by decide +kernel
theorem dX3_readMove_33 : decode cX3_readMove 33 = .ok (.aload_n 0, 1) := by decide +kernel
theorem dX3_readMove_34 : decode cX3_readMove 34 = .ok (.getfield 16, 3) := by decide +kernel
theorem dX3_readMove_37 : decode cX3_readMove 37 = .ok (.iload_n 3, 1) := by decide +kernel
theorem dX3_readMove_38 : decode cX3_readMove 38 = .ok (.invokevirtual 242, 3) := by decide +kernel
theorem dX3_readMove_41 : decode cX3_readMove 41 = .ok (.ifCond .ne 5, 3) := by decide +kernel
theorem dX3_readMove_44 : decode cX3_readMove 44 = .ok (.iconst 0, 1) := by decide +kernel
theorem dX3_readMove_45 : decode cX3_readMove 45 = .ok (.ireturn, 1) := by decide +kernel
theorem dX3_readMove_46 : decode cX3_readMove 46 = .ok (.aload_n 0, 1) := by decide +kernel
theorem dX3_readMove_47 : decode cX3_readMove 47 = .ok (.getfield 16, 3) := by decide +kernel
theorem dX3_readMove_50 : decode cX3_readMove 50 = .ok (.iload_n 3, 1) := by decide +kernel
theorem dX3_readMove_51 : decode cX3_readMove 51 = .ok (.invokevirtual 311, 3) := by decide +kernel
theorem dX3_readMove_54 : decode cX3_readMove 54 = .ok (.iconst 1, 1) := by decide +kernel
theorem dX3_readMove_55 : decode cX3_readMove 55 = .ok (.ireturn, 1) := by decide +kernel
theorem dX3_readTurn_0 : decode cX3_readTurn 0 = .ok (.aload_n 0, 1) := by decide +kernel
theorem dX3_readTurn_1 : decode cX3_readTurn 1 = .ok (.iconst 0, 1) := by decide +kernel
theorem dX3_readTurn_2 : decode cX3_readTurn 2 = .ok (.iconst 1, 1) := by decide +kernel
theorem dX3_readTurn_3 : decode cX3_readTurn 3 = .ok (.invokevirtual 439, 3) := by decide +kernel
theorem dX3_readTurn_6 : decode cX3_readTurn 6 = .ok (.istore_n 1, 1) := by decide +kernel
theorem dX3_readTurn_7 : decode cX3_readTurn 7 = .ok (.iload_n 1, 1) := by decide +kernel
theorem dX3_readTurn_8 : decode cX3_readTurn 8 = .ok (.iconst (-1), 1) := by decide +kernel
theorem dX3_readTurn_9 : decode cX3_readTurn 9 = .ok (.if_icmp .ne 5, 3) := by decide +kernel
theorem dX3_readTurn_12 : decode cX3_readTurn 12 = .ok (.iconst 0, 1) := by decide +kernel
theorem dX3_readTurn_13 : decode cX3_readTurn 13 = .ok (.ireturn, 1) := by decide +kernel
theorem dX3_readTurn_14 : decode cX3_readTurn 14 = .ok (.aload_n 0, 1) := by decide +kernel
theorem dX3_readTurn_15 : decode cX3_readTurn 15 = .ok (.getfield 16, 3) := by decide +kernel
theorem dX3_readTurn_18 : decode cX3_readTurn 18 = .ok (.iload_n 1, 1) := by decide +kernel
theorem dX3_readTurn_19 : decode cX3_readTurn 19 = .ok (.putfield 156, 3) := by decide +kernel
theorem dX3_readTurn_22 : decode cX3_readTurn 22 = .ok (.iconst 1, 1) := by decide +kernel
theorem dX3_readTurn_23 : decode cX3_readTurn 23 = .ok (.ireturn, 1) := by decide +kernel
theorem dX3_readPlayer_0 : decode cX3_readPlayer 0 = .ok (.aload_n 0, 1) := by decide +kernel
theorem dX3_readPlayer_1 : decode cX3_readPlayer 1 = .ok (.iconst 0, 1) := by decide +kernel
theorem dX3_readPlayer_2 : decode cX3_readPlayer 2 = .ok (.iconst 5, 1) := by decide +kernel
theorem dX3_readPlayer_3 : decode cX3_readPlayer 3 = .ok (.invokevirtual 439, 3) := by decide +kernel
theorem dX3_readPlayer_6 : decode cX3_readPlayer 6 = .ok (.istore_n 1, 1) := by decide +kernel
theorem dX3_readPlayer_7 : decode cX3_readPlayer 7 = .ok (.iload_n 1, 1) := by decide +kernel
theorem dX3_readPlayer_8 : decode cX3_readPlayer 8 = .ok (.iconst (-1), 1) := by decide +kernel
theorem dX3_readPlayer_9 : decode cX3_readPlayer 9 = .ok (.if_icmp .ne 5, 3) := by decide +kernel
theorem dX3_readPlayer_12 : decode cX3_readPlayer 12 = .ok (.iconst 0, 1) := by decide +kernel
theorem dX3_readPlayer_13 : decode cX3_readPlayer 13 = .ok (.ireturn, 1) := by decide +kernel
theorem dX3_readPlayer_14 : decode cX3_readPlayer 14 = .ok (.aload_n 0, 1) := by decide +kernel
theorem dX3_readPlayer_15 : decode cX3_readPlayer 15 = .ok (.iconst 0, 1) := by decide +kernel
theorem dX3_readPlayer_16 : decode cX3_readPlayer 16 = .ok (.bipush 9, 2) := by decide +kernel
theorem dX3_readPlayer_18 : decode cX3_readPlayer 18 = .ok (.invokevirtual 439, 3) := by decide +kernel
theorem dX3_readPlayer_21 : decode cX3_readPlayer 21 = .ok (.istore_n 2, 1) := by decide +kernel
theorem dX3_readPlayer_22 : decode cX3_readPlayer 22 = .ok (.iload_n 2, 1) := by decide +kernel
theorem dX3_readPlayer_23 : decode cX3_readPlayer 23 = .ok (.iconst (-1), 1) := by decide +kernel
theorem dX3_readPlayer_24 : decode cX3_readPlayer 24 = .ok (.if_icmp .ne 5, 3) := by decide +kernel
theorem dX3_readPlayer_27 : decode cX3_readPlayer 27 = .ok (.iconst 0, 1) := by decide +kernel
theorem dX3_readPlayer_28 : decode cX3_readPlayer 28 = .ok (.ireturn, 1) := by decide +kernel
theorem dX3_readPlayer_29 : decode cX3_readPlayer 29 = .ok (.aload_n 0, 1) := by decide +kernel
theorem dX3_readPlayer_30 : decode cX3_readPlayer 30 = .ok (.aload_n 0, 1) := by decide +kernel
theorem dX3_readPlayer_31 : decode cX3_readPlayer 31 = .ok (.getfield 36, 3) := by decide +kernel
theorem dX3_readPlayer_34 : decode cX3_readPlayer 34 = .ok (.iload_n 1, 1) := by decide +kernel
theorem dX3_readPlayer_35 : decode cX3_readPlayer 35 = .ok (.iload_n 2, 1) := by decide +kernel
theorem dX3_readPlayer_36 : decode cX3_readPlayer 36 = .ok (.invokevirtual 149, 3) := by decide +kernel
theorem dX3_readPlayer_39 : decode cX3_readPlayer 39 = .ok (.aload_n 0, 1) := by decide +kernel
theorem dX3_readPlayer_40 : decode cX3_readPlayer 40 = .ok (.dup, 1) := by decide +kernel
theorem dX3_readPlayer_41 : decode cX3_readPlayer 41 = .ok (.getfield 36, 3) := by decide +kernel
theorem dX3_readPlayer_44 : decode cX3_readPlayer 44 = .ok (.iconst 1, 1) := by decide +kernel
theorem dX3_readPlayer_45 : decode cX3_readPlayer 45 = .ok (.iadd, 1) := by decide +kernel
theorem dX3_readPlayer_46 : decode cX3_readPlayer 46 = .ok (.putfield 36, 3) := by decide +kernel
theorem dX3_readPlayer_49 : decode cX3_readPlayer 49 = .ok (.iconst 1, 1) := by decide +kernel
theorem dX3_readPlayer_50 : decode cX3_readPlayer 50 = .ok (.ireturn, 1) := by decide +kernel
