theorem dX4_shuts__26 : decode cX4_shuts_ 26 = .ok (.baload, 1) := by decide +kernel
theorem dX4_shuts__27 : decode cX4_shuts_ 27 = .ok (.ifCond .eq 10, 3) := by decide +kernel
theorem dX4_shuts__30 : decode cX4_shuts_ 30 = .ok (.aload_n 0, 1) := by decide +kernel
theorem dX4_shuts__31 : decode cX4_shuts_ 31 = .ok (.bipush (-5), 2) := by decide +kernel
theorem dX4_shuts__33 : decode cX4_shuts_ 33 = .ok (.invokevirtual 56, 3) := by decide +kernel
theorem dX4_shuts__36 : decode cX4_shuts_ 36 = .ok (.ireturn, 1) := by decide +kernel
theorem dX4_shuts__37 : decode cX4_shuts_ 37 = .ok (.aload_n 0, 1) := by decide +kernel
theorem dX4_shuts__38 : decode cX4_shuts_ 38 = .ok (.iload_n 1, 1) := by decide +kernel
theorem dX4_shuts__39 : decode cX4_shuts_ 39 = .ok (.iconst 3, 1) := by decide +kernel
theorem dX4_shuts__40 : decode cX4_shuts_ 40 = .ok (.invokevirtual 280, 3) := by decide +kernel
theorem dX4_shuts__43 : decode cX4_shuts_ 43 = .ok (.ireturn, 1) := by decide +kernel
theorem dX4_withHedges_0 : decode cX4_withHedges 0 = .ok (.iconst 0, 1) := by decide +kernel
theorem dX4_withHedges_1 : decode cX4_withHedges 1 = .ok (.istore_n 3, 1) := by decide +kernel
theorem dX4_withHedges_2 : decode cX4_withHedges 2 = .ok (.iconst 0, 1) := by decide +kernel
theorem dX4_withHedges_3 : decode cX4_withHedges 3 = .ok (.istore 4, 2) := by decide +kernel
theorem dX4_withHedges_5 : decode cX4_withHedges 5 = .ok (.iload 4, 2) := by decide +kernel
theorem dX4_withHedges_7 : decode cX4_withHedges 7 = .ok (.iconst 2, 1) := by decide +kernel
theorem dX4_withHedges_8 : decode cX4_withHedges 8 = .ok (.if_icmp .ge 38, 3) := by decide +kernel
theorem dX4_withHedges_11 : decode cX4_withHedges 11 = .ok (.aload_n 0, 1) := by decide +kernel
theorem dX4_withHedges_12 : decode cX4_withHedges 12 = .ok (.iload_n 1, 1) := by decide +kernel
theorem dX4_withHedges_13 : decode cX4_withHedges 13 = .ok (.iload 4, 2) := by decide +kernel
theorem dX4_withHedges_15 : decode cX4_withHedges 15 = .ok (.invokevirtual 119, 3) := by decide +kernel
theorem dX4_withHedges_18 : decode cX4_withHedges 18 = .ok (.iconst (-1), 1) := by decide +kernel
theorem dX4_withHedges_19 : decode cX4_withHedges 19 = .ok (.if_icmp .eq 21, 3) := by decide +kernel
theorem dX4_withHedges_22 : decode cX4_withHedges 22 = .ok (.aload_n 0, 1) := by decide +kernel
theorem dX4_withHedges_23 : decode cX4_withHedges 23 = .ok (.aload_n 0, 1) := by decide +kernel
theorem dX4_withHedges_24 : decode cX4_withHedges 24 = .ok (.iload_n 1, 1) := by decide +kernel
theorem dX4_withHedges_25 : decode cX4_withHedges 25 = .ok (.iload 4, 2) := by decide +kernel
theorem dX4_withHedges_27 : decode cX4_withHedges 27 = .ok (.invokevirtual 119, 3) := by decide +kernel
theorem dX4_withHedges_30 : decode cX4_withHedges 30 = .ok (.invokevirtual 196, 3) := by decide +kernel
theorem dX4_withHedges_33 : decode cX4_withHedges 33 = .ok (.iload_n 2, 1) := by decide +kernel
theorem dX4_withHedges_34 : decode cX4_withHedges 34 = .ok (.if_icmp .ne 6, 3) := by decide +kernel
theorem dX4_withHedges_37 : decode cX4_withHedges 37 = .ok (.iinc 3 1, 3) := by decide +kernel
theorem dX4_withHedges_40 : decode cX4_withHedges 40 = .ok (.iinc 4 1, 3) := by decide +kernel
theorem dX4_withHedges_43 : decode cX4_withHedges 43 = .ok (.goto (-38), 3) := by decide +kernel
theorem dX4_withHedges_46 : decode cX4_withHedges 46 = .ok (.iload_n 3, 1) := by decide +kernel
theorem dX4_withHedges_47 : decode cX4_withHedges 47 = .ok (.ireturn, 1) := by decide +kernel
theorem dX4_gives_0 : decode cX4_gives 0 = .ok (.iload_n 1, 1) := by decide +kernel
theorem dX4_gives_1 : decode cX4_gives 1 = .ok (.iconst 0, 1) := by decide +kernel
theorem dX4_gives_2 : decode cX4_gives 2 = .ok (.aload_n 0, 1) := by decide +kernel
theorem dX4_gives_3 : decode cX4_gives 3 = .ok (.invokevirtual 107, 3) := by decide +kernel
theorem dX4_gives_6 : decode cX4_gives 6 = .ok (.iconst 1, 1) := by decide +kernel
theorem dX4_gives_7 : decode cX4_gives 7 = .ok (.isub, 1) := by decide +kernel
theorem dX4_gives_8 : decode cX4_gives 8 = .ok (.invokestatic 63, 3) := by decide +kernel
theorem dX4_gives_11 : decode cX4_gives 11 = .ok (.ifCond .ne 10, 3) := by decide +kernel
theorem dX4_gives_14 : decode cX4_gives 14 = .ok (.aload_n 0, 1) := by decide +kernel
theorem dX4_gives_15 : decode cX4_gives 15 = .ok (.bipush (-2), 2) := by decide +kernel
theorem dX4_gives_17 : decode cX4_gives 17 = .ok (.invokevirtual 56, 3) := by decide +kernel
theorem dX4_gives_20 : decode cX4_gives 20 = .ok (.ireturn, 1) := by decide +kernel
theorem dX4_gives_21 : decode cX4_gives 21 = .ok (.aload_n 0, 1) := by decide +kernel
theorem dX4_gives_22 : decode cX4_gives 22 = .ok (.getfield 7, 3) := by decide +kernel
theorem dX4_gives_25 : decode cX4_gives 25 = .ok (.iload_n 1, 1) := by decide +kernel
theorem dX4_gives_26 : decode cX4_gives 26 = .ok (.baload, 1) := by decide +kernel
theorem dX4_gives_27 : decode cX4_gives 27 = .ok (.ifCond .eq 10, 3) := by decide +kernel
theorem dX4_gives_30 : decode cX4_gives 30 = .ok (.aload_n 0, 1) := by decide +kernel
theorem dX4_gives_31 : decode cX4_gives 31 = .ok (.bipush (-5), 2) := by decide +kernel
theorem dX4_gives_33 : decode cX4_gives 33 = .ok (.invokevirtual 56, 3) := by decide +kernel
theorem dX4_gives_36 : decode cX4_gives 36 = .ok (.ireturn, 1) := by decide +kernel
theorem dX4_gives_37 : decode cX4_gives 37 = .ok (.aload_n 0, 1) := by decide +kernel
theorem dX4_gives_38 : decode cX4_gives 38 = .ok (.iload_n 1, 1) := by decide +kernel
theorem dX4_gives_39 : decode cX4_gives 39 = .ok (.iconst 2, 1) := by decide +kernel
theorem dX4_gives_40 : decode cX4_gives 40 = .ok (.invokevirtual 280, 3) := by decide +kernel
theorem dX4_gives_43 : decode cX4_gives 43 = .ok (.ireturn, 1) := by decide +kernel
theorem dX4_calm_0 : decode cX4_calm 0 = .ok (.iconst 0, 1) := by decide +kernel
theorem dX4_calm_1 : decode cX4_calm 1 = .ok (.istore_n 1, 1) := by decide +kernel
theorem dX4_calm_2 : decode cX4_calm 2 = .ok (.iconst 0, 1) := by decide +kernel
theorem dX4_calm_3 : decode cX4_calm 3 = .ok (.istore_n 2, 1) := by decide +kernel
theorem dX4_calm_4 : decode cX4_calm 4 = .ok (.iload_n 2, 1) := by decide +kernel
theorem dX4_calm_5 : decode cX4_calm 5 = .ok (.aload_n 0, 1) := by decide +kernel
theorem dX4_calm_6 : decode cX4_calm 6 = .ok (.invokevirtual 107, 3) := by decide +kernel
theorem dX4_calm_9 : decode cX4_calm 9 = .ok (.if_icmp .ge 20, 3) := by decide +kernel
theorem dX4_calm_12 : decode cX4_calm 12 = .ok (.aload_n 0, 1) := by decide +kernel
theorem dX4_calm_13 : decode cX4_calm 13 = .ok (.iload_n 2, 1) := by decide +kernel
theorem dX4_calm_14 : decode cX4_calm 14 = .ok (.invokevirtual 249, 3) := by decide +kernel
theorem dX4_calm_17 : decode cX4_calm 17 = .ok (.ifCond .eq 6, 3) := by decide +kernel
theorem dX4_calm_20 : decode cX4_calm 20 = .ok (.iinc 1 1, 3) := by decide +kernel
theorem dX4_calm_23 : decode cX4_calm 23 = .ok (.iinc 2 1, 3) := by decide +kernel
theorem dX4_calm_26 : decode cX4_calm 26 = .ok (.goto (-22), 3) := by decide +kernel
theorem dX4_calm_29 : decode cX4_calm 29 = .ok (.iload_n 1, 1) := by decide +kernel
theorem dX4_calm_30 : decode cX4_calm 30 = .ok (.ireturn, 1) := by decide +kernel
theorem dX4_partOf_0 : decode cX4_partOf 0 = .ok (.iconst 1, 1) := by decide +kernel
theorem dX4_partOf_1 : decode cX4_partOf 1 = .ok (.iload_n 1, 1) := by decide +kernel
theorem dX4_partOf_2 : decode cX4_partOf 2 = .ok (.ishl, 1) := by decide +kernel
theorem dX4_partOf_3 : decode cX4_partOf 3 = .ok (.istore_n 2, 1) := by decide +kernel
theorem dX4_partOf_4 : decode cX4_partOf 4 = .ok (.iconst 0, 1) := by decide +kernel
theorem dX4_partOf_5 : decode cX4_partOf 5 = .ok (.istore_n 3, 1) := by decide +kernel
theorem dX4_partOf_6 : decode cX4_partOf 6 = .ok (.iload_n 2, 1) := by decide +kernel
theorem dX4_partOf_7 : decode cX4_partOf 7 = .ok (.iload_n 3, 1) := by decide +kernel
theorem dX4_partOf_8 : decode cX4_partOf 8 = .ok (.if_icmp .eq 97, 3) := by decide +kernel
theorem dX4_partOf_11 : decode cX4_partOf 11 = .ok (.iload_n 2, 1) := by decide +kernel
theorem dX4_partOf_12 : decode cX4_partOf 12 = .ok (.istore_n 3, 1) := by decide +kernel
theorem dX4_partOf_13 : decode cX4_partOf 13 = .ok (.iconst 0, 1) := by decide +kernel
theorem dX4_partOf_14 : decode cX4_partOf 14 = .ok (.istore 4, 2) := by decide +kernel
theorem dX4_partOf_16 : decode cX4_partOf 16 = .ok (.iload 4, 2) := by decide +kernel
theorem dX4_partOf_18 : decode cX4_partOf 18 = .ok (.aload_n 0, 1) := by decide +kernel
theorem dX4_partOf_19 : decode cX4_partOf 19 = .ok (.getfield 67, 3) := by decide +kernel
theorem dX4_partOf_22 : decode cX4_partOf 22 = .ok (.aload_n 0, 1) := by decide +kernel
theorem dX4_partOf_23 : decode cX4_partOf 23 = .ok (.getfield 70, 3) := by decide +kernel
theorem dX4_partOf_26 : decode cX4_partOf 26 = .ok (.imul, 1) := by decide +kernel
theorem dX4_partOf_27 : decode cX4_partOf 27 = .ok (.if_icmp .ge 75, 3) := by decide +kernel
theorem dX4_partOf_30 : decode cX4_partOf 30 = .ok (.iconst 0, 1) := by decide +kernel
theorem dX4_partOf_31 : decode cX4_partOf 31 = .ok (.istore 5, 2) := by decide +kernel
theorem dX4_partOf_33 : decode cX4_partOf 33 = .ok (.iload 5, 2) := by decide +kernel
theorem dX4_partOf_35 : decode cX4_partOf 35 = .ok (.iconst 4, 1) := by decide +kernel
theorem dX4_partOf_36 : decode cX4_partOf 36 = .ok (.if_icmp .ge 60, 3) := by decide +kernel
theorem dX4_partOf_39 : decode cX4_partOf 39 = .ok (.iload_n 3, 1) := by decide +kernel
theorem dX4_partOf_40 : decode cX4_partOf 40 = .ok (.iload 4, 2) := by decide +kernel
theorem dX4_partOf_42 : decode cX4_partOf 42 = .ok (.ishr, 1) := by decide +kernel
theorem dX4_partOf_43 : decode cX4_partOf 43 = .ok (.iconst 1, 1) := by decide +kernel
theorem dX4_partOf_44 : decode cX4_partOf 44 = .ok (.iand, 1) := by decide +kernel
theorem dX4_partOf_45 : decode cX4_partOf 45 = .ok (.iconst 1, 1) := by decide +kernel
theorem dX4_partOf_46 : decode cX4_partOf 46 = .ok (.if_icmp .ne 44, 3) := by decide +kernel
theorem dX4_partOf_49 : decode cX4_partOf 49 = .ok (.aload_n 0, 1) := by decide +kernel
theorem dX4_partOf_50 : decode cX4_partOf 50 = .ok (.iload 4, 2) := by decide +kernel
theorem dX4_partOf_52 : decode cX4_partOf 52 = .ok (.iload 5, 2) := by decide +kernel
theorem dX4_partOf_54 : decode cX4_partOf 54 = .ok (.invokevirtual 211, 3) := by decide +kernel
theorem dX4_partOf_57 : decode cX4_partOf 57 = .ok (.iconst (-1), 1) := by decide +kernel
theorem dX4_partOf_58 : decode cX4_partOf 58 = .ok (.if_icmp .eq 32, 3) := by decide +kernel
theorem dX4_partOf_61 : decode cX4_partOf 61 = .ok (.aload_n 0, 1) := by decide +kernel
theorem dX4_partOf_62 : decode cX4_partOf 62 = .ok (.getfield 7, 3) := by decide +kernel
theorem dX4_partOf_65 : decode cX4_partOf 65 = .ok (.aload_n 0, 1) := by decide +kernel
theorem dX4_partOf_66 : decode cX4_partOf 66 = .ok (.iload 4, 2) := by decide +kernel
theorem dX4_partOf_68 : decode cX4_partOf 68 = .ok (.iload 5, 2) := by decide +kernel
theorem dX4_partOf_70 : decode cX4_partOf 70 = .ok (.invokevirtual 122, 3) := by decide +kernel
theorem dX4_partOf_73 : decode cX4_partOf 73 = .ok (.baload, 1) := by decide +kernel
theorem dX4_partOf_74 : decode cX4_partOf 74 = .ok (.ifCond .ne 16, 3) := by decide +kernel
theorem dX4_partOf_77 : decode cX4_partOf 77 = .ok (.iload_n 2, 1) := by decide +kernel
theorem dX4_partOf_78 : decode cX4_partOf 78 = .ok (.iconst 1, 1) := by decide +kernel
theorem dX4_partOf_79 : decode cX4_partOf 79 = .ok (.aload_n 0, 1) := by decide +kernel
theorem dX4_partOf_80 : decode cX4_partOf 80 = .ok (.iload 4, 2) := by decide +kernel
theorem dX4_partOf_82 : decode cX4_partOf 82 = .ok (.iload 5, 2) := by decide +kernel
theorem dX4_partOf_84 : decode cX4_partOf 84 = .ok (.invokevirtual 211, 3) := by decide +kernel
theorem dX4_partOf_87 : decode cX4_partOf 87 = .ok (.ishl, 1) := by decide +kernel
theorem dX4_partOf_88 : decode cX4_partOf 88 = .ok (.ior, 1) := by decide +kernel
theorem dX4_partOf_89 : decode cX4_partOf 89 = .ok (.istore_n 2, 1) := by decide +kernel
theorem dX4_partOf_90 : decode cX4_partOf 90 = .ok (.iinc 5 1, 3) := by decide +kernel
theorem dX4_partOf_93 : decode cX4_partOf 93 = .ok (.goto (-60), 3) := by decide +kernel
theorem dX4_partOf_96 : decode cX4_partOf 96 = .ok (.iinc 4 1, 3) := by decide +kernel
theorem dX4_partOf_99 : decode cX4_partOf 99 = .ok (.goto (-83), 3) := by decide +kernel
theorem dX4_partOf_102 : decode cX4_partOf 102 = .ok (.goto (-96), 3) := by decide +kernel
theorem dX4_partOf_105 : decode cX4_partOf 105 = .ok (.iload_n 2, 1) := by decide +kernel
theorem dX4_partOf_106 : decode cX4_partOf 106 = .ok (.ireturn, 1) := by decide +kernel
theorem dX4_part_0 : decode cX4_part 0 = .ok (.aload_n 0, 1) := by decide +kernel
theorem dX4_part_1 : decode cX4_part 1 = .ok (.iload_n 1, 1) := by decide +kernel
theorem dX4_part_2 : decode cX4_part 2 = .ok (.invokevirtual 116, 3) := by decide +kernel
theorem dX4_part_5 : decode cX4_part 5 = .ok (.ifCond .eq 11, 3) := by decide +kernel
theorem dX4_part_8 : decode cX4_part 8 = .ok (.aload_n 0, 1) := by decide +kernel
theorem dX4_part_9 : decode cX4_part 9 = .ok (.iload_n 1, 1) := by decide +kernel
theorem dX4_part_10 : decode cX4_part 10 = .ok (.invokevirtual 283, 3) := by decide +kernel
theorem dX4_part_13 : decode cX4_part 13 = .ok (.goto 9, 3) := by decide +kernel
theorem dX4_part_16 : decode cX4_part 16 = .ok (.aload_n 0, 1) := by decide +kernel
theorem dX4_part_17 : decode cX4_part 17 = .ok (.bipush (-2), 2) := by decide +kernel
theorem dX4_part_19 : decode cX4_part 19 = .ok (.invokevirtual 56, 3) := by decide +kernel
theorem dX4_part_22 : decode cX4_part 22 = .ok (.ireturn, 1) := by decide +kernel
theorem dX4_parts_0 : decode cX4_parts 0 = .ok (.iconst 0, 1) := by decide +kernel
theorem dX4_parts_1 : decode cX4_parts 1 = .ok (.istore_n 1, 1) := by decide +kernel
theorem dX4_parts_2 : decode cX4_parts 2 = .ok (.iconst 0, 1) := by decide +kernel
theorem dX4_parts_3 : decode cX4_parts 3 = .ok (.istore_n 2, 1) := by decide +kernel
theorem dX4_parts_4 : decode cX4_parts 4 = .ok (.iload_n 2, 1) := by decide +kernel
theorem dX4_parts_5 : decode cX4_parts 5 = .ok (.aload_n 0, 1) := by decide +kernel
theorem dX4_parts_6 : decode cX4_parts 6 = .ok (.getfield 67, 3) := by decide +kernel
theorem dX4_parts_9 : decode cX4_parts 9 = .ok (.aload_n 0, 1) := by decide +kernel
theorem dX4_parts_10 : decode cX4_parts 10 = .ok (.getfield 70, 3) := by decide +kernel
theorem dX4_parts_13 : decode cX4_parts 13 = .ok (.imul, 1) := by decide +kernel
theorem dX4_parts_14 : decode cX4_parts 14 = .ok (.if_icmp .ge 24, 3) := by decide +kernel
theorem dX4_parts_17 : decode cX4_parts 17 = .ok (.aload_n 0, 1) := by decide +kernel
theorem dX4_parts_18 : decode cX4_parts 18 = .ok (.iload_n 2, 1) := by decide +kernel
theorem dX4_parts_19 : decode cX4_parts 19 = .ok (.invokevirtual 283, 3) := by decide +kernel
theorem dX4_parts_22 : decode cX4_parts 22 = .ok (.invokestatic 286, 3) := by decide +kernel
theorem dX4_parts_25 : decode cX4_parts 25 = .ok (.iload_n 2, 1) := by decide +kernel
theorem dX4_parts_26 : decode cX4_parts 26 = .ok (.if_icmp .ne 6, 3) := by decide +kernel
theorem dX4_parts_29 : decode cX4_parts 29 = .ok (.iinc 1 1, 3) := by decide +kernel
theorem dX4_parts_32 : decode cX4_parts 32 = .ok (.iinc 2 1, 3) := by decide +kernel
theorem dX4_parts_35 : decode cX4_parts 35 = .ok (.goto (-31), 3) := by decide +kernel
theorem dX4_parts_38 : decode cX4_parts 38 = .ok (.iload_n 1, 1) := by decide +kernel
theorem dX4_parts_39 : decode cX4_parts 39 = .ok (.ireturn, 1) := by decide +kernel
theorem dX4_ditches_0 : decode cX4_ditches 0 = .ok (.iconst 0, 1) := by decide +kernel
theorem dX4_ditches_1 : decode cX4_ditches 1 = .ok (.istore_n 1, 1) := by decide +kernel
theorem dX4_ditches_2 : decode cX4_ditches 2 = .ok (.iconst 0, 1) := by decide +kernel
theorem dX4_ditches_3 : decode cX4_ditches 3 = .ok (.istore_n 2, 1) := by decide +kernel
theorem dX4_ditches_4 : decode cX4_ditches 4 = .ok (.iload_n 2, 1) := by decide +kernel
theorem dX4_ditches_5 : decode cX4_ditches 5 = .ok (.aload_n 0, 1) := by decide +kernel
theorem dX4_ditches_6 : decode cX4_ditches 6 = .ok (.getfield 67, 3) := by decide +kernel
theorem dX4_ditches_9 : decode cX4_ditches 9 = .ok (.aload_n 0, 1) := by decide +kernel
theorem dX4_ditches_10 : decode cX4_ditches 10 = .ok (.getfield 70, 3) := by decide +kernel
theorem dX4_ditches_13 : decode cX4_ditches 13 = .ok (.imul, 1) := by decide +kernel
theorem dX4_ditches_14 : decode cX4_ditches 14 = .ok (.if_icmp .ge 33, 3) := by decide +kernel
theorem dX4_ditches_17 : decode cX4_ditches 17 = .ok (.aload_n 0, 1) := by decide +kernel
theorem dX4_ditches_18 : decode cX4_ditches 18 = .ok (.getfield 13, 3) := by decide +kernel
theorem dX4_ditches_21 : decode cX4_ditches 21 = .ok (.iload_n 2, 1) := by decide +kernel
theorem dX4_ditches_22 : decode cX4_ditches 22 = .ok (.baload, 1) := by decide +kernel
theorem dX4_ditches_23 : decode cX4_ditches 23 = .ok (.ifCond .eq 18, 3) := by decide +kernel
theorem dX4_ditches_26 : decode cX4_ditches 26 = .ok (.aload_n 0, 1) := by decide +kernel
theorem dX4_ditches_27 : decode cX4_ditches 27 = .ok (.iload_n 2, 1) := by decide +kernel
theorem dX4_ditches_28 : decode cX4_ditches 28 = .ok (.invokevirtual 214, 3) := by decide +kernel
theorem dX4_ditches_31 : decode cX4_ditches 31 = .ok (.invokestatic 286, 3) := by decide +kernel
theorem dX4_ditches_34 : decode cX4_ditches 34 = .ok (.iload_n 2, 1) := by decide +kernel
theorem dX4_ditches_35 : decode cX4_ditches 35 = .ok (.if_icmp .ne 6, 3) := by decide +kernel
theorem dX4_ditches_38 : decode cX4_ditches 38 = .ok (.iinc 1 1, 3) := by decide +kernel
theorem dX4_ditches_41 : decode cX4_ditches 41 = .ok (.iinc 2 1, 3) := by decide +kernel
theorem dX4_ditches_44 : decode cX4_ditches 44 = .ok (.goto (-40), 3) := by decide +kernel
theorem dX4_ditches_47 : decode cX4_ditches 47 = .ok (.iload_n 1, 1) := by decide +kernel
theorem dX4_ditches_48 : decode cX4_ditches 48 = .ok (.ireturn, 1) := by decide +kernel
theorem dX4_owned_0 : decode cX4_owned 0 = .ok (.iload_n 1, 1) := by decide +kernel
theorem dX4_owned_1 : decode cX4_owned 1 = .ok (.iconst 0, 1) := by decide +kernel
theorem dX4_owned_2 : decode cX4_owned 2 = .ok (.iconst 1, 1) := by decide +kernel
theorem dX4_owned_3 : decode cX4_owned 3 = .ok (.invokestatic 63, 3) := by decide +kernel
theorem dX4_owned_6 : decode cX4_owned 6 = .ok (.ifCond .ne 10, 3) := by decide +kernel
theorem dX4_owned_9 : decode cX4_owned 9 = .ok (.aload_n 0, 1) := by decide +kernel
theorem dX4_owned_10 : decode cX4_owned 10 = .ok (.bipush (-2), 2) := by decide +kernel
theorem dX4_owned_12 : decode cX4_owned 12 = .ok (.invokevirtual 56, 3) := by decide +kernel
theorem dX4_owned_15 : decode cX4_owned 15 = .ok (.ireturn, 1) := by decide +kernel
theorem dX4_owned_16 : decode cX4_owned 16 = .ok (.iconst 0, 1) := by decide +kernel
theorem dX4_owned_17 : decode cX4_owned 17 = .ok (.istore_n 2, 1) := by decide +kernel
theorem dX4_owned_18 : decode cX4_owned 18 = .ok (.iconst 0, 1) := by decide +kernel
theorem dX4_owned_19 : decode cX4_owned 19 = .ok (.istore_n 3, 1) := by decide +kernel
theorem dX4_owned_20 : decode cX4_owned 20 = .ok (.iload_n 3, 1) := by decide +kernel
theorem dX4_owned_21 : decode cX4_owned 21 = .ok (.aload_n 0, 1) := by decide +kernel
theorem dX4_owned_22 : decode cX4_owned 22 = .ok (.getfield 67, 3) := by decide +kernel
theorem dX4_owned_25 : decode cX4_owned 25 = .ok (.aload_n 0, 1) := by decide +kernel
theorem dX4_owned_26 : decode cX4_owned 26 = .ok (.getfield 70, 3) := by decide +kernel
theorem dX4_owned_29 : decode cX4_owned 29 = .ok (.imul, 1) := by decide +kernel
theorem dX4_owned_30 : decode cX4_owned 30 = .ok (.if_icmp .ge 25, 3) := by decide +kernel
theorem dX4_owned_33 : decode cX4_owned 33 = .ok (.aload_n 0, 1) := by decide +kernel
theorem dX4_owned_34 : decode cX4_owned 34 = .ok (.getfield 16, 3) := by decide +kernel
theorem dX4_owned_37 : decode cX4_owned 37 = .ok (.iload_n 3, 1) := by decide +kernel
theorem dX4_owned_38 : decode cX4_owned 38 = .ok (.iaload, 1) := by decide +kernel
theorem dX4_owned_39 : decode cX4_owned 39 = .ok (.iload_n 1, 1) := by decide +kernel
theorem dX4_owned_40 : decode cX4_owned 40 = .ok (.if_icmp .ne 9, 3) := by decide +kernel
theorem dX4_owned_43 : decode cX4_owned 43 = .ok (.iload_n 2, 1) := by decide +kernel
theorem dX4_owned_44 : decode cX4_owned 44 = .ok (.iconst 1, 1) := by decide +kernel
theorem dX4_owned_45 : decode cX4_owned 45 = .ok (.iload_n 3, 1) := by decide +kernel
theorem dX4_owned_46 : decode cX4_owned 46 = .ok (.ishl, 1) := by decide +kernel
theorem dX4_owned_47 : decode cX4_owned 47 = .ok (.ior, 1) := by decide +kernel
theorem dX4_owned_48 : decode cX4_owned 48 = .ok (.istore_n 2, 1) := by decide +kernel
theorem dX4_owned_49 : decode cX4_owned 49 = .ok (.iinc 3 1, 3) := by decide +kernel
theorem dX4_owned_52 : decode cX4_owned 52 = .ok (.goto (-32), 3) := by decide +kernel
theorem dX4_owned_55 : decode cX4_owned 55 = .ok (.iload_n 2, 1) := by decide +kernel
theorem dX4_owned_56 : decode cX4_owned 56 = .ok (.ireturn, 1) := by decide +kernel
theorem dX4_coloured_0 : decode cX4_coloured 0 = .ok (.iload_n 1, 1) := by decide +kernel
theorem dX4_coloured_1 : decode cX4_coloured 1 = .ok (.iconst 0, 1) := by decide +kernel
theorem dX4_coloured_2 : decode cX4_coloured 2 = .ok (.iconst 1, 1) := by decide +kernel
theorem dX4_coloured_3 : decode cX4_coloured 3 = .ok (.invokestatic 63, 3) := by decide +kernel
theorem dX4_coloured_6 : decode cX4_coloured 6 = .ok (.ifCond .ne 10, 3) := by decide +kernel
theorem dX4_coloured_9 : decode cX4_coloured 9 = .ok (.aload_n 0, 1) := by decide +kernel
theorem dX4_coloured_10 : decode cX4_coloured 10 = .ok (.bipush (-2), 2) := by decide +kernel
theorem dX4_coloured_12 : decode cX4_coloured 12 = .ok (.invokevirtual 56, 3) := by decide +kernel
theorem dX4_coloured_15 : decode cX4_coloured 15 = .ok (.ireturn, 1) := by decide +kernel
theorem dX4_coloured_16 : decode cX4_coloured 16 = .ok (.aload_n 0, 1) := by decide +kernel
theorem dX4_coloured_17 : decode cX4_coloured 17 = .ok (.invokevirtual 199, 3) := by decide +kernel
theorem dX4_coloured_20 : decode cX4_coloured 20 = .ok (.istore_n 2, 1) := by decide +kernel
theorem dX4_coloured_21 : decode cX4_coloured 21 = .ok (.iconst 0, 1) := by decide +kernel
theorem dX4_coloured_22 : decode cX4_coloured 22 = .ok (.istore_n 3, 1) := by decide +kernel
theorem dX4_coloured_23 : decode cX4_coloured 23 = .ok (.iconst 0, 1) := by decide +kernel
theorem dX4_coloured_24 : decode cX4_coloured 24 = .ok (.istore 4, 2) := by decide +kernel
theorem dX4_coloured_26 : decode cX4_coloured 26 = .ok (.iload 4, 2) := by decide +kernel
theorem dX4_coloured_28 : decode cX4_coloured 28 = .ok (.aload_n 0, 1) := by decide +kernel
theorem dX4_coloured_29 : decode cX4_coloured 29 = .ok (.getfield 67, 3) := by decide +kernel
theorem dX4_coloured_32 : decode cX4_coloured 32 = .ok (.aload_n 0, 1) := by decide +kernel
theorem dX4_coloured_33 : decode cX4_coloured 33 = .ok (.getfield 70, 3) := by decide +kernel
theorem dX4_coloured_36 : decode cX4_coloured 36 = .ok (.imul, 1) := by decide +kernel
theorem dX4_coloured_37 : decode cX4_coloured 37 = .ok (.if_icmp .ge 27, 3) := by decide +kernel
theorem dX4_coloured_40 : decode cX4_coloured 40 = .ok (.aload_n 0, 1) := by decide +kernel
theorem dX4_coloured_41 : decode cX4_coloured 41 = .ok (.iload 4, 2) := by decide +kernel
theorem dX4_coloured_43 : decode cX4_coloured 43 = .ok (.iload_n 2, 1) := by decide +kernel
theorem dX4_coloured_44 : decode cX4_coloured 44 = .ok (.invokevirtual 202, 3) := by decide +kernel
theorem dX4_coloured_47 : decode cX4_coloured 47 = .ok (.iload_n 1, 1) := by decide +kernel
theorem dX4_coloured_48 : decode cX4_coloured 48 = .ok (.if_icmp .ne 10, 3) := by decide +kernel
theorem dX4_coloured_51 : decode cX4_coloured 51 = .ok (.iload_n 3, 1) := by decide +kernel
theorem dX4_coloured_52 : decode cX4_coloured 52 = .ok (.iconst 1, 1) := by decide +kernel
theorem dX4_coloured_53 : decode cX4_coloured 53 = .ok (.iload 4, 2) := by decide +kernel
theorem dX4_coloured_55 : decode cX4_coloured 55 = .ok (.ishl, 1) := by decide +kernel
theorem dX4_coloured_56 : decode cX4_coloured 56 = .ok (.ior, 1) := by decide +kernel
theorem dX4_coloured_57 : decode cX4_coloured 57 = .ok (.istore_n 3, 1) := by decide +kernel
theorem dX4_coloured_58 : decode cX4_coloured 58 = .ok (.iinc 4 1, 3) := by decide +kernel
theorem dX4_coloured_61 : decode cX4_coloured 61 = .ok (.goto (-35), 3) := by decide +kernel
theorem dX4_coloured_64 : decode cX4_coloured 64 = .ok (.iload_n 3, 1) := by decide +kernel
theorem dX4_coloured_65 : decode cX4_coloured 65 = .ok (.ireturn, 1) := by decide +kernel
theorem dX4_gaps_0 : decode cX4_gaps 0 = .ok (.iconst 0, 1) := by decide +kernel
theorem dX4_gaps_1 : decode cX4_gaps 1 = .ok (.istore_n 1, 1) := by decide +kernel
theorem dX4_gaps_2 : decode cX4_gaps 2 = .ok (.iconst 0, 1) := by decide +kernel
theorem dX4_gaps_3 : decode cX4_gaps 3 = .ok (.istore_n 2, 1) := by decide +kernel
theorem dX4_gaps_4 : decode cX4_gaps 4 = .ok (.iload_n 2, 1) := by decide +kernel
theorem dX4_gaps_5 : decode cX4_gaps 5 = .ok (.aload_n 0, 1) := by decide +kernel
theorem dX4_gaps_6 : decode cX4_gaps 6 = .ok (.invokevirtual 107, 3) := by decide +kernel
theorem dX4_gaps_9 : decode cX4_gaps 9 = .ok (.if_icmp .ge 29, 3) := by decide +kernel
theorem dX4_gaps_12 : decode cX4_gaps 12 = .ok (.aload_n 0, 1) := by decide +kernel
theorem dX4_gaps_13 : decode cX4_gaps 13 = .ok (.iload_n 2, 1) := by decide +kernel
theorem dX4_gaps_14 : decode cX4_gaps 14 = .ok (.invokevirtual 125, 3) := by decide +kernel
theorem dX4_gaps_17 : decode cX4_gaps 17 = .ok (.ifCond .eq 15, 3) := by decide +kernel
theorem dX4_gaps_20 : decode cX4_gaps 20 = .ok (.aload_n 0, 1) := by decide +kernel
theorem dX4_gaps_21 : decode cX4_gaps 21 = .ok (.getfield 7, 3) := by decide +kernel
theorem dX4_gaps_24 : decode cX4_gaps 24 = .ok (.iload_n 2, 1) := by decide +kernel
theorem dX4_gaps_25 : decode cX4_gaps 25 = .ok (.baload, 1) := by decide +kernel
theorem dX4_gaps_26 : decode cX4_gaps 26 = .ok (.ifCond .ne 6, 3) := by decide +kernel
theorem dX4_gaps_29 : decode cX4_gaps 29 = .ok (.iinc 1 1, 3) := by decide +kernel
theorem dX4_gaps_32 : decode cX4_gaps 32 = .ok (.iinc 2 1, 3) := by decide +kernel
theorem dX4_gaps_35 : decode cX4_gaps 35 = .ok (.goto (-31), 3) := by decide +kernel
theorem dX4_gaps_38 : decode cX4_gaps 38 = .ok (.iload_n 1, 1) := by decide +kernel
theorem dX4_gaps_39 : decode cX4_gaps 39 = .ok (.ireturn, 1) := by decide +kernel
theorem dX4_rim_0 : decode cX4_rim 0 = .ok (.iconst 0, 1) := by decide +kernel
theorem dX4_rim_1 : decode cX4_rim 1 = .ok (.istore_n 1, 1) := by decide +kernel
theorem dX4_rim_2 : decode cX4_rim 2 = .ok (.iconst 0, 1) := by decide +kernel
theorem dX4_rim_3 : decode cX4_rim 3 = .ok (.istore_n 2, 1) := by decide +kernel
theorem dX4_rim_4 : decode cX4_rim 4 = .ok (.iload_n 2, 1) := by decide +kernel
theorem dX4_rim_5 : decode cX4_rim 5 = .ok (.aload_n 0, 1) := by decide +kernel
theorem dX4_rim_6 : decode cX4_rim 6 = .ok (.getfield 67, 3) := by decide +kernel
theorem dX4_rim_9 : decode cX4_rim 9 = .ok (.aload_n 0, 1) := by decide +kernel
theorem dX4_rim_10 : decode cX4_rim 10 = .ok (.getfield 70, 3) := by decide +kernel
theorem dX4_rim_13 : decode cX4_rim 13 = .ok (.imul, 1) := by decide +kernel
theorem dX4_rim_14 : decode cX4_rim 14 = .ok (.if_icmp .ge 23, 3) := by decide +kernel
theorem dX4_rim_17 : decode cX4_rim 17 = .ok (.aload_n 0, 1) := by decide +kernel
theorem dX4_rim_18 : decode cX4_rim 18 = .ok (.iload_n 2, 1) := by decide +kernel
theorem dX4_rim_19 : decode cX4_rim 19 = .ok (.invokevirtual 205, 3) := by decide +kernel
theorem dX4_rim_22 : decode cX4_rim 22 = .ok (.ifCond .eq 9, 3) := by decide +kernel
theorem dX4_rim_25 : decode cX4_rim 25 = .ok (.iload_n 1, 1) := by decide +kernel
theorem dX4_rim_26 : decode cX4_rim 26 = .ok (.iconst 1, 1) := by decide +kernel
theorem dX4_rim_27 : decode cX4_rim 27 = .ok (.iload_n 2, 1) := by decide +kernel
theorem dX4_rim_28 : decode cX4_rim 28 = .ok (.ishl, 1) := by decide +kernel
theorem dX4_rim_29 : decode cX4_rim 29 = .ok (.ior, 1) := by decide +kernel
theorem dX4_rim_30 : decode cX4_rim 30 = .ok (.istore_n 1, 1) := by decide +kernel
theorem dX4_rim_31 : decode cX4_rim 31 = .ok (.iinc 2 1, 3) := by decide +kernel
theorem dX4_rim_34 : decode cX4_rim 34 = .ok (.goto (-30), 3) := by decide +kernel
theorem dX4_rim_37 : decode cX4_rim 37 = .ok (.iload_n 1, 1) := by decide +kernel
theorem dX4_rim_38 : decode cX4_rim 38 = .ok (.ireturn, 1) := by decide +kernel
theorem dX4_bare_0 : decode cX4_bare 0 = .ok (.iconst 0, 1) := by decide +kernel
theorem dX4_bare_1 : decode cX4_bare 1 = .ok (.istore_n 1, 1) := by decide +kernel
theorem dX4_bare_2 : decode cX4_bare 2 = .ok (.iconst 0, 1) := by decide +kernel
theorem dX4_bare_3 : decode cX4_bare 3 = .ok (.istore_n 2, 1) := by decide +kernel
theorem dX4_bare_4 : decode cX4_bare 4 = .ok (.iload_n 2, 1) := by decide +kernel
theorem dX4_bare_5 : decode cX4_bare 5 = .ok (.aload_n 0, 1) := by decide +kernel
theorem dX4_bare_6 : decode cX4_bare 6 = .ok (.getfield 67, 3) := by decide +kernel
theorem dX4_bare_9 : decode cX4_bare 9 = .ok (.aload_n 0, 1) := by decide +kernel
theorem dX4_bare_10 : decode cX4_bare 10 = .ok (.getfield 70, 3) := by decide +kernel
theorem dX4_bare_13 : decode cX4_bare 13 = .ok (.imul, 1) := by decide +kernel
theorem dX4_bare_14 : decode cX4_bare 14 = .ok (.if_icmp .ge 23, 3) := by decide +kernel
theorem dX4_bare_17 : decode cX4_bare 17 = .ok (.aload_n 0, 1) := by decide +kernel
theorem dX4_bare_18 : decode cX4_bare 18 = .ok (.iload_n 2, 1) := by decide +kernel
theorem dX4_bare_19 : decode cX4_bare 19 = .ok (.invokevirtual 196, 3) := by decide +kernel
theorem dX4_bare_22 : decode cX4_bare 22 = .ok (.ifCond .ne 9, 3) := by decide +kernel
theorem dX4_bare_25 : decode cX4_bare 25 = .ok (.iload_n 1, 1) := by decide +kernel
theorem dX4_bare_26 : decode cX4_bare 26 = .ok (.iconst 1, 1) := by decide +kernel
theorem dX4_bare_27 : decode cX4_bare 27 = .ok (.iload_n 2, 1) := by decide +kernel
theorem dX4_bare_28 : decode cX4_bare 28 = .ok (.ishl, 1) := by decide +kernel
theorem dX4_bare_29 : decode cX4_bare 29 = .ok (.ior, 1) := by decide +kernel
theorem dX4_bare_30 : decode cX4_bare 30 = .ok (.istore_n 1, 1) := by decide +kernel
theorem dX4_bare_31 : decode cX4_bare 31 = .ok (.iinc 2 1, 3) := by decide +kernel
theorem dX4_bare_34 : decode cX4_bare 34 = .ok (.goto (-30), 3) := by decide +kernel
theorem dX4_bare_37 : decode cX4_bare 37 = .ok (.iload_n 1, 1) := by decide +kernel
theorem dX4_bare_38 : decode cX4_bare 38 = .ok (.ireturn, 1) := by decide +kernel
theorem dX4_soft_0 : decode cX4_soft 0 = .ok (.iconst 0, 1) := by decide +kernel
theorem dX4_soft_1 : decode cX4_soft 1 = .ok (.istore_n 1, 1) := by decide +kernel
theorem dX4_soft_2 : decode cX4_soft 2 = .ok (.iconst 0, 1) := by decide +kernel
theorem dX4_soft_3 : decode cX4_soft 3 = .ok (.istore_n 2, 1) := by decide +kernel
theorem dX4_soft_4 : decode cX4_soft 4 = .ok (.iload_n 2, 1) := by decide +kernel
theorem dX4_soft_5 : decode cX4_soft 5 = .ok (.aload_n 0, 1) := by decide +kernel
theorem dX4_soft_6 : decode cX4_soft 6 = .ok (.getfield 67, 3) := by decide +kernel
theorem dX4_soft_9 : decode cX4_soft 9 = .ok (.aload_n 0, 1) := by decide +kernel
theorem dX4_soft_10 : decode cX4_soft 10 = .ok (.getfield 70, 3) := by decide +kernel
theorem dX4_soft_13 : decode cX4_soft 13 = .ok (.imul, 1) := by decide +kernel
theorem dX4_soft_14 : decode cX4_soft 14 = .ok (.if_icmp .ge 26, 3) := by decide +kernel
theorem dX4_soft_17 : decode cX4_soft 17 = .ok (.aload_n 0, 1) := by decide +kernel
theorem dX4_soft_18 : decode cX4_soft 18 = .ok (.bipush 100, 2) := by decide +kernel
theorem dX4_soft_20 : decode cX4_soft 20 = .ok (.iload_n 2, 1) := by decide +kernel
theorem dX4_soft_21 : decode cX4_soft 21 = .ok (.iadd, 1) := by decide +kernel
theorem dX4_soft_22 : decode cX4_soft 22 = .ok (.invokevirtual 176, 3) := by decide +kernel
theorem dX4_soft_25 : decode cX4_soft 25 = .ok (.ifCond .eq 9, 3) := by decide +kernel
theorem dX4_soft_28 : decode cX4_soft 28 = .ok (.iload_n 1, 1) := by decide +kernel
theorem dX4_soft_29 : decode cX4_soft 29 = .ok (.iconst 1, 1) := by decide +kernel
theorem dX4_soft_30 : decode cX4_soft 30 = .ok (.iload_n 2, 1) := by decide +kernel
theorem dX4_soft_31 : decode cX4_soft 31 = .ok (.ishl, 1) := by decide +kernel
theorem dX4_soft_32 : decode cX4_soft 32 = .ok (.ior, 1) := by decide +kernel
theorem dX4_soft_33 : decode cX4_soft 33 = .ok (.istore_n 1, 1) := by decide +kernel
theorem dX4_soft_34 : decode cX4_soft 34 = .ok (.iinc 2 1, 3) := by decide +kernel
theorem dX4_soft_37 : decode cX4_soft 37 = .ok (.goto (-33), 3) := by decide +kernel
theorem dX4_soft_40 : decode cX4_soft 40 = .ok (.iload_n 1, 1) := by decide +kernel
theorem dX4_soft_41 : decode cX4_soft 41 = .ok (.ireturn, 1) := by decide +kernel
theorem dX4_after_0 : decode cX4_after 0 = .ok (.aload_n 0, 1) := by decide +kernel
theorem dX4_after_1 : decode cX4_after 1 = .ok (.iload_n 1, 1) := by decide +kernel
theorem dX4_after_2 : decode cX4_after 2 = .ok (.invokevirtual 173, 3) := by decide +kernel
theorem dX4_after_5 : decode cX4_after 5 = .ok (.ifCond .ne 10, 3) := by decide +kernel
theorem dX4_after_8 : decode cX4_after 8 = .ok (.aload_n 0, 1) := by decide +kernel
theorem dX4_after_9 : decode cX4_after 9 = .ok (.bipush (-2), 2) := by decide +kernel
theorem dX4_after_11 : decode cX4_after 11 = .ok (.invokevirtual 229, 3) := by decide +kernel
theorem dX4_after_14 : decode cX4_after 14 = .ok (.ireturn, 1) := by decide +kernel
theorem dX4_after_15 : decode cX4_after 15 = .ok (.aload_n 0, 1) := by decide +kernel
theorem dX4_after_16 : decode cX4_after 16 = .ok (.iload_n 1, 1) := by decide +kernel
theorem dX4_after_17 : decode cX4_after 17 = .ok (.invokevirtual 176, 3) := by decide +kernel
theorem dX4_after_20 : decode cX4_after 20 = .ok (.ifCond .eq 12, 3) := by decide +kernel
theorem dX4_after_23 : decode cX4_after 23 = .ok (.aload_n 0, 1) := by decide +kernel
theorem dX4_after_24 : decode cX4_after 24 = .ok (.invokevirtual 94, 3) := by decide +kernel
theorem dX4_after_27 : decode cX4_after 27 = .ok (.bipush 7, 2) := by decide +kernel
theorem dX4_after_29 : decode cX4_after 29 = .ok (.if_icmp .le 10, 3) := by decide +kernel
theorem dX4_after_32 : decode cX4_after 32 = .ok (.aload_n 0, 1) := by decide +kernel
theorem dX4_after_33 : decode cX4_after 33 = .ok (.bipush (-5), 2) := by decide +kernel
theorem dX4_after_35 : decode cX4_after 35 = .ok (.invokevirtual 229, 3) := by decide +kernel
theorem dX4_after_38 : decode cX4_after 38 = .ok (.ireturn, 1) := by decide +kernel
theorem dX4_after_39 : decode cX4_after 39 = .ok (.aload_n 0, 1) := by decide +kernel
theorem dX4_after_40 : decode cX4_after 40 = .ok (.iload_n 1, 1) := by decide +kernel
theorem dX4_after_41 : decode cX4_after 41 = .ok (.invokevirtual 179, 3) := by decide +kernel
theorem dX4_after_44 : decode cX4_after 44 = .ok (.pop, 1) := by decide +kernel
theorem dX4_after_45 : decode cX4_after 45 = .ok (.aload_n 0, 1) := by decide +kernel
theorem dX4_after_46 : decode cX4_after 46 = .ok (.invokevirtual 235, 3) := by decide +kernel
theorem dX4_after_49 : decode cX4_after 49 = .ok (.ineg, 1) := by decide +kernel
theorem dX4_after_50 : decode cX4_after 50 = .ok (.istore_n 2, 1) := by decide +kernel
theorem dX4_after_51 : decode cX4_after 51 = .ok (.aload_n 0, 1) := by decide +kernel
theorem dX4_after_52 : decode cX4_after 52 = .ok (.iload_n 1, 1) := by decide +kernel
theorem dX4_after_53 : decode cX4_after 53 = .ok (.invokevirtual 238, 3) := by decide +kernel
theorem dX4_after_56 : decode cX4_after 56 = .ok (.iload_n 2, 1) := by decide +kernel
theorem dX4_after_57 : decode cX4_after 57 = .ok (.ireturn, 1) := by decide +kernel
theorem dX4_winsOf_0 : decode cX4_winsOf 0 = .ok (.iconst 0, 1) := by decide +kernel
theorem dX4_winsOf_1 : decode cX4_winsOf 1 = .ok (.istore_n 2, 1) := by decide +kernel
theorem dX4_winsOf_2 : decode cX4_winsOf 2 = .ok (.aload_n 0, 1) := by decide +kernel
theorem dX4_winsOf_3 : decode cX4_winsOf 3 = .ok (.getfield 101, 3) := by decide +kernel
theorem dX4_winsOf_6 : decode cX4_winsOf 6 = .ok (.ifCond .ne 7, 3) := by decide +kernel
theorem dX4_winsOf_9 : decode cX4_winsOf 9 = .ok (.iconst 1, 1) := by decide +kernel
theorem dX4_winsOf_10 : decode cX4_winsOf 10 = .ok (.goto 4, 3) := by decide +kernel
theorem dX4_winsOf_13 : decode cX4_winsOf 13 = .ok (.iconst (-1), 1) := by decide +kernel
theorem dX4_winsOf_14 : decode cX4_winsOf 14 = .ok (.istore_n 3, 1) := by decide +kernel
theorem dX4_winsOf_15 : decode cX4_winsOf 15 = .ok (.iconst 0, 1) := by decide +kernel
theorem dX4_winsOf_16 : decode cX4_winsOf 16 = .ok (.istore 4, 2) := by decide +kernel
theorem dX4_winsOf_18 : decode cX4_winsOf 18 = .ok (.iload 4, 2) := by decide +kernel
theorem dX4_winsOf_20 : decode cX4_winsOf 20 = .ok (.aload_n 0, 1) := by decide +kernel
theorem dX4_winsOf_21 : decode cX4_winsOf 21 = .ok (.getfield 60, 3) := by decide +kernel
theorem dX4_winsOf_24 : decode cX4_winsOf 24 = .ok (.if_icmp .ge 35, 3) := by decide +kernel
theorem dX4_winsOf_27 : decode cX4_winsOf 27 = .ok (.iload 4, 2) := by decide +kernel
theorem dX4_winsOf_29 : decode cX4_winsOf 29 = .ok (.iload_n 1, 1) := by decide +kernel
theorem dX4_winsOf_30 : decode cX4_winsOf 30 = .ok (.if_icmp .eq 23, 3) := by decide +kernel
theorem dX4_winsOf_33 : decode cX4_winsOf 33 = .ok (.iload_n 2, 1) := by decide +kernel
theorem dX4_winsOf_34 : decode cX4_winsOf 34 = .ok (.iload_n 3, 1) := by decide +kernel
theorem dX4_winsOf_35 : decode cX4_winsOf 35 = .ok (.aload_n 0, 1) := by decide +kernel
theorem dX4_winsOf_36 : decode cX4_winsOf 36 = .ok (.iload_n 1, 1) := by decide +kernel
theorem dX4_winsOf_37 : decode cX4_winsOf 37 = .ok (.iload 4, 2) := by decide +kernel
theorem dX4_winsOf_39 : decode cX4_winsOf 39 = .ok (.invokevirtual 291, 3) := by decide +kernel
theorem dX4_winsOf_42 : decode cX4_winsOf 42 = .ok (.aload_n 0, 1) := by decide +kernel
theorem dX4_winsOf_43 : decode cX4_winsOf 43 = .ok (.iload 4, 2) := by decide +kernel
theorem dX4_winsOf_45 : decode cX4_winsOf 45 = .ok (.iload_n 1, 1) := by decide +kernel
theorem dX4_winsOf_46 : decode cX4_winsOf 46 = .ok (.invokevirtual 291, 3) := by decide +kernel
theorem dX4_winsOf_49 : decode cX4_winsOf 49 = .ok (.isub, 1) := by decide +kernel
theorem dX4_winsOf_50 : decode cX4_winsOf 50 = .ok (.imul, 1) := by decide +kernel
theorem dX4_winsOf_51 : decode cX4_winsOf 51 = .ok (.iadd, 1) := by decide +kernel
theorem dX4_winsOf_52 : decode cX4_winsOf 52 = .ok (.istore_n 2, 1) := by decide +kernel
theorem dX4_winsOf_53 : decode cX4_winsOf 53 = .ok (.iinc 4 1, 3) := by decide +kernel
theorem dX4_winsOf_56 : decode cX4_winsOf 56 = .ok (.goto (-38), 3) := by decide +kernel
theorem dX4_winsOf_59 : decode cX4_winsOf 59 = .ok (.iload_n 2, 1) := by decide +kernel
theorem dX4_winsOf_60 : decode cX4_winsOf 60 = .ok (.ireturn, 1) := by decide +kernel
theorem dX4_wins_0 : decode cX4_wins 0 = .ok (.aload_n 0, 1) := by decide +kernel
theorem dX4_wins_1 : decode cX4_wins 1 = .ok (.iload_n 1, 1) := by decide +kernel
theorem dX4_wins_2 : decode cX4_wins 2 = .ok (.invokevirtual 87, 3) := by decide +kernel
theorem dX4_wins_5 : decode cX4_wins 5 = .ok (.ifCond .eq 11, 3) := by decide +kernel
theorem dX4_wins_8 : decode cX4_wins 8 = .ok (.aload_n 0, 1) := by decide +kernel
theorem dX4_wins_9 : decode cX4_wins 9 = .ok (.iload_n 1, 1) := by decide +kernel
theorem dX4_wins_10 : decode cX4_wins 10 = .ok (.invokevirtual 294, 3) := by decide +kernel
theorem dX4_wins_13 : decode cX4_wins 13 = .ok (.goto 9, 3) := by decide +kernel
theorem dX4_wins_16 : decode cX4_wins 16 = .ok (.aload_n 0, 1) := by decide +kernel
theorem dX4_wins_17 : decode cX4_wins 17 = .ok (.bipush (-2), 2) := by decide +kernel
theorem dX4_wins_19 : decode cX4_wins 19 = .ok (.invokevirtual 229, 3) := by decide +kernel
theorem dX4_wins_22 : decode cX4_wins 22 = .ok (.ireturn, 1) := by decide +kernel
theorem dX4_champion_0 : decode cX4_champion 0 = .ok (.aload_n 0, 1) := by decide +kernel
theorem dX4_champion_1 : decode cX4_champion 1 = .ok (.getfield 60, 3) := by decide +kernel
theorem dX4_champion_4 : decode cX4_champion 4 = .ok (.ifCond .ne 10, 3) := by decide +kernel
theorem dX4_champion_7 : decode cX4_champion 7 = .ok (.aload_n 0, 1) := by decide +kernel
theorem dX4_champion_8 : decode cX4_champion 8 = .ok (.bipush (-5), 2) := by decide +kernel
theorem dX4_champion_10 : decode cX4_champion 10 = .ok (.invokevirtual 56, 3) := by decide +kernel
theorem dX4_champion_13 : decode cX4_champion 13 = .ok (.ireturn, 1) := by decide +kernel
theorem dX4_champion_14 : decode cX4_champion 14 = .ok (.iconst 0, 1) := by decide +kernel
theorem dX4_champion_15 : decode cX4_champion 15 = .ok (.istore_n 1, 1) := by decide +kernel
theorem dX4_champion_16 : decode cX4_champion 16 = .ok (.iconst 1, 1) := by decide +kernel
theorem dX4_champion_17 : decode cX4_champion 17 = .ok (.istore_n 2, 1) := by decide +kernel
theorem dX4_champion_18 : decode cX4_champion 18 = .ok (.iload_n 2, 1) := by decide +kernel
theorem dX4_champion_19 : decode cX4_champion 19 = .ok (.aload_n 0, 1) := by decide +kernel
theorem dX4_champion_20 : decode cX4_champion 20 = .ok (.getfield 60, 3) := by decide +kernel
theorem dX4_champion_23 : decode cX4_champion 23 = .ok (.if_icmp .ge 24, 3) := by decide +kernel
theorem dX4_champion_26 : decode cX4_champion 26 = .ok (.aload_n 0, 1) := by decide +kernel
theorem dX4_champion_27 : decode cX4_champion 27 = .ok (.iload_n 2, 1) := by decide +kernel
theorem dX4_champion_28 : decode cX4_champion 28 = .ok (.invokevirtual 294, 3) := by decide +kernel
theorem dX4_champion_31 : decode cX4_champion 31 = .ok (.aload_n 0, 1) := by decide +kernel
theorem dX4_champion_32 : decode cX4_champion 32 = .ok (.iload_n 1, 1) := by decide +kernel
theorem dX4_champion_33 : decode cX4_champion 33 = .ok (.invokevirtual 294, 3) := by decide +kernel
theorem dX4_champion_36 : decode cX4_champion 36 = .ok (.if_icmp .le 5, 3) := by decide +kernel
theorem dX4_champion_39 : decode cX4_champion 39 = .ok (.iload_n 2, 1) := by decide +kernel
theorem dX4_champion_40 : decode cX4_champion 40 = .ok (.istore_n 1, 1) := by decide +kernel
theorem dX4_champion_41 : decode cX4_champion 41 = .ok (.iinc 2 1, 3) := by decide +kernel
theorem dX4_champion_44 : decode cX4_champion 44 = .ok (.goto (-26), 3) := by decide +kernel
theorem dX4_champion_47 : decode cX4_champion 47 = .ok (.iload_n 1, 1) := by decide +kernel
theorem dX4_champion_48 : decode cX4_champion 48 = .ok (.ireturn, 1) := by decide +kernel
theorem dX4_likenesses_0 : decode cX4_likenesses 0 = .ok (.iconst 0, 1) := by decide +kernel
theorem dX4_likenesses_1 : decode cX4_likenesses 1 = .ok (.istore_n 1, 1) := by decide +kernel
theorem dX4_likenesses_2 : decode cX4_likenesses 2 = .ok (.iconst 0, 1) := by decide +kernel
theorem dX4_likenesses_3 : decode cX4_likenesses 3 = .ok (.istore_n 2, 1) := by decide +kernel
theorem dX4_likenesses_4 : decode cX4_likenesses 4 = .ok (.iload_n 2, 1) := by decide +kernel
theorem dX4_likenesses_5 : decode cX4_likenesses 5 = .ok (.aload_n 0, 1) := by decide +kernel
theorem dX4_likenesses_6 : decode cX4_likenesses 6 = .ok (.getfield 67, 3) := by decide +kernel
theorem dX4_likenesses_9 : decode cX4_likenesses 9 = .ok (.aload_n 0, 1) := by decide +kernel
theorem dX4_likenesses_10 : decode cX4_likenesses 10 = .ok (.getfield 70, 3) := by decide +kernel
theorem dX4_likenesses_13 : decode cX4_likenesses 13 = .ok (.if_icmp .ne 8, 3) := by decide +kernel
theorem dX4_likenesses_16 : decode cX4_likenesses 16 = .ok (.bipush 8, 2) := by decide +kernel
theorem dX4_likenesses_18 : decode cX4_likenesses 18 = .ok (.goto 4, 3) := by decide +kernel
theorem dX4_likenesses_21 : decode cX4_likenesses 21 = .ok (.iconst 4, 1) := by decide +kernel
theorem dX4_likenesses_22 : decode cX4_likenesses 22 = .ok (.if_icmp .ge 20, 3) := by decide +kernel
theorem dX4_likenesses_25 : decode cX4_likenesses 25 = .ok (.aload_n 0, 1) := by decide +kernel
theorem dX4_likenesses_26 : decode cX4_likenesses 26 = .ok (.iload_n 2, 1) := by decide +kernel
theorem dX4_likenesses_27 : decode cX4_likenesses 27 = .ok (.invokevirtual 277, 3) := by decide +kernel
theorem dX4_likenesses_30 : decode cX4_likenesses 30 = .ok (.ifCond .eq 6, 3) := by decide +kernel
theorem dX4_likenesses_33 : decode cX4_likenesses 33 = .ok (.iinc 1 1, 3) := by decide +kernel
theorem dX4_likenesses_36 : decode cX4_likenesses 36 = .ok (.iinc 2 1, 3) := by decide +kernel
theorem dX4_likenesses_39 : decode cX4_likenesses 39 = .ok (.goto (-35), 3) := by decide +kernel
theorem dX4_likenesses_42 : decode cX4_likenesses 42 = .ok (.iload_n 1, 1) := by decide +kernel
theorem dX4_likenesses_43 : decode cX4_likenesses 43 = .ok (.ireturn, 1) := by decide +kernel
theorem dX4_toldAt_0 : decode cX4_toldAt 0 = .ok (.aload_n 0, 1) := by decide +kernel
theorem dX4_toldAt_1 : decode cX4_toldAt 1 = .ok (.getfield 35, 3) := by decide +kernel
theorem dX4_toldAt_4 : decode cX4_toldAt 4 = .ok (.bipush 40, 2) := by decide +kernel
theorem dX4_toldAt_6 : decode cX4_toldAt 6 = .ok (.iload_n 1, 1) := by decide +kernel
theorem dX4_toldAt_7 : decode cX4_toldAt 7 = .ok (.imul, 1) := by decide +kernel
theorem dX4_toldAt_8 : decode cX4_toldAt 8 = .ok (.iload_n 2, 1) := by decide +kernel
theorem dX4_toldAt_9 : decode cX4_toldAt 9 = .ok (.iadd, 1) := by decide +kernel
theorem dX4_toldAt_10 : decode cX4_toldAt 10 = .ok (.laload, 1) := by decide +kernel
theorem dX4_toldAt_11 : decode cX4_toldAt 11 = .ok (.lstore_n 3, 1) := by decide +kernel
theorem dX4_toldAt_12 : decode cX4_toldAt 12 = .ok (.lload_n 3, 1) := by decide +kernel
theorem dX4_toldAt_13 : decode cX4_toldAt 13 = .ok (.lload_n 3, 1) := by decide +kernel
theorem dX4_toldAt_14 : decode cX4_toldAt 14 = .ok (.l2i, 1) := by decide +kernel
theorem dX4_toldAt_15 : decode cX4_toldAt 15 = .ok (.i2l, 1) := by decide +kernel
theorem dX4_toldAt_16 : decode cX4_toldAt 16 = .ok (.lcmp, 1) := by decide +kernel
theorem dX4_toldAt_17 : decode cX4_toldAt 17 = .ok (.ifCond .ne 8, 3) := by decide +kernel
theorem dX4_toldAt_20 : decode cX4_toldAt 20 = .ok (.lload_n 3, 1) := by decide +kernel
theorem dX4_toldAt_21 : decode cX4_toldAt 21 = .ok (.l2i, 1) := by decide +kernel
theorem dX4_toldAt_22 : decode cX4_toldAt 22 = .ok (.goto 4, 3) := by decide +kernel
theorem dX4_toldAt_25 : decode cX4_toldAt 25 = .ok (.iconst (-1), 1) := by decide +kernel
theorem dX4_toldAt_26 : decode cX4_toldAt 26 = .ok (.ireturn, 1) := by decide +kernel
theorem dX4_noGame_0 : decode cX4_noGame 0 = .ok (.iload_n 1, 1) := by decide +kernel
theorem dX4_noGame_1 : decode cX4_noGame 1 = .ok (.invokestatic 73, 3) := by decide +kernel
theorem dX4_noGame_4 : decode cX4_noGame 4 = .ok (.ifCond .eq 13, 3) := by decide +kernel
theorem dX4_noGame_7 : decode cX4_noGame 7 = .ok (.iload_n 2, 1) := by decide +kernel
theorem dX4_noGame_8 : decode cX4_noGame 8 = .ok (.iconst 0, 1) := by decide +kernel
theorem dX4_noGame_9 : decode cX4_noGame 9 = .ok (.bipush 40, 2) := by decide +kernel
theorem dX4_noGame_11 : decode cX4_noGame 11 = .ok (.invokestatic 63, 3) := by decide +kernel
theorem dX4_noGame_14 : decode cX4_noGame 14 = .ok (.ifCond .ne 6, 3) := by decide +kernel
theorem dX4_noGame_17 : decode cX4_noGame 17 = .ok (.bipush (-2), 2) := by decide +kernel
theorem dX4_noGame_19 : decode cX4_noGame 19 = .ok (.ireturn, 1) := by decide +kernel
theorem dX4_noGame_20 : decode cX4_noGame 20 = .ok (.aload_n 0, 1) := by decide +kernel
theorem dX4_noGame_21 : decode cX4_noGame 21 = .ok (.iload_n 1, 1) := by decide +kernel
theorem dX4_noGame_22 : decode cX4_noGame 22 = .ok (.invokevirtual 77, 3) := by decide +kernel
theorem dX4_noGame_25 : decode cX4_noGame 25 = .ok (.ifCond .ne 11, 3) := by decide +kernel
theorem dX4_noGame_28 : decode cX4_noGame 28 = .ok (.aload_n 0, 1) := by decide +kernel
theorem dX4_noGame_29 : decode cX4_noGame 29 = .ok (.iload_n 1, 1) := by decide +kernel
theorem dX4_noGame_30 : decode cX4_noGame 30 = .ok (.invokevirtual 80, 3) := by decide +kernel
theorem dX4_noGame_33 : decode cX4_noGame 33 = .ok (.goto 19, 3) := by decide +kernel
theorem dX4_noGame_36 : decode cX4_noGame 36 = .ok (.iload_n 2, 1) := by decide +kernel
theorem dX4_noGame_37 : decode cX4_noGame 37 = .ok (.aload_n 0, 1) := by decide +kernel
theorem dX4_noGame_38 : decode cX4_noGame 38 = .ok (.getfield 32, 3) := by decide +kernel
theorem dX4_noGame_41 : decode cX4_noGame 41 = .ok (.iload_n 1, 1) := by decide +kernel
theorem dX4_noGame_42 : decode cX4_noGame 42 = .ok (.iaload, 1) := by decide +kernel
theorem dX4_noGame_43 : decode cX4_noGame 43 = .ok (.if_icmp .le 8, 3) := by decide +kernel
theorem dX4_noGame_46 : decode cX4_noGame 46 = .ok (.bipush (-2), 2) := by decide +kernel
theorem dX4_noGame_48 : decode cX4_noGame 48 = .ok (.goto 4, 3) := by decide +kernel
theorem dX4_noGame_51 : decode cX4_noGame 51 = .ok (.iconst 0, 1) := by decide +kernel
theorem dX4_noGame_52 : decode cX4_noGame 52 = .ok (.ireturn, 1) := by decide +kernel
theorem dX4_lived_0 : decode cX4_lived 0 = .ok (.iconst 0, 1) := by decide +kernel
theorem dX4_lived_1 : decode cX4_lived 1 = .ok (.istore_n 3, 1) := by decide +kernel
theorem dX4_lived_2 : decode cX4_lived 2 = .ok (.iload_n 3, 1) := by decide +kernel
theorem dX4_lived_3 : decode cX4_lived 3 = .ok (.iload_n 2, 1) := by decide +kernel
theorem dX4_lived_4 : decode cX4_lived 4 = .ok (.if_icmp .ge 44, 3) := by decide +kernel
theorem dX4_lived_7 : decode cX4_lived 7 = .ok (.aload_n 0, 1) := by decide +kernel
theorem dX4_lived_8 : decode cX4_lived 8 = .ok (.iload_n 1, 1) := by decide +kernel
theorem dX4_lived_9 : decode cX4_lived 9 = .ok (.iload_n 3, 1) := by decide +kernel
theorem dX4_lived_10 : decode cX4_lived 10 = .ok (.invokevirtual 297, 3) := by decide +kernel
theorem dX4_lived_13 : decode cX4_lived 13 = .ok (.istore 4, 2) := by decide +kernel
theorem dX4_lived_15 : decode cX4_lived 15 = .ok (.aload_n 0, 1) := by decide +kernel
theorem dX4_lived_16 : decode cX4_lived 16 = .ok (.iload 4, 2) := by decide +kernel
theorem dX4_lived_18 : decode cX4_lived 18 = .ok (.invokevirtual 173, 3) := by decide +kernel
theorem dX4_lived_21 : decode cX4_lived 21 = .ok (.ifCond .eq 12, 3) := by decide +kernel
theorem dX4_lived_24 : decode cX4_lived 24 = .ok (.aload_n 0, 1) := by decide +kernel
theorem dX4_lived_25 : decode cX4_lived 25 = .ok (.iload 4, 2) := by decide +kernel
theorem dX4_lived_27 : decode cX4_lived 27 = .ok (.invokevirtual 176, 3) := by decide +kernel
theorem dX4_lived_30 : decode cX4_lived 30 = .ok (.ifCond .ne 5, 3) := by decide +kernel
theorem dX4_lived_33 : decode cX4_lived 33 = .ok (.iload_n 3, 1) := by decide +kernel
theorem dX4_lived_34 : decode cX4_lived 34 = .ok (.ireturn, 1) := by decide +kernel
theorem dX4_lived_35 : decode cX4_lived 35 = .ok (.aload_n 0, 1) := by decide +kernel
theorem dX4_lived_36 : decode cX4_lived 36 = .ok (.iload 4, 2) := by decide +kernel
theorem dX4_lived_38 : decode cX4_lived 38 = .ok (.invokevirtual 179, 3) := by decide +kernel
theorem dX4_lived_41 : decode cX4_lived 41 = .ok (.pop, 1) := by decide +kernel
theorem dX4_lived_42 : decode cX4_lived 42 = .ok (.iinc 3 1, 3) := by decide +kernel
theorem dX4_lived_45 : decode cX4_lived 45 = .ok (.goto (-43), 3) := by decide +kernel
theorem dX4_lived_48 : decode cX4_lived 48 = .ok (.iconst (-1), 1) := by decide +kernel
theorem dX4_lived_49 : decode cX4_lived 49 = .ok (.ireturn, 1) := by decide +kernel
theorem dX4_judge_0 : decode cX4_judge 0 = .ok (.aload_n 0, 1) := by decide +kernel
theorem dX4_judge_1 : decode cX4_judge 1 = .ok (.iload_n 1, 1) := by decide +kernel
theorem dX4_judge_2 : decode cX4_judge 2 = .ok (.iload_n 2, 1) := by decide +kernel
theorem dX4_judge_3 : decode cX4_judge 3 = .ok (.invokevirtual 300, 3) := by decide +kernel
theorem dX4_judge_6 : decode cX4_judge 6 = .ok (.istore_n 3, 1) := by decide +kernel
theorem dX4_judge_7 : decode cX4_judge 7 = .ok (.iload_n 3, 1) := by decide +kernel
theorem dX4_judge_8 : decode cX4_judge 8 = .ok (.ifCond .ge 9, 3) := by decide +kernel
theorem dX4_judge_11 : decode cX4_judge 11 = .ok (.aload_n 0, 1) := by decide +kernel
theorem dX4_judge_12 : decode cX4_judge 12 = .ok (.iload_n 3, 1) := by decide +kernel
theorem dX4_judge_13 : decode cX4_judge 13 = .ok (.invokevirtual 56, 3) := by decide +kernel
theorem dX4_judge_16 : decode cX4_judge 16 = .ok (.ireturn, 1) := by decide +kernel
theorem dX4_judge_17 : decode cX4_judge 17 = .ok (.aload_n 0, 1) := by decide +kernel
theorem dX4_judge_18 : decode cX4_judge 18 = .ok (.aload_n 0, 1) := by decide +kernel
theorem dX4_judge_19 : decode cX4_judge 19 = .ok (.getfield 45, 3) := by decide +kernel
theorem dX4_judge_22 : decode cX4_judge 22 = .ok (.invokevirtual 185, 3) := by decide +kernel
theorem dX4_judge_25 : decode cX4_judge 25 = .ok (.aload_n 0, 1) := by decide +kernel
theorem dX4_judge_26 : decode cX4_judge 26 = .ok (.iload_n 1, 1) := by decide +kernel
theorem dX4_judge_27 : decode cX4_judge 27 = .ok (.iload_n 2, 1) := by decide +kernel
theorem dX4_judge_28 : decode cX4_judge 28 = .ok (.invokevirtual 303, 3) := by decide +kernel
theorem dX4_judge_31 : decode cX4_judge 31 = .ok (.istore 4, 2) := by decide +kernel
theorem dX4_judge_33 : decode cX4_judge 33 = .ok (.aload_n 0, 1) := by decide +kernel
theorem dX4_judge_34 : decode cX4_judge 34 = .ok (.aload_n 0, 1) := by decide +kernel
theorem dX4_judge_35 : decode cX4_judge 35 = .ok (.getfield 45, 3) := by decide +kernel
theorem dX4_judge_38 : decode cX4_judge 38 = .ok (.invokevirtual 193, 3) := by decide +kernel
theorem dX4_judge_41 : decode cX4_judge 41 = .ok (.iload 4, 2) := by decide +kernel
theorem dX4_judge_43 : decode cX4_judge 43 = .ok (.ireturn, 1) := by decide +kernel
theorem dX4_behind_0 : decode cX4_behind 0 = .ok (.aload_n 0, 1) := by decide +kernel
theorem dX4_behind_1 : decode cX4_behind 1 = .ok (.iload_n 1, 1) := by decide +kernel
theorem dX4_behind_2 : decode cX4_behind 2 = .ok (.iload_n 2, 1) := by decide +kernel
theorem dX4_behind_3 : decode cX4_behind 3 = .ok (.invokevirtual 300, 3) := by decide +kernel
theorem dX4_behind_6 : decode cX4_behind 6 = .ok (.istore_n 3, 1) := by decide +kernel
theorem dX4_behind_7 : decode cX4_behind 7 = .ok (.iload_n 3, 1) := by decide +kernel
theorem dX4_behind_8 : decode cX4_behind 8 = .ok (.ifCond .ge 9, 3) := by decide +kernel
theorem dX4_behind_11 : decode cX4_behind 11 = .ok (.aload_n 0, 1) := by decide +kernel
theorem dX4_behind_12 : decode cX4_behind 12 = .ok (.iload_n 3, 1) := by decide +kernel
theorem dX4_behind_13 : decode cX4_behind 13 = .ok (.invokevirtual 229, 3) := by decide +kernel
theorem dX4_behind_16 : decode cX4_behind 16 = .ok (.ireturn, 1) := by decide +kernel
theorem dX4_behind_17 : decode cX4_behind 17 = .ok (.aload_n 0, 1) := by decide +kernel
theorem dX4_behind_18 : decode cX4_behind 18 = .ok (.aload_n 0, 1) := by decide +kernel
theorem dX4_behind_19 : decode cX4_behind 19 = .ok (.getfield 45, 3) := by decide +kernel
theorem dX4_behind_22 : decode cX4_behind 22 = .ok (.invokevirtual 185, 3) := by decide +kernel
theorem dX4_behind_25 : decode cX4_behind 25 = .ok (.aload_n 0, 1) := by decide +kernel
theorem dX4_behind_26 : decode cX4_behind 26 = .ok (.iload_n 1, 1) := by decide +kernel
theorem dX4_behind_27 : decode cX4_behind 27 = .ok (.iload_n 2, 1) := by decide +kernel
theorem dX4_behind_28 : decode cX4_behind 28 = .ok (.invokevirtual 303, 3) := by decide +kernel
theorem dX4_behind_31 : decode cX4_behind 31 = .ok (.istore 4, 2) := by decide +kernel
theorem dX4_behind_33 : decode cX4_behind 33 = .ok (.aload_n 0, 1) := by decide +kernel
theorem dX4_behind_34 : decode cX4_behind 34 = .ok (.iconst 0, 1) := by decide +kernel
theorem dX4_behind_35 : decode cX4_behind 35 = .ok (.invokevirtual 226, 3) := by decide +kernel
theorem dX4_behind_38 : decode cX4_behind 38 = .ok (.istore 5, 2) := by decide +kernel
theorem dX4_behind_40 : decode cX4_behind 40 = .ok (.aload_n 0, 1) := by decide +kernel
theorem dX4_behind_41 : decode cX4_behind 41 = .ok (.aload_n 0, 1) := by decide +kernel
theorem dX4_behind_42 : decode cX4_behind 42 = .ok (.getfield 45, 3) := by decide +kernel
theorem dX4_behind_45 : decode cX4_behind 45 = .ok (.invokevirtual 193, 3) := by decide +kernel
theorem dX4_behind_48 : decode cX4_behind 48 = .ok (.iload 4, 2) := by decide +kernel
theorem dX4_behind_50 : decode cX4_behind 50 = .ok (.iconst (-1), 1) := by decide +kernel
theorem dX4_behind_51 : decode cX4_behind 51 = .ok (.if_icmp .ne 8, 3) := by decide +kernel
theorem dX4_behind_54 : decode cX4_behind 54 = .ok (.iload 5, 2) := by decide +kernel
theorem dX4_behind_56 : decode cX4_behind 56 = .ok (.goto 9, 3) := by decide +kernel
theorem dX4_behind_59 : decode cX4_behind 59 = .ok (.aload_n 0, 1) := by decide +kernel
theorem dX4_behind_60 : decode cX4_behind 60 = .ok (.bipush (-5), 2) := by decide +kernel
theorem dX4_behind_62 : decode cX4_behind 62 = .ok (.invokevirtual 229, 3) := by decide +kernel
theorem dX4_behind_65 : decode cX4_behind 65 = .ok (.ireturn, 1) := by decide +kernel
theorem dX4_done_0 : decode cX4_done 0 = .ok (.aload_n 0, 1) := by decide +kernel
theorem dX4_done_1 : decode cX4_done 1 = .ok (.iload_n 1, 1) := by decide +kernel
theorem dX4_done_2 : decode cX4_done 2 = .ok (.iload_n 2, 1) := by decide +kernel
theorem dX4_done_3 : decode cX4_done 3 = .ok (.invokevirtual 300, 3) := by decide +kernel
theorem dX4_done_6 : decode cX4_done 6 = .ok (.istore_n 3, 1) := by decide +kernel
theorem dX4_done_7 : decode cX4_done 7 = .ok (.iload_n 3, 1) := by decide +kernel
theorem dX4_done_8 : decode cX4_done 8 = .ok (.ifCond .ge 9, 3) := by decide +kernel
theorem dX4_done_11 : decode cX4_done 11 = .ok (.aload_n 0, 1) := by decide +kernel
theorem dX4_done_12 : decode cX4_done 12 = .ok (.iload_n 3, 1) := by decide +kernel
theorem dX4_done_13 : decode cX4_done 13 = .ok (.invokevirtual 56, 3) := by decide +kernel
theorem dX4_done_16 : decode cX4_done 16 = .ok (.ireturn, 1) := by decide +kernel
theorem dX4_done_17 : decode cX4_done 17 = .ok (.aload_n 0, 1) := by decide +kernel
theorem dX4_done_18 : decode cX4_done 18 = .ok (.aload_n 0, 1) := by decide +kernel
theorem dX4_done_19 : decode cX4_done 19 = .ok (.getfield 45, 3) := by decide +kernel
theorem dX4_done_22 : decode cX4_done 22 = .ok (.invokevirtual 185, 3) := by decide +kernel
theorem dX4_done_25 : decode cX4_done 25 = .ok (.aload_n 0, 1) := by decide +kernel
theorem dX4_done_26 : decode cX4_done 26 = .ok (.iload_n 1, 1) := by decide +kernel
theorem dX4_done_27 : decode cX4_done 27 = .ok (.iload_n 2, 1) := by decide +kernel
theorem dX4_done_28 : decode cX4_done 28 = .ok (.invokevirtual 303, 3) := by decide +kernel
theorem dX4_done_31 : decode cX4_done 31 = .ok (.iconst (-1), 1) := by decide +kernel
theorem dX4_done_32 : decode cX4_done 32 = .ok (.if_icmp .ne 8, 3) := by decide +kernel
theorem dX4_done_35 : decode cX4_done 35 = .ok (.aload_n 0, 1) := by decide +kernel
theorem dX4_done_36 : decode cX4_done 36 = .ok (.getfield 104, 3) := by decide +kernel
theorem dX4_done_39 : decode cX4_done 39 = .ok (.ireturn, 1) := by decide +kernel
theorem dX4_done_40 : decode cX4_done 40 = .ok (.aload_n 0, 1) := by decide +kernel
theorem dX4_done_41 : decode cX4_done 41 = .ok (.aload_n 0, 1) := by decide +kernel
theorem dX4_done_42 : decode cX4_done 42 = .ok (.getfield 45, 3) := by decide +kernel
theorem dX4_done_45 : decode cX4_done 45 = .ok (.invokevirtual 193, 3) := by decide +kernel
theorem dX4_done_48 : decode cX4_done 48 = .ok (.aload_n 0, 1) := by decide +kernel
theorem dX4_done_49 : decode cX4_done 49 = .ok (.bipush (-5), 2) := by decide +kernel
theorem dX4_done_51 : decode cX4_done 51 = .ok (.invokevirtual 56, 3) := by decide +kernel
theorem dX4_done_54 : decode cX4_done 54 = .ok (.ireturn, 1) := by decide +kernel
theorem dX4_move_0 : decode cX4_move 0 = .ok (.aload_n 0, 1) := by decide +kernel
theorem dX4_move_1 : decode cX4_move 1 = .ok (.iload_n 1, 1) := by decide +kernel
theorem dX4_move_2 : decode cX4_move 2 = .ok (.invokevirtual 173, 3) := by decide +kernel
theorem dX4_move_5 : decode cX4_move 5 = .ok (.ifCond .ne 10, 3) := by decide +kernel
theorem dX4_move_8 : decode cX4_move 8 = .ok (.aload_n 0, 1) := by decide +kernel
theorem dX4_move_9 : decode cX4_move 9 = .ok (.bipush (-2), 2) := by decide +kernel
theorem dX4_move_11 : decode cX4_move 11 = .ok (.invokevirtual 56, 3) := by decide +kernel
theorem dX4_move_14 : decode cX4_move 14 = .ok (.ireturn, 1) := by decide +kernel
theorem dX4_move_15 : decode cX4_move 15 = .ok (.aload_n 0, 1) := by decide +kernel
theorem dX4_move_16 : decode cX4_move 16 = .ok (.iload_n 1, 1) := by decide +kernel
theorem dX4_move_17 : decode cX4_move 17 = .ok (.invokevirtual 176, 3) := by decide +kernel
theorem dX4_move_20 : decode cX4_move 20 = .ok (.ifCond .eq 11, 3) := by decide +kernel
theorem dX4_move_23 : decode cX4_move 23 = .ok (.aload_n 0, 1) := by decide +kernel
theorem dX4_move_24 : decode cX4_move 24 = .ok (.iload_n 1, 1) := by decide +kernel
theorem dX4_move_25 : decode cX4_move 25 = .ok (.invokevirtual 179, 3) := by decide +kernel
theorem dX4_move_28 : decode cX4_move 28 = .ok (.goto 9, 3) := by decide +kernel
theorem dX4_move_31 : decode cX4_move 31 = .ok (.aload_n 0, 1) := by decide +kernel
theorem dX4_move_32 : decode cX4_move 32 = .ok (.bipush (-5), 2) := by decide +kernel
theorem dX4_move_34 : decode cX4_move 34 = .ok (.invokevirtual 56, 3) := by decide +kernel
theorem dX4_move_37 : decode cX4_move 37 = .ok (.ireturn, 1) := by decide +kernel
theorem dX4_goes_0 : decode cX4_goes 0 = .ok (.aload_n 0, 1) := by decide +kernel
theorem dX4_goes_1 : decode cX4_goes 1 = .ok (.iload_n 1, 1) := by decide +kernel
theorem dX4_goes_2 : decode cX4_goes 2 = .ok (.invokevirtual 87, 3) := by decide +kernel
theorem dX4_goes_5 : decode cX4_goes 5 = .ok (.ifCond .eq 13, 3) := by decide +kernel
theorem dX4_goes_8 : decode cX4_goes 8 = .ok (.iload_n 2, 1) := by decide +kernel
theorem dX4_goes_9 : decode cX4_goes 9 = .ok (.iconst 1, 1) := by decide +kernel
theorem dX4_goes_10 : decode cX4_goes 10 = .ok (.bipush 40, 2) := by decide +kernel
theorem dX4_goes_12 : decode cX4_goes 12 = .ok (.invokestatic 63, 3) := by decide +kernel
theorem dX4_goes_15 : decode cX4_goes 15 = .ok (.ifCond .ne 10, 3) := by decide +kernel
theorem dX4_goes_18 : decode cX4_goes 18 = .ok (.aload_n 0, 1) := by decide +kernel
theorem dX4_goes_19 : decode cX4_goes 19 = .ok (.bipush (-2), 2) := by decide +kernel
theorem dX4_goes_21 : decode cX4_goes 21 = .ok (.invokevirtual 56, 3) := by decide +kernel
theorem dX4_goes_24 : decode cX4_goes 24 = .ok (.ireturn, 1) := by decide +kernel
theorem dX4_goes_25 : decode cX4_goes 25 = .ok (.iconst 0, 1) := by decide +kernel
theorem dX4_goes_26 : decode cX4_goes 26 = .ok (.istore_n 3, 1) := by decide +kernel
theorem dX4_goes_27 : decode cX4_goes 27 = .ok (.iload_n 3, 1) := by decide +kernel
theorem dX4_goes_28 : decode cX4_goes 28 = .ok (.iload_n 2, 1) := by decide +kernel
theorem dX4_goes_29 : decode cX4_goes 29 = .ok (.if_icmp .ge 31, 3) := by decide +kernel
theorem dX4_goes_32 : decode cX4_goes 32 = .ok (.aload_n 0, 1) := by decide +kernel
theorem dX4_goes_33 : decode cX4_goes 33 = .ok (.iload_n 1, 1) := by decide +kernel
theorem dX4_goes_34 : decode cX4_goes 34 = .ok (.invokevirtual 265, 3) := by decide +kernel
theorem dX4_goes_37 : decode cX4_goes 37 = .ok (.istore 4, 2) := by decide +kernel
theorem dX4_goes_39 : decode cX4_goes 39 = .ok (.iload 4, 2) := by decide +kernel
theorem dX4_goes_41 : decode cX4_goes 41 = .ok (.iconst (-1), 1) := by decide +kernel
theorem dX4_goes_42 : decode cX4_goes 42 = .ok (.if_icmp .ne 5, 3) := by decide +kernel
theorem dX4_goes_45 : decode cX4_goes 45 = .ok (.iload_n 3, 1) := by decide +kernel
theorem dX4_goes_46 : decode cX4_goes 46 = .ok (.ireturn, 1) := by decide +kernel
theorem dX4_goes_47 : decode cX4_goes 47 = .ok (.aload_n 0, 1) := by decide +kernel
theorem dX4_goes_48 : decode cX4_goes 48 = .ok (.iload 4, 2) := by decide +kernel
theorem dX4_goes_50 : decode cX4_goes 50 = .ok (.invokevirtual 179, 3) := by decide +kernel
theorem dX4_goes_53 : decode cX4_goes 53 = .ok (.pop, 1) := by decide +kernel
theorem dX4_goes_54 : decode cX4_goes 54 = .ok (.iinc 3 1, 3) := by decide +kernel
theorem dX4_goes_57 : decode cX4_goes 57 = .ok (.goto (-30), 3) := by decide +kernel
theorem dX4_goes_60 : decode cX4_goes 60 = .ok (.iload_n 2, 1) := by decide +kernel
theorem dX4_goes_61 : decode cX4_goes 61 = .ok (.ireturn, 1) := by decide +kernel
theorem dX4_games_0 : decode cX4_games 0 = .ok (.iload_n 1, 1) := by decide +kernel
theorem dX4_games_1 : decode cX4_games 1 = .ok (.iconst 1, 1) := by decide +kernel
theorem dX4_games_2 : decode cX4_games 2 = .ok (.bipush 20, 2) := by decide +kernel
theorem dX4_games_4 : decode cX4_games 4 = .ok (.invokestatic 63, 3) := by decide +kernel
theorem dX4_games_7 : decode cX4_games 7 = .ok (.ifCond .ne 10, 3) := by decide +kernel
theorem dX4_games_10 : decode cX4_games 10 = .ok (.aload_n 0, 1) := by decide +kernel
theorem dX4_games_11 : decode cX4_games 11 = .ok (.bipush (-2), 2) := by decide +kernel
theorem dX4_games_13 : decode cX4_games 13 = .ok (.invokevirtual 56, 3) := by decide +kernel
theorem dX4_games_16 : decode cX4_games 16 = .ok (.ireturn, 1) := by decide +kernel
theorem dX4_games_17 : decode cX4_games 17 = .ok (.aload_n 0, 1) := by decide +kernel
theorem dX4_games_18 : decode cX4_games 18 = .ok (.aload_n 0, 1) := by decide +kernel
theorem dX4_games_19 : decode cX4_games 19 = .ok (.getfield 45, 3) := by decide +kernel
theorem dX4_games_22 : decode cX4_games 22 = .ok (.invokevirtual 185, 3) := by decide +kernel
theorem dX4_games_25 : decode cX4_games 25 = .ok (.iconst 0, 1) := by decide +kernel
theorem dX4_games_26 : decode cX4_games 26 = .ok (.istore_n 2, 1) := by decide +kernel
theorem dX4_games_27 : decode cX4_games 27 = .ok (.iconst 0, 1) := by decide +kernel
theorem dX4_games_28 : decode cX4_games 28 = .ok (.istore_n 3, 1) := by decide +kernel
theorem dX4_games_29 : decode cX4_games 29 = .ok (.iload_n 3, 1) := by decide +kernel
theorem dX4_games_30 : decode cX4_games 30 = .ok (.iload_n 1, 1) := by decide +kernel
theorem dX4_games_31 : decode cX4_games 31 = .ok (.if_icmp .ge 68, 3) := by decide +kernel
theorem dX4_games_34 : decode cX4_games 34 = .ok (.aload_n 0, 1) := by decide +kernel
theorem dX4_games_35 : decode cX4_games 35 = .ok (.aload_n 0, 1) := by decide +kernel
theorem dX4_games_36 : decode cX4_games 36 = .ok (.getfield 67, 3) := by decide +kernel
theorem dX4_games_39 : decode cX4_games 39 = .ok (.aload_n 0, 1) := by decide +kernel
theorem dX4_games_40 : decode cX4_games 40 = .ok (.getfield 70, 3) := by decide +kernel
theorem dX4_games_43 : decode cX4_games 43 = .ok (.invokevirtual 52, 3) := by decide +kernel
theorem dX4_games_46 : decode cX4_games 46 = .ok (.pop, 1) := by decide +kernel
theorem dX4_games_47 : decode cX4_games 47 = .ok (.aload_n 0, 1) := by decide +kernel
theorem dX4_games_48 : decode cX4_games 48 = .ok (.invokevirtual 94, 3) := by decide +kernel
theorem dX4_games_51 : decode cX4_games 51 = .ok (.istore 4, 2) := by decide +kernel
theorem dX4_games_53 : decode cX4_games 53 = .ok (.iload 4, 2) := by decide +kernel
theorem dX4_games_55 : decode cX4_games 55 = .ok (.ifCond .le 27, 3) := by decide +kernel
theorem dX4_games_58 : decode cX4_games 58 = .ok (.aload_n 0, 1) := by decide +kernel
theorem dX4_games_59 : decode cX4_games 59 = .ok (.aload_n 0, 1) := by decide +kernel
theorem dX4_games_60 : decode cX4_games 60 = .ok (.aload_n 0, 1) := by decide +kernel
theorem dX4_games_61 : decode cX4_games 61 = .ok (.iload 4, 2) := by decide +kernel
theorem dX4_games_63 : decode cX4_games 63 = .ok (.invokevirtual 262, 3) := by decide +kernel
theorem dX4_games_66 : decode cX4_games 66 = .ok (.invokevirtual 208, 3) := by decide +kernel
theorem dX4_games_69 : decode cX4_games 69 = .ok (.invokevirtual 179, 3) := by decide +kernel
theorem dX4_games_72 : decode cX4_games 72 = .ok (.pop, 1) := by decide +kernel
theorem dX4_games_73 : decode cX4_games 73 = .ok (.aload_n 0, 1) := by decide +kernel
theorem dX4_games_74 : decode cX4_games 74 = .ok (.invokevirtual 94, 3) := by decide +kernel
theorem dX4_games_77 : decode cX4_games 77 = .ok (.istore 4, 2) := by decide +kernel
theorem dX4_games_79 : decode cX4_games 79 = .ok (.goto (-26), 3) := by decide +kernel
theorem dX4_games_82 : decode cX4_games 82 = .ok (.aload_n 0, 1) := by decide +kernel
theorem dX4_games_83 : decode cX4_games 83 = .ok (.iconst 0, 1) := by decide +kernel
theorem dX4_games_84 : decode cX4_games 84 = .ok (.invokevirtual 226, 3) := by decide +kernel
theorem dX4_games_87 : decode cX4_games 87 = .ok (.ifCond .le 6, 3) := by decide +kernel
theorem dX4_games_90 : decode cX4_games 90 = .ok (.iinc 2 1, 3) := by decide +kernel
theorem dX4_games_93 : decode cX4_games 93 = .ok (.iinc 3 1, 3) := by decide +kernel
theorem dX4_games_96 : decode cX4_games 96 = .ok (.goto (-67), 3) := by decide +kernel
theorem dX4_games_99 : decode cX4_games 99 = .ok (.aload_n 0, 1) := by decide +kernel
theorem dX4_games_100 : decode cX4_games 100 = .ok (.getfield 48, 3) := by decide +kernel
theorem dX4_games_103 : decode cX4_games 103 = .ok (.istore_n 3, 1) := by decide +kernel
theorem dX4_games_104 : decode cX4_games 104 = .ok (.aload_n 0, 1) := by decide +kernel
theorem dX4_games_105 : decode cX4_games 105 = .ok (.aload_n 0, 1) := by decide +kernel
theorem dX4_games_106 : decode cX4_games 106 = .ok (.getfield 45, 3) := by decide +kernel
theorem dX4_games_109 : decode cX4_games 109 = .ok (.invokevirtual 193, 3) := by decide +kernel
theorem dX4_games_112 : decode cX4_games 112 = .ok (.aload_n 0, 1) := by decide +kernel
theorem dX4_games_113 : decode cX4_games 113 = .ok (.iload_n 3, 1) := by decide +kernel
theorem dX4_games_114 : decode cX4_games 114 = .ok (.putfield 48, 3) := by decide +kernel
theorem dX4_games_117 : decode cX4_games 117 = .ok (.iload_n 2, 1) := by decide +kernel
theorem dX4_games_118 : decode cX4_games 118 = .ok (.ireturn, 1) := by decide +kernel
theorem dX4_seed_0 : decode cX4_seed 0 = .ok (.aload_n 0, 1) := by decide +kernel
theorem dX4_seed_1 : decode cX4_seed 1 = .ok (.getfield 48, 3) := by decide +kernel
theorem dX4_seed_4 : decode cX4_seed 4 = .ok (.istore_n 2, 1) := by decide +kernel
theorem dX4_seed_5 : decode cX4_seed 5 = .ok (.aload_n 0, 1) := by decide +kernel
theorem dX4_seed_6 : decode cX4_seed 6 = .ok (.iload_n 1, 1) := by decide +kernel
theorem dX4_seed_7 : decode cX4_seed 7 = .ok (.putfield 48, 3) := by decide +kernel
theorem dX4_seed_10 : decode cX4_seed 10 = .ok (.iload_n 2, 1) := by decide +kernel
theorem dX4_seed_11 : decode cX4_seed 11 = .ok (.ireturn, 1) := by decide +kernel
theorem dX4_keep_0 : decode cX4_keep 0 = .ok (.iconst 0, 1) := by decide +kernel
theorem dX4_keep_1 : decode cX4_keep 1 = .ok (.istore_n 2, 1) := by decide +kernel
theorem dX4_keep_2 : decode cX4_keep 2 = .ok (.iload_n 2, 1) := by decide +kernel
theorem dX4_keep_3 : decode cX4_keep 3 = .ok (.bipush 40, 2) := by decide +kernel
theorem dX4_keep_5 : decode cX4_keep 5 = .ok (.if_icmp .ge 26, 3) := by decide +kernel
theorem dX4_keep_8 : decode cX4_keep 8 = .ok (.aload_n 1, 1) := by decide +kernel
theorem dX4_keep_9 : decode cX4_keep 9 = .ok (.iload_n 2, 1) := by decide +kernel
theorem dX4_keep_10 : decode cX4_keep 10 = .ok (.aload_n 0, 1) := by decide +kernel
theorem dX4_keep_11 : decode cX4_keep 11 = .ok (.getfield 7, 3) := by decide +kernel
theorem dX4_keep_14 : decode cX4_keep 14 = .ok (.iload_n 2, 1) := by decide +kernel
theorem dX4_keep_15 : decode cX4_keep 15 = .ok (.baload, 1) := by decide +kernel
theorem dX4_keep_16 : decode cX4_keep 16 = .ok (.ifCond .eq 7, 3) := by decide +kernel
theorem dX4_keep_19 : decode cX4_keep 19 = .ok (.iconst 1, 1) := by decide +kernel
theorem dX4_keep_20 : decode cX4_keep 20 = .ok (.goto 4, 3) := by decide +kernel
theorem dX4_keep_23 : decode cX4_keep 23 = .ok (.iconst 0, 1) := by decide +kernel
theorem dX4_keep_24 : decode cX4_keep 24 = .ok (.iastore, 1) := by decide +kernel
theorem dX4_keep_25 : decode cX4_keep 25 = .ok (.iinc 2 1, 3) := by decide +kernel
theorem dX4_keep_28 : decode cX4_keep 28 = .ok (.goto (-26), 3) := by decide +kernel
theorem dX4_keep_31 : decode cX4_keep 31 = .ok (.iconst 0, 1) := by decide +kernel
theorem dX4_keep_32 : decode cX4_keep 32 = .ok (.istore_n 2, 1) := by decide +kernel
theorem dX4_keep_33 : decode cX4_keep 33 = .ok (.iload_n 2, 1) := by decide +kernel
theorem dX4_keep_34 : decode cX4_keep 34 = .ok (.bipush 16, 2) := by decide +kernel
theorem dX4_keep_36 : decode cX4_keep 36 = .ok (.if_icmp .ge 41, 3) := by decide +kernel
theorem dX4_keep_39 : decode cX4_keep 39 = .ok (.aload_n 1, 1) := by decide +kernel
theorem dX4_keep_40 : decode cX4_keep 40 = .ok (.bipush 40, 2) := by decide +kernel
theorem dX4_keep_42 : decode cX4_keep 42 = .ok (.iload_n 2, 1) := by decide +kernel
theorem dX4_keep_43 : decode cX4_keep 43 = .ok (.iadd, 1) := by decide +kernel
theorem dX4_keep_44 : decode cX4_keep 44 = .ok (.aload_n 0, 1) := by decide +kernel
theorem dX4_keep_45 : decode cX4_keep 45 = .ok (.getfield 13, 3) := by decide +kernel
theorem dX4_keep_48 : decode cX4_keep 48 = .ok (.iload_n 2, 1) := by decide +kernel
theorem dX4_keep_49 : decode cX4_keep 49 = .ok (.baload, 1) := by decide +kernel
theorem dX4_keep_50 : decode cX4_keep 50 = .ok (.ifCond .eq 7, 3) := by decide +kernel
theorem dX4_keep_53 : decode cX4_keep 53 = .ok (.iconst 1, 1) := by decide +kernel
theorem dX4_keep_54 : decode cX4_keep 54 = .ok (.goto 4, 3) := by decide +kernel
theorem dX4_keep_57 : decode cX4_keep 57 = .ok (.iconst 0, 1) := by decide +kernel
theorem dX4_keep_58 : decode cX4_keep 58 = .ok (.iastore, 1) := by decide +kernel
theorem dX4_keep_59 : decode cX4_keep 59 = .ok (.aload_n 1, 1) := by decide +kernel
theorem dX4_keep_60 : decode cX4_keep 60 = .ok (.bipush 56, 2) := by decide +kernel
theorem dX4_keep_62 : decode cX4_keep 62 = .ok (.iload_n 2, 1) := by decide +kernel
theorem dX4_keep_63 : decode cX4_keep 63 = .ok (.iadd, 1) := by decide +kernel
theorem dX4_keep_64 : decode cX4_keep 64 = .ok (.aload_n 0, 1) := by decide +kernel
theorem dX4_keep_65 : decode cX4_keep 65 = .ok (.getfield 16, 3) := by decide +kernel
theorem dX4_keep_68 : decode cX4_keep 68 = .ok (.iload_n 2, 1) := by decide +kernel
theorem dX4_keep_69 : decode cX4_keep 69 = .ok (.iaload, 1) := by decide +kernel
theorem dX4_keep_70 : decode cX4_keep 70 = .ok (.iastore, 1) := by decide +kernel
theorem dX4_keep_71 : decode cX4_keep 71 = .ok (.iinc 2 1, 3) := by decide +kernel
theorem dX4_keep_74 : decode cX4_keep 74 = .ok (.goto (-41), 3) := by decide +kernel
theorem dX4_keep_77 : decode cX4_keep 77 = .ok (.iconst 0, 1) := by decide +kernel
theorem dX4_keep_78 : decode cX4_keep 78 = .ok (.istore_n 2, 1) := by decide +kernel
theorem dX4_keep_79 : decode cX4_keep 79 = .ok (.iload_n 2, 1) := by decide +kernel
theorem dX4_keep_80 : decode cX4_keep 80 = .ok (.bipush 6, 2) := by decide +kernel
theorem dX4_keep_82 : decode cX4_keep 82 = .ok (.if_icmp .ge 33, 3) := by decide +kernel
theorem dX4_keep_85 : decode cX4_keep 85 = .ok (.aload_n 1, 1) := by decide +kernel
theorem dX4_keep_86 : decode cX4_keep 86 = .ok (.bipush 72, 2) := by decide +kernel
theorem dX4_keep_88 : decode cX4_keep 88 = .ok (.iload_n 2, 1) := by decide +kernel
theorem dX4_keep_89 : decode cX4_keep 89 = .ok (.iadd, 1) := by decide +kernel
theorem dX4_keep_90 : decode cX4_keep 90 = .ok (.aload_n 0, 1) := by decide +kernel
theorem dX4_keep_91 : decode cX4_keep 91 = .ok (.getfield 20, 3) := by decide +kernel
theorem dX4_keep_94 : decode cX4_keep 94 = .ok (.iload_n 2, 1) := by decide +kernel
theorem dX4_keep_95 : decode cX4_keep 95 = .ok (.iaload, 1) := by decide +kernel
theorem dX4_keep_96 : decode cX4_keep 96 = .ok (.iastore, 1) := by decide +kernel
theorem dX4_keep_97 : decode cX4_keep 97 = .ok (.aload_n 1, 1) := by decide +kernel
theorem dX4_keep_98 : decode cX4_keep 98 = .ok (.bipush 78, 2) := by decide +kernel
theorem dX4_keep_100 : decode cX4_keep 100 = .ok (.iload_n 2, 1) := by decide +kernel
theorem dX4_keep_101 : decode cX4_keep 101 = .ok (.iadd, 1) := by decide +kernel
theorem dX4_keep_102 : decode cX4_keep 102 = .ok (.aload_n 0, 1) := by decide +kernel
theorem dX4_keep_103 : decode cX4_keep 103 = .ok (.getfield 23, 3) := by decide +kernel
theorem dX4_keep_106 : decode cX4_keep 106 = .ok (.iload_n 2, 1) := by decide +kernel
theorem dX4_keep_107 : decode cX4_keep 107 = .ok (.iaload, 1) := by decide +kernel
theorem dX4_keep_108 : decode cX4_keep 108 = .ok (.iastore, 1) := by decide +kernel
theorem dX4_keep_109 : decode cX4_keep 109 = .ok (.iinc 2 1, 3) := by decide +kernel
theorem dX4_keep_112 : decode cX4_keep 112 = .ok (.goto (-33), 3) := by decide +kernel
theorem dX4_keep_115 : decode cX4_keep 115 = .ok (.aload_n 1, 1) := by decide +kernel
theorem dX4_keep_116 : decode cX4_keep 116 = .ok (.bipush 84, 2) := by decide +kernel
theorem dX4_keep_118 : decode cX4_keep 118 = .ok (.aload_n 0, 1) := by decide +kernel
theorem dX4_keep_119 : decode cX4_keep 119 = .ok (.getfield 67, 3) := by decide +kernel
theorem dX4_keep_122 : decode cX4_keep 122 = .ok (.iastore, 1) := by decide +kernel
theorem dX4_keep_123 : decode cX4_keep 123 = .ok (.aload_n 1, 1) := by decide +kernel
theorem dX4_keep_124 : decode cX4_keep 124 = .ok (.bipush 85, 2) := by decide +kernel
theorem dX4_keep_126 : decode cX4_keep 126 = .ok (.aload_n 0, 1) := by decide +kernel
theorem dX4_keep_127 : decode cX4_keep 127 = .ok (.getfield 70, 3) := by decide +kernel
theorem dX4_keep_130 : decode cX4_keep 130 = .ok (.iastore, 1) := by decide +kernel
theorem dX4_keep_131 : decode cX4_keep 131 = .ok (.aload_n 1, 1) := by decide +kernel
theorem dX4_keep_132 : decode cX4_keep 132 = .ok (.bipush 86, 2) := by decide +kernel
theorem dX4_keep_134 : decode cX4_keep 134 = .ok (.aload_n 0, 1) := by decide +kernel
theorem dX4_keep_135 : decode cX4_keep 135 = .ok (.getfield 101, 3) := by decide +kernel
theorem dX4_keep_138 : decode cX4_keep 138 = .ok (.iastore, 1) := by decide +kernel
theorem dX4_keep_139 : decode cX4_keep 139 = .ok (.aload_n 1, 1) := by decide +kernel
theorem dX4_keep_140 : decode cX4_keep 140 = .ok (.bipush 87, 2) := by decide +kernel
theorem dX4_keep_142 : decode cX4_keep 142 = .ok (.aload_n 0, 1) := by decide +kernel
theorem dX4_keep_143 : decode cX4_keep 143 = .ok (.getfield 104, 3) := by decide +kernel
theorem dX4_keep_146 : decode cX4_keep 146 = .ok (.iastore, 1) := by decide +kernel
theorem dX4_keep_147 : decode cX4_keep 147 = .ok (.aload_n 1, 1) := by decide +kernel
theorem dX4_keep_148 : decode cX4_keep 148 = .ok (.bipush 88, 2) := by decide +kernel
theorem dX4_keep_150 : decode cX4_keep 150 = .ok (.aload_n 0, 1) := by decide +kernel
theorem dX4_keep_151 : decode cX4_keep 151 = .ok (.getfield 60, 3) := by decide +kernel
theorem dX4_keep_154 : decode cX4_keep 154 = .ok (.iastore, 1) := by decide +kernel
theorem dX4_keep_155 : decode cX4_keep 155 = .ok (.aload_n 1, 1) := by decide +kernel
theorem dX4_keep_156 : decode cX4_keep 156 = .ok (.bipush 89, 2) := by decide +kernel
theorem dX4_keep_158 : decode cX4_keep 158 = .ok (.aload_n 0, 1) := by decide +kernel
theorem dX4_keep_159 : decode cX4_keep 159 = .ok (.getfield 48, 3) := by decide +kernel
theorem dX4_keep_162 : decode cX4_keep 162 = .ok (.iastore, 1) := by decide +kernel
theorem dX4_keep_163 : decode cX4_keep 163 = .ok (.return_, 1) := by decide +kernel
theorem dX4_again_0 : decode cX4_again 0 = .ok (.iconst 0, 1) := by decide +kernel
theorem dX4_again_1 : decode cX4_again 1 = .ok (.istore_n 2, 1) := by decide +kernel
theorem dX4_again_2 : decode cX4_again 2 = .ok (.iload_n 2, 1) := by decide +kernel
theorem dX4_again_3 : decode cX4_again 3 = .ok (.bipush 40, 2) := by decide +kernel
theorem dX4_again_5 : decode cX4_again 5 = .ok (.if_icmp .ge 27, 3) := by decide +kernel
theorem dX4_again_8 : decode cX4_again 8 = .ok (.aload_n 0, 1) := by decide +kernel
theorem dX4_again_9 : decode cX4_again 9 = .ok (.getfield 7, 3) := by decide +kernel
theorem dX4_again_12 : decode cX4_again 12 = .ok (.iload_n 2, 1) := by decide +kernel
theorem dX4_again_13 : decode cX4_again 13 = .ok (.aload_n 1, 1) := by decide +kernel
theorem dX4_again_14 : decode cX4_again 14 = .ok (.iload_n 2, 1) := by decide +kernel
theorem dX4_again_15 : decode cX4_again 15 = .ok (.iaload, 1) := by decide +kernel
theorem dX4_again_16 : decode cX4_again 16 = .ok (.iconst 1, 1) := by decide +kernel
theorem dX4_again_17 : decode cX4_again 17 = .ok (.if_icmp .ne 7, 3) := by decide +kernel
theorem dX4_again_20 : decode cX4_again 20 = .ok (.iconst 1, 1) := by decide +kernel
theorem dX4_again_21 : decode cX4_again 21 = .ok (.goto 4, 3) := by decide +kernel
theorem dX4_again_24 : decode cX4_again 24 = .ok (.iconst 0, 1) := by decide +kernel
theorem dX4_again_25 : decode cX4_again 25 = .ok (.bastore, 1) := by decide +kernel
theorem dX4_again_26 : decode cX4_again 26 = .ok (.iinc 2 1, 3) := by decide +kernel
theorem dX4_again_29 : decode cX4_again 29 = .ok (.goto (-27), 3) := by decide +kernel
theorem dX4_again_32 : decode cX4_again 32 = .ok (.iconst 0, 1) := by decide +kernel
theorem dX4_again_33 : decode cX4_again 33 = .ok (.istore_n 2, 1) := by decide +kernel
theorem dX4_again_34 : decode cX4_again 34 = .ok (.iload_n 2, 1) := by decide +kernel
theorem dX4_again_35 : decode cX4_again 35 = .ok (.bipush 16, 2) := by decide +kernel
theorem dX4_again_37 : decode cX4_again 37 = .ok (.if_icmp .ge 42, 3) := by decide +kernel
theorem dX4_again_40 : decode cX4_again 40 = .ok (.aload_n 0, 1) := by decide +kernel
theorem dX4_again_41 : decode cX4_again 41 = .ok (.getfield 13, 3) := by decide +kernel
theorem dX4_again_44 : decode cX4_again 44 = .ok (.iload_n 2, 1) := by decide +kernel
theorem dX4_again_45 : decode cX4_again 45 = .ok (.aload_n 1, 1) := by decide +kernel
theorem dX4_again_46 : decode cX4_again 46 = .ok (.bipush 40, 2) := by decide +kernel
theorem dX4_again_48 : decode cX4_again 48 = .ok (.iload_n 2, 1) := by decide +kernel
theorem dX4_again_49 : decode cX4_again 49 = .ok (.iadd, 1) := by decide +kernel
theorem dX4_again_50 : decode cX4_again 50 = .ok (.iaload, 1) := by decide +kernel
theorem dX4_again_51 : decode cX4_again 51 = .ok (.iconst 1, 1) := by decide +kernel
theorem dX4_again_52 : decode cX4_again 52 = .ok (.if_icmp .ne 7, 3) := by decide +kernel
theorem dX4_again_55 : decode cX4_again 55 = .ok (.iconst 1, 1) := by decide +kernel
theorem dX4_again_56 : decode cX4_again 56 = .ok (.goto 4, 3) := by decide +kernel
theorem dX4_again_59 : decode cX4_again 59 = .ok (.iconst 0, 1) := by decide +kernel
theorem dX4_again_60 : decode cX4_again 60 = .ok (.bastore, 1) := by decide +kernel
theorem dX4_again_61 : decode cX4_again 61 = .ok (.aload_n 0, 1) := by decide +kernel
theorem dX4_again_62 : decode cX4_again 62 = .ok (.getfield 16, 3) := by decide +kernel
theorem dX4_again_65 : decode cX4_again 65 = .ok (.iload_n 2, 1) := by decide +kernel
theorem dX4_again_66 : decode cX4_again 66 = .ok (.aload_n 1, 1) := by decide +kernel
theorem dX4_again_67 : decode cX4_again 67 = .ok (.bipush 56, 2) := by decide +kernel
theorem dX4_again_69 : decode cX4_again 69 = .ok (.iload_n 2, 1) := by decide +kernel
theorem dX4_again_70 : decode cX4_again 70 = .ok (.iadd, 1) := by decide +kernel
theorem dX4_again_71 : decode cX4_again 71 = .ok (.iaload, 1) := by decide +kernel
theorem dX4_again_72 : decode cX4_again 72 = .ok (.iastore, 1) := by decide +kernel
theorem dX4_again_73 : decode cX4_again 73 = .ok (.iinc 2 1, 3) := by decide +kernel
theorem dX4_again_76 : decode cX4_again 76 = .ok (.goto (-42), 3) := by decide +kernel
theorem dX4_again_79 : decode cX4_again 79 = .ok (.iconst 0, 1) := by decide +kernel
theorem dX4_again_80 : decode cX4_again 80 = .ok (.istore_n 2, 1) := by decide +kernel
theorem dX4_again_81 : decode cX4_again 81 = .ok (.iload_n 2, 1) := by decide +kernel
theorem dX4_again_82 : decode cX4_again 82 = .ok (.bipush 6, 2) := by decide +kernel
theorem dX4_again_84 : decode cX4_again 84 = .ok (.if_icmp .ge 33, 3) := by decide +kernel
theorem dX4_again_87 : decode cX4_again 87 = .ok (.aload_n 0, 1) := by decide +kernel
theorem dX4_again_88 : decode cX4_again 88 = .ok (.getfield 20, 3) := by decide +kernel
theorem dX4_again_91 : decode cX4_again 91 = .ok (.iload_n 2, 1) := by decide +kernel
theorem dX4_again_92 : decode cX4_again 92 = .ok (.aload_n 1, 1) := by decide +kernel
theorem dX4_again_93 : decode cX4_again 93 = .ok (.bipush 72, 2) := by decide +kernel
theorem dX4_again_95 : decode cX4_again 95 = .ok (.iload_n 2, 1) := by decide +kernel
theorem dX4_again_96 : decode cX4_again 96 = .ok (.iadd, 1) := by decide +kernel
theorem dX4_again_97 : decode cX4_again 97 = .ok (.iaload, 1) := by decide +kernel
theorem dX4_again_98 : decode cX4_again 98 = .ok (.iastore, 1) := by decide +kernel
theorem dX4_again_99 : decode cX4_again 99 = .ok (.aload_n 0, 1) := by decide +kernel
theorem dX4_again_100 : decode cX4_again 100 = .ok (.getfield 23, 3) := by decide +kernel
theorem dX4_again_103 : decode cX4_again 103 = .ok (.iload_n 2, 1) := by decide +kernel
theorem dX4_again_104 : decode cX4_again 104 = .ok (.aload_n 1, 1) := by decide +kernel
theorem dX4_again_105 : decode cX4_again 105 = .ok (.bipush 78, 2) := by decide +kernel
theorem dX4_again_107 : decode cX4_again 107 = .ok (.iload_n 2, 1) := by decide +kernel
theorem dX4_again_108 : decode cX4_again 108 = .ok (.iadd, 1) := by decide +kernel
theorem dX4_again_109 : decode cX4_again 109 = .ok (.iaload, 1) := by decide +kernel
theorem dX4_again_110 : decode cX4_again 110 = .ok (.iastore, 1) := by decide +kernel
theorem dX4_again_111 : decode cX4_again 111 = .ok (.iinc 2 1, 3) := by decide +kernel
theorem dX4_again_114 : decode cX4_again 114 = .ok (.goto (-33), 3) := by decide +kernel
theorem dX4_again_117 : decode cX4_again 117 = .ok (.aload_n 0, 1) := by decide +kernel
theorem dX4_again_118 : decode cX4_again 118 = .ok (.aload_n 1, 1) := by decide +kernel
theorem dX4_again_119 : decode cX4_again 119 = .ok (.bipush 84, 2) := by decide +kernel
theorem dX4_again_121 : decode cX4_again 121 = .ok (.iaload, 1) := by decide +kernel
theorem dX4_again_122 : decode cX4_again 122 = .ok (.putfield 67, 3) := by decide +kernel
theorem dX4_again_125 : decode cX4_again 125 = .ok (.aload_n 0, 1) := by decide +kernel
theorem dX4_again_126 : decode cX4_again 126 = .ok (.aload_n 1, 1) := by decide +kernel
theorem dX4_again_127 : decode cX4_again 127 = .ok (.bipush 85, 2) := by decide +kernel
theorem dX4_again_129 : decode cX4_again 129 = .ok (.iaload, 1) := by decide +kernel
theorem dX4_again_130 : decode cX4_again 130 = .ok (.putfield 70, 3) := by decide +kernel
theorem dX4_again_133 : decode cX4_again 133 = .ok (.aload_n 0, 1) := by decide +kernel
theorem dX4_again_134 : decode cX4_again 134 = .ok (.aload_n 1, 1) := by decide +kernel
theorem dX4_again_135 : decode cX4_again 135 = .ok (.bipush 86, 2) := by decide +kernel
theorem dX4_again_137 : decode cX4_again 137 = .ok (.iaload, 1) := by decide +kernel
theorem dX4_again_138 : decode cX4_again 138 = .ok (.putfield 101, 3) := by decide +kernel
theorem dX4_again_141 : decode cX4_again 141 = .ok (.aload_n 0, 1) := by decide +kernel
theorem dX4_again_142 : decode cX4_again 142 = .ok (.aload_n 1, 1) := by decide +kernel
theorem dX4_again_143 : decode cX4_again 143 = .ok (.bipush 87, 2) := by decide +kernel
theorem dX4_again_145 : decode cX4_again 145 = .ok (.iaload, 1) := by decide +kernel
theorem dX4_again_146 : decode cX4_again 146 = .ok (.putfield 104, 3) := by decide +kernel
theorem dX4_again_149 : decode cX4_again 149 = .ok (.aload_n 0, 1) := by decide +kernel
theorem dX4_again_150 : decode cX4_again 150 = .ok (.aload_n 1, 1) := by decide +kernel
theorem dX4_again_151 : decode cX4_again 151 = .ok (.bipush 88, 2) := by decide +kernel
theorem dX4_again_153 : decode cX4_again 153 = .ok (.iaload, 1) := by decide +kernel
theorem dX4_again_154 : decode cX4_again 154 = .ok (.putfield 60, 3) := by decide +kernel
theorem dX4_again_157 : decode cX4_again 157 = .ok (.aload_n 0, 1) := by decide +kernel
theorem dX4_again_158 : decode cX4_again 158 = .ok (.aload_n 1, 1) := by decide +kernel
theorem dX4_again_159 : decode cX4_again 159 = .ok (.bipush 89, 2) := by decide +kernel
theorem dX4_again_161 : decode cX4_again 161 = .ok (.iaload, 1) := by decide +kernel
theorem dX4_again_162 : decode cX4_again 162 = .ok (.putfield 48, 3) := by decide +kernel
theorem dX4_again_165 : decode cX4_again 165 = .ok (.return_, 1) := by decide +kernel
theorem dX4_image_0 : decode cX4_image 0 = .ok (.aload_n 0, 1) := by decide +kernel
theorem dX4_image_1 : decode cX4_image 1 = .ok (.iconst 1, 1) := by decide +kernel
theorem dX4_image_2 : decode cX4_image 2 = .ok (.putfield 306, 3) := by decide +kernel
theorem dX4_image_5 : decode cX4_image 5 = .ok (.aload_n 0, 1) := by decide +kernel
theorem dX4_image_6 : decode cX4_image 6 = .ok (.aload_n 0, 1) := by decide +kernel
theorem dX4_image_7 : decode cX4_image 7 = .ok (.getfield 42, 3) := by decide +kernel
theorem dX4_image_10 : decode cX4_image 10 = .ok (.invokevirtual 185, 3) := by decide +kernel
theorem dX4_image_13 : decode cX4_image 13 = .ok (.iconst 1, 1) := by decide +kernel
theorem dX4_image_14 : decode cX4_image 14 = .ok (.ireturn, 1) := by decide +kernel
theorem dX4_back_0 : decode cX4_back 0 = .ok (.aload_n 0, 1) := by decide +kernel
theorem dX4_back_1 : decode cX4_back 1 = .ok (.getfield 306, 3) := by decide +kernel
theorem dX4_back_4 : decode cX4_back 4 = .ok (.ifCond .ne 10, 3) := by decide +kernel
theorem dX4_back_7 : decode cX4_back 7 = .ok (.aload_n 0, 1) := by decide +kernel
theorem dX4_back_8 : decode cX4_back 8 = .ok (.bipush (-5), 2) := by decide +kernel
theorem dX4_back_10 : decode cX4_back 10 = .ok (.invokevirtual 56, 3) := by decide +kernel
theorem dX4_back_13 : decode cX4_back 13 = .ok (.ireturn, 1) := by decide +kernel
theorem dX4_back_14 : decode cX4_back 14 = .ok (.aload_n 0, 1) := by decide +kernel
theorem dX4_back_15 : decode cX4_back 15 = .ok (.aload_n 0, 1) := by decide +kernel
theorem dX4_back_16 : decode cX4_back 16 = .ok (.getfield 42, 3) := by decide +kernel
theorem dX4_back_19 : decode cX4_back 19 = .ok (.invokevirtual 193, 3) := by decide +kernel
theorem dX4_back_22 : decode cX4_back 22 = .ok (.iconst 0, 1) := by decide +kernel
theorem dX4_back_23 : decode cX4_back 23 = .ok (.istore_n 1, 1) := by decide +kernel
theorem dX4_back_24 : decode cX4_back 24 = .ok (.iload_n 1, 1) := by decide +kernel
theorem dX4_back_25 : decode cX4_back 25 = .ok (.bipush 8, 2) := by decide +kernel
theorem dX4_back_27 : decode cX4_back 27 = .ok (.if_icmp .ge 32, 3) := by decide +kernel
theorem dX4_back_30 : decode cX4_back 30 = .ok (.aload_n 0, 1) := by decide +kernel
theorem dX4_back_31 : decode cX4_back 31 = .ok (.getfield 29, 3) := by decide +kernel
theorem dX4_back_34 : decode cX4_back 34 = .ok (.iload_n 1, 1) := by decide +kernel
theorem dX4_back_35 : decode cX4_back 35 = .ok (.iaload, 1) := by decide +kernel
theorem dX4_back_36 : decode cX4_back 36 = .ok (.bipush 10, 2) := by decide +kernel
theorem dX4_back_38 : decode cX4_back 38 = .ok (.aload_n 0, 1) := by decide +kernel
theorem dX4_back_39 : decode cX4_back 39 = .ok (.getfield 60, 3) := by decide +kernel
theorem dX4_back_42 : decode cX4_back 42 = .ok (.iadd, 1) := by decide +kernel
theorem dX4_back_43 : decode cX4_back 43 = .ok (.if_icmp .lt 10, 3) := by decide +kernel
theorem dX4_back_46 : decode cX4_back 46 = .ok (.aload_n 0, 1) := by decide +kernel
theorem dX4_back_47 : decode cX4_back 47 = .ok (.getfield 29, 3) := by decide +kernel
theorem dX4_back_50 : decode cX4_back 50 = .ok (.iload_n 1, 1) := by decide +kernel
theorem dX4_back_51 : decode cX4_back 51 = .ok (.iconst (-1), 1) := by decide +kernel
theorem dX4_back_52 : decode cX4_back 52 = .ok (.iastore, 1) := by decide +kernel
theorem dX4_back_53 : decode cX4_back 53 = .ok (.iinc 1 1, 3) := by decide +kernel
theorem dX4_back_56 : decode cX4_back 56 = .ok (.goto (-32), 3) := by decide +kernel
theorem dX4_back_59 : decode cX4_back 59 = .ok (.iconst 1, 1) := by decide +kernel
theorem dX4_back_60 : decode cX4_back 60 = .ok (.ireturn, 1) := by decide +kernel
theorem dX4_status_0 : decode cX4_status 0 = .ok (.iconst 0, 1) := by decide +kernel
theorem dX4_status_1 : decode cX4_status 1 = .ok (.istore_n 2, 1) := by decide +kernel
theorem dX4_status_2 : decode cX4_status 2 = .ok (.iload_n 1, 1) := by decide +kernel
theorem dX4_status_3 : decode cX4_status 3 = .ok (.tableswitch 230 0 11 #[61, 66, 71, 101, 136, 171, 176, 181, 186, 191, 196, 225], 61) := by decide +kernel
theorem dX4_status_64 : decode cX4_status 64 = .ok (.aload_n 0, 1) := by decide +kernel
theorem dX4_status_65 : decode cX4_status 65 = .ok (.getfield 67, 3) := by decide +kernel
theorem dX4_status_68 : decode cX4_status 68 = .ok (.ireturn, 1) := by decide +kernel
theorem dX4_status_69 : decode cX4_status 69 = .ok (.aload_n 0, 1) := by decide +kernel
theorem dX4_status_70 : decode cX4_status 70 = .ok (.getfield 70, 3) := by decide +kernel
theorem dX4_status_73 : decode cX4_status 73 = .ok (.ireturn, 1) := by decide +kernel
theorem dX4_status_74 : decode cX4_status 74 = .ok (.iconst 0, 1) := by decide +kernel
theorem dX4_status_75 : decode cX4_status 75 = .ok (.istore_n 3, 1) := by decide +kernel
theorem dX4_status_76 : decode cX4_status 76 = .ok (.iload_n 3, 1) := by decide +kernel
theorem dX4_status_77 : decode cX4_status 77 = .ok (.aload_n 0, 1) := by decide +kernel
theorem dX4_status_78 : decode cX4_status 78 = .ok (.invokevirtual 107, 3) := by decide +kernel
theorem dX4_status_81 : decode cX4_status 81 = .ok (.if_icmp .ge 21, 3) := by decide +kernel
theorem dX4_status_84 : decode cX4_status 84 = .ok (.aload_n 0, 1) := by decide +kernel
theorem dX4_status_85 : decode cX4_status 85 = .ok (.getfield 7, 3) := by decide +kernel
theorem dX4_status_88 : decode cX4_status 88 = .ok (.iload_n 3, 1) := by decide +kernel
theorem dX4_status_89 : decode cX4_status 89 = .ok (.baload, 1) := by decide +kernel
theorem dX4_status_90 : decode cX4_status 90 = .ok (.ifCond .eq 6, 3) := by decide +kernel
theorem dX4_status_93 : decode cX4_status 93 = .ok (.iinc 2 1, 3) := by decide +kernel
theorem dX4_status_96 : decode cX4_status 96 = .ok (.iinc 3 1, 3) := by decide +kernel
theorem dX4_status_99 : decode cX4_status 99 = .ok (.goto (-23), 3) := by decide +kernel
theorem dX4_status_102 : decode cX4_status 102 = .ok (.iload_n 2, 1) := by decide +kernel
theorem dX4_status_103 : decode cX4_status 103 = .ok (.ireturn, 1) := by decide +kernel
theorem dX4_status_104 : decode cX4_status 104 = .ok (.iconst 0, 1) := by decide +kernel
theorem dX4_status_105 : decode cX4_status 105 = .ok (.istore_n 3, 1) := by decide +kernel
theorem dX4_status_106 : decode cX4_status 106 = .ok (.iload_n 3, 1) := by decide +kernel
theorem dX4_status_107 : decode cX4_status 107 = .ok (.aload_n 0, 1) := by decide +kernel
theorem dX4_status_108 : decode cX4_status 108 = .ok (.getfield 67, 3) := by decide +kernel
theorem dX4_status_111 : decode cX4_status 111 = .ok (.aload_n 0, 1) := by decide +kernel
theorem dX4_status_112 : decode cX4_status 112 = .ok (.getfield 70, 3) := by decide +kernel
theorem dX4_status_115 : decode cX4_status 115 = .ok (.imul, 1) := by decide +kernel
theorem dX4_status_116 : decode cX4_status 116 = .ok (.if_icmp .ge 21, 3) := by decide +kernel
theorem dX4_status_119 : decode cX4_status 119 = .ok (.aload_n 0, 1) := by decide +kernel
theorem dX4_status_120 : decode cX4_status 120 = .ok (.getfield 13, 3) := by decide +kernel
theorem dX4_status_123 : decode cX4_status 123 = .ok (.iload_n 3, 1) := by decide +kernel
theorem dX4_status_124 : decode cX4_status 124 = .ok (.baload, 1) := by decide +kernel
theorem dX4_status_125 : decode cX4_status 125 = .ok (.ifCond .eq 6, 3) := by decide +kernel
theorem dX4_status_128 : decode cX4_status 128 = .ok (.iinc 2 1, 3) := by decide +kernel
theorem dX4_status_131 : decode cX4_status 131 = .ok (.iinc 3 1, 3) := by decide +kernel
theorem dX4_status_134 : decode cX4_status 134 = .ok (.goto (-28), 3) := by decide +kernel
theorem dX4_status_137 : decode cX4_status 137 = .ok (.iload_n 2, 1) := by decide +kernel
theorem dX4_status_138 : decode cX4_status 138 = .ok (.ireturn, 1) := by decide +kernel
theorem dX4_status_139 : decode cX4_status 139 = .ok (.iconst 0, 1) := by decide +kernel
theorem dX4_status_140 : decode cX4_status 140 = .ok (.istore_n 3, 1) := by decide +kernel
theorem dX4_status_141 : decode cX4_status 141 = .ok (.iload_n 3, 1) := by decide +kernel
theorem dX4_status_142 : decode cX4_status 142 = .ok (.aload_n 0, 1) := by decide +kernel
theorem dX4_status_143 : decode cX4_status 143 = .ok (.getfield 67, 3) := by decide +kernel
theorem dX4_status_146 : decode cX4_status 146 = .ok (.aload_n 0, 1) := by decide +kernel
theorem dX4_status_147 : decode cX4_status 147 = .ok (.getfield 70, 3) := by decide +kernel
theorem dX4_status_150 : decode cX4_status 150 = .ok (.imul, 1) := by decide +kernel
theorem dX4_status_151 : decode cX4_status 151 = .ok (.if_icmp .ge 21, 3) := by decide +kernel
theorem dX4_status_154 : decode cX4_status 154 = .ok (.aload_n 0, 1) := by decide +kernel
theorem dX4_status_155 : decode cX4_status 155 = .ok (.iload_n 3, 1) := by decide +kernel
theorem dX4_status_156 : decode cX4_status 156 = .ok (.invokevirtual 196, 3) := by decide +kernel
theorem dX4_status_159 : decode cX4_status 159 = .ok (.iconst 4, 1) := by decide +kernel
theorem dX4_status_160 : decode cX4_status 160 = .ok (.if_icmp .ne 6, 3) := by decide +kernel
theorem dX4_status_163 : decode cX4_status 163 = .ok (.iinc 2 1, 3) := by decide +kernel
theorem dX4_status_166 : decode cX4_status 166 = .ok (.iinc 3 1, 3) := by decide +kernel
theorem dX4_status_169 : decode cX4_status 169 = .ok (.goto (-28), 3) := by decide +kernel
theorem dX4_status_172 : decode cX4_status 172 = .ok (.iload_n 2, 1) := by decide +kernel
theorem dX4_status_173 : decode cX4_status 173 = .ok (.ireturn, 1) := by decide +kernel
theorem dX4_status_174 : decode cX4_status 174 = .ok (.aload_n 0, 1) := by decide +kernel
theorem dX4_status_175 : decode cX4_status 175 = .ok (.getfield 101, 3) := by decide +kernel
theorem dX4_status_178 : decode cX4_status 178 = .ok (.ireturn, 1) := by decide +kernel
theorem dX4_status_179 : decode cX4_status 179 = .ok (.aload_n 0, 1) := by decide +kernel
theorem dX4_status_180 : decode cX4_status 180 = .ok (.getfield 104, 3) := by decide +kernel
theorem dX4_status_183 : decode cX4_status 183 = .ok (.ireturn, 1) := by decide +kernel
theorem dX4_status_184 : decode cX4_status 184 = .ok (.aload_n 0, 1) := by decide +kernel
theorem dX4_status_185 : decode cX4_status 185 = .ok (.getfield 60, 3) := by decide +kernel
theorem dX4_status_188 : decode cX4_status 188 = .ok (.ireturn, 1) := by decide +kernel
theorem dX4_status_189 : decode cX4_status 189 = .ok (.aload_n 0, 1) := by decide +kernel
theorem dX4_status_190 : decode cX4_status 190 = .ok (.getfield 128, 3) := by decide +kernel
theorem dX4_status_193 : decode cX4_status 193 = .ok (.ireturn, 1) := by decide +kernel
theorem dX4_status_194 : decode cX4_status 194 = .ok (.aload_n 0, 1) := by decide +kernel
theorem dX4_status_195 : decode cX4_status 195 = .ok (.getfield 48, 3) := by decide +kernel
theorem dX4_status_198 : decode cX4_status 198 = .ok (.ireturn, 1) := by decide +kernel
theorem dX4_status_199 : decode cX4_status 199 = .ok (.iconst 0, 1) := by decide +kernel
theorem dX4_status_200 : decode cX4_status 200 = .ok (.istore_n 3, 1) := by decide +kernel
theorem dX4_status_201 : decode cX4_status 201 = .ok (.iload_n 3, 1) := by decide +kernel
theorem dX4_status_202 : decode cX4_status 202 = .ok (.bipush 8, 2) := by decide +kernel
theorem dX4_status_204 : decode cX4_status 204 = .ok (.if_icmp .ge 22, 3) := by decide +kernel
theorem dX4_status_207 : decode cX4_status 207 = .ok (.aload_n 0, 1) := by decide +kernel
theorem dX4_status_208 : decode cX4_status 208 = .ok (.getfield 29, 3) := by decide +kernel
theorem dX4_status_211 : decode cX4_status 211 = .ok (.iload_n 3, 1) := by decide +kernel
theorem dX4_status_212 : decode cX4_status 212 = .ok (.iaload, 1) := by decide +kernel
theorem dX4_status_213 : decode cX4_status 213 = .ok (.iconst (-1), 1) := by decide +kernel
theorem dX4_status_214 : decode cX4_status 214 = .ok (.if_icmp .eq 6, 3) := by decide +kernel
theorem dX4_status_217 : decode cX4_status 217 = .ok (.iinc 2 1, 3) := by decide +kernel
theorem dX4_status_220 : decode cX4_status 220 = .ok (.iinc 3 1, 3) := by decide +kernel
theorem dX4_status_223 : decode cX4_status 223 = .ok (.goto (-22), 3) := by decide +kernel
theorem dX4_status_226 : decode cX4_status 226 = .ok (.iload_n 2, 1) := by decide +kernel
theorem dX4_status_227 : decode cX4_status 227 = .ok (.ireturn, 1) := by decide +kernel
theorem dX4_status_228 : decode cX4_status 228 = .ok (.aload_n 0, 1) := by decide +kernel
theorem dX4_status_229 : decode cX4_status 229 = .ok (.invokevirtual 107, 3) := by decide +kernel
theorem dX4_status_232 : decode cX4_status 232 = .ok (.ireturn, 1) := by decide +kernel
theorem dX4_status_233 : decode cX4_status 233 = .ok (.iload_n 1, 1) := by decide +kernel
theorem dX4_status_234 : decode cX4_status 234 = .ok (.bipush 12, 2) := by decide +kernel
theorem dX4_status_236 : decode cX4_status 236 = .ok (.bipush 16, 2) := by decide +kernel
theorem dX4_status_238 : decode cX4_status 238 = .ok (.invokestatic 63, 3) := by decide +kernel
theorem dX4_status_241 : decode cX4_status 241 = .ok (.ifCond .eq 15, 3) := by decide +kernel
theorem dX4_status_244 : decode cX4_status 244 = .ok (.aload_n 0, 1) := by decide +kernel
theorem dX4_status_245 : decode cX4_status 245 = .ok (.getfield 39, 3) := by decide +kernel
theorem dX4_status_248 : decode cX4_status 248 = .ok (.iload_n 1, 1) := by decide +kernel
theorem dX4_status_249 : decode cX4_status 249 = .ok (.bipush 10, 2) := by decide +kernel
theorem dX4_status_251 : decode cX4_status 251 = .ok (.isub, 1) := by decide +kernel
theorem dX4_status_252 : decode cX4_status 252 = .ok (.iaload, 1) := by decide +kernel
theorem dX4_status_253 : decode cX4_status 253 = .ok (.goto 4, 3) := by decide +kernel
theorem dX4_status_256 : decode cX4_status 256 = .ok (.iconst (-1), 1) := by decide +kernel
theorem dX4_status_257 : decode cX4_status 257 = .ok (.ireturn, 1) := by decide +kernel
