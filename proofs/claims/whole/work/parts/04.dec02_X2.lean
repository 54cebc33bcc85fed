theorem dX2_init_0 : decode cX2_init 0 = .ok (.aload_n 0, 1) := by decide +kernel
theorem dX2_init_1 : decode cX2_init 1 = .ok (.invokespecial 3, 3) := by decide +kernel
theorem dX2_init_4 : decode cX2_init 4 = .ok (.aload_n 0, 1) := by decide +kernel
theorem dX2_init_5 : decode cX2_init 5 = .ok (.sipush 250, 3) := by decide +kernel
theorem dX2_init_8 : decode cX2_init 8 = .ok (.newarray .char, 2) := by decide +kernel
theorem dX2_init_10 : decode cX2_init 10 = .ok (.putfield 9, 3) := by decide +kernel
theorem dX2_init_13 : decode cX2_init 13 = .ok (.aload_n 0, 1) := by decide +kernel
theorem dX2_init_14 : decode cX2_init 14 = .ok (.iconst 0, 1) := by decide +kernel
theorem dX2_init_15 : decode cX2_init 15 = .ok (.putfield 15, 3) := by decide +kernel
theorem dX2_init_18 : decode cX2_init 18 = .ok (.aload_n 0, 1) := by decide +kernel
theorem dX2_init_19 : decode cX2_init 19 = .ok (.iconst 0, 1) := by decide +kernel
theorem dX2_init_20 : decode cX2_init 20 = .ok (.putfield 19, 3) := by decide +kernel
theorem dX2_init_23 : decode cX2_init 23 = .ok (.aload_n 0, 1) := by decide +kernel
theorem dX2_init_24 : decode cX2_init 24 = .ok (.iconst 0, 1) := by decide +kernel
theorem dX2_init_25 : decode cX2_init 25 = .ok (.putfield 22, 3) := by decide +kernel
theorem dX2_init_28 : decode cX2_init 28 = .ok (.return_, 1) := by decide +kernel
theorem dX2_append_0 : decode cX2_append 0 = .ok (.aload_n 0, 1) := by decide +kernel
theorem dX2_append_1 : decode cX2_append 1 = .ok (.getfield 15, 3) := by decide +kernel
theorem dX2_append_4 : decode cX2_append 4 = .ok (.ifCond .lt 36, 3) := by decide +kernel
theorem dX2_append_7 : decode cX2_append 7 = .ok (.aload_n 0, 1) := by decide +kernel
theorem dX2_append_8 : decode cX2_append 8 = .ok (.getfield 15, 3) := by decide +kernel
theorem dX2_append_11 : decode cX2_append 11 = .ok (.aload_n 0, 1) := by decide +kernel
theorem dX2_append_12 : decode cX2_append 12 = .ok (.getfield 9, 3) := by decide +kernel
theorem dX2_append_15 : decode cX2_append 15 = .ok (.arraylength, 1) := by decide +kernel
theorem dX2_append_16 : decode cX2_append 16 = .ok (.if_icmp .ge 24, 3) := by decide +kernel
theorem dX2_append_19 : decode cX2_append 19 = .ok (.aload_n 0, 1) := by decide +kernel
theorem dX2_append_20 : decode cX2_append 20 = .ok (.getfield 9, 3) := by decide +kernel
theorem dX2_append_23 : decode cX2_append 23 = .ok (.aload_n 0, 1) := by decide +kernel
theorem dX2_append_24 : decode cX2_append 24 = .ok (.getfield 15, 3) := by decide +kernel
theorem dX2_append_27 : decode cX2_append 27 = .ok (.iload_n 1, 1) := by decide +kernel
theorem dX2_append_28 : decode cX2_append 28 = .ok (.i2c, 1) := by decide +kernel
theorem dX2_append_29 : decode cX2_append 29 = .ok (.castore, 1) := by decide +kernel
theorem dX2_append_30 : decode cX2_append 30 = .ok (.aload_n 0, 1) := by decide +kernel
theorem dX2_append_31 : decode cX2_append 31 = .ok (.dup, 1) := by decide +kernel
theorem dX2_append_32 : decode cX2_append 32 = .ok (.getfield 15, 3) := by decide +kernel
theorem dX2_append_35 : decode cX2_append 35 = .ok (.iconst 1, 1) := by decide +kernel
theorem dX2_append_36 : decode cX2_append 36 = .ok (.iadd, 1) := by decide +kernel
theorem dX2_append_37 : decode cX2_append 37 = .ok (.putfield 15, 3) := by decide +kernel
theorem dX2_append_40 : decode cX2_append 40 = .ok (.return_, 1) := by decide +kernel
theorem dX2_rewind_0 : decode cX2_rewind 0 = .ok (.aload_n 0, 1) := by decide +kernel
theorem dX2_rewind_1 : decode cX2_rewind 1 = .ok (.iconst 0, 1) := by decide +kernel
theorem dX2_rewind_2 : decode cX2_rewind 2 = .ok (.putfield 19, 3) := by decide +kernel
theorem dX2_rewind_5 : decode cX2_rewind 5 = .ok (.aload_n 0, 1) := by decide +kernel
theorem dX2_rewind_6 : decode cX2_rewind 6 = .ok (.iconst 0, 1) := by decide +kernel
theorem dX2_rewind_7 : decode cX2_rewind 7 = .ok (.putfield 22, 3) := by decide +kernel
theorem dX2_rewind_10 : decode cX2_rewind 10 = .ok (.return_, 1) := by decide +kernel
theorem dX2_byteAt_0 : decode cX2_byteAt 0 = .ok (.iload_n 1, 1) := by decide +kernel
theorem dX2_byteAt_1 : decode cX2_byteAt 1 = .ok (.ifCond .lt 29, 3) := by decide +kernel
theorem dX2_byteAt_4 : decode cX2_byteAt 4 = .ok (.iload_n 1, 1) := by decide +kernel
theorem dX2_byteAt_5 : decode cX2_byteAt 5 = .ok (.aload_n 0, 1) := by decide +kernel
theorem dX2_byteAt_6 : decode cX2_byteAt 6 = .ok (.getfield 15, 3) := by decide +kernel
theorem dX2_byteAt_9 : decode cX2_byteAt 9 = .ok (.if_icmp .ge 21, 3) := by decide +kernel
theorem dX2_byteAt_12 : decode cX2_byteAt 12 = .ok (.iload_n 1, 1) := by decide +kernel
theorem dX2_byteAt_13 : decode cX2_byteAt 13 = .ok (.aload_n 0, 1) := by decide +kernel
theorem dX2_byteAt_14 : decode cX2_byteAt 14 = .ok (.getfield 9, 3) := by decide +kernel
theorem dX2_byteAt_17 : decode cX2_byteAt 17 = .ok (.arraylength, 1) := by decide +kernel
theorem dX2_byteAt_18 : decode cX2_byteAt 18 = .ok (.if_icmp .ge 12, 3) := by decide +kernel
theorem dX2_byteAt_21 : decode cX2_byteAt 21 = .ok (.aload_n 0, 1) := by decide +kernel
theorem dX2_byteAt_22 : decode cX2_byteAt 22 = .ok (.getfield 9, 3) := by decide +kernel
theorem dX2_byteAt_25 : decode cX2_byteAt 25 = .ok (.iload_n 1, 1) := by decide +kernel
theorem dX2_byteAt_26 : decode cX2_byteAt 26 = .ok (.caload, 1) := by decide +kernel
theorem dX2_byteAt_27 : decode cX2_byteAt 27 = .ok (.goto 4, 3) := by decide +kernel
theorem dX2_byteAt_30 : decode cX2_byteAt 30 = .ok (.iconst (-1), 1) := by decide +kernel
theorem dX2_byteAt_31 : decode cX2_byteAt 31 = .ok (.ireturn, 1) := by decide +kernel
theorem dX2_sortAt_0 : decode cX2_sortAt 0 = .ok (.aload_n 0, 1) := by decide +kernel
theorem dX2_sortAt_1 : decode cX2_sortAt 1 = .ok (.iload_n 1, 1) := by decide +kernel
theorem dX2_sortAt_2 : decode cX2_sortAt 2 = .ok (.invokevirtual 25, 3) := by decide +kernel
theorem dX2_sortAt_5 : decode cX2_sortAt 5 = .ok (.istore_n 2, 1) := by decide +kernel
theorem dX2_sortAt_6 : decode cX2_sortAt 6 = .ok (.iload_n 2, 1) := by decide +kernel
theorem dX2_sortAt_7 : decode cX2_sortAt 7 = .ok (.bipush 97, 2) := by decide +kernel
theorem dX2_sortAt_9 : decode cX2_sortAt 9 = .ok (.if_icmp .lt 11, 3) := by decide +kernel
theorem dX2_sortAt_12 : decode cX2_sortAt 12 = .ok (.iload_n 2, 1) := by decide +kernel
theorem dX2_sortAt_13 : decode cX2_sortAt 13 = .ok (.bipush 122, 2) := by decide +kernel
theorem dX2_sortAt_15 : decode cX2_sortAt 15 = .ok (.if_icmp .gt 5, 3) := by decide +kernel
theorem dX2_sortAt_18 : decode cX2_sortAt 18 = .ok (.iconst 1, 1) := by decide +kernel
theorem dX2_sortAt_19 : decode cX2_sortAt 19 = .ok (.ireturn, 1) := by decide +kernel
theorem dX2_sortAt_20 : decode cX2_sortAt 20 = .ok (.iload_n 2, 1) := by decide +kernel
theorem dX2_sortAt_21 : decode cX2_sortAt 21 = .ok (.bipush 48, 2) := by decide +kernel
theorem dX2_sortAt_23 : decode cX2_sortAt 23 = .ok (.if_icmp .lt 13, 3) := by decide +kernel
theorem dX2_sortAt_26 : decode cX2_sortAt 26 = .ok (.iload_n 2, 1) := by decide +kernel
theorem dX2_sortAt_27 : decode cX2_sortAt 27 = .ok (.bipush 57, 2) := by decide +kernel
theorem dX2_sortAt_29 : decode cX2_sortAt 29 = .ok (.if_icmp .gt 7, 3) := by decide +kernel
theorem dX2_sortAt_32 : decode cX2_sortAt 32 = .ok (.iconst 2, 1) := by decide +kernel
theorem dX2_sortAt_33 : decode cX2_sortAt 33 = .ok (.goto 4, 3) := by decide +kernel
theorem dX2_sortAt_36 : decode cX2_sortAt 36 = .ok (.iconst (-1), 1) := by decide +kernel
theorem dX2_sortAt_37 : decode cX2_sortAt 37 = .ok (.ireturn, 1) := by decide +kernel
theorem dX2_step_0 : decode cX2_step 0 = .ok (.aload_n 0, 1) := by decide +kernel
theorem dX2_step_1 : decode cX2_step 1 = .ok (.aload_n 0, 1) := by decide +kernel
theorem dX2_step_2 : decode cX2_step 2 = .ok (.getfield 22, 3) := by decide +kernel
theorem dX2_step_5 : decode cX2_step 5 = .ok (.putfield 19, 3) := by decide +kernel
theorem dX2_step_8 : decode cX2_step 8 = .ok (.aload_n 0, 1) := by decide +kernel
theorem dX2_step_9 : decode cX2_step 9 = .ok (.getfield 19, 3) := by decide +kernel
theorem dX2_step_12 : decode cX2_step 12 = .ok (.aload_n 0, 1) := by decide +kernel
theorem dX2_step_13 : decode cX2_step 13 = .ok (.getfield 15, 3) := by decide +kernel
theorem dX2_step_16 : decode cX2_step 16 = .ok (.if_icmp .ge 29, 3) := by decide +kernel
theorem dX2_step_19 : decode cX2_step 19 = .ok (.aload_n 0, 1) := by decide +kernel
theorem dX2_step_20 : decode cX2_step 20 = .ok (.aload_n 0, 1) := by decide +kernel
theorem dX2_step_21 : decode cX2_step 21 = .ok (.getfield 19, 3) := by decide +kernel
theorem dX2_step_24 : decode cX2_step 24 = .ok (.invokevirtual 25, 3) := by decide +kernel
theorem dX2_step_27 : decode cX2_step 27 = .ok (.bipush 32, 2) := by decide +kernel
theorem dX2_step_29 : decode cX2_step 29 = .ok (.if_icmp .ne 16, 3) := by decide +kernel
theorem dX2_step_32 : decode cX2_step 32 = .ok (.aload_n 0, 1) := by decide +kernel
theorem dX2_step_33 : decode cX2_step 33 = .ok (.dup, 1) := by decide +kernel
theorem dX2_step_34 : decode cX2_step 34 = .ok (.getfield 19, 3) := by decide +kernel
theorem dX2_step_37 : decode cX2_step 37 = .ok (.iconst 1, 1) := by decide +kernel
theorem dX2_step_38 : decode cX2_step 38 = .ok (.iadd, 1) := by decide +kernel
theorem dX2_step_39 : decode cX2_step 39 = .ok (.putfield 19, 3) := by decide +kernel
theorem dX2_step_42 : decode cX2_step 42 = .ok (.goto (-34), 3) := by decide +kernel
theorem dX2_step_45 : decode cX2_step 45 = .ok (.aload_n 0, 1) := by decide +kernel
theorem dX2_step_46 : decode cX2_step 46 = .ok (.aload_n 0, 1) := by decide +kernel
theorem dX2_step_47 : decode cX2_step 47 = .ok (.getfield 19, 3) := by decide +kernel
theorem dX2_step_50 : decode cX2_step 50 = .ok (.invokevirtual 29, 3) := by decide +kernel
theorem dX2_step_53 : decode cX2_step 53 = .ok (.istore_n 1, 1) := by decide +kernel
theorem dX2_step_54 : decode cX2_step 54 = .ok (.aload_n 0, 1) := by decide +kernel
theorem dX2_step_55 : decode cX2_step 55 = .ok (.aload_n 0, 1) := by decide +kernel
theorem dX2_step_56 : decode cX2_step 56 = .ok (.getfield 19, 3) := by decide +kernel
theorem dX2_step_59 : decode cX2_step 59 = .ok (.iconst 1, 1) := by decide +kernel
theorem dX2_step_60 : decode cX2_step 60 = .ok (.iadd, 1) := by decide +kernel
theorem dX2_step_61 : decode cX2_step 61 = .ok (.aload_n 0, 1) := by decide +kernel
theorem dX2_step_62 : decode cX2_step 62 = .ok (.getfield 15, 3) := by decide +kernel
theorem dX2_step_65 : decode cX2_step 65 = .ok (.invokestatic 32, 3) := by decide +kernel
theorem dX2_step_68 : decode cX2_step 68 = .ok (.putfield 22, 3) := by decide +kernel
theorem dX2_step_71 : decode cX2_step 71 = .ok (.aload_n 0, 1) := by decide +kernel
theorem dX2_step_72 : decode cX2_step 72 = .ok (.getfield 22, 3) := by decide +kernel
theorem dX2_step_75 : decode cX2_step 75 = .ok (.aload_n 0, 1) := by decide +kernel
theorem dX2_step_76 : decode cX2_step 76 = .ok (.getfield 15, 3) := by decide +kernel
theorem dX2_step_79 : decode cX2_step 79 = .ok (.if_icmp .ge 33, 3) := by decide +kernel
theorem dX2_step_82 : decode cX2_step 82 = .ok (.iload_n 1, 1) := by decide +kernel
theorem dX2_step_83 : decode cX2_step 83 = .ok (.iconst (-1), 1) := by decide +kernel
theorem dX2_step_84 : decode cX2_step 84 = .ok (.if_icmp .eq 28, 3) := by decide +kernel
theorem dX2_step_87 : decode cX2_step 87 = .ok (.aload_n 0, 1) := by decide +kernel
theorem dX2_step_88 : decode cX2_step 88 = .ok (.aload_n 0, 1) := by decide +kernel
theorem dX2_step_89 : decode cX2_step 89 = .ok (.getfield 22, 3) := by decide +kernel
theorem dX2_step_92 : decode cX2_step 92 = .ok (.invokevirtual 29, 3) := by decide +kernel
theorem dX2_step_95 : decode cX2_step 95 = .ok (.iload_n 1, 1) := by decide +kernel
theorem dX2_step_96 : decode cX2_step 96 = .ok (.if_icmp .ne 16, 3) := by decide +kernel
theorem dX2_step_99 : decode cX2_step 99 = .ok (.aload_n 0, 1) := by decide +kernel
theorem dX2_step_100 : decode cX2_step 100 = .ok (.dup, 1) := by decide +kernel
theorem dX2_step_101 : decode cX2_step 101 = .ok (.getfield 22, 3) := by decide +kernel
theorem dX2_step_104 : decode cX2_step 104 = .ok (.iconst 1, 1) := by decide +kernel
theorem dX2_step_105 : decode cX2_step 105 = .ok (.iadd, 1) := by decide +kernel
theorem dX2_step_106 : decode cX2_step 106 = .ok (.putfield 22, 3) := by decide +kernel
theorem dX2_step_109 : decode cX2_step 109 = .ok (.goto (-38), 3) := by decide +kernel
theorem dX2_step_112 : decode cX2_step 112 = .ok (.return_, 1) := by decide +kernel
theorem dX2_isAtEnd_0 : decode cX2_isAtEnd 0 = .ok (.aload_n 0, 1) := by decide +kernel
theorem dX2_isAtEnd_1 : decode cX2_isAtEnd 1 = .ok (.getfield 19, 3) := by decide +kernel
theorem dX2_isAtEnd_4 : decode cX2_isAtEnd 4 = .ok (.aload_n 0, 1) := by decide +kernel
theorem dX2_isAtEnd_5 : decode cX2_isAtEnd 5 = .ok (.getfield 15, 3) := by decide +kernel
theorem dX2_isAtEnd_8 : decode cX2_isAtEnd 8 = .ok (.if_icmp .lt 7, 3) := by decide +kernel
theorem dX2_isAtEnd_11 : decode cX2_isAtEnd 11 = .ok (.iconst 1, 1) := by decide +kernel
theorem dX2_isAtEnd_12 : decode cX2_isAtEnd 12 = .ok (.goto 4, 3) := by decide +kernel
theorem dX2_isAtEnd_15 : decode cX2_isAtEnd 15 = .ok (.iconst 0, 1) := by decide +kernel
theorem dX2_isAtEnd_16 : decode cX2_isAtEnd 16 = .ok (.ireturn, 1) := by decide +kernel
theorem dX2_isSign_0 : decode cX2_isSign 0 = .ok (.aload_n 0, 1) := by decide +kernel
theorem dX2_isSign_1 : decode cX2_isSign 1 = .ok (.aload_n 0, 1) := by decide +kernel
theorem dX2_isSign_2 : decode cX2_isSign 2 = .ok (.getfield 19, 3) := by decide +kernel
theorem dX2_isSign_5 : decode cX2_isSign 5 = .ok (.invokevirtual 25, 3) := by decide +kernel
theorem dX2_isSign_8 : decode cX2_isSign 8 = .ok (.bipush 59, 2) := by decide +kernel
theorem dX2_isSign_10 : decode cX2_isSign 10 = .ok (.if_icmp .ne 7, 3) := by decide +kernel
theorem dX2_isSign_13 : decode cX2_isSign 13 = .ok (.iconst 1, 1) := by decide +kernel
theorem dX2_isSign_14 : decode cX2_isSign 14 = .ok (.goto 4, 3) := by decide +kernel
theorem dX2_isSign_17 : decode cX2_isSign 17 = .ok (.iconst 0, 1) := by decide +kernel
theorem dX2_isSign_18 : decode cX2_isSign 18 = .ok (.ireturn, 1) := by decide +kernel
theorem dX2_isWord_0 : decode cX2_isWord 0 = .ok (.aload_n 0, 1) := by decide +kernel
theorem dX2_isWord_1 : decode cX2_isWord 1 = .ok (.getfield 22, 3) := by decide +kernel
theorem dX2_isWord_4 : decode cX2_isWord 4 = .ok (.aload_n 0, 1) := by decide +kernel
theorem dX2_isWord_5 : decode cX2_isWord 5 = .ok (.getfield 19, 3) := by decide +kernel
theorem dX2_isWord_8 : decode cX2_isWord 8 = .ok (.isub, 1) := by decide +kernel
theorem dX2_isWord_9 : decode cX2_isWord 9 = .ok (.aload_n 1, 1) := by decide +kernel
theorem dX2_isWord_10 : decode cX2_isWord 10 = .ok (.invokevirtual 38, 3) := by decide +kernel
theorem dX2_isWord_13 : decode cX2_isWord 13 = .ok (.if_icmp .ne 7, 3) := by decide +kernel
theorem dX2_isWord_16 : decode cX2_isWord 16 = .ok (.iconst 1, 1) := by decide +kernel
theorem dX2_isWord_17 : decode cX2_isWord 17 = .ok (.goto 4, 3) := by decide +kernel
theorem dX2_isWord_20 : decode cX2_isWord 20 = .ok (.iconst 0, 1) := by decide +kernel
theorem dX2_isWord_21 : decode cX2_isWord 21 = .ok (.istore_n 2, 1) := by decide +kernel
theorem dX2_isWord_22 : decode cX2_isWord 22 = .ok (.iconst 0, 1) := by decide +kernel
theorem dX2_isWord_23 : decode cX2_isWord 23 = .ok (.istore_n 3, 1) := by decide +kernel
theorem dX2_isWord_24 : decode cX2_isWord 24 = .ok (.iload_n 3, 1) := by decide +kernel
theorem dX2_isWord_25 : decode cX2_isWord 25 = .ok (.aload_n 1, 1) := by decide +kernel
theorem dX2_isWord_26 : decode cX2_isWord 26 = .ok (.invokevirtual 38, 3) := by decide +kernel
theorem dX2_isWord_29 : decode cX2_isWord 29 = .ok (.if_icmp .ge 37, 3) := by decide +kernel
theorem dX2_isWord_32 : decode cX2_isWord 32 = .ok (.iload_n 2, 1) := by decide +kernel
theorem dX2_isWord_33 : decode cX2_isWord 33 = .ok (.ifCond .eq 33, 3) := by decide +kernel
theorem dX2_isWord_36 : decode cX2_isWord 36 = .ok (.aload_n 0, 1) := by decide +kernel
theorem dX2_isWord_37 : decode cX2_isWord 37 = .ok (.aload_n 0, 1) := by decide +kernel
theorem dX2_isWord_38 : decode cX2_isWord 38 = .ok (.getfield 19, 3) := by decide +kernel
theorem dX2_isWord_41 : decode cX2_isWord 41 = .ok (.iload_n 3, 1) := by decide +kernel
theorem dX2_isWord_42 : decode cX2_isWord 42 = .ok (.iadd, 1) := by decide +kernel
theorem dX2_isWord_43 : decode cX2_isWord 43 = .ok (.invokevirtual 25, 3) := by decide +kernel
theorem dX2_isWord_46 : decode cX2_isWord 46 = .ok (.aload_n 1, 1) := by decide +kernel
theorem dX2_isWord_47 : decode cX2_isWord 47 = .ok (.iload_n 3, 1) := by decide +kernel
theorem dX2_isWord_48 : decode cX2_isWord 48 = .ok (.invokevirtual 43, 3) := by decide +kernel
theorem dX2_isWord_51 : decode cX2_isWord 51 = .ok (.if_icmp .ne 7, 3) := by decide +kernel
theorem dX2_isWord_54 : decode cX2_isWord 54 = .ok (.iconst 1, 1) := by decide +kernel
theorem dX2_isWord_55 : decode cX2_isWord 55 = .ok (.goto 4, 3) := by decide +kernel
theorem dX2_isWord_58 : decode cX2_isWord 58 = .ok (.iconst 0, 1) := by decide +kernel
theorem dX2_isWord_59 : decode cX2_isWord 59 = .ok (.istore_n 2, 1) := by decide +kernel
theorem dX2_isWord_60 : decode cX2_isWord 60 = .ok (.iinc 3 1, 3) := by decide +kernel
theorem dX2_isWord_63 : decode cX2_isWord 63 = .ok (.goto (-39), 3) := by decide +kernel
theorem dX2_isWord_66 : decode cX2_isWord 66 = .ok (.iload_n 2, 1) := by decide +kernel
theorem dX2_isWord_67 : decode cX2_isWord 67 = .ok (.ireturn, 1) := by decide +kernel
theorem dX2_numberHere_0 : decode cX2_numberHere 0 = .ok (.aload_n 0, 1) := by decide +kernel
theorem dX2_numberHere_1 : decode cX2_numberHere 1 = .ok (.aload_n 0, 1) := by decide +kernel
theorem dX2_numberHere_2 : decode cX2_numberHere 2 = .ok (.getfield 19, 3) := by decide +kernel
theorem dX2_numberHere_5 : decode cX2_numberHere 5 = .ok (.invokevirtual 29, 3) := by decide +kernel
theorem dX2_numberHere_8 : decode cX2_numberHere 8 = .ok (.iconst 2, 1) := by decide +kernel
theorem dX2_numberHere_9 : decode cX2_numberHere 9 = .ok (.if_icmp .ne 16, 3) := by decide +kernel
theorem dX2_numberHere_12 : decode cX2_numberHere 12 = .ok (.aload_n 0, 1) := by decide +kernel
theorem dX2_numberHere_13 : decode cX2_numberHere 13 = .ok (.getfield 22, 3) := by decide +kernel
theorem dX2_numberHere_16 : decode cX2_numberHere 16 = .ok (.aload_n 0, 1) := by decide +kernel
theorem dX2_numberHere_17 : decode cX2_numberHere 17 = .ok (.getfield 19, 3) := by decide +kernel
theorem dX2_numberHere_20 : decode cX2_numberHere 20 = .ok (.isub, 1) := by decide +kernel
theorem dX2_numberHere_21 : decode cX2_numberHere 21 = .ok (.iconst 2, 1) := by decide +kernel
theorem dX2_numberHere_22 : decode cX2_numberHere 22 = .ok (.if_icmp .le 5, 3) := by decide +kernel
theorem dX2_numberHere_25 : decode cX2_numberHere 25 = .ok (.iconst (-1), 1) := by decide +kernel
theorem dX2_numberHere_26 : decode cX2_numberHere 26 = .ok (.ireturn, 1) := by decide +kernel
theorem dX2_numberHere_27 : decode cX2_numberHere 27 = .ok (.iconst 0, 1) := by decide +kernel
theorem dX2_numberHere_28 : decode cX2_numberHere 28 = .ok (.istore_n 1, 1) := by decide +kernel
theorem dX2_numberHere_29 : decode cX2_numberHere 29 = .ok (.aload_n 0, 1) := by decide +kernel
theorem dX2_numberHere_30 : decode cX2_numberHere 30 = .ok (.getfield 19, 3) := by decide +kernel
theorem dX2_numberHere_33 : decode cX2_numberHere 33 = .ok (.istore_n 2, 1) := by decide +kernel
theorem dX2_numberHere_34 : decode cX2_numberHere 34 = .ok (.iload_n 2, 1) := by decide +kernel
theorem dX2_numberHere_35 : decode cX2_numberHere 35 = .ok (.aload_n 0, 1) := by decide +kernel
theorem dX2_numberHere_36 : decode cX2_numberHere 36 = .ok (.getfield 22, 3) := by decide +kernel
theorem dX2_numberHere_39 : decode cX2_numberHere 39 = .ok (.if_icmp .ge 23, 3) := by decide +kernel
theorem dX2_numberHere_42 : decode cX2_numberHere 42 = .ok (.iload_n 1, 1) := by decide +kernel
theorem dX2_numberHere_43 : decode cX2_numberHere 43 = .ok (.bipush 10, 2) := by decide +kernel
theorem dX2_numberHere_45 : decode cX2_numberHere 45 = .ok (.imul, 1) := by decide +kernel
theorem dX2_numberHere_46 : decode cX2_numberHere 46 = .ok (.aload_n 0, 1) := by decide +kernel
theorem dX2_numberHere_47 : decode cX2_numberHere 47 = .ok (.iload_n 2, 1) := by decide +kernel
theorem dX2_numberHere_48 : decode cX2_numberHere 48 = .ok (.invokevirtual 25, 3) := by decide +kernel
theorem dX2_numberHere_51 : decode cX2_numberHere 51 = .ok (.iadd, 1) := by decide +kernel
theorem dX2_numberHere_52 : decode cX2_numberHere 52 = .ok (.bipush 48, 2) := by decide +kernel
theorem dX2_numberHere_54 : decode cX2_numberHere 54 = .ok (.isub, 1) := by decide +kernel
theorem dX2_numberHere_55 : decode cX2_numberHere 55 = .ok (.istore_n 1, 1) := by decide +kernel
theorem dX2_numberHere_56 : decode cX2_numberHere 56 = .ok (.iinc 2 1, 3) := by decide +kernel
theorem dX2_numberHere_59 : decode cX2_numberHere 59 = .ok (.goto (-25), 3) := by decide +kernel
theorem dX2_numberHere_62 : decode cX2_numberHere 62 = .ok (.iload_n 1, 1) := by decide +kernel
theorem dX2_numberHere_63 : decode cX2_numberHere 63 = .ok (.ireturn, 1) := by decide +kernel
