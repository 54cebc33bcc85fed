theorem dX1_init_0 : decode cX1_init 0 = .ok (.aload_n 0, 1) := by decide +kernel
theorem dX1_init_1 : decode cX1_init 1 = .ok (.invokespecial 3, 3) := by decide +kernel
theorem dX1_init_4 : decode cX1_init 4 = .ok (.aload_n 0, 1) := by decide +kernel
theorem dX1_init_5 : decode cX1_init 5 = .ok (.iconst (-1), 1) := by decide +kernel
theorem dX1_init_6 : decode cX1_init 6 = .ok (.putfield 9, 3) := by decide +kernel
theorem dX1_init_9 : decode cX1_init 9 = .ok (.aload_n 0, 1) := by decide +kernel
theorem dX1_init_10 : decode cX1_init 10 = .ok (.iconst 0, 1) := by decide +kernel
theorem dX1_init_11 : decode cX1_init 11 = .ok (.putfield 15, 3) := by decide +kernel
theorem dX1_init_14 : decode cX1_init 14 = .ok (.aload_n 0, 1) := by decide +kernel
theorem dX1_init_15 : decode cX1_init 15 = .ok (.bipush 40, 2) := by decide +kernel
theorem dX1_init_17 : decode cX1_init 17 = .ok (.newarray .long, 2) := by decide +kernel
theorem dX1_init_19 : decode cX1_init 19 = .ok (.putfield 18, 3) := by decide +kernel
theorem dX1_init_22 : decode cX1_init 22 = .ok (.return_, 1) := by decide +kernel
theorem dX1_bearsRow_0 : decode cX1_bearsRow 0 = .ok (.aload_n 0, 1) := by decide +kernel
theorem dX1_bearsRow_1 : decode cX1_bearsRow 1 = .ok (.getfield 9, 3) := by decide +kernel
theorem dX1_bearsRow_4 : decode cX1_bearsRow 4 = .ok (.ifCond .lt 15, 3) := by decide +kernel
theorem dX1_bearsRow_7 : decode cX1_bearsRow 7 = .ok (.aload_n 0, 1) := by decide +kernel
theorem dX1_bearsRow_8 : decode cX1_bearsRow 8 = .ok (.getfield 9, 3) := by decide +kernel
theorem dX1_bearsRow_11 : decode cX1_bearsRow 11 = .ok (.iconst 5, 1) := by decide +kernel
theorem dX1_bearsRow_12 : decode cX1_bearsRow 12 = .ok (.if_icmp .ge 7, 3) := by decide +kernel
theorem dX1_bearsRow_15 : decode cX1_bearsRow 15 = .ok (.iconst 1, 1) := by decide +kernel
theorem dX1_bearsRow_16 : decode cX1_bearsRow 16 = .ok (.goto 4, 3) := by decide +kernel
theorem dX1_bearsRow_19 : decode cX1_bearsRow 19 = .ok (.iconst 0, 1) := by decide +kernel
theorem dX1_bearsRow_20 : decode cX1_bearsRow 20 = .ok (.ireturn, 1) := by decide +kernel
theorem dX1_bearsPlayer_0 : decode cX1_bearsPlayer 0 = .ok (.aload_n 0, 1) := by decide +kernel
theorem dX1_bearsPlayer_1 : decode cX1_bearsPlayer 1 = .ok (.getfield 9, 3) := by decide +kernel
theorem dX1_bearsPlayer_4 : decode cX1_bearsPlayer 4 = .ok (.bipush 10, 2) := by decide +kernel
theorem dX1_bearsPlayer_6 : decode cX1_bearsPlayer 6 = .ok (.if_icmp .lt 7, 3) := by decide +kernel
theorem dX1_bearsPlayer_9 : decode cX1_bearsPlayer 9 = .ok (.iconst 1, 1) := by decide +kernel
theorem dX1_bearsPlayer_10 : decode cX1_bearsPlayer 10 = .ok (.goto 4, 3) := by decide +kernel
theorem dX1_bearsPlayer_13 : decode cX1_bearsPlayer 13 = .ok (.iconst 0, 1) := by decide +kernel
theorem dX1_bearsPlayer_14 : decode cX1_bearsPlayer 14 = .ok (.ireturn, 1) := by decide +kernel
theorem dX1_empty_0 : decode cX1_empty 0 = .ok (.aload_n 0, 1) := by decide +kernel
theorem dX1_empty_1 : decode cX1_empty 1 = .ok (.iconst (-1), 1) := by decide +kernel
theorem dX1_empty_2 : decode cX1_empty 2 = .ok (.putfield 9, 3) := by decide +kernel
theorem dX1_empty_5 : decode cX1_empty 5 = .ok (.aload_n 0, 1) := by decide +kernel
theorem dX1_empty_6 : decode cX1_empty 6 = .ok (.iconst 0, 1) := by decide +kernel
theorem dX1_empty_7 : decode cX1_empty 7 = .ok (.putfield 15, 3) := by decide +kernel
theorem dX1_empty_10 : decode cX1_empty 10 = .ok (.return_, 1) := by decide +kernel
theorem dX1_bear_0 : decode cX1_bear 0 = .ok (.aload_n 0, 1) := by decide +kernel
theorem dX1_bear_1 : decode cX1_bear 1 = .ok (.bipush 10, 2) := by decide +kernel
theorem dX1_bear_3 : decode cX1_bear 3 = .ok (.iload_n 1, 1) := by decide +kernel
theorem dX1_bear_4 : decode cX1_bear 4 = .ok (.iadd, 1) := by decide +kernel
theorem dX1_bear_5 : decode cX1_bear 5 = .ok (.putfield 9, 3) := by decide +kernel
theorem dX1_bear_8 : decode cX1_bear 8 = .ok (.aload_n 0, 1) := by decide +kernel
theorem dX1_bear_9 : decode cX1_bear 9 = .ok (.iconst 0, 1) := by decide +kernel
theorem dX1_bear_10 : decode cX1_bear 10 = .ok (.putfield 15, 3) := by decide +kernel
theorem dX1_bear_13 : decode cX1_bear 13 = .ok (.return_, 1) := by decide +kernel
theorem dX1_layRow_0 : decode cX1_layRow 0 = .ok (.aload_n 0, 1) := by decide +kernel
theorem dX1_layRow_1 : decode cX1_layRow 1 = .ok (.iload_n 1, 1) := by decide +kernel
theorem dX1_layRow_2 : decode cX1_layRow 2 = .ok (.putfield 9, 3) := by decide +kernel
theorem dX1_layRow_5 : decode cX1_layRow 5 = .ok (.aload_n 0, 1) := by decide +kernel
theorem dX1_layRow_6 : decode cX1_layRow 6 = .ok (.iload_n 2, 1) := by decide +kernel
theorem dX1_layRow_7 : decode cX1_layRow 7 = .ok (.putfield 15, 3) := by decide +kernel
theorem dX1_layRow_10 : decode cX1_layRow 10 = .ok (.iconst 0, 1) := by decide +kernel
theorem dX1_layRow_11 : decode cX1_layRow 11 = .ok (.istore_n 3, 1) := by decide +kernel
theorem dX1_layRow_12 : decode cX1_layRow 12 = .ok (.iload_n 3, 1) := by decide +kernel
theorem dX1_layRow_13 : decode cX1_layRow 13 = .ok (.aload_n 0, 1) := by decide +kernel
theorem dX1_layRow_14 : decode cX1_layRow 14 = .ok (.getfield 18, 3) := by decide +kernel
theorem dX1_layRow_17 : decode cX1_layRow 17 = .ok (.arraylength, 1) := by decide +kernel
theorem dX1_layRow_18 : decode cX1_layRow 18 = .ok (.if_icmp .ge 16, 3) := by decide +kernel
theorem dX1_layRow_21 : decode cX1_layRow 21 = .ok (.aload_n 0, 1) := by decide +kernel
theorem dX1_layRow_22 : decode cX1_layRow 22 = .ok (.getfield 18, 3) := by decide +kernel
theorem dX1_layRow_25 : decode cX1_layRow 25 = .ok (.iload_n 3, 1) := by decide +kernel
theorem dX1_layRow_26 : decode cX1_layRow 26 = .ok (.lconst 0, 1) := by decide +kernel
theorem dX1_layRow_27 : decode cX1_layRow 27 = .ok (.lastore, 1) := by decide +kernel
theorem dX1_layRow_28 : decode cX1_layRow 28 = .ok (.iinc 3 1, 3) := by decide +kernel
theorem dX1_layRow_31 : decode cX1_layRow 31 = .ok (.goto (-19), 3) := by decide +kernel
theorem dX1_layRow_34 : decode cX1_layRow 34 = .ok (.return_, 1) := by decide +kernel
theorem dX1_reaches_0 : decode cX1_reaches 0 = .ok (.iload_n 1, 1) := by decide +kernel
theorem dX1_reaches_1 : decode cX1_reaches 1 = .ok (.ifCond .lt 24, 3) := by decide +kernel
theorem dX1_reaches_4 : decode cX1_reaches 4 = .ok (.iload_n 1, 1) := by decide +kernel
theorem dX1_reaches_5 : decode cX1_reaches 5 = .ok (.aload_n 0, 1) := by decide +kernel
theorem dX1_reaches_6 : decode cX1_reaches 6 = .ok (.getfield 15, 3) := by decide +kernel
theorem dX1_reaches_9 : decode cX1_reaches 9 = .ok (.if_icmp .ge 16, 3) := by decide +kernel
theorem dX1_reaches_12 : decode cX1_reaches 12 = .ok (.iload_n 1, 1) := by decide +kernel
theorem dX1_reaches_13 : decode cX1_reaches 13 = .ok (.aload_n 0, 1) := by decide +kernel
theorem dX1_reaches_14 : decode cX1_reaches 14 = .ok (.getfield 18, 3) := by decide +kernel
theorem dX1_reaches_17 : decode cX1_reaches 17 = .ok (.arraylength, 1) := by decide +kernel
theorem dX1_reaches_18 : decode cX1_reaches 18 = .ok (.if_icmp .ge 7, 3) := by decide +kernel
theorem dX1_reaches_21 : decode cX1_reaches 21 = .ok (.iconst 1, 1) := by decide +kernel
theorem dX1_reaches_22 : decode cX1_reaches 22 = .ok (.goto 4, 3) := by decide +kernel
theorem dX1_reaches_25 : decode cX1_reaches 25 = .ok (.iconst 0, 1) := by decide +kernel
theorem dX1_reaches_26 : decode cX1_reaches 26 = .ok (.ireturn, 1) := by decide +kernel
theorem dX1_reachesSpan_0 : decode cX1_reachesSpan 0 = .ok (.iload_n 1, 1) := by decide +kernel
theorem dX1_reachesSpan_1 : decode cX1_reachesSpan 1 = .ok (.ifCond .lt 41, 3) := by decide +kernel
theorem dX1_reachesSpan_4 : decode cX1_reachesSpan 4 = .ok (.iload_n 2, 1) := by decide +kernel
theorem dX1_reachesSpan_5 : decode cX1_reachesSpan 5 = .ok (.ifCond .lt 37, 3) := by decide +kernel
theorem dX1_reachesSpan_8 : decode cX1_reachesSpan 8 = .ok (.iload_n 2, 1) := by decide +kernel
theorem dX1_reachesSpan_9 : decode cX1_reachesSpan 9 = .ok (.aload_n 0, 1) := by decide +kernel
theorem dX1_reachesSpan_10 : decode cX1_reachesSpan 10 = .ok (.getfield 15, 3) := by decide +kernel
theorem dX1_reachesSpan_13 : decode cX1_reachesSpan 13 = .ok (.if_icmp .gt 29, 3) := by decide +kernel
theorem dX1_reachesSpan_16 : decode cX1_reachesSpan 16 = .ok (.iload_n 1, 1) := by decide +kernel
theorem dX1_reachesSpan_17 : decode cX1_reachesSpan 17 = .ok (.aload_n 0, 1) := by decide +kernel
theorem dX1_reachesSpan_18 : decode cX1_reachesSpan 18 = .ok (.getfield 15, 3) := by decide +kernel
theorem dX1_reachesSpan_21 : decode cX1_reachesSpan 21 = .ok (.iload_n 2, 1) := by decide +kernel
theorem dX1_reachesSpan_22 : decode cX1_reachesSpan 22 = .ok (.isub, 1) := by decide +kernel
theorem dX1_reachesSpan_23 : decode cX1_reachesSpan 23 = .ok (.if_icmp .gt 19, 3) := by decide +kernel
theorem dX1_reachesSpan_26 : decode cX1_reachesSpan 26 = .ok (.aload_n 0, 1) := by decide +kernel
theorem dX1_reachesSpan_27 : decode cX1_reachesSpan 27 = .ok (.getfield 15, 3) := by decide +kernel
theorem dX1_reachesSpan_30 : decode cX1_reachesSpan 30 = .ok (.aload_n 0, 1) := by decide +kernel
theorem dX1_reachesSpan_31 : decode cX1_reachesSpan 31 = .ok (.getfield 18, 3) := by decide +kernel
theorem dX1_reachesSpan_34 : decode cX1_reachesSpan 34 = .ok (.arraylength, 1) := by decide +kernel
theorem dX1_reachesSpan_35 : decode cX1_reachesSpan 35 = .ok (.if_icmp .gt 7, 3) := by decide +kernel
theorem dX1_reachesSpan_38 : decode cX1_reachesSpan 38 = .ok (.iconst 1, 1) := by decide +kernel
theorem dX1_reachesSpan_39 : decode cX1_reachesSpan 39 = .ok (.goto 4, 3) := by decide +kernel
theorem dX1_reachesSpan_42 : decode cX1_reachesSpan 42 = .ok (.iconst 0, 1) := by decide +kernel
theorem dX1_reachesSpan_43 : decode cX1_reachesSpan 43 = .ok (.ireturn, 1) := by decide +kernel
theorem dX1_elementAt_0 : decode cX1_elementAt 0 = .ok (.aload_n 0, 1) := by decide +kernel
theorem dX1_elementAt_1 : decode cX1_elementAt 1 = .ok (.iload_n 1, 1) := by decide +kernel
theorem dX1_elementAt_2 : decode cX1_elementAt 2 = .ok (.invokevirtual 22, 3) := by decide +kernel
theorem dX1_elementAt_5 : decode cX1_elementAt 5 = .ok (.ifCond .eq 12, 3) := by decide +kernel
theorem dX1_elementAt_8 : decode cX1_elementAt 8 = .ok (.aload_n 0, 1) := by decide +kernel
theorem dX1_elementAt_9 : decode cX1_elementAt 9 = .ok (.getfield 18, 3) := by decide +kernel
theorem dX1_elementAt_12 : decode cX1_elementAt 12 = .ok (.iload_n 1, 1) := by decide +kernel
theorem dX1_elementAt_13 : decode cX1_elementAt 13 = .ok (.laload, 1) := by decide +kernel
theorem dX1_elementAt_14 : decode cX1_elementAt 14 = .ok (.goto 4, 3) := by decide +kernel
theorem dX1_elementAt_17 : decode cX1_elementAt 17 = .ok (.lconst 0, 1) := by decide +kernel
theorem dX1_elementAt_18 : decode cX1_elementAt 18 = .ok (.lreturn, 1) := by decide +kernel
theorem dX1_put_0 : decode cX1_put 0 = .ok (.aload_n 0, 1) := by decide +kernel
theorem dX1_put_1 : decode cX1_put 1 = .ok (.iload_n 1, 1) := by decide +kernel
theorem dX1_put_2 : decode cX1_put 2 = .ok (.invokevirtual 22, 3) := by decide +kernel
theorem dX1_put_5 : decode cX1_put 5 = .ok (.ifCond .eq 14, 3) := by decide +kernel
theorem dX1_put_8 : decode cX1_put 8 = .ok (.aload_n 0, 1) := by decide +kernel
theorem dX1_put_9 : decode cX1_put 9 = .ok (.getfield 18, 3) := by decide +kernel
theorem dX1_put_12 : decode cX1_put 12 = .ok (.iload_n 1, 1) := by decide +kernel
theorem dX1_put_13 : decode cX1_put 13 = .ok (.aload_n 0, 1) := by decide +kernel
theorem dX1_put_14 : decode cX1_put 14 = .ok (.lload_n 2, 1) := by decide +kernel
theorem dX1_put_15 : decode cX1_put 15 = .ok (.invokevirtual 26, 3) := by decide +kernel
theorem dX1_put_18 : decode cX1_put 18 = .ok (.lastore, 1) := by decide +kernel
theorem dX1_put_19 : decode cX1_put 19 = .ok (.return_, 1) := by decide +kernel
theorem dX1_lowestBits_0 : decode cX1_lowestBits 0 = .ok (.aload_n 0, 1) := by decide +kernel
theorem dX1_lowestBits_1 : decode cX1_lowestBits 1 = .ok (.getfield 9, 3) := by decide +kernel
theorem dX1_lowestBits_4 : decode cX1_lowestBits 4 = .ok (.tableswitch 68 0 4 #[36, 41, 46, 50, 52], 36) := by decide +kernel
theorem dX1_lowestBits_40 : decode cX1_lowestBits 40 = .ok (.lload_n 1, 1) := by decide +kernel
theorem dX1_lowestBits_41 : decode cX1_lowestBits 41 = .ok (.l2i, 1) := by decide +kernel
theorem dX1_lowestBits_42 : decode cX1_lowestBits 42 = .ok (.i2b, 1) := by decide +kernel
theorem dX1_lowestBits_43 : decode cX1_lowestBits 43 = .ok (.i2l, 1) := by decide +kernel
theorem dX1_lowestBits_44 : decode cX1_lowestBits 44 = .ok (.lreturn, 1) := by decide +kernel
theorem dX1_lowestBits_45 : decode cX1_lowestBits 45 = .ok (.lload_n 1, 1) := by decide +kernel
theorem dX1_lowestBits_46 : decode cX1_lowestBits 46 = .ok (.l2i, 1) := by decide +kernel
theorem dX1_lowestBits_47 : decode cX1_lowestBits 47 = .ok (.i2s, 1) := by decide +kernel
theorem dX1_lowestBits_48 : decode cX1_lowestBits 48 = .ok (.i2l, 1) := by decide +kernel
theorem dX1_lowestBits_49 : decode cX1_lowestBits 49 = .ok (.lreturn, 1) := by decide +kernel
theorem dX1_lowestBits_50 : decode cX1_lowestBits 50 = .ok (.lload_n 1, 1) := by decide +kernel
theorem dX1_lowestBits_51 : decode cX1_lowestBits 51 = .ok (.l2i, 1) := by decide +kernel
theorem dX1_lowestBits_52 : decode cX1_lowestBits 52 = .ok (.i2l, 1) := by decide +kernel
theorem dX1_lowestBits_53 : decode cX1_lowestBits 53 = .ok (.lreturn, 1) := by decide +kernel
theorem dX1_lowestBits_54 : decode cX1_lowestBits 54 = .ok (.lload_n 1, 1) := by decide +kernel
theorem dX1_lowestBits_55 : decode cX1_lowestBits 55 = .ok (.lreturn, 1) := by decide +kernel
theorem dX1_lowestBits_56 : decode cX1_lowestBits 56 = .ok (.lload_n 1, 1) := by decide +kernel
theorem dX1_lowestBits_57 : decode cX1_lowestBits 57 = .ok (.lconst 0, 1) := by decide +kernel
theorem dX1_lowestBits_58 : decode cX1_lowestBits 58 = .ok (.lcmp, 1) := by decide +kernel
theorem dX1_lowestBits_59 : decode cX1_lowestBits 59 = .ok (.ifCond .eq 7, 3) := by decide +kernel
theorem dX1_lowestBits_62 : decode cX1_lowestBits 62 = .ok (.iconst 1, 1) := by decide +kernel
theorem dX1_lowestBits_63 : decode cX1_lowestBits 63 = .ok (.goto 4, 3) := by decide +kernel
theorem dX1_lowestBits_66 : decode cX1_lowestBits 66 = .ok (.iconst 0, 1) := by decide +kernel
theorem dX1_lowestBits_67 : decode cX1_lowestBits 67 = .ok (.invokestatic 30, 3) := by decide +kernel
theorem dX1_lowestBits_70 : decode cX1_lowestBits 70 = .ok (.i2l, 1) := by decide +kernel
theorem dX1_lowestBits_71 : decode cX1_lowestBits 71 = .ok (.lreturn, 1) := by decide +kernel
theorem dX1_lowestBits_72 : decode cX1_lowestBits 72 = .ok (.lconst 0, 1) := by decide +kernel
theorem dX1_lowestBits_73 : decode cX1_lowestBits 73 = .ok (.lreturn, 1) := by decide +kernel
