theorem dX0_init_0 : decode cX0_init 0 = .ok (.aload_n 0, 1) := by decide +kernel
theorem dX0_init_1 : decode cX0_init 1 = .ok (.invokespecial 3, 3) := by decide +kernel
theorem dX0_init_4 : decode cX0_init 4 = .ok (.aload_n 0, 1) := by decide +kernel
theorem dX0_init_5 : decode cX0_init 5 = .ok (.sipush 1200, 3) := by decide +kernel
theorem dX0_init_8 : decode cX0_init 8 = .ok (.newarray .int, 2) := by decide +kernel
theorem dX0_init_10 : decode cX0_init 10 = .ok (.putfield 9, 3) := by decide +kernel
theorem dX0_init_13 : decode cX0_init 13 = .ok (.aload_n 0, 1) := by decide +kernel
theorem dX0_init_14 : decode cX0_init 14 = .ok (.iconst 0, 1) := by decide +kernel
theorem dX0_init_15 : decode cX0_init 15 = .ok (.putfield 15, 3) := by decide +kernel
theorem dX0_init_18 : decode cX0_init 18 = .ok (.aload_n 0, 1) := by decide +kernel
theorem dX0_init_19 : decode cX0_init 19 = .ok (.iconst 0, 1) := by decide +kernel
theorem dX0_init_20 : decode cX0_init 20 = .ok (.putfield 19, 3) := by decide +kernel
theorem dX0_init_23 : decode cX0_init 23 = .ok (.return_, 1) := by decide +kernel
theorem dX0_cutTo_0 : decode cX0_cutTo 0 = .ok (.aload_n 0, 1) := by decide +kernel
theorem dX0_cutTo_1 : decode cX0_cutTo 1 = .ok (.iload_n 1, 1) := by decide +kernel
theorem dX0_cutTo_2 : decode cX0_cutTo 2 = .ok (.putfield 15, 3) := by decide +kernel
theorem dX0_cutTo_5 : decode cX0_cutTo 5 = .ok (.aload_n 0, 1) := by decide +kernel
theorem dX0_cutTo_6 : decode cX0_cutTo 6 = .ok (.iload_n 1, 1) := by decide +kernel
theorem dX0_cutTo_7 : decode cX0_cutTo 7 = .ok (.putfield 19, 3) := by decide +kernel
theorem dX0_cutTo_10 : decode cX0_cutTo 10 = .ok (.return_, 1) := by decide +kernel
theorem dX0_add_0 : decode cX0_add 0 = .ok (.aload_n 0, 1) := by decide +kernel
theorem dX0_add_1 : decode cX0_add 1 = .ok (.getfield 15, 3) := by decide +kernel
theorem dX0_add_4 : decode cX0_add 4 = .ok (.ifCond .lt 39, 3) := by decide +kernel
theorem dX0_add_7 : decode cX0_add 7 = .ok (.aload_n 0, 1) := by decide +kernel
theorem dX0_add_8 : decode cX0_add 8 = .ok (.getfield 15, 3) := by decide +kernel
theorem dX0_add_11 : decode cX0_add 11 = .ok (.aload_n 0, 1) := by decide +kernel
theorem dX0_add_12 : decode cX0_add 12 = .ok (.getfield 9, 3) := by decide +kernel
theorem dX0_add_15 : decode cX0_add 15 = .ok (.arraylength, 1) := by decide +kernel
theorem dX0_add_16 : decode cX0_add 16 = .ok (.if_icmp .ge 27, 3) := by decide +kernel
theorem dX0_add_19 : decode cX0_add 19 = .ok (.aload_n 0, 1) := by decide +kernel
theorem dX0_add_20 : decode cX0_add 20 = .ok (.getfield 9, 3) := by decide +kernel
theorem dX0_add_23 : decode cX0_add 23 = .ok (.aload_n 0, 1) := by decide +kernel
theorem dX0_add_24 : decode cX0_add 24 = .ok (.getfield 15, 3) := by decide +kernel
theorem dX0_add_27 : decode cX0_add 27 = .ok (.iload_n 1, 1) := by decide +kernel
theorem dX0_add_28 : decode cX0_add 28 = .ok (.sipush 255, 3) := by decide +kernel
theorem dX0_add_31 : decode cX0_add 31 = .ok (.iand, 1) := by decide +kernel
theorem dX0_add_32 : decode cX0_add 32 = .ok (.iastore, 1) := by decide +kernel
theorem dX0_add_33 : decode cX0_add 33 = .ok (.aload_n 0, 1) := by decide +kernel
theorem dX0_add_34 : decode cX0_add 34 = .ok (.dup, 1) := by decide +kernel
theorem dX0_add_35 : decode cX0_add 35 = .ok (.getfield 15, 3) := by decide +kernel
theorem dX0_add_38 : decode cX0_add 38 = .ok (.iconst 1, 1) := by decide +kernel
theorem dX0_add_39 : decode cX0_add 39 = .ok (.iadd, 1) := by decide +kernel
theorem dX0_add_40 : decode cX0_add 40 = .ok (.putfield 15, 3) := by decide +kernel
theorem dX0_add_43 : decode cX0_add 43 = .ok (.return_, 1) := by decide +kernel
theorem dX0_has_0 : decode cX0_has 0 = .ok (.iload_n 1, 1) := by decide +kernel
theorem dX0_has_1 : decode cX0_has 1 = .ok (.ifCond .lt 24, 3) := by decide +kernel
theorem dX0_has_4 : decode cX0_has 4 = .ok (.iload_n 1, 1) := by decide +kernel
theorem dX0_has_5 : decode cX0_has 5 = .ok (.aload_n 0, 1) := by decide +kernel
theorem dX0_has_6 : decode cX0_has 6 = .ok (.getfield 15, 3) := by decide +kernel
theorem dX0_has_9 : decode cX0_has 9 = .ok (.if_icmp .ge 16, 3) := by decide +kernel
theorem dX0_has_12 : decode cX0_has 12 = .ok (.iload_n 1, 1) := by decide +kernel
theorem dX0_has_13 : decode cX0_has 13 = .ok (.aload_n 0, 1) := by decide +kernel
theorem dX0_has_14 : decode cX0_has 14 = .ok (.getfield 9, 3) := by decide +kernel
theorem dX0_has_17 : decode cX0_has 17 = .ok (.arraylength, 1) := by decide +kernel
theorem dX0_has_18 : decode cX0_has 18 = .ok (.if_icmp .ge 7, 3) := by decide +kernel
theorem dX0_has_21 : decode cX0_has 21 = .ok (.iconst 1, 1) := by decide +kernel
theorem dX0_has_22 : decode cX0_has 22 = .ok (.goto 4, 3) := by decide +kernel
theorem dX0_has_25 : decode cX0_has 25 = .ok (.iconst 0, 1) := by decide +kernel
theorem dX0_has_26 : decode cX0_has 26 = .ok (.ireturn, 1) := by decide +kernel
theorem dX0_octetAt_0 : decode cX0_octetAt 0 = .ok (.aload_n 0, 1) := by decide +kernel
theorem dX0_octetAt_1 : decode cX0_octetAt 1 = .ok (.iload_n 1, 1) := by decide +kernel
theorem dX0_octetAt_2 : decode cX0_octetAt 2 = .ok (.invokevirtual 22, 3) := by decide +kernel
theorem dX0_octetAt_5 : decode cX0_octetAt 5 = .ok (.ifCond .eq 12, 3) := by decide +kernel
theorem dX0_octetAt_8 : decode cX0_octetAt 8 = .ok (.aload_n 0, 1) := by decide +kernel
theorem dX0_octetAt_9 : decode cX0_octetAt 9 = .ok (.getfield 9, 3) := by decide +kernel
theorem dX0_octetAt_12 : decode cX0_octetAt 12 = .ok (.iload_n 1, 1) := by decide +kernel
theorem dX0_octetAt_13 : decode cX0_octetAt 13 = .ok (.iaload, 1) := by decide +kernel
theorem dX0_octetAt_14 : decode cX0_octetAt 14 = .ok (.goto 4, 3) := by decide +kernel
theorem dX0_octetAt_17 : decode cX0_octetAt 17 = .ok (.iconst (-1), 1) := by decide +kernel
theorem dX0_octetAt_18 : decode cX0_octetAt 18 = .ok (.ireturn, 1) := by decide +kernel
theorem dX0_turnRound_0 : decode cX0_turnRound 0 = .ok (.aload_n 0, 1) := by decide +kernel
theorem dX0_turnRound_1 : decode cX0_turnRound 1 = .ok (.iload_n 1, 1) := by decide +kernel
theorem dX0_turnRound_2 : decode cX0_turnRound 2 = .ok (.invokevirtual 22, 3) := by decide +kernel
theorem dX0_turnRound_5 : decode cX0_turnRound 5 = .ok (.ifCond .ne 5, 3) := by decide +kernel
theorem dX0_turnRound_8 : decode cX0_turnRound 8 = .ok (.iconst (-1), 1) := by decide +kernel
theorem dX0_turnRound_9 : decode cX0_turnRound 9 = .ok (.ireturn, 1) := by decide +kernel
theorem dX0_turnRound_10 : decode cX0_turnRound 10 = .ok (.aload_n 0, 1) := by decide +kernel
theorem dX0_turnRound_11 : decode cX0_turnRound 11 = .ok (.getfield 9, 3) := by decide +kernel
theorem dX0_turnRound_14 : decode cX0_turnRound 14 = .ok (.iload_n 1, 1) := by decide +kernel
theorem dX0_turnRound_15 : decode cX0_turnRound 15 = .ok (.aload_n 0, 1) := by decide +kernel
theorem dX0_turnRound_16 : decode cX0_turnRound 16 = .ok (.getfield 9, 3) := by decide +kernel
theorem dX0_turnRound_19 : decode cX0_turnRound 19 = .ok (.iload_n 1, 1) := by decide +kernel
theorem dX0_turnRound_20 : decode cX0_turnRound 20 = .ok (.iaload, 1) := by decide +kernel
theorem dX0_turnRound_21 : decode cX0_turnRound 21 = .ok (.iconst 1, 1) := by decide +kernel
theorem dX0_turnRound_22 : decode cX0_turnRound 22 = .ok (.iload_n 2, 1) := by decide +kernel
theorem dX0_turnRound_23 : decode cX0_turnRound 23 = .ok (.ishl, 1) := by decide +kernel
theorem dX0_turnRound_24 : decode cX0_turnRound 24 = .ok (.ixor, 1) := by decide +kernel
theorem dX0_turnRound_25 : decode cX0_turnRound 25 = .ok (.iastore, 1) := by decide +kernel
theorem dX0_turnRound_26 : decode cX0_turnRound 26 = .ok (.aload_n 0, 1) := by decide +kernel
theorem dX0_turnRound_27 : decode cX0_turnRound 27 = .ok (.getfield 9, 3) := by decide +kernel
theorem dX0_turnRound_30 : decode cX0_turnRound 30 = .ok (.iload_n 1, 1) := by decide +kernel
theorem dX0_turnRound_31 : decode cX0_turnRound 31 = .ok (.iaload, 1) := by decide +kernel
theorem dX0_turnRound_32 : decode cX0_turnRound 32 = .ok (.ireturn, 1) := by decide +kernel
theorem dX0_isWhole_0 : decode cX0_isWhole 0 = .ok (.aload_n 0, 1) := by decide +kernel
theorem dX0_isWhole_1 : decode cX0_isWhole 1 = .ok (.iload_n 1, 1) := by decide +kernel
theorem dX0_isWhole_2 : decode cX0_isWhole 2 = .ok (.invokevirtual 26, 3) := by decide +kernel
theorem dX0_isWhole_5 : decode cX0_isWhole 5 = .ok (.istore_n 2, 1) := by decide +kernel
theorem dX0_isWhole_6 : decode cX0_isWhole 6 = .ok (.aload_n 0, 1) := by decide +kernel
theorem dX0_isWhole_7 : decode cX0_isWhole 7 = .ok (.iload_n 1, 1) := by decide +kernel
theorem dX0_isWhole_8 : decode cX0_isWhole 8 = .ok (.iconst 1, 1) := by decide +kernel
theorem dX0_isWhole_9 : decode cX0_isWhole 9 = .ok (.iadd, 1) := by decide +kernel
theorem dX0_isWhole_10 : decode cX0_isWhole 10 = .ok (.invokevirtual 26, 3) := by decide +kernel
theorem dX0_isWhole_13 : decode cX0_isWhole 13 = .ok (.istore_n 3, 1) := by decide +kernel
theorem dX0_isWhole_14 : decode cX0_isWhole 14 = .ok (.iload_n 2, 1) := by decide +kernel
theorem dX0_isWhole_15 : decode cX0_isWhole 15 = .ok (.iconst 1, 1) := by decide +kernel
theorem dX0_isWhole_16 : decode cX0_isWhole 16 = .ok (.if_icmp .lt 18, 3) := by decide +kernel
theorem dX0_isWhole_19 : decode cX0_isWhole 19 = .ok (.iload_n 2, 1) := by decide +kernel
theorem dX0_isWhole_20 : decode cX0_isWhole 20 = .ok (.iconst 3, 1) := by decide +kernel
theorem dX0_isWhole_21 : decode cX0_isWhole 21 = .ok (.if_icmp .gt 13, 3) := by decide +kernel
theorem dX0_isWhole_24 : decode cX0_isWhole 24 = .ok (.iload_n 3, 1) := by decide +kernel
theorem dX0_isWhole_25 : decode cX0_isWhole 25 = .ok (.ifCond .lt 9, 3) := by decide +kernel
theorem dX0_isWhole_28 : decode cX0_isWhole 28 = .ok (.iload_n 3, 1) := by decide +kernel
theorem dX0_isWhole_29 : decode cX0_isWhole 29 = .ok (.bipush 40, 2) := by decide +kernel
theorem dX0_isWhole_31 : decode cX0_isWhole 31 = .ok (.if_icmp .le 5, 3) := by decide +kernel
theorem dX0_isWhole_34 : decode cX0_isWhole 34 = .ok (.iconst 0, 1) := by decide +kernel
theorem dX0_isWhole_35 : decode cX0_isWhole 35 = .ok (.ireturn, 1) := by decide +kernel
theorem dX0_isWhole_36 : decode cX0_isWhole 36 = .ok (.iload_n 2, 1) := by decide +kernel
theorem dX0_isWhole_37 : decode cX0_isWhole 37 = .ok (.iconst 2, 1) := by decide +kernel
theorem dX0_isWhole_38 : decode cX0_isWhole 38 = .ok (.if_icmp .ne 7, 3) := by decide +kernel
theorem dX0_isWhole_41 : decode cX0_isWhole 41 = .ok (.iload_n 3, 1) := by decide +kernel
theorem dX0_isWhole_42 : decode cX0_isWhole 42 = .ok (.ifCond .ne 13, 3) := by decide +kernel
theorem dX0_isWhole_45 : decode cX0_isWhole 45 = .ok (.iload_n 2, 1) := by decide +kernel
theorem dX0_isWhole_46 : decode cX0_isWhole 46 = .ok (.iconst 3, 1) := by decide +kernel
theorem dX0_isWhole_47 : decode cX0_isWhole 47 = .ok (.if_icmp .ne 10, 3) := by decide +kernel
theorem dX0_isWhole_50 : decode cX0_isWhole 50 = .ok (.iload_n 3, 1) := by decide +kernel
theorem dX0_isWhole_51 : decode cX0_isWhole 51 = .ok (.iconst 2, 1) := by decide +kernel
theorem dX0_isWhole_52 : decode cX0_isWhole 52 = .ok (.if_icmp .eq 5, 3) := by decide +kernel
theorem dX0_isWhole_55 : decode cX0_isWhole 55 = .ok (.iconst 0, 1) := by decide +kernel
theorem dX0_isWhole_56 : decode cX0_isWhole 56 = .ok (.ireturn, 1) := by decide +kernel
theorem dX0_isWhole_57 : decode cX0_isWhole 57 = .ok (.iload_n 1, 1) := by decide +kernel
theorem dX0_isWhole_58 : decode cX0_isWhole 58 = .ok (.iload_n 3, 1) := by decide +kernel
theorem dX0_isWhole_59 : decode cX0_isWhole 59 = .ok (.invokestatic 30, 3) := by decide +kernel
theorem dX0_isWhole_62 : decode cX0_isWhole 62 = .ok (.iadd, 1) := by decide +kernel
theorem dX0_isWhole_63 : decode cX0_isWhole 63 = .ok (.aload_n 0, 1) := by decide +kernel
theorem dX0_isWhole_64 : decode cX0_isWhole 64 = .ok (.getfield 15, 3) := by decide +kernel
theorem dX0_isWhole_67 : decode cX0_isWhole 67 = .ok (.if_icmp .gt 7, 3) := by decide +kernel
theorem dX0_isWhole_70 : decode cX0_isWhole 70 = .ok (.iconst 1, 1) := by decide +kernel
theorem dX0_isWhole_71 : decode cX0_isWhole 71 = .ok (.goto 4, 3) := by decide +kernel
theorem dX0_isWhole_74 : decode cX0_isWhole 74 = .ok (.iconst 0, 1) := by decide +kernel
theorem dX0_isWhole_75 : decode cX0_isWhole 75 = .ok (.ireturn, 1) := by decide +kernel
theorem dX0_sizeAt_0 : decode cX0_sizeAt 0 = .ok (.aload_n 0, 1) := by decide +kernel
theorem dX0_sizeAt_1 : decode cX0_sizeAt 1 = .ok (.iload_n 1, 1) := by decide +kernel
theorem dX0_sizeAt_2 : decode cX0_sizeAt 2 = .ok (.iconst 1, 1) := by decide +kernel
theorem dX0_sizeAt_3 : decode cX0_sizeAt 3 = .ok (.iadd, 1) := by decide +kernel
theorem dX0_sizeAt_4 : decode cX0_sizeAt 4 = .ok (.invokevirtual 26, 3) := by decide +kernel
theorem dX0_sizeAt_7 : decode cX0_sizeAt 7 = .ok (.invokestatic 30, 3) := by decide +kernel
theorem dX0_sizeAt_10 : decode cX0_sizeAt 10 = .ok (.ireturn, 1) := by decide +kernel
theorem dX0_passedOverAt_0 : decode cX0_passedOverAt 0 = .ok (.aload_n 0, 1) := by decide +kernel
theorem dX0_passedOverAt_1 : decode cX0_passedOverAt 1 = .ok (.iload_n 1, 1) := by decide +kernel
theorem dX0_passedOverAt_2 : decode cX0_passedOverAt 2 = .ok (.invokevirtual 26, 3) := by decide +kernel
theorem dX0_passedOverAt_5 : decode cX0_passedOverAt 5 = .ok (.iconst 3, 1) := by decide +kernel
theorem dX0_passedOverAt_6 : decode cX0_passedOverAt 6 = .ok (.if_icmp .eq 5, 3) := by decide +kernel
theorem dX0_passedOverAt_9 : decode cX0_passedOverAt 9 = .ok (.iconst 0, 1) := by decide +kernel
theorem dX0_passedOverAt_10 : decode cX0_passedOverAt 10 = .ok (.ireturn, 1) := by decide +kernel
theorem dX0_passedOverAt_11 : decode cX0_passedOverAt 11 = .ok (.aload_n 0, 1) := by decide +kernel
theorem dX0_passedOverAt_12 : decode cX0_passedOverAt 12 = .ok (.iload_n 1, 1) := by decide +kernel
theorem dX0_passedOverAt_13 : decode cX0_passedOverAt 13 = .ok (.iconst 2, 1) := by decide +kernel
theorem dX0_passedOverAt_14 : decode cX0_passedOverAt 14 = .ok (.iadd, 1) := by decide +kernel
theorem dX0_passedOverAt_15 : decode cX0_passedOverAt 15 = .ok (.invokevirtual 26, 3) := by decide +kernel
theorem dX0_passedOverAt_18 : decode cX0_passedOverAt 18 = .ok (.bipush 8, 2) := by decide +kernel
theorem dX0_passedOverAt_20 : decode cX0_passedOverAt 20 = .ok (.ishl, 1) := by decide +kernel
theorem dX0_passedOverAt_21 : decode cX0_passedOverAt 21 = .ok (.aload_n 0, 1) := by decide +kernel
theorem dX0_passedOverAt_22 : decode cX0_passedOverAt 22 = .ok (.iload_n 1, 1) := by decide +kernel
theorem dX0_passedOverAt_23 : decode cX0_passedOverAt 23 = .ok (.iconst 2, 1) := by decide +kernel
theorem dX0_passedOverAt_24 : decode cX0_passedOverAt 24 = .ok (.iadd, 1) := by decide +kernel
theorem dX0_passedOverAt_25 : decode cX0_passedOverAt 25 = .ok (.iconst 1, 1) := by decide +kernel
theorem dX0_passedOverAt_26 : decode cX0_passedOverAt 26 = .ok (.iadd, 1) := by decide +kernel
theorem dX0_passedOverAt_27 : decode cX0_passedOverAt 27 = .ok (.invokevirtual 26, 3) := by decide +kernel
theorem dX0_passedOverAt_30 : decode cX0_passedOverAt 30 = .ok (.ior, 1) := by decide +kernel
theorem dX0_passedOverAt_31 : decode cX0_passedOverAt 31 = .ok (.ireturn, 1) := by decide +kernel
theorem dX0_wholeEnd_0 : decode cX0_wholeEnd 0 = .ok (.iconst 0, 1) := by decide +kernel
theorem dX0_wholeEnd_1 : decode cX0_wholeEnd 1 = .ok (.istore_n 1, 1) := by decide +kernel
theorem dX0_wholeEnd_2 : decode cX0_wholeEnd 2 = .ok (.iconst 0, 1) := by decide +kernel
theorem dX0_wholeEnd_3 : decode cX0_wholeEnd 3 = .ok (.istore_n 2, 1) := by decide +kernel
theorem dX0_wholeEnd_4 : decode cX0_wholeEnd 4 = .ok (.iload_n 2, 1) := by decide +kernel
theorem dX0_wholeEnd_5 : decode cX0_wholeEnd 5 = .ok (.bipush 120, 2) := by decide +kernel
theorem dX0_wholeEnd_7 : decode cX0_wholeEnd 7 = .ok (.if_icmp .ge 25, 3) := by decide +kernel
theorem dX0_wholeEnd_10 : decode cX0_wholeEnd 10 = .ok (.aload_n 0, 1) := by decide +kernel
theorem dX0_wholeEnd_11 : decode cX0_wholeEnd 11 = .ok (.iload_n 1, 1) := by decide +kernel
theorem dX0_wholeEnd_12 : decode cX0_wholeEnd 12 = .ok (.invokevirtual 33, 3) := by decide +kernel
theorem dX0_wholeEnd_15 : decode cX0_wholeEnd 15 = .ok (.ifCond .eq 17, 3) := by decide +kernel
theorem dX0_wholeEnd_18 : decode cX0_wholeEnd 18 = .ok (.iload_n 1, 1) := by decide +kernel
theorem dX0_wholeEnd_19 : decode cX0_wholeEnd 19 = .ok (.aload_n 0, 1) := by decide +kernel
theorem dX0_wholeEnd_20 : decode cX0_wholeEnd 20 = .ok (.iload_n 1, 1) := by decide +kernel
theorem dX0_wholeEnd_21 : decode cX0_wholeEnd 21 = .ok (.invokevirtual 36, 3) := by decide +kernel
theorem dX0_wholeEnd_24 : decode cX0_wholeEnd 24 = .ok (.iadd, 1) := by decide +kernel
theorem dX0_wholeEnd_25 : decode cX0_wholeEnd 25 = .ok (.istore_n 1, 1) := by decide +kernel
theorem dX0_wholeEnd_26 : decode cX0_wholeEnd 26 = .ok (.iinc 2 1, 3) := by decide +kernel
theorem dX0_wholeEnd_29 : decode cX0_wholeEnd 29 = .ok (.goto (-25), 3) := by decide +kernel
theorem dX0_wholeEnd_32 : decode cX0_wholeEnd 32 = .ok (.iload_n 1, 1) := by decide +kernel
theorem dX0_wholeEnd_33 : decode cX0_wholeEnd 33 = .ok (.ireturn, 1) := by decide +kernel
theorem dX0_nextIndex_0 : decode cX0_nextIndex 0 = .ok (.iconst 0, 1) := by decide +kernel
theorem dX0_nextIndex_1 : decode cX0_nextIndex 1 = .ok (.istore_n 1, 1) := by decide +kernel
theorem dX0_nextIndex_2 : decode cX0_nextIndex 2 = .ok (.iconst 0, 1) := by decide +kernel
theorem dX0_nextIndex_3 : decode cX0_nextIndex 3 = .ok (.istore_n 2, 1) := by decide +kernel
theorem dX0_nextIndex_4 : decode cX0_nextIndex 4 = .ok (.iconst 0, 1) := by decide +kernel
theorem dX0_nextIndex_5 : decode cX0_nextIndex 5 = .ok (.istore_n 3, 1) := by decide +kernel
theorem dX0_nextIndex_6 : decode cX0_nextIndex 6 = .ok (.iload_n 3, 1) := by decide +kernel
theorem dX0_nextIndex_7 : decode cX0_nextIndex 7 = .ok (.bipush 120, 2) := by decide +kernel
theorem dX0_nextIndex_9 : decode cX0_nextIndex 9 = .ok (.if_icmp .ge 35, 3) := by decide +kernel
theorem dX0_nextIndex_12 : decode cX0_nextIndex 12 = .ok (.aload_n 0, 1) := by decide +kernel
theorem dX0_nextIndex_13 : decode cX0_nextIndex 13 = .ok (.iload_n 2, 1) := by decide +kernel
theorem dX0_nextIndex_14 : decode cX0_nextIndex 14 = .ok (.invokevirtual 33, 3) := by decide +kernel
theorem dX0_nextIndex_17 : decode cX0_nextIndex 17 = .ok (.ifCond .eq 27, 3) := by decide +kernel
theorem dX0_nextIndex_20 : decode cX0_nextIndex 20 = .ok (.iload_n 1, 1) := by decide +kernel
theorem dX0_nextIndex_21 : decode cX0_nextIndex 21 = .ok (.aload_n 0, 1) := by decide +kernel
theorem dX0_nextIndex_22 : decode cX0_nextIndex 22 = .ok (.iload_n 2, 1) := by decide +kernel
theorem dX0_nextIndex_23 : decode cX0_nextIndex 23 = .ok (.invokevirtual 39, 3) := by decide +kernel
theorem dX0_nextIndex_26 : decode cX0_nextIndex 26 = .ok (.iconst 1, 1) := by decide +kernel
theorem dX0_nextIndex_27 : decode cX0_nextIndex 27 = .ok (.iadd, 1) := by decide +kernel
theorem dX0_nextIndex_28 : decode cX0_nextIndex 28 = .ok (.iadd, 1) := by decide +kernel
theorem dX0_nextIndex_29 : decode cX0_nextIndex 29 = .ok (.istore_n 1, 1) := by decide +kernel
theorem dX0_nextIndex_30 : decode cX0_nextIndex 30 = .ok (.iload_n 2, 1) := by decide +kernel
theorem dX0_nextIndex_31 : decode cX0_nextIndex 31 = .ok (.aload_n 0, 1) := by decide +kernel
theorem dX0_nextIndex_32 : decode cX0_nextIndex 32 = .ok (.iload_n 2, 1) := by decide +kernel
theorem dX0_nextIndex_33 : decode cX0_nextIndex 33 = .ok (.invokevirtual 36, 3) := by decide +kernel
theorem dX0_nextIndex_36 : decode cX0_nextIndex 36 = .ok (.iadd, 1) := by decide +kernel
theorem dX0_nextIndex_37 : decode cX0_nextIndex 37 = .ok (.istore_n 2, 1) := by decide +kernel
theorem dX0_nextIndex_38 : decode cX0_nextIndex 38 = .ok (.iinc 3 1, 3) := by decide +kernel
theorem dX0_nextIndex_41 : decode cX0_nextIndex 41 = .ok (.goto (-35), 3) := by decide +kernel
theorem dX0_nextIndex_44 : decode cX0_nextIndex 44 = .ok (.iload_n 1, 1) := by decide +kernel
theorem dX0_nextIndex_45 : decode cX0_nextIndex 45 = .ok (.ireturn, 1) := by decide +kernel
theorem dX0_tagBefore_0 : decode cX0_tagBefore 0 = .ok (.iconst 0, 1) := by decide +kernel
theorem dX0_tagBefore_1 : decode cX0_tagBefore 1 = .ok (.istore_n 3, 1) := by decide +kernel
theorem dX0_tagBefore_2 : decode cX0_tagBefore 2 = .ok (.iload_n 3, 1) := by decide +kernel
theorem dX0_tagBefore_3 : decode cX0_tagBefore 3 = .ok (.bipush 8, 2) := by decide +kernel
theorem dX0_tagBefore_5 : decode cX0_tagBefore 5 = .ok (.if_icmp .ge 32, 3) := by decide +kernel
theorem dX0_tagBefore_8 : decode cX0_tagBefore 8 = .ok (.iload_n 3, 1) := by decide +kernel
theorem dX0_tagBefore_9 : decode cX0_tagBefore 9 = .ok (.aload_n 2, 1) := by decide +kernel
theorem dX0_tagBefore_10 : decode cX0_tagBefore 10 = .ok (.arraylength, 1) := by decide +kernel
theorem dX0_tagBefore_11 : decode cX0_tagBefore 11 = .ok (.if_icmp .ge 26, 3) := by decide +kernel
theorem dX0_tagBefore_14 : decode cX0_tagBefore 14 = .ok (.aload_n 2, 1) := by decide +kernel
theorem dX0_tagBefore_15 : decode cX0_tagBefore 15 = .ok (.iload_n 3, 1) := by decide +kernel
theorem dX0_tagBefore_16 : decode cX0_tagBefore 16 = .ok (.iconst 0, 1) := by decide +kernel
theorem dX0_tagBefore_17 : decode cX0_tagBefore 17 = .ok (.aload_n 0, 1) := by decide +kernel
theorem dX0_tagBefore_18 : decode cX0_tagBefore 18 = .ok (.iload_n 1, 1) := by decide +kernel
theorem dX0_tagBefore_19 : decode cX0_tagBefore 19 = .ok (.bipush 8, 2) := by decide +kernel
theorem dX0_tagBefore_21 : decode cX0_tagBefore 21 = .ok (.isub, 1) := by decide +kernel
theorem dX0_tagBefore_22 : decode cX0_tagBefore 22 = .ok (.iload_n 3, 1) := by decide +kernel
theorem dX0_tagBefore_23 : decode cX0_tagBefore 23 = .ok (.iadd, 1) := by decide +kernel
theorem dX0_tagBefore_24 : decode cX0_tagBefore 24 = .ok (.invokevirtual 26, 3) := by decide +kernel
theorem dX0_tagBefore_27 : decode cX0_tagBefore 27 = .ok (.invokestatic 42, 3) := by decide +kernel
theorem dX0_tagBefore_30 : decode cX0_tagBefore 30 = .ok (.iastore, 1) := by decide +kernel
theorem dX0_tagBefore_31 : decode cX0_tagBefore 31 = .ok (.iinc 3 1, 3) := by decide +kernel
theorem dX0_tagBefore_34 : decode cX0_tagBefore 34 = .ok (.goto (-32), 3) := by decide +kernel
theorem dX0_tagBefore_37 : decode cX0_tagBefore 37 = .ok (.return_, 1) := by decide +kernel
theorem dX1_init_0 : decode cX1_init 0 = .ok (.aload_n 0, 1) := by decide +kernel
theorem dX1_init_1 : decode cX1_init 1 = .ok (.invokespecial 3, 3) := by decide +kernel
theorem dX1_init_4 : decode cX1_init 4 = .ok (.aload_n 0, 1) := by decide +kernel
theorem dX1_init_5 : decode cX1_init 5 = .ok (.sipush 128, 3) := by decide +kernel
theorem dX1_init_8 : decode cX1_init 8 = .ok (.newarray .int, 2) := by decide +kernel
theorem dX1_init_10 : decode cX1_init 10 = .ok (.putfield 9, 3) := by decide +kernel
theorem dX1_init_13 : decode cX1_init 13 = .ok (.aload_n 0, 1) := by decide +kernel
theorem dX1_init_14 : decode cX1_init 14 = .ok (.bipush 64, 2) := by decide +kernel
theorem dX1_init_16 : decode cX1_init 16 = .ok (.newarray .int, 2) := by decide +kernel
theorem dX1_init_18 : decode cX1_init 18 = .ok (.putfield 15, 3) := by decide +kernel
theorem dX1_init_21 : decode cX1_init 21 = .ok (.aload_n 0, 1) := by decide +kernel
theorem dX1_init_22 : decode cX1_init 22 = .ok (.bipush 8, 2) := by decide +kernel
theorem dX1_init_24 : decode cX1_init 24 = .ok (.newarray .int, 2) := by decide +kernel
theorem dX1_init_26 : decode cX1_init 26 = .ok (.putfield 18, 3) := by decide +kernel
theorem dX1_init_29 : decode cX1_init 29 = .ok (.aload_n 0, 1) := by decide +kernel
theorem dX1_init_30 : decode cX1_init 30 = .ok (.iconst 0, 1) := by decide +kernel
theorem dX1_init_31 : decode cX1_init 31 = .ok (.putfield 21, 3) := by decide +kernel
theorem dX1_init_34 : decode cX1_init 34 = .ok (.return_, 1) := by decide +kernel
theorem dX1_clear_0 : decode cX1_clear 0 = .ok (.aload_n 0, 1) := by decide +kernel
theorem dX1_clear_1 : decode cX1_clear 1 = .ok (.iconst 0, 1) := by decide +kernel
theorem dX1_clear_2 : decode cX1_clear 2 = .ok (.putfield 21, 3) := by decide +kernel
theorem dX1_clear_5 : decode cX1_clear 5 = .ok (.return_, 1) := by decide +kernel
theorem dX1_put_0 : decode cX1_put 0 = .ok (.aload_n 0, 1) := by decide +kernel
theorem dX1_put_1 : decode cX1_put 1 = .ok (.getfield 21, 3) := by decide +kernel
theorem dX1_put_4 : decode cX1_put 4 = .ok (.ifCond .lt 39, 3) := by decide +kernel
theorem dX1_put_7 : decode cX1_put 7 = .ok (.aload_n 0, 1) := by decide +kernel
theorem dX1_put_8 : decode cX1_put 8 = .ok (.getfield 21, 3) := by decide +kernel
theorem dX1_put_11 : decode cX1_put 11 = .ok (.aload_n 0, 1) := by decide +kernel
theorem dX1_put_12 : decode cX1_put 12 = .ok (.getfield 9, 3) := by decide +kernel
theorem dX1_put_15 : decode cX1_put 15 = .ok (.arraylength, 1) := by decide +kernel
theorem dX1_put_16 : decode cX1_put 16 = .ok (.if_icmp .ge 27, 3) := by decide +kernel
theorem dX1_put_19 : decode cX1_put 19 = .ok (.aload_n 0, 1) := by decide +kernel
theorem dX1_put_20 : decode cX1_put 20 = .ok (.getfield 9, 3) := by decide +kernel
theorem dX1_put_23 : decode cX1_put 23 = .ok (.aload_n 0, 1) := by decide +kernel
theorem dX1_put_24 : decode cX1_put 24 = .ok (.getfield 21, 3) := by decide +kernel
theorem dX1_put_27 : decode cX1_put 27 = .ok (.iload_n 1, 1) := by decide +kernel
theorem dX1_put_28 : decode cX1_put 28 = .ok (.sipush 255, 3) := by decide +kernel
theorem dX1_put_31 : decode cX1_put 31 = .ok (.iand, 1) := by decide +kernel
theorem dX1_put_32 : decode cX1_put 32 = .ok (.iastore, 1) := by decide +kernel
theorem dX1_put_33 : decode cX1_put 33 = .ok (.aload_n 0, 1) := by decide +kernel
theorem dX1_put_34 : decode cX1_put 34 = .ok (.dup, 1) := by decide +kernel
theorem dX1_put_35 : decode cX1_put 35 = .ok (.getfield 21, 3) := by decide +kernel
theorem dX1_put_38 : decode cX1_put 38 = .ok (.iconst 1, 1) := by decide +kernel
theorem dX1_put_39 : decode cX1_put 39 = .ok (.iadd, 1) := by decide +kernel
theorem dX1_put_40 : decode cX1_put 40 = .ok (.putfield 21, 3) := by decide +kernel
theorem dX1_put_43 : decode cX1_put 43 = .ok (.return_, 1) := by decide +kernel
theorem dX1_hashOctet_0 : decode cX1_hashOctet 0 = .ok (.iload_n 1, 1) := by decide +kernel
theorem dX1_hashOctet_1 : decode cX1_hashOctet 1 = .ok (.ifCond .lt 9, 3) := by decide +kernel
theorem dX1_hashOctet_4 : decode cX1_hashOctet 4 = .ok (.iload_n 1, 1) := by decide +kernel
theorem dX1_hashOctet_5 : decode cX1_hashOctet 5 = .ok (.bipush 32, 2) := by decide +kernel
theorem dX1_hashOctet_7 : decode cX1_hashOctet 7 = .ok (.if_icmp .lt 5, 3) := by decide +kernel
theorem dX1_hashOctet_10 : decode cX1_hashOctet 10 = .ok (.iconst 0, 1) := by decide +kernel
theorem dX1_hashOctet_11 : decode cX1_hashOctet 11 = .ok (.ireturn, 1) := by decide +kernel
theorem dX1_hashOctet_12 : decode cX1_hashOctet 12 = .ok (.aload_n 0, 1) := by decide +kernel
theorem dX1_hashOctet_13 : decode cX1_hashOctet 13 = .ok (.getfield 18, 3) := by decide +kernel
theorem dX1_hashOctet_16 : decode cX1_hashOctet 16 = .ok (.iload_n 1, 1) := by decide +kernel
theorem dX1_hashOctet_17 : decode cX1_hashOctet 17 = .ok (.iconst 2, 1) := by decide +kernel
theorem dX1_hashOctet_18 : decode cX1_hashOctet 18 = .ok (.ishr, 1) := by decide +kernel
theorem dX1_hashOctet_19 : decode cX1_hashOctet 19 = .ok (.iaload, 1) := by decide +kernel
theorem dX1_hashOctet_20 : decode cX1_hashOctet 20 = .ok (.bipush 24, 2) := by decide +kernel
theorem dX1_hashOctet_22 : decode cX1_hashOctet 22 = .ok (.bipush 8, 2) := by decide +kernel
theorem dX1_hashOctet_24 : decode cX1_hashOctet 24 = .ok (.iload_n 1, 1) := by decide +kernel
theorem dX1_hashOctet_25 : decode cX1_hashOctet 25 = .ok (.iconst 3, 1) := by decide +kernel
theorem dX1_hashOctet_26 : decode cX1_hashOctet 26 = .ok (.iand, 1) := by decide +kernel
theorem dX1_hashOctet_27 : decode cX1_hashOctet 27 = .ok (.imul, 1) := by decide +kernel
theorem dX1_hashOctet_28 : decode cX1_hashOctet 28 = .ok (.isub, 1) := by decide +kernel
theorem dX1_hashOctet_29 : decode cX1_hashOctet 29 = .ok (.iushr, 1) := by decide +kernel
theorem dX1_hashOctet_30 : decode cX1_hashOctet 30 = .ok (.sipush 255, 3) := by decide +kernel
theorem dX1_hashOctet_33 : decode cX1_hashOctet 33 = .ok (.iand, 1) := by decide +kernel
theorem dX1_hashOctet_34 : decode cX1_hashOctet 34 = .ok (.ireturn, 1) := by decide +kernel
theorem dX1_makeTag_0 : decode cX1_makeTag 0 = .ok (.aload_n 0, 1) := by decide +kernel
theorem dX1_makeTag_1 : decode cX1_makeTag 1 = .ok (.aload_n 1, 1) := by decide +kernel
theorem dX1_makeTag_2 : decode cX1_makeTag 2 = .ok (.bipush 54, 2) := by decide +kernel
theorem dX1_makeTag_4 : decode cX1_makeTag 4 = .ok (.invokevirtual 25, 3) := by decide +kernel
theorem dX1_makeTag_7 : decode cX1_makeTag 7 = .ok (.bipush 24, 2) := by decide +kernel
theorem dX1_makeTag_9 : decode cX1_makeTag 9 = .ok (.istore 5, 2) := by decide +kernel
theorem dX1_makeTag_11 : decode cX1_makeTag 11 = .ok (.iload 5, 2) := by decide +kernel
theorem dX1_makeTag_13 : decode cX1_makeTag 13 = .ok (.ifCond .lt 20, 3) := by decide +kernel
theorem dX1_makeTag_16 : decode cX1_makeTag 16 = .ok (.aload_n 0, 1) := by decide +kernel
theorem dX1_makeTag_17 : decode cX1_makeTag 17 = .ok (.aload_n 1, 1) := by decide +kernel
theorem dX1_makeTag_18 : decode cX1_makeTag 18 = .ok (.getfield 29, 3) := by decide +kernel
theorem dX1_makeTag_21 : decode cX1_makeTag 21 = .ok (.iload 5, 2) := by decide +kernel
theorem dX1_makeTag_23 : decode cX1_makeTag 23 = .ok (.iushr, 1) := by decide +kernel
theorem dX1_makeTag_24 : decode cX1_makeTag 24 = .ok (.invokevirtual 34, 3) := by decide +kernel
theorem dX1_makeTag_27 : decode cX1_makeTag 27 = .ok (.iinc 5 (-8), 3) := by decide +kernel
theorem dX1_makeTag_30 : decode cX1_makeTag 30 = .ok (.goto (-19), 3) := by decide +kernel
theorem dX1_makeTag_33 : decode cX1_makeTag 33 = .ok (.aload_n 2, 1) := by decide +kernel
theorem dX1_makeTag_34 : decode cX1_makeTag 34 = .ok (.iload_n 3, 1) := by decide +kernel
theorem dX1_makeTag_35 : decode cX1_makeTag 35 = .ok (.iconst 1, 1) := by decide +kernel
theorem dX1_makeTag_36 : decode cX1_makeTag 36 = .ok (.iadd, 1) := by decide +kernel
theorem dX1_makeTag_37 : decode cX1_makeTag 37 = .ok (.invokevirtual 38, 3) := by decide +kernel
theorem dX1_makeTag_40 : decode cX1_makeTag 40 = .ok (.istore 5, 2) := by decide +kernel
theorem dX1_makeTag_42 : decode cX1_makeTag 42 = .ok (.iconst 0, 1) := by decide +kernel
theorem dX1_makeTag_43 : decode cX1_makeTag 43 = .ok (.istore 6, 2) := by decide +kernel
theorem dX1_makeTag_45 : decode cX1_makeTag 45 = .ok (.iload 6, 2) := by decide +kernel
theorem dX1_makeTag_47 : decode cX1_makeTag 47 = .ok (.iconst 2, 1) := by decide +kernel
theorem dX1_makeTag_48 : decode cX1_makeTag 48 = .ok (.iload 5, 2) := by decide +kernel
theorem dX1_makeTag_50 : decode cX1_makeTag 50 = .ok (.iadd, 1) := by decide +kernel
theorem dX1_makeTag_51 : decode cX1_makeTag 51 = .ok (.if_icmp .ge 21, 3) := by decide +kernel
theorem dX1_makeTag_54 : decode cX1_makeTag 54 = .ok (.aload_n 0, 1) := by decide +kernel
theorem dX1_makeTag_55 : decode cX1_makeTag 55 = .ok (.aload_n 2, 1) := by decide +kernel
theorem dX1_makeTag_56 : decode cX1_makeTag 56 = .ok (.iload_n 3, 1) := by decide +kernel
theorem dX1_makeTag_57 : decode cX1_makeTag 57 = .ok (.iload 6, 2) := by decide +kernel
theorem dX1_makeTag_59 : decode cX1_makeTag 59 = .ok (.iadd, 1) := by decide +kernel
theorem dX1_makeTag_60 : decode cX1_makeTag 60 = .ok (.invokevirtual 38, 3) := by decide +kernel
theorem dX1_makeTag_63 : decode cX1_makeTag 63 = .ok (.invokevirtual 34, 3) := by decide +kernel
theorem dX1_makeTag_66 : decode cX1_makeTag 66 = .ok (.iinc 6 1, 3) := by decide +kernel
theorem dX1_makeTag_69 : decode cX1_makeTag 69 = .ok (.goto (-24), 3) := by decide +kernel
theorem dX1_makeTag_72 : decode cX1_makeTag 72 = .ok (.iconst 0, 1) := by decide +kernel
theorem dX1_makeTag_73 : decode cX1_makeTag 73 = .ok (.istore 6, 2) := by decide +kernel
theorem dX1_makeTag_75 : decode cX1_makeTag 75 = .ok (.iload 6, 2) := by decide +kernel
theorem dX1_makeTag_77 : decode cX1_makeTag 77 = .ok (.bipush 8, 2) := by decide +kernel
theorem dX1_makeTag_79 : decode cX1_makeTag 79 = .ok (.if_icmp .ge 26, 3) := by decide +kernel
theorem dX1_makeTag_82 : decode cX1_makeTag 82 = .ok (.iload 6, 2) := by decide +kernel
theorem dX1_makeTag_84 : decode cX1_makeTag 84 = .ok (.aload 4, 2) := by decide +kernel
theorem dX1_makeTag_86 : decode cX1_makeTag 86 = .ok (.arraylength, 1) := by decide +kernel
theorem dX1_makeTag_87 : decode cX1_makeTag 87 = .ok (.if_icmp .ge 18, 3) := by decide +kernel
theorem dX1_makeTag_90 : decode cX1_makeTag 90 = .ok (.aload_n 0, 1) := by decide +kernel
theorem dX1_makeTag_91 : decode cX1_makeTag 91 = .ok (.aload 4, 2) := by decide +kernel
theorem dX1_makeTag_93 : decode cX1_makeTag 93 = .ok (.iload 6, 2) := by decide +kernel
theorem dX1_makeTag_95 : decode cX1_makeTag 95 = .ok (.iaload, 1) := by decide +kernel
theorem dX1_makeTag_96 : decode cX1_makeTag 96 = .ok (.invokevirtual 34, 3) := by decide +kernel
theorem dX1_makeTag_99 : decode cX1_makeTag 99 = .ok (.iinc 6 1, 3) := by decide +kernel
theorem dX1_makeTag_102 : decode cX1_makeTag 102 = .ok (.goto (-27), 3) := by decide +kernel
theorem dX1_makeTag_105 : decode cX1_makeTag 105 = .ok (.aload_n 0, 1) := by decide +kernel
theorem dX1_makeTag_106 : decode cX1_makeTag 106 = .ok (.invokevirtual 44, 3) := by decide +kernel
theorem dX1_makeTag_109 : decode cX1_makeTag 109 = .ok (.aload_n 0, 1) := by decide +kernel
theorem dX1_makeTag_110 : decode cX1_makeTag 110 = .ok (.aload_n 1, 1) := by decide +kernel
theorem dX1_makeTag_111 : decode cX1_makeTag 111 = .ok (.bipush 92, 2) := by decide +kernel
theorem dX1_makeTag_113 : decode cX1_makeTag 113 = .ok (.invokevirtual 25, 3) := by decide +kernel
theorem dX1_makeTag_116 : decode cX1_makeTag 116 = .ok (.iconst 0, 1) := by decide +kernel
theorem dX1_makeTag_117 : decode cX1_makeTag 117 = .ok (.istore 6, 2) := by decide +kernel
theorem dX1_makeTag_119 : decode cX1_makeTag 119 = .ok (.iload 6, 2) := by decide +kernel
theorem dX1_makeTag_121 : decode cX1_makeTag 121 = .ok (.bipush 32, 2) := by decide +kernel
theorem dX1_makeTag_123 : decode cX1_makeTag 123 = .ok (.if_icmp .ge 19, 3) := by decide +kernel
theorem dX1_makeTag_126 : decode cX1_makeTag 126 = .ok (.aload_n 0, 1) := by decide +kernel
theorem dX1_makeTag_127 : decode cX1_makeTag 127 = .ok (.aload_n 0, 1) := by decide +kernel
theorem dX1_makeTag_128 : decode cX1_makeTag 128 = .ok (.iload 6, 2) := by decide +kernel
theorem dX1_makeTag_130 : decode cX1_makeTag 130 = .ok (.invokevirtual 47, 3) := by decide +kernel
theorem dX1_makeTag_133 : decode cX1_makeTag 133 = .ok (.invokevirtual 34, 3) := by decide +kernel
theorem dX1_makeTag_136 : decode cX1_makeTag 136 = .ok (.iinc 6 1, 3) := by decide +kernel
theorem dX1_makeTag_139 : decode cX1_makeTag 139 = .ok (.goto (-20), 3) := by decide +kernel
theorem dX1_makeTag_142 : decode cX1_makeTag 142 = .ok (.aload_n 0, 1) := by decide +kernel
theorem dX1_makeTag_143 : decode cX1_makeTag 143 = .ok (.invokevirtual 44, 3) := by decide +kernel
theorem dX1_makeTag_146 : decode cX1_makeTag 146 = .ok (.return_, 1) := by decide +kernel
theorem dX1_putKey_0 : decode cX1_putKey 0 = .ok (.aload_n 0, 1) := by decide +kernel
theorem dX1_putKey_1 : decode cX1_putKey 1 = .ok (.invokevirtual 50, 3) := by decide +kernel
theorem dX1_putKey_4 : decode cX1_putKey 4 = .ok (.iconst 0, 1) := by decide +kernel
theorem dX1_putKey_5 : decode cX1_putKey 5 = .ok (.istore_n 3, 1) := by decide +kernel
theorem dX1_putKey_6 : decode cX1_putKey 6 = .ok (.iload_n 3, 1) := by decide +kernel
theorem dX1_putKey_7 : decode cX1_putKey 7 = .ok (.bipush 64, 2) := by decide +kernel
theorem dX1_putKey_9 : decode cX1_putKey 9 = .ok (.if_icmp .ge 31, 3) := by decide +kernel
theorem dX1_putKey_12 : decode cX1_putKey 12 = .ok (.aload_n 0, 1) := by decide +kernel
theorem dX1_putKey_13 : decode cX1_putKey 13 = .ok (.iload_n 3, 1) := by decide +kernel
theorem dX1_putKey_14 : decode cX1_putKey 14 = .ok (.bipush 16, 2) := by decide +kernel
theorem dX1_putKey_16 : decode cX1_putKey 16 = .ok (.if_icmp .ge 14, 3) := by decide +kernel
theorem dX1_putKey_19 : decode cX1_putKey 19 = .ok (.aload_n 1, 1) := by decide +kernel
theorem dX1_putKey_20 : decode cX1_putKey 20 = .ok (.getfield 53, 3) := by decide +kernel
theorem dX1_putKey_23 : decode cX1_putKey 23 = .ok (.iload_n 3, 1) := by decide +kernel
theorem dX1_putKey_24 : decode cX1_putKey 24 = .ok (.iaload, 1) := by decide +kernel
theorem dX1_putKey_25 : decode cX1_putKey 25 = .ok (.iload_n 2, 1) := by decide +kernel
theorem dX1_putKey_26 : decode cX1_putKey 26 = .ok (.ixor, 1) := by decide +kernel
theorem dX1_putKey_27 : decode cX1_putKey 27 = .ok (.goto 4, 3) := by decide +kernel
theorem dX1_putKey_30 : decode cX1_putKey 30 = .ok (.iload_n 2, 1) := by decide +kernel
theorem dX1_putKey_31 : decode cX1_putKey 31 = .ok (.invokevirtual 34, 3) := by decide +kernel
theorem dX1_putKey_34 : decode cX1_putKey 34 = .ok (.iinc 3 1, 3) := by decide +kernel
theorem dX1_putKey_37 : decode cX1_putKey 37 = .ok (.goto (-31), 3) := by decide +kernel
theorem dX1_putKey_40 : decode cX1_putKey 40 = .ok (.return_, 1) := by decide +kernel
theorem dX1_finish_0 : decode cX1_finish 0 = .ok (.aload_n 0, 1) := by decide +kernel
theorem dX1_finish_1 : decode cX1_finish 1 = .ok (.getfield 21, 3) := by decide +kernel
theorem dX1_finish_4 : decode cX1_finish 4 = .ok (.bipush 8, 2) := by decide +kernel
theorem dX1_finish_6 : decode cX1_finish 6 = .ok (.imul, 1) := by decide +kernel
theorem dX1_finish_7 : decode cX1_finish 7 = .ok (.istore_n 1, 1) := by decide +kernel
theorem dX1_finish_8 : decode cX1_finish 8 = .ok (.aload_n 0, 1) := by decide +kernel
theorem dX1_finish_9 : decode cX1_finish 9 = .ok (.sipush 128, 3) := by decide +kernel
theorem dX1_finish_12 : decode cX1_finish 12 = .ok (.invokevirtual 34, 3) := by decide +kernel
theorem dX1_finish_15 : decode cX1_finish 15 = .ok (.aload_n 0, 1) := by decide +kernel
theorem dX1_finish_16 : decode cX1_finish 16 = .ok (.getfield 21, 3) := by decide +kernel
theorem dX1_finish_19 : decode cX1_finish 19 = .ok (.bipush 8, 2) := by decide +kernel
theorem dX1_finish_21 : decode cX1_finish 21 = .ok (.iadd, 1) := by decide +kernel
theorem dX1_finish_22 : decode cX1_finish 22 = .ok (.bipush 64, 2) := by decide +kernel
theorem dX1_finish_24 : decode cX1_finish 24 = .ok (.if_icmp .gt 8, 3) := by decide +kernel
theorem dX1_finish_27 : decode cX1_finish 27 = .ok (.bipush 64, 2) := by decide +kernel
theorem dX1_finish_29 : decode cX1_finish 29 = .ok (.goto 6, 3) := by decide +kernel
theorem dX1_finish_32 : decode cX1_finish 32 = .ok (.sipush 128, 3) := by decide +kernel
theorem dX1_finish_35 : decode cX1_finish 35 = .ok (.istore_n 2, 1) := by decide +kernel
theorem dX1_finish_36 : decode cX1_finish 36 = .ok (.aload_n 0, 1) := by decide +kernel
theorem dX1_finish_37 : decode cX1_finish 37 = .ok (.getfield 21, 3) := by decide +kernel
theorem dX1_finish_40 : decode cX1_finish 40 = .ok (.istore_n 3, 1) := by decide +kernel
theorem dX1_finish_41 : decode cX1_finish 41 = .ok (.iload_n 3, 1) := by decide +kernel
theorem dX1_finish_42 : decode cX1_finish 42 = .ok (.iload_n 2, 1) := by decide +kernel
theorem dX1_finish_43 : decode cX1_finish 43 = .ok (.iconst 4, 1) := by decide +kernel
theorem dX1_finish_44 : decode cX1_finish 44 = .ok (.isub, 1) := by decide +kernel
theorem dX1_finish_45 : decode cX1_finish 45 = .ok (.if_icmp .ge 14, 3) := by decide +kernel
theorem dX1_finish_48 : decode cX1_finish 48 = .ok (.aload_n 0, 1) := by decide +kernel
theorem dX1_finish_49 : decode cX1_finish 49 = .ok (.iconst 0, 1) := by decide +kernel
theorem dX1_finish_50 : decode cX1_finish 50 = .ok (.invokevirtual 34, 3) := by decide +kernel
theorem dX1_finish_53 : decode cX1_finish 53 = .ok (.iinc 3 1, 3) := by decide +kernel
theorem dX1_finish_56 : decode cX1_finish 56 = .ok (.goto (-15), 3) := by decide +kernel
theorem dX1_finish_59 : decode cX1_finish 59 = .ok (.bipush 24, 2) := by decide +kernel
theorem dX1_finish_61 : decode cX1_finish 61 = .ok (.istore_n 3, 1) := by decide +kernel
theorem dX1_finish_62 : decode cX1_finish 62 = .ok (.iload_n 3, 1) := by decide +kernel
theorem dX1_finish_63 : decode cX1_finish 63 = .ok (.ifCond .lt 16, 3) := by decide +kernel
theorem dX1_finish_66 : decode cX1_finish 66 = .ok (.aload_n 0, 1) := by decide +kernel
theorem dX1_finish_67 : decode cX1_finish 67 = .ok (.iload_n 1, 1) := by decide +kernel
theorem dX1_finish_68 : decode cX1_finish 68 = .ok (.iload_n 3, 1) := by decide +kernel
theorem dX1_finish_69 : decode cX1_finish 69 = .ok (.iushr, 1) := by decide +kernel
theorem dX1_finish_70 : decode cX1_finish 70 = .ok (.invokevirtual 34, 3) := by decide +kernel
theorem dX1_finish_73 : decode cX1_finish 73 = .ok (.iinc 3 (-8), 3) := by decide +kernel
theorem dX1_finish_76 : decode cX1_finish 76 = .ok (.goto (-14), 3) := by decide +kernel
theorem dX1_finish_79 : decode cX1_finish 79 = .ok (.iconst 0, 1) := by decide +kernel
theorem dX1_finish_80 : decode cX1_finish 80 = .ok (.istore_n 3, 1) := by decide +kernel
theorem dX1_finish_81 : decode cX1_finish 81 = .ok (.iload_n 3, 1) := by decide +kernel
theorem dX1_finish_82 : decode cX1_finish 82 = .ok (.bipush 8, 2) := by decide +kernel
theorem dX1_finish_84 : decode cX1_finish 84 = .ok (.if_icmp .ge 20, 3) := by decide +kernel
theorem dX1_finish_87 : decode cX1_finish 87 = .ok (.aload_n 0, 1) := by decide +kernel
theorem dX1_finish_88 : decode cX1_finish 88 = .ok (.getfield 18, 3) := by decide +kernel
theorem dX1_finish_91 : decode cX1_finish 91 = .ok (.iload_n 3, 1) := by decide +kernel
theorem dX1_finish_92 : decode cX1_finish 92 = .ok (.getstatic 56, 3) := by decide +kernel
theorem dX1_finish_95 : decode cX1_finish 95 = .ok (.iload_n 3, 1) := by decide +kernel
theorem dX1_finish_96 : decode cX1_finish 96 = .ok (.iaload, 1) := by decide +kernel
theorem dX1_finish_97 : decode cX1_finish 97 = .ok (.iastore, 1) := by decide +kernel
theorem dX1_finish_98 : decode cX1_finish 98 = .ok (.iinc 3 1, 3) := by decide +kernel
theorem dX1_finish_101 : decode cX1_finish 101 = .ok (.goto (-20), 3) := by decide +kernel
theorem dX1_finish_104 : decode cX1_finish 104 = .ok (.iconst 0, 1) := by decide +kernel
theorem dX1_finish_105 : decode cX1_finish 105 = .ok (.istore_n 3, 1) := by decide +kernel
theorem dX1_finish_106 : decode cX1_finish 106 = .ok (.iload_n 3, 1) := by decide +kernel
theorem dX1_finish_107 : decode cX1_finish 107 = .ok (.bipush 64, 2) := by decide +kernel
theorem dX1_finish_109 : decode cX1_finish 109 = .ok (.iadd, 1) := by decide +kernel
theorem dX1_finish_110 : decode cX1_finish 110 = .ok (.iload_n 2, 1) := by decide +kernel
theorem dX1_finish_111 : decode cX1_finish 111 = .ok (.if_icmp .gt 18, 3) := by decide +kernel
theorem dX1_finish_114 : decode cX1_finish 114 = .ok (.aload_n 0, 1) := by decide +kernel
theorem dX1_finish_115 : decode cX1_finish 115 = .ok (.iload_n 3, 1) := by decide +kernel
theorem dX1_finish_116 : decode cX1_finish 116 = .ok (.invokevirtual 59, 3) := by decide +kernel
theorem dX1_finish_119 : decode cX1_finish 119 = .ok (.aload_n 0, 1) := by decide +kernel
theorem dX1_finish_120 : decode cX1_finish 120 = .ok (.invokevirtual 62, 3) := by decide +kernel
theorem dX1_finish_123 : decode cX1_finish 123 = .ok (.iinc 3 64, 3) := by decide +kernel
theorem dX1_finish_126 : decode cX1_finish 126 = .ok (.goto (-20), 3) := by decide +kernel
theorem dX1_finish_129 : decode cX1_finish 129 = .ok (.return_, 1) := by decide +kernel
theorem dX1_compress_0 : decode cX1_compress 0 = .ok (.aload_n 0, 1) := by decide +kernel
theorem dX1_compress_1 : decode cX1_compress 1 = .ok (.getfield 18, 3) := by decide +kernel
theorem dX1_compress_4 : decode cX1_compress 4 = .ok (.iconst 0, 1) := by decide +kernel
theorem dX1_compress_5 : decode cX1_compress 5 = .ok (.iaload, 1) := by decide +kernel
theorem dX1_compress_6 : decode cX1_compress 6 = .ok (.istore_n 1, 1) := by decide +kernel
theorem dX1_compress_7 : decode cX1_compress 7 = .ok (.aload_n 0, 1) := by decide +kernel
theorem dX1_compress_8 : decode cX1_compress 8 = .ok (.getfield 18, 3) := by decide +kernel
theorem dX1_compress_11 : decode cX1_compress 11 = .ok (.iconst 1, 1) := by decide +kernel
theorem dX1_compress_12 : decode cX1_compress 12 = .ok (.iaload, 1) := by decide +kernel
theorem dX1_compress_13 : decode cX1_compress 13 = .ok (.istore_n 2, 1) := by decide +kernel
theorem dX1_compress_14 : decode cX1_compress 14 = .ok (.aload_n 0, 1) := by decide +kernel
theorem dX1_compress_15 : decode cX1_compress 15 = .ok (.getfield 18, 3) := by decide +kernel
theorem dX1_compress_18 : decode cX1_compress 18 = .ok (.iconst 2, 1) := by decide +kernel
theorem dX1_compress_19 : decode cX1_compress 19 = .ok (.iaload, 1) := by decide +kernel
theorem dX1_compress_20 : decode cX1_compress 20 = .ok (.istore_n 3, 1) := by decide +kernel
theorem dX1_compress_21 : decode cX1_compress 21 = .ok (.aload_n 0, 1) := by decide +kernel
theorem dX1_compress_22 : decode cX1_compress 22 = .ok (.getfield 18, 3) := by decide +kernel
theorem dX1_compress_25 : decode cX1_compress 25 = .ok (.iconst 3, 1) := by decide +kernel
theorem dX1_compress_26 : decode cX1_compress 26 = .ok (.iaload, 1) := by decide +kernel
theorem dX1_compress_27 : decode cX1_compress 27 = .ok (.istore 4, 2) := by decide +kernel
theorem dX1_compress_29 : decode cX1_compress 29 = .ok (.aload_n 0, 1) := by decide +kernel
theorem dX1_compress_30 : decode cX1_compress 30 = .ok (.getfield 18, 3) := by decide +kernel
theorem dX1_compress_33 : decode cX1_compress 33 = .ok (.iconst 4, 1) := by decide +kernel
theorem dX1_compress_34 : decode cX1_compress 34 = .ok (.iaload, 1) := by decide +kernel
theorem dX1_compress_35 : decode cX1_compress 35 = .ok (.istore 5, 2) := by decide +kernel
theorem dX1_compress_37 : decode cX1_compress 37 = .ok (.aload_n 0, 1) := by decide +kernel
theorem dX1_compress_38 : decode cX1_compress 38 = .ok (.getfield 18, 3) := by decide +kernel
theorem dX1_compress_41 : decode cX1_compress 41 = .ok (.iconst 5, 1) := by decide +kernel
theorem dX1_compress_42 : decode cX1_compress 42 = .ok (.iaload, 1) := by decide +kernel
theorem dX1_compress_43 : decode cX1_compress 43 = .ok (.istore 6, 2) := by decide +kernel
theorem dX1_compress_45 : decode cX1_compress 45 = .ok (.aload_n 0, 1) := by decide +kernel
theorem dX1_compress_46 : decode cX1_compress 46 = .ok (.getfield 18, 3) := by decide +kernel
theorem dX1_compress_49 : decode cX1_compress 49 = .ok (.bipush 6, 2) := by decide +kernel
theorem dX1_compress_51 : decode cX1_compress 51 = .ok (.iaload, 1) := by decide +kernel
theorem dX1_compress_52 : decode cX1_compress 52 = .ok (.istore 7, 2) := by decide +kernel
theorem dX1_compress_54 : decode cX1_compress 54 = .ok (.aload_n 0, 1) := by decide +kernel
theorem dX1_compress_55 : decode cX1_compress 55 = .ok (.getfield 18, 3) := by decide +kernel
theorem dX1_compress_58 : decode cX1_compress 58 = .ok (.bipush 7, 2) := by decide +kernel
theorem dX1_compress_60 : decode cX1_compress 60 = .ok (.iaload, 1) := by decide +kernel
theorem dX1_compress_61 : decode cX1_compress 61 = .ok (.istore 8, 2) := by decide +kernel
theorem dX1_compress_63 : decode cX1_compress 63 = .ok (.iconst 0, 1) := by decide +kernel
theorem dX1_compress_64 : decode cX1_compress 64 = .ok (.istore 9, 2) := by decide +kernel
theorem dX1_compress_66 : decode cX1_compress 66 = .ok (.iload 9, 2) := by decide +kernel
theorem dX1_compress_68 : decode cX1_compress 68 = .ok (.bipush 64, 2) := by decide +kernel
theorem dX1_compress_70 : decode cX1_compress 70 = .ok (.if_icmp .ge 139, 3) := by decide +kernel
theorem dX1_compress_73 : decode cX1_compress 73 = .ok (.iload 5, 2) := by decide +kernel
theorem dX1_compress_75 : decode cX1_compress 75 = .ok (.bipush 6, 2) := by decide +kernel
theorem dX1_compress_77 : decode cX1_compress 77 = .ok (.invokestatic 65, 3) := by decide +kernel
theorem dX1_compress_80 : decode cX1_compress 80 = .ok (.iload 5, 2) := by decide +kernel
theorem dX1_compress_82 : decode cX1_compress 82 = .ok (.bipush 11, 2) := by decide +kernel
theorem dX1_compress_84 : decode cX1_compress 84 = .ok (.invokestatic 65, 3) := by decide +kernel
theorem dX1_compress_87 : decode cX1_compress 87 = .ok (.ixor, 1) := by decide +kernel
theorem dX1_compress_88 : decode cX1_compress 88 = .ok (.iload 5, 2) := by decide +kernel
theorem dX1_compress_90 : decode cX1_compress 90 = .ok (.bipush 25, 2) := by decide +kernel
theorem dX1_compress_92 : decode cX1_compress 92 = .ok (.invokestatic 65, 3) := by decide +kernel
theorem dX1_compress_95 : decode cX1_compress 95 = .ok (.ixor, 1) := by decide +kernel
theorem dX1_compress_96 : decode cX1_compress 96 = .ok (.istore 10, 2) := by decide +kernel
theorem dX1_compress_98 : decode cX1_compress 98 = .ok (.iload 8, 2) := by decide +kernel
theorem dX1_compress_100 : decode cX1_compress 100 = .ok (.iload 10, 2) := by decide +kernel
theorem dX1_compress_102 : decode cX1_compress 102 = .ok (.iadd, 1) := by decide +kernel
theorem dX1_compress_103 : decode cX1_compress 103 = .ok (.iload 5, 2) := by decide +kernel
theorem dX1_compress_105 : decode cX1_compress 105 = .ok (.iload 6, 2) := by decide +kernel
theorem dX1_compress_107 : decode cX1_compress 107 = .ok (.iand, 1) := by decide +kernel
theorem dX1_compress_108 : decode cX1_compress 108 = .ok (.iload 5, 2) := by decide +kernel
theorem dX1_compress_110 : decode cX1_compress 110 = .ok (.iconst (-1), 1) := by decide +kernel
theorem dX1_compress_111 : decode cX1_compress 111 = .ok (.ixor, 1) := by decide +kernel
theorem dX1_compress_112 : decode cX1_compress 112 = .ok (.iload 7, 2) := by decide +kernel
theorem dX1_compress_114 : decode cX1_compress 114 = .ok (.iand, 1) := by decide +kernel
theorem dX1_compress_115 : decode cX1_compress 115 = .ok (.ixor, 1) := by decide +kernel
theorem dX1_compress_116 : decode cX1_compress 116 = .ok (.iadd, 1) := by decide +kernel
theorem dX1_compress_117 : decode cX1_compress 117 = .ok (.getstatic 69, 3) := by decide +kernel
theorem dX1_compress_120 : decode cX1_compress 120 = .ok (.iload 9, 2) := by decide +kernel
theorem dX1_compress_122 : decode cX1_compress 122 = .ok (.iaload, 1) := by decide +kernel
theorem dX1_compress_123 : decode cX1_compress 123 = .ok (.iadd, 1) := by decide +kernel
theorem dX1_compress_124 : decode cX1_compress 124 = .ok (.aload_n 0, 1) := by decide +kernel
theorem dX1_compress_125 : decode cX1_compress 125 = .ok (.getfield 15, 3) := by decide +kernel
theorem dX1_compress_128 : decode cX1_compress 128 = .ok (.iload 9, 2) := by decide +kernel
theorem dX1_compress_130 : decode cX1_compress 130 = .ok (.iaload, 1) := by decide +kernel
theorem dX1_compress_131 : decode cX1_compress 131 = .ok (.iadd, 1) := by decide +kernel
theorem dX1_compress_132 : decode cX1_compress 132 = .ok (.istore 11, 2) := by decide +kernel
theorem dX1_compress_134 : decode cX1_compress 134 = .ok (.iload_n 1, 1) := by decide +kernel
theorem dX1_compress_135 : decode cX1_compress 135 = .ok (.iconst 2, 1) := by decide +kernel
theorem dX1_compress_136 : decode cX1_compress 136 = .ok (.invokestatic 65, 3) := by decide +kernel
theorem dX1_compress_139 : decode cX1_compress 139 = .ok (.iload_n 1, 1) := by decide +kernel
theorem dX1_compress_140 : decode cX1_compress 140 = .ok (.bipush 13, 2) := by decide +kernel
theorem dX1_compress_142 : decode cX1_compress 142 = .ok (.invokestatic 65, 3) := by decide +kernel
theorem dX1_compress_145 : decode cX1_compress 145 = .ok (.ixor, 1) := by decide +kernel
theorem dX1_compress_146 : decode cX1_compress 146 = .ok (.iload_n 1, 1) := by decide +kernel
theorem dX1_compress_147 : decode cX1_compress 147 = .ok (.bipush 22, 2) := by decide +kernel
theorem dX1_compress_149 : decode cX1_compress 149 = .ok (.invokestatic 65, 3) := by decide +kernel
theorem dX1_compress_152 : decode cX1_compress 152 = .ok (.ixor, 1) := by decide +kernel
theorem dX1_compress_153 : decode cX1_compress 153 = .ok (.istore 12, 2) := by decide +kernel
theorem dX1_compress_155 : decode cX1_compress 155 = .ok (.iload 12, 2) := by decide +kernel
theorem dX1_compress_157 : decode cX1_compress 157 = .ok (.iload_n 1, 1) := by decide +kernel
theorem dX1_compress_158 : decode cX1_compress 158 = .ok (.iload_n 2, 1) := by decide +kernel
theorem dX1_compress_159 : decode cX1_compress 159 = .ok (.iand, 1) := by decide +kernel
theorem dX1_compress_160 : decode cX1_compress 160 = .ok (.iload_n 1, 1) := by decide +kernel
theorem dX1_compress_161 : decode cX1_compress 161 = .ok (.iload_n 3, 1) := by decide +kernel
theorem dX1_compress_162 : decode cX1_compress 162 = .ok (.iand, 1) := by decide +kernel
theorem dX1_compress_163 : decode cX1_compress 163 = .ok (.ixor, 1) := by decide +kernel
theorem dX1_compress_164 : decode cX1_compress 164 = .ok (.iload_n 2, 1) := by decide +kernel
theorem dX1_compress_165 : decode cX1_compress 165 = .ok (.iload_n 3, 1) := by decide +kernel
theorem dX1_compress_166 : decode cX1_compress 166 = .ok (.iand, 1) := by decide +kernel
theorem dX1_compress_167 : decode cX1_compress 167 = .ok (.ixor, 1) := by decide +kernel
theorem dX1_compress_168 : decode cX1_compress 168 = .ok (.iadd, 1) := by decide +kernel
theorem dX1_compress_169 : decode cX1_compress 169 = .ok (.istore 13, 2) := by decide +kernel
theorem dX1_compress_171 : decode cX1_compress 171 = .ok (.iload 7, 2) := by decide +kernel
theorem dX1_compress_173 : decode cX1_compress 173 = .ok (.istore 8, 2) := by decide +kernel
theorem dX1_compress_175 : decode cX1_compress 175 = .ok (.iload 6, 2) := by decide +kernel
theorem dX1_compress_177 : decode cX1_compress 177 = .ok (.istore 7, 2) := by decide +kernel
theorem dX1_compress_179 : decode cX1_compress 179 = .ok (.iload 5, 2) := by decide +kernel
theorem dX1_compress_181 : decode cX1_compress 181 = .ok (.istore 6, 2) := by decide +kernel
theorem dX1_compress_183 : decode cX1_compress 183 = .ok (.iload 4, 2) := by decide +kernel
theorem dX1_compress_185 : decode cX1_compress 185 = .ok (.iload 11, 2) := by decide +kernel
theorem dX1_compress_187 : decode cX1_compress 187 = .ok (.iadd, 1) := by decide +kernel
theorem dX1_compress_188 : decode cX1_compress 188 = .ok (.istore 5, 2) := by decide +kernel
theorem dX1_compress_190 : decode cX1_compress 190 = .ok (.iload_n 3, 1) := by decide +kernel
theorem dX1_compress_191 : decode cX1_compress 191 = .ok (.istore 4, 2) := by decide +kernel
theorem dX1_compress_193 : decode cX1_compress 193 = .ok (.iload_n 2, 1) := by decide +kernel
theorem dX1_compress_194 : decode cX1_compress 194 = .ok (.istore_n 3, 1) := by decide +kernel
theorem dX1_compress_195 : decode cX1_compress 195 = .ok (.iload_n 1, 1) := by decide +kernel
theorem dX1_compress_196 : decode cX1_compress 196 = .ok (.istore_n 2, 1) := by decide +kernel
theorem dX1_compress_197 : decode cX1_compress 197 = .ok (.iload 11, 2) := by decide +kernel
theorem dX1_compress_199 : decode cX1_compress 199 = .ok (.iload 13, 2) := by decide +kernel
theorem dX1_compress_201 : decode cX1_compress 201 = .ok (.iadd, 1) := by decide +kernel
theorem dX1_compress_202 : decode cX1_compress 202 = .ok (.istore_n 1, 1) := by decide +kernel
theorem dX1_compress_203 : decode cX1_compress 203 = .ok (.iinc 9 1, 3) := by decide +kernel
theorem dX1_compress_206 : decode cX1_compress 206 = .ok (.goto (-140), 3) := by decide +kernel
theorem dX1_compress_209 : decode cX1_compress 209 = .ok (.aload_n 0, 1) := by decide +kernel
theorem dX1_compress_210 : decode cX1_compress 210 = .ok (.getfield 18, 3) := by decide +kernel
theorem dX1_compress_213 : decode cX1_compress 213 = .ok (.iconst 0, 1) := by decide +kernel
theorem dX1_compress_214 : decode cX1_compress 214 = .ok (.dup2, 1) := by decide +kernel
theorem dX1_compress_215 : decode cX1_compress 215 = .ok (.iaload, 1) := by decide +kernel
theorem dX1_compress_216 : decode cX1_compress 216 = .ok (.iload_n 1, 1) := by decide +kernel
theorem dX1_compress_217 : decode cX1_compress 217 = .ok (.iadd, 1) := by decide +kernel
theorem dX1_compress_218 : decode cX1_compress 218 = .ok (.iastore, 1) := by decide +kernel
theorem dX1_compress_219 : decode cX1_compress 219 = .ok (.aload_n 0, 1) := by decide +kernel
theorem dX1_compress_220 : decode cX1_compress 220 = .ok (.getfield 18, 3) := by decide +kernel
theorem dX1_compress_223 : decode cX1_compress 223 = .ok (.iconst 1, 1) := by decide +kernel
theorem dX1_compress_224 : decode cX1_compress 224 = .ok (.dup2, 1) := by decide +kernel
theorem dX1_compress_225 : decode cX1_compress 225 = .ok (.iaload, 1) := by decide +kernel
theorem dX1_compress_226 : decode cX1_compress 226 = .ok (.iload_n 2, 1) := by decide +kernel
theorem dX1_compress_227 : decode cX1_compress 227 = .ok (.iadd, 1) := by decide +kernel
theorem dX1_compress_228 : decode cX1_compress 228 = .ok (.iastore, 1) := by decide +kernel
theorem dX1_compress_229 : decode cX1_compress 229 = .ok (.aload_n 0, 1) := by decide +kernel
theorem dX1_compress_230 : decode cX1_compress 230 = .ok (.getfield 18, 3) := by decide +kernel
theorem dX1_compress_233 : decode cX1_compress 233 = .ok (.iconst 2, 1) := by decide +kernel
theorem dX1_compress_234 : decode cX1_compress 234 = .ok (.dup2, 1) := by decide +kernel
theorem dX1_compress_235 : decode cX1_compress 235 = .ok (.iaload, 1) := by decide +kernel
theorem dX1_compress_236 : decode cX1_compress 236 = .ok (.iload_n 3, 1) := by decide +kernel
theorem dX1_compress_237 : decode cX1_compress 237 = .ok (.iadd, 1) := by decide +kernel
theorem dX1_compress_238 : decode cX1_compress 238 = .ok (.iastore, 1) := by decide +kernel
theorem dX1_compress_239 : decode cX1_compress 239 = .ok (.aload_n 0, 1) := by decide +kernel
theorem dX1_compress_240 : decode cX1_compress 240 = .ok (.getfield 18, 3) := by decide +kernel
theorem dX1_compress_243 : decode cX1_compress 243 = .ok (.iconst 3, 1) := by decide +kernel
theorem dX1_compress_244 : decode cX1_compress 244 = .ok (.dup2, 1) := by decide +kernel
theorem dX1_compress_245 : decode cX1_compress 245 = .ok (.iaload, 1) := by decide +kernel
theorem dX1_compress_246 : decode cX1_compress 246 = .ok (.iload 4, 2) := by decide +kernel
theorem dX1_compress_248 : decode cX1_compress 248 = .ok (.iadd, 1) := by decide +kernel
theorem dX1_compress_249 : decode cX1_compress 249 = .ok (.iastore, 1) := by decide +kernel
theorem dX1_compress_250 : decode cX1_compress 250 = .ok (.aload_n 0, 1) := by decide +kernel
theorem dX1_compress_251 : decode cX1_compress 251 = .ok (.getfield 18, 3) := by decide +kernel
theorem dX1_compress_254 : decode cX1_compress 254 = .ok (.iconst 4, 1) := by decide +kernel
theorem dX1_compress_255 : decode cX1_compress 255 = .ok (.dup2, 1) := by decide +kernel
theorem dX1_compress_256 : decode cX1_compress 256 = .ok (.iaload, 1) := by decide +kernel
theorem dX1_compress_257 : decode cX1_compress 257 = .ok (.iload 5, 2) := by decide +kernel
theorem dX1_compress_259 : decode cX1_compress 259 = .ok (.iadd, 1) := by decide +kernel
theorem dX1_compress_260 : decode cX1_compress 260 = .ok (.iastore, 1) := by decide +kernel
theorem dX1_compress_261 : decode cX1_compress 261 = .ok (.aload_n 0, 1) := by decide +kernel
theorem dX1_compress_262 : decode cX1_compress 262 = .ok (.getfield 18, 3) := by decide +kernel
theorem dX1_compress_265 : decode cX1_compress 265 = .ok (.iconst 5, 1) := by decide +kernel
theorem dX1_compress_266 : decode cX1_compress 266 = .ok (.dup2, 1) := by decide +kernel
theorem dX1_compress_267 : decode cX1_compress 267 = .ok (.iaload, 1) := by decide +kernel
theorem dX1_compress_268 : decode cX1_compress 268 = .ok (.iload 6, 2) := by decide +kernel
theorem dX1_compress_270 : decode cX1_compress 270 = .ok (.iadd, 1) := by decide +kernel
theorem dX1_compress_271 : decode cX1_compress 271 = .ok (.iastore, 1) := by decide +kernel
theorem dX1_compress_272 : decode cX1_compress 272 = .ok (.aload_n 0, 1) := by decide +kernel
theorem dX1_compress_273 : decode cX1_compress 273 = .ok (.getfield 18, 3) := by decide +kernel
theorem dX1_compress_276 : decode cX1_compress 276 = .ok (.bipush 6, 2) := by decide +kernel
theorem dX1_compress_278 : decode cX1_compress 278 = .ok (.dup2, 1) := by decide +kernel
theorem dX1_compress_279 : decode cX1_compress 279 = .ok (.iaload, 1) := by decide +kernel
theorem dX1_compress_280 : decode cX1_compress 280 = .ok (.iload 7, 2) := by decide +kernel
theorem dX1_compress_282 : decode cX1_compress 282 = .ok (.iadd, 1) := by decide +kernel
theorem dX1_compress_283 : decode cX1_compress 283 = .ok (.iastore, 1) := by decide +kernel
theorem dX1_compress_284 : decode cX1_compress 284 = .ok (.aload_n 0, 1) := by decide +kernel
theorem dX1_compress_285 : decode cX1_compress 285 = .ok (.getfield 18, 3) := by decide +kernel
theorem dX1_compress_288 : decode cX1_compress 288 = .ok (.bipush 7, 2) := by decide +kernel
theorem dX1_compress_290 : decode cX1_compress 290 = .ok (.dup2, 1) := by decide +kernel
theorem dX1_compress_291 : decode cX1_compress 291 = .ok (.iaload, 1) := by decide +kernel
theorem dX1_compress_292 : decode cX1_compress 292 = .ok (.iload 8, 2) := by decide +kernel
theorem dX1_compress_294 : decode cX1_compress 294 = .ok (.iadd, 1) := by decide +kernel
theorem dX1_compress_295 : decode cX1_compress 295 = .ok (.iastore, 1) := by decide +kernel
theorem dX1_compress_296 : decode cX1_compress 296 = .ok (.return_, 1) := by decide +kernel
theorem dX1_expand_0 : decode cX1_expand 0 = .ok (.iconst 0, 1) := by decide +kernel
theorem dX1_expand_1 : decode cX1_expand 1 = .ok (.istore_n 2, 1) := by decide +kernel
theorem dX1_expand_2 : decode cX1_expand 2 = .ok (.iload_n 2, 1) := by decide +kernel
theorem dX1_expand_3 : decode cX1_expand 3 = .ok (.bipush 16, 2) := by decide +kernel
theorem dX1_expand_5 : decode cX1_expand 5 = .ok (.if_icmp .ge 63, 3) := by decide +kernel
theorem dX1_expand_8 : decode cX1_expand 8 = .ok (.iload_n 1, 1) := by decide +kernel
theorem dX1_expand_9 : decode cX1_expand 9 = .ok (.iconst 4, 1) := by decide +kernel
theorem dX1_expand_10 : decode cX1_expand 10 = .ok (.iload_n 2, 1) := by decide +kernel
theorem dX1_expand_11 : decode cX1_expand 11 = .ok (.imul, 1) := by decide +kernel
theorem dX1_expand_12 : decode cX1_expand 12 = .ok (.iadd, 1) := by decide +kernel
theorem dX1_expand_13 : decode cX1_expand 13 = .ok (.istore_n 3, 1) := by decide +kernel
theorem dX1_expand_14 : decode cX1_expand 14 = .ok (.aload_n 0, 1) := by decide +kernel
theorem dX1_expand_15 : decode cX1_expand 15 = .ok (.getfield 15, 3) := by decide +kernel
theorem dX1_expand_18 : decode cX1_expand 18 = .ok (.iload_n 2, 1) := by decide +kernel
theorem dX1_expand_19 : decode cX1_expand 19 = .ok (.aload_n 0, 1) := by decide +kernel
theorem dX1_expand_20 : decode cX1_expand 20 = .ok (.getfield 9, 3) := by decide +kernel
theorem dX1_expand_23 : decode cX1_expand 23 = .ok (.iload_n 3, 1) := by decide +kernel
theorem dX1_expand_24 : decode cX1_expand 24 = .ok (.iaload, 1) := by decide +kernel
theorem dX1_expand_25 : decode cX1_expand 25 = .ok (.bipush 24, 2) := by decide +kernel
theorem dX1_expand_27 : decode cX1_expand 27 = .ok (.ishl, 1) := by decide +kernel
theorem dX1_expand_28 : decode cX1_expand 28 = .ok (.aload_n 0, 1) := by decide +kernel
theorem dX1_expand_29 : decode cX1_expand 29 = .ok (.getfield 9, 3) := by decide +kernel
theorem dX1_expand_32 : decode cX1_expand 32 = .ok (.iload_n 3, 1) := by decide +kernel
theorem dX1_expand_33 : decode cX1_expand 33 = .ok (.iconst 1, 1) := by decide +kernel
theorem dX1_expand_34 : decode cX1_expand 34 = .ok (.iadd, 1) := by decide +kernel
theorem dX1_expand_35 : decode cX1_expand 35 = .ok (.iaload, 1) := by decide +kernel
theorem dX1_expand_36 : decode cX1_expand 36 = .ok (.bipush 16, 2) := by decide +kernel
theorem dX1_expand_38 : decode cX1_expand 38 = .ok (.ishl, 1) := by decide +kernel
theorem dX1_expand_39 : decode cX1_expand 39 = .ok (.ior, 1) := by decide +kernel
theorem dX1_expand_40 : decode cX1_expand 40 = .ok (.aload_n 0, 1) := by decide +kernel
theorem dX1_expand_41 : decode cX1_expand 41 = .ok (.getfield 9, 3) := by decide +kernel
theorem dX1_expand_44 : decode cX1_expand 44 = .ok (.iload_n 3, 1) := by decide +kernel
theorem dX1_expand_45 : decode cX1_expand 45 = .ok (.iconst 2, 1) := by decide +kernel
theorem dX1_expand_46 : decode cX1_expand 46 = .ok (.iadd, 1) := by decide +kernel
theorem dX1_expand_47 : decode cX1_expand 47 = .ok (.iaload, 1) := by decide +kernel
theorem dX1_expand_48 : decode cX1_expand 48 = .ok (.bipush 8, 2) := by decide +kernel
theorem dX1_expand_50 : decode cX1_expand 50 = .ok (.ishl, 1) := by decide +kernel
theorem dX1_expand_51 : decode cX1_expand 51 = .ok (.ior, 1) := by decide +kernel
theorem dX1_expand_52 : decode cX1_expand 52 = .ok (.aload_n 0, 1) := by decide +kernel
theorem dX1_expand_53 : decode cX1_expand 53 = .ok (.getfield 9, 3) := by decide +kernel
theorem dX1_expand_56 : decode cX1_expand 56 = .ok (.iload_n 3, 1) := by decide +kernel
theorem dX1_expand_57 : decode cX1_expand 57 = .ok (.iconst 3, 1) := by decide +kernel
theorem dX1_expand_58 : decode cX1_expand 58 = .ok (.iadd, 1) := by decide +kernel
theorem dX1_expand_59 : decode cX1_expand 59 = .ok (.iaload, 1) := by decide +kernel
theorem dX1_expand_60 : decode cX1_expand 60 = .ok (.ior, 1) := by decide +kernel
theorem dX1_expand_61 : decode cX1_expand 61 = .ok (.iastore, 1) := by decide +kernel
theorem dX1_expand_62 : decode cX1_expand 62 = .ok (.iinc 2 1, 3) := by decide +kernel
theorem dX1_expand_65 : decode cX1_expand 65 = .ok (.goto (-63), 3) := by decide +kernel
theorem dX1_expand_68 : decode cX1_expand 68 = .ok (.bipush 16, 2) := by decide +kernel
theorem dX1_expand_70 : decode cX1_expand 70 = .ok (.istore_n 2, 1) := by decide +kernel
theorem dX1_expand_71 : decode cX1_expand 71 = .ok (.iload_n 2, 1) := by decide +kernel
theorem dX1_expand_72 : decode cX1_expand 72 = .ok (.bipush 64, 2) := by decide +kernel
theorem dX1_expand_74 : decode cX1_expand 74 = .ok (.if_icmp .ge 102, 3) := by decide +kernel
theorem dX1_expand_77 : decode cX1_expand 77 = .ok (.aload_n 0, 1) := by decide +kernel
theorem dX1_expand_78 : decode cX1_expand 78 = .ok (.getfield 15, 3) := by decide +kernel
theorem dX1_expand_81 : decode cX1_expand 81 = .ok (.iload_n 2, 1) := by decide +kernel
theorem dX1_expand_82 : decode cX1_expand 82 = .ok (.bipush 15, 2) := by decide +kernel
theorem dX1_expand_84 : decode cX1_expand 84 = .ok (.isub, 1) := by decide +kernel
theorem dX1_expand_85 : decode cX1_expand 85 = .ok (.iaload, 1) := by decide +kernel
theorem dX1_expand_86 : decode cX1_expand 86 = .ok (.istore_n 3, 1) := by decide +kernel
theorem dX1_expand_87 : decode cX1_expand 87 = .ok (.aload_n 0, 1) := by decide +kernel
theorem dX1_expand_88 : decode cX1_expand 88 = .ok (.getfield 15, 3) := by decide +kernel
theorem dX1_expand_91 : decode cX1_expand 91 = .ok (.iload_n 2, 1) := by decide +kernel
theorem dX1_expand_92 : decode cX1_expand 92 = .ok (.iconst 2, 1) := by decide +kernel
theorem dX1_expand_93 : decode cX1_expand 93 = .ok (.isub, 1) := by decide +kernel
theorem dX1_expand_94 : decode cX1_expand 94 = .ok (.iaload, 1) := by decide +kernel
theorem dX1_expand_95 : decode cX1_expand 95 = .ok (.istore 4, 2) := by decide +kernel
theorem dX1_expand_97 : decode cX1_expand 97 = .ok (.iload_n 3, 1) := by decide +kernel
theorem dX1_expand_98 : decode cX1_expand 98 = .ok (.bipush 7, 2) := by decide +kernel
theorem dX1_expand_100 : decode cX1_expand 100 = .ok (.invokestatic 65, 3) := by decide +kernel
theorem dX1_expand_103 : decode cX1_expand 103 = .ok (.iload_n 3, 1) := by decide +kernel
theorem dX1_expand_104 : decode cX1_expand 104 = .ok (.bipush 18, 2) := by decide +kernel
theorem dX1_expand_106 : decode cX1_expand 106 = .ok (.invokestatic 65, 3) := by decide +kernel
theorem dX1_expand_109 : decode cX1_expand 109 = .ok (.ixor, 1) := by decide +kernel
theorem dX1_expand_110 : decode cX1_expand 110 = .ok (.iload_n 3, 1) := by decide +kernel
theorem dX1_expand_111 : decode cX1_expand 111 = .ok (.iconst 3, 1) := by decide +kernel
theorem dX1_expand_112 : decode cX1_expand 112 = .ok (.iushr, 1) := by decide +kernel
theorem dX1_expand_113 : decode cX1_expand 113 = .ok (.ixor, 1) := by decide +kernel
theorem dX1_expand_114 : decode cX1_expand 114 = .ok (.istore 5, 2) := by decide +kernel
theorem dX1_expand_116 : decode cX1_expand 116 = .ok (.iload 4, 2) := by decide +kernel
theorem dX1_expand_118 : decode cX1_expand 118 = .ok (.bipush 17, 2) := by decide +kernel
theorem dX1_expand_120 : decode cX1_expand 120 = .ok (.invokestatic 65, 3) := by decide +kernel
theorem dX1_expand_123 : decode cX1_expand 123 = .ok (.iload 4, 2) := by decide +kernel
theorem dX1_expand_125 : decode cX1_expand 125 = .ok (.bipush 19, 2) := by decide +kernel
theorem dX1_expand_127 : decode cX1_expand 127 = .ok (.invokestatic 65, 3) := by decide +kernel
theorem dX1_expand_130 : decode cX1_expand 130 = .ok (.ixor, 1) := by decide +kernel
theorem dX1_expand_131 : decode cX1_expand 131 = .ok (.iload 4, 2) := by decide +kernel
theorem dX1_expand_133 : decode cX1_expand 133 = .ok (.bipush 10, 2) := by decide +kernel
theorem dX1_expand_135 : decode cX1_expand 135 = .ok (.iushr, 1) := by decide +kernel
theorem dX1_expand_136 : decode cX1_expand 136 = .ok (.ixor, 1) := by decide +kernel
theorem dX1_expand_137 : decode cX1_expand 137 = .ok (.istore 6, 2) := by decide +kernel
theorem dX1_expand_139 : decode cX1_expand 139 = .ok (.aload_n 0, 1) := by decide +kernel
theorem dX1_expand_140 : decode cX1_expand 140 = .ok (.getfield 15, 3) := by decide +kernel
theorem dX1_expand_143 : decode cX1_expand 143 = .ok (.iload_n 2, 1) := by decide +kernel
theorem dX1_expand_144 : decode cX1_expand 144 = .ok (.aload_n 0, 1) := by decide +kernel
theorem dX1_expand_145 : decode cX1_expand 145 = .ok (.getfield 15, 3) := by decide +kernel
theorem dX1_expand_148 : decode cX1_expand 148 = .ok (.iload_n 2, 1) := by decide +kernel
theorem dX1_expand_149 : decode cX1_expand 149 = .ok (.bipush 16, 2) := by decide +kernel
theorem dX1_expand_151 : decode cX1_expand 151 = .ok (.isub, 1) := by decide +kernel
theorem dX1_expand_152 : decode cX1_expand 152 = .ok (.iaload, 1) := by decide +kernel
theorem dX1_expand_153 : decode cX1_expand 153 = .ok (.iload 5, 2) := by decide +kernel
theorem dX1_expand_155 : decode cX1_expand 155 = .ok (.iadd, 1) := by decide +kernel
theorem dX1_expand_156 : decode cX1_expand 156 = .ok (.aload_n 0, 1) := by decide +kernel
theorem dX1_expand_157 : decode cX1_expand 157 = .ok (.getfield 15, 3) := by decide +kernel
theorem dX1_expand_160 : decode cX1_expand 160 = .ok (.iload_n 2, 1) := by decide +kernel
theorem dX1_expand_161 : decode cX1_expand 161 = .ok (.bipush 7, 2) := by decide +kernel
theorem dX1_expand_163 : decode cX1_expand 163 = .ok (.isub, 1) := by decide +kernel
theorem dX1_expand_164 : decode cX1_expand 164 = .ok (.iaload, 1) := by decide +kernel
theorem dX1_expand_165 : decode cX1_expand 165 = .ok (.iadd, 1) := by decide +kernel
theorem dX1_expand_166 : decode cX1_expand 166 = .ok (.iload 6, 2) := by decide +kernel
theorem dX1_expand_168 : decode cX1_expand 168 = .ok (.iadd, 1) := by decide +kernel
theorem dX1_expand_169 : decode cX1_expand 169 = .ok (.iastore, 1) := by decide +kernel
theorem dX1_expand_170 : decode cX1_expand 170 = .ok (.iinc 2 1, 3) := by decide +kernel
theorem dX1_expand_173 : decode cX1_expand 173 = .ok (.goto (-102), 3) := by decide +kernel
theorem dX1_expand_176 : decode cX1_expand 176 = .ok (.return_, 1) := by decide +kernel
theorem dX1_turned_0 : decode cX1_turned 0 = .ok (.iload_n 0, 1) := by decide +kernel
theorem dX1_turned_1 : decode cX1_turned 1 = .ok (.iload_n 1, 1) := by decide +kernel
theorem dX1_turned_2 : decode cX1_turned 2 = .ok (.iushr, 1) := by decide +kernel
theorem dX1_turned_3 : decode cX1_turned 3 = .ok (.iload_n 0, 1) := by decide +kernel
theorem dX1_turned_4 : decode cX1_turned 4 = .ok (.bipush 32, 2) := by decide +kernel
theorem dX1_turned_6 : decode cX1_turned 6 = .ok (.iload_n 1, 1) := by decide +kernel
theorem dX1_turned_7 : decode cX1_turned 7 = .ok (.isub, 1) := by decide +kernel
theorem dX1_turned_8 : decode cX1_turned 8 = .ok (.ishl, 1) := by decide +kernel
theorem dX1_turned_9 : decode cX1_turned 9 = .ok (.ior, 1) := by decide +kernel
theorem dX1_turned_10 : decode cX1_turned 10 = .ok (.ireturn, 1) := by decide +kernel
theorem dX2_init_0 : decode cX2_init 0 = .ok (.aload_n 0, 1) := by decide +kernel
theorem dX2_init_1 : decode cX2_init 1 = .ok (.invokespecial 3, 3) := by decide +kernel
theorem dX2_init_4 : decode cX2_init 4 = .ok (.aload_n 0, 1) := by decide +kernel
theorem dX2_init_5 : decode cX2_init 5 = .ok (.bipush 16, 2) := by decide +kernel
theorem dX2_init_7 : decode cX2_init 7 = .ok (.newarray .int, 2) := by decide +kernel
theorem dX2_init_9 : decode cX2_init 9 = .ok (.putfield 9, 3) := by decide +kernel
theorem dX2_init_12 : decode cX2_init 12 = .ok (.aload_n 0, 1) := by decide +kernel
theorem dX2_init_13 : decode cX2_init 13 = .ok (.iconst 0, 1) := by decide +kernel
theorem dX2_init_14 : decode cX2_init 14 = .ok (.putfield 15, 3) := by decide +kernel
theorem dX2_init_17 : decode cX2_init 17 = .ok (.return_, 1) := by decide +kernel
theorem dX2_start_0 : decode cX2_start 0 = .ok (.iconst 0, 1) := by decide +kernel
theorem dX2_start_1 : decode cX2_start 1 = .ok (.istore 5, 2) := by decide +kernel
theorem dX2_start_3 : decode cX2_start 3 = .ok (.iload 5, 2) := by decide +kernel
theorem dX2_start_5 : decode cX2_start 5 = .ok (.bipush 16, 2) := by decide +kernel
theorem dX2_start_7 : decode cX2_start 7 = .ok (.if_icmp .ge 26, 3) := by decide +kernel
theorem dX2_start_10 : decode cX2_start 10 = .ok (.aload_n 0, 1) := by decide +kernel
theorem dX2_start_11 : decode cX2_start 11 = .ok (.getfield 9, 3) := by decide +kernel
theorem dX2_start_14 : decode cX2_start 14 = .ok (.iload 5, 2) := by decide +kernel
theorem dX2_start_16 : decode cX2_start 16 = .ok (.iload 5, 2) := by decide +kernel
theorem dX2_start_18 : decode cX2_start 18 = .ok (.iload_n 1, 1) := by decide +kernel
theorem dX2_start_19 : decode cX2_start 19 = .ok (.iload_n 2, 1) := by decide +kernel
theorem dX2_start_20 : decode cX2_start 20 = .ok (.iload_n 3, 1) := by decide +kernel
theorem dX2_start_21 : decode cX2_start 21 = .ok (.iload 4, 2) := by decide +kernel
theorem dX2_start_23 : decode cX2_start 23 = .ok (.invokestatic 19, 3) := by decide +kernel
theorem dX2_start_26 : decode cX2_start 26 = .ok (.iastore, 1) := by decide +kernel
theorem dX2_start_27 : decode cX2_start 27 = .ok (.iinc 5 1, 3) := by decide +kernel
theorem dX2_start_30 : decode cX2_start 30 = .ok (.goto (-27), 3) := by decide +kernel
theorem dX2_start_33 : decode cX2_start 33 = .ok (.aload_n 0, 1) := by decide +kernel
theorem dX2_start_34 : decode cX2_start 34 = .ok (.iconst 0, 1) := by decide +kernel
theorem dX2_start_35 : decode cX2_start 35 = .ok (.putfield 15, 3) := by decide +kernel
theorem dX2_start_38 : decode cX2_start 38 = .ok (.return_, 1) := by decide +kernel
theorem dX2_turn_0 : decode cX2_turn 0 = .ok (.aload_n 1, 1) := by decide +kernel
theorem dX2_turn_1 : decode cX2_turn 1 = .ok (.invokevirtual 23, 3) := by decide +kernel
theorem dX2_turn_4 : decode cX2_turn 4 = .ok (.aload_n 1, 1) := by decide +kernel
theorem dX2_turn_5 : decode cX2_turn 5 = .ok (.bipush 75, 2) := by decide +kernel
theorem dX2_turn_7 : decode cX2_turn 7 = .ok (.invokevirtual 28, 3) := by decide +kernel
theorem dX2_turn_10 : decode cX2_turn 10 = .ok (.iconst 0, 1) := by decide +kernel
theorem dX2_turn_11 : decode cX2_turn 11 = .ok (.istore_n 2, 1) := by decide +kernel
theorem dX2_turn_12 : decode cX2_turn 12 = .ok (.iload_n 2, 1) := by decide +kernel
theorem dX2_turn_13 : decode cX2_turn 13 = .ok (.bipush 16, 2) := by decide +kernel
theorem dX2_turn_15 : decode cX2_turn 15 = .ok (.if_icmp .ge 19, 3) := by decide +kernel
theorem dX2_turn_18 : decode cX2_turn 18 = .ok (.aload_n 1, 1) := by decide +kernel
theorem dX2_turn_19 : decode cX2_turn 19 = .ok (.aload_n 0, 1) := by decide +kernel
theorem dX2_turn_20 : decode cX2_turn 20 = .ok (.getfield 9, 3) := by decide +kernel
theorem dX2_turn_23 : decode cX2_turn 23 = .ok (.iload_n 2, 1) := by decide +kernel
theorem dX2_turn_24 : decode cX2_turn 24 = .ok (.iaload, 1) := by decide +kernel
theorem dX2_turn_25 : decode cX2_turn 25 = .ok (.invokevirtual 28, 3) := by decide +kernel
theorem dX2_turn_28 : decode cX2_turn 28 = .ok (.iinc 2 1, 3) := by decide +kernel
theorem dX2_turn_31 : decode cX2_turn 31 = .ok (.goto (-19), 3) := by decide +kernel
theorem dX2_turn_34 : decode cX2_turn 34 = .ok (.aload_n 1, 1) := by decide +kernel
theorem dX2_turn_35 : decode cX2_turn 35 = .ok (.invokevirtual 32, 3) := by decide +kernel
theorem dX2_turn_38 : decode cX2_turn 38 = .ok (.iconst 0, 1) := by decide +kernel
theorem dX2_turn_39 : decode cX2_turn 39 = .ok (.istore_n 2, 1) := by decide +kernel
theorem dX2_turn_40 : decode cX2_turn 40 = .ok (.iload_n 2, 1) := by decide +kernel
theorem dX2_turn_41 : decode cX2_turn 41 = .ok (.bipush 16, 2) := by decide +kernel
theorem dX2_turn_43 : decode cX2_turn 43 = .ok (.if_icmp .ge 20, 3) := by decide +kernel
theorem dX2_turn_46 : decode cX2_turn 46 = .ok (.aload_n 0, 1) := by decide +kernel
theorem dX2_turn_47 : decode cX2_turn 47 = .ok (.getfield 9, 3) := by decide +kernel
theorem dX2_turn_50 : decode cX2_turn 50 = .ok (.iload_n 2, 1) := by decide +kernel
theorem dX2_turn_51 : decode cX2_turn 51 = .ok (.aload_n 1, 1) := by decide +kernel
theorem dX2_turn_52 : decode cX2_turn 52 = .ok (.iload_n 2, 1) := by decide +kernel
theorem dX2_turn_53 : decode cX2_turn 53 = .ok (.invokevirtual 35, 3) := by decide +kernel
theorem dX2_turn_56 : decode cX2_turn 56 = .ok (.iastore, 1) := by decide +kernel
theorem dX2_turn_57 : decode cX2_turn 57 = .ok (.iinc 2 1, 3) := by decide +kernel
theorem dX2_turn_60 : decode cX2_turn 60 = .ok (.goto (-20), 3) := by decide +kernel
theorem dX2_turn_63 : decode cX2_turn 63 = .ok (.aload_n 0, 1) := by decide +kernel
theorem dX2_turn_64 : decode cX2_turn 64 = .ok (.dup, 1) := by decide +kernel
theorem dX2_turn_65 : decode cX2_turn 65 = .ok (.getfield 15, 3) := by decide +kernel
theorem dX2_turn_68 : decode cX2_turn 68 = .ok (.iconst 1, 1) := by decide +kernel
theorem dX2_turn_69 : decode cX2_turn 69 = .ok (.iadd, 1) := by decide +kernel
theorem dX2_turn_70 : decode cX2_turn 70 = .ok (.putfield 15, 3) := by decide +kernel
theorem dX2_turn_73 : decode cX2_turn 73 = .ok (.return_, 1) := by decide +kernel
theorem dX3_init_0 : decode cX3_init 0 = .ok (.aload_n 0, 1) := by decide +kernel
theorem dX3_init_1 : decode cX3_init 1 = .ok (.invokespecial 3, 3) := by decide +kernel
theorem dX3_init_4 : decode cX3_init 4 = .ok (.aload_n 0, 1) := by decide +kernel
theorem dX3_init_5 : decode cX3_init 5 = .ok (.new 9, 3) := by decide +kernel
theorem dX3_init_8 : decode cX3_init 8 = .ok (.dup, 1) := by decide +kernel
theorem dX3_init_9 : decode cX3_init 9 = .ok (.invokespecial 11, 3) := by decide +kernel
theorem dX3_init_12 : decode cX3_init 12 = .ok (.putfield 12, 3) := by decide +kernel
theorem dX3_init_15 : decode cX3_init 15 = .ok (.aload_n 0, 1) := by decide +kernel
theorem dX3_init_16 : decode cX3_init 16 = .ok (.bipush 8, 2) := by decide +kernel
theorem dX3_init_18 : decode cX3_init 18 = .ok (.newarray .int, 2) := by decide +kernel
theorem dX3_init_20 : decode cX3_init 20 = .ok (.putfield 18, 3) := by decide +kernel
theorem dX3_init_23 : decode cX3_init 23 = .ok (.aload_n 0, 1) := by decide +kernel
theorem dX3_init_24 : decode cX3_init 24 = .ok (.new 22, 3) := by decide +kernel
theorem dX3_init_27 : decode cX3_init 27 = .ok (.dup, 1) := by decide +kernel
theorem dX3_init_28 : decode cX3_init 28 = .ok (.invokespecial 24, 3) := by decide +kernel
theorem dX3_init_31 : decode cX3_init 31 = .ok (.putfield 25, 3) := by decide +kernel
theorem dX3_init_34 : decode cX3_init 34 = .ok (.aload_n 0, 1) := by decide +kernel
theorem dX3_init_35 : decode cX3_init 35 = .ok (.bipush 120, 2) := by decide +kernel
theorem dX3_init_37 : decode cX3_init 37 = .ok (.newarray .int, 2) := by decide +kernel
theorem dX3_init_39 : decode cX3_init 39 = .ok (.putfield 29, 3) := by decide +kernel
theorem dX3_init_42 : decode cX3_init 42 = .ok (.aload_n 0, 1) := by decide +kernel
theorem dX3_init_43 : decode cX3_init 43 = .ok (.bipush 120, 2) := by decide +kernel
theorem dX3_init_45 : decode cX3_init 45 = .ok (.newarray .int, 2) := by decide +kernel
theorem dX3_init_47 : decode cX3_init 47 = .ok (.putfield 32, 3) := by decide +kernel
theorem dX3_init_50 : decode cX3_init 50 = .ok (.aload_n 0, 1) := by decide +kernel
theorem dX3_init_51 : decode cX3_init 51 = .ok (.invokevirtual 35, 3) := by decide +kernel
theorem dX3_init_54 : decode cX3_init 54 = .ok (.return_, 1) := by decide +kernel
theorem dX3_forget_0 : decode cX3_forget 0 = .ok (.aload_n 0, 1) := by decide +kernel
theorem dX3_forget_1 : decode cX3_forget 1 = .ok (.iconst 0, 1) := by decide +kernel
theorem dX3_forget_2 : decode cX3_forget 2 = .ok (.putfield 38, 3) := by decide +kernel
theorem dX3_forget_5 : decode cX3_forget 5 = .ok (.aload_n 0, 1) := by decide +kernel
theorem dX3_forget_6 : decode cX3_forget 6 = .ok (.iconst 0, 1) := by decide +kernel
theorem dX3_forget_7 : decode cX3_forget 7 = .ok (.putfield 42, 3) := by decide +kernel
theorem dX3_forget_10 : decode cX3_forget 10 = .ok (.aload_n 0, 1) := by decide +kernel
theorem dX3_forget_11 : decode cX3_forget 11 = .ok (.iconst (-1), 1) := by decide +kernel
theorem dX3_forget_12 : decode cX3_forget 12 = .ok (.putfield 46, 3) := by decide +kernel
theorem dX3_forget_15 : decode cX3_forget 15 = .ok (.aload_n 0, 1) := by decide +kernel
theorem dX3_forget_16 : decode cX3_forget 16 = .ok (.iconst 0, 1) := by decide +kernel
theorem dX3_forget_17 : decode cX3_forget 17 = .ok (.putfield 49, 3) := by decide +kernel
theorem dX3_forget_20 : decode cX3_forget 20 = .ok (.aload_n 0, 1) := by decide +kernel
theorem dX3_forget_21 : decode cX3_forget 21 = .ok (.getfield 25, 3) := by decide +kernel
theorem dX3_forget_24 : decode cX3_forget 24 = .ok (.iconst 0, 1) := by decide +kernel
theorem dX3_forget_25 : decode cX3_forget 25 = .ok (.invokevirtual 52, 3) := by decide +kernel
theorem dX3_forget_28 : decode cX3_forget 28 = .ok (.return_, 1) := by decide +kernel
theorem dX3_goThrough_0 : decode cX3_goThrough 0 = .ok (.aload_n 0, 1) := by decide +kernel
theorem dX3_goThrough_1 : decode cX3_goThrough 1 = .ok (.invokevirtual 35, 3) := by decide +kernel
theorem dX3_goThrough_4 : decode cX3_goThrough 4 = .ok (.aload_n 0, 1) := by decide +kernel
theorem dX3_goThrough_5 : decode cX3_goThrough 5 = .ok (.iconst 1, 1) := by decide +kernel
theorem dX3_goThrough_6 : decode cX3_goThrough 6 = .ok (.putfield 38, 3) := by decide +kernel
theorem dX3_goThrough_9 : decode cX3_goThrough 9 = .ok (.aload_n 0, 1) := by decide +kernel
theorem dX3_goThrough_10 : decode cX3_goThrough 10 = .ok (.getfield 12, 3) := by decide +kernel
theorem dX3_goThrough_13 : decode cX3_goThrough 13 = .ok (.iload_n 3, 1) := by decide +kernel
theorem dX3_goThrough_14 : decode cX3_goThrough 14 = .ok (.iload 4, 2) := by decide +kernel
theorem dX3_goThrough_16 : decode cX3_goThrough 16 = .ok (.iload 5, 2) := by decide +kernel
theorem dX3_goThrough_18 : decode cX3_goThrough 18 = .ok (.iload 6, 2) := by decide +kernel
theorem dX3_goThrough_20 : decode cX3_goThrough 20 = .ok (.invokevirtual 56, 3) := by decide +kernel
theorem dX3_goThrough_23 : decode cX3_goThrough 23 = .ok (.iconst 0, 1) := by decide +kernel
theorem dX3_goThrough_24 : decode cX3_goThrough 24 = .ok (.istore 7, 2) := by decide +kernel
theorem dX3_goThrough_26 : decode cX3_goThrough 26 = .ok (.iload 7, 2) := by decide +kernel
theorem dX3_goThrough_28 : decode cX3_goThrough 28 = .ok (.aload_n 1, 1) := by decide +kernel
theorem dX3_goThrough_29 : decode cX3_goThrough 29 = .ok (.getfield 60, 3) := by decide +kernel
theorem dX3_goThrough_32 : decode cX3_goThrough 32 = .ok (.if_icmp .ge 22, 3) := by decide +kernel
theorem dX3_goThrough_35 : decode cX3_goThrough 35 = .ok (.aload_n 0, 1) := by decide +kernel
theorem dX3_goThrough_36 : decode cX3_goThrough 36 = .ok (.getfield 25, 3) := by decide +kernel
theorem dX3_goThrough_39 : decode cX3_goThrough 39 = .ok (.aload_n 1, 1) := by decide +kernel
theorem dX3_goThrough_40 : decode cX3_goThrough 40 = .ok (.iload 7, 2) := by decide +kernel
theorem dX3_goThrough_42 : decode cX3_goThrough 42 = .ok (.invokevirtual 63, 3) := by decide +kernel
theorem dX3_goThrough_45 : decode cX3_goThrough 45 = .ok (.invokevirtual 67, 3) := by decide +kernel
theorem dX3_goThrough_48 : decode cX3_goThrough 48 = .ok (.iinc 7 1, 3) := by decide +kernel
theorem dX3_goThrough_51 : decode cX3_goThrough 51 = .ok (.goto (-25), 3) := by decide +kernel
theorem dX3_goThrough_54 : decode cX3_goThrough 54 = .ok (.iconst 0, 1) := by decide +kernel
theorem dX3_goThrough_55 : decode cX3_goThrough 55 = .ok (.istore 7, 2) := by decide +kernel
theorem dX3_goThrough_57 : decode cX3_goThrough 57 = .ok (.iconst 0, 1) := by decide +kernel
theorem dX3_goThrough_58 : decode cX3_goThrough 58 = .ok (.istore 8, 2) := by decide +kernel
theorem dX3_goThrough_60 : decode cX3_goThrough 60 = .ok (.iload 8, 2) := by decide +kernel
theorem dX3_goThrough_62 : decode cX3_goThrough 62 = .ok (.bipush 120, 2) := by decide +kernel
theorem dX3_goThrough_64 : decode cX3_goThrough 64 = .ok (.if_icmp .ge 111, 3) := by decide +kernel
theorem dX3_goThrough_67 : decode cX3_goThrough 67 = .ok (.iload 7, 2) := by decide +kernel
theorem dX3_goThrough_69 : decode cX3_goThrough 69 = .ok (.aload_n 0, 1) := by decide +kernel
theorem dX3_goThrough_70 : decode cX3_goThrough 70 = .ok (.getfield 25, 3) := by decide +kernel
theorem dX3_goThrough_73 : decode cX3_goThrough 73 = .ok (.getfield 60, 3) := by decide +kernel
theorem dX3_goThrough_76 : decode cX3_goThrough 76 = .ok (.if_icmp .ge 99, 3) := by decide +kernel
theorem dX3_goThrough_79 : decode cX3_goThrough 79 = .ok (.aload_n 0, 1) := by decide +kernel
theorem dX3_goThrough_80 : decode cX3_goThrough 80 = .ok (.iload 7, 2) := by decide +kernel
theorem dX3_goThrough_82 : decode cX3_goThrough 82 = .ok (.aload_n 2, 1) := by decide +kernel
theorem dX3_goThrough_83 : decode cX3_goThrough 83 = .ok (.invokevirtual 70, 3) := by decide +kernel
theorem dX3_goThrough_86 : decode cX3_goThrough 86 = .ok (.ifCond .ne 12, 3) := by decide +kernel
theorem dX3_goThrough_89 : decode cX3_goThrough 89 = .ok (.aload_n 0, 1) := by decide +kernel
theorem dX3_goThrough_90 : decode cX3_goThrough 90 = .ok (.iload 7, 2) := by decide +kernel
theorem dX3_goThrough_92 : decode cX3_goThrough 92 = .ok (.putfield 46, 3) := by decide +kernel
theorem dX3_goThrough_95 : decode cX3_goThrough 95 = .ok (.bipush (-3), 2) := by decide +kernel
theorem dX3_goThrough_97 : decode cX3_goThrough 97 = .ok (.ireturn, 1) := by decide +kernel
theorem dX3_goThrough_98 : decode cX3_goThrough 98 = .ok (.aload_n 0, 1) := by decide +kernel
theorem dX3_goThrough_99 : decode cX3_goThrough 99 = .ok (.getfield 29, 3) := by decide +kernel
theorem dX3_goThrough_102 : decode cX3_goThrough 102 = .ok (.iload 8, 2) := by decide +kernel
theorem dX3_goThrough_104 : decode cX3_goThrough 104 = .ok (.iload 7, 2) := by decide +kernel
theorem dX3_goThrough_106 : decode cX3_goThrough 106 = .ok (.iastore, 1) := by decide +kernel
theorem dX3_goThrough_107 : decode cX3_goThrough 107 = .ok (.aload_n 0, 1) := by decide +kernel
theorem dX3_goThrough_108 : decode cX3_goThrough 108 = .ok (.getfield 32, 3) := by decide +kernel
theorem dX3_goThrough_111 : decode cX3_goThrough 111 = .ok (.iload 8, 2) := by decide +kernel
theorem dX3_goThrough_113 : decode cX3_goThrough 113 = .ok (.aload_n 0, 1) := by decide +kernel
theorem dX3_goThrough_114 : decode cX3_goThrough 114 = .ok (.getfield 12, 3) := by decide +kernel
theorem dX3_goThrough_117 : decode cX3_goThrough 117 = .ok (.getfield 74, 3) := by decide +kernel
theorem dX3_goThrough_120 : decode cX3_goThrough 120 = .ok (.iastore, 1) := by decide +kernel
theorem dX3_goThrough_121 : decode cX3_goThrough 121 = .ok (.aload_n 0, 1) := by decide +kernel
theorem dX3_goThrough_122 : decode cX3_goThrough 122 = .ok (.iload 8, 2) := by decide +kernel
theorem dX3_goThrough_124 : decode cX3_goThrough 124 = .ok (.iconst 1, 1) := by decide +kernel
theorem dX3_goThrough_125 : decode cX3_goThrough 125 = .ok (.iadd, 1) := by decide +kernel
theorem dX3_goThrough_126 : decode cX3_goThrough 126 = .ok (.putfield 42, 3) := by decide +kernel
theorem dX3_goThrough_129 : decode cX3_goThrough 129 = .ok (.aload_n 0, 1) := by decide +kernel
theorem dX3_goThrough_130 : decode cX3_goThrough 130 = .ok (.dup, 1) := by decide +kernel
theorem dX3_goThrough_131 : decode cX3_goThrough 131 = .ok (.getfield 49, 3) := by decide +kernel
theorem dX3_goThrough_134 : decode cX3_goThrough 134 = .ok (.aload_n 0, 1) := by decide +kernel
theorem dX3_goThrough_135 : decode cX3_goThrough 135 = .ok (.getfield 25, 3) := by decide +kernel
theorem dX3_goThrough_138 : decode cX3_goThrough 138 = .ok (.iload 7, 2) := by decide +kernel
theorem dX3_goThrough_140 : decode cX3_goThrough 140 = .ok (.invokevirtual 77, 3) := by decide +kernel
theorem dX3_goThrough_143 : decode cX3_goThrough 143 = .ok (.iadd, 1) := by decide +kernel
theorem dX3_goThrough_144 : decode cX3_goThrough 144 = .ok (.putfield 49, 3) := by decide +kernel
theorem dX3_goThrough_147 : decode cX3_goThrough 147 = .ok (.aload_n 0, 1) := by decide +kernel
theorem dX3_goThrough_148 : decode cX3_goThrough 148 = .ok (.getfield 12, 3) := by decide +kernel
theorem dX3_goThrough_151 : decode cX3_goThrough 151 = .ok (.aload_n 2, 1) := by decide +kernel
theorem dX3_goThrough_152 : decode cX3_goThrough 152 = .ok (.invokevirtual 80, 3) := by decide +kernel
theorem dX3_goThrough_155 : decode cX3_goThrough 155 = .ok (.iload 7, 2) := by decide +kernel
theorem dX3_goThrough_157 : decode cX3_goThrough 157 = .ok (.aload_n 0, 1) := by decide +kernel
theorem dX3_goThrough_158 : decode cX3_goThrough 158 = .ok (.getfield 25, 3) := by decide +kernel
theorem dX3_goThrough_161 : decode cX3_goThrough 161 = .ok (.iload 7, 2) := by decide +kernel
theorem dX3_goThrough_163 : decode cX3_goThrough 163 = .ok (.invokevirtual 84, 3) := by decide +kernel
theorem dX3_goThrough_166 : decode cX3_goThrough 166 = .ok (.iadd, 1) := by decide +kernel
theorem dX3_goThrough_167 : decode cX3_goThrough 167 = .ok (.istore 7, 2) := by decide +kernel
theorem dX3_goThrough_169 : decode cX3_goThrough 169 = .ok (.iinc 8 1, 3) := by decide +kernel
theorem dX3_goThrough_172 : decode cX3_goThrough 172 = .ok (.goto (-112), 3) := by decide +kernel
theorem dX3_goThrough_175 : decode cX3_goThrough 175 = .ok (.aload_n 0, 1) := by decide +kernel
theorem dX3_goThrough_176 : decode cX3_goThrough 176 = .ok (.getfield 42, 3) := by decide +kernel
theorem dX3_goThrough_179 : decode cX3_goThrough 179 = .ok (.ireturn, 1) := by decide +kernel
theorem dX3_isGood_0 : decode cX3_isGood 0 = .ok (.aload_n 0, 1) := by decide +kernel
theorem dX3_isGood_1 : decode cX3_isGood 1 = .ok (.getfield 25, 3) := by decide +kernel
theorem dX3_isGood_4 : decode cX3_isGood 4 = .ok (.iload_n 1, 1) := by decide +kernel
theorem dX3_isGood_5 : decode cX3_isGood 5 = .ok (.invokevirtual 87, 3) := by decide +kernel
theorem dX3_isGood_8 : decode cX3_isGood 8 = .ok (.ifCond .ne 5, 3) := by decide +kernel
theorem dX3_isGood_11 : decode cX3_isGood 11 = .ok (.iconst 0, 1) := by decide +kernel
theorem dX3_isGood_12 : decode cX3_isGood 12 = .ok (.ireturn, 1) := by decide +kernel
theorem dX3_isGood_13 : decode cX3_isGood 13 = .ok (.aload_n 0, 1) := by decide +kernel
theorem dX3_isGood_14 : decode cX3_isGood 14 = .ok (.getfield 25, 3) := by decide +kernel
theorem dX3_isGood_17 : decode cX3_isGood 17 = .ok (.iload_n 1, 1) := by decide +kernel
theorem dX3_isGood_18 : decode cX3_isGood 18 = .ok (.invokevirtual 77, 3) := by decide +kernel
theorem dX3_isGood_21 : decode cX3_isGood 21 = .ok (.istore_n 3, 1) := by decide +kernel
theorem dX3_isGood_22 : decode cX3_isGood 22 = .ok (.aload_n 0, 1) := by decide +kernel
theorem dX3_isGood_23 : decode cX3_isGood 23 = .ok (.getfield 25, 3) := by decide +kernel
theorem dX3_isGood_26 : decode cX3_isGood 26 = .ok (.iload_n 1, 1) := by decide +kernel
theorem dX3_isGood_27 : decode cX3_isGood 27 = .ok (.invokevirtual 63, 3) := by decide +kernel
theorem dX3_isGood_30 : decode cX3_isGood 30 = .ok (.iconst 3, 1) := by decide +kernel
theorem dX3_isGood_31 : decode cX3_isGood 31 = .ok (.if_icmp .ne 17, 3) := by decide +kernel
theorem dX3_isGood_34 : decode cX3_isGood 34 = .ok (.iload_n 3, 1) := by decide +kernel
theorem dX3_isGood_35 : decode cX3_isGood 35 = .ok (.iconst 1, 1) := by decide +kernel
theorem dX3_isGood_36 : decode cX3_isGood 36 = .ok (.if_icmp .lt 10, 3) := by decide +kernel
theorem dX3_isGood_39 : decode cX3_isGood 39 = .ok (.iload_n 3, 1) := by decide +kernel
theorem dX3_isGood_40 : decode cX3_isGood 40 = .ok (.sipush 1000, 3) := by decide +kernel
theorem dX3_isGood_43 : decode cX3_isGood 43 = .ok (.if_icmp .le 5, 3) := by decide +kernel
theorem dX3_isGood_46 : decode cX3_isGood 46 = .ok (.iconst 0, 1) := by decide +kernel
theorem dX3_isGood_47 : decode cX3_isGood 47 = .ok (.ireturn, 1) := by decide +kernel
theorem dX3_isGood_48 : decode cX3_isGood 48 = .ok (.iconst 0, 1) := by decide +kernel
theorem dX3_isGood_49 : decode cX3_isGood 49 = .ok (.istore 4, 2) := by decide +kernel
theorem dX3_isGood_51 : decode cX3_isGood 51 = .ok (.iload 4, 2) := by decide +kernel
theorem dX3_isGood_53 : decode cX3_isGood 53 = .ok (.iload_n 3, 1) := by decide +kernel
theorem dX3_isGood_54 : decode cX3_isGood 54 = .ok (.if_icmp .ge 17, 3) := by decide +kernel
theorem dX3_isGood_57 : decode cX3_isGood 57 = .ok (.aload_n 0, 1) := by decide +kernel
theorem dX3_isGood_58 : decode cX3_isGood 58 = .ok (.getfield 12, 3) := by decide +kernel
theorem dX3_isGood_61 : decode cX3_isGood 61 = .ok (.aload_n 2, 1) := by decide +kernel
theorem dX3_isGood_62 : decode cX3_isGood 62 = .ok (.invokevirtual 80, 3) := by decide +kernel
theorem dX3_isGood_65 : decode cX3_isGood 65 = .ok (.iinc 4 1, 3) := by decide +kernel
theorem dX3_isGood_68 : decode cX3_isGood 68 = .ok (.goto (-17), 3) := by decide +kernel
theorem dX3_isGood_71 : decode cX3_isGood 71 = .ok (.aload_n 0, 1) := by decide +kernel
theorem dX3_isGood_72 : decode cX3_isGood 72 = .ok (.getfield 25, 3) := by decide +kernel
theorem dX3_isGood_75 : decode cX3_isGood 75 = .ok (.iload_n 1, 1) := by decide +kernel
theorem dX3_isGood_76 : decode cX3_isGood 76 = .ok (.aload_n 0, 1) := by decide +kernel
theorem dX3_isGood_77 : decode cX3_isGood 77 = .ok (.getfield 18, 3) := by decide +kernel
theorem dX3_isGood_80 : decode cX3_isGood 80 = .ok (.invokevirtual 91, 3) := by decide +kernel
theorem dX3_isGood_83 : decode cX3_isGood 83 = .ok (.aload_n 2, 1) := by decide +kernel
theorem dX3_isGood_84 : decode cX3_isGood 84 = .ok (.aload_n 0, 1) := by decide +kernel
theorem dX3_isGood_85 : decode cX3_isGood 85 = .ok (.getfield 12, 3) := by decide +kernel
theorem dX3_isGood_88 : decode cX3_isGood 88 = .ok (.aload_n 0, 1) := by decide +kernel
theorem dX3_isGood_89 : decode cX3_isGood 89 = .ok (.getfield 25, 3) := by decide +kernel
theorem dX3_isGood_92 : decode cX3_isGood 92 = .ok (.iload_n 1, 1) := by decide +kernel
theorem dX3_isGood_93 : decode cX3_isGood 93 = .ok (.aload_n 0, 1) := by decide +kernel
theorem dX3_isGood_94 : decode cX3_isGood 94 = .ok (.getfield 18, 3) := by decide +kernel
theorem dX3_isGood_97 : decode cX3_isGood 97 = .ok (.invokevirtual 94, 3) := by decide +kernel
theorem dX3_isGood_100 : decode cX3_isGood 100 = .ok (.iload_n 1, 1) := by decide +kernel
theorem dX3_isGood_101 : decode cX3_isGood 101 = .ok (.aload_n 0, 1) := by decide +kernel
theorem dX3_isGood_102 : decode cX3_isGood 102 = .ok (.getfield 25, 3) := by decide +kernel
theorem dX3_isGood_105 : decode cX3_isGood 105 = .ok (.iload_n 1, 1) := by decide +kernel
theorem dX3_isGood_106 : decode cX3_isGood 106 = .ok (.invokevirtual 84, 3) := by decide +kernel
theorem dX3_isGood_109 : decode cX3_isGood 109 = .ok (.iadd, 1) := by decide +kernel
theorem dX3_isGood_110 : decode cX3_isGood 110 = .ok (.bipush 8, 2) := by decide +kernel
theorem dX3_isGood_112 : decode cX3_isGood 112 = .ok (.isub, 1) := by decide +kernel
theorem dX3_isGood_113 : decode cX3_isGood 113 = .ok (.istore 4, 2) := by decide +kernel
theorem dX3_isGood_115 : decode cX3_isGood 115 = .ok (.iconst 0, 1) := by decide +kernel
theorem dX3_isGood_116 : decode cX3_isGood 116 = .ok (.istore 5, 2) := by decide +kernel
theorem dX3_isGood_118 : decode cX3_isGood 118 = .ok (.iload 5, 2) := by decide +kernel
theorem dX3_isGood_120 : decode cX3_isGood 120 = .ok (.bipush 8, 2) := by decide +kernel
theorem dX3_isGood_122 : decode cX3_isGood 122 = .ok (.if_icmp .ge 32, 3) := by decide +kernel
theorem dX3_isGood_125 : decode cX3_isGood 125 = .ok (.aload_n 0, 1) := by decide +kernel
theorem dX3_isGood_126 : decode cX3_isGood 126 = .ok (.getfield 25, 3) := by decide +kernel
theorem dX3_isGood_129 : decode cX3_isGood 129 = .ok (.iload 4, 2) := by decide +kernel
theorem dX3_isGood_131 : decode cX3_isGood 131 = .ok (.iload 5, 2) := by decide +kernel
theorem dX3_isGood_133 : decode cX3_isGood 133 = .ok (.iadd, 1) := by decide +kernel
theorem dX3_isGood_134 : decode cX3_isGood 134 = .ok (.invokevirtual 63, 3) := by decide +kernel
theorem dX3_isGood_137 : decode cX3_isGood 137 = .ok (.aload_n 2, 1) := by decide +kernel
theorem dX3_isGood_138 : decode cX3_isGood 138 = .ok (.iload 5, 2) := by decide +kernel
theorem dX3_isGood_140 : decode cX3_isGood 140 = .ok (.invokevirtual 100, 3) := by decide +kernel
theorem dX3_isGood_143 : decode cX3_isGood 143 = .ok (.if_icmp .eq 5, 3) := by decide +kernel
theorem dX3_isGood_146 : decode cX3_isGood 146 = .ok (.iconst 0, 1) := by decide +kernel
theorem dX3_isGood_147 : decode cX3_isGood 147 = .ok (.ireturn, 1) := by decide +kernel
theorem dX3_isGood_148 : decode cX3_isGood 148 = .ok (.iinc 5 1, 3) := by decide +kernel
theorem dX3_isGood_151 : decode cX3_isGood 151 = .ok (.goto (-33), 3) := by decide +kernel
theorem dX3_isGood_154 : decode cX3_isGood 154 = .ok (.iconst 1, 1) := by decide +kernel
theorem dX3_isGood_155 : decode cX3_isGood 155 = .ok (.ireturn, 1) := by decide +kernel
theorem dX3_answer_0 : decode cX3_answer 0 = .ok (.aload_n 0, 1) := by decide +kernel
theorem dX3_answer_1 : decode cX3_answer 1 = .ok (.getfield 38, 3) := by decide +kernel
theorem dX3_answer_4 : decode cX3_answer 4 = .ok (.ifCond .ne 5, 3) := by decide +kernel
theorem dX3_answer_7 : decode cX3_answer 7 = .ok (.iconst (-1), 1) := by decide +kernel
theorem dX3_answer_8 : decode cX3_answer 8 = .ok (.ireturn, 1) := by decide +kernel
theorem dX3_answer_9 : decode cX3_answer 9 = .ok (.iload_n 1, 1) := by decide +kernel
theorem dX3_answer_10 : decode cX3_answer 10 = .ok (.tableswitch 78 0 3 #[30, 47, 52, 57], 30) := by decide +kernel
theorem dX3_answer_40 : decode cX3_answer 40 = .ok (.aload_n 0, 1) := by decide +kernel
theorem dX3_answer_41 : decode cX3_answer 41 = .ok (.getfield 46, 3) := by decide +kernel
theorem dX3_answer_44 : decode cX3_answer 44 = .ok (.iconst (-1), 1) := by decide +kernel
theorem dX3_answer_45 : decode cX3_answer 45 = .ok (.if_icmp .ne 7, 3) := by decide +kernel
theorem dX3_answer_48 : decode cX3_answer 48 = .ok (.iconst (-1), 1) := by decide +kernel
theorem dX3_answer_49 : decode cX3_answer 49 = .ok (.goto 7, 3) := by decide +kernel
theorem dX3_answer_52 : decode cX3_answer 52 = .ok (.aload_n 0, 1) := by decide +kernel
theorem dX3_answer_53 : decode cX3_answer 53 = .ok (.getfield 42, 3) := by decide +kernel
theorem dX3_answer_56 : decode cX3_answer 56 = .ok (.ireturn, 1) := by decide +kernel
theorem dX3_answer_57 : decode cX3_answer 57 = .ok (.aload_n 0, 1) := by decide +kernel
theorem dX3_answer_58 : decode cX3_answer 58 = .ok (.getfield 46, 3) := by decide +kernel
theorem dX3_answer_61 : decode cX3_answer 61 = .ok (.ireturn, 1) := by decide +kernel
theorem dX3_answer_62 : decode cX3_answer 62 = .ok (.aload_n 0, 1) := by decide +kernel
theorem dX3_answer_63 : decode cX3_answer 63 = .ok (.getfield 42, 3) := by decide +kernel
theorem dX3_answer_66 : decode cX3_answer 66 = .ok (.ireturn, 1) := by decide +kernel
theorem dX3_answer_67 : decode cX3_answer 67 = .ok (.aload_n 0, 1) := by decide +kernel
theorem dX3_answer_68 : decode cX3_answer 68 = .ok (.aload_n 0, 1) := by decide +kernel
theorem dX3_answer_69 : decode cX3_answer 69 = .ok (.getfield 42, 3) := by decide +kernel
theorem dX3_answer_72 : decode cX3_answer 72 = .ok (.iconst 1, 1) := by decide +kernel
theorem dX3_answer_73 : decode cX3_answer 73 = .ok (.isub, 1) := by decide +kernel
theorem dX3_answer_74 : decode cX3_answer 74 = .ok (.iconst 0, 1) := by decide +kernel
theorem dX3_answer_75 : decode cX3_answer 75 = .ok (.invokevirtual 103, 3) := by decide +kernel
theorem dX3_answer_78 : decode cX3_answer 78 = .ok (.iconst 2, 1) := by decide +kernel
theorem dX3_answer_79 : decode cX3_answer 79 = .ok (.if_icmp .ne 7, 3) := by decide +kernel
theorem dX3_answer_82 : decode cX3_answer 82 = .ok (.iconst 1, 1) := by decide +kernel
theorem dX3_answer_83 : decode cX3_answer 83 = .ok (.goto 4, 3) := by decide +kernel
theorem dX3_answer_86 : decode cX3_answer 86 = .ok (.iconst 0, 1) := by decide +kernel
theorem dX3_answer_87 : decode cX3_answer 87 = .ok (.ireturn, 1) := by decide +kernel
theorem dX3_answer_88 : decode cX3_answer 88 = .ok (.aload_n 0, 1) := by decide +kernel
theorem dX3_answer_89 : decode cX3_answer 89 = .ok (.getfield 49, 3) := by decide +kernel
theorem dX3_answer_92 : decode cX3_answer 92 = .ok (.ireturn, 1) := by decide +kernel
theorem dX3_partOf_0 : decode cX3_partOf 0 = .ok (.iload_n 1, 1) := by decide +kernel
theorem dX3_partOf_1 : decode cX3_partOf 1 = .ok (.ifCond .lt 17, 3) := by decide +kernel
theorem dX3_partOf_4 : decode cX3_partOf 4 = .ok (.iload_n 1, 1) := by decide +kernel
theorem dX3_partOf_5 : decode cX3_partOf 5 = .ok (.aload_n 0, 1) := by decide +kernel
theorem dX3_partOf_6 : decode cX3_partOf 6 = .ok (.getfield 42, 3) := by decide +kernel
theorem dX3_partOf_9 : decode cX3_partOf 9 = .ok (.if_icmp .ge 9, 3) := by decide +kernel
theorem dX3_partOf_12 : decode cX3_partOf 12 = .ok (.iload_n 1, 1) := by decide +kernel
theorem dX3_partOf_13 : decode cX3_partOf 13 = .ok (.bipush 120, 2) := by decide +kernel
theorem dX3_partOf_15 : decode cX3_partOf 15 = .ok (.if_icmp .lt 5, 3) := by decide +kernel
theorem dX3_partOf_18 : decode cX3_partOf 18 = .ok (.iconst (-1), 1) := by decide +kernel
theorem dX3_partOf_19 : decode cX3_partOf 19 = .ok (.ireturn, 1) := by decide +kernel
theorem dX3_partOf_20 : decode cX3_partOf 20 = .ok (.aload_n 0, 1) := by decide +kernel
theorem dX3_partOf_21 : decode cX3_partOf 21 = .ok (.getfield 29, 3) := by decide +kernel
theorem dX3_partOf_24 : decode cX3_partOf 24 = .ok (.iload_n 1, 1) := by decide +kernel
theorem dX3_partOf_25 : decode cX3_partOf 25 = .ok (.iaload, 1) := by decide +kernel
theorem dX3_partOf_26 : decode cX3_partOf 26 = .ok (.istore_n 3, 1) := by decide +kernel
theorem dX3_partOf_27 : decode cX3_partOf 27 = .ok (.iload_n 2, 1) := by decide +kernel
theorem dX3_partOf_28 : decode cX3_partOf 28 = .ok (.ifCond .ne 12, 3) := by decide +kernel
theorem dX3_partOf_31 : decode cX3_partOf 31 = .ok (.aload_n 0, 1) := by decide +kernel
theorem dX3_partOf_32 : decode cX3_partOf 32 = .ok (.getfield 25, 3) := by decide +kernel
theorem dX3_partOf_35 : decode cX3_partOf 35 = .ok (.iload_n 3, 1) := by decide +kernel
theorem dX3_partOf_36 : decode cX3_partOf 36 = .ok (.invokevirtual 63, 3) := by decide +kernel
theorem dX3_partOf_39 : decode cX3_partOf 39 = .ok (.ireturn, 1) := by decide +kernel
theorem dX3_partOf_40 : decode cX3_partOf 40 = .ok (.iload_n 2, 1) := by decide +kernel
theorem dX3_partOf_41 : decode cX3_partOf 41 = .ok (.iconst 1, 1) := by decide +kernel
theorem dX3_partOf_42 : decode cX3_partOf 42 = .ok (.if_icmp .ne 10, 3) := by decide +kernel
theorem dX3_partOf_45 : decode cX3_partOf 45 = .ok (.aload_n 0, 1) := by decide +kernel
theorem dX3_partOf_46 : decode cX3_partOf 46 = .ok (.getfield 32, 3) := by decide +kernel
theorem dX3_partOf_49 : decode cX3_partOf 49 = .ok (.iload_n 1, 1) := by decide +kernel
theorem dX3_partOf_50 : decode cX3_partOf 50 = .ok (.iaload, 1) := by decide +kernel
theorem dX3_partOf_51 : decode cX3_partOf 51 = .ok (.ireturn, 1) := by decide +kernel
theorem dX3_partOf_52 : decode cX3_partOf 52 = .ok (.aload_n 0, 1) := by decide +kernel
theorem dX3_partOf_53 : decode cX3_partOf 53 = .ok (.getfield 25, 3) := by decide +kernel
theorem dX3_partOf_56 : decode cX3_partOf 56 = .ok (.iload_n 3, 1) := by decide +kernel
theorem dX3_partOf_57 : decode cX3_partOf 57 = .ok (.iconst 1, 1) := by decide +kernel
theorem dX3_partOf_58 : decode cX3_partOf 58 = .ok (.iadd, 1) := by decide +kernel
theorem dX3_partOf_59 : decode cX3_partOf 59 = .ok (.invokevirtual 63, 3) := by decide +kernel
theorem dX3_partOf_62 : decode cX3_partOf 62 = .ok (.istore 4, 2) := by decide +kernel
theorem dX3_partOf_64 : decode cX3_partOf 64 = .ok (.iload_n 2, 1) := by decide +kernel
theorem dX3_partOf_65 : decode cX3_partOf 65 = .ok (.iconst 2, 1) := by decide +kernel
theorem dX3_partOf_66 : decode cX3_partOf 66 = .ok (.if_icmp .ne 6, 3) := by decide +kernel
theorem dX3_partOf_69 : decode cX3_partOf 69 = .ok (.iload 4, 2) := by decide +kernel
theorem dX3_partOf_71 : decode cX3_partOf 71 = .ok (.ireturn, 1) := by decide +kernel
theorem dX3_partOf_72 : decode cX3_partOf 72 = .ok (.iload_n 2, 1) := by decide +kernel
theorem dX3_partOf_73 : decode cX3_partOf 73 = .ok (.iconst 3, 1) := by decide +kernel
theorem dX3_partOf_74 : decode cX3_partOf 74 = .ok (.isub, 1) := by decide +kernel
theorem dX3_partOf_75 : decode cX3_partOf 75 = .ok (.iload 4, 2) := by decide +kernel
theorem dX3_partOf_77 : decode cX3_partOf 77 = .ok (.if_icmp .ge 18, 3) := by decide +kernel
theorem dX3_partOf_80 : decode cX3_partOf 80 = .ok (.aload_n 0, 1) := by decide +kernel
theorem dX3_partOf_81 : decode cX3_partOf 81 = .ok (.getfield 25, 3) := by decide +kernel
theorem dX3_partOf_84 : decode cX3_partOf 84 = .ok (.iload_n 3, 1) := by decide +kernel
theorem dX3_partOf_85 : decode cX3_partOf 85 = .ok (.iload_n 2, 1) := by decide +kernel
theorem dX3_partOf_86 : decode cX3_partOf 86 = .ok (.iadd, 1) := by decide +kernel
theorem dX3_partOf_87 : decode cX3_partOf 87 = .ok (.iconst 1, 1) := by decide +kernel
theorem dX3_partOf_88 : decode cX3_partOf 88 = .ok (.isub, 1) := by decide +kernel
theorem dX3_partOf_89 : decode cX3_partOf 89 = .ok (.invokevirtual 63, 3) := by decide +kernel
theorem dX3_partOf_92 : decode cX3_partOf 92 = .ok (.goto 4, 3) := by decide +kernel
theorem dX3_partOf_95 : decode cX3_partOf 95 = .ok (.iconst (-1), 1) := by decide +kernel
theorem dX3_partOf_96 : decode cX3_partOf 96 = .ok (.ireturn, 1) := by decide +kernel
