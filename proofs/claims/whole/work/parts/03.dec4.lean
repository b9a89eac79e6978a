theorem dX4_init_0 : decode cX4_init 0 = .ok (.aload_n 0, 1) := by decide +kernel
theorem dX4_init_1 : decode cX4_init 1 = .ok (.invokespecial 1, 3) := by decide +kernel
theorem dX4_init_4 : decode cX4_init 4 = .ok (.aload_n 0, 1) := by decide +kernel
theorem dX4_init_5 : decode cX4_init 5 = .ok (.new 7, 3) := by decide +kernel
theorem dX4_init_8 : decode cX4_init 8 = .ok (.dup, 1) := by decide +kernel
theorem dX4_init_9 : decode cX4_init 9 = .ok (.invokespecial 9, 3) := by decide +kernel
theorem dX4_init_12 : decode cX4_init 12 = .ok (.putfield 10, 3) := by decide +kernel
theorem dX4_init_15 : decode cX4_init 15 = .ok (.aload_n 0, 1) := by decide +kernel
theorem dX4_init_16 : decode cX4_init 16 = .ok (.new 16, 3) := by decide +kernel
theorem dX4_init_19 : decode cX4_init 19 = .ok (.dup, 1) := by decide +kernel
theorem dX4_init_20 : decode cX4_init 20 = .ok (.invokespecial 18, 3) := by decide +kernel
theorem dX4_init_23 : decode cX4_init 23 = .ok (.putfield 19, 3) := by decide +kernel
theorem dX4_init_26 : decode cX4_init 26 = .ok (.aload_n 0, 1) := by decide +kernel
theorem dX4_init_27 : decode cX4_init 27 = .ok (.new 23, 3) := by decide +kernel
theorem dX4_init_30 : decode cX4_init 30 = .ok (.dup, 1) := by decide +kernel
theorem dX4_init_31 : decode cX4_init 31 = .ok (.invokespecial 25, 3) := by decide +kernel
theorem dX4_init_34 : decode cX4_init 34 = .ok (.putfield 26, 3) := by decide +kernel
theorem dX4_init_37 : decode cX4_init 37 = .ok (.aload_n 0, 1) := by decide +kernel
theorem dX4_init_38 : decode cX4_init 38 = .ok (.bipush 8, 2) := by decide +kernel
theorem dX4_init_40 : decode cX4_init 40 = .ok (.newarray .int, 2) := by decide +kernel
theorem dX4_init_42 : decode cX4_init 42 = .ok (.putfield 30, 3) := by decide +kernel
theorem dX4_init_45 : decode cX4_init 45 = .ok (.aload_n 0, 1) := by decide +kernel
theorem dX4_init_46 : decode cX4_init 46 = .ok (.bipush 40, 2) := by decide +kernel
theorem dX4_init_48 : decode cX4_init 48 = .ok (.newarray .int, 2) := by decide +kernel
theorem dX4_init_50 : decode cX4_init 50 = .ok (.putfield 34, 3) := by decide +kernel
theorem dX4_init_53 : decode cX4_init 53 = .ok (.aload_n 0, 1) := by decide +kernel
theorem dX4_init_54 : decode cX4_init 54 = .ok (.iconst 2, 1) := by decide +kernel
theorem dX4_init_55 : decode cX4_init 55 = .ok (.newarray .int, 2) := by decide +kernel
theorem dX4_init_57 : decode cX4_init 57 = .ok (.putfield 37, 3) := by decide +kernel
theorem dX4_init_60 : decode cX4_init 60 = .ok (.aload_n 0, 1) := by decide +kernel
theorem dX4_init_61 : decode cX4_init 61 = .ok (.new 40, 3) := by decide +kernel
theorem dX4_init_64 : decode cX4_init 64 = .ok (.dup, 1) := by decide +kernel
theorem dX4_init_65 : decode cX4_init 65 = .ok (.invokespecial 42, 3) := by decide +kernel
theorem dX4_init_68 : decode cX4_init 68 = .ok (.putfield 43, 3) := by decide +kernel
theorem dX4_init_71 : decode cX4_init 71 = .ok (.aload_n 0, 1) := by decide +kernel
theorem dX4_init_72 : decode cX4_init 72 = .ok (.iconst 0, 1) := by decide +kernel
theorem dX4_init_73 : decode cX4_init 73 = .ok (.putfield 47, 3) := by decide +kernel
theorem dX4_init_76 : decode cX4_init 76 = .ok (.aload_n 0, 1) := by decide +kernel
theorem dX4_init_77 : decode cX4_init 77 = .ok (.iconst 1, 1) := by decide +kernel
theorem dX4_init_78 : decode cX4_init 78 = .ok (.putfield 51, 3) := by decide +kernel
theorem dX4_init_81 : decode cX4_init 81 = .ok (.aload_n 0, 1) := by decide +kernel
theorem dX4_init_82 : decode cX4_init 82 = .ok (.iconst 0, 1) := by decide +kernel
theorem dX4_init_83 : decode cX4_init 83 = .ok (.putfield 55, 3) := by decide +kernel
theorem dX4_init_86 : decode cX4_init 86 = .ok (.return_, 1) := by decide +kernel
theorem dX4_begin_0 : decode cX4_begin 0 = .ok (.aload_n 0, 1) := by decide +kernel
theorem dX4_begin_1 : decode cX4_begin 1 = .ok (.getfield 19, 3) := by decide +kernel
theorem dX4_begin_4 : decode cX4_begin 4 = .ok (.iconst 0, 1) := by decide +kernel
theorem dX4_begin_5 : decode cX4_begin 5 = .ok (.invokevirtual 58, 3) := by decide +kernel
theorem dX4_begin_8 : decode cX4_begin 8 = .ok (.aload_n 0, 1) := by decide +kernel
theorem dX4_begin_9 : decode cX4_begin 9 = .ok (.getfield 26, 3) := by decide +kernel
theorem dX4_begin_12 : decode cX4_begin 12 = .ok (.iload_n 1, 1) := by decide +kernel
theorem dX4_begin_13 : decode cX4_begin 13 = .ok (.iload_n 2, 1) := by decide +kernel
theorem dX4_begin_14 : decode cX4_begin 14 = .ok (.iload_n 3, 1) := by decide +kernel
theorem dX4_begin_15 : decode cX4_begin 15 = .ok (.iload 4, 2) := by decide +kernel
theorem dX4_begin_17 : decode cX4_begin 17 = .ok (.invokevirtual 62, 3) := by decide +kernel
theorem dX4_begin_20 : decode cX4_begin 20 = .ok (.aload_n 0, 1) := by decide +kernel
theorem dX4_begin_21 : decode cX4_begin 21 = .ok (.getfield 19, 3) := by decide +kernel
theorem dX4_begin_24 : decode cX4_begin 24 = .ok (.iconst 0, 1) := by decide +kernel
theorem dX4_begin_25 : decode cX4_begin 25 = .ok (.aload_n 0, 1) := by decide +kernel
theorem dX4_begin_26 : decode cX4_begin 26 = .ok (.getfield 30, 3) := by decide +kernel
theorem dX4_begin_29 : decode cX4_begin 29 = .ok (.invokevirtual 66, 3) := by decide +kernel
theorem dX4_begin_32 : decode cX4_begin 32 = .ok (.aload_n 0, 1) := by decide +kernel
theorem dX4_begin_33 : decode cX4_begin 33 = .ok (.iconst 1, 1) := by decide +kernel
theorem dX4_begin_34 : decode cX4_begin 34 = .ok (.putfield 51, 3) := by decide +kernel
theorem dX4_begin_37 : decode cX4_begin 37 = .ok (.aload_n 0, 1) := by decide +kernel
theorem dX4_begin_38 : decode cX4_begin 38 = .ok (.iconst 0, 1) := by decide +kernel
theorem dX4_begin_39 : decode cX4_begin 39 = .ok (.putfield 55, 3) := by decide +kernel
theorem dX4_begin_42 : decode cX4_begin 42 = .ok (.aload_n 0, 1) := by decide +kernel
theorem dX4_begin_43 : decode cX4_begin 43 = .ok (.getfield 43, 3) := by decide +kernel
theorem dX4_begin_46 : decode cX4_begin 46 = .ok (.invokevirtual 70, 3) := by decide +kernel
theorem dX4_begin_49 : decode cX4_begin 49 = .ok (.return_, 1) := by decide +kernel
theorem dX4_feed_0 : decode cX4_feed 0 = .ok (.iload_n 1, 1) := by decide +kernel
theorem dX4_feed_1 : decode cX4_feed 1 = .ok (.ifCond .lt 9, 3) := by decide +kernel
theorem dX4_feed_4 : decode cX4_feed 4 = .ok (.iload_n 1, 1) := by decide +kernel
theorem dX4_feed_5 : decode cX4_feed 5 = .ok (.bipush 16, 2) := by decide +kernel
theorem dX4_feed_7 : decode cX4_feed 7 = .ok (.if_icmp .le 13, 3) := by decide +kernel
theorem dX4_feed_10 : decode cX4_feed 10 = .ok (.new 73, 3) := by decide +kernel
theorem dX4_feed_13 : decode cX4_feed 13 = .ok (.dup, 1) := by decide +kernel
theorem dX4_feed_14 : decode cX4_feed 14 = .ok (.ldc 75, 2) := by decide +kernel
theorem dX4_feed_16 : decode cX4_feed 16 = .ok (.invokespecial 77, 3) := by decide +kernel
theorem dX4_feed_19 : decode cX4_feed 19 = .ok (.athrow, 1) := by decide +kernel
theorem dX4_feed_20 : decode cX4_feed 20 = .ok (.aload_n 0, 1) := by decide +kernel
theorem dX4_feed_21 : decode cX4_feed 21 = .ok (.getfield 47, 3) := by decide +kernel
theorem dX4_feed_24 : decode cX4_feed 24 = .ok (.iload_n 1, 1) := by decide +kernel
theorem dX4_feed_25 : decode cX4_feed 25 = .ok (.iadd, 1) := by decide +kernel
theorem dX4_feed_26 : decode cX4_feed 26 = .ok (.bipush 40, 2) := by decide +kernel
theorem dX4_feed_28 : decode cX4_feed 28 = .ok (.if_icmp .le 13, 3) := by decide +kernel
theorem dX4_feed_31 : decode cX4_feed 31 = .ok (.new 80, 3) := by decide +kernel
theorem dX4_feed_34 : decode cX4_feed 34 = .ok (.dup, 1) := by decide +kernel
theorem dX4_feed_35 : decode cX4_feed 35 = .ok (.ldc 82, 2) := by decide +kernel
theorem dX4_feed_37 : decode cX4_feed 37 = .ok (.invokespecial 84, 3) := by decide +kernel
theorem dX4_feed_40 : decode cX4_feed 40 = .ok (.athrow, 1) := by decide +kernel
theorem dX4_feed_41 : decode cX4_feed 41 = .ok (.iconst 0, 1) := by decide +kernel
theorem dX4_feed_42 : decode cX4_feed 42 = .ok (.istore 6, 2) := by decide +kernel
theorem dX4_feed_44 : decode cX4_feed 44 = .ok (.iload 6, 2) := by decide +kernel
theorem dX4_feed_46 : decode cX4_feed 46 = .ok (.iload_n 1, 1) := by decide +kernel
theorem dX4_feed_47 : decode cX4_feed 47 = .ok (.if_icmp .ge 48, 3) := by decide +kernel
theorem dX4_feed_50 : decode cX4_feed 50 = .ok (.aload_n 0, 1) := by decide +kernel
theorem dX4_feed_51 : decode cX4_feed 51 = .ok (.getfield 47, 3) := by decide +kernel
theorem dX4_feed_54 : decode cX4_feed 54 = .ok (.bipush 40, 2) := by decide +kernel
theorem dX4_feed_56 : decode cX4_feed 56 = .ok (.if_icmp .ge 39, 3) := by decide +kernel
theorem dX4_feed_59 : decode cX4_feed 59 = .ok (.aload_n 0, 1) := by decide +kernel
theorem dX4_feed_60 : decode cX4_feed 60 = .ok (.getfield 34, 3) := by decide +kernel
theorem dX4_feed_63 : decode cX4_feed 63 = .ok (.aload_n 0, 1) := by decide +kernel
theorem dX4_feed_64 : decode cX4_feed 64 = .ok (.getfield 47, 3) := by decide +kernel
theorem dX4_feed_67 : decode cX4_feed 67 = .ok (.iload 6, 2) := by decide +kernel
theorem dX4_feed_69 : decode cX4_feed 69 = .ok (.iload_n 2, 1) := by decide +kernel
theorem dX4_feed_70 : decode cX4_feed 70 = .ok (.iload_n 3, 1) := by decide +kernel
theorem dX4_feed_71 : decode cX4_feed 71 = .ok (.iload 4, 2) := by decide +kernel
theorem dX4_feed_73 : decode cX4_feed 73 = .ok (.iload 5, 2) := by decide +kernel
theorem dX4_feed_75 : decode cX4_feed 75 = .ok (.invokestatic 85, 3) := by decide +kernel
theorem dX4_feed_78 : decode cX4_feed 78 = .ok (.iastore, 1) := by decide +kernel
theorem dX4_feed_79 : decode cX4_feed 79 = .ok (.aload_n 0, 1) := by decide +kernel
theorem dX4_feed_80 : decode cX4_feed 80 = .ok (.dup, 1) := by decide +kernel
theorem dX4_feed_81 : decode cX4_feed 81 = .ok (.getfield 47, 3) := by decide +kernel
theorem dX4_feed_84 : decode cX4_feed 84 = .ok (.iconst 1, 1) := by decide +kernel
theorem dX4_feed_85 : decode cX4_feed 85 = .ok (.iadd, 1) := by decide +kernel
theorem dX4_feed_86 : decode cX4_feed 86 = .ok (.putfield 47, 3) := by decide +kernel
theorem dX4_feed_89 : decode cX4_feed 89 = .ok (.iinc 6 1, 3) := by decide +kernel
theorem dX4_feed_92 : decode cX4_feed 92 = .ok (.goto (-48), 3) := by decide +kernel
theorem dX4_feed_95 : decode cX4_feed 95 = .ok (.aload_n 0, 1) := by decide +kernel
theorem dX4_feed_96 : decode cX4_feed 96 = .ok (.getfield 47, 3) := by decide +kernel
theorem dX4_feed_99 : decode cX4_feed 99 = .ok (.ireturn, 1) := by decide +kernel
theorem dX4_erase_0 : decode cX4_erase 0 = .ok (.aload_n 0, 1) := by decide +kernel
theorem dX4_erase_1 : decode cX4_erase 1 = .ok (.getfield 47, 3) := by decide +kernel
theorem dX4_erase_4 : decode cX4_erase 4 = .ok (.istore_n 1, 1) := by decide +kernel
theorem dX4_erase_5 : decode cX4_erase 5 = .ok (.aload_n 0, 1) := by decide +kernel
theorem dX4_erase_6 : decode cX4_erase 6 = .ok (.iconst 0, 1) := by decide +kernel
theorem dX4_erase_7 : decode cX4_erase 7 = .ok (.putfield 47, 3) := by decide +kernel
theorem dX4_erase_10 : decode cX4_erase 10 = .ok (.iload_n 1, 1) := by decide +kernel
theorem dX4_erase_11 : decode cX4_erase 11 = .ok (.ireturn, 1) := by decide +kernel
theorem dX4_append_0 : decode cX4_append 0 = .ok (.aload_n 0, 1) := by decide +kernel
theorem dX4_append_1 : decode cX4_append 1 = .ok (.getfield 51, 3) := by decide +kernel
theorem dX4_append_4 : decode cX4_append 4 = .ok (.ifCond .ne 13, 3) := by decide +kernel
theorem dX4_append_7 : decode cX4_append 7 = .ok (.new 80, 3) := by decide +kernel
theorem dX4_append_10 : decode cX4_append 10 = .ok (.dup, 1) := by decide +kernel
theorem dX4_append_11 : decode cX4_append 11 = .ok (.ldc 89, 2) := by decide +kernel
theorem dX4_append_13 : decode cX4_append 13 = .ok (.invokespecial 84, 3) := by decide +kernel
theorem dX4_append_16 : decode cX4_append 16 = .ok (.athrow, 1) := by decide +kernel
theorem dX4_append_17 : decode cX4_append 17 = .ok (.aload_n 0, 1) := by decide +kernel
theorem dX4_append_18 : decode cX4_append 18 = .ok (.iconst 1, 1) := by decide +kernel
theorem dX4_append_19 : decode cX4_append 19 = .ok (.aload_n 0, 1) := by decide +kernel
theorem dX4_append_20 : decode cX4_append 20 = .ok (.getfield 34, 3) := by decide +kernel
theorem dX4_append_23 : decode cX4_append 23 = .ok (.aload_n 0, 1) := by decide +kernel
theorem dX4_append_24 : decode cX4_append 24 = .ok (.getfield 47, 3) := by decide +kernel
theorem dX4_append_27 : decode cX4_append 27 = .ok (.invokevirtual 91, 3) := by decide +kernel
theorem dX4_append_30 : decode cX4_append 30 = .ok (.ireturn, 1) := by decide +kernel
theorem dX4_seal_0 : decode cX4_seal 0 = .ok (.aload_n 0, 1) := by decide +kernel
theorem dX4_seal_1 : decode cX4_seal 1 = .ok (.getfield 51, 3) := by decide +kernel
theorem dX4_seal_4 : decode cX4_seal 4 = .ok (.ifCond .ne 13, 3) := by decide +kernel
theorem dX4_seal_7 : decode cX4_seal 7 = .ok (.new 80, 3) := by decide +kernel
theorem dX4_seal_10 : decode cX4_seal 10 = .ok (.dup, 1) := by decide +kernel
theorem dX4_seal_11 : decode cX4_seal 11 = .ok (.ldc 89, 2) := by decide +kernel
theorem dX4_seal_13 : decode cX4_seal 13 = .ok (.invokespecial 84, 3) := by decide +kernel
theorem dX4_seal_16 : decode cX4_seal 16 = .ok (.athrow, 1) := by decide +kernel
theorem dX4_seal_17 : decode cX4_seal 17 = .ok (.aload_n 0, 1) := by decide +kernel
theorem dX4_seal_18 : decode cX4_seal 18 = .ok (.iconst 2, 1) := by decide +kernel
theorem dX4_seal_19 : decode cX4_seal 19 = .ok (.aload_n 0, 1) := by decide +kernel
theorem dX4_seal_20 : decode cX4_seal 20 = .ok (.getfield 34, 3) := by decide +kernel
theorem dX4_seal_23 : decode cX4_seal 23 = .ok (.iconst 0, 1) := by decide +kernel
theorem dX4_seal_24 : decode cX4_seal 24 = .ok (.invokevirtual 91, 3) := by decide +kernel
theorem dX4_seal_27 : decode cX4_seal 27 = .ok (.ireturn, 1) := by decide +kernel
theorem dX4_sync_0 : decode cX4_sync 0 = .ok (.aload_n 0, 1) := by decide +kernel
theorem dX4_sync_1 : decode cX4_sync 1 = .ok (.getfield 51, 3) := by decide +kernel
theorem dX4_sync_4 : decode cX4_sync 4 = .ok (.ifCond .ne 13, 3) := by decide +kernel
theorem dX4_sync_7 : decode cX4_sync 7 = .ok (.new 80, 3) := by decide +kernel
theorem dX4_sync_10 : decode cX4_sync 10 = .ok (.dup, 1) := by decide +kernel
theorem dX4_sync_11 : decode cX4_sync 11 = .ok (.ldc 89, 2) := by decide +kernel
theorem dX4_sync_13 : decode cX4_sync 13 = .ok (.invokespecial 84, 3) := by decide +kernel
theorem dX4_sync_16 : decode cX4_sync 16 = .ok (.athrow, 1) := by decide +kernel
theorem dX4_sync_17 : decode cX4_sync 17 = .ok (.aload_n 0, 1) := by decide +kernel
theorem dX4_sync_18 : decode cX4_sync 18 = .ok (.getfield 19, 3) := by decide +kernel
theorem dX4_sync_21 : decode cX4_sync 21 = .ok (.aload_n 0, 1) := by decide +kernel
theorem dX4_sync_22 : decode cX4_sync 22 = .ok (.getfield 19, 3) := by decide +kernel
theorem dX4_sync_25 : decode cX4_sync 25 = .ok (.getfield 95, 3) := by decide +kernel
theorem dX4_sync_28 : decode cX4_sync 28 = .ok (.putfield 98, 3) := by decide +kernel
theorem dX4_sync_31 : decode cX4_sync 31 = .ok (.aload_n 0, 1) := by decide +kernel
theorem dX4_sync_32 : decode cX4_sync 32 = .ok (.getfield 19, 3) := by decide +kernel
theorem dX4_sync_35 : decode cX4_sync 35 = .ok (.getfield 98, 3) := by decide +kernel
theorem dX4_sync_38 : decode cX4_sync 38 = .ok (.ireturn, 1) := by decide +kernel
theorem dX4_crash_0 : decode cX4_crash 0 = .ok (.iload_n 1, 1) := by decide +kernel
theorem dX4_crash_1 : decode cX4_crash 1 = .ok (.ifCond .ge 13, 3) := by decide +kernel
theorem dX4_crash_4 : decode cX4_crash 4 = .ok (.new 73, 3) := by decide +kernel
theorem dX4_crash_7 : decode cX4_crash 7 = .ok (.dup, 1) := by decide +kernel
theorem dX4_crash_8 : decode cX4_crash 8 = .ok (.ldc 101, 2) := by decide +kernel
theorem dX4_crash_10 : decode cX4_crash 10 = .ok (.invokespecial 77, 3) := by decide +kernel
theorem dX4_crash_13 : decode cX4_crash 13 = .ok (.athrow, 1) := by decide +kernel
theorem dX4_crash_14 : decode cX4_crash 14 = .ok (.aload_n 0, 1) := by decide +kernel
theorem dX4_crash_15 : decode cX4_crash 15 = .ok (.getfield 19, 3) := by decide +kernel
theorem dX4_crash_18 : decode cX4_crash 18 = .ok (.getfield 95, 3) := by decide +kernel
theorem dX4_crash_21 : decode cX4_crash 21 = .ok (.aload_n 0, 1) := by decide +kernel
theorem dX4_crash_22 : decode cX4_crash 22 = .ok (.getfield 19, 3) := by decide +kernel
theorem dX4_crash_25 : decode cX4_crash 25 = .ok (.getfield 98, 3) := by decide +kernel
theorem dX4_crash_28 : decode cX4_crash 28 = .ok (.isub, 1) := by decide +kernel
theorem dX4_crash_29 : decode cX4_crash 29 = .ok (.istore_n 2, 1) := by decide +kernel
theorem dX4_crash_30 : decode cX4_crash 30 = .ok (.iload_n 1, 1) := by decide +kernel
theorem dX4_crash_31 : decode cX4_crash 31 = .ok (.iload_n 2, 1) := by decide +kernel
theorem dX4_crash_32 : decode cX4_crash 32 = .ok (.invokestatic 103, 3) := by decide +kernel
theorem dX4_crash_35 : decode cX4_crash 35 = .ok (.istore_n 3, 1) := by decide +kernel
theorem dX4_crash_36 : decode cX4_crash 36 = .ok (.aload_n 0, 1) := by decide +kernel
theorem dX4_crash_37 : decode cX4_crash 37 = .ok (.getfield 19, 3) := by decide +kernel
theorem dX4_crash_40 : decode cX4_crash 40 = .ok (.aload_n 0, 1) := by decide +kernel
theorem dX4_crash_41 : decode cX4_crash 41 = .ok (.getfield 19, 3) := by decide +kernel
theorem dX4_crash_44 : decode cX4_crash 44 = .ok (.getfield 98, 3) := by decide +kernel
theorem dX4_crash_47 : decode cX4_crash 47 = .ok (.iload_n 3, 1) := by decide +kernel
theorem dX4_crash_48 : decode cX4_crash 48 = .ok (.iadd, 1) := by decide +kernel
theorem dX4_crash_49 : decode cX4_crash 49 = .ok (.putfield 95, 3) := by decide +kernel
theorem dX4_crash_52 : decode cX4_crash 52 = .ok (.aload_n 0, 1) := by decide +kernel
theorem dX4_crash_53 : decode cX4_crash 53 = .ok (.iconst 0, 1) := by decide +kernel
theorem dX4_crash_54 : decode cX4_crash 54 = .ok (.putfield 51, 3) := by decide +kernel
theorem dX4_crash_57 : decode cX4_crash 57 = .ok (.aload_n 0, 1) := by decide +kernel
theorem dX4_crash_58 : decode cX4_crash 58 = .ok (.dup, 1) := by decide +kernel
theorem dX4_crash_59 : decode cX4_crash 59 = .ok (.getfield 55, 3) := by decide +kernel
theorem dX4_crash_62 : decode cX4_crash 62 = .ok (.iconst 1, 1) := by decide +kernel
theorem dX4_crash_63 : decode cX4_crash 63 = .ok (.iadd, 1) := by decide +kernel
theorem dX4_crash_64 : decode cX4_crash 64 = .ok (.putfield 55, 3) := by decide +kernel
theorem dX4_crash_67 : decode cX4_crash 67 = .ok (.iload_n 2, 1) := by decide +kernel
theorem dX4_crash_68 : decode cX4_crash 68 = .ok (.iload_n 3, 1) := by decide +kernel
theorem dX4_crash_69 : decode cX4_crash 69 = .ok (.isub, 1) := by decide +kernel
theorem dX4_crash_70 : decode cX4_crash 70 = .ok (.ireturn, 1) := by decide +kernel
theorem dX4_recover_0 : decode cX4_recover 0 = .ok (.aload_n 0, 1) := by decide +kernel
theorem dX4_recover_1 : decode cX4_recover 1 = .ok (.getfield 51, 3) := by decide +kernel
theorem dX4_recover_4 : decode cX4_recover 4 = .ok (.ifCond .eq 13, 3) := by decide +kernel
theorem dX4_recover_7 : decode cX4_recover 7 = .ok (.new 80, 3) := by decide +kernel
theorem dX4_recover_10 : decode cX4_recover 10 = .ok (.dup, 1) := by decide +kernel
theorem dX4_recover_11 : decode cX4_recover 11 = .ok (.ldc 109, 2) := by decide +kernel
theorem dX4_recover_13 : decode cX4_recover 13 = .ok (.invokespecial 84, 3) := by decide +kernel
theorem dX4_recover_16 : decode cX4_recover 16 = .ok (.athrow, 1) := by decide +kernel
theorem dX4_recover_17 : decode cX4_recover 17 = .ok (.aload_n 0, 1) := by decide +kernel
theorem dX4_recover_18 : decode cX4_recover 18 = .ok (.getfield 19, 3) := by decide +kernel
theorem dX4_recover_21 : decode cX4_recover 21 = .ok (.invokevirtual 111, 3) := by decide +kernel
theorem dX4_recover_24 : decode cX4_recover 24 = .ok (.istore_n 1, 1) := by decide +kernel
theorem dX4_recover_25 : decode cX4_recover 25 = .ok (.iconst 0, 1) := by decide +kernel
theorem dX4_recover_26 : decode cX4_recover 26 = .ok (.aload_n 0, 1) := by decide +kernel
theorem dX4_recover_27 : decode cX4_recover 27 = .ok (.getfield 26, 3) := by decide +kernel
theorem dX4_recover_30 : decode cX4_recover 30 = .ok (.getfield 115, 3) := by decide +kernel
theorem dX4_recover_33 : decode cX4_recover 33 = .ok (.aload_n 0, 1) := by decide +kernel
theorem dX4_recover_34 : decode cX4_recover 34 = .ok (.getfield 19, 3) := by decide +kernel
theorem dX4_recover_37 : decode cX4_recover 37 = .ok (.invokevirtual 118, 3) := by decide +kernel
theorem dX4_recover_40 : decode cX4_recover 40 = .ok (.isub, 1) := by decide +kernel
theorem dX4_recover_41 : decode cX4_recover 41 = .ok (.invokestatic 121, 3) := by decide +kernel
theorem dX4_recover_44 : decode cX4_recover 44 = .ok (.istore_n 2, 1) := by decide +kernel
theorem dX4_recover_45 : decode cX4_recover 45 = .ok (.iload_n 2, 1) := by decide +kernel
theorem dX4_recover_46 : decode cX4_recover 46 = .ok (.ifCond .le 18, 3) := by decide +kernel
theorem dX4_recover_49 : decode cX4_recover 49 = .ok (.iload_n 1, 1) := by decide +kernel
theorem dX4_recover_50 : decode cX4_recover 50 = .ok (.iconst 2, 1) := by decide +kernel
theorem dX4_recover_51 : decode cX4_recover 51 = .ok (.invokestatic 124, 3) := by decide +kernel
theorem dX4_recover_54 : decode cX4_recover 54 = .ok (.iadd, 1) := by decide +kernel
theorem dX4_recover_55 : decode cX4_recover 55 = .ok (.sipush 1200, 3) := by decide +kernel
theorem dX4_recover_58 : decode cX4_recover 58 = .ok (.if_icmp .le 6, 3) := by decide +kernel
theorem dX4_recover_61 : decode cX4_recover 61 = .ok (.bipush (-2), 2) := by decide +kernel
theorem dX4_recover_63 : decode cX4_recover 63 = .ok (.ireturn, 1) := by decide +kernel
theorem dX4_recover_64 : decode cX4_recover 64 = .ok (.aload_n 0, 1) := by decide +kernel
theorem dX4_recover_65 : decode cX4_recover 65 = .ok (.getfield 19, 3) := by decide +kernel
theorem dX4_recover_68 : decode cX4_recover 68 = .ok (.iload_n 1, 1) := by decide +kernel
theorem dX4_recover_69 : decode cX4_recover 69 = .ok (.invokevirtual 58, 3) := by decide +kernel
theorem dX4_recover_72 : decode cX4_recover 72 = .ok (.aload_n 0, 1) := by decide +kernel
theorem dX4_recover_73 : decode cX4_recover 73 = .ok (.getfield 19, 3) := by decide +kernel
theorem dX4_recover_76 : decode cX4_recover 76 = .ok (.iload_n 1, 1) := by decide +kernel
theorem dX4_recover_77 : decode cX4_recover 77 = .ok (.aload_n 0, 1) := by decide +kernel
theorem dX4_recover_78 : decode cX4_recover 78 = .ok (.getfield 30, 3) := by decide +kernel
theorem dX4_recover_81 : decode cX4_recover 81 = .ok (.invokevirtual 66, 3) := by decide +kernel
theorem dX4_recover_84 : decode cX4_recover 84 = .ok (.aload_n 0, 1) := by decide +kernel
theorem dX4_recover_85 : decode cX4_recover 85 = .ok (.iconst 1, 1) := by decide +kernel
theorem dX4_recover_86 : decode cX4_recover 86 = .ok (.putfield 51, 3) := by decide +kernel
theorem dX4_recover_89 : decode cX4_recover 89 = .ok (.iload_n 2, 1) := by decide +kernel
theorem dX4_recover_90 : decode cX4_recover 90 = .ok (.ifCond .le 39, 3) := by decide +kernel
theorem dX4_recover_93 : decode cX4_recover 93 = .ok (.aload_n 0, 1) := by decide +kernel
theorem dX4_recover_94 : decode cX4_recover 94 = .ok (.getfield 37, 3) := by decide +kernel
theorem dX4_recover_97 : decode cX4_recover 97 = .ok (.iconst 0, 1) := by decide +kernel
theorem dX4_recover_98 : decode cX4_recover 98 = .ok (.iload_n 2, 1) := by decide +kernel
theorem dX4_recover_99 : decode cX4_recover 99 = .ok (.bipush 8, 2) := by decide +kernel
theorem dX4_recover_101 : decode cX4_recover 101 = .ok (.iushr, 1) := by decide +kernel
theorem dX4_recover_102 : decode cX4_recover 102 = .ok (.sipush 255, 3) := by decide +kernel
theorem dX4_recover_105 : decode cX4_recover 105 = .ok (.iand, 1) := by decide +kernel
theorem dX4_recover_106 : decode cX4_recover 106 = .ok (.iastore, 1) := by decide +kernel
theorem dX4_recover_107 : decode cX4_recover 107 = .ok (.aload_n 0, 1) := by decide +kernel
theorem dX4_recover_108 : decode cX4_recover 108 = .ok (.getfield 37, 3) := by decide +kernel
theorem dX4_recover_111 : decode cX4_recover 111 = .ok (.iconst 1, 1) := by decide +kernel
theorem dX4_recover_112 : decode cX4_recover 112 = .ok (.iload_n 2, 1) := by decide +kernel
theorem dX4_recover_113 : decode cX4_recover 113 = .ok (.sipush 255, 3) := by decide +kernel
theorem dX4_recover_116 : decode cX4_recover 116 = .ok (.iand, 1) := by decide +kernel
theorem dX4_recover_117 : decode cX4_recover 117 = .ok (.iastore, 1) := by decide +kernel
theorem dX4_recover_118 : decode cX4_recover 118 = .ok (.aload_n 0, 1) := by decide +kernel
theorem dX4_recover_119 : decode cX4_recover 119 = .ok (.iconst 3, 1) := by decide +kernel
theorem dX4_recover_120 : decode cX4_recover 120 = .ok (.aload_n 0, 1) := by decide +kernel
theorem dX4_recover_121 : decode cX4_recover 121 = .ok (.getfield 37, 3) := by decide +kernel
theorem dX4_recover_124 : decode cX4_recover 124 = .ok (.iconst 2, 1) := by decide +kernel
theorem dX4_recover_125 : decode cX4_recover 125 = .ok (.invokevirtual 91, 3) := by decide +kernel
theorem dX4_recover_128 : decode cX4_recover 128 = .ok (.pop, 1) := by decide +kernel
theorem dX4_recover_129 : decode cX4_recover 129 = .ok (.iload_n 2, 1) := by decide +kernel
theorem dX4_recover_130 : decode cX4_recover 130 = .ok (.ireturn, 1) := by decide +kernel
theorem dX4_verify_0 : decode cX4_verify 0 = .ok (.aload_n 0, 1) := by decide +kernel
theorem dX4_verify_1 : decode cX4_verify 1 = .ok (.getfield 43, 3) := by decide +kernel
theorem dX4_verify_4 : decode cX4_verify 4 = .ok (.aload_n 0, 1) := by decide +kernel
theorem dX4_verify_5 : decode cX4_verify 5 = .ok (.getfield 19, 3) := by decide +kernel
theorem dX4_verify_8 : decode cX4_verify 8 = .ok (.aload_n 0, 1) := by decide +kernel
theorem dX4_verify_9 : decode cX4_verify 9 = .ok (.getfield 10, 3) := by decide +kernel
theorem dX4_verify_12 : decode cX4_verify 12 = .ok (.iload_n 1, 1) := by decide +kernel
theorem dX4_verify_13 : decode cX4_verify 13 = .ok (.iload_n 2, 1) := by decide +kernel
theorem dX4_verify_14 : decode cX4_verify 14 = .ok (.iload_n 3, 1) := by decide +kernel
theorem dX4_verify_15 : decode cX4_verify 15 = .ok (.iload 4, 2) := by decide +kernel
theorem dX4_verify_17 : decode cX4_verify 17 = .ok (.invokevirtual 128, 3) := by decide +kernel
theorem dX4_verify_20 : decode cX4_verify 20 = .ok (.ireturn, 1) := by decide +kernel
theorem dX4_told_0 : decode cX4_told 0 = .ok (.iload_n 1, 1) := by decide +kernel
theorem dX4_told_1 : decode cX4_told 1 = .ok (.ifCond .lt 8, 3) := by decide +kernel
theorem dX4_told_4 : decode cX4_told 4 = .ok (.iload_n 1, 1) := by decide +kernel
theorem dX4_told_5 : decode cX4_told 5 = .ok (.iconst 4, 1) := by decide +kernel
theorem dX4_told_6 : decode cX4_told 6 = .ok (.if_icmp .le 13, 3) := by decide +kernel
theorem dX4_told_9 : decode cX4_told 9 = .ok (.new 73, 3) := by decide +kernel
theorem dX4_told_12 : decode cX4_told 12 = .ok (.dup, 1) := by decide +kernel
theorem dX4_told_13 : decode cX4_told 13 = .ok (.ldc 132, 2) := by decide +kernel
theorem dX4_told_15 : decode cX4_told 15 = .ok (.invokespecial 77, 3) := by decide +kernel
theorem dX4_told_18 : decode cX4_told 18 = .ok (.athrow, 1) := by decide +kernel
theorem dX4_told_19 : decode cX4_told 19 = .ok (.aload_n 0, 1) := by decide +kernel
theorem dX4_told_20 : decode cX4_told 20 = .ok (.getfield 43, 3) := by decide +kernel
theorem dX4_told_23 : decode cX4_told 23 = .ok (.iload_n 1, 1) := by decide +kernel
theorem dX4_told_24 : decode cX4_told 24 = .ok (.invokevirtual 134, 3) := by decide +kernel
theorem dX4_told_27 : decode cX4_told 27 = .ok (.ireturn, 1) := by decide +kernel
theorem dX4_record_0 : decode cX4_record 0 = .ok (.iload_n 2, 1) := by decide +kernel
theorem dX4_record_1 : decode cX4_record 1 = .ok (.ifCond .lt 9, 3) := by decide +kernel
theorem dX4_record_4 : decode cX4_record 4 = .ok (.iload_n 2, 1) := by decide +kernel
theorem dX4_record_5 : decode cX4_record 5 = .ok (.bipush 42, 2) := by decide +kernel
theorem dX4_record_7 : decode cX4_record 7 = .ok (.if_icmp .le 13, 3) := by decide +kernel
theorem dX4_record_10 : decode cX4_record 10 = .ok (.new 73, 3) := by decide +kernel
theorem dX4_record_13 : decode cX4_record 13 = .ok (.dup, 1) := by decide +kernel
theorem dX4_record_14 : decode cX4_record 14 = .ok (.ldc 137, 2) := by decide +kernel
theorem dX4_record_16 : decode cX4_record 16 = .ok (.invokespecial 77, 3) := by decide +kernel
theorem dX4_record_19 : decode cX4_record 19 = .ok (.athrow, 1) := by decide +kernel
theorem dX4_record_20 : decode cX4_record 20 = .ok (.aload_n 0, 1) := by decide +kernel
theorem dX4_record_21 : decode cX4_record 21 = .ok (.getfield 43, 3) := by decide +kernel
theorem dX4_record_24 : decode cX4_record 24 = .ok (.iload_n 1, 1) := by decide +kernel
theorem dX4_record_25 : decode cX4_record 25 = .ok (.iload_n 2, 1) := by decide +kernel
theorem dX4_record_26 : decode cX4_record 26 = .ok (.invokevirtual 139, 3) := by decide +kernel
theorem dX4_record_29 : decode cX4_record 29 = .ok (.ireturn, 1) := by decide +kernel
theorem dX4_bend_0 : decode cX4_bend 0 = .ok (.aload_n 0, 1) := by decide +kernel
theorem dX4_bend_1 : decode cX4_bend 1 = .ok (.getfield 19, 3) := by decide +kernel
theorem dX4_bend_4 : decode cX4_bend 4 = .ok (.iload_n 1, 1) := by decide +kernel
theorem dX4_bend_5 : decode cX4_bend 5 = .ok (.invokevirtual 142, 3) := by decide +kernel
theorem dX4_bend_8 : decode cX4_bend 8 = .ok (.ifCond .ne 13, 3) := by decide +kernel
theorem dX4_bend_11 : decode cX4_bend 11 = .ok (.new 146, 3) := by decide +kernel
theorem dX4_bend_14 : decode cX4_bend 14 = .ok (.dup, 1) := by decide +kernel
theorem dX4_bend_15 : decode cX4_bend 15 = .ok (.ldc 148, 2) := by decide +kernel
theorem dX4_bend_17 : decode cX4_bend 17 = .ok (.invokespecial 150, 3) := by decide +kernel
theorem dX4_bend_20 : decode cX4_bend 20 = .ok (.athrow, 1) := by decide +kernel
theorem dX4_bend_21 : decode cX4_bend 21 = .ok (.iload_n 2, 1) := by decide +kernel
theorem dX4_bend_22 : decode cX4_bend 22 = .ok (.ifCond .lt 9, 3) := by decide +kernel
theorem dX4_bend_25 : decode cX4_bend 25 = .ok (.iload_n 2, 1) := by decide +kernel
theorem dX4_bend_26 : decode cX4_bend 26 = .ok (.bipush 7, 2) := by decide +kernel
theorem dX4_bend_28 : decode cX4_bend 28 = .ok (.if_icmp .le 13, 3) := by decide +kernel
theorem dX4_bend_31 : decode cX4_bend 31 = .ok (.new 73, 3) := by decide +kernel
theorem dX4_bend_34 : decode cX4_bend 34 = .ok (.dup, 1) := by decide +kernel
theorem dX4_bend_35 : decode cX4_bend 35 = .ok (.ldc 151, 2) := by decide +kernel
theorem dX4_bend_37 : decode cX4_bend 37 = .ok (.invokespecial 77, 3) := by decide +kernel
theorem dX4_bend_40 : decode cX4_bend 40 = .ok (.athrow, 1) := by decide +kernel
theorem dX4_bend_41 : decode cX4_bend 41 = .ok (.aload_n 0, 1) := by decide +kernel
theorem dX4_bend_42 : decode cX4_bend 42 = .ok (.getfield 19, 3) := by decide +kernel
theorem dX4_bend_45 : decode cX4_bend 45 = .ok (.iload_n 1, 1) := by decide +kernel
theorem dX4_bend_46 : decode cX4_bend 46 = .ok (.iload_n 2, 1) := by decide +kernel
theorem dX4_bend_47 : decode cX4_bend 47 = .ok (.invokevirtual 153, 3) := by decide +kernel
theorem dX4_bend_50 : decode cX4_bend 50 = .ok (.ireturn, 1) := by decide +kernel
theorem dX4_octet_0 : decode cX4_octet 0 = .ok (.aload_n 0, 1) := by decide +kernel
theorem dX4_octet_1 : decode cX4_octet 1 = .ok (.getfield 19, 3) := by decide +kernel
theorem dX4_octet_4 : decode cX4_octet 4 = .ok (.iload_n 1, 1) := by decide +kernel
theorem dX4_octet_5 : decode cX4_octet 5 = .ok (.invokevirtual 156, 3) := by decide +kernel
theorem dX4_octet_8 : decode cX4_octet 8 = .ok (.ireturn, 1) := by decide +kernel
theorem dX4_key_0 : decode cX4_key 0 = .ok (.iload_n 1, 1) := by decide +kernel
theorem dX4_key_1 : decode cX4_key 1 = .ok (.ifCond .lt 9, 3) := by decide +kernel
theorem dX4_key_4 : decode cX4_key 4 = .ok (.iload_n 1, 1) := by decide +kernel
theorem dX4_key_5 : decode cX4_key 5 = .ok (.bipush 16, 2) := by decide +kernel
theorem dX4_key_7 : decode cX4_key 7 = .ok (.if_icmp .lt 13, 3) := by decide +kernel
theorem dX4_key_10 : decode cX4_key 10 = .ok (.new 73, 3) := by decide +kernel
theorem dX4_key_13 : decode cX4_key 13 = .ok (.dup, 1) := by decide +kernel
theorem dX4_key_14 : decode cX4_key 14 = .ok (.ldc 159, 2) := by decide +kernel
theorem dX4_key_16 : decode cX4_key 16 = .ok (.invokespecial 77, 3) := by decide +kernel
theorem dX4_key_19 : decode cX4_key 19 = .ok (.athrow, 1) := by decide +kernel
theorem dX4_key_20 : decode cX4_key 20 = .ok (.aload_n 0, 1) := by decide +kernel
theorem dX4_key_21 : decode cX4_key 21 = .ok (.getfield 26, 3) := by decide +kernel
theorem dX4_key_24 : decode cX4_key 24 = .ok (.getfield 161, 3) := by decide +kernel
theorem dX4_key_27 : decode cX4_key 27 = .ok (.iload_n 1, 1) := by decide +kernel
theorem dX4_key_28 : decode cX4_key 28 = .ok (.iaload, 1) := by decide +kernel
theorem dX4_key_29 : decode cX4_key 29 = .ok (.ireturn, 1) := by decide +kernel
theorem dX4_count_0 : decode cX4_count 0 = .ok (.iload_n 1, 1) := by decide +kernel
theorem dX4_count_1 : decode cX4_count 1 = .ok (.tableswitch 86 0 5 #[39, 47, 55, 63, 76, 81], 39) := by decide +kernel
theorem dX4_count_40 : decode cX4_count 40 = .ok (.aload_n 0, 1) := by decide +kernel
theorem dX4_count_41 : decode cX4_count 41 = .ok (.getfield 19, 3) := by decide +kernel
theorem dX4_count_44 : decode cX4_count 44 = .ok (.getfield 95, 3) := by decide +kernel
theorem dX4_count_47 : decode cX4_count 47 = .ok (.ireturn, 1) := by decide +kernel
theorem dX4_count_48 : decode cX4_count 48 = .ok (.aload_n 0, 1) := by decide +kernel
theorem dX4_count_49 : decode cX4_count 49 = .ok (.getfield 19, 3) := by decide +kernel
theorem dX4_count_52 : decode cX4_count 52 = .ok (.getfield 98, 3) := by decide +kernel
theorem dX4_count_55 : decode cX4_count 55 = .ok (.ireturn, 1) := by decide +kernel
theorem dX4_count_56 : decode cX4_count 56 = .ok (.aload_n 0, 1) := by decide +kernel
theorem dX4_count_57 : decode cX4_count 57 = .ok (.getfield 26, 3) := by decide +kernel
theorem dX4_count_60 : decode cX4_count 60 = .ok (.getfield 115, 3) := by decide +kernel
theorem dX4_count_63 : decode cX4_count 63 = .ok (.ireturn, 1) := by decide +kernel
theorem dX4_count_64 : decode cX4_count 64 = .ok (.aload_n 0, 1) := by decide +kernel
theorem dX4_count_65 : decode cX4_count 65 = .ok (.getfield 51, 3) := by decide +kernel
theorem dX4_count_68 : decode cX4_count 68 = .ok (.ifCond .eq 7, 3) := by decide +kernel
theorem dX4_count_71 : decode cX4_count 71 = .ok (.iconst 1, 1) := by decide +kernel
theorem dX4_count_72 : decode cX4_count 72 = .ok (.goto 4, 3) := by decide +kernel
theorem dX4_count_75 : decode cX4_count 75 = .ok (.iconst 0, 1) := by decide +kernel
theorem dX4_count_76 : decode cX4_count 76 = .ok (.ireturn, 1) := by decide +kernel
theorem dX4_count_77 : decode cX4_count 77 = .ok (.aload_n 0, 1) := by decide +kernel
theorem dX4_count_78 : decode cX4_count 78 = .ok (.getfield 55, 3) := by decide +kernel
theorem dX4_count_81 : decode cX4_count 81 = .ok (.ireturn, 1) := by decide +kernel
theorem dX4_count_82 : decode cX4_count 82 = .ok (.aload_n 0, 1) := by decide +kernel
theorem dX4_count_83 : decode cX4_count 83 = .ok (.getfield 47, 3) := by decide +kernel
theorem dX4_count_86 : decode cX4_count 86 = .ok (.ireturn, 1) := by decide +kernel
theorem dX4_count_87 : decode cX4_count 87 = .ok (.new 73, 3) := by decide +kernel
theorem dX4_count_90 : decode cX4_count 90 = .ok (.dup, 1) := by decide +kernel
theorem dX4_count_91 : decode cX4_count 91 = .ok (.ldc 164, 2) := by decide +kernel
theorem dX4_count_93 : decode cX4_count 93 = .ok (.invokespecial 77, 3) := by decide +kernel
theorem dX4_count_96 : decode cX4_count 96 = .ok (.athrow, 1) := by decide +kernel
theorem dX4_write_0 : decode cX4_write 0 = .ok (.aload_n 0, 1) := by decide +kernel
theorem dX4_write_1 : decode cX4_write 1 = .ok (.getfield 19, 3) := by decide +kernel
theorem dX4_write_4 : decode cX4_write 4 = .ok (.getfield 95, 3) := by decide +kernel
theorem dX4_write_7 : decode cX4_write 7 = .ok (.istore 4, 2) := by decide +kernel
theorem dX4_write_9 : decode cX4_write 9 = .ok (.iload 4, 2) := by decide +kernel
theorem dX4_write_11 : decode cX4_write 11 = .ok (.iload_n 3, 1) := by decide +kernel
theorem dX4_write_12 : decode cX4_write 12 = .ok (.invokestatic 124, 3) := by decide +kernel
theorem dX4_write_15 : decode cX4_write 15 = .ok (.iadd, 1) := by decide +kernel
theorem dX4_write_16 : decode cX4_write 16 = .ok (.sipush 1200, 3) := by decide +kernel
theorem dX4_write_19 : decode cX4_write 19 = .ok (.if_icmp .le 6, 3) := by decide +kernel
theorem dX4_write_22 : decode cX4_write 22 = .ok (.bipush (-2), 2) := by decide +kernel
theorem dX4_write_24 : decode cX4_write 24 = .ok (.ireturn, 1) := by decide +kernel
theorem dX4_write_25 : decode cX4_write 25 = .ok (.aload_n 0, 1) := by decide +kernel
theorem dX4_write_26 : decode cX4_write 26 = .ok (.getfield 26, 3) := by decide +kernel
theorem dX4_write_29 : decode cX4_write 29 = .ok (.getfield 115, 3) := by decide +kernel
theorem dX4_write_32 : decode cX4_write 32 = .ok (.istore 5, 2) := by decide +kernel
theorem dX4_write_34 : decode cX4_write 34 = .ok (.aload_n 0, 1) := by decide +kernel
theorem dX4_write_35 : decode cX4_write 35 = .ok (.getfield 19, 3) := by decide +kernel
theorem dX4_write_38 : decode cX4_write 38 = .ok (.iload_n 1, 1) := by decide +kernel
theorem dX4_write_39 : decode cX4_write 39 = .ok (.invokevirtual 166, 3) := by decide +kernel
theorem dX4_write_42 : decode cX4_write 42 = .ok (.aload_n 0, 1) := by decide +kernel
theorem dX4_write_43 : decode cX4_write 43 = .ok (.getfield 19, 3) := by decide +kernel
theorem dX4_write_46 : decode cX4_write 46 = .ok (.iload_n 3, 1) := by decide +kernel
theorem dX4_write_47 : decode cX4_write 47 = .ok (.invokevirtual 166, 3) := by decide +kernel
theorem dX4_write_50 : decode cX4_write 50 = .ok (.iconst 0, 1) := by decide +kernel
theorem dX4_write_51 : decode cX4_write 51 = .ok (.istore 6, 2) := by decide +kernel
theorem dX4_write_53 : decode cX4_write 53 = .ok (.iload 6, 2) := by decide +kernel
theorem dX4_write_55 : decode cX4_write 55 = .ok (.iload_n 3, 1) := by decide +kernel
theorem dX4_write_56 : decode cX4_write 56 = .ok (.if_icmp .ge 27, 3) := by decide +kernel
theorem dX4_write_59 : decode cX4_write 59 = .ok (.iload 6, 2) := by decide +kernel
theorem dX4_write_61 : decode cX4_write 61 = .ok (.aload_n 2, 1) := by decide +kernel
theorem dX4_write_62 : decode cX4_write 62 = .ok (.arraylength, 1) := by decide +kernel
theorem dX4_write_63 : decode cX4_write 63 = .ok (.if_icmp .ge 20, 3) := by decide +kernel
theorem dX4_write_66 : decode cX4_write 66 = .ok (.aload_n 0, 1) := by decide +kernel
theorem dX4_write_67 : decode cX4_write 67 = .ok (.getfield 19, 3) := by decide +kernel
theorem dX4_write_70 : decode cX4_write 70 = .ok (.aload_n 2, 1) := by decide +kernel
theorem dX4_write_71 : decode cX4_write 71 = .ok (.iload 6, 2) := by decide +kernel
theorem dX4_write_73 : decode cX4_write 73 = .ok (.iaload, 1) := by decide +kernel
theorem dX4_write_74 : decode cX4_write 74 = .ok (.invokevirtual 166, 3) := by decide +kernel
theorem dX4_write_77 : decode cX4_write 77 = .ok (.iinc 6 1, 3) := by decide +kernel
theorem dX4_write_80 : decode cX4_write 80 = .ok (.goto (-27), 3) := by decide +kernel
theorem dX4_write_83 : decode cX4_write 83 = .ok (.aload_n 0, 1) := by decide +kernel
theorem dX4_write_84 : decode cX4_write 84 = .ok (.getfield 10, 3) := by decide +kernel
theorem dX4_write_87 : decode cX4_write 87 = .ok (.aload_n 0, 1) := by decide +kernel
theorem dX4_write_88 : decode cX4_write 88 = .ok (.getfield 26, 3) := by decide +kernel
theorem dX4_write_91 : decode cX4_write 91 = .ok (.aload_n 0, 1) := by decide +kernel
theorem dX4_write_92 : decode cX4_write 92 = .ok (.getfield 19, 3) := by decide +kernel
theorem dX4_write_95 : decode cX4_write 95 = .ok (.iload 4, 2) := by decide +kernel
theorem dX4_write_97 : decode cX4_write 97 = .ok (.aload_n 0, 1) := by decide +kernel
theorem dX4_write_98 : decode cX4_write 98 = .ok (.getfield 30, 3) := by decide +kernel
theorem dX4_write_101 : decode cX4_write 101 = .ok (.invokevirtual 169, 3) := by decide +kernel
theorem dX4_write_104 : decode cX4_write 104 = .ok (.iconst 0, 1) := by decide +kernel
theorem dX4_write_105 : decode cX4_write 105 = .ok (.istore 6, 2) := by decide +kernel
theorem dX4_write_107 : decode cX4_write 107 = .ok (.iload 6, 2) := by decide +kernel
theorem dX4_write_109 : decode cX4_write 109 = .ok (.bipush 8, 2) := by decide +kernel
theorem dX4_write_111 : decode cX4_write 111 = .ok (.if_icmp .ge 39, 3) := by decide +kernel
theorem dX4_write_114 : decode cX4_write 114 = .ok (.aload_n 0, 1) := by decide +kernel
theorem dX4_write_115 : decode cX4_write 115 = .ok (.getfield 30, 3) := by decide +kernel
theorem dX4_write_118 : decode cX4_write 118 = .ok (.iload 6, 2) := by decide +kernel
theorem dX4_write_120 : decode cX4_write 120 = .ok (.aload_n 0, 1) := by decide +kernel
theorem dX4_write_121 : decode cX4_write 121 = .ok (.getfield 10, 3) := by decide +kernel
theorem dX4_write_124 : decode cX4_write 124 = .ok (.iload 6, 2) := by decide +kernel
theorem dX4_write_126 : decode cX4_write 126 = .ok (.invokevirtual 173, 3) := by decide +kernel
theorem dX4_write_129 : decode cX4_write 129 = .ok (.iastore, 1) := by decide +kernel
theorem dX4_write_130 : decode cX4_write 130 = .ok (.aload_n 0, 1) := by decide +kernel
theorem dX4_write_131 : decode cX4_write 131 = .ok (.getfield 19, 3) := by decide +kernel
theorem dX4_write_134 : decode cX4_write 134 = .ok (.aload_n 0, 1) := by decide +kernel
theorem dX4_write_135 : decode cX4_write 135 = .ok (.getfield 30, 3) := by decide +kernel
theorem dX4_write_138 : decode cX4_write 138 = .ok (.iload 6, 2) := by decide +kernel
theorem dX4_write_140 : decode cX4_write 140 = .ok (.iaload, 1) := by decide +kernel
theorem dX4_write_141 : decode cX4_write 141 = .ok (.invokevirtual 166, 3) := by decide +kernel
theorem dX4_write_144 : decode cX4_write 144 = .ok (.iinc 6 1, 3) := by decide +kernel
theorem dX4_write_147 : decode cX4_write 147 = .ok (.goto (-40), 3) := by decide +kernel
theorem dX4_write_150 : decode cX4_write 150 = .ok (.aload_n 0, 1) := by decide +kernel
theorem dX4_write_151 : decode cX4_write 151 = .ok (.getfield 26, 3) := by decide +kernel
theorem dX4_write_154 : decode cX4_write 154 = .ok (.aload_n 0, 1) := by decide +kernel
theorem dX4_write_155 : decode cX4_write 155 = .ok (.getfield 10, 3) := by decide +kernel
theorem dX4_write_158 : decode cX4_write 158 = .ok (.invokevirtual 176, 3) := by decide +kernel
theorem dX4_write_161 : decode cX4_write 161 = .ok (.iload 5, 2) := by decide +kernel
theorem dX4_write_163 : decode cX4_write 163 = .ok (.ireturn, 1) := by decide +kernel
theorem dX4_recordSize_0 : decode cX4_recordSize 0 = .ok (.iconst 2, 1) := by decide +kernel
theorem dX4_recordSize_1 : decode cX4_recordSize 1 = .ok (.iload_n 0, 1) := by decide +kernel
theorem dX4_recordSize_2 : decode cX4_recordSize 2 = .ok (.iadd, 1) := by decide +kernel
theorem dX4_recordSize_3 : decode cX4_recordSize 3 = .ok (.bipush 8, 2) := by decide +kernel
theorem dX4_recordSize_5 : decode cX4_recordSize 5 = .ok (.iadd, 1) := by decide +kernel
theorem dX4_recordSize_6 : decode cX4_recordSize 6 = .ok (.ireturn, 1) := by decide +kernel
theorem dX4_octetOfFour_0 : decode cX4_octetOfFour 0 = .ok (.iload_n 0, 1) := by decide +kernel
theorem dX4_octetOfFour_1 : decode cX4_octetOfFour 1 = .ok (.iconst 4, 1) := by decide +kernel
theorem dX4_octetOfFour_2 : decode cX4_octetOfFour 2 = .ok (.if_icmp .ge 7, 3) := by decide +kernel
theorem dX4_octetOfFour_5 : decode cX4_octetOfFour 5 = .ok (.iload_n 1, 1) := by decide +kernel
theorem dX4_octetOfFour_6 : decode cX4_octetOfFour 6 = .ok (.goto 25, 3) := by decide +kernel
theorem dX4_octetOfFour_9 : decode cX4_octetOfFour 9 = .ok (.iload_n 0, 1) := by decide +kernel
theorem dX4_octetOfFour_10 : decode cX4_octetOfFour 10 = .ok (.bipush 8, 2) := by decide +kernel
theorem dX4_octetOfFour_12 : decode cX4_octetOfFour 12 = .ok (.if_icmp .ge 7, 3) := by decide +kernel
theorem dX4_octetOfFour_15 : decode cX4_octetOfFour 15 = .ok (.iload_n 2, 1) := by decide +kernel
theorem dX4_octetOfFour_16 : decode cX4_octetOfFour 16 = .ok (.goto 15, 3) := by decide +kernel
theorem dX4_octetOfFour_19 : decode cX4_octetOfFour 19 = .ok (.iload_n 0, 1) := by decide +kernel
theorem dX4_octetOfFour_20 : decode cX4_octetOfFour 20 = .ok (.bipush 12, 2) := by decide +kernel
theorem dX4_octetOfFour_22 : decode cX4_octetOfFour 22 = .ok (.if_icmp .ge 7, 3) := by decide +kernel
theorem dX4_octetOfFour_25 : decode cX4_octetOfFour 25 = .ok (.iload_n 3, 1) := by decide +kernel
theorem dX4_octetOfFour_26 : decode cX4_octetOfFour 26 = .ok (.goto 5, 3) := by decide +kernel
theorem dX4_octetOfFour_29 : decode cX4_octetOfFour 29 = .ok (.iload 4, 2) := by decide +kernel
theorem dX4_octetOfFour_31 : decode cX4_octetOfFour 31 = .ok (.istore 5, 2) := by decide +kernel
theorem dX4_octetOfFour_33 : decode cX4_octetOfFour 33 = .ok (.iload 5, 2) := by decide +kernel
theorem dX4_octetOfFour_35 : decode cX4_octetOfFour 35 = .ok (.bipush 24, 2) := by decide +kernel
theorem dX4_octetOfFour_37 : decode cX4_octetOfFour 37 = .ok (.bipush 8, 2) := by decide +kernel
theorem dX4_octetOfFour_39 : decode cX4_octetOfFour 39 = .ok (.iload_n 0, 1) := by decide +kernel
theorem dX4_octetOfFour_40 : decode cX4_octetOfFour 40 = .ok (.iconst 3, 1) := by decide +kernel
theorem dX4_octetOfFour_41 : decode cX4_octetOfFour 41 = .ok (.iand, 1) := by decide +kernel
theorem dX4_octetOfFour_42 : decode cX4_octetOfFour 42 = .ok (.imul, 1) := by decide +kernel
theorem dX4_octetOfFour_43 : decode cX4_octetOfFour 43 = .ok (.isub, 1) := by decide +kernel
theorem dX4_octetOfFour_44 : decode cX4_octetOfFour 44 = .ok (.iushr, 1) := by decide +kernel
theorem dX4_octetOfFour_45 : decode cX4_octetOfFour 45 = .ok (.sipush 255, 3) := by decide +kernel
theorem dX4_octetOfFour_48 : decode cX4_octetOfFour 48 = .ok (.iand, 1) := by decide +kernel
theorem dX4_octetOfFour_49 : decode cX4_octetOfFour 49 = .ok (.ireturn, 1) := by decide +kernel
