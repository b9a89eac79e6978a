theorem dX5_hash_94 : decode cX5_hash 94 = .ok (.iload_n 2, 1) := by decide +kernel
theorem dX5_hash_95 : decode cX5_hash 95 = .ok (.bipush 32, 2) := by decide +kernel
theorem dX5_hash_97 : decode cX5_hash 97 = .ok (.if_icmp .ge 37, 3) := by decide +kernel
theorem dX5_hash_100 : decode cX5_hash 100 = .ok (.aload_n 0, 1) := by decide +kernel
theorem dX5_hash_101 : decode cX5_hash 101 = .ok (.getfield 31, 3) := by decide +kernel
theorem dX5_hash_104 : decode cX5_hash 104 = .ok (.iload_n 2, 1) := by decide +kernel
theorem dX5_hash_105 : decode cX5_hash 105 = .ok (.aload_n 0, 1) := by decide +kernel
theorem dX5_hash_106 : decode cX5_hash 106 = .ok (.getfield 28, 3) := by decide +kernel
theorem dX5_hash_109 : decode cX5_hash 109 = .ok (.iload_n 2, 1) := by decide +kernel
theorem dX5_hash_110 : decode cX5_hash 110 = .ok (.iconst 4, 1) := by decide +kernel
theorem dX5_hash_111 : decode cX5_hash 111 = .ok (.idiv, 1) := by decide +kernel
theorem dX5_hash_112 : decode cX5_hash 112 = .ok (.iaload, 1) := by decide +kernel
theorem dX5_hash_113 : decode cX5_hash 113 = .ok (.bipush 24, 2) := by decide +kernel
theorem dX5_hash_115 : decode cX5_hash 115 = .ok (.bipush 8, 2) := by decide +kernel
theorem dX5_hash_117 : decode cX5_hash 117 = .ok (.iload_n 2, 1) := by decide +kernel
theorem dX5_hash_118 : decode cX5_hash 118 = .ok (.iconst 4, 1) := by decide +kernel
theorem dX5_hash_119 : decode cX5_hash 119 = .ok (.irem, 1) := by decide +kernel
theorem dX5_hash_120 : decode cX5_hash 120 = .ok (.imul, 1) := by decide +kernel
theorem dX5_hash_121 : decode cX5_hash 121 = .ok (.isub, 1) := by decide +kernel
theorem dX5_hash_122 : decode cX5_hash 122 = .ok (.ishr, 1) := by decide +kernel
theorem dX5_hash_123 : decode cX5_hash 123 = .ok (.sipush 255, 3) := by decide +kernel
theorem dX5_hash_126 : decode cX5_hash 126 = .ok (.iand, 1) := by decide +kernel
theorem dX5_hash_127 : decode cX5_hash 127 = .ok (.iastore, 1) := by decide +kernel
theorem dX5_hash_128 : decode cX5_hash 128 = .ok (.iinc 2 1, 3) := by decide +kernel
theorem dX5_hash_131 : decode cX5_hash 131 = .ok (.goto (-37), 3) := by decide +kernel
theorem dX5_hash_134 : decode cX5_hash 134 = .ok (.aload_n 0, 1) := by decide +kernel
theorem dX5_hash_135 : decode cX5_hash 135 = .ok (.iconst 0, 1) := by decide +kernel
theorem dX5_hash_136 : decode cX5_hash 136 = .ok (.putfield 150, 3) := by decide +kernel
theorem dX5_hash_139 : decode cX5_hash 139 = .ok (.return_, 1) := by decide +kernel
theorem dX5_step_0 : decode cX5_step 0 = .ok (.aload_n 0, 1) := by decide +kernel
theorem dX5_step_1 : decode cX5_step 1 = .ok (.bipush 75, 2) := by decide +kernel
theorem dX5_step_3 : decode cX5_step 3 = .ok (.invokevirtual 153, 3) := by decide +kernel
theorem dX5_step_6 : decode cX5_step 6 = .ok (.iconst 0, 1) := by decide +kernel
theorem dX5_step_7 : decode cX5_step 7 = .ok (.istore_n 1, 1) := by decide +kernel
theorem dX5_step_8 : decode cX5_step 8 = .ok (.iload_n 1, 1) := by decide +kernel
theorem dX5_step_9 : decode cX5_step 9 = .ok (.bipush 16, 2) := by decide +kernel
theorem dX5_step_11 : decode cX5_step 11 = .ok (.if_icmp .ge 19, 3) := by decide +kernel
theorem dX5_step_14 : decode cX5_step 14 = .ok (.aload_n 0, 1) := by decide +kernel
theorem dX5_step_15 : decode cX5_step 15 = .ok (.aload_n 0, 1) := by decide +kernel
theorem dX5_step_16 : decode cX5_step 16 = .ok (.getfield 34, 3) := by decide +kernel
theorem dX5_step_19 : decode cX5_step 19 = .ok (.iload_n 1, 1) := by decide +kernel
theorem dX5_step_20 : decode cX5_step 20 = .ok (.iaload, 1) := by decide +kernel
theorem dX5_step_21 : decode cX5_step 21 = .ok (.invokevirtual 153, 3) := by decide +kernel
theorem dX5_step_24 : decode cX5_step 24 = .ok (.iinc 1 1, 3) := by decide +kernel
theorem dX5_step_27 : decode cX5_step 27 = .ok (.goto (-19), 3) := by decide +kernel
theorem dX5_step_30 : decode cX5_step 30 = .ok (.aload_n 0, 1) := by decide +kernel
theorem dX5_step_31 : decode cX5_step 31 = .ok (.invokevirtual 174, 3) := by decide +kernel
theorem dX5_step_34 : decode cX5_step 34 = .ok (.iconst 0, 1) := by decide +kernel
theorem dX5_step_35 : decode cX5_step 35 = .ok (.istore_n 1, 1) := by decide +kernel
theorem dX5_step_36 : decode cX5_step 36 = .ok (.iload_n 1, 1) := by decide +kernel
theorem dX5_step_37 : decode cX5_step 37 = .ok (.bipush 16, 2) := by decide +kernel
theorem dX5_step_39 : decode cX5_step 39 = .ok (.if_icmp .ge 21, 3) := by decide +kernel
theorem dX5_step_42 : decode cX5_step 42 = .ok (.aload_n 0, 1) := by decide +kernel
theorem dX5_step_43 : decode cX5_step 43 = .ok (.getfield 34, 3) := by decide +kernel
theorem dX5_step_46 : decode cX5_step 46 = .ok (.iload_n 1, 1) := by decide +kernel
theorem dX5_step_47 : decode cX5_step 47 = .ok (.aload_n 0, 1) := by decide +kernel
theorem dX5_step_48 : decode cX5_step 48 = .ok (.getfield 31, 3) := by decide +kernel
theorem dX5_step_51 : decode cX5_step 51 = .ok (.iload_n 1, 1) := by decide +kernel
theorem dX5_step_52 : decode cX5_step 52 = .ok (.iaload, 1) := by decide +kernel
theorem dX5_step_53 : decode cX5_step 53 = .ok (.iastore, 1) := by decide +kernel
theorem dX5_step_54 : decode cX5_step 54 = .ok (.iinc 1 1, 3) := by decide +kernel
theorem dX5_step_57 : decode cX5_step 57 = .ok (.goto (-21), 3) := by decide +kernel
theorem dX5_step_60 : decode cX5_step 60 = .ok (.return_, 1) := by decide +kernel
theorem dX5_pad_0 : decode cX5_pad 0 = .ok (.iconst 0, 1) := by decide +kernel
theorem dX5_pad_1 : decode cX5_pad 1 = .ok (.istore_n 2, 1) := by decide +kernel
theorem dX5_pad_2 : decode cX5_pad 2 = .ok (.iload_n 2, 1) := by decide +kernel
theorem dX5_pad_3 : decode cX5_pad 3 = .ok (.bipush 64, 2) := by decide +kernel
theorem dX5_pad_5 : decode cX5_pad 5 = .ok (.if_icmp .ge 31, 3) := by decide +kernel
theorem dX5_pad_8 : decode cX5_pad 8 = .ok (.aload_n 0, 1) := by decide +kernel
theorem dX5_pad_9 : decode cX5_pad 9 = .ok (.iload_n 2, 1) := by decide +kernel
theorem dX5_pad_10 : decode cX5_pad 10 = .ok (.bipush 16, 2) := by decide +kernel
theorem dX5_pad_12 : decode cX5_pad 12 = .ok (.if_icmp .ge 12, 3) := by decide +kernel
theorem dX5_pad_15 : decode cX5_pad 15 = .ok (.aload_n 0, 1) := by decide +kernel
theorem dX5_pad_16 : decode cX5_pad 16 = .ok (.getfield 34, 3) := by decide +kernel
theorem dX5_pad_19 : decode cX5_pad 19 = .ok (.iload_n 2, 1) := by decide +kernel
theorem dX5_pad_20 : decode cX5_pad 20 = .ok (.iaload, 1) := by decide +kernel
theorem dX5_pad_21 : decode cX5_pad 21 = .ok (.goto 4, 3) := by decide +kernel
theorem dX5_pad_24 : decode cX5_pad 24 = .ok (.iconst 0, 1) := by decide +kernel
theorem dX5_pad_25 : decode cX5_pad 25 = .ok (.iload_n 1, 1) := by decide +kernel
theorem dX5_pad_26 : decode cX5_pad 26 = .ok (.ixor, 1) := by decide +kernel
theorem dX5_pad_27 : decode cX5_pad 27 = .ok (.invokevirtual 153, 3) := by decide +kernel
theorem dX5_pad_30 : decode cX5_pad 30 = .ok (.iinc 2 1, 3) := by decide +kernel
theorem dX5_pad_33 : decode cX5_pad 33 = .ok (.goto (-31), 3) := by decide +kernel
theorem dX5_pad_36 : decode cX5_pad 36 = .ok (.return_, 1) := by decide +kernel
theorem dX5_tag_0 : decode cX5_tag 0 = .ok (.aload_n 0, 1) := by decide +kernel
theorem dX5_tag_1 : decode cX5_tag 1 = .ok (.bipush 54, 2) := by decide +kernel
theorem dX5_tag_3 : decode cX5_tag 3 = .ok (.invokevirtual 177, 3) := by decide +kernel
theorem dX5_tag_6 : decode cX5_tag 6 = .ok (.aload_n 0, 1) := by decide +kernel
theorem dX5_tag_7 : decode cX5_tag 7 = .ok (.iload_n 1, 1) := by decide +kernel
theorem dX5_tag_8 : decode cX5_tag 8 = .ok (.invokevirtual 168, 3) := by decide +kernel
theorem dX5_tag_11 : decode cX5_tag 11 = .ok (.iconst 0, 1) := by decide +kernel
theorem dX5_tag_12 : decode cX5_tag 12 = .ok (.istore_n 3, 1) := by decide +kernel
theorem dX5_tag_13 : decode cX5_tag 13 = .ok (.iload_n 3, 1) := by decide +kernel
theorem dX5_tag_14 : decode cX5_tag 14 = .ok (.iconst 2, 1) := by decide +kernel
theorem dX5_tag_15 : decode cX5_tag 15 = .ok (.aload_n 0, 1) := by decide +kernel
theorem dX5_tag_16 : decode cX5_tag 16 = .ok (.getfield 7, 3) := by decide +kernel
theorem dX5_tag_19 : decode cX5_tag 19 = .ok (.iload_n 2, 1) := by decide +kernel
theorem dX5_tag_20 : decode cX5_tag 20 = .ok (.iconst 1, 1) := by decide +kernel
theorem dX5_tag_21 : decode cX5_tag 21 = .ok (.iadd, 1) := by decide +kernel
theorem dX5_tag_22 : decode cX5_tag 22 = .ok (.iaload, 1) := by decide +kernel
theorem dX5_tag_23 : decode cX5_tag 23 = .ok (.iadd, 1) := by decide +kernel
theorem dX5_tag_24 : decode cX5_tag 24 = .ok (.if_icmp .ge 21, 3) := by decide +kernel
theorem dX5_tag_27 : decode cX5_tag 27 = .ok (.aload_n 0, 1) := by decide +kernel
theorem dX5_tag_28 : decode cX5_tag 28 = .ok (.aload_n 0, 1) := by decide +kernel
theorem dX5_tag_29 : decode cX5_tag 29 = .ok (.getfield 7, 3) := by decide +kernel
theorem dX5_tag_32 : decode cX5_tag 32 = .ok (.iload_n 2, 1) := by decide +kernel
theorem dX5_tag_33 : decode cX5_tag 33 = .ok (.iload_n 3, 1) := by decide +kernel
theorem dX5_tag_34 : decode cX5_tag 34 = .ok (.iadd, 1) := by decide +kernel
theorem dX5_tag_35 : decode cX5_tag 35 = .ok (.iaload, 1) := by decide +kernel
theorem dX5_tag_36 : decode cX5_tag 36 = .ok (.invokevirtual 153, 3) := by decide +kernel
theorem dX5_tag_39 : decode cX5_tag 39 = .ok (.iinc 3 1, 3) := by decide +kernel
theorem dX5_tag_42 : decode cX5_tag 42 = .ok (.goto (-29), 3) := by decide +kernel
theorem dX5_tag_45 : decode cX5_tag 45 = .ok (.iconst 0, 1) := by decide +kernel
theorem dX5_tag_46 : decode cX5_tag 46 = .ok (.istore_n 3, 1) := by decide +kernel
theorem dX5_tag_47 : decode cX5_tag 47 = .ok (.iload_n 3, 1) := by decide +kernel
theorem dX5_tag_48 : decode cX5_tag 48 = .ok (.bipush 8, 2) := by decide +kernel
theorem dX5_tag_50 : decode cX5_tag 50 = .ok (.if_icmp .ge 19, 3) := by decide +kernel
theorem dX5_tag_53 : decode cX5_tag 53 = .ok (.aload_n 0, 1) := by decide +kernel
theorem dX5_tag_54 : decode cX5_tag 54 = .ok (.aload_n 0, 1) := by decide +kernel
theorem dX5_tag_55 : decode cX5_tag 55 = .ok (.getfield 37, 3) := by decide +kernel
theorem dX5_tag_58 : decode cX5_tag 58 = .ok (.iload_n 3, 1) := by decide +kernel
theorem dX5_tag_59 : decode cX5_tag 59 = .ok (.iaload, 1) := by decide +kernel
theorem dX5_tag_60 : decode cX5_tag 60 = .ok (.invokevirtual 153, 3) := by decide +kernel
theorem dX5_tag_63 : decode cX5_tag 63 = .ok (.iinc 3 1, 3) := by decide +kernel
theorem dX5_tag_66 : decode cX5_tag 66 = .ok (.goto (-19), 3) := by decide +kernel
theorem dX5_tag_69 : decode cX5_tag 69 = .ok (.aload_n 0, 1) := by decide +kernel
theorem dX5_tag_70 : decode cX5_tag 70 = .ok (.invokevirtual 174, 3) := by decide +kernel
theorem dX5_tag_73 : decode cX5_tag 73 = .ok (.aload_n 0, 1) := by decide +kernel
theorem dX5_tag_74 : decode cX5_tag 74 = .ok (.bipush 92, 2) := by decide +kernel
theorem dX5_tag_76 : decode cX5_tag 76 = .ok (.invokevirtual 177, 3) := by decide +kernel
theorem dX5_tag_79 : decode cX5_tag 79 = .ok (.iconst 0, 1) := by decide +kernel
theorem dX5_tag_80 : decode cX5_tag 80 = .ok (.istore_n 3, 1) := by decide +kernel
theorem dX5_tag_81 : decode cX5_tag 81 = .ok (.iload_n 3, 1) := by decide +kernel
theorem dX5_tag_82 : decode cX5_tag 82 = .ok (.bipush 32, 2) := by decide +kernel
theorem dX5_tag_84 : decode cX5_tag 84 = .ok (.if_icmp .ge 19, 3) := by decide +kernel
theorem dX5_tag_87 : decode cX5_tag 87 = .ok (.aload_n 0, 1) := by decide +kernel
theorem dX5_tag_88 : decode cX5_tag 88 = .ok (.aload_n 0, 1) := by decide +kernel
theorem dX5_tag_89 : decode cX5_tag 89 = .ok (.getfield 31, 3) := by decide +kernel
theorem dX5_tag_92 : decode cX5_tag 92 = .ok (.iload_n 3, 1) := by decide +kernel
theorem dX5_tag_93 : decode cX5_tag 93 = .ok (.iaload, 1) := by decide +kernel
theorem dX5_tag_94 : decode cX5_tag 94 = .ok (.invokevirtual 153, 3) := by decide +kernel
theorem dX5_tag_97 : decode cX5_tag 97 = .ok (.iinc 3 1, 3) := by decide +kernel
theorem dX5_tag_100 : decode cX5_tag 100 = .ok (.goto (-19), 3) := by decide +kernel
theorem dX5_tag_103 : decode cX5_tag 103 = .ok (.aload_n 0, 1) := by decide +kernel
theorem dX5_tag_104 : decode cX5_tag 104 = .ok (.invokevirtual 174, 3) := by decide +kernel
theorem dX5_tag_107 : decode cX5_tag 107 = .ok (.return_, 1) := by decide +kernel
theorem dX5_clear_0 : decode cX5_clear 0 = .ok (.aload_n 0, 1) := by decide +kernel
theorem dX5_clear_1 : decode cX5_clear 1 = .ok (.iconst 0, 1) := by decide +kernel
theorem dX5_clear_2 : decode cX5_clear 2 = .ok (.putfield 180, 3) := by decide +kernel
theorem dX5_clear_5 : decode cX5_clear 5 = .ok (.aload_n 0, 1) := by decide +kernel
theorem dX5_clear_6 : decode cX5_clear 6 = .ok (.iconst 0, 1) := by decide +kernel
theorem dX5_clear_7 : decode cX5_clear 7 = .ok (.putfield 183, 3) := by decide +kernel
theorem dX5_clear_10 : decode cX5_clear 10 = .ok (.aload_n 0, 1) := by decide +kernel
theorem dX5_clear_11 : decode cX5_clear 11 = .ok (.iconst 0, 1) := by decide +kernel
theorem dX5_clear_12 : decode cX5_clear 12 = .ok (.putfield 186, 3) := by decide +kernel
theorem dX5_clear_15 : decode cX5_clear 15 = .ok (.aload_n 0, 1) := by decide +kernel
theorem dX5_clear_16 : decode cX5_clear 16 = .ok (.iconst 0, 1) := by decide +kernel
theorem dX5_clear_17 : decode cX5_clear 17 = .ok (.putfield 189, 3) := by decide +kernel
theorem dX5_clear_20 : decode cX5_clear 20 = .ok (.aload_n 0, 1) := by decide +kernel
theorem dX5_clear_21 : decode cX5_clear 21 = .ok (.iconst 1, 1) := by decide +kernel
theorem dX5_clear_22 : decode cX5_clear 22 = .ok (.putfield 52, 3) := by decide +kernel
theorem dX5_clear_25 : decode cX5_clear 25 = .ok (.iconst 0, 1) := by decide +kernel
theorem dX5_clear_26 : decode cX5_clear 26 = .ok (.istore_n 1, 1) := by decide +kernel
theorem dX5_clear_27 : decode cX5_clear 27 = .ok (.iload_n 1, 1) := by decide +kernel
theorem dX5_clear_28 : decode cX5_clear 28 = .ok (.bipush 8, 2) := by decide +kernel
theorem dX5_clear_30 : decode cX5_clear 30 = .ok (.if_icmp .ge 16, 3) := by decide +kernel
theorem dX5_clear_33 : decode cX5_clear 33 = .ok (.aload_n 0, 1) := by decide +kernel
theorem dX5_clear_34 : decode cX5_clear 34 = .ok (.getfield 19, 3) := by decide +kernel
theorem dX5_clear_37 : decode cX5_clear 37 = .ok (.iload_n 1, 1) := by decide +kernel
theorem dX5_clear_38 : decode cX5_clear 38 = .ok (.iconst 0, 1) := by decide +kernel
theorem dX5_clear_39 : decode cX5_clear 39 = .ok (.iastore, 1) := by decide +kernel
theorem dX5_clear_40 : decode cX5_clear 40 = .ok (.iinc 1 1, 3) := by decide +kernel
theorem dX5_clear_43 : decode cX5_clear 43 = .ok (.goto (-16), 3) := by decide +kernel
theorem dX5_clear_46 : decode cX5_clear 46 = .ok (.aload_n 0, 1) := by decide +kernel
theorem dX5_clear_47 : decode cX5_clear 47 = .ok (.invokevirtual 49, 3) := by decide +kernel
theorem dX5_clear_50 : decode cX5_clear 50 = .ok (.return_, 1) := by decide +kernel
theorem dX5_byteOf_0 : decode cX5_byteOf 0 = .ok (.iload_n 0, 1) := by decide +kernel
theorem dX5_byteOf_1 : decode cX5_byteOf 1 = .ok (.iconst 4, 1) := by decide +kernel
theorem dX5_byteOf_2 : decode cX5_byteOf 2 = .ok (.if_icmp .ge 7, 3) := by decide +kernel
theorem dX5_byteOf_5 : decode cX5_byteOf 5 = .ok (.iload_n 1, 1) := by decide +kernel
theorem dX5_byteOf_6 : decode cX5_byteOf 6 = .ok (.goto 25, 3) := by decide +kernel
theorem dX5_byteOf_9 : decode cX5_byteOf 9 = .ok (.iload_n 0, 1) := by decide +kernel
theorem dX5_byteOf_10 : decode cX5_byteOf 10 = .ok (.bipush 8, 2) := by decide +kernel
theorem dX5_byteOf_12 : decode cX5_byteOf 12 = .ok (.if_icmp .ge 7, 3) := by decide +kernel
theorem dX5_byteOf_15 : decode cX5_byteOf 15 = .ok (.iload_n 2, 1) := by decide +kernel
theorem dX5_byteOf_16 : decode cX5_byteOf 16 = .ok (.goto 15, 3) := by decide +kernel
theorem dX5_byteOf_19 : decode cX5_byteOf 19 = .ok (.iload_n 0, 1) := by decide +kernel
theorem dX5_byteOf_20 : decode cX5_byteOf 20 = .ok (.bipush 12, 2) := by decide +kernel
theorem dX5_byteOf_22 : decode cX5_byteOf 22 = .ok (.if_icmp .ge 7, 3) := by decide +kernel
theorem dX5_byteOf_25 : decode cX5_byteOf 25 = .ok (.iload_n 3, 1) := by decide +kernel
theorem dX5_byteOf_26 : decode cX5_byteOf 26 = .ok (.goto 5, 3) := by decide +kernel
theorem dX5_byteOf_29 : decode cX5_byteOf 29 = .ok (.iload 4, 2) := by decide +kernel
theorem dX5_byteOf_31 : decode cX5_byteOf 31 = .ok (.istore 5, 2) := by decide +kernel
theorem dX5_byteOf_33 : decode cX5_byteOf 33 = .ok (.iload 5, 2) := by decide +kernel
theorem dX5_byteOf_35 : decode cX5_byteOf 35 = .ok (.bipush 24, 2) := by decide +kernel
theorem dX5_byteOf_37 : decode cX5_byteOf 37 = .ok (.bipush 8, 2) := by decide +kernel
theorem dX5_byteOf_39 : decode cX5_byteOf 39 = .ok (.iload_n 0, 1) := by decide +kernel
theorem dX5_byteOf_40 : decode cX5_byteOf 40 = .ok (.iconst 4, 1) := by decide +kernel
theorem dX5_byteOf_41 : decode cX5_byteOf 41 = .ok (.irem, 1) := by decide +kernel
theorem dX5_byteOf_42 : decode cX5_byteOf 42 = .ok (.imul, 1) := by decide +kernel
theorem dX5_byteOf_43 : decode cX5_byteOf 43 = .ok (.isub, 1) := by decide +kernel
theorem dX5_byteOf_44 : decode cX5_byteOf 44 = .ok (.ishr, 1) := by decide +kernel
theorem dX5_byteOf_45 : decode cX5_byteOf 45 = .ok (.sipush 255, 3) := by decide +kernel
theorem dX5_byteOf_48 : decode cX5_byteOf 48 = .ok (.iand, 1) := by decide +kernel
theorem dX5_byteOf_49 : decode cX5_byteOf 49 = .ok (.ireturn, 1) := by decide +kernel
theorem dX5_begin_0 : decode cX5_begin 0 = .ok (.aload_n 0, 1) := by decide +kernel
theorem dX5_begin_1 : decode cX5_begin 1 = .ok (.iconst 0, 1) := by decide +kernel
theorem dX5_begin_2 : decode cX5_begin 2 = .ok (.putfield 56, 3) := by decide +kernel
theorem dX5_begin_5 : decode cX5_begin 5 = .ok (.aload_n 0, 1) := by decide +kernel
theorem dX5_begin_6 : decode cX5_begin 6 = .ok (.invokevirtual 192, 3) := by decide +kernel
theorem dX5_begin_9 : decode cX5_begin 9 = .ok (.iconst 0, 1) := by decide +kernel
theorem dX5_begin_10 : decode cX5_begin 10 = .ok (.istore 5, 2) := by decide +kernel
theorem dX5_begin_12 : decode cX5_begin 12 = .ok (.iload 5, 2) := by decide +kernel
theorem dX5_begin_14 : decode cX5_begin 14 = .ok (.bipush 16, 2) := by decide +kernel
theorem dX5_begin_16 : decode cX5_begin 16 = .ok (.if_icmp .ge 26, 3) := by decide +kernel
theorem dX5_begin_19 : decode cX5_begin 19 = .ok (.aload_n 0, 1) := by decide +kernel
theorem dX5_begin_20 : decode cX5_begin 20 = .ok (.getfield 16, 3) := by decide +kernel
theorem dX5_begin_23 : decode cX5_begin 23 = .ok (.iload 5, 2) := by decide +kernel
theorem dX5_begin_25 : decode cX5_begin 25 = .ok (.iload 5, 2) := by decide +kernel
theorem dX5_begin_27 : decode cX5_begin 27 = .ok (.iload_n 1, 1) := by decide +kernel
theorem dX5_begin_28 : decode cX5_begin 28 = .ok (.iload_n 2, 1) := by decide +kernel
theorem dX5_begin_29 : decode cX5_begin 29 = .ok (.iload_n 3, 1) := by decide +kernel
theorem dX5_begin_30 : decode cX5_begin 30 = .ok (.iload 4, 2) := by decide +kernel
theorem dX5_begin_32 : decode cX5_begin 32 = .ok (.invokestatic 195, 3) := by decide +kernel
theorem dX5_begin_35 : decode cX5_begin 35 = .ok (.iastore, 1) := by decide +kernel
theorem dX5_begin_36 : decode cX5_begin 36 = .ok (.iinc 5 1, 3) := by decide +kernel
theorem dX5_begin_39 : decode cX5_begin 39 = .ok (.goto (-27), 3) := by decide +kernel
theorem dX5_begin_42 : decode cX5_begin 42 = .ok (.return_, 1) := by decide +kernel
theorem dX5_feed_0 : decode cX5_feed 0 = .ok (.iload_n 1, 1) := by decide +kernel
theorem dX5_feed_1 : decode cX5_feed 1 = .ok (.ifCond .lt 13, 3) := by decide +kernel
theorem dX5_feed_4 : decode cX5_feed 4 = .ok (.iload_n 1, 1) := by decide +kernel
theorem dX5_feed_5 : decode cX5_feed 5 = .ok (.bipush 16, 2) := by decide +kernel
theorem dX5_feed_7 : decode cX5_feed 7 = .ok (.if_icmp .gt 7, 3) := by decide +kernel
theorem dX5_feed_10 : decode cX5_feed 10 = .ok (.iconst 1, 1) := by decide +kernel
theorem dX5_feed_11 : decode cX5_feed 11 = .ok (.goto 4, 3) := by decide +kernel
theorem dX5_feed_14 : decode cX5_feed 14 = .ok (.iconst 0, 1) := by decide +kernel
theorem dX5_feed_15 : decode cX5_feed 15 = .ok (.istore 6, 2) := by decide +kernel
theorem dX5_feed_17 : decode cX5_feed 17 = .ok (.aload_n 0, 1) := by decide +kernel
theorem dX5_feed_18 : decode cX5_feed 18 = .ok (.iload 6, 2) := by decide +kernel
theorem dX5_feed_20 : decode cX5_feed 20 = .ok (.ifCond .ne 7, 3) := by decide +kernel
theorem dX5_feed_23 : decode cX5_feed 23 = .ok (.iconst 1, 1) := by decide +kernel
theorem dX5_feed_24 : decode cX5_feed 24 = .ok (.goto 19, 3) := by decide +kernel
theorem dX5_feed_27 : decode cX5_feed 27 = .ok (.aload_n 0, 1) := by decide +kernel
theorem dX5_feed_28 : decode cX5_feed 28 = .ok (.getfield 199, 3) := by decide +kernel
theorem dX5_feed_31 : decode cX5_feed 31 = .ok (.iload_n 1, 1) := by decide +kernel
theorem dX5_feed_32 : decode cX5_feed 32 = .ok (.iadd, 1) := by decide +kernel
theorem dX5_feed_33 : decode cX5_feed 33 = .ok (.bipush 40, 2) := by decide +kernel
theorem dX5_feed_35 : decode cX5_feed 35 = .ok (.if_icmp .le 7, 3) := by decide +kernel
theorem dX5_feed_38 : decode cX5_feed 38 = .ok (.iconst 2, 1) := by decide +kernel
theorem dX5_feed_39 : decode cX5_feed 39 = .ok (.goto 4, 3) := by decide +kernel
theorem dX5_feed_42 : decode cX5_feed 42 = .ok (.iconst 0, 1) := by decide +kernel
theorem dX5_feed_43 : decode cX5_feed 43 = .ok (.invokevirtual 202, 3) := by decide +kernel
theorem dX5_feed_46 : decode cX5_feed 46 = .ok (.ifCond .eq 5, 3) := by decide +kernel
theorem dX5_feed_49 : decode cX5_feed 49 = .ok (.iconst 0, 1) := by decide +kernel
theorem dX5_feed_50 : decode cX5_feed 50 = .ok (.ireturn, 1) := by decide +kernel
theorem dX5_feed_51 : decode cX5_feed 51 = .ok (.iconst 0, 1) := by decide +kernel
theorem dX5_feed_52 : decode cX5_feed 52 = .ok (.istore 7, 2) := by decide +kernel
theorem dX5_feed_54 : decode cX5_feed 54 = .ok (.iload 7, 2) := by decide +kernel
theorem dX5_feed_56 : decode cX5_feed 56 = .ok (.iload_n 1, 1) := by decide +kernel
theorem dX5_feed_57 : decode cX5_feed 57 = .ok (.if_icmp .ge 39, 3) := by decide +kernel
theorem dX5_feed_60 : decode cX5_feed 60 = .ok (.aload_n 0, 1) := by decide +kernel
theorem dX5_feed_61 : decode cX5_feed 61 = .ok (.getfield 13, 3) := by decide +kernel
theorem dX5_feed_64 : decode cX5_feed 64 = .ok (.aload_n 0, 1) := by decide +kernel
theorem dX5_feed_65 : decode cX5_feed 65 = .ok (.getfield 199, 3) := by decide +kernel
theorem dX5_feed_68 : decode cX5_feed 68 = .ok (.iload 7, 2) := by decide +kernel
theorem dX5_feed_70 : decode cX5_feed 70 = .ok (.iload_n 2, 1) := by decide +kernel
theorem dX5_feed_71 : decode cX5_feed 71 = .ok (.iload_n 3, 1) := by decide +kernel
theorem dX5_feed_72 : decode cX5_feed 72 = .ok (.iload 4, 2) := by decide +kernel
theorem dX5_feed_74 : decode cX5_feed 74 = .ok (.iload 5, 2) := by decide +kernel
theorem dX5_feed_76 : decode cX5_feed 76 = .ok (.invokestatic 195, 3) := by decide +kernel
theorem dX5_feed_79 : decode cX5_feed 79 = .ok (.iastore, 1) := by decide +kernel
theorem dX5_feed_80 : decode cX5_feed 80 = .ok (.aload_n 0, 1) := by decide +kernel
theorem dX5_feed_81 : decode cX5_feed 81 = .ok (.dup, 1) := by decide +kernel
theorem dX5_feed_82 : decode cX5_feed 82 = .ok (.getfield 199, 3) := by decide +kernel
theorem dX5_feed_85 : decode cX5_feed 85 = .ok (.iconst 1, 1) := by decide +kernel
theorem dX5_feed_86 : decode cX5_feed 86 = .ok (.iadd, 1) := by decide +kernel
theorem dX5_feed_87 : decode cX5_feed 87 = .ok (.putfield 199, 3) := by decide +kernel
theorem dX5_feed_90 : decode cX5_feed 90 = .ok (.iinc 7 1, 3) := by decide +kernel
theorem dX5_feed_93 : decode cX5_feed 93 = .ok (.goto (-39), 3) := by decide +kernel
theorem dX5_feed_96 : decode cX5_feed 96 = .ok (.aload_n 0, 1) := by decide +kernel
theorem dX5_feed_97 : decode cX5_feed 97 = .ok (.getfield 199, 3) := by decide +kernel
theorem dX5_feed_100 : decode cX5_feed 100 = .ok (.ireturn, 1) := by decide +kernel
theorem dX5_erase_0 : decode cX5_erase 0 = .ok (.aload_n 0, 1) := by decide +kernel
theorem dX5_erase_1 : decode cX5_erase 1 = .ok (.iconst 0, 1) := by decide +kernel
theorem dX5_erase_2 : decode cX5_erase 2 = .ok (.putfield 56, 3) := by decide +kernel
theorem dX5_erase_5 : decode cX5_erase 5 = .ok (.aload_n 0, 1) := by decide +kernel
theorem dX5_erase_6 : decode cX5_erase 6 = .ok (.getfield 199, 3) := by decide +kernel
theorem dX5_erase_9 : decode cX5_erase 9 = .ok (.istore_n 1, 1) := by decide +kernel
theorem dX5_erase_10 : decode cX5_erase 10 = .ok (.aload_n 0, 1) := by decide +kernel
theorem dX5_erase_11 : decode cX5_erase 11 = .ok (.iconst 0, 1) := by decide +kernel
theorem dX5_erase_12 : decode cX5_erase 12 = .ok (.putfield 199, 3) := by decide +kernel
theorem dX5_erase_15 : decode cX5_erase 15 = .ok (.iload_n 1, 1) := by decide +kernel
theorem dX5_erase_16 : decode cX5_erase 16 = .ok (.ireturn, 1) := by decide +kernel
theorem dX5_write_0 : decode cX5_write 0 = .ok (.iconst 0, 1) := by decide +kernel
theorem dX5_write_1 : decode cX5_write 1 = .ok (.istore_n 2, 1) := by decide +kernel
theorem dX5_write_2 : decode cX5_write 2 = .ok (.iload_n 2, 1) := by decide +kernel
theorem dX5_write_3 : decode cX5_write 3 = .ok (.bipush 16, 2) := by decide +kernel
theorem dX5_write_5 : decode cX5_write 5 = .ok (.if_icmp .ge 21, 3) := by decide +kernel
theorem dX5_write_8 : decode cX5_write 8 = .ok (.aload_n 0, 1) := by decide +kernel
theorem dX5_write_9 : decode cX5_write 9 = .ok (.getfield 34, 3) := by decide +kernel
theorem dX5_write_12 : decode cX5_write 12 = .ok (.iload_n 2, 1) := by decide +kernel
theorem dX5_write_13 : decode cX5_write 13 = .ok (.aload_n 0, 1) := by decide +kernel
theorem dX5_write_14 : decode cX5_write 14 = .ok (.getfield 16, 3) := by decide +kernel
theorem dX5_write_17 : decode cX5_write 17 = .ok (.iload_n 2, 1) := by decide +kernel
theorem dX5_write_18 : decode cX5_write 18 = .ok (.iaload, 1) := by decide +kernel
theorem dX5_write_19 : decode cX5_write 19 = .ok (.iastore, 1) := by decide +kernel
theorem dX5_write_20 : decode cX5_write 20 = .ok (.iinc 2 1, 3) := by decide +kernel
theorem dX5_write_23 : decode cX5_write 23 = .ok (.goto (-21), 3) := by decide +kernel
theorem dX5_write_26 : decode cX5_write 26 = .ok (.iconst 0, 1) := by decide +kernel
theorem dX5_write_27 : decode cX5_write 27 = .ok (.istore_n 2, 1) := by decide +kernel
theorem dX5_write_28 : decode cX5_write 28 = .ok (.iload_n 2, 1) := by decide +kernel
theorem dX5_write_29 : decode cX5_write 29 = .ok (.bipush 8, 2) := by decide +kernel
theorem dX5_write_31 : decode cX5_write 31 = .ok (.if_icmp .ge 21, 3) := by decide +kernel
theorem dX5_write_34 : decode cX5_write 34 = .ok (.aload_n 0, 1) := by decide +kernel
theorem dX5_write_35 : decode cX5_write 35 = .ok (.getfield 37, 3) := by decide +kernel
theorem dX5_write_38 : decode cX5_write 38 = .ok (.iload_n 2, 1) := by decide +kernel
theorem dX5_write_39 : decode cX5_write 39 = .ok (.aload_n 0, 1) := by decide +kernel
theorem dX5_write_40 : decode cX5_write 40 = .ok (.getfield 19, 3) := by decide +kernel
theorem dX5_write_43 : decode cX5_write 43 = .ok (.iload_n 2, 1) := by decide +kernel
theorem dX5_write_44 : decode cX5_write 44 = .ok (.iaload, 1) := by decide +kernel
theorem dX5_write_45 : decode cX5_write 45 = .ok (.iastore, 1) := by decide +kernel
theorem dX5_write_46 : decode cX5_write 46 = .ok (.iinc 2 1, 3) := by decide +kernel
theorem dX5_write_49 : decode cX5_write 49 = .ok (.goto (-21), 3) := by decide +kernel
theorem dX5_write_52 : decode cX5_write 52 = .ok (.aload_n 0, 1) := by decide +kernel
theorem dX5_write_53 : decode cX5_write 53 = .ok (.aload_n 0, 1) := by decide +kernel
theorem dX5_write_54 : decode cX5_write 54 = .ok (.getfield 186, 3) := by decide +kernel
theorem dX5_write_57 : decode cX5_write 57 = .ok (.aload_n 0, 1) := by decide +kernel
theorem dX5_write_58 : decode cX5_write 58 = .ok (.getfield 180, 3) := by decide +kernel
theorem dX5_write_61 : decode cX5_write 61 = .ok (.invokevirtual 206, 3) := by decide +kernel
theorem dX5_write_64 : decode cX5_write 64 = .ok (.iconst 0, 1) := by decide +kernel
theorem dX5_write_65 : decode cX5_write 65 = .ok (.istore_n 2, 1) := by decide +kernel
theorem dX5_write_66 : decode cX5_write 66 = .ok (.iload_n 2, 1) := by decide +kernel
theorem dX5_write_67 : decode cX5_write 67 = .ok (.bipush 8, 2) := by decide +kernel
theorem dX5_write_69 : decode cX5_write 69 = .ok (.if_icmp .ge 42, 3) := by decide +kernel
theorem dX5_write_72 : decode cX5_write 72 = .ok (.aload_n 0, 1) := by decide +kernel
theorem dX5_write_73 : decode cX5_write 73 = .ok (.getfield 19, 3) := by decide +kernel
theorem dX5_write_76 : decode cX5_write 76 = .ok (.iload_n 2, 1) := by decide +kernel
theorem dX5_write_77 : decode cX5_write 77 = .ok (.aload_n 0, 1) := by decide +kernel
theorem dX5_write_78 : decode cX5_write 78 = .ok (.getfield 31, 3) := by decide +kernel
theorem dX5_write_81 : decode cX5_write 81 = .ok (.iload_n 2, 1) := by decide +kernel
theorem dX5_write_82 : decode cX5_write 82 = .ok (.iaload, 1) := by decide +kernel
theorem dX5_write_83 : decode cX5_write 83 = .ok (.iastore, 1) := by decide +kernel
theorem dX5_write_84 : decode cX5_write 84 = .ok (.aload_n 0, 1) := by decide +kernel
theorem dX5_write_85 : decode cX5_write 85 = .ok (.getfield 7, 3) := by decide +kernel
theorem dX5_write_88 : decode cX5_write 88 = .ok (.aload_n 0, 1) := by decide +kernel
theorem dX5_write_89 : decode cX5_write 89 = .ok (.getfield 180, 3) := by decide +kernel
theorem dX5_write_92 : decode cX5_write 92 = .ok (.iconst 2, 1) := by decide +kernel
theorem dX5_write_93 : decode cX5_write 93 = .ok (.iadd, 1) := by decide +kernel
theorem dX5_write_94 : decode cX5_write 94 = .ok (.iload_n 1, 1) := by decide +kernel
theorem dX5_write_95 : decode cX5_write 95 = .ok (.iadd, 1) := by decide +kernel
theorem dX5_write_96 : decode cX5_write 96 = .ok (.iload_n 2, 1) := by decide +kernel
theorem dX5_write_97 : decode cX5_write 97 = .ok (.iadd, 1) := by decide +kernel
theorem dX5_write_98 : decode cX5_write 98 = .ok (.aload_n 0, 1) := by decide +kernel
theorem dX5_write_99 : decode cX5_write 99 = .ok (.getfield 31, 3) := by decide +kernel
theorem dX5_write_102 : decode cX5_write 102 = .ok (.iload_n 2, 1) := by decide +kernel
theorem dX5_write_103 : decode cX5_write 103 = .ok (.iaload, 1) := by decide +kernel
theorem dX5_write_104 : decode cX5_write 104 = .ok (.iastore, 1) := by decide +kernel
theorem dX5_write_105 : decode cX5_write 105 = .ok (.iinc 2 1, 3) := by decide +kernel
theorem dX5_write_108 : decode cX5_write 108 = .ok (.goto (-42), 3) := by decide +kernel
theorem dX5_write_111 : decode cX5_write 111 = .ok (.aload_n 0, 1) := by decide +kernel
theorem dX5_write_112 : decode cX5_write 112 = .ok (.aload_n 0, 1) := by decide +kernel
theorem dX5_write_113 : decode cX5_write 113 = .ok (.getfield 180, 3) := by decide +kernel
theorem dX5_write_116 : decode cX5_write 116 = .ok (.bipush 10, 2) := by decide +kernel
theorem dX5_write_118 : decode cX5_write 118 = .ok (.iadd, 1) := by decide +kernel
theorem dX5_write_119 : decode cX5_write 119 = .ok (.iload_n 1, 1) := by decide +kernel
theorem dX5_write_120 : decode cX5_write 120 = .ok (.iadd, 1) := by decide +kernel
theorem dX5_write_121 : decode cX5_write 121 = .ok (.putfield 180, 3) := by decide +kernel
theorem dX5_write_124 : decode cX5_write 124 = .ok (.aload_n 0, 1) := by decide +kernel
theorem dX5_write_125 : decode cX5_write 125 = .ok (.invokevirtual 210, 3) := by decide +kernel
theorem dX5_write_128 : decode cX5_write 128 = .ok (.iconst 0, 1) := by decide +kernel
theorem dX5_write_129 : decode cX5_write 129 = .ok (.istore_n 2, 1) := by decide +kernel
theorem dX5_write_130 : decode cX5_write 130 = .ok (.iload_n 2, 1) := by decide +kernel
theorem dX5_write_131 : decode cX5_write 131 = .ok (.bipush 16, 2) := by decide +kernel
theorem dX5_write_133 : decode cX5_write 133 = .ok (.if_icmp .ge 21, 3) := by decide +kernel
theorem dX5_write_136 : decode cX5_write 136 = .ok (.aload_n 0, 1) := by decide +kernel
theorem dX5_write_137 : decode cX5_write 137 = .ok (.getfield 16, 3) := by decide +kernel
theorem dX5_write_140 : decode cX5_write 140 = .ok (.iload_n 2, 1) := by decide +kernel
theorem dX5_write_141 : decode cX5_write 141 = .ok (.aload_n 0, 1) := by decide +kernel
theorem dX5_write_142 : decode cX5_write 142 = .ok (.getfield 34, 3) := by decide +kernel
theorem dX5_write_145 : decode cX5_write 145 = .ok (.iload_n 2, 1) := by decide +kernel
theorem dX5_write_146 : decode cX5_write 146 = .ok (.iaload, 1) := by decide +kernel
theorem dX5_write_147 : decode cX5_write 147 = .ok (.iastore, 1) := by decide +kernel
theorem dX5_write_148 : decode cX5_write 148 = .ok (.iinc 2 1, 3) := by decide +kernel
theorem dX5_write_151 : decode cX5_write 151 = .ok (.goto (-21), 3) := by decide +kernel
theorem dX5_write_154 : decode cX5_write 154 = .ok (.aload_n 0, 1) := by decide +kernel
theorem dX5_write_155 : decode cX5_write 155 = .ok (.dup, 1) := by decide +kernel
theorem dX5_write_156 : decode cX5_write 156 = .ok (.getfield 186, 3) := by decide +kernel
theorem dX5_write_159 : decode cX5_write 159 = .ok (.iconst 1, 1) := by decide +kernel
theorem dX5_write_160 : decode cX5_write 160 = .ok (.iadd, 1) := by decide +kernel
theorem dX5_write_161 : decode cX5_write 161 = .ok (.putfield 186, 3) := by decide +kernel
theorem dX5_write_164 : decode cX5_write 164 = .ok (.aload_n 0, 1) := by decide +kernel
theorem dX5_write_165 : decode cX5_write 165 = .ok (.getfield 186, 3) := by decide +kernel
theorem dX5_write_168 : decode cX5_write 168 = .ok (.iconst 1, 1) := by decide +kernel
theorem dX5_write_169 : decode cX5_write 169 = .ok (.isub, 1) := by decide +kernel
theorem dX5_write_170 : decode cX5_write 170 = .ok (.ireturn, 1) := by decide +kernel
theorem dX5_fits_0 : decode cX5_fits 0 = .ok (.aload_n 0, 1) := by decide +kernel
theorem dX5_fits_1 : decode cX5_fits 1 = .ok (.getfield 180, 3) := by decide +kernel
theorem dX5_fits_4 : decode cX5_fits 4 = .ok (.bipush 10, 2) := by decide +kernel
theorem dX5_fits_6 : decode cX5_fits 6 = .ok (.iadd, 1) := by decide +kernel
theorem dX5_fits_7 : decode cX5_fits 7 = .ok (.iload_n 1, 1) := by decide +kernel
theorem dX5_fits_8 : decode cX5_fits 8 = .ok (.iadd, 1) := by decide +kernel
theorem dX5_fits_9 : decode cX5_fits 9 = .ok (.sipush 1200, 3) := by decide +kernel
theorem dX5_fits_12 : decode cX5_fits 12 = .ok (.if_icmp .gt 7, 3) := by decide +kernel
theorem dX5_fits_15 : decode cX5_fits 15 = .ok (.iconst 1, 1) := by decide +kernel
theorem dX5_fits_16 : decode cX5_fits 16 = .ok (.goto 4, 3) := by decide +kernel
theorem dX5_fits_19 : decode cX5_fits 19 = .ok (.iconst 0, 1) := by decide +kernel
theorem dX5_fits_20 : decode cX5_fits 20 = .ok (.ireturn, 1) := by decide +kernel
theorem dX5_append_0 : decode cX5_append 0 = .ok (.aload_n 0, 1) := by decide +kernel
theorem dX5_append_1 : decode cX5_append 1 = .ok (.aload_n 0, 1) := by decide +kernel
theorem dX5_append_2 : decode cX5_append 2 = .ok (.getfield 52, 3) := by decide +kernel
theorem dX5_append_5 : decode cX5_append 5 = .ok (.ifCond .eq 7, 3) := by decide +kernel
theorem dX5_append_8 : decode cX5_append 8 = .ok (.iconst 0, 1) := by decide +kernel
theorem dX5_append_9 : decode cX5_append 9 = .ok (.goto 4, 3) := by decide +kernel
theorem dX5_append_12 : decode cX5_append 12 = .ok (.iconst 1, 1) := by decide +kernel
theorem dX5_append_13 : decode cX5_append 13 = .ok (.invokevirtual 202, 3) := by decide +kernel
theorem dX5_append_16 : decode cX5_append 16 = .ok (.ifCond .eq 5, 3) := by decide +kernel
theorem dX5_append_19 : decode cX5_append 19 = .ok (.iconst 0, 1) := by decide +kernel
theorem dX5_append_20 : decode cX5_append 20 = .ok (.ireturn, 1) := by decide +kernel
theorem dX5_append_21 : decode cX5_append 21 = .ok (.aload_n 0, 1) := by decide +kernel
theorem dX5_append_22 : decode cX5_append 22 = .ok (.aload_n 0, 1) := by decide +kernel
theorem dX5_append_23 : decode cX5_append 23 = .ok (.getfield 199, 3) := by decide +kernel
theorem dX5_append_26 : decode cX5_append 26 = .ok (.invokevirtual 213, 3) := by decide +kernel
theorem dX5_append_29 : decode cX5_append 29 = .ok (.ifCond .ne 6, 3) := by decide +kernel
theorem dX5_append_32 : decode cX5_append 32 = .ok (.bipush (-2), 2) := by decide +kernel
theorem dX5_append_34 : decode cX5_append 34 = .ok (.ireturn, 1) := by decide +kernel
theorem dX5_append_35 : decode cX5_append 35 = .ok (.aload_n 0, 1) := by decide +kernel
theorem dX5_append_36 : decode cX5_append 36 = .ok (.getfield 7, 3) := by decide +kernel
theorem dX5_append_39 : decode cX5_append 39 = .ok (.aload_n 0, 1) := by decide +kernel
theorem dX5_append_40 : decode cX5_append 40 = .ok (.getfield 180, 3) := by decide +kernel
theorem dX5_append_43 : decode cX5_append 43 = .ok (.iconst 1, 1) := by decide +kernel
theorem dX5_append_44 : decode cX5_append 44 = .ok (.iastore, 1) := by decide +kernel
theorem dX5_append_45 : decode cX5_append 45 = .ok (.aload_n 0, 1) := by decide +kernel
theorem dX5_append_46 : decode cX5_append 46 = .ok (.getfield 7, 3) := by decide +kernel
theorem dX5_append_49 : decode cX5_append 49 = .ok (.aload_n 0, 1) := by decide +kernel
theorem dX5_append_50 : decode cX5_append 50 = .ok (.getfield 180, 3) := by decide +kernel
theorem dX5_append_53 : decode cX5_append 53 = .ok (.iconst 1, 1) := by decide +kernel
theorem dX5_append_54 : decode cX5_append 54 = .ok (.iadd, 1) := by decide +kernel
theorem dX5_append_55 : decode cX5_append 55 = .ok (.aload_n 0, 1) := by decide +kernel
theorem dX5_append_56 : decode cX5_append 56 = .ok (.getfield 199, 3) := by decide +kernel
theorem dX5_append_59 : decode cX5_append 59 = .ok (.iastore, 1) := by decide +kernel
theorem dX5_append_60 : decode cX5_append 60 = .ok (.iconst 0, 1) := by decide +kernel
theorem dX5_append_61 : decode cX5_append 61 = .ok (.istore_n 1, 1) := by decide +kernel
theorem dX5_append_62 : decode cX5_append 62 = .ok (.iload_n 1, 1) := by decide +kernel
theorem dX5_append_63 : decode cX5_append 63 = .ok (.aload_n 0, 1) := by decide +kernel
theorem dX5_append_64 : decode cX5_append 64 = .ok (.getfield 199, 3) := by decide +kernel
theorem dX5_append_67 : decode cX5_append 67 = .ok (.if_icmp .ge 28, 3) := by decide +kernel
theorem dX5_append_70 : decode cX5_append 70 = .ok (.aload_n 0, 1) := by decide +kernel
theorem dX5_append_71 : decode cX5_append 71 = .ok (.getfield 7, 3) := by decide +kernel
theorem dX5_append_74 : decode cX5_append 74 = .ok (.aload_n 0, 1) := by decide +kernel
theorem dX5_append_75 : decode cX5_append 75 = .ok (.getfield 180, 3) := by decide +kernel
theorem dX5_append_78 : decode cX5_append 78 = .ok (.iconst 2, 1) := by decide +kernel
theorem dX5_append_79 : decode cX5_append 79 = .ok (.iadd, 1) := by decide +kernel
theorem dX5_append_80 : decode cX5_append 80 = .ok (.iload_n 1, 1) := by decide +kernel
theorem dX5_append_81 : decode cX5_append 81 = .ok (.iadd, 1) := by decide +kernel
theorem dX5_append_82 : decode cX5_append 82 = .ok (.aload_n 0, 1) := by decide +kernel
theorem dX5_append_83 : decode cX5_append 83 = .ok (.getfield 13, 3) := by decide +kernel
theorem dX5_append_86 : decode cX5_append 86 = .ok (.iload_n 1, 1) := by decide +kernel
theorem dX5_append_87 : decode cX5_append 87 = .ok (.iaload, 1) := by decide +kernel
theorem dX5_append_88 : decode cX5_append 88 = .ok (.iastore, 1) := by decide +kernel
theorem dX5_append_89 : decode cX5_append 89 = .ok (.iinc 1 1, 3) := by decide +kernel
theorem dX5_append_92 : decode cX5_append 92 = .ok (.goto (-30), 3) := by decide +kernel
theorem dX5_append_95 : decode cX5_append 95 = .ok (.aload_n 0, 1) := by decide +kernel
theorem dX5_append_96 : decode cX5_append 96 = .ok (.aload_n 0, 1) := by decide +kernel
theorem dX5_append_97 : decode cX5_append 97 = .ok (.getfield 199, 3) := by decide +kernel
theorem dX5_append_100 : decode cX5_append 100 = .ok (.invokevirtual 216, 3) := by decide +kernel
theorem dX5_append_103 : decode cX5_append 103 = .ok (.ireturn, 1) := by decide +kernel
theorem dX5_seal_0 : decode cX5_seal 0 = .ok (.aload_n 0, 1) := by decide +kernel
theorem dX5_seal_1 : decode cX5_seal 1 = .ok (.aload_n 0, 1) := by decide +kernel
theorem dX5_seal_2 : decode cX5_seal 2 = .ok (.getfield 52, 3) := by decide +kernel
theorem dX5_seal_5 : decode cX5_seal 5 = .ok (.ifCond .eq 7, 3) := by decide +kernel
theorem dX5_seal_8 : decode cX5_seal 8 = .ok (.iconst 0, 1) := by decide +kernel
theorem dX5_seal_9 : decode cX5_seal 9 = .ok (.goto 4, 3) := by decide +kernel
theorem dX5_seal_12 : decode cX5_seal 12 = .ok (.iconst 1, 1) := by decide +kernel
theorem dX5_seal_13 : decode cX5_seal 13 = .ok (.invokevirtual 202, 3) := by decide +kernel
theorem dX5_seal_16 : decode cX5_seal 16 = .ok (.ifCond .eq 5, 3) := by decide +kernel
theorem dX5_seal_19 : decode cX5_seal 19 = .ok (.iconst 0, 1) := by decide +kernel
theorem dX5_seal_20 : decode cX5_seal 20 = .ok (.ireturn, 1) := by decide +kernel
theorem dX5_seal_21 : decode cX5_seal 21 = .ok (.aload_n 0, 1) := by decide +kernel
theorem dX5_seal_22 : decode cX5_seal 22 = .ok (.iconst 0, 1) := by decide +kernel
theorem dX5_seal_23 : decode cX5_seal 23 = .ok (.invokevirtual 213, 3) := by decide +kernel
theorem dX5_seal_26 : decode cX5_seal 26 = .ok (.ifCond .ne 6, 3) := by decide +kernel
theorem dX5_seal_29 : decode cX5_seal 29 = .ok (.bipush (-2), 2) := by decide +kernel
theorem dX5_seal_31 : decode cX5_seal 31 = .ok (.ireturn, 1) := by decide +kernel
theorem dX5_seal_32 : decode cX5_seal 32 = .ok (.aload_n 0, 1) := by decide +kernel
theorem dX5_seal_33 : decode cX5_seal 33 = .ok (.getfield 7, 3) := by decide +kernel
theorem dX5_seal_36 : decode cX5_seal 36 = .ok (.aload_n 0, 1) := by decide +kernel
theorem dX5_seal_37 : decode cX5_seal 37 = .ok (.getfield 180, 3) := by decide +kernel
theorem dX5_seal_40 : decode cX5_seal 40 = .ok (.iconst 2, 1) := by decide +kernel
theorem dX5_seal_41 : decode cX5_seal 41 = .ok (.iastore, 1) := by decide +kernel
theorem dX5_seal_42 : decode cX5_seal 42 = .ok (.aload_n 0, 1) := by decide +kernel
theorem dX5_seal_43 : decode cX5_seal 43 = .ok (.getfield 7, 3) := by decide +kernel
theorem dX5_seal_46 : decode cX5_seal 46 = .ok (.aload_n 0, 1) := by decide +kernel
theorem dX5_seal_47 : decode cX5_seal 47 = .ok (.getfield 180, 3) := by decide +kernel
theorem dX5_seal_50 : decode cX5_seal 50 = .ok (.iconst 1, 1) := by decide +kernel
theorem dX5_seal_51 : decode cX5_seal 51 = .ok (.iadd, 1) := by decide +kernel
theorem dX5_seal_52 : decode cX5_seal 52 = .ok (.iconst 0, 1) := by decide +kernel
theorem dX5_seal_53 : decode cX5_seal 53 = .ok (.iastore, 1) := by decide +kernel
theorem dX5_seal_54 : decode cX5_seal 54 = .ok (.aload_n 0, 1) := by decide +kernel
theorem dX5_seal_55 : decode cX5_seal 55 = .ok (.iconst 0, 1) := by decide +kernel
theorem dX5_seal_56 : decode cX5_seal 56 = .ok (.invokevirtual 216, 3) := by decide +kernel
theorem dX5_seal_59 : decode cX5_seal 59 = .ok (.ireturn, 1) := by decide +kernel
theorem dX5_sync_0 : decode cX5_sync 0 = .ok (.aload_n 0, 1) := by decide +kernel
theorem dX5_sync_1 : decode cX5_sync 1 = .ok (.aload_n 0, 1) := by decide +kernel
theorem dX5_sync_2 : decode cX5_sync 2 = .ok (.getfield 52, 3) := by decide +kernel
theorem dX5_sync_5 : decode cX5_sync 5 = .ok (.ifCond .eq 7, 3) := by decide +kernel
theorem dX5_sync_8 : decode cX5_sync 8 = .ok (.iconst 0, 1) := by decide +kernel
theorem dX5_sync_9 : decode cX5_sync 9 = .ok (.goto 4, 3) := by decide +kernel
theorem dX5_sync_12 : decode cX5_sync 12 = .ok (.iconst 1, 1) := by decide +kernel
theorem dX5_sync_13 : decode cX5_sync 13 = .ok (.invokevirtual 202, 3) := by decide +kernel
theorem dX5_sync_16 : decode cX5_sync 16 = .ok (.ifCond .eq 5, 3) := by decide +kernel
theorem dX5_sync_19 : decode cX5_sync 19 = .ok (.iconst 0, 1) := by decide +kernel
theorem dX5_sync_20 : decode cX5_sync 20 = .ok (.ireturn, 1) := by decide +kernel
theorem dX5_sync_21 : decode cX5_sync 21 = .ok (.aload_n 0, 1) := by decide +kernel
theorem dX5_sync_22 : decode cX5_sync 22 = .ok (.aload_n 0, 1) := by decide +kernel
theorem dX5_sync_23 : decode cX5_sync 23 = .ok (.getfield 180, 3) := by decide +kernel
theorem dX5_sync_26 : decode cX5_sync 26 = .ok (.putfield 183, 3) := by decide +kernel
theorem dX5_sync_29 : decode cX5_sync 29 = .ok (.aload_n 0, 1) := by decide +kernel
theorem dX5_sync_30 : decode cX5_sync 30 = .ok (.getfield 183, 3) := by decide +kernel
theorem dX5_sync_33 : decode cX5_sync 33 = .ok (.ireturn, 1) := by decide +kernel
theorem dX5_crash_0 : decode cX5_crash 0 = .ok (.aload_n 0, 1) := by decide +kernel
theorem dX5_crash_1 : decode cX5_crash 1 = .ok (.iload_n 1, 1) := by decide +kernel
theorem dX5_crash_2 : decode cX5_crash 2 = .ok (.ifCond .ge 7, 3) := by decide +kernel
theorem dX5_crash_5 : decode cX5_crash 5 = .ok (.iconst 1, 1) := by decide +kernel
theorem dX5_crash_6 : decode cX5_crash 6 = .ok (.goto 4, 3) := by decide +kernel
theorem dX5_crash_9 : decode cX5_crash 9 = .ok (.iconst 0, 1) := by decide +kernel
theorem dX5_crash_10 : decode cX5_crash 10 = .ok (.invokevirtual 202, 3) := by decide +kernel
theorem dX5_crash_13 : decode cX5_crash 13 = .ok (.ifCond .eq 5, 3) := by decide +kernel
theorem dX5_crash_16 : decode cX5_crash 16 = .ok (.iconst 0, 1) := by decide +kernel
theorem dX5_crash_17 : decode cX5_crash 17 = .ok (.ireturn, 1) := by decide +kernel
theorem dX5_crash_18 : decode cX5_crash 18 = .ok (.aload_n 0, 1) := by decide +kernel
theorem dX5_crash_19 : decode cX5_crash 19 = .ok (.getfield 180, 3) := by decide +kernel
theorem dX5_crash_22 : decode cX5_crash 22 = .ok (.aload_n 0, 1) := by decide +kernel
theorem dX5_crash_23 : decode cX5_crash 23 = .ok (.getfield 183, 3) := by decide +kernel
theorem dX5_crash_26 : decode cX5_crash 26 = .ok (.isub, 1) := by decide +kernel
theorem dX5_crash_27 : decode cX5_crash 27 = .ok (.istore_n 2, 1) := by decide +kernel
theorem dX5_crash_28 : decode cX5_crash 28 = .ok (.iload_n 1, 1) := by decide +kernel
theorem dX5_crash_29 : decode cX5_crash 29 = .ok (.iload_n 2, 1) := by decide +kernel
theorem dX5_crash_30 : decode cX5_crash 30 = .ok (.if_icmp .ge 9, 3) := by decide +kernel
theorem dX5_crash_33 : decode cX5_crash 33 = .ok (.iload_n 2, 1) := by decide +kernel
theorem dX5_crash_34 : decode cX5_crash 34 = .ok (.iload_n 1, 1) := by decide +kernel
theorem dX5_crash_35 : decode cX5_crash 35 = .ok (.isub, 1) := by decide +kernel
theorem dX5_crash_36 : decode cX5_crash 36 = .ok (.goto 4, 3) := by decide +kernel
theorem dX5_crash_39 : decode cX5_crash 39 = .ok (.iconst 0, 1) := by decide +kernel
theorem dX5_crash_40 : decode cX5_crash 40 = .ok (.istore_n 3, 1) := by decide +kernel
theorem dX5_crash_41 : decode cX5_crash 41 = .ok (.aload_n 0, 1) := by decide +kernel
theorem dX5_crash_42 : decode cX5_crash 42 = .ok (.aload_n 0, 1) := by decide +kernel
theorem dX5_crash_43 : decode cX5_crash 43 = .ok (.getfield 180, 3) := by decide +kernel
theorem dX5_crash_46 : decode cX5_crash 46 = .ok (.iload_n 3, 1) := by decide +kernel
theorem dX5_crash_47 : decode cX5_crash 47 = .ok (.isub, 1) := by decide +kernel
theorem dX5_crash_48 : decode cX5_crash 48 = .ok (.putfield 180, 3) := by decide +kernel
theorem dX5_crash_51 : decode cX5_crash 51 = .ok (.aload_n 0, 1) := by decide +kernel
theorem dX5_crash_52 : decode cX5_crash 52 = .ok (.iconst 0, 1) := by decide +kernel
theorem dX5_crash_53 : decode cX5_crash 53 = .ok (.putfield 52, 3) := by decide +kernel
theorem dX5_crash_56 : decode cX5_crash 56 = .ok (.aload_n 0, 1) := by decide +kernel
theorem dX5_crash_57 : decode cX5_crash 57 = .ok (.dup, 1) := by decide +kernel
theorem dX5_crash_58 : decode cX5_crash 58 = .ok (.getfield 189, 3) := by decide +kernel
theorem dX5_crash_61 : decode cX5_crash 61 = .ok (.iconst 1, 1) := by decide +kernel
theorem dX5_crash_62 : decode cX5_crash 62 = .ok (.iadd, 1) := by decide +kernel
theorem dX5_crash_63 : decode cX5_crash 63 = .ok (.putfield 189, 3) := by decide +kernel
theorem dX5_crash_66 : decode cX5_crash 66 = .ok (.iload_n 3, 1) := by decide +kernel
theorem dX5_crash_67 : decode cX5_crash 67 = .ok (.ireturn, 1) := by decide +kernel
theorem dX5_look_0 : decode cX5_look 0 = .ok (.iload_n 1, 1) := by decide +kernel
theorem dX5_look_1 : decode cX5_look 1 = .ok (.iconst 2, 1) := by decide +kernel
theorem dX5_look_2 : decode cX5_look 2 = .ok (.iadd, 1) := by decide +kernel
theorem dX5_look_3 : decode cX5_look 3 = .ok (.aload_n 0, 1) := by decide +kernel
theorem dX5_look_4 : decode cX5_look 4 = .ok (.getfield 180, 3) := by decide +kernel
theorem dX5_look_7 : decode cX5_look 7 = .ok (.if_icmp .le 5, 3) := by decide +kernel
theorem dX5_look_10 : decode cX5_look 10 = .ok (.iconst 0, 1) := by decide +kernel
theorem dX5_look_11 : decode cX5_look 11 = .ok (.ireturn, 1) := by decide +kernel
theorem dX5_look_12 : decode cX5_look 12 = .ok (.aload_n 0, 1) := by decide +kernel
theorem dX5_look_13 : decode cX5_look 13 = .ok (.aload_n 0, 1) := by decide +kernel
theorem dX5_look_14 : decode cX5_look 14 = .ok (.getfield 7, 3) := by decide +kernel
theorem dX5_look_17 : decode cX5_look 17 = .ok (.iload_n 1, 1) := by decide +kernel
theorem dX5_look_18 : decode cX5_look 18 = .ok (.iaload, 1) := by decide +kernel
theorem dX5_look_19 : decode cX5_look 19 = .ok (.putfield 219, 3) := by decide +kernel
theorem dX5_look_22 : decode cX5_look 22 = .ok (.aload_n 0, 1) := by decide +kernel
theorem dX5_look_23 : decode cX5_look 23 = .ok (.aload_n 0, 1) := by decide +kernel
theorem dX5_look_24 : decode cX5_look 24 = .ok (.getfield 7, 3) := by decide +kernel
theorem dX5_look_27 : decode cX5_look 27 = .ok (.iload_n 1, 1) := by decide +kernel
theorem dX5_look_28 : decode cX5_look 28 = .ok (.iconst 1, 1) := by decide +kernel
theorem dX5_look_29 : decode cX5_look 29 = .ok (.iadd, 1) := by decide +kernel
theorem dX5_look_30 : decode cX5_look 30 = .ok (.iaload, 1) := by decide +kernel
theorem dX5_look_31 : decode cX5_look 31 = .ok (.putfield 222, 3) := by decide +kernel
theorem dX5_look_34 : decode cX5_look 34 = .ok (.aload_n 0, 1) := by decide +kernel
theorem dX5_look_35 : decode cX5_look 35 = .ok (.iconst 0, 1) := by decide +kernel
theorem dX5_look_36 : decode cX5_look 36 = .ok (.putfield 225, 3) := by decide +kernel
theorem dX5_look_39 : decode cX5_look 39 = .ok (.aload_n 0, 1) := by decide +kernel
theorem dX5_look_40 : decode cX5_look 40 = .ok (.getfield 219, 3) := by decide +kernel
theorem dX5_look_43 : decode cX5_look 43 = .ok (.iconst 1, 1) := by decide +kernel
theorem dX5_look_44 : decode cX5_look 44 = .ok (.if_icmp .ne 12, 3) := by decide +kernel
theorem dX5_look_47 : decode cX5_look 47 = .ok (.aload_n 0, 1) := by decide +kernel
theorem dX5_look_48 : decode cX5_look 48 = .ok (.getfield 222, 3) := by decide +kernel
theorem dX5_look_51 : decode cX5_look 51 = .ok (.bipush 40, 2) := by decide +kernel
theorem dX5_look_53 : decode cX5_look 53 = .ok (.if_icmp .le 34, 3) := by decide +kernel
theorem dX5_look_56 : decode cX5_look 56 = .ok (.aload_n 0, 1) := by decide +kernel
theorem dX5_look_57 : decode cX5_look 57 = .ok (.getfield 219, 3) := by decide +kernel
theorem dX5_look_60 : decode cX5_look 60 = .ok (.iconst 2, 1) := by decide +kernel
theorem dX5_look_61 : decode cX5_look 61 = .ok (.if_icmp .ne 10, 3) := by decide +kernel
theorem dX5_look_64 : decode cX5_look 64 = .ok (.aload_n 0, 1) := by decide +kernel
theorem dX5_look_65 : decode cX5_look 65 = .ok (.getfield 222, 3) := by decide +kernel
theorem dX5_look_68 : decode cX5_look 68 = .ok (.ifCond .eq 19, 3) := by decide +kernel
theorem dX5_look_71 : decode cX5_look 71 = .ok (.aload_n 0, 1) := by decide +kernel
theorem dX5_look_72 : decode cX5_look 72 = .ok (.getfield 219, 3) := by decide +kernel
theorem dX5_look_75 : decode cX5_look 75 = .ok (.iconst 3, 1) := by decide +kernel
theorem dX5_look_76 : decode cX5_look 76 = .ok (.if_icmp .ne 15, 3) := by decide +kernel
theorem dX5_look_79 : decode cX5_look 79 = .ok (.aload_n 0, 1) := by decide +kernel
theorem dX5_look_80 : decode cX5_look 80 = .ok (.getfield 222, 3) := by decide +kernel
