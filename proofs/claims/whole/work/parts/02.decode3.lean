theorem dX4_more_16 : decode cX4_more 16 = .ok (.if_icmp .le 19, 3) := by decide +kernel
theorem dX4_more_19 : decode cX4_more 19 = .ok (.aload_n 0, 1) := by decide +kernel
theorem dX4_more_20 : decode cX4_more 20 = .ok (.sipush 255, 3) := by decide +kernel
theorem dX4_more_23 : decode cX4_more 23 = .ok (.invokevirtual 51, 3) := by decide +kernel
theorem dX4_more_26 : decode cX4_more 26 = .ok (.iinc 2 (-255), 6) := by decide +kernel
theorem dX4_more_32 : decode cX4_more 32 = .ok (.goto (-20), 3) := by decide +kernel
theorem dX4_more_35 : decode cX4_more 35 = .ok (.aload_n 0, 1) := by decide +kernel
theorem dX4_more_36 : decode cX4_more 36 = .ok (.iload_n 2, 1) := by decide +kernel
theorem dX4_more_37 : decode cX4_more 37 = .ok (.invokevirtual 51, 3) := by decide +kernel
theorem dX4_more_40 : decode cX4_more 40 = .ok (.return_, 1) := by decide +kernel
theorem dX4_sequence_0 : decode cX4_sequence 0 = .ok (.iload_n 2, 1) := by decide +kernel
theorem dX4_sequence_1 : decode cX4_sequence 1 = .ok (.iload_n 1, 1) := by decide +kernel
theorem dX4_sequence_2 : decode cX4_sequence 2 = .ok (.isub, 1) := by decide +kernel
theorem dX4_sequence_3 : decode cX4_sequence 3 = .ok (.istore 5, 2) := by decide +kernel
theorem dX4_sequence_5 : decode cX4_sequence 5 = .ok (.iload_n 3, 1) := by decide +kernel
theorem dX4_sequence_6 : decode cX4_sequence 6 = .ok (.ifCond .ne 7, 3) := by decide +kernel
theorem dX4_sequence_9 : decode cX4_sequence 9 = .ok (.iconst 0, 1) := by decide +kernel
theorem dX4_sequence_10 : decode cX4_sequence 10 = .ok (.goto 7, 3) := by decide +kernel
theorem dX4_sequence_13 : decode cX4_sequence 13 = .ok (.iload 4, 2) := by decide +kernel
theorem dX4_sequence_15 : decode cX4_sequence 15 = .ok (.iconst 4, 1) := by decide +kernel
theorem dX4_sequence_16 : decode cX4_sequence 16 = .ok (.isub, 1) := by decide +kernel
theorem dX4_sequence_17 : decode cX4_sequence 17 = .ok (.istore 6, 2) := by decide +kernel
theorem dX4_sequence_19 : decode cX4_sequence 19 = .ok (.aload_n 0, 1) := by decide +kernel
theorem dX4_sequence_20 : decode cX4_sequence 20 = .ok (.bipush 16, 2) := by decide +kernel
theorem dX4_sequence_22 : decode cX4_sequence 22 = .ok (.iload 5, 2) := by decide +kernel
theorem dX4_sequence_24 : decode cX4_sequence 24 = .ok (.bipush 15, 2) := by decide +kernel
theorem dX4_sequence_26 : decode cX4_sequence 26 = .ok (.if_icmp .ge 8, 3) := by decide +kernel
theorem dX4_sequence_29 : decode cX4_sequence 29 = .ok (.iload 5, 2) := by decide +kernel
theorem dX4_sequence_31 : decode cX4_sequence 31 = .ok (.goto 5, 3) := by decide +kernel
theorem dX4_sequence_34 : decode cX4_sequence 34 = .ok (.bipush 15, 2) := by decide +kernel
theorem dX4_sequence_36 : decode cX4_sequence 36 = .ok (.imul, 1) := by decide +kernel
theorem dX4_sequence_37 : decode cX4_sequence 37 = .ok (.iload 6, 2) := by decide +kernel
theorem dX4_sequence_39 : decode cX4_sequence 39 = .ok (.bipush 15, 2) := by decide +kernel
theorem dX4_sequence_41 : decode cX4_sequence 41 = .ok (.if_icmp .ge 8, 3) := by decide +kernel
theorem dX4_sequence_44 : decode cX4_sequence 44 = .ok (.iload 6, 2) := by decide +kernel
theorem dX4_sequence_46 : decode cX4_sequence 46 = .ok (.goto 5, 3) := by decide +kernel
theorem dX4_sequence_49 : decode cX4_sequence 49 = .ok (.bipush 15, 2) := by decide +kernel
theorem dX4_sequence_51 : decode cX4_sequence 51 = .ok (.iadd, 1) := by decide +kernel
theorem dX4_sequence_52 : decode cX4_sequence 52 = .ok (.invokevirtual 51, 3) := by decide +kernel
theorem dX4_sequence_55 : decode cX4_sequence 55 = .ok (.aload_n 0, 1) := by decide +kernel
theorem dX4_sequence_56 : decode cX4_sequence 56 = .ok (.iload 5, 2) := by decide +kernel
theorem dX4_sequence_58 : decode cX4_sequence 58 = .ok (.invokevirtual 55, 3) := by decide +kernel
theorem dX4_sequence_61 : decode cX4_sequence 61 = .ok (.iload_n 1, 1) := by decide +kernel
theorem dX4_sequence_62 : decode cX4_sequence 62 = .ok (.istore 7, 2) := by decide +kernel
theorem dX4_sequence_64 : decode cX4_sequence 64 = .ok (.iload 7, 2) := by decide +kernel
theorem dX4_sequence_66 : decode cX4_sequence 66 = .ok (.iload_n 2, 1) := by decide +kernel
theorem dX4_sequence_67 : decode cX4_sequence 67 = .ok (.if_icmp .ge 20, 3) := by decide +kernel
theorem dX4_sequence_70 : decode cX4_sequence 70 = .ok (.aload_n 0, 1) := by decide +kernel
theorem dX4_sequence_71 : decode cX4_sequence 71 = .ok (.aload_n 0, 1) := by decide +kernel
theorem dX4_sequence_72 : decode cX4_sequence 72 = .ok (.getfield 7, 3) := by decide +kernel
theorem dX4_sequence_75 : decode cX4_sequence 75 = .ok (.iload 7, 2) := by decide +kernel
theorem dX4_sequence_77 : decode cX4_sequence 77 = .ok (.iaload, 1) := by decide +kernel
theorem dX4_sequence_78 : decode cX4_sequence 78 = .ok (.invokevirtual 51, 3) := by decide +kernel
theorem dX4_sequence_81 : decode cX4_sequence 81 = .ok (.iinc 7 1, 3) := by decide +kernel
theorem dX4_sequence_84 : decode cX4_sequence 84 = .ok (.goto (-20), 3) := by decide +kernel
theorem dX4_sequence_87 : decode cX4_sequence 87 = .ok (.iload_n 3, 1) := by decide +kernel
theorem dX4_sequence_88 : decode cX4_sequence 88 = .ok (.ifCond .ne 4, 3) := by decide +kernel
theorem dX4_sequence_91 : decode cX4_sequence 91 = .ok (.return_, 1) := by decide +kernel
theorem dX4_sequence_92 : decode cX4_sequence 92 = .ok (.aload_n 0, 1) := by decide +kernel
theorem dX4_sequence_93 : decode cX4_sequence 93 = .ok (.iload_n 3, 1) := by decide +kernel
theorem dX4_sequence_94 : decode cX4_sequence 94 = .ok (.sipush 256, 3) := by decide +kernel
theorem dX4_sequence_97 : decode cX4_sequence 97 = .ok (.irem, 1) := by decide +kernel
theorem dX4_sequence_98 : decode cX4_sequence 98 = .ok (.invokevirtual 51, 3) := by decide +kernel
theorem dX4_sequence_101 : decode cX4_sequence 101 = .ok (.aload_n 0, 1) := by decide +kernel
theorem dX4_sequence_102 : decode cX4_sequence 102 = .ok (.iload_n 3, 1) := by decide +kernel
theorem dX4_sequence_103 : decode cX4_sequence 103 = .ok (.sipush 256, 3) := by decide +kernel
theorem dX4_sequence_106 : decode cX4_sequence 106 = .ok (.idiv, 1) := by decide +kernel
theorem dX4_sequence_107 : decode cX4_sequence 107 = .ok (.invokevirtual 51, 3) := by decide +kernel
theorem dX4_sequence_110 : decode cX4_sequence 110 = .ok (.aload_n 0, 1) := by decide +kernel
theorem dX4_sequence_111 : decode cX4_sequence 111 = .ok (.iload 6, 2) := by decide +kernel
theorem dX4_sequence_113 : decode cX4_sequence 113 = .ok (.invokevirtual 55, 3) := by decide +kernel
theorem dX4_sequence_116 : decode cX4_sequence 116 = .ok (.return_, 1) := by decide +kernel
theorem dX4_alike_0 : decode cX4_alike 0 = .ok (.iconst 0, 1) := by decide +kernel
theorem dX4_alike_1 : decode cX4_alike 1 = .ok (.istore_n 3, 1) := by decide +kernel
theorem dX4_alike_2 : decode cX4_alike 2 = .ok (.iload_n 2, 1) := by decide +kernel
theorem dX4_alike_3 : decode cX4_alike 3 = .ok (.iload_n 3, 1) := by decide +kernel
theorem dX4_alike_4 : decode cX4_alike 4 = .ok (.iadd, 1) := by decide +kernel
theorem dX4_alike_5 : decode cX4_alike 5 = .ok (.sipush 251, 3) := by decide +kernel
theorem dX4_alike_8 : decode cX4_alike 8 = .ok (.if_icmp .ge 28, 3) := by decide +kernel
theorem dX4_alike_11 : decode cX4_alike 11 = .ok (.aload_n 0, 1) := by decide +kernel
theorem dX4_alike_12 : decode cX4_alike 12 = .ok (.getfield 7, 3) := by decide +kernel
theorem dX4_alike_15 : decode cX4_alike 15 = .ok (.iload_n 1, 1) := by decide +kernel
theorem dX4_alike_16 : decode cX4_alike 16 = .ok (.iload_n 3, 1) := by decide +kernel
theorem dX4_alike_17 : decode cX4_alike 17 = .ok (.iadd, 1) := by decide +kernel
theorem dX4_alike_18 : decode cX4_alike 18 = .ok (.iaload, 1) := by decide +kernel
theorem dX4_alike_19 : decode cX4_alike 19 = .ok (.aload_n 0, 1) := by decide +kernel
theorem dX4_alike_20 : decode cX4_alike 20 = .ok (.getfield 7, 3) := by decide +kernel
theorem dX4_alike_23 : decode cX4_alike 23 = .ok (.iload_n 2, 1) := by decide +kernel
theorem dX4_alike_24 : decode cX4_alike 24 = .ok (.iload_n 3, 1) := by decide +kernel
theorem dX4_alike_25 : decode cX4_alike 25 = .ok (.iadd, 1) := by decide +kernel
theorem dX4_alike_26 : decode cX4_alike 26 = .ok (.iaload, 1) := by decide +kernel
theorem dX4_alike_27 : decode cX4_alike 27 = .ok (.if_icmp .ne 9, 3) := by decide +kernel
theorem dX4_alike_30 : decode cX4_alike 30 = .ok (.iinc 3 1, 3) := by decide +kernel
theorem dX4_alike_33 : decode cX4_alike 33 = .ok (.goto (-31), 3) := by decide +kernel
theorem dX4_alike_36 : decode cX4_alike 36 = .ok (.iload_n 3, 1) := by decide +kernel
theorem dX4_alike_37 : decode cX4_alike 37 = .ok (.ireturn, 1) := by decide +kernel
theorem dX4_pack_0 : decode cX4_pack 0 = .ok (.aload_n 0, 1) := by decide +kernel
theorem dX4_pack_1 : decode cX4_pack 1 = .ok (.iconst 0, 1) := by decide +kernel
theorem dX4_pack_2 : decode cX4_pack 2 = .ok (.putfield 48, 3) := by decide +kernel
theorem dX4_pack_5 : decode cX4_pack 5 = .ok (.iconst 0, 1) := by decide +kernel
theorem dX4_pack_6 : decode cX4_pack 6 = .ok (.istore_n 1, 1) := by decide +kernel
theorem dX4_pack_7 : decode cX4_pack 7 = .ok (.iconst 0, 1) := by decide +kernel
theorem dX4_pack_8 : decode cX4_pack 8 = .ok (.istore_n 2, 1) := by decide +kernel
theorem dX4_pack_9 : decode cX4_pack 9 = .ok (.iload_n 2, 1) := by decide +kernel
theorem dX4_pack_10 : decode cX4_pack 10 = .ok (.sipush 244, 3) := by decide +kernel
theorem dX4_pack_13 : decode cX4_pack 13 = .ok (.if_icmp .gt 76, 3) := by decide +kernel
theorem dX4_pack_16 : decode cX4_pack 16 = .ok (.iconst 0, 1) := by decide +kernel
theorem dX4_pack_17 : decode cX4_pack 17 = .ok (.istore_n 3, 1) := by decide +kernel
theorem dX4_pack_18 : decode cX4_pack 18 = .ok (.iconst 0, 1) := by decide +kernel
theorem dX4_pack_19 : decode cX4_pack 19 = .ok (.istore 4, 2) := by decide +kernel
theorem dX4_pack_21 : decode cX4_pack 21 = .ok (.iconst 0, 1) := by decide +kernel
theorem dX4_pack_22 : decode cX4_pack 22 = .ok (.istore 5, 2) := by decide +kernel
theorem dX4_pack_24 : decode cX4_pack 24 = .ok (.iload 5, 2) := by decide +kernel
theorem dX4_pack_26 : decode cX4_pack 26 = .ok (.iload_n 2, 1) := by decide +kernel
theorem dX4_pack_27 : decode cX4_pack 27 = .ok (.if_icmp .ge 31, 3) := by decide +kernel
theorem dX4_pack_30 : decode cX4_pack 30 = .ok (.aload_n 0, 1) := by decide +kernel
theorem dX4_pack_31 : decode cX4_pack 31 = .ok (.iload 5, 2) := by decide +kernel
theorem dX4_pack_33 : decode cX4_pack 33 = .ok (.iload_n 2, 1) := by decide +kernel
theorem dX4_pack_34 : decode cX4_pack 34 = .ok (.invokevirtual 58, 3) := by decide +kernel
theorem dX4_pack_37 : decode cX4_pack 37 = .ok (.istore 6, 2) := by decide +kernel
theorem dX4_pack_39 : decode cX4_pack 39 = .ok (.iload 6, 2) := by decide +kernel
theorem dX4_pack_41 : decode cX4_pack 41 = .ok (.iload_n 3, 1) := by decide +kernel
theorem dX4_pack_42 : decode cX4_pack 42 = .ok (.if_icmp .lt 10, 3) := by decide +kernel
theorem dX4_pack_45 : decode cX4_pack 45 = .ok (.iload 6, 2) := by decide +kernel
theorem dX4_pack_47 : decode cX4_pack 47 = .ok (.istore_n 3, 1) := by decide +kernel
theorem dX4_pack_48 : decode cX4_pack 48 = .ok (.iload 5, 2) := by decide +kernel
theorem dX4_pack_50 : decode cX4_pack 50 = .ok (.istore 4, 2) := by decide +kernel
theorem dX4_pack_52 : decode cX4_pack 52 = .ok (.iinc 5 1, 3) := by decide +kernel
theorem dX4_pack_55 : decode cX4_pack 55 = .ok (.goto (-31), 3) := by decide +kernel
theorem dX4_pack_58 : decode cX4_pack 58 = .ok (.iload_n 3, 1) := by decide +kernel
theorem dX4_pack_59 : decode cX4_pack 59 = .ok (.iconst 4, 1) := by decide +kernel
theorem dX4_pack_60 : decode cX4_pack 60 = .ok (.if_icmp .ge 9, 3) := by decide +kernel
theorem dX4_pack_63 : decode cX4_pack 63 = .ok (.iinc 2 1, 3) := by decide +kernel
theorem dX4_pack_66 : decode cX4_pack 66 = .ok (.goto 20, 3) := by decide +kernel
theorem dX4_pack_69 : decode cX4_pack 69 = .ok (.aload_n 0, 1) := by decide +kernel
theorem dX4_pack_70 : decode cX4_pack 70 = .ok (.iload_n 1, 1) := by decide +kernel
theorem dX4_pack_71 : decode cX4_pack 71 = .ok (.iload_n 2, 1) := by decide +kernel
theorem dX4_pack_72 : decode cX4_pack 72 = .ok (.iload_n 2, 1) := by decide +kernel
theorem dX4_pack_73 : decode cX4_pack 73 = .ok (.iload 4, 2) := by decide +kernel
theorem dX4_pack_75 : decode cX4_pack 75 = .ok (.isub, 1) := by decide +kernel
theorem dX4_pack_76 : decode cX4_pack 76 = .ok (.iload_n 3, 1) := by decide +kernel
theorem dX4_pack_77 : decode cX4_pack 77 = .ok (.invokevirtual 62, 3) := by decide +kernel
theorem dX4_pack_80 : decode cX4_pack 80 = .ok (.iload_n 2, 1) := by decide +kernel
theorem dX4_pack_81 : decode cX4_pack 81 = .ok (.iload_n 3, 1) := by decide +kernel
theorem dX4_pack_82 : decode cX4_pack 82 = .ok (.iadd, 1) := by decide +kernel
theorem dX4_pack_83 : decode cX4_pack 83 = .ok (.istore_n 2, 1) := by decide +kernel
theorem dX4_pack_84 : decode cX4_pack 84 = .ok (.iload_n 2, 1) := by decide +kernel
theorem dX4_pack_85 : decode cX4_pack 85 = .ok (.istore_n 1, 1) := by decide +kernel
theorem dX4_pack_86 : decode cX4_pack 86 = .ok (.goto (-77), 3) := by decide +kernel
theorem dX4_pack_89 : decode cX4_pack 89 = .ok (.aload_n 0, 1) := by decide +kernel
theorem dX4_pack_90 : decode cX4_pack 90 = .ok (.iload_n 1, 1) := by decide +kernel
theorem dX4_pack_91 : decode cX4_pack 91 = .ok (.sipush 256, 3) := by decide +kernel
theorem dX4_pack_94 : decode cX4_pack 94 = .ok (.iconst 0, 1) := by decide +kernel
theorem dX4_pack_95 : decode cX4_pack 95 = .ok (.iconst 0, 1) := by decide +kernel
theorem dX4_pack_96 : decode cX4_pack 96 = .ok (.invokevirtual 62, 3) := by decide +kernel
theorem dX4_pack_99 : decode cX4_pack 99 = .ok (.return_, 1) := by decide +kernel
theorem dX4_fails_0 : decode cX4_fails 0 = .ok (.aload_n 0, 1) := by decide +kernel
theorem dX4_fails_1 : decode cX4_fails 1 = .ok (.iload_n 2, 1) := by decide +kernel
theorem dX4_fails_2 : decode cX4_fails 2 = .ok (.putfield 66, 3) := by decide +kernel
theorem dX4_fails_5 : decode cX4_fails 5 = .ok (.iload_n 1, 1) := by decide +kernel
theorem dX4_fails_6 : decode cX4_fails 6 = .ok (.ireturn, 1) := by decide +kernel
theorem dX4_added_0 : decode cX4_added 0 = .ok (.iconst 0, 1) := by decide +kernel
theorem dX4_added_1 : decode cX4_added 1 = .ok (.istore_n 1, 1) := by decide +kernel
theorem dX4_added_2 : decode cX4_added 2 = .ok (.sipush 255, 3) := by decide +kernel
theorem dX4_added_5 : decode cX4_added 5 = .ok (.istore_n 2, 1) := by decide +kernel
theorem dX4_added_6 : decode cX4_added 6 = .ok (.iload_n 2, 1) := by decide +kernel
theorem dX4_added_7 : decode cX4_added 7 = .ok (.sipush 255, 3) := by decide +kernel
theorem dX4_added_10 : decode cX4_added 10 = .ok (.if_icmp .ne 43, 3) := by decide +kernel
theorem dX4_added_13 : decode cX4_added 13 = .ok (.aload_n 0, 1) := by decide +kernel
theorem dX4_added_14 : decode cX4_added 14 = .ok (.getfield 69, 3) := by decide +kernel
theorem dX4_added_17 : decode cX4_added 17 = .ok (.aload_n 0, 1) := by decide +kernel
theorem dX4_added_18 : decode cX4_added 18 = .ok (.getfield 72, 3) := by decide +kernel
theorem dX4_added_21 : decode cX4_added 21 = .ok (.if_icmp .ne 5, 3) := by decide +kernel
theorem dX4_added_24 : decode cX4_added 24 = .ok (.iconst (-1), 1) := by decide +kernel
theorem dX4_added_25 : decode cX4_added 25 = .ok (.ireturn, 1) := by decide +kernel
theorem dX4_added_26 : decode cX4_added 26 = .ok (.aload_n 0, 1) := by decide +kernel
theorem dX4_added_27 : decode cX4_added 27 = .ok (.getfield 35, 3) := by decide +kernel
theorem dX4_added_30 : decode cX4_added 30 = .ok (.aload_n 0, 1) := by decide +kernel
theorem dX4_added_31 : decode cX4_added 31 = .ok (.getfield 69, 3) := by decide +kernel
theorem dX4_added_34 : decode cX4_added 34 = .ok (.iaload, 1) := by decide +kernel
theorem dX4_added_35 : decode cX4_added 35 = .ok (.istore_n 2, 1) := by decide +kernel
theorem dX4_added_36 : decode cX4_added 36 = .ok (.aload_n 0, 1) := by decide +kernel
theorem dX4_added_37 : decode cX4_added 37 = .ok (.dup, 1) := by decide +kernel
theorem dX4_added_38 : decode cX4_added 38 = .ok (.getfield 69, 3) := by decide +kernel
theorem dX4_added_41 : decode cX4_added 41 = .ok (.iconst 1, 1) := by decide +kernel
theorem dX4_added_42 : decode cX4_added 42 = .ok (.iadd, 1) := by decide +kernel
theorem dX4_added_43 : decode cX4_added 43 = .ok (.putfield 69, 3) := by decide +kernel
theorem dX4_added_46 : decode cX4_added 46 = .ok (.iload_n 1, 1) := by decide +kernel
theorem dX4_added_47 : decode cX4_added 47 = .ok (.iload_n 2, 1) := by decide +kernel
theorem dX4_added_48 : decode cX4_added 48 = .ok (.iadd, 1) := by decide +kernel
theorem dX4_added_49 : decode cX4_added 49 = .ok (.istore_n 1, 1) := by decide +kernel
theorem dX4_added_50 : decode cX4_added 50 = .ok (.goto (-44), 3) := by decide +kernel
theorem dX4_added_53 : decode cX4_added 53 = .ok (.iload_n 1, 1) := by decide +kernel
theorem dX4_added_54 : decode cX4_added 54 = .ok (.ireturn, 1) := by decide +kernel
theorem dX4_readAll_0 : decode cX4_readAll 0 = .ok (.aload_n 0, 1) := by decide +kernel
theorem dX4_readAll_1 : decode cX4_readAll 1 = .ok (.iconst 0, 1) := by decide +kernel
theorem dX4_readAll_2 : decode cX4_readAll 2 = .ok (.putfield 69, 3) := by decide +kernel
theorem dX4_readAll_5 : decode cX4_readAll 5 = .ok (.aload_n 0, 1) := by decide +kernel
theorem dX4_readAll_6 : decode cX4_readAll 6 = .ok (.iconst 0, 1) := by decide +kernel
theorem dX4_readAll_7 : decode cX4_readAll 7 = .ok (.putfield 75, 3) := by decide +kernel
theorem dX4_readAll_10 : decode cX4_readAll 10 = .ok (.aload_n 0, 1) := by decide +kernel
theorem dX4_readAll_11 : decode cX4_readAll 11 = .ok (.getfield 69, 3) := by decide +kernel
theorem dX4_readAll_14 : decode cX4_readAll 14 = .ok (.aload_n 0, 1) := by decide +kernel
theorem dX4_readAll_15 : decode cX4_readAll 15 = .ok (.getfield 72, 3) := by decide +kernel
theorem dX4_readAll_18 : decode cX4_readAll 18 = .ok (.if_icmp .ne 13, 3) := by decide +kernel
theorem dX4_readAll_21 : decode cX4_readAll 21 = .ok (.aload_n 0, 1) := by decide +kernel
theorem dX4_readAll_22 : decode cX4_readAll 22 = .ok (.iconst 1, 1) := by decide +kernel
theorem dX4_readAll_23 : decode cX4_readAll 23 = .ok (.aload_n 0, 1) := by decide +kernel
theorem dX4_readAll_24 : decode cX4_readAll 24 = .ok (.getfield 72, 3) := by decide +kernel
theorem dX4_readAll_27 : decode cX4_readAll 27 = .ok (.invokevirtual 78, 3) := by decide +kernel
theorem dX4_readAll_30 : decode cX4_readAll 30 = .ok (.ireturn, 1) := by decide +kernel
theorem dX4_readAll_31 : decode cX4_readAll 31 = .ok (.aload_n 0, 1) := by decide +kernel
theorem dX4_readAll_32 : decode cX4_readAll 32 = .ok (.getfield 69, 3) := by decide +kernel
theorem dX4_readAll_35 : decode cX4_readAll 35 = .ok (.istore_n 1, 1) := by decide +kernel
theorem dX4_readAll_36 : decode cX4_readAll 36 = .ok (.aload_n 0, 1) := by decide +kernel
theorem dX4_readAll_37 : decode cX4_readAll 37 = .ok (.getfield 35, 3) := by decide +kernel
theorem dX4_readAll_40 : decode cX4_readAll 40 = .ok (.aload_n 0, 1) := by decide +kernel
theorem dX4_readAll_41 : decode cX4_readAll 41 = .ok (.getfield 69, 3) := by decide +kernel
theorem dX4_readAll_44 : decode cX4_readAll 44 = .ok (.iaload, 1) := by decide +kernel
theorem dX4_readAll_45 : decode cX4_readAll 45 = .ok (.bipush 16, 2) := by decide +kernel
theorem dX4_readAll_47 : decode cX4_readAll 47 = .ok (.idiv, 1) := by decide +kernel
theorem dX4_readAll_48 : decode cX4_readAll 48 = .ok (.istore_n 2, 1) := by decide +kernel
theorem dX4_readAll_49 : decode cX4_readAll 49 = .ok (.aload_n 0, 1) := by decide +kernel
theorem dX4_readAll_50 : decode cX4_readAll 50 = .ok (.getfield 35, 3) := by decide +kernel
theorem dX4_readAll_53 : decode cX4_readAll 53 = .ok (.aload_n 0, 1) := by decide +kernel
theorem dX4_readAll_54 : decode cX4_readAll 54 = .ok (.getfield 69, 3) := by decide +kernel
theorem dX4_readAll_57 : decode cX4_readAll 57 = .ok (.iaload, 1) := by decide +kernel
theorem dX4_readAll_58 : decode cX4_readAll 58 = .ok (.bipush 16, 2) := by decide +kernel
theorem dX4_readAll_60 : decode cX4_readAll 60 = .ok (.irem, 1) := by decide +kernel
theorem dX4_readAll_61 : decode cX4_readAll 61 = .ok (.istore_n 3, 1) := by decide +kernel
theorem dX4_readAll_62 : decode cX4_readAll 62 = .ok (.aload_n 0, 1) := by decide +kernel
theorem dX4_readAll_63 : decode cX4_readAll 63 = .ok (.dup, 1) := by decide +kernel
theorem dX4_readAll_64 : decode cX4_readAll 64 = .ok (.getfield 69, 3) := by decide +kernel
theorem dX4_readAll_67 : decode cX4_readAll 67 = .ok (.iconst 1, 1) := by decide +kernel
theorem dX4_readAll_68 : decode cX4_readAll 68 = .ok (.iadd, 1) := by decide +kernel
theorem dX4_readAll_69 : decode cX4_readAll 69 = .ok (.putfield 69, 3) := by decide +kernel
theorem dX4_readAll_72 : decode cX4_readAll 72 = .ok (.iload_n 2, 1) := by decide +kernel
theorem dX4_readAll_73 : decode cX4_readAll 73 = .ok (.bipush 15, 2) := by decide +kernel
theorem dX4_readAll_75 : decode cX4_readAll 75 = .ok (.if_icmp .ne 10, 3) := by decide +kernel
theorem dX4_readAll_78 : decode cX4_readAll 78 = .ok (.aload_n 0, 1) := by decide +kernel
theorem dX4_readAll_79 : decode cX4_readAll 79 = .ok (.invokevirtual 81, 3) := by decide +kernel
theorem dX4_readAll_82 : decode cX4_readAll 82 = .ok (.goto 4, 3) := by decide +kernel
theorem dX4_readAll_85 : decode cX4_readAll 85 = .ok (.iconst 0, 1) := by decide +kernel
theorem dX4_readAll_86 : decode cX4_readAll 86 = .ok (.istore 4, 2) := by decide +kernel
theorem dX4_readAll_88 : decode cX4_readAll 88 = .ok (.iload 4, 2) := by decide +kernel
theorem dX4_readAll_90 : decode cX4_readAll 90 = .ok (.ifCond .ge 13, 3) := by decide +kernel
theorem dX4_readAll_93 : decode cX4_readAll 93 = .ok (.aload_n 0, 1) := by decide +kernel
theorem dX4_readAll_94 : decode cX4_readAll 94 = .ok (.iconst 1, 1) := by decide +kernel
theorem dX4_readAll_95 : decode cX4_readAll 95 = .ok (.aload_n 0, 1) := by decide +kernel
theorem dX4_readAll_96 : decode cX4_readAll 96 = .ok (.getfield 72, 3) := by decide +kernel
theorem dX4_readAll_99 : decode cX4_readAll 99 = .ok (.invokevirtual 78, 3) := by decide +kernel
theorem dX4_readAll_102 : decode cX4_readAll 102 = .ok (.ireturn, 1) := by decide +kernel
theorem dX4_readAll_103 : decode cX4_readAll 103 = .ok (.iload_n 2, 1) := by decide +kernel
theorem dX4_readAll_104 : decode cX4_readAll 104 = .ok (.iload 4, 2) := by decide +kernel
theorem dX4_readAll_106 : decode cX4_readAll 106 = .ok (.iadd, 1) := by decide +kernel
theorem dX4_readAll_107 : decode cX4_readAll 107 = .ok (.istore_n 2, 1) := by decide +kernel
theorem dX4_readAll_108 : decode cX4_readAll 108 = .ok (.aload_n 0, 1) := by decide +kernel
theorem dX4_readAll_109 : decode cX4_readAll 109 = .ok (.getfield 75, 3) := by decide +kernel
theorem dX4_readAll_112 : decode cX4_readAll 112 = .ok (.iload_n 2, 1) := by decide +kernel
theorem dX4_readAll_113 : decode cX4_readAll 113 = .ok (.iadd, 1) := by decide +kernel
theorem dX4_readAll_114 : decode cX4_readAll 114 = .ok (.sipush 256, 3) := by decide +kernel
theorem dX4_readAll_117 : decode cX4_readAll 117 = .ok (.if_icmp .le 10, 3) := by decide +kernel
theorem dX4_readAll_120 : decode cX4_readAll 120 = .ok (.aload_n 0, 1) := by decide +kernel
theorem dX4_readAll_121 : decode cX4_readAll 121 = .ok (.iconst 3, 1) := by decide +kernel
theorem dX4_readAll_122 : decode cX4_readAll 122 = .ok (.iload_n 1, 1) := by decide +kernel
theorem dX4_readAll_123 : decode cX4_readAll 123 = .ok (.invokevirtual 78, 3) := by decide +kernel
theorem dX4_readAll_126 : decode cX4_readAll 126 = .ok (.ireturn, 1) := by decide +kernel
theorem dX4_readAll_127 : decode cX4_readAll 127 = .ok (.aload_n 0, 1) := by decide +kernel
theorem dX4_readAll_128 : decode cX4_readAll 128 = .ok (.getfield 69, 3) := by decide +kernel
theorem dX4_readAll_131 : decode cX4_readAll 131 = .ok (.iload_n 2, 1) := by decide +kernel
theorem dX4_readAll_132 : decode cX4_readAll 132 = .ok (.iadd, 1) := by decide +kernel
theorem dX4_readAll_133 : decode cX4_readAll 133 = .ok (.aload_n 0, 1) := by decide +kernel
theorem dX4_readAll_134 : decode cX4_readAll 134 = .ok (.getfield 72, 3) := by decide +kernel
theorem dX4_readAll_137 : decode cX4_readAll 137 = .ok (.if_icmp .le 13, 3) := by decide +kernel
theorem dX4_readAll_140 : decode cX4_readAll 140 = .ok (.aload_n 0, 1) := by decide +kernel
theorem dX4_readAll_141 : decode cX4_readAll 141 = .ok (.iconst 1, 1) := by decide +kernel
theorem dX4_readAll_142 : decode cX4_readAll 142 = .ok (.aload_n 0, 1) := by decide +kernel
theorem dX4_readAll_143 : decode cX4_readAll 143 = .ok (.getfield 72, 3) := by decide +kernel
theorem dX4_readAll_146 : decode cX4_readAll 146 = .ok (.invokevirtual 78, 3) := by decide +kernel
theorem dX4_readAll_149 : decode cX4_readAll 149 = .ok (.ireturn, 1) := by decide +kernel
theorem dX4_readAll_150 : decode cX4_readAll 150 = .ok (.iconst 0, 1) := by decide +kernel
theorem dX4_readAll_151 : decode cX4_readAll 151 = .ok (.istore 5, 2) := by decide +kernel
theorem dX4_readAll_153 : decode cX4_readAll 153 = .ok (.iload 5, 2) := by decide +kernel
theorem dX4_readAll_155 : decode cX4_readAll 155 = .ok (.iload_n 2, 1) := by decide +kernel
theorem dX4_readAll_156 : decode cX4_readAll 156 = .ok (.if_icmp .ge 33, 3) := by decide +kernel
theorem dX4_readAll_159 : decode cX4_readAll 159 = .ok (.aload_n 0, 1) := by decide +kernel
theorem dX4_readAll_160 : decode cX4_readAll 160 = .ok (.getfield 38, 3) := by decide +kernel
theorem dX4_readAll_163 : decode cX4_readAll 163 = .ok (.aload_n 0, 1) := by decide +kernel
theorem dX4_readAll_164 : decode cX4_readAll 164 = .ok (.getfield 75, 3) := by decide +kernel
theorem dX4_readAll_167 : decode cX4_readAll 167 = .ok (.iload 5, 2) := by decide +kernel
theorem dX4_readAll_169 : decode cX4_readAll 169 = .ok (.iadd, 1) := by decide +kernel
theorem dX4_readAll_170 : decode cX4_readAll 170 = .ok (.aload_n 0, 1) := by decide +kernel
theorem dX4_readAll_171 : decode cX4_readAll 171 = .ok (.getfield 35, 3) := by decide +kernel
theorem dX4_readAll_174 : decode cX4_readAll 174 = .ok (.aload_n 0, 1) := by decide +kernel
theorem dX4_readAll_175 : decode cX4_readAll 175 = .ok (.getfield 69, 3) := by decide +kernel
theorem dX4_readAll_178 : decode cX4_readAll 178 = .ok (.iload 5, 2) := by decide +kernel
theorem dX4_readAll_180 : decode cX4_readAll 180 = .ok (.iadd, 1) := by decide +kernel
theorem dX4_readAll_181 : decode cX4_readAll 181 = .ok (.iaload, 1) := by decide +kernel
theorem dX4_readAll_182 : decode cX4_readAll 182 = .ok (.iastore, 1) := by decide +kernel
theorem dX4_readAll_183 : decode cX4_readAll 183 = .ok (.iinc 5 1, 3) := by decide +kernel
theorem dX4_readAll_186 : decode cX4_readAll 186 = .ok (.goto (-33), 3) := by decide +kernel
theorem dX4_readAll_189 : decode cX4_readAll 189 = .ok (.aload_n 0, 1) := by decide +kernel
theorem dX4_readAll_190 : decode cX4_readAll 190 = .ok (.dup, 1) := by decide +kernel
theorem dX4_readAll_191 : decode cX4_readAll 191 = .ok (.getfield 75, 3) := by decide +kernel
theorem dX4_readAll_194 : decode cX4_readAll 194 = .ok (.iload_n 2, 1) := by decide +kernel
theorem dX4_readAll_195 : decode cX4_readAll 195 = .ok (.iadd, 1) := by decide +kernel
theorem dX4_readAll_196 : decode cX4_readAll 196 = .ok (.putfield 75, 3) := by decide +kernel
theorem dX4_readAll_199 : decode cX4_readAll 199 = .ok (.aload_n 0, 1) := by decide +kernel
theorem dX4_readAll_200 : decode cX4_readAll 200 = .ok (.dup, 1) := by decide +kernel
theorem dX4_readAll_201 : decode cX4_readAll 201 = .ok (.getfield 69, 3) := by decide +kernel
theorem dX4_readAll_204 : decode cX4_readAll 204 = .ok (.iload_n 2, 1) := by decide +kernel
theorem dX4_readAll_205 : decode cX4_readAll 205 = .ok (.iadd, 1) := by decide +kernel
theorem dX4_readAll_206 : decode cX4_readAll 206 = .ok (.putfield 69, 3) := by decide +kernel
theorem dX4_readAll_209 : decode cX4_readAll 209 = .ok (.aload_n 0, 1) := by decide +kernel
theorem dX4_readAll_210 : decode cX4_readAll 210 = .ok (.getfield 69, 3) := by decide +kernel
theorem dX4_readAll_213 : decode cX4_readAll 213 = .ok (.aload_n 0, 1) := by decide +kernel
theorem dX4_readAll_214 : decode cX4_readAll 214 = .ok (.getfield 72, 3) := by decide +kernel
theorem dX4_readAll_217 : decode cX4_readAll 217 = .ok (.if_icmp .ne 5, 3) := by decide +kernel
theorem dX4_readAll_220 : decode cX4_readAll 220 = .ok (.iconst 0, 1) := by decide +kernel
theorem dX4_readAll_221 : decode cX4_readAll 221 = .ok (.ireturn, 1) := by decide +kernel
theorem dX4_readAll_222 : decode cX4_readAll 222 = .ok (.aload_n 0, 1) := by decide +kernel
theorem dX4_readAll_223 : decode cX4_readAll 223 = .ok (.getfield 69, 3) := by decide +kernel
theorem dX4_readAll_226 : decode cX4_readAll 226 = .ok (.iconst 2, 1) := by decide +kernel
theorem dX4_readAll_227 : decode cX4_readAll 227 = .ok (.iadd, 1) := by decide +kernel
theorem dX4_readAll_228 : decode cX4_readAll 228 = .ok (.aload_n 0, 1) := by decide +kernel
theorem dX4_readAll_229 : decode cX4_readAll 229 = .ok (.getfield 72, 3) := by decide +kernel
theorem dX4_readAll_232 : decode cX4_readAll 232 = .ok (.if_icmp .le 13, 3) := by decide +kernel
theorem dX4_readAll_235 : decode cX4_readAll 235 = .ok (.aload_n 0, 1) := by decide +kernel
theorem dX4_readAll_236 : decode cX4_readAll 236 = .ok (.iconst 1, 1) := by decide +kernel
theorem dX4_readAll_237 : decode cX4_readAll 237 = .ok (.aload_n 0, 1) := by decide +kernel
theorem dX4_readAll_238 : decode cX4_readAll 238 = .ok (.getfield 72, 3) := by decide +kernel
theorem dX4_readAll_241 : decode cX4_readAll 241 = .ok (.invokevirtual 78, 3) := by decide +kernel
theorem dX4_readAll_244 : decode cX4_readAll 244 = .ok (.ireturn, 1) := by decide +kernel
theorem dX4_readAll_245 : decode cX4_readAll 245 = .ok (.aload_n 0, 1) := by decide +kernel
theorem dX4_readAll_246 : decode cX4_readAll 246 = .ok (.getfield 35, 3) := by decide +kernel
theorem dX4_readAll_249 : decode cX4_readAll 249 = .ok (.aload_n 0, 1) := by decide +kernel
theorem dX4_readAll_250 : decode cX4_readAll 250 = .ok (.getfield 69, 3) := by decide +kernel
theorem dX4_readAll_253 : decode cX4_readAll 253 = .ok (.iaload, 1) := by decide +kernel
theorem dX4_readAll_254 : decode cX4_readAll 254 = .ok (.sipush 256, 3) := by decide +kernel
theorem dX4_readAll_257 : decode cX4_readAll 257 = .ok (.aload_n 0, 1) := by decide +kernel
theorem dX4_readAll_258 : decode cX4_readAll 258 = .ok (.getfield 35, 3) := by decide +kernel
theorem dX4_readAll_261 : decode cX4_readAll 261 = .ok (.aload_n 0, 1) := by decide +kernel
theorem dX4_readAll_262 : decode cX4_readAll 262 = .ok (.getfield 69, 3) := by decide +kernel
theorem dX4_readAll_265 : decode cX4_readAll 265 = .ok (.iconst 1, 1) := by decide +kernel
theorem dX4_readAll_266 : decode cX4_readAll 266 = .ok (.iadd, 1) := by decide +kernel
theorem dX4_readAll_267 : decode cX4_readAll 267 = .ok (.iaload, 1) := by decide +kernel
theorem dX4_readAll_268 : decode cX4_readAll 268 = .ok (.imul, 1) := by decide +kernel
theorem dX4_readAll_269 : decode cX4_readAll 269 = .ok (.iadd, 1) := by decide +kernel
theorem dX4_readAll_270 : decode cX4_readAll 270 = .ok (.istore 5, 2) := by decide +kernel
theorem dX4_readAll_272 : decode cX4_readAll 272 = .ok (.iload 5, 2) := by decide +kernel
theorem dX4_readAll_274 : decode cX4_readAll 274 = .ok (.ifCond .eq 12, 3) := by decide +kernel
theorem dX4_readAll_277 : decode cX4_readAll 277 = .ok (.iload 5, 2) := by decide +kernel
theorem dX4_readAll_279 : decode cX4_readAll 279 = .ok (.aload_n 0, 1) := by decide +kernel
theorem dX4_readAll_280 : decode cX4_readAll 280 = .ok (.getfield 75, 3) := by decide +kernel
theorem dX4_readAll_283 : decode cX4_readAll 283 = .ok (.if_icmp .le 13, 3) := by decide +kernel
theorem dX4_readAll_286 : decode cX4_readAll 286 = .ok (.aload_n 0, 1) := by decide +kernel
theorem dX4_readAll_287 : decode cX4_readAll 287 = .ok (.iconst 2, 1) := by decide +kernel
theorem dX4_readAll_288 : decode cX4_readAll 288 = .ok (.aload_n 0, 1) := by decide +kernel
theorem dX4_readAll_289 : decode cX4_readAll 289 = .ok (.getfield 69, 3) := by decide +kernel
theorem dX4_readAll_292 : decode cX4_readAll 292 = .ok (.invokevirtual 78, 3) := by decide +kernel
theorem dX4_readAll_295 : decode cX4_readAll 295 = .ok (.ireturn, 1) := by decide +kernel
theorem dX4_readAll_296 : decode cX4_readAll 296 = .ok (.aload_n 0, 1) := by decide +kernel
theorem dX4_readAll_297 : decode cX4_readAll 297 = .ok (.dup, 1) := by decide +kernel
theorem dX4_readAll_298 : decode cX4_readAll 298 = .ok (.getfield 69, 3) := by decide +kernel
theorem dX4_readAll_301 : decode cX4_readAll 301 = .ok (.iconst 2, 1) := by decide +kernel
theorem dX4_readAll_302 : decode cX4_readAll 302 = .ok (.iadd, 1) := by decide +kernel
theorem dX4_readAll_303 : decode cX4_readAll 303 = .ok (.putfield 69, 3) := by decide +kernel
theorem dX4_readAll_306 : decode cX4_readAll 306 = .ok (.iload_n 3, 1) := by decide +kernel
theorem dX4_readAll_307 : decode cX4_readAll 307 = .ok (.bipush 15, 2) := by decide +kernel
theorem dX4_readAll_309 : decode cX4_readAll 309 = .ok (.if_icmp .ne 10, 3) := by decide +kernel
theorem dX4_readAll_312 : decode cX4_readAll 312 = .ok (.aload_n 0, 1) := by decide +kernel
theorem dX4_readAll_313 : decode cX4_readAll 313 = .ok (.invokevirtual 81, 3) := by decide +kernel
theorem dX4_readAll_316 : decode cX4_readAll 316 = .ok (.goto 4, 3) := by decide +kernel
theorem dX4_readAll_319 : decode cX4_readAll 319 = .ok (.iconst 0, 1) := by decide +kernel
theorem dX4_readAll_320 : decode cX4_readAll 320 = .ok (.istore 4, 2) := by decide +kernel
theorem dX4_readAll_322 : decode cX4_readAll 322 = .ok (.iload 4, 2) := by decide +kernel
theorem dX4_readAll_324 : decode cX4_readAll 324 = .ok (.ifCond .ge 13, 3) := by decide +kernel
theorem dX4_readAll_327 : decode cX4_readAll 327 = .ok (.aload_n 0, 1) := by decide +kernel
theorem dX4_readAll_328 : decode cX4_readAll 328 = .ok (.iconst 1, 1) := by decide +kernel
theorem dX4_readAll_329 : decode cX4_readAll 329 = .ok (.aload_n 0, 1) := by decide +kernel
theorem dX4_readAll_330 : decode cX4_readAll 330 = .ok (.getfield 72, 3) := by decide +kernel
theorem dX4_readAll_333 : decode cX4_readAll 333 = .ok (.invokevirtual 78, 3) := by decide +kernel
theorem dX4_readAll_336 : decode cX4_readAll 336 = .ok (.ireturn, 1) := by decide +kernel
theorem dX4_readAll_337 : decode cX4_readAll 337 = .ok (.iload_n 3, 1) := by decide +kernel
theorem dX4_readAll_338 : decode cX4_readAll 338 = .ok (.iconst 4, 1) := by decide +kernel
theorem dX4_readAll_339 : decode cX4_readAll 339 = .ok (.iload 4, 2) := by decide +kernel
theorem dX4_readAll_341 : decode cX4_readAll 341 = .ok (.iadd, 1) := by decide +kernel
theorem dX4_readAll_342 : decode cX4_readAll 342 = .ok (.iadd, 1) := by decide +kernel
theorem dX4_readAll_343 : decode cX4_readAll 343 = .ok (.istore_n 3, 1) := by decide +kernel
theorem dX4_readAll_344 : decode cX4_readAll 344 = .ok (.aload_n 0, 1) := by decide +kernel
theorem dX4_readAll_345 : decode cX4_readAll 345 = .ok (.getfield 75, 3) := by decide +kernel
theorem dX4_readAll_348 : decode cX4_readAll 348 = .ok (.iload_n 3, 1) := by decide +kernel
theorem dX4_readAll_349 : decode cX4_readAll 349 = .ok (.iadd, 1) := by decide +kernel
theorem dX4_readAll_350 : decode cX4_readAll 350 = .ok (.sipush 256, 3) := by decide +kernel
theorem dX4_readAll_353 : decode cX4_readAll 353 = .ok (.if_icmp .le 10, 3) := by decide +kernel
theorem dX4_readAll_356 : decode cX4_readAll 356 = .ok (.aload_n 0, 1) := by decide +kernel
theorem dX4_readAll_357 : decode cX4_readAll 357 = .ok (.iconst 3, 1) := by decide +kernel
theorem dX4_readAll_358 : decode cX4_readAll 358 = .ok (.iload_n 1, 1) := by decide +kernel
theorem dX4_readAll_359 : decode cX4_readAll 359 = .ok (.invokevirtual 78, 3) := by decide +kernel
theorem dX4_readAll_362 : decode cX4_readAll 362 = .ok (.ireturn, 1) := by decide +kernel
theorem dX4_readAll_363 : decode cX4_readAll 363 = .ok (.iconst 0, 1) := by decide +kernel
theorem dX4_readAll_364 : decode cX4_readAll 364 = .ok (.istore 6, 2) := by decide +kernel
theorem dX4_readAll_366 : decode cX4_readAll 366 = .ok (.iload 6, 2) := by decide +kernel
theorem dX4_readAll_368 : decode cX4_readAll 368 = .ok (.iload_n 3, 1) := by decide +kernel
theorem dX4_readAll_369 : decode cX4_readAll 369 = .ok (.if_icmp .ge 36, 3) := by decide +kernel
theorem dX4_readAll_372 : decode cX4_readAll 372 = .ok (.aload_n 0, 1) := by decide +kernel
theorem dX4_readAll_373 : decode cX4_readAll 373 = .ok (.getfield 38, 3) := by decide +kernel
theorem dX4_readAll_376 : decode cX4_readAll 376 = .ok (.aload_n 0, 1) := by decide +kernel
theorem dX4_readAll_377 : decode cX4_readAll 377 = .ok (.getfield 75, 3) := by decide +kernel
theorem dX4_readAll_380 : decode cX4_readAll 380 = .ok (.iload 6, 2) := by decide +kernel
theorem dX4_readAll_382 : decode cX4_readAll 382 = .ok (.iadd, 1) := by decide +kernel
theorem dX4_readAll_383 : decode cX4_readAll 383 = .ok (.aload_n 0, 1) := by decide +kernel
theorem dX4_readAll_384 : decode cX4_readAll 384 = .ok (.getfield 38, 3) := by decide +kernel
theorem dX4_readAll_387 : decode cX4_readAll 387 = .ok (.aload_n 0, 1) := by decide +kernel
theorem dX4_readAll_388 : decode cX4_readAll 388 = .ok (.getfield 75, 3) := by decide +kernel
theorem dX4_readAll_391 : decode cX4_readAll 391 = .ok (.iload 6, 2) := by decide +kernel
theorem dX4_readAll_393 : decode cX4_readAll 393 = .ok (.iadd, 1) := by decide +kernel
theorem dX4_readAll_394 : decode cX4_readAll 394 = .ok (.iload 5, 2) := by decide +kernel
theorem dX4_readAll_396 : decode cX4_readAll 396 = .ok (.isub, 1) := by decide +kernel
theorem dX4_readAll_397 : decode cX4_readAll 397 = .ok (.iaload, 1) := by decide +kernel
theorem dX4_readAll_398 : decode cX4_readAll 398 = .ok (.iastore, 1) := by decide +kernel
theorem dX4_readAll_399 : decode cX4_readAll 399 = .ok (.iinc 6 1, 3) := by decide +kernel
theorem dX4_readAll_402 : decode cX4_readAll 402 = .ok (.goto (-36), 3) := by decide +kernel
theorem dX4_readAll_405 : decode cX4_readAll 405 = .ok (.aload_n 0, 1) := by decide +kernel
theorem dX4_readAll_406 : decode cX4_readAll 406 = .ok (.dup, 1) := by decide +kernel
theorem dX4_readAll_407 : decode cX4_readAll 407 = .ok (.getfield 75, 3) := by decide +kernel
theorem dX4_readAll_410 : decode cX4_readAll 410 = .ok (.iload_n 3, 1) := by decide +kernel
theorem dX4_readAll_411 : decode cX4_readAll 411 = .ok (.iadd, 1) := by decide +kernel
theorem dX4_readAll_412 : decode cX4_readAll 412 = .ok (.putfield 75, 3) := by decide +kernel
theorem dX4_readAll_415 : decode cX4_readAll 415 = .ok (.goto (-405), 3) := by decide +kernel
theorem dX4_placeOf_0 : decode cX4_placeOf 0 = .ok (.iconst 0, 1) := by decide +kernel
theorem dX4_placeOf_1 : decode cX4_placeOf 1 = .ok (.istore_n 2, 1) := by decide +kernel
theorem dX4_placeOf_2 : decode cX4_placeOf 2 = .ok (.iload_n 2, 1) := by decide +kernel
theorem dX4_placeOf_3 : decode cX4_placeOf 3 = .ok (.aload_n 0, 1) := by decide +kernel
theorem dX4_placeOf_4 : decode cX4_placeOf 4 = .ok (.getfield 41, 3) := by decide +kernel
theorem dX4_placeOf_7 : decode cX4_placeOf 7 = .ok (.if_icmp .ge 23, 3) := by decide +kernel
theorem dX4_placeOf_10 : decode cX4_placeOf 10 = .ok (.aload_n 0, 1) := by decide +kernel
theorem dX4_placeOf_11 : decode cX4_placeOf 11 = .ok (.getfield 16, 3) := by decide +kernel
theorem dX4_placeOf_14 : decode cX4_placeOf 14 = .ok (.iload_n 2, 1) := by decide +kernel
theorem dX4_placeOf_15 : decode cX4_placeOf 15 = .ok (.iaload, 1) := by decide +kernel
theorem dX4_placeOf_16 : decode cX4_placeOf 16 = .ok (.iload_n 1, 1) := by decide +kernel
theorem dX4_placeOf_17 : decode cX4_placeOf 17 = .ok (.iconst 1, 1) := by decide +kernel
theorem dX4_placeOf_18 : decode cX4_placeOf 18 = .ok (.iadd, 1) := by decide +kernel
theorem dX4_placeOf_19 : decode cX4_placeOf 19 = .ok (.if_icmp .ne 5, 3) := by decide +kernel
theorem dX4_placeOf_22 : decode cX4_placeOf 22 = .ok (.iload_n 2, 1) := by decide +kernel
theorem dX4_placeOf_23 : decode cX4_placeOf 23 = .ok (.ireturn, 1) := by decide +kernel
theorem dX4_placeOf_24 : decode cX4_placeOf 24 = .ok (.iinc 2 1, 3) := by decide +kernel
theorem dX4_placeOf_27 : decode cX4_placeOf 27 = .ok (.goto (-25), 3) := by decide +kernel
theorem dX4_placeOf_30 : decode cX4_placeOf 30 = .ok (.iconst (-1), 1) := by decide +kernel
theorem dX4_placeOf_31 : decode cX4_placeOf 31 = .ok (.ireturn, 1) := by decide +kernel
theorem dX4_sizeOf_0 : decode cX4_sizeOf 0 = .ok (.iconst 0, 1) := by decide +kernel
theorem dX4_sizeOf_1 : decode cX4_sizeOf 1 = .ok (.istore_n 2, 1) := by decide +kernel
theorem dX4_sizeOf_2 : decode cX4_sizeOf 2 = .ok (.iconst 0, 1) := by decide +kernel
theorem dX4_sizeOf_3 : decode cX4_sizeOf 3 = .ok (.istore_n 3, 1) := by decide +kernel
theorem dX4_sizeOf_4 : decode cX4_sizeOf 4 = .ok (.iload_n 3, 1) := by decide +kernel
theorem dX4_sizeOf_5 : decode cX4_sizeOf 5 = .ok (.aload_n 0, 1) := by decide +kernel
theorem dX4_sizeOf_6 : decode cX4_sizeOf 6 = .ok (.getfield 41, 3) := by decide +kernel
theorem dX4_sizeOf_9 : decode cX4_sizeOf 9 = .ok (.if_icmp .ge 29, 3) := by decide +kernel
theorem dX4_sizeOf_12 : decode cX4_sizeOf 12 = .ok (.aload_n 0, 1) := by decide +kernel
theorem dX4_sizeOf_13 : decode cX4_sizeOf 13 = .ok (.getfield 16, 3) := by decide +kernel
theorem dX4_sizeOf_16 : decode cX4_sizeOf 16 = .ok (.iload_n 3, 1) := by decide +kernel
theorem dX4_sizeOf_17 : decode cX4_sizeOf 17 = .ok (.iaload, 1) := by decide +kernel
theorem dX4_sizeOf_18 : decode cX4_sizeOf 18 = .ok (.iload_n 1, 1) := by decide +kernel
theorem dX4_sizeOf_19 : decode cX4_sizeOf 19 = .ok (.iconst 1, 1) := by decide +kernel
theorem dX4_sizeOf_20 : decode cX4_sizeOf 20 = .ok (.iadd, 1) := by decide +kernel
theorem dX4_sizeOf_21 : decode cX4_sizeOf 21 = .ok (.if_icmp .ne 9, 3) := by decide +kernel
theorem dX4_sizeOf_24 : decode cX4_sizeOf 24 = .ok (.iload_n 2, 1) := by decide +kernel
theorem dX4_sizeOf_25 : decode cX4_sizeOf 25 = .ok (.iconst 1, 1) := by decide +kernel
theorem dX4_sizeOf_26 : decode cX4_sizeOf 26 = .ok (.iadd, 1) := by decide +kernel
theorem dX4_sizeOf_27 : decode cX4_sizeOf 27 = .ok (.goto 4, 3) := by decide +kernel
theorem dX4_sizeOf_30 : decode cX4_sizeOf 30 = .ok (.iload_n 2, 1) := by decide +kernel
theorem dX4_sizeOf_31 : decode cX4_sizeOf 31 = .ok (.istore_n 2, 1) := by decide +kernel
theorem dX4_sizeOf_32 : decode cX4_sizeOf 32 = .ok (.iinc 3 1, 3) := by decide +kernel
theorem dX4_sizeOf_35 : decode cX4_sizeOf 35 = .ok (.goto (-31), 3) := by decide +kernel
theorem dX4_sizeOf_38 : decode cX4_sizeOf 38 = .ok (.iload_n 2, 1) := by decide +kernel
theorem dX4_sizeOf_39 : decode cX4_sizeOf 39 = .ok (.ireturn, 1) := by decide +kernel
theorem dX4_release_0 : decode cX4_release 0 = .ok (.iconst 0, 1) := by decide +kernel
theorem dX4_release_1 : decode cX4_release 1 = .ok (.istore_n 2, 1) := by decide +kernel
theorem dX4_release_2 : decode cX4_release 2 = .ok (.iload_n 2, 1) := by decide +kernel
theorem dX4_release_3 : decode cX4_release 3 = .ok (.aload_n 0, 1) := by decide +kernel
theorem dX4_release_4 : decode cX4_release 4 = .ok (.getfield 41, 3) := by decide +kernel
theorem dX4_release_7 : decode cX4_release 7 = .ok (.if_icmp .ge 37, 3) := by decide +kernel
theorem dX4_release_10 : decode cX4_release 10 = .ok (.aload_n 0, 1) := by decide +kernel
theorem dX4_release_11 : decode cX4_release 11 = .ok (.getfield 16, 3) := by decide +kernel
theorem dX4_release_14 : decode cX4_release 14 = .ok (.iload_n 2, 1) := by decide +kernel
theorem dX4_release_15 : decode cX4_release 15 = .ok (.aload_n 0, 1) := by decide +kernel
theorem dX4_release_16 : decode cX4_release 16 = .ok (.getfield 16, 3) := by decide +kernel
theorem dX4_release_19 : decode cX4_release 19 = .ok (.iload_n 2, 1) := by decide +kernel
theorem dX4_release_20 : decode cX4_release 20 = .ok (.iaload, 1) := by decide +kernel
theorem dX4_release_21 : decode cX4_release 21 = .ok (.iload_n 1, 1) := by decide +kernel
theorem dX4_release_22 : decode cX4_release 22 = .ok (.iconst 1, 1) := by decide +kernel
theorem dX4_release_23 : decode cX4_release 23 = .ok (.iadd, 1) := by decide +kernel
theorem dX4_release_24 : decode cX4_release 24 = .ok (.if_icmp .ne 7, 3) := by decide +kernel
theorem dX4_release_27 : decode cX4_release 27 = .ok (.iconst 0, 1) := by decide +kernel
theorem dX4_release_28 : decode cX4_release 28 = .ok (.goto 9, 3) := by decide +kernel
theorem dX4_release_31 : decode cX4_release 31 = .ok (.aload_n 0, 1) := by decide +kernel
theorem dX4_release_32 : decode cX4_release 32 = .ok (.getfield 16, 3) := by decide +kernel
theorem dX4_release_35 : decode cX4_release 35 = .ok (.iload_n 2, 1) := by decide +kernel
theorem dX4_release_36 : decode cX4_release 36 = .ok (.iaload, 1) := by decide +kernel
theorem dX4_release_37 : decode cX4_release 37 = .ok (.iastore, 1) := by decide +kernel
theorem dX4_release_38 : decode cX4_release 38 = .ok (.iinc 2 1, 3) := by decide +kernel
theorem dX4_release_41 : decode cX4_release 41 = .ok (.goto (-39), 3) := by decide +kernel
theorem dX4_release_44 : decode cX4_release 44 = .ok (.return_, 1) := by decide +kernel
theorem dX4_room_0 : decode cX4_room 0 = .ok (.iconst 0, 1) := by decide +kernel
theorem dX4_room_1 : decode cX4_room 1 = .ok (.istore_n 3, 1) := by decide +kernel
theorem dX4_room_2 : decode cX4_room 2 = .ok (.iconst 0, 1) := by decide +kernel
theorem dX4_room_3 : decode cX4_room 3 = .ok (.istore 4, 2) := by decide +kernel
theorem dX4_room_5 : decode cX4_room 5 = .ok (.iload 4, 2) := by decide +kernel
theorem dX4_room_7 : decode cX4_room 7 = .ok (.aload_n 0, 1) := by decide +kernel
theorem dX4_room_8 : decode cX4_room 8 = .ok (.getfield 41, 3) := by decide +kernel
theorem dX4_room_11 : decode cX4_room 11 = .ok (.if_icmp .ge 52, 3) := by decide +kernel
theorem dX4_room_14 : decode cX4_room 14 = .ok (.aload_n 0, 1) := by decide +kernel
theorem dX4_room_15 : decode cX4_room 15 = .ok (.getfield 16, 3) := by decide +kernel
theorem dX4_room_18 : decode cX4_room 18 = .ok (.iload 4, 2) := by decide +kernel
theorem dX4_room_20 : decode cX4_room 20 = .ok (.iaload, 1) := by decide +kernel
theorem dX4_room_21 : decode cX4_room 21 = .ok (.ifCond .eq 16, 3) := by decide +kernel
theorem dX4_room_24 : decode cX4_room 24 = .ok (.aload_n 0, 1) := by decide +kernel
theorem dX4_room_25 : decode cX4_room 25 = .ok (.getfield 16, 3) := by decide +kernel
theorem dX4_room_28 : decode cX4_room 28 = .ok (.iload 4, 2) := by decide +kernel
theorem dX4_room_30 : decode cX4_room 30 = .ok (.iaload, 1) := by decide +kernel
