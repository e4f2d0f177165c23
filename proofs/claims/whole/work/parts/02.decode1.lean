theorem dX2_has_6 : decode cX2_has 6 = .ok (.getfield 25, 3) := by decide +kernel
theorem dX2_has_9 : decode cX2_has 9 = .ok (.arraylength, 1) := by decide +kernel
theorem dX2_has_10 : decode cX2_has 10 = .ok (.if_icmp .ge 7, 3) := by decide +kernel
theorem dX2_has_13 : decode cX2_has 13 = .ok (.iconst 1, 1) := by decide +kernel
theorem dX2_has_14 : decode cX2_has 14 = .ok (.goto 4, 3) := by decide +kernel
theorem dX2_has_17 : decode cX2_has 17 = .ok (.iconst 0, 1) := by decide +kernel
theorem dX2_has_18 : decode cX2_has 18 = .ok (.ireturn, 1) := by decide +kernel
theorem dX2_put_0 : decode cX2_put 0 = .ok (.iload_n 3, 1) := by decide +kernel
theorem dX2_put_1 : decode cX2_put 1 = .ok (.aload_n 0, 1) := by decide +kernel
theorem dX2_put_2 : decode cX2_put 2 = .ok (.invokevirtual 34, 3) := by decide +kernel
theorem dX2_put_5 : decode cX2_put 5 = .ok (.aload_n 0, 1) := by decide +kernel
theorem dX2_put_6 : decode cX2_put 6 = .ok (.getfield 15, 3) := by decide +kernel
theorem dX2_put_9 : decode cX2_put 9 = .ok (.iload_n 1, 1) := by decide +kernel
theorem dX2_put_10 : decode cX2_put 10 = .ok (.iaload, 1) := by decide +kernel
theorem dX2_put_11 : decode cX2_put 11 = .ok (.iadd, 1) := by decide +kernel
theorem dX2_put_12 : decode cX2_put 12 = .ok (.if_icmp .le 5, 3) := by decide +kernel
theorem dX2_put_15 : decode cX2_put 15 = .ok (.iconst 0, 1) := by decide +kernel
theorem dX2_put_16 : decode cX2_put 16 = .ok (.ireturn, 1) := by decide +kernel
theorem dX2_put_17 : decode cX2_put 17 = .ok (.aload_n 0, 1) := by decide +kernel
theorem dX2_put_18 : decode cX2_put 18 = .ok (.iload_n 1, 1) := by decide +kernel
theorem dX2_put_19 : decode cX2_put 19 = .ok (.invokevirtual 38, 3) := by decide +kernel
theorem dX2_put_22 : decode cX2_put 22 = .ok (.pop, 1) := by decide +kernel
theorem dX2_put_23 : decode cX2_put 23 = .ok (.aload_n 0, 1) := by decide +kernel
theorem dX2_put_24 : decode cX2_put 24 = .ok (.iload_n 3, 1) := by decide +kernel
theorem dX2_put_25 : decode cX2_put 25 = .ok (.invokevirtual 42, 3) := by decide +kernel
theorem dX2_put_28 : decode cX2_put 28 = .ok (.istore 4, 2) := by decide +kernel
theorem dX2_put_30 : decode cX2_put 30 = .ok (.iload 4, 2) := by decide +kernel
theorem dX2_put_32 : decode cX2_put 32 = .ok (.iconst (-1), 1) := by decide +kernel
theorem dX2_put_33 : decode cX2_put 33 = .ok (.if_icmp .ne 14, 3) := by decide +kernel
theorem dX2_put_36 : decode cX2_put 36 = .ok (.aload_n 0, 1) := by decide +kernel
theorem dX2_put_37 : decode cX2_put 37 = .ok (.invokevirtual 45, 3) := by decide +kernel
theorem dX2_put_40 : decode cX2_put 40 = .ok (.pop, 1) := by decide +kernel
theorem dX2_put_41 : decode cX2_put 41 = .ok (.aload_n 0, 1) := by decide +kernel
theorem dX2_put_42 : decode cX2_put 42 = .ok (.getfield 21, 3) := by decide +kernel
theorem dX2_put_45 : decode cX2_put 45 = .ok (.istore 4, 2) := by decide +kernel
theorem dX2_put_47 : decode cX2_put 47 = .ok (.aload_n 0, 1) := by decide +kernel
theorem dX2_put_48 : decode cX2_put 48 = .ok (.iload 4, 2) := by decide +kernel
theorem dX2_put_50 : decode cX2_put 50 = .ok (.iload_n 1, 1) := by decide +kernel
theorem dX2_put_51 : decode cX2_put 51 = .ok (.iload_n 3, 1) := by decide +kernel
theorem dX2_put_52 : decode cX2_put 52 = .ok (.invokevirtual 48, 3) := by decide +kernel
theorem dX2_put_55 : decode cX2_put 55 = .ok (.aload_n 2, 1) := by decide +kernel
theorem dX2_put_56 : decode cX2_put 56 = .ok (.iconst 0, 1) := by decide +kernel
theorem dX2_put_57 : decode cX2_put 57 = .ok (.aload_n 0, 1) := by decide +kernel
theorem dX2_put_58 : decode cX2_put 58 = .ok (.getfield 25, 3) := by decide +kernel
theorem dX2_put_61 : decode cX2_put 61 = .ok (.aload_n 0, 1) := by decide +kernel
theorem dX2_put_62 : decode cX2_put 62 = .ok (.getfield 9, 3) := by decide +kernel
theorem dX2_put_65 : decode cX2_put 65 = .ok (.iload_n 1, 1) := by decide +kernel
theorem dX2_put_66 : decode cX2_put 66 = .ok (.iaload, 1) := by decide +kernel
theorem dX2_put_67 : decode cX2_put 67 = .ok (.iload_n 3, 1) := by decide +kernel
theorem dX2_put_68 : decode cX2_put 68 = .ok (.invokestatic 52, 3) := by decide +kernel
theorem dX2_put_71 : decode cX2_put 71 = .ok (.iconst 1, 1) := by decide +kernel
theorem dX2_put_72 : decode cX2_put 72 = .ok (.ireturn, 1) := by decide +kernel
theorem dX2_release_0 : decode cX2_release 0 = .ok (.aload_n 0, 1) := by decide +kernel
theorem dX2_release_1 : decode cX2_release 1 = .ok (.getfield 15, 3) := by decide +kernel
theorem dX2_release_4 : decode cX2_release 4 = .ok (.iload_n 1, 1) := by decide +kernel
theorem dX2_release_5 : decode cX2_release 5 = .ok (.iaload, 1) := by decide +kernel
theorem dX2_release_6 : decode cX2_release 6 = .ok (.istore_n 2, 1) := by decide +kernel
theorem dX2_release_7 : decode cX2_release 7 = .ok (.iload_n 2, 1) := by decide +kernel
theorem dX2_release_8 : decode cX2_release 8 = .ok (.ifCond .le 22, 3) := by decide +kernel
theorem dX2_release_11 : decode cX2_release 11 = .ok (.aload_n 0, 1) := by decide +kernel
theorem dX2_release_12 : decode cX2_release 12 = .ok (.iload_n 1, 1) := by decide +kernel
theorem dX2_release_13 : decode cX2_release 13 = .ok (.invokevirtual 58, 3) := by decide +kernel
theorem dX2_release_16 : decode cX2_release 16 = .ok (.aload_n 0, 1) := by decide +kernel
theorem dX2_release_17 : decode cX2_release 17 = .ok (.getfield 9, 3) := by decide +kernel
theorem dX2_release_20 : decode cX2_release 20 = .ok (.iload_n 1, 1) := by decide +kernel
theorem dX2_release_21 : decode cX2_release 21 = .ok (.iconst (-1), 1) := by decide +kernel
theorem dX2_release_22 : decode cX2_release 22 = .ok (.iastore, 1) := by decide +kernel
theorem dX2_release_23 : decode cX2_release 23 = .ok (.aload_n 0, 1) := by decide +kernel
theorem dX2_release_24 : decode cX2_release 24 = .ok (.getfield 15, 3) := by decide +kernel
theorem dX2_release_27 : decode cX2_release 27 = .ok (.iload_n 1, 1) := by decide +kernel
theorem dX2_release_28 : decode cX2_release 28 = .ok (.iconst 0, 1) := by decide +kernel
theorem dX2_release_29 : decode cX2_release 29 = .ok (.iastore, 1) := by decide +kernel
theorem dX2_release_30 : decode cX2_release 30 = .ok (.iload_n 2, 1) := by decide +kernel
theorem dX2_release_31 : decode cX2_release 31 = .ok (.ireturn, 1) := by decide +kernel
theorem dX2_putTogether_0 : decode cX2_putTogether 0 = .ok (.iconst 0, 1) := by decide +kernel
theorem dX2_putTogether_1 : decode cX2_putTogether 1 = .ok (.istore_n 1, 1) := by decide +kernel
theorem dX2_putTogether_2 : decode cX2_putTogether 2 = .ok (.iconst 0, 1) := by decide +kernel
theorem dX2_putTogether_3 : decode cX2_putTogether 3 = .ok (.istore_n 2, 1) := by decide +kernel
theorem dX2_putTogether_4 : decode cX2_putTogether 4 = .ok (.iconst 0, 1) := by decide +kernel
theorem dX2_putTogether_5 : decode cX2_putTogether 5 = .ok (.istore_n 3, 1) := by decide +kernel
theorem dX2_putTogether_6 : decode cX2_putTogether 6 = .ok (.iload_n 3, 1) := by decide +kernel
theorem dX2_putTogether_7 : decode cX2_putTogether 7 = .ok (.aload_n 0, 1) := by decide +kernel
theorem dX2_putTogether_8 : decode cX2_putTogether 8 = .ok (.getfield 21, 3) := by decide +kernel
theorem dX2_putTogether_11 : decode cX2_putTogether 11 = .ok (.if_icmp .ge 82, 3) := by decide +kernel
theorem dX2_putTogether_14 : decode cX2_putTogether 14 = .ok (.aload_n 0, 1) := by decide +kernel
theorem dX2_putTogether_15 : decode cX2_putTogether 15 = .ok (.getfield 18, 3) := by decide +kernel
theorem dX2_putTogether_18 : decode cX2_putTogether 18 = .ok (.iload_n 3, 1) := by decide +kernel
theorem dX2_putTogether_19 : decode cX2_putTogether 19 = .ok (.iaload, 1) := by decide +kernel
theorem dX2_putTogether_20 : decode cX2_putTogether 20 = .ok (.istore 4, 2) := by decide +kernel
theorem dX2_putTogether_22 : decode cX2_putTogether 22 = .ok (.aload_n 0, 1) := by decide +kernel
theorem dX2_putTogether_23 : decode cX2_putTogether 23 = .ok (.getfield 9, 3) := by decide +kernel
theorem dX2_putTogether_26 : decode cX2_putTogether 26 = .ok (.iload 4, 2) := by decide +kernel
theorem dX2_putTogether_28 : decode cX2_putTogether 28 = .ok (.iaload, 1) := by decide +kernel
theorem dX2_putTogether_29 : decode cX2_putTogether 29 = .ok (.iload_n 2, 1) := by decide +kernel
theorem dX2_putTogether_30 : decode cX2_putTogether 30 = .ok (.if_icmp .eq 47, 3) := by decide +kernel
theorem dX2_putTogether_33 : decode cX2_putTogether 33 = .ok (.aload_n 0, 1) := by decide +kernel
theorem dX2_putTogether_34 : decode cX2_putTogether 34 = .ok (.getfield 25, 3) := by decide +kernel
theorem dX2_putTogether_37 : decode cX2_putTogether 37 = .ok (.aload_n 0, 1) := by decide +kernel
theorem dX2_putTogether_38 : decode cX2_putTogether 38 = .ok (.getfield 9, 3) := by decide +kernel
theorem dX2_putTogether_41 : decode cX2_putTogether 41 = .ok (.iload 4, 2) := by decide +kernel
theorem dX2_putTogether_43 : decode cX2_putTogether 43 = .ok (.iaload, 1) := by decide +kernel
theorem dX2_putTogether_44 : decode cX2_putTogether 44 = .ok (.aload_n 0, 1) := by decide +kernel
theorem dX2_putTogether_45 : decode cX2_putTogether 45 = .ok (.getfield 25, 3) := by decide +kernel
theorem dX2_putTogether_48 : decode cX2_putTogether 48 = .ok (.iload_n 2, 1) := by decide +kernel
theorem dX2_putTogether_49 : decode cX2_putTogether 49 = .ok (.aload_n 0, 1) := by decide +kernel
theorem dX2_putTogether_50 : decode cX2_putTogether 50 = .ok (.getfield 15, 3) := by decide +kernel
theorem dX2_putTogether_53 : decode cX2_putTogether 53 = .ok (.iload 4, 2) := by decide +kernel
theorem dX2_putTogether_55 : decode cX2_putTogether 55 = .ok (.iaload, 1) := by decide +kernel
theorem dX2_putTogether_56 : decode cX2_putTogether 56 = .ok (.invokestatic 52, 3) := by decide +kernel
theorem dX2_putTogether_59 : decode cX2_putTogether 59 = .ok (.aload_n 0, 1) := by decide +kernel
theorem dX2_putTogether_60 : decode cX2_putTogether 60 = .ok (.getfield 9, 3) := by decide +kernel
theorem dX2_putTogether_63 : decode cX2_putTogether 63 = .ok (.iload 4, 2) := by decide +kernel
theorem dX2_putTogether_65 : decode cX2_putTogether 65 = .ok (.iload_n 2, 1) := by decide +kernel
theorem dX2_putTogether_66 : decode cX2_putTogether 66 = .ok (.iastore, 1) := by decide +kernel
theorem dX2_putTogether_67 : decode cX2_putTogether 67 = .ok (.iload_n 1, 1) := by decide +kernel
theorem dX2_putTogether_68 : decode cX2_putTogether 68 = .ok (.aload_n 0, 1) := by decide +kernel
theorem dX2_putTogether_69 : decode cX2_putTogether 69 = .ok (.getfield 15, 3) := by decide +kernel
theorem dX2_putTogether_72 : decode cX2_putTogether 72 = .ok (.iload 4, 2) := by decide +kernel
theorem dX2_putTogether_74 : decode cX2_putTogether 74 = .ok (.iaload, 1) := by decide +kernel
theorem dX2_putTogether_75 : decode cX2_putTogether 75 = .ok (.iadd, 1) := by decide +kernel
theorem dX2_putTogether_76 : decode cX2_putTogether 76 = .ok (.istore_n 1, 1) := by decide +kernel
theorem dX2_putTogether_77 : decode cX2_putTogether 77 = .ok (.iload_n 2, 1) := by decide +kernel
theorem dX2_putTogether_78 : decode cX2_putTogether 78 = .ok (.aload_n 0, 1) := by decide +kernel
theorem dX2_putTogether_79 : decode cX2_putTogether 79 = .ok (.getfield 15, 3) := by decide +kernel
theorem dX2_putTogether_82 : decode cX2_putTogether 82 = .ok (.iload 4, 2) := by decide +kernel
theorem dX2_putTogether_84 : decode cX2_putTogether 84 = .ok (.iaload, 1) := by decide +kernel
theorem dX2_putTogether_85 : decode cX2_putTogether 85 = .ok (.iadd, 1) := by decide +kernel
theorem dX2_putTogether_86 : decode cX2_putTogether 86 = .ok (.istore_n 2, 1) := by decide +kernel
theorem dX2_putTogether_87 : decode cX2_putTogether 87 = .ok (.iinc 3 1, 3) := by decide +kernel
theorem dX2_putTogether_90 : decode cX2_putTogether 90 = .ok (.goto (-84), 3) := by decide +kernel
theorem dX2_putTogether_93 : decode cX2_putTogether 93 = .ok (.iload_n 1, 1) := by decide +kernel
theorem dX2_putTogether_94 : decode cX2_putTogether 94 = .ok (.ireturn, 1) := by decide +kernel
theorem dX2_freeBytes_0 : decode cX2_freeBytes 0 = .ok (.iconst 0, 1) := by decide +kernel
theorem dX2_freeBytes_1 : decode cX2_freeBytes 1 = .ok (.istore_n 1, 1) := by decide +kernel
theorem dX2_freeBytes_2 : decode cX2_freeBytes 2 = .ok (.iconst 0, 1) := by decide +kernel
theorem dX2_freeBytes_3 : decode cX2_freeBytes 3 = .ok (.istore_n 2, 1) := by decide +kernel
theorem dX2_freeBytes_4 : decode cX2_freeBytes 4 = .ok (.iload_n 2, 1) := by decide +kernel
theorem dX2_freeBytes_5 : decode cX2_freeBytes 5 = .ok (.aload_n 0, 1) := by decide +kernel
theorem dX2_freeBytes_6 : decode cX2_freeBytes 6 = .ok (.getfield 21, 3) := by decide +kernel
theorem dX2_freeBytes_9 : decode cX2_freeBytes 9 = .ok (.if_icmp .gt 17, 3) := by decide +kernel
theorem dX2_freeBytes_12 : decode cX2_freeBytes 12 = .ok (.iload_n 1, 1) := by decide +kernel
theorem dX2_freeBytes_13 : decode cX2_freeBytes 13 = .ok (.aload_n 0, 1) := by decide +kernel
theorem dX2_freeBytes_14 : decode cX2_freeBytes 14 = .ok (.iload_n 2, 1) := by decide +kernel
theorem dX2_freeBytes_15 : decode cX2_freeBytes 15 = .ok (.invokevirtual 62, 3) := by decide +kernel
theorem dX2_freeBytes_18 : decode cX2_freeBytes 18 = .ok (.iadd, 1) := by decide +kernel
theorem dX2_freeBytes_19 : decode cX2_freeBytes 19 = .ok (.istore_n 1, 1) := by decide +kernel
theorem dX2_freeBytes_20 : decode cX2_freeBytes 20 = .ok (.iinc 2 1, 3) := by decide +kernel
theorem dX2_freeBytes_23 : decode cX2_freeBytes 23 = .ok (.goto (-19), 3) := by decide +kernel
theorem dX2_freeBytes_26 : decode cX2_freeBytes 26 = .ok (.iload_n 1, 1) := by decide +kernel
theorem dX2_freeBytes_27 : decode cX2_freeBytes 27 = .ok (.ireturn, 1) := by decide +kernel
theorem dX2_longestGap_0 : decode cX2_longestGap 0 = .ok (.iconst 0, 1) := by decide +kernel
theorem dX2_longestGap_1 : decode cX2_longestGap 1 = .ok (.istore_n 1, 1) := by decide +kernel
theorem dX2_longestGap_2 : decode cX2_longestGap 2 = .ok (.iconst 0, 1) := by decide +kernel
theorem dX2_longestGap_3 : decode cX2_longestGap 3 = .ok (.istore_n 2, 1) := by decide +kernel
theorem dX2_longestGap_4 : decode cX2_longestGap 4 = .ok (.iload_n 2, 1) := by decide +kernel
theorem dX2_longestGap_5 : decode cX2_longestGap 5 = .ok (.aload_n 0, 1) := by decide +kernel
theorem dX2_longestGap_6 : decode cX2_longestGap 6 = .ok (.getfield 21, 3) := by decide +kernel
theorem dX2_longestGap_9 : decode cX2_longestGap 9 = .ok (.if_icmp .gt 19, 3) := by decide +kernel
theorem dX2_longestGap_12 : decode cX2_longestGap 12 = .ok (.iload_n 1, 1) := by decide +kernel
theorem dX2_longestGap_13 : decode cX2_longestGap 13 = .ok (.aload_n 0, 1) := by decide +kernel
theorem dX2_longestGap_14 : decode cX2_longestGap 14 = .ok (.iload_n 2, 1) := by decide +kernel
theorem dX2_longestGap_15 : decode cX2_longestGap 15 = .ok (.invokevirtual 62, 3) := by decide +kernel
theorem dX2_longestGap_18 : decode cX2_longestGap 18 = .ok (.invokestatic 65, 3) := by decide +kernel
theorem dX2_longestGap_21 : decode cX2_longestGap 21 = .ok (.istore_n 1, 1) := by decide +kernel
theorem dX2_longestGap_22 : decode cX2_longestGap 22 = .ok (.iinc 2 1, 3) := by decide +kernel
theorem dX2_longestGap_25 : decode cX2_longestGap 25 = .ok (.goto (-21), 3) := by decide +kernel
theorem dX2_longestGap_28 : decode cX2_longestGap 28 = .ok (.iload_n 1, 1) := by decide +kernel
theorem dX2_longestGap_29 : decode cX2_longestGap 29 = .ok (.ireturn, 1) := by decide +kernel
theorem dX2_freeRows_0 : decode cX2_freeRows 0 = .ok (.iconst 0, 1) := by decide +kernel
theorem dX2_freeRows_1 : decode cX2_freeRows 1 = .ok (.istore_n 1, 1) := by decide +kernel
theorem dX2_freeRows_2 : decode cX2_freeRows 2 = .ok (.iconst 0, 1) := by decide +kernel
theorem dX2_freeRows_3 : decode cX2_freeRows 3 = .ok (.istore_n 2, 1) := by decide +kernel
theorem dX2_freeRows_4 : decode cX2_freeRows 4 = .ok (.iload_n 2, 1) := by decide +kernel
theorem dX2_freeRows_5 : decode cX2_freeRows 5 = .ok (.aload_n 0, 1) := by decide +kernel
theorem dX2_freeRows_6 : decode cX2_freeRows 6 = .ok (.getfield 21, 3) := by decide +kernel
theorem dX2_freeRows_9 : decode cX2_freeRows 9 = .ok (.if_icmp .gt 20, 3) := by decide +kernel
theorem dX2_freeRows_12 : decode cX2_freeRows 12 = .ok (.aload_n 0, 1) := by decide +kernel
theorem dX2_freeRows_13 : decode cX2_freeRows 13 = .ok (.iload_n 2, 1) := by decide +kernel
theorem dX2_freeRows_14 : decode cX2_freeRows 14 = .ok (.invokevirtual 62, 3) := by decide +kernel
theorem dX2_freeRows_17 : decode cX2_freeRows 17 = .ok (.ifCond .le 6, 3) := by decide +kernel
theorem dX2_freeRows_20 : decode cX2_freeRows 20 = .ok (.iinc 1 1, 3) := by decide +kernel
theorem dX2_freeRows_23 : decode cX2_freeRows 23 = .ok (.iinc 2 1, 3) := by decide +kernel
theorem dX2_freeRows_26 : decode cX2_freeRows 26 = .ok (.goto (-22), 3) := by decide +kernel
theorem dX2_freeRows_29 : decode cX2_freeRows 29 = .ok (.iload_n 1, 1) := by decide +kernel
theorem dX2_freeRows_30 : decode cX2_freeRows 30 = .ok (.ireturn, 1) := by decide +kernel
theorem dX2_firstGapOf_0 : decode cX2_firstGapOf 0 = .ok (.iconst 0, 1) := by decide +kernel
theorem dX2_firstGapOf_1 : decode cX2_firstGapOf 1 = .ok (.istore_n 2, 1) := by decide +kernel
theorem dX2_firstGapOf_2 : decode cX2_firstGapOf 2 = .ok (.iload_n 2, 1) := by decide +kernel
theorem dX2_firstGapOf_3 : decode cX2_firstGapOf 3 = .ok (.aload_n 0, 1) := by decide +kernel
theorem dX2_firstGapOf_4 : decode cX2_firstGapOf 4 = .ok (.getfield 21, 3) := by decide +kernel
theorem dX2_firstGapOf_7 : decode cX2_firstGapOf 7 = .ok (.if_icmp .gt 20, 3) := by decide +kernel
theorem dX2_firstGapOf_10 : decode cX2_firstGapOf 10 = .ok (.aload_n 0, 1) := by decide +kernel
theorem dX2_firstGapOf_11 : decode cX2_firstGapOf 11 = .ok (.iload_n 2, 1) := by decide +kernel
theorem dX2_firstGapOf_12 : decode cX2_firstGapOf 12 = .ok (.invokevirtual 62, 3) := by decide +kernel
theorem dX2_firstGapOf_15 : decode cX2_firstGapOf 15 = .ok (.iload_n 1, 1) := by decide +kernel
theorem dX2_firstGapOf_16 : decode cX2_firstGapOf 16 = .ok (.if_icmp .lt 5, 3) := by decide +kernel
theorem dX2_firstGapOf_19 : decode cX2_firstGapOf 19 = .ok (.iload_n 2, 1) := by decide +kernel
theorem dX2_firstGapOf_20 : decode cX2_firstGapOf 20 = .ok (.ireturn, 1) := by decide +kernel
theorem dX2_firstGapOf_21 : decode cX2_firstGapOf 21 = .ok (.iinc 2 1, 3) := by decide +kernel
theorem dX2_firstGapOf_24 : decode cX2_firstGapOf 24 = .ok (.goto (-22), 3) := by decide +kernel
theorem dX2_firstGapOf_27 : decode cX2_firstGapOf 27 = .ok (.iconst (-1), 1) := by decide +kernel
theorem dX2_firstGapOf_28 : decode cX2_firstGapOf 28 = .ok (.ireturn, 1) := by decide +kernel
theorem dX2_gapStart_0 : decode cX2_gapStart 0 = .ok (.iload_n 1, 1) := by decide +kernel
theorem dX2_gapStart_1 : decode cX2_gapStart 1 = .ok (.ifCond .ne 7, 3) := by decide +kernel
theorem dX2_gapStart_4 : decode cX2_gapStart 4 = .ok (.iconst 0, 1) := by decide +kernel
theorem dX2_gapStart_5 : decode cX2_gapStart 5 = .ok (.goto 30, 3) := by decide +kernel
theorem dX2_gapStart_8 : decode cX2_gapStart 8 = .ok (.aload_n 0, 1) := by decide +kernel
theorem dX2_gapStart_9 : decode cX2_gapStart 9 = .ok (.getfield 9, 3) := by decide +kernel
theorem dX2_gapStart_12 : decode cX2_gapStart 12 = .ok (.aload_n 0, 1) := by decide +kernel
theorem dX2_gapStart_13 : decode cX2_gapStart 13 = .ok (.getfield 18, 3) := by decide +kernel
theorem dX2_gapStart_16 : decode cX2_gapStart 16 = .ok (.iload_n 1, 1) := by decide +kernel
theorem dX2_gapStart_17 : decode cX2_gapStart 17 = .ok (.iconst 1, 1) := by decide +kernel
theorem dX2_gapStart_18 : decode cX2_gapStart 18 = .ok (.isub, 1) := by decide +kernel
theorem dX2_gapStart_19 : decode cX2_gapStart 19 = .ok (.iaload, 1) := by decide +kernel
theorem dX2_gapStart_20 : decode cX2_gapStart 20 = .ok (.iaload, 1) := by decide +kernel
theorem dX2_gapStart_21 : decode cX2_gapStart 21 = .ok (.aload_n 0, 1) := by decide +kernel
theorem dX2_gapStart_22 : decode cX2_gapStart 22 = .ok (.getfield 15, 3) := by decide +kernel
theorem dX2_gapStart_25 : decode cX2_gapStart 25 = .ok (.aload_n 0, 1) := by decide +kernel
theorem dX2_gapStart_26 : decode cX2_gapStart 26 = .ok (.getfield 18, 3) := by decide +kernel
theorem dX2_gapStart_29 : decode cX2_gapStart 29 = .ok (.iload_n 1, 1) := by decide +kernel
theorem dX2_gapStart_30 : decode cX2_gapStart 30 = .ok (.iconst 1, 1) := by decide +kernel
theorem dX2_gapStart_31 : decode cX2_gapStart 31 = .ok (.isub, 1) := by decide +kernel
theorem dX2_gapStart_32 : decode cX2_gapStart 32 = .ok (.iaload, 1) := by decide +kernel
theorem dX2_gapStart_33 : decode cX2_gapStart 33 = .ok (.iaload, 1) := by decide +kernel
theorem dX2_gapStart_34 : decode cX2_gapStart 34 = .ok (.iadd, 1) := by decide +kernel
theorem dX2_gapStart_35 : decode cX2_gapStart 35 = .ok (.ireturn, 1) := by decide +kernel
theorem dX2_gapSize_0 : decode cX2_gapSize 0 = .ok (.iload_n 1, 1) := by decide +kernel
theorem dX2_gapSize_1 : decode cX2_gapSize 1 = .ok (.aload_n 0, 1) := by decide +kernel
theorem dX2_gapSize_2 : decode cX2_gapSize 2 = .ok (.getfield 21, 3) := by decide +kernel
theorem dX2_gapSize_5 : decode cX2_gapSize 5 = .ok (.if_icmp .ne 11, 3) := by decide +kernel
theorem dX2_gapSize_8 : decode cX2_gapSize 8 = .ok (.aload_n 0, 1) := by decide +kernel
theorem dX2_gapSize_9 : decode cX2_gapSize 9 = .ok (.getfield 25, 3) := by decide +kernel
theorem dX2_gapSize_12 : decode cX2_gapSize 12 = .ok (.arraylength, 1) := by decide +kernel
theorem dX2_gapSize_13 : decode cX2_gapSize 13 = .ok (.goto 14, 3) := by decide +kernel
theorem dX2_gapSize_16 : decode cX2_gapSize 16 = .ok (.aload_n 0, 1) := by decide +kernel
theorem dX2_gapSize_17 : decode cX2_gapSize 17 = .ok (.getfield 9, 3) := by decide +kernel
theorem dX2_gapSize_20 : decode cX2_gapSize 20 = .ok (.aload_n 0, 1) := by decide +kernel
theorem dX2_gapSize_21 : decode cX2_gapSize 21 = .ok (.getfield 18, 3) := by decide +kernel
theorem dX2_gapSize_24 : decode cX2_gapSize 24 = .ok (.iload_n 1, 1) := by decide +kernel
theorem dX2_gapSize_25 : decode cX2_gapSize 25 = .ok (.iaload, 1) := by decide +kernel
theorem dX2_gapSize_26 : decode cX2_gapSize 26 = .ok (.iaload, 1) := by decide +kernel
theorem dX2_gapSize_27 : decode cX2_gapSize 27 = .ok (.istore_n 2, 1) := by decide +kernel
theorem dX2_gapSize_28 : decode cX2_gapSize 28 = .ok (.iload_n 2, 1) := by decide +kernel
theorem dX2_gapSize_29 : decode cX2_gapSize 29 = .ok (.aload_n 0, 1) := by decide +kernel
theorem dX2_gapSize_30 : decode cX2_gapSize 30 = .ok (.iload_n 1, 1) := by decide +kernel
theorem dX2_gapSize_31 : decode cX2_gapSize 31 = .ok (.invokevirtual 71, 3) := by decide +kernel
theorem dX2_gapSize_34 : decode cX2_gapSize 34 = .ok (.isub, 1) := by decide +kernel
theorem dX2_gapSize_35 : decode cX2_gapSize 35 = .ok (.ireturn, 1) := by decide +kernel
theorem dX2_insert_0 : decode cX2_insert 0 = .ok (.aload_n 0, 1) := by decide +kernel
theorem dX2_insert_1 : decode cX2_insert 1 = .ok (.getfield 9, 3) := by decide +kernel
theorem dX2_insert_4 : decode cX2_insert 4 = .ok (.iload_n 2, 1) := by decide +kernel
theorem dX2_insert_5 : decode cX2_insert 5 = .ok (.aload_n 0, 1) := by decide +kernel
theorem dX2_insert_6 : decode cX2_insert 6 = .ok (.iload_n 1, 1) := by decide +kernel
theorem dX2_insert_7 : decode cX2_insert 7 = .ok (.invokevirtual 71, 3) := by decide +kernel
theorem dX2_insert_10 : decode cX2_insert 10 = .ok (.iastore, 1) := by decide +kernel
theorem dX2_insert_11 : decode cX2_insert 11 = .ok (.aload_n 0, 1) := by decide +kernel
theorem dX2_insert_12 : decode cX2_insert 12 = .ok (.getfield 15, 3) := by decide +kernel
theorem dX2_insert_15 : decode cX2_insert 15 = .ok (.iload_n 2, 1) := by decide +kernel
theorem dX2_insert_16 : decode cX2_insert 16 = .ok (.iload_n 3, 1) := by decide +kernel
theorem dX2_insert_17 : decode cX2_insert 17 = .ok (.iastore, 1) := by decide +kernel
theorem dX2_insert_18 : decode cX2_insert 18 = .ok (.aload_n 0, 1) := by decide +kernel
theorem dX2_insert_19 : decode cX2_insert 19 = .ok (.getfield 21, 3) := by decide +kernel
theorem dX2_insert_22 : decode cX2_insert 22 = .ok (.istore 4, 2) := by decide +kernel
theorem dX2_insert_24 : decode cX2_insert 24 = .ok (.iload 4, 2) := by decide +kernel
theorem dX2_insert_26 : decode cX2_insert 26 = .ok (.iload_n 1, 1) := by decide +kernel
theorem dX2_insert_27 : decode cX2_insert 27 = .ok (.if_icmp .le 25, 3) := by decide +kernel
theorem dX2_insert_30 : decode cX2_insert 30 = .ok (.aload_n 0, 1) := by decide +kernel
theorem dX2_insert_31 : decode cX2_insert 31 = .ok (.getfield 18, 3) := by decide +kernel
theorem dX2_insert_34 : decode cX2_insert 34 = .ok (.iload 4, 2) := by decide +kernel
theorem dX2_insert_36 : decode cX2_insert 36 = .ok (.aload_n 0, 1) := by decide +kernel
theorem dX2_insert_37 : decode cX2_insert 37 = .ok (.getfield 18, 3) := by decide +kernel
theorem dX2_insert_40 : decode cX2_insert 40 = .ok (.iload 4, 2) := by decide +kernel
theorem dX2_insert_42 : decode cX2_insert 42 = .ok (.iconst 1, 1) := by decide +kernel
theorem dX2_insert_43 : decode cX2_insert 43 = .ok (.isub, 1) := by decide +kernel
theorem dX2_insert_44 : decode cX2_insert 44 = .ok (.iaload, 1) := by decide +kernel
theorem dX2_insert_45 : decode cX2_insert 45 = .ok (.iastore, 1) := by decide +kernel
theorem dX2_insert_46 : decode cX2_insert 46 = .ok (.iinc 4 (-1), 3) := by decide +kernel
theorem dX2_insert_49 : decode cX2_insert 49 = .ok (.goto (-25), 3) := by decide +kernel
theorem dX2_insert_52 : decode cX2_insert 52 = .ok (.aload_n 0, 1) := by decide +kernel
theorem dX2_insert_53 : decode cX2_insert 53 = .ok (.getfield 18, 3) := by decide +kernel
theorem dX2_insert_56 : decode cX2_insert 56 = .ok (.iload_n 1, 1) := by decide +kernel
theorem dX2_insert_57 : decode cX2_insert 57 = .ok (.iload_n 2, 1) := by decide +kernel
theorem dX2_insert_58 : decode cX2_insert 58 = .ok (.iastore, 1) := by decide +kernel
theorem dX2_insert_59 : decode cX2_insert 59 = .ok (.aload_n 0, 1) := by decide +kernel
theorem dX2_insert_60 : decode cX2_insert 60 = .ok (.dup, 1) := by decide +kernel
theorem dX2_insert_61 : decode cX2_insert 61 = .ok (.getfield 21, 3) := by decide +kernel
theorem dX2_insert_64 : decode cX2_insert 64 = .ok (.iconst 1, 1) := by decide +kernel
theorem dX2_insert_65 : decode cX2_insert 65 = .ok (.iadd, 1) := by decide +kernel
theorem dX2_insert_66 : decode cX2_insert 66 = .ok (.putfield 21, 3) := by decide +kernel
theorem dX2_insert_69 : decode cX2_insert 69 = .ok (.return_, 1) := by decide +kernel
theorem dX2_removeFromOrder_0 : decode cX2_removeFromOrder 0 = .ok (.iconst 0, 1) := by decide +kernel
theorem dX2_removeFromOrder_1 : decode cX2_removeFromOrder 1 = .ok (.istore_n 2, 1) := by decide +kernel
theorem dX2_removeFromOrder_2 : decode cX2_removeFromOrder 2 = .ok (.iconst 0, 1) := by decide +kernel
theorem dX2_removeFromOrder_3 : decode cX2_removeFromOrder 3 = .ok (.istore_n 3, 1) := by decide +kernel
theorem dX2_removeFromOrder_4 : decode cX2_removeFromOrder 4 = .ok (.iload_n 3, 1) := by decide +kernel
theorem dX2_removeFromOrder_5 : decode cX2_removeFromOrder 5 = .ok (.aload_n 0, 1) := by decide +kernel
theorem dX2_removeFromOrder_6 : decode cX2_removeFromOrder 6 = .ok (.getfield 21, 3) := by decide +kernel
theorem dX2_removeFromOrder_9 : decode cX2_removeFromOrder 9 = .ok (.if_icmp .ge 34, 3) := by decide +kernel
theorem dX2_removeFromOrder_12 : decode cX2_removeFromOrder 12 = .ok (.aload_n 0, 1) := by decide +kernel
theorem dX2_removeFromOrder_13 : decode cX2_removeFromOrder 13 = .ok (.getfield 18, 3) := by decide +kernel
theorem dX2_removeFromOrder_16 : decode cX2_removeFromOrder 16 = .ok (.iload_n 3, 1) := by decide +kernel
theorem dX2_removeFromOrder_17 : decode cX2_removeFromOrder 17 = .ok (.iaload, 1) := by decide +kernel
theorem dX2_removeFromOrder_18 : decode cX2_removeFromOrder 18 = .ok (.iload_n 1, 1) := by decide +kernel
theorem dX2_removeFromOrder_19 : decode cX2_removeFromOrder 19 = .ok (.if_icmp .eq 18, 3) := by decide +kernel
theorem dX2_removeFromOrder_22 : decode cX2_removeFromOrder 22 = .ok (.aload_n 0, 1) := by decide +kernel
theorem dX2_removeFromOrder_23 : decode cX2_removeFromOrder 23 = .ok (.getfield 18, 3) := by decide +kernel
theorem dX2_removeFromOrder_26 : decode cX2_removeFromOrder 26 = .ok (.iload_n 2, 1) := by decide +kernel
theorem dX2_removeFromOrder_27 : decode cX2_removeFromOrder 27 = .ok (.aload_n 0, 1) := by decide +kernel
theorem dX2_removeFromOrder_28 : decode cX2_removeFromOrder 28 = .ok (.getfield 18, 3) := by decide +kernel
theorem dX2_removeFromOrder_31 : decode cX2_removeFromOrder 31 = .ok (.iload_n 3, 1) := by decide +kernel
theorem dX2_removeFromOrder_32 : decode cX2_removeFromOrder 32 = .ok (.iaload, 1) := by decide +kernel
theorem dX2_removeFromOrder_33 : decode cX2_removeFromOrder 33 = .ok (.iastore, 1) := by decide +kernel
theorem dX2_removeFromOrder_34 : decode cX2_removeFromOrder 34 = .ok (.iinc 2 1, 3) := by decide +kernel
theorem dX2_removeFromOrder_37 : decode cX2_removeFromOrder 37 = .ok (.iinc 3 1, 3) := by decide +kernel
theorem dX2_removeFromOrder_40 : decode cX2_removeFromOrder 40 = .ok (.goto (-36), 3) := by decide +kernel
theorem dX2_removeFromOrder_43 : decode cX2_removeFromOrder 43 = .ok (.aload_n 0, 1) := by decide +kernel
theorem dX2_removeFromOrder_44 : decode cX2_removeFromOrder 44 = .ok (.iload_n 2, 1) := by decide +kernel
theorem dX2_removeFromOrder_45 : decode cX2_removeFromOrder 45 = .ok (.putfield 21, 3) := by decide +kernel
theorem dX2_removeFromOrder_48 : decode cX2_removeFromOrder 48 = .ok (.return_, 1) := by decide +kernel
theorem dX3_init_0 : decode cX3_init 0 = .ok (.aload_n 0, 1) := by decide +kernel
theorem dX3_init_1 : decode cX3_init 1 = .ok (.invokespecial 1, 3) := by decide +kernel
theorem dX3_init_4 : decode cX3_init 4 = .ok (.aload_n 0, 1) := by decide +kernel
theorem dX3_init_5 : decode cX3_init 5 = .ok (.sipush 256, 3) := by decide +kernel
theorem dX3_init_8 : decode cX3_init 8 = .ok (.newarray .int, 2) := by decide +kernel
theorem dX3_init_10 : decode cX3_init 10 = .ok (.putfield 9, 3) := by decide +kernel
theorem dX3_init_13 : decode cX3_init 13 = .ok (.aload_n 0, 1) := by decide +kernel
theorem dX3_init_14 : decode cX3_init 14 = .ok (.bipush 32, 2) := by decide +kernel
theorem dX3_init_16 : decode cX3_init 16 = .ok (.newarray .int, 2) := by decide +kernel
theorem dX3_init_18 : decode cX3_init 18 = .ok (.putfield 13, 3) := by decide +kernel
theorem dX3_init_21 : decode cX3_init 21 = .ok (.aload_n 0, 1) := by decide +kernel
theorem dX3_init_22 : decode cX3_init 22 = .ok (.bipush 32, 2) := by decide +kernel
theorem dX3_init_24 : decode cX3_init 24 = .ok (.newarray .int, 2) := by decide +kernel
theorem dX3_init_26 : decode cX3_init 26 = .ok (.putfield 16, 3) := by decide +kernel
theorem dX3_init_29 : decode cX3_init 29 = .ok (.aload_n 0, 1) := by decide +kernel
theorem dX3_init_30 : decode cX3_init 30 = .ok (.new 19, 3) := by decide +kernel
theorem dX3_init_33 : decode cX3_init 33 = .ok (.dup, 1) := by decide +kernel
theorem dX3_init_34 : decode cX3_init 34 = .ok (.invokespecial 21, 3) := by decide +kernel
theorem dX3_init_37 : decode cX3_init 37 = .ok (.putfield 22, 3) := by decide +kernel
theorem dX3_init_40 : decode cX3_init 40 = .ok (.aload_n 0, 1) := by decide +kernel
theorem dX3_init_41 : decode cX3_init 41 = .ok (.new 26, 3) := by decide +kernel
theorem dX3_init_44 : decode cX3_init 44 = .ok (.dup, 1) := by decide +kernel
theorem dX3_init_45 : decode cX3_init 45 = .ok (.invokespecial 28, 3) := by decide +kernel
theorem dX3_init_48 : decode cX3_init 48 = .ok (.putfield 29, 3) := by decide +kernel
theorem dX3_init_51 : decode cX3_init 51 = .ok (.aload_n 0, 1) := by decide +kernel
theorem dX3_init_52 : decode cX3_init 52 = .ok (.sipush 600, 3) := by decide +kernel
theorem dX3_init_55 : decode cX3_init 55 = .ok (.newarray .int, 2) := by decide +kernel
theorem dX3_init_57 : decode cX3_init 57 = .ok (.putfield 33, 3) := by decide +kernel
theorem dX3_init_60 : decode cX3_init 60 = .ok (.aload_n 0, 1) := by decide +kernel
theorem dX3_init_61 : decode cX3_init 61 = .ok (.iconst 0, 1) := by decide +kernel
theorem dX3_init_62 : decode cX3_init 62 = .ok (.putfield 36, 3) := by decide +kernel
theorem dX3_init_65 : decode cX3_init 65 = .ok (.aload_n 0, 1) := by decide +kernel
theorem dX3_init_66 : decode cX3_init 66 = .ok (.iconst (-1), 1) := by decide +kernel
theorem dX3_init_67 : decode cX3_init 67 = .ok (.putfield 40, 3) := by decide +kernel
theorem dX3_init_70 : decode cX3_init 70 = .ok (.aload_n 0, 1) := by decide +kernel
theorem dX3_init_71 : decode cX3_init 71 = .ok (.new 43, 3) := by decide +kernel
theorem dX3_init_74 : decode cX3_init 74 = .ok (.dup, 1) := by decide +kernel
theorem dX3_init_75 : decode cX3_init 75 = .ok (.iconst 0, 1) := by decide +kernel
theorem dX3_init_76 : decode cX3_init 76 = .ok (.sipush 4096, 3) := by decide +kernel
theorem dX3_init_79 : decode cX3_init 79 = .ok (.iload_n 1, 1) := by decide +kernel
theorem dX3_init_80 : decode cX3_init 80 = .ok (.invokestatic 45, 3) := by decide +kernel
theorem dX3_init_83 : decode cX3_init 83 = .ok (.invokestatic 51, 3) := by decide +kernel
theorem dX3_init_86 : decode cX3_init 86 = .ok (.invokespecial 54, 3) := by decide +kernel
theorem dX3_init_89 : decode cX3_init 89 = .ok (.putfield 57, 3) := by decide +kernel
theorem dX3_init_92 : decode cX3_init 92 = .ok (.return_, 1) := by decide +kernel
theorem dX3_fill_0 : decode cX3_fill 0 = .ok (.iload_n 1, 1) := by decide +kernel
theorem dX3_fill_1 : decode cX3_fill 1 = .ok (.iconst 4, 1) := by decide +kernel
theorem dX3_fill_2 : decode cX3_fill 2 = .ok (.invokestatic 61, 3) := by decide +kernel
theorem dX3_fill_5 : decode cX3_fill 5 = .ok (.ifCond .ne 6, 3) := by decide +kernel
theorem dX3_fill_8 : decode cX3_fill 8 = .ok (.bipush (-12), 2) := by decide +kernel
theorem dX3_fill_10 : decode cX3_fill 10 = .ok (.ireturn, 1) := by decide +kernel
theorem dX3_fill_11 : decode cX3_fill 11 = .ok (.iload_n 2, 1) := by decide +kernel
theorem dX3_fill_12 : decode cX3_fill 12 = .ok (.iconst 4, 1) := by decide +kernel
theorem dX3_fill_13 : decode cX3_fill 13 = .ok (.aload_n 0, 1) := by decide +kernel
theorem dX3_fill_14 : decode cX3_fill 14 = .ok (.getfield 9, 3) := by decide +kernel
theorem dX3_fill_17 : decode cX3_fill 17 = .ok (.iload_n 1, 1) := by decide +kernel
theorem dX3_fill_18 : decode cX3_fill 18 = .ok (.invokestatic 65, 3) := by decide +kernel
theorem dX3_fill_21 : decode cX3_fill 21 = .ok (.iconst 1, 1) := by decide +kernel
theorem dX3_fill_22 : decode cX3_fill 22 = .ok (.ireturn, 1) := by decide +kernel
theorem dX3_run_0 : decode cX3_run 0 = .ok (.iload_n 1, 1) := by decide +kernel
theorem dX3_run_1 : decode cX3_run 1 = .ok (.iload_n 2, 1) := by decide +kernel
theorem dX3_run_2 : decode cX3_run 2 = .ok (.invokestatic 61, 3) := by decide +kernel
theorem dX3_run_5 : decode cX3_run 5 = .ok (.ifCond .ne 6, 3) := by decide +kernel
theorem dX3_run_8 : decode cX3_run 8 = .ok (.bipush (-12), 2) := by decide +kernel
theorem dX3_run_10 : decode cX3_run 10 = .ok (.ireturn, 1) := by decide +kernel
theorem dX3_run_11 : decode cX3_run 11 = .ok (.iload_n 1, 1) := by decide +kernel
theorem dX3_run_12 : decode cX3_run 12 = .ok (.istore 4, 2) := by decide +kernel
theorem dX3_run_14 : decode cX3_run 14 = .ok (.iload 4, 2) := by decide +kernel
theorem dX3_run_16 : decode cX3_run 16 = .ok (.iload_n 1, 1) := by decide +kernel
theorem dX3_run_17 : decode cX3_run 17 = .ok (.iload_n 2, 1) := by decide +kernel
theorem dX3_run_18 : decode cX3_run 18 = .ok (.iadd, 1) := by decide +kernel
theorem dX3_run_19 : decode cX3_run 19 = .ok (.if_icmp .ge 21, 3) := by decide +kernel
theorem dX3_run_22 : decode cX3_run 22 = .ok (.aload_n 0, 1) := by decide +kernel
theorem dX3_run_23 : decode cX3_run 23 = .ok (.getfield 9, 3) := by decide +kernel
theorem dX3_run_26 : decode cX3_run 26 = .ok (.iload 4, 2) := by decide +kernel
theorem dX3_run_28 : decode cX3_run 28 = .ok (.iload_n 3, 1) := by decide +kernel
theorem dX3_run_29 : decode cX3_run 29 = .ok (.sipush 255, 3) := by decide +kernel
theorem dX3_run_32 : decode cX3_run 32 = .ok (.iand, 1) := by decide +kernel
theorem dX3_run_33 : decode cX3_run 33 = .ok (.iastore, 1) := by decide +kernel
theorem dX3_run_34 : decode cX3_run 34 = .ok (.iinc 4 1, 3) := by decide +kernel
theorem dX3_run_37 : decode cX3_run 37 = .ok (.goto (-23), 3) := by decide +kernel
theorem dX3_run_40 : decode cX3_run 40 = .ok (.iconst 1, 1) := by decide +kernel
theorem dX3_run_41 : decode cX3_run 41 = .ok (.ireturn, 1) := by decide +kernel
theorem dX3_copy_0 : decode cX3_copy 0 = .ok (.iload_n 1, 1) := by decide +kernel
theorem dX3_copy_1 : decode cX3_copy 1 = .ok (.iload_n 3, 1) := by decide +kernel
theorem dX3_copy_2 : decode cX3_copy 2 = .ok (.invokestatic 61, 3) := by decide +kernel
theorem dX3_copy_5 : decode cX3_copy 5 = .ok (.ifCond .eq 11, 3) := by decide +kernel
theorem dX3_copy_8 : decode cX3_copy 8 = .ok (.iload_n 2, 1) := by decide +kernel
theorem dX3_copy_9 : decode cX3_copy 9 = .ok (.iload_n 3, 1) := by decide +kernel
theorem dX3_copy_10 : decode cX3_copy 10 = .ok (.invokestatic 61, 3) := by decide +kernel
theorem dX3_copy_13 : decode cX3_copy 13 = .ok (.ifCond .ne 6, 3) := by decide +kernel
theorem dX3_copy_16 : decode cX3_copy 16 = .ok (.bipush (-12), 2) := by decide +kernel
theorem dX3_copy_18 : decode cX3_copy 18 = .ok (.ireturn, 1) := by decide +kernel
theorem dX3_copy_19 : decode cX3_copy 19 = .ok (.iconst 0, 1) := by decide +kernel
theorem dX3_copy_20 : decode cX3_copy 20 = .ok (.istore 4, 2) := by decide +kernel
theorem dX3_copy_22 : decode cX3_copy 22 = .ok (.iload 4, 2) := by decide +kernel
theorem dX3_copy_24 : decode cX3_copy 24 = .ok (.iload_n 3, 1) := by decide +kernel
theorem dX3_copy_25 : decode cX3_copy 25 = .ok (.if_icmp .ge 27, 3) := by decide +kernel
theorem dX3_copy_28 : decode cX3_copy 28 = .ok (.aload_n 0, 1) := by decide +kernel
theorem dX3_copy_29 : decode cX3_copy 29 = .ok (.getfield 9, 3) := by decide +kernel
theorem dX3_copy_32 : decode cX3_copy 32 = .ok (.iload_n 1, 1) := by decide +kernel
theorem dX3_copy_33 : decode cX3_copy 33 = .ok (.iload 4, 2) := by decide +kernel
theorem dX3_copy_35 : decode cX3_copy 35 = .ok (.iadd, 1) := by decide +kernel
theorem dX3_copy_36 : decode cX3_copy 36 = .ok (.aload_n 0, 1) := by decide +kernel
theorem dX3_copy_37 : decode cX3_copy 37 = .ok (.getfield 9, 3) := by decide +kernel
theorem dX3_copy_40 : decode cX3_copy 40 = .ok (.iload_n 2, 1) := by decide +kernel
theorem dX3_copy_41 : decode cX3_copy 41 = .ok (.iload 4, 2) := by decide +kernel
theorem dX3_copy_43 : decode cX3_copy 43 = .ok (.iadd, 1) := by decide +kernel
theorem dX3_copy_44 : decode cX3_copy 44 = .ok (.iaload, 1) := by decide +kernel
theorem dX3_copy_45 : decode cX3_copy 45 = .ok (.iastore, 1) := by decide +kernel
theorem dX3_copy_46 : decode cX3_copy 46 = .ok (.iinc 4 1, 3) := by decide +kernel
theorem dX3_copy_49 : decode cX3_copy 49 = .ok (.goto (-27), 3) := by decide +kernel
theorem dX3_copy_52 : decode cX3_copy 52 = .ok (.iconst 1, 1) := by decide +kernel
theorem dX3_copy_53 : decode cX3_copy 53 = .ok (.ireturn, 1) := by decide +kernel
theorem dX3_octet_0 : decode cX3_octet 0 = .ok (.iload_n 1, 1) := by decide +kernel
theorem dX3_octet_1 : decode cX3_octet 1 = .ok (.ifCond .lt 19, 3) := by decide +kernel
theorem dX3_octet_4 : decode cX3_octet 4 = .ok (.iload_n 1, 1) := by decide +kernel
theorem dX3_octet_5 : decode cX3_octet 5 = .ok (.sipush 256, 3) := by decide +kernel
theorem dX3_octet_8 : decode cX3_octet 8 = .ok (.if_icmp .ge 12, 3) := by decide +kernel
theorem dX3_octet_11 : decode cX3_octet 11 = .ok (.aload_n 0, 1) := by decide +kernel
theorem dX3_octet_12 : decode cX3_octet 12 = .ok (.getfield 9, 3) := by decide +kernel
theorem dX3_octet_15 : decode cX3_octet 15 = .ok (.iload_n 1, 1) := by decide +kernel
theorem dX3_octet_16 : decode cX3_octet 16 = .ok (.iaload, 1) := by decide +kernel
theorem dX3_octet_17 : decode cX3_octet 17 = .ok (.goto 4, 3) := by decide +kernel
theorem dX3_octet_20 : decode cX3_octet 20 = .ok (.iconst (-1), 1) := by decide +kernel
theorem dX3_octet_21 : decode cX3_octet 21 = .ok (.ireturn, 1) := by decide +kernel
theorem dX3_write_0 : decode cX3_write 0 = .ok (.iload_n 1, 1) := by decide +kernel
theorem dX3_write_1 : decode cX3_write 1 = .ok (.invokestatic 69, 3) := by decide +kernel
theorem dX3_write_4 : decode cX3_write 4 = .ok (.ifCond .ne 6, 3) := by decide +kernel
theorem dX3_write_7 : decode cX3_write 7 = .ok (.bipush (-11), 2) := by decide +kernel
theorem dX3_write_9 : decode cX3_write 9 = .ok (.ireturn, 1) := by decide +kernel
theorem dX3_write_10 : decode cX3_write 10 = .ok (.aload_n 0, 1) := by decide +kernel
theorem dX3_write_11 : decode cX3_write 11 = .ok (.invokevirtual 73, 3) := by decide +kernel
theorem dX3_write_14 : decode cX3_write 14 = .ok (.ifCond .eq 33, 3) := by decide +kernel
theorem dX3_write_17 : decode cX3_write 17 = .ok (.aload_n 0, 1) := by decide +kernel
theorem dX3_write_18 : decode cX3_write 18 = .ok (.getfield 57, 3) := by decide +kernel
theorem dX3_write_21 : decode cX3_write 21 = .ok (.iload_n 1, 1) := by decide +kernel
theorem dX3_write_22 : decode cX3_write 22 = .ok (.invokevirtual 77, 3) := by decide +kernel
theorem dX3_write_25 : decode cX3_write 25 = .ok (.pop, 1) := by decide +kernel
theorem dX3_write_26 : decode cX3_write 26 = .ok (.aload_n 0, 1) := by decide +kernel
theorem dX3_write_27 : decode cX3_write 27 = .ok (.getfield 13, 3) := by decide +kernel
theorem dX3_write_30 : decode cX3_write 30 = .ok (.iload_n 1, 1) := by decide +kernel
theorem dX3_write_31 : decode cX3_write 31 = .ok (.iconst 1, 1) := by decide +kernel
theorem dX3_write_32 : decode cX3_write 32 = .ok (.iastore, 1) := by decide +kernel
theorem dX3_write_33 : decode cX3_write 33 = .ok (.aload_n 0, 1) := by decide +kernel
theorem dX3_write_34 : decode cX3_write 34 = .ok (.getfield 16, 3) := by decide +kernel
theorem dX3_write_37 : decode cX3_write 37 = .ok (.iload_n 1, 1) := by decide +kernel
theorem dX3_write_38 : decode cX3_write 38 = .ok (.aload_n 0, 1) := by decide +kernel
theorem dX3_write_39 : decode cX3_write 39 = .ok (.getfield 9, 3) := by decide +kernel
theorem dX3_write_42 : decode cX3_write 42 = .ok (.iconst 0, 1) := by decide +kernel
theorem dX3_write_43 : decode cX3_write 43 = .ok (.iaload, 1) := by decide +kernel
theorem dX3_write_44 : decode cX3_write 44 = .ok (.iastore, 1) := by decide +kernel
theorem dX3_write_45 : decode cX3_write 45 = .ok (.iconst 0, 1) := by decide +kernel
theorem dX3_write_46 : decode cX3_write 46 = .ok (.ireturn, 1) := by decide +kernel
theorem dX3_write_47 : decode cX3_write 47 = .ok (.aload_n 0, 1) := by decide +kernel
theorem dX3_write_48 : decode cX3_write 48 = .ok (.getfield 22, 3) := by decide +kernel
theorem dX3_write_51 : decode cX3_write 51 = .ok (.aload_n 0, 1) := by decide +kernel
theorem dX3_write_52 : decode cX3_write 52 = .ok (.getfield 9, 3) := by decide +kernel
theorem dX3_write_55 : decode cX3_write 55 = .ok (.invokevirtual 81, 3) := by decide +kernel
theorem dX3_write_58 : decode cX3_write 58 = .ok (.istore_n 2, 1) := by decide +kernel
theorem dX3_write_59 : decode cX3_write 59 = .ok (.iload_n 2, 1) := by decide +kernel
theorem dX3_write_60 : decode cX3_write 60 = .ok (.sipush 256, 3) := by decide +kernel
theorem dX3_write_63 : decode cX3_write 63 = .ok (.if_icmp .ge 20, 3) := by decide +kernel
theorem dX3_write_66 : decode cX3_write 66 = .ok (.aload_n 0, 1) := by decide +kernel
theorem dX3_write_67 : decode cX3_write 67 = .ok (.iload_n 1, 1) := by decide +kernel
theorem dX3_write_68 : decode cX3_write 68 = .ok (.iconst 2, 1) := by decide +kernel
theorem dX3_write_69 : decode cX3_write 69 = .ok (.aload_n 0, 1) := by decide +kernel
theorem dX3_write_70 : decode cX3_write 70 = .ok (.getfield 22, 3) := by decide +kernel
theorem dX3_write_73 : decode cX3_write 73 = .ok (.getfield 85, 3) := by decide +kernel
theorem dX3_write_76 : decode cX3_write 76 = .ok (.iload_n 2, 1) := by decide +kernel
theorem dX3_write_77 : decode cX3_write 77 = .ok (.invokevirtual 88, 3) := by decide +kernel
theorem dX3_write_80 : decode cX3_write 80 = .ok (.goto 16, 3) := by decide +kernel
theorem dX3_write_83 : decode cX3_write 83 = .ok (.aload_n 0, 1) := by decide +kernel
theorem dX3_write_84 : decode cX3_write 84 = .ok (.iload_n 1, 1) := by decide +kernel
theorem dX3_write_85 : decode cX3_write 85 = .ok (.iconst 3, 1) := by decide +kernel
theorem dX3_write_86 : decode cX3_write 86 = .ok (.aload_n 0, 1) := by decide +kernel
theorem dX3_write_87 : decode cX3_write 87 = .ok (.getfield 9, 3) := by decide +kernel
theorem dX3_write_90 : decode cX3_write 90 = .ok (.sipush 256, 3) := by decide +kernel
theorem dX3_write_93 : decode cX3_write 93 = .ok (.invokevirtual 88, 3) := by decide +kernel
theorem dX3_write_96 : decode cX3_write 96 = .ok (.ireturn, 1) := by decide +kernel
theorem dX3_read_0 : decode cX3_read 0 = .ok (.iload_n 1, 1) := by decide +kernel
theorem dX3_read_1 : decode cX3_read 1 = .ok (.invokestatic 69, 3) := by decide +kernel
theorem dX3_read_4 : decode cX3_read 4 = .ok (.ifCond .ne 6, 3) := by decide +kernel
theorem dX3_read_7 : decode cX3_read 7 = .ok (.bipush (-11), 2) := by decide +kernel
theorem dX3_read_9 : decode cX3_read 9 = .ok (.ireturn, 1) := by decide +kernel
theorem dX3_read_10 : decode cX3_read 10 = .ok (.aload_n 0, 1) := by decide +kernel
theorem dX3_read_11 : decode cX3_read 11 = .ok (.getfield 13, 3) := by decide +kernel
theorem dX3_read_14 : decode cX3_read 14 = .ok (.iload_n 1, 1) := by decide +kernel
theorem dX3_read_15 : decode cX3_read 15 = .ok (.iaload, 1) := by decide +kernel
theorem dX3_read_16 : decode cX3_read 16 = .ok (.iconst 2, 1) := by decide +kernel
theorem dX3_read_17 : decode cX3_read 17 = .ok (.if_icmp .ne 9, 3) := by decide +kernel
theorem dX3_read_20 : decode cX3_read 20 = .ok (.aload_n 0, 1) := by decide +kernel
theorem dX3_read_21 : decode cX3_read 21 = .ok (.iload_n 1, 1) := by decide +kernel
theorem dX3_read_22 : decode cX3_read 22 = .ok (.invokevirtual 92, 3) := by decide +kernel
theorem dX3_read_25 : decode cX3_read 25 = .ok (.ireturn, 1) := by decide +kernel
theorem dX3_read_26 : decode cX3_read 26 = .ok (.aload_n 0, 1) := by decide +kernel
theorem dX3_read_27 : decode cX3_read 27 = .ok (.getfield 13, 3) := by decide +kernel
theorem dX3_read_30 : decode cX3_read 30 = .ok (.iload_n 1, 1) := by decide +kernel
theorem dX3_read_31 : decode cX3_read 31 = .ok (.iaload, 1) := by decide +kernel
theorem dX3_read_32 : decode cX3_read 32 = .ok (.iconst 3, 1) := by decide +kernel
theorem dX3_read_33 : decode cX3_read 33 = .ok (.if_icmp .ne 33, 3) := by decide +kernel
