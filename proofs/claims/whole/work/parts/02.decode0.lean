theorem dX0_init_0 : decode cX0_init 0 = .ok (.aload_n 0, 1) := by decide +kernel
theorem dX0_init_1 : decode cX0_init 1 = .ok (.invokespecial 3, 3) := by decide +kernel
theorem dX0_init_4 : decode cX0_init 4 = .ok (.aload_n 0, 1) := by decide +kernel
theorem dX0_init_5 : decode cX0_init 5 = .ok (.sipush 258, 3) := by decide +kernel
theorem dX0_init_8 : decode cX0_init 8 = .ok (.newarray .int, 2) := by decide +kernel
theorem dX0_init_10 : decode cX0_init 10 = .ok (.putfield 11, 3) := by decide +kernel
theorem dX0_init_13 : decode cX0_init 13 = .ok (.return_, 1) := by decide +kernel
theorem dX0_pack_0 : decode cX0_pack 0 = .ok (.aload_n 0, 1) := by decide +kernel
theorem dX0_pack_1 : decode cX0_pack 1 = .ok (.iconst 0, 1) := by decide +kernel
theorem dX0_pack_2 : decode cX0_pack 2 = .ok (.putfield 15, 3) := by decide +kernel
theorem dX0_pack_5 : decode cX0_pack 5 = .ok (.iconst 0, 1) := by decide +kernel
theorem dX0_pack_6 : decode cX0_pack 6 = .ok (.istore_n 2, 1) := by decide +kernel
theorem dX0_pack_7 : decode cX0_pack 7 = .ok (.iconst 0, 1) := by decide +kernel
theorem dX0_pack_8 : decode cX0_pack 8 = .ok (.istore_n 3, 1) := by decide +kernel
theorem dX0_pack_9 : decode cX0_pack 9 = .ok (.iload_n 3, 1) := by decide +kernel
theorem dX0_pack_10 : decode cX0_pack 10 = .ok (.sipush 244, 3) := by decide +kernel
theorem dX0_pack_13 : decode cX0_pack 13 = .ok (.if_icmp .gt 64, 3) := by decide +kernel
theorem dX0_pack_16 : decode cX0_pack 16 = .ok (.aload_n 0, 1) := by decide +kernel
theorem dX0_pack_17 : decode cX0_pack 17 = .ok (.aload_n 1, 1) := by decide +kernel
theorem dX0_pack_18 : decode cX0_pack 18 = .ok (.iload_n 3, 1) := by decide +kernel
theorem dX0_pack_19 : decode cX0_pack 19 = .ok (.invokevirtual 19, 3) := by decide +kernel
theorem dX0_pack_22 : decode cX0_pack 22 = .ok (.aload_n 0, 1) := by decide +kernel
theorem dX0_pack_23 : decode cX0_pack 23 = .ok (.getfield 23, 3) := by decide +kernel
theorem dX0_pack_26 : decode cX0_pack 26 = .ok (.iconst 4, 1) := by decide +kernel
theorem dX0_pack_27 : decode cX0_pack 27 = .ok (.if_icmp .ge 9, 3) := by decide +kernel
theorem dX0_pack_30 : decode cX0_pack 30 = .ok (.iinc 3 1, 3) := by decide +kernel
theorem dX0_pack_33 : decode cX0_pack 33 = .ok (.goto (-24), 3) := by decide +kernel
theorem dX0_pack_36 : decode cX0_pack 36 = .ok (.aload_n 0, 1) := by decide +kernel
theorem dX0_pack_37 : decode cX0_pack 37 = .ok (.aload_n 1, 1) := by decide +kernel
theorem dX0_pack_38 : decode cX0_pack 38 = .ok (.iload_n 2, 1) := by decide +kernel
theorem dX0_pack_39 : decode cX0_pack 39 = .ok (.iload_n 3, 1) := by decide +kernel
theorem dX0_pack_40 : decode cX0_pack 40 = .ok (.aload_n 0, 1) := by decide +kernel
theorem dX0_pack_41 : decode cX0_pack 41 = .ok (.getfield 23, 3) := by decide +kernel
theorem dX0_pack_44 : decode cX0_pack 44 = .ok (.iconst 4, 1) := by decide +kernel
theorem dX0_pack_45 : decode cX0_pack 45 = .ok (.isub, 1) := by decide +kernel
theorem dX0_pack_46 : decode cX0_pack 46 = .ok (.invokevirtual 26, 3) := by decide +kernel
theorem dX0_pack_49 : decode cX0_pack 49 = .ok (.aload_n 0, 1) := by decide +kernel
theorem dX0_pack_50 : decode cX0_pack 50 = .ok (.iload_n 3, 1) := by decide +kernel
theorem dX0_pack_51 : decode cX0_pack 51 = .ok (.aload_n 0, 1) := by decide +kernel
theorem dX0_pack_52 : decode cX0_pack 52 = .ok (.getfield 30, 3) := by decide +kernel
theorem dX0_pack_55 : decode cX0_pack 55 = .ok (.isub, 1) := by decide +kernel
theorem dX0_pack_56 : decode cX0_pack 56 = .ok (.aload_n 0, 1) := by decide +kernel
theorem dX0_pack_57 : decode cX0_pack 57 = .ok (.getfield 23, 3) := by decide +kernel
theorem dX0_pack_60 : decode cX0_pack 60 = .ok (.iconst 4, 1) := by decide +kernel
theorem dX0_pack_61 : decode cX0_pack 61 = .ok (.isub, 1) := by decide +kernel
theorem dX0_pack_62 : decode cX0_pack 62 = .ok (.invokevirtual 33, 3) := by decide +kernel
theorem dX0_pack_65 : decode cX0_pack 65 = .ok (.iload_n 3, 1) := by decide +kernel
theorem dX0_pack_66 : decode cX0_pack 66 = .ok (.aload_n 0, 1) := by decide +kernel
theorem dX0_pack_67 : decode cX0_pack 67 = .ok (.getfield 23, 3) := by decide +kernel
theorem dX0_pack_70 : decode cX0_pack 70 = .ok (.iadd, 1) := by decide +kernel
theorem dX0_pack_71 : decode cX0_pack 71 = .ok (.istore_n 3, 1) := by decide +kernel
theorem dX0_pack_72 : decode cX0_pack 72 = .ok (.iload_n 3, 1) := by decide +kernel
theorem dX0_pack_73 : decode cX0_pack 73 = .ok (.istore_n 2, 1) := by decide +kernel
theorem dX0_pack_74 : decode cX0_pack 74 = .ok (.goto (-65), 3) := by decide +kernel
theorem dX0_pack_77 : decode cX0_pack 77 = .ok (.aload_n 0, 1) := by decide +kernel
theorem dX0_pack_78 : decode cX0_pack 78 = .ok (.aload_n 1, 1) := by decide +kernel
theorem dX0_pack_79 : decode cX0_pack 79 = .ok (.iload_n 2, 1) := by decide +kernel
theorem dX0_pack_80 : decode cX0_pack 80 = .ok (.sipush 256, 3) := by decide +kernel
theorem dX0_pack_83 : decode cX0_pack 83 = .ok (.iconst 0, 1) := by decide +kernel
theorem dX0_pack_84 : decode cX0_pack 84 = .ok (.invokevirtual 26, 3) := by decide +kernel
theorem dX0_pack_87 : decode cX0_pack 87 = .ok (.aload_n 0, 1) := by decide +kernel
theorem dX0_pack_88 : decode cX0_pack 88 = .ok (.getfield 15, 3) := by decide +kernel
theorem dX0_pack_91 : decode cX0_pack 91 = .ok (.ireturn, 1) := by decide +kernel
theorem dX0_findMatch_0 : decode cX0_findMatch 0 = .ok (.aload_n 0, 1) := by decide +kernel
theorem dX0_findMatch_1 : decode cX0_findMatch 1 = .ok (.iconst 0, 1) := by decide +kernel
theorem dX0_findMatch_2 : decode cX0_findMatch 2 = .ok (.putfield 23, 3) := by decide +kernel
theorem dX0_findMatch_5 : decode cX0_findMatch 5 = .ok (.iload_n 2, 1) := by decide +kernel
theorem dX0_findMatch_6 : decode cX0_findMatch 6 = .ok (.iconst 1, 1) := by decide +kernel
theorem dX0_findMatch_7 : decode cX0_findMatch 7 = .ok (.isub, 1) := by decide +kernel
theorem dX0_findMatch_8 : decode cX0_findMatch 8 = .ok (.istore_n 3, 1) := by decide +kernel
theorem dX0_findMatch_9 : decode cX0_findMatch 9 = .ok (.iload_n 3, 1) := by decide +kernel
theorem dX0_findMatch_10 : decode cX0_findMatch 10 = .ok (.ifCond .lt 37, 3) := by decide +kernel
theorem dX0_findMatch_13 : decode cX0_findMatch 13 = .ok (.aload_n 1, 1) := by decide +kernel
theorem dX0_findMatch_14 : decode cX0_findMatch 14 = .ok (.iload_n 3, 1) := by decide +kernel
theorem dX0_findMatch_15 : decode cX0_findMatch 15 = .ok (.iload_n 2, 1) := by decide +kernel
theorem dX0_findMatch_16 : decode cX0_findMatch 16 = .ok (.invokestatic 37, 3) := by decide +kernel
theorem dX0_findMatch_19 : decode cX0_findMatch 19 = .ok (.istore 4, 2) := by decide +kernel
theorem dX0_findMatch_21 : decode cX0_findMatch 21 = .ok (.iload 4, 2) := by decide +kernel
theorem dX0_findMatch_23 : decode cX0_findMatch 23 = .ok (.aload_n 0, 1) := by decide +kernel
theorem dX0_findMatch_24 : decode cX0_findMatch 24 = .ok (.getfield 23, 3) := by decide +kernel
theorem dX0_findMatch_27 : decode cX0_findMatch 27 = .ok (.if_icmp .le 14, 3) := by decide +kernel
theorem dX0_findMatch_30 : decode cX0_findMatch 30 = .ok (.aload_n 0, 1) := by decide +kernel
theorem dX0_findMatch_31 : decode cX0_findMatch 31 = .ok (.iload 4, 2) := by decide +kernel
theorem dX0_findMatch_33 : decode cX0_findMatch 33 = .ok (.putfield 23, 3) := by decide +kernel
theorem dX0_findMatch_36 : decode cX0_findMatch 36 = .ok (.aload_n 0, 1) := by decide +kernel
theorem dX0_findMatch_37 : decode cX0_findMatch 37 = .ok (.iload_n 3, 1) := by decide +kernel
theorem dX0_findMatch_38 : decode cX0_findMatch 38 = .ok (.putfield 30, 3) := by decide +kernel
theorem dX0_findMatch_41 : decode cX0_findMatch 41 = .ok (.iinc 3 (-1), 3) := by decide +kernel
theorem dX0_findMatch_44 : decode cX0_findMatch 44 = .ok (.goto (-35), 3) := by decide +kernel
theorem dX0_findMatch_47 : decode cX0_findMatch 47 = .ok (.return_, 1) := by decide +kernel
theorem dX0_sameLength_0 : decode cX0_sameLength 0 = .ok (.iconst 0, 1) := by decide +kernel
theorem dX0_sameLength_1 : decode cX0_sameLength 1 = .ok (.istore_n 3, 1) := by decide +kernel
theorem dX0_sameLength_2 : decode cX0_sameLength 2 = .ok (.iload_n 2, 1) := by decide +kernel
theorem dX0_sameLength_3 : decode cX0_sameLength 3 = .ok (.iload_n 3, 1) := by decide +kernel
theorem dX0_sameLength_4 : decode cX0_sameLength 4 = .ok (.iadd, 1) := by decide +kernel
theorem dX0_sameLength_5 : decode cX0_sameLength 5 = .ok (.sipush 251, 3) := by decide +kernel
theorem dX0_sameLength_8 : decode cX0_sameLength 8 = .ok (.if_icmp .ge 22, 3) := by decide +kernel
theorem dX0_sameLength_11 : decode cX0_sameLength 11 = .ok (.aload_n 0, 1) := by decide +kernel
theorem dX0_sameLength_12 : decode cX0_sameLength 12 = .ok (.iload_n 1, 1) := by decide +kernel
theorem dX0_sameLength_13 : decode cX0_sameLength 13 = .ok (.iload_n 3, 1) := by decide +kernel
theorem dX0_sameLength_14 : decode cX0_sameLength 14 = .ok (.iadd, 1) := by decide +kernel
theorem dX0_sameLength_15 : decode cX0_sameLength 15 = .ok (.iaload, 1) := by decide +kernel
theorem dX0_sameLength_16 : decode cX0_sameLength 16 = .ok (.aload_n 0, 1) := by decide +kernel
theorem dX0_sameLength_17 : decode cX0_sameLength 17 = .ok (.iload_n 2, 1) := by decide +kernel
theorem dX0_sameLength_18 : decode cX0_sameLength 18 = .ok (.iload_n 3, 1) := by decide +kernel
theorem dX0_sameLength_19 : decode cX0_sameLength 19 = .ok (.iadd, 1) := by decide +kernel
theorem dX0_sameLength_20 : decode cX0_sameLength 20 = .ok (.iaload, 1) := by decide +kernel
theorem dX0_sameLength_21 : decode cX0_sameLength 21 = .ok (.if_icmp .ne 9, 3) := by decide +kernel
theorem dX0_sameLength_24 : decode cX0_sameLength 24 = .ok (.iinc 3 1, 3) := by decide +kernel
theorem dX0_sameLength_27 : decode cX0_sameLength 27 = .ok (.goto (-25), 3) := by decide +kernel
theorem dX0_sameLength_30 : decode cX0_sameLength 30 = .ok (.iload_n 3, 1) := by decide +kernel
theorem dX0_sameLength_31 : decode cX0_sameLength 31 = .ok (.ireturn, 1) := by decide +kernel
theorem dX0_putSequence_0 : decode cX0_putSequence 0 = .ok (.iload_n 3, 1) := by decide +kernel
theorem dX0_putSequence_1 : decode cX0_putSequence 1 = .ok (.iload_n 2, 1) := by decide +kernel
theorem dX0_putSequence_2 : decode cX0_putSequence 2 = .ok (.isub, 1) := by decide +kernel
theorem dX0_putSequence_3 : decode cX0_putSequence 3 = .ok (.istore 5, 2) := by decide +kernel
theorem dX0_putSequence_5 : decode cX0_putSequence 5 = .ok (.aload_n 0, 1) := by decide +kernel
theorem dX0_putSequence_6 : decode cX0_putSequence 6 = .ok (.iload 5, 2) := by decide +kernel
theorem dX0_putSequence_8 : decode cX0_putSequence 8 = .ok (.bipush 15, 2) := by decide +kernel
theorem dX0_putSequence_10 : decode cX0_putSequence 10 = .ok (.invokestatic 41, 3) := by decide +kernel
theorem dX0_putSequence_13 : decode cX0_putSequence 13 = .ok (.bipush 16, 2) := by decide +kernel
theorem dX0_putSequence_15 : decode cX0_putSequence 15 = .ok (.imul, 1) := by decide +kernel
theorem dX0_putSequence_16 : decode cX0_putSequence 16 = .ok (.iload 4, 2) := by decide +kernel
theorem dX0_putSequence_18 : decode cX0_putSequence 18 = .ok (.bipush 15, 2) := by decide +kernel
theorem dX0_putSequence_20 : decode cX0_putSequence 20 = .ok (.invokestatic 41, 3) := by decide +kernel
theorem dX0_putSequence_23 : decode cX0_putSequence 23 = .ok (.iadd, 1) := by decide +kernel
theorem dX0_putSequence_24 : decode cX0_putSequence 24 = .ok (.invokevirtual 47, 3) := by decide +kernel
theorem dX0_putSequence_27 : decode cX0_putSequence 27 = .ok (.aload_n 0, 1) := by decide +kernel
theorem dX0_putSequence_28 : decode cX0_putSequence 28 = .ok (.iload 5, 2) := by decide +kernel
theorem dX0_putSequence_30 : decode cX0_putSequence 30 = .ok (.invokevirtual 51, 3) := by decide +kernel
theorem dX0_putSequence_33 : decode cX0_putSequence 33 = .ok (.iload_n 2, 1) := by decide +kernel
theorem dX0_putSequence_34 : decode cX0_putSequence 34 = .ok (.istore 6, 2) := by decide +kernel
theorem dX0_putSequence_36 : decode cX0_putSequence 36 = .ok (.iload 6, 2) := by decide +kernel
theorem dX0_putSequence_38 : decode cX0_putSequence 38 = .ok (.iload_n 3, 1) := by decide +kernel
theorem dX0_putSequence_39 : decode cX0_putSequence 39 = .ok (.if_icmp .ge 17, 3) := by decide +kernel
theorem dX0_putSequence_42 : decode cX0_putSequence 42 = .ok (.aload_n 0, 1) := by decide +kernel
theorem dX0_putSequence_43 : decode cX0_putSequence 43 = .ok (.aload_n 1, 1) := by decide +kernel
theorem dX0_putSequence_44 : decode cX0_putSequence 44 = .ok (.iload 6, 2) := by decide +kernel
theorem dX0_putSequence_46 : decode cX0_putSequence 46 = .ok (.iaload, 1) := by decide +kernel
theorem dX0_putSequence_47 : decode cX0_putSequence 47 = .ok (.invokevirtual 47, 3) := by decide +kernel
theorem dX0_putSequence_50 : decode cX0_putSequence 50 = .ok (.iinc 6 1, 3) := by decide +kernel
theorem dX0_putSequence_53 : decode cX0_putSequence 53 = .ok (.goto (-17), 3) := by decide +kernel
theorem dX0_putSequence_56 : decode cX0_putSequence 56 = .ok (.return_, 1) := by decide +kernel
theorem dX0_putMatch_0 : decode cX0_putMatch 0 = .ok (.aload_n 0, 1) := by decide +kernel
theorem dX0_putMatch_1 : decode cX0_putMatch 1 = .ok (.iload_n 1, 1) := by decide +kernel
theorem dX0_putMatch_2 : decode cX0_putMatch 2 = .ok (.sipush 256, 3) := by decide +kernel
theorem dX0_putMatch_5 : decode cX0_putMatch 5 = .ok (.irem, 1) := by decide +kernel
theorem dX0_putMatch_6 : decode cX0_putMatch 6 = .ok (.invokevirtual 47, 3) := by decide +kernel
theorem dX0_putMatch_9 : decode cX0_putMatch 9 = .ok (.aload_n 0, 1) := by decide +kernel
theorem dX0_putMatch_10 : decode cX0_putMatch 10 = .ok (.iload_n 1, 1) := by decide +kernel
theorem dX0_putMatch_11 : decode cX0_putMatch 11 = .ok (.sipush 256, 3) := by decide +kernel
theorem dX0_putMatch_14 : decode cX0_putMatch 14 = .ok (.idiv, 1) := by decide +kernel
theorem dX0_putMatch_15 : decode cX0_putMatch 15 = .ok (.invokevirtual 47, 3) := by decide +kernel
theorem dX0_putMatch_18 : decode cX0_putMatch 18 = .ok (.aload_n 0, 1) := by decide +kernel
theorem dX0_putMatch_19 : decode cX0_putMatch 19 = .ok (.iload_n 2, 1) := by decide +kernel
theorem dX0_putMatch_20 : decode cX0_putMatch 20 = .ok (.invokevirtual 51, 3) := by decide +kernel
theorem dX0_putMatch_23 : decode cX0_putMatch 23 = .ok (.return_, 1) := by decide +kernel
theorem dX0_putRest_0 : decode cX0_putRest 0 = .ok (.iload_n 1, 1) := by decide +kernel
theorem dX0_putRest_1 : decode cX0_putRest 1 = .ok (.bipush 15, 2) := by decide +kernel
theorem dX0_putRest_3 : decode cX0_putRest 3 = .ok (.if_icmp .lt 11, 3) := by decide +kernel
theorem dX0_putRest_6 : decode cX0_putRest 6 = .ok (.aload_n 0, 1) := by decide +kernel
theorem dX0_putRest_7 : decode cX0_putRest 7 = .ok (.iload_n 1, 1) := by decide +kernel
theorem dX0_putRest_8 : decode cX0_putRest 8 = .ok (.bipush 15, 2) := by decide +kernel
theorem dX0_putRest_10 : decode cX0_putRest 10 = .ok (.isub, 1) := by decide +kernel
theorem dX0_putRest_11 : decode cX0_putRest 11 = .ok (.invokevirtual 47, 3) := by decide +kernel
theorem dX0_putRest_14 : decode cX0_putRest 14 = .ok (.return_, 1) := by decide +kernel
theorem dX0_put_0 : decode cX0_put 0 = .ok (.aload_n 0, 1) := by decide +kernel
theorem dX0_put_1 : decode cX0_put 1 = .ok (.getfield 15, 3) := by decide +kernel
theorem dX0_put_4 : decode cX0_put 4 = .ok (.aload_n 0, 1) := by decide +kernel
theorem dX0_put_5 : decode cX0_put 5 = .ok (.getfield 11, 3) := by decide +kernel
theorem dX0_put_8 : decode cX0_put 8 = .ok (.arraylength, 1) := by decide +kernel
theorem dX0_put_9 : decode cX0_put 9 = .ok (.if_icmp .ge 23, 3) := by decide +kernel
theorem dX0_put_12 : decode cX0_put 12 = .ok (.aload_n 0, 1) := by decide +kernel
theorem dX0_put_13 : decode cX0_put 13 = .ok (.getfield 11, 3) := by decide +kernel
theorem dX0_put_16 : decode cX0_put 16 = .ok (.aload_n 0, 1) := by decide +kernel
theorem dX0_put_17 : decode cX0_put 17 = .ok (.getfield 15, 3) := by decide +kernel
theorem dX0_put_20 : decode cX0_put 20 = .ok (.iload_n 1, 1) := by decide +kernel
theorem dX0_put_21 : decode cX0_put 21 = .ok (.iastore, 1) := by decide +kernel
theorem dX0_put_22 : decode cX0_put 22 = .ok (.aload_n 0, 1) := by decide +kernel
theorem dX0_put_23 : decode cX0_put 23 = .ok (.dup, 1) := by decide +kernel
theorem dX0_put_24 : decode cX0_put 24 = .ok (.getfield 15, 3) := by decide +kernel
theorem dX0_put_27 : decode cX0_put 27 = .ok (.iconst 1, 1) := by decide +kernel
theorem dX0_put_28 : decode cX0_put 28 = .ok (.iadd, 1) := by decide +kernel
theorem dX0_put_29 : decode cX0_put 29 = .ok (.putfield 15, 3) := by decide +kernel
theorem dX0_put_32 : decode cX0_put 32 = .ok (.return_, 1) := by decide +kernel
theorem dX1_init_0 : decode cX1_init 0 = .ok (.aload_n 0, 1) := by decide +kernel
theorem dX1_init_1 : decode cX1_init 1 = .ok (.invokespecial 3, 3) := by decide +kernel
theorem dX1_init_4 : decode cX1_init 4 = .ok (.aload_n 0, 1) := by decide +kernel
theorem dX1_init_5 : decode cX1_init 5 = .ok (.sipush 256, 3) := by decide +kernel
theorem dX1_init_8 : decode cX1_init 8 = .ok (.newarray .int, 2) := by decide +kernel
theorem dX1_init_10 : decode cX1_init 10 = .ok (.putfield 9, 3) := by decide +kernel
theorem dX1_init_13 : decode cX1_init 13 = .ok (.aload_n 0, 1) := by decide +kernel
theorem dX1_init_14 : decode cX1_init 14 = .ok (.iconst (-1), 1) := by decide +kernel
theorem dX1_init_15 : decode cX1_init 15 = .ok (.putfield 15, 3) := by decide +kernel
theorem dX1_init_18 : decode cX1_init 18 = .ok (.aload_n 0, 1) := by decide +kernel
theorem dX1_init_19 : decode cX1_init 19 = .ok (.iconst 0, 1) := by decide +kernel
theorem dX1_init_20 : decode cX1_init 20 = .ok (.putfield 19, 3) := by decide +kernel
theorem dX1_init_23 : decode cX1_init 23 = .ok (.aload_n 0, 1) := by decide +kernel
theorem dX1_init_24 : decode cX1_init 24 = .ok (.aload_n 0, 1) := by decide +kernel
theorem dX1_init_25 : decode cX1_init 25 = .ok (.getfield 9, 3) := by decide +kernel
theorem dX1_init_28 : decode cX1_init 28 = .ok (.putfield 22, 3) := by decide +kernel
theorem dX1_init_31 : decode cX1_init 31 = .ok (.aload_n 0, 1) := by decide +kernel
theorem dX1_init_32 : decode cX1_init 32 = .ok (.iconst 0, 1) := by decide +kernel
theorem dX1_init_33 : decode cX1_init 33 = .ok (.putfield 25, 3) := by decide +kernel
theorem dX1_init_36 : decode cX1_init 36 = .ok (.aload_n 0, 1) := by decide +kernel
theorem dX1_init_37 : decode cX1_init 37 = .ok (.iconst 0, 1) := by decide +kernel
theorem dX1_init_38 : decode cX1_init 38 = .ok (.putfield 28, 3) := by decide +kernel
theorem dX1_init_41 : decode cX1_init 41 = .ok (.aload_n 0, 1) := by decide +kernel
theorem dX1_init_42 : decode cX1_init 42 = .ok (.iconst 0, 1) := by decide +kernel
theorem dX1_init_43 : decode cX1_init 43 = .ok (.putfield 31, 3) := by decide +kernel
theorem dX1_init_46 : decode cX1_init 46 = .ok (.aload_n 0, 1) := by decide +kernel
theorem dX1_init_47 : decode cX1_init 47 = .ok (.iconst 0, 1) := by decide +kernel
theorem dX1_init_48 : decode cX1_init 48 = .ok (.putfield 34, 3) := by decide +kernel
theorem dX1_init_51 : decode cX1_init 51 = .ok (.return_, 1) := by decide +kernel
theorem dX1_unpack_0 : decode cX1_unpack 0 = .ok (.aload_n 0, 1) := by decide +kernel
theorem dX1_unpack_1 : decode cX1_unpack 1 = .ok (.aload_n 1, 1) := by decide +kernel
theorem dX1_unpack_2 : decode cX1_unpack 2 = .ok (.putfield 22, 3) := by decide +kernel
theorem dX1_unpack_5 : decode cX1_unpack 5 = .ok (.aload_n 0, 1) := by decide +kernel
theorem dX1_unpack_6 : decode cX1_unpack 6 = .ok (.iload_n 2, 1) := by decide +kernel
theorem dX1_unpack_7 : decode cX1_unpack 7 = .ok (.putfield 25, 3) := by decide +kernel
theorem dX1_unpack_10 : decode cX1_unpack 10 = .ok (.aload_n 0, 1) := by decide +kernel
theorem dX1_unpack_11 : decode cX1_unpack 11 = .ok (.iload_n 3, 1) := by decide +kernel
theorem dX1_unpack_12 : decode cX1_unpack 12 = .ok (.putfield 28, 3) := by decide +kernel
theorem dX1_unpack_15 : decode cX1_unpack 15 = .ok (.aload_n 0, 1) := by decide +kernel
theorem dX1_unpack_16 : decode cX1_unpack 16 = .ok (.iconst 0, 1) := by decide +kernel
theorem dX1_unpack_17 : decode cX1_unpack 17 = .ok (.putfield 31, 3) := by decide +kernel
theorem dX1_unpack_20 : decode cX1_unpack 20 = .ok (.aload_n 0, 1) := by decide +kernel
theorem dX1_unpack_21 : decode cX1_unpack 21 = .ok (.iconst 0, 1) := by decide +kernel
theorem dX1_unpack_22 : decode cX1_unpack 22 = .ok (.putfield 34, 3) := by decide +kernel
theorem dX1_unpack_25 : decode cX1_unpack 25 = .ok (.aload_n 0, 1) := by decide +kernel
theorem dX1_unpack_26 : decode cX1_unpack 26 = .ok (.iconst 0, 1) := by decide +kernel
theorem dX1_unpack_27 : decode cX1_unpack 27 = .ok (.putfield 19, 3) := by decide +kernel
theorem dX1_unpack_30 : decode cX1_unpack 30 = .ok (.aload_n 0, 1) := by decide +kernel
theorem dX1_unpack_31 : decode cX1_unpack 31 = .ok (.iconst (-1), 1) := by decide +kernel
theorem dX1_unpack_32 : decode cX1_unpack 32 = .ok (.putfield 15, 3) := by decide +kernel
theorem dX1_unpack_35 : decode cX1_unpack 35 = .ok (.iconst 1, 1) := by decide +kernel
theorem dX1_unpack_36 : decode cX1_unpack 36 = .ok (.istore 4, 2) := by decide +kernel
theorem dX1_unpack_38 : decode cX1_unpack 38 = .ok (.iconst 0, 1) := by decide +kernel
theorem dX1_unpack_39 : decode cX1_unpack 39 = .ok (.istore 5, 2) := by decide +kernel
theorem dX1_unpack_41 : decode cX1_unpack 41 = .ok (.iload 5, 2) := by decide +kernel
theorem dX1_unpack_43 : decode cX1_unpack 43 = .ok (.aload_n 0, 1) := by decide +kernel
theorem dX1_unpack_44 : decode cX1_unpack 44 = .ok (.getfield 28, 3) := by decide +kernel
theorem dX1_unpack_47 : decode cX1_unpack 47 = .ok (.if_icmp .gt 20, 3) := by decide +kernel
theorem dX1_unpack_50 : decode cX1_unpack 50 = .ok (.iload 4, 2) := by decide +kernel
theorem dX1_unpack_52 : decode cX1_unpack 52 = .ok (.ifCond .eq 15, 3) := by decide +kernel
theorem dX1_unpack_55 : decode cX1_unpack 55 = .ok (.aload_n 0, 1) := by decide +kernel
theorem dX1_unpack_56 : decode cX1_unpack 56 = .ok (.invokevirtual 37, 3) := by decide +kernel
theorem dX1_unpack_59 : decode cX1_unpack 59 = .ok (.istore 4, 2) := by decide +kernel
theorem dX1_unpack_61 : decode cX1_unpack 61 = .ok (.iinc 5 1, 3) := by decide +kernel
theorem dX1_unpack_64 : decode cX1_unpack 64 = .ok (.goto (-23), 3) := by decide +kernel
theorem dX1_unpack_67 : decode cX1_unpack 67 = .ok (.aload_n 0, 1) := by decide +kernel
theorem dX1_unpack_68 : decode cX1_unpack 68 = .ok (.getfield 19, 3) := by decide +kernel
theorem dX1_unpack_71 : decode cX1_unpack 71 = .ok (.ifCond .ne 10, 3) := by decide +kernel
theorem dX1_unpack_74 : decode cX1_unpack 74 = .ok (.aload_n 0, 1) := by decide +kernel
theorem dX1_unpack_75 : decode cX1_unpack 75 = .ok (.getfield 34, 3) := by decide +kernel
theorem dX1_unpack_78 : decode cX1_unpack 78 = .ok (.goto 8, 3) := by decide +kernel
theorem dX1_unpack_81 : decode cX1_unpack 81 = .ok (.aload_n 0, 1) := by decide +kernel
theorem dX1_unpack_82 : decode cX1_unpack 82 = .ok (.getfield 19, 3) := by decide +kernel
theorem dX1_unpack_85 : decode cX1_unpack 85 = .ok (.ineg, 1) := by decide +kernel
theorem dX1_unpack_86 : decode cX1_unpack 86 = .ok (.ireturn, 1) := by decide +kernel
theorem dX1_readSequence_0 : decode cX1_readSequence 0 = .ok (.aload_n 0, 1) := by decide +kernel
theorem dX1_readSequence_1 : decode cX1_readSequence 1 = .ok (.getfield 31, 3) := by decide +kernel
theorem dX1_readSequence_4 : decode cX1_readSequence 4 = .ok (.istore_n 1, 1) := by decide +kernel
theorem dX1_readSequence_5 : decode cX1_readSequence 5 = .ok (.aload_n 0, 1) := by decide +kernel
theorem dX1_readSequence_6 : decode cX1_readSequence 6 = .ok (.invokevirtual 41, 3) := by decide +kernel
theorem dX1_readSequence_9 : decode cX1_readSequence 9 = .ok (.istore_n 2, 1) := by decide +kernel
theorem dX1_readSequence_10 : decode cX1_readSequence 10 = .ok (.aload_n 0, 1) := by decide +kernel
theorem dX1_readSequence_11 : decode cX1_readSequence 11 = .ok (.iload_n 2, 1) := by decide +kernel
theorem dX1_readSequence_12 : decode cX1_readSequence 12 = .ok (.bipush 16, 2) := by decide +kernel
theorem dX1_readSequence_14 : decode cX1_readSequence 14 = .ok (.idiv, 1) := by decide +kernel
theorem dX1_readSequence_15 : decode cX1_readSequence 15 = .ok (.iload_n 1, 1) := by decide +kernel
theorem dX1_readSequence_16 : decode cX1_readSequence 16 = .ok (.invokevirtual 45, 3) := by decide +kernel
theorem dX1_readSequence_19 : decode cX1_readSequence 19 = .ok (.aload_n 0, 1) := by decide +kernel
theorem dX1_readSequence_20 : decode cX1_readSequence 20 = .ok (.getfield 19, 3) := by decide +kernel
theorem dX1_readSequence_23 : decode cX1_readSequence 23 = .ok (.ifCond .ne 14, 3) := by decide +kernel
theorem dX1_readSequence_26 : decode cX1_readSequence 26 = .ok (.aload_n 0, 1) := by decide +kernel
theorem dX1_readSequence_27 : decode cX1_readSequence 27 = .ok (.getfield 31, 3) := by decide +kernel
theorem dX1_readSequence_30 : decode cX1_readSequence 30 = .ok (.aload_n 0, 1) := by decide +kernel
theorem dX1_readSequence_31 : decode cX1_readSequence 31 = .ok (.getfield 28, 3) := by decide +kernel
theorem dX1_readSequence_34 : decode cX1_readSequence 34 = .ok (.if_icmp .lt 5, 3) := by decide +kernel
theorem dX1_readSequence_37 : decode cX1_readSequence 37 = .ok (.iconst 0, 1) := by decide +kernel
theorem dX1_readSequence_38 : decode cX1_readSequence 38 = .ok (.ireturn, 1) := by decide +kernel
theorem dX1_readSequence_39 : decode cX1_readSequence 39 = .ok (.aload_n 0, 1) := by decide +kernel
theorem dX1_readSequence_40 : decode cX1_readSequence 40 = .ok (.iload_n 2, 1) := by decide +kernel
theorem dX1_readSequence_41 : decode cX1_readSequence 41 = .ok (.bipush 16, 2) := by decide +kernel
theorem dX1_readSequence_43 : decode cX1_readSequence 43 = .ok (.irem, 1) := by decide +kernel
theorem dX1_readSequence_44 : decode cX1_readSequence 44 = .ok (.iload_n 1, 1) := by decide +kernel
theorem dX1_readSequence_45 : decode cX1_readSequence 45 = .ok (.invokevirtual 49, 3) := by decide +kernel
theorem dX1_readSequence_48 : decode cX1_readSequence 48 = .ok (.aload_n 0, 1) := by decide +kernel
theorem dX1_readSequence_49 : decode cX1_readSequence 49 = .ok (.getfield 19, 3) := by decide +kernel
theorem dX1_readSequence_52 : decode cX1_readSequence 52 = .ok (.ifCond .ne 7, 3) := by decide +kernel
theorem dX1_readSequence_55 : decode cX1_readSequence 55 = .ok (.iconst 1, 1) := by decide +kernel
theorem dX1_readSequence_56 : decode cX1_readSequence 56 = .ok (.goto 4, 3) := by decide +kernel
theorem dX1_readSequence_59 : decode cX1_readSequence 59 = .ok (.iconst 0, 1) := by decide +kernel
theorem dX1_readSequence_60 : decode cX1_readSequence 60 = .ok (.ireturn, 1) := by decide +kernel
theorem dX1_readLiterals_0 : decode cX1_readLiterals 0 = .ok (.aload_n 0, 1) := by decide +kernel
theorem dX1_readLiterals_1 : decode cX1_readLiterals 1 = .ok (.iload_n 1, 1) := by decide +kernel
theorem dX1_readLiterals_2 : decode cX1_readLiterals 2 = .ok (.invokevirtual 52, 3) := by decide +kernel
theorem dX1_readLiterals_5 : decode cX1_readLiterals 5 = .ok (.istore_n 3, 1) := by decide +kernel
theorem dX1_readLiterals_6 : decode cX1_readLiterals 6 = .ok (.aload_n 0, 1) := by decide +kernel
theorem dX1_readLiterals_7 : decode cX1_readLiterals 7 = .ok (.getfield 19, 3) := by decide +kernel
theorem dX1_readLiterals_10 : decode cX1_readLiterals 10 = .ok (.ifCond .eq 4, 3) := by decide +kernel
theorem dX1_readLiterals_13 : decode cX1_readLiterals 13 = .ok (.return_, 1) := by decide +kernel
theorem dX1_readLiterals_14 : decode cX1_readLiterals 14 = .ok (.iload_n 3, 1) := by decide +kernel
theorem dX1_readLiterals_15 : decode cX1_readLiterals 15 = .ok (.sipush 256, 3) := by decide +kernel
theorem dX1_readLiterals_18 : decode cX1_readLiterals 18 = .ok (.aload_n 0, 1) := by decide +kernel
theorem dX1_readLiterals_19 : decode cX1_readLiterals 19 = .ok (.getfield 34, 3) := by decide +kernel
theorem dX1_readLiterals_22 : decode cX1_readLiterals 22 = .ok (.isub, 1) := by decide +kernel
theorem dX1_readLiterals_23 : decode cX1_readLiterals 23 = .ok (.if_icmp .le 12, 3) := by decide +kernel
theorem dX1_readLiterals_26 : decode cX1_readLiterals 26 = .ok (.aload_n 0, 1) := by decide +kernel
theorem dX1_readLiterals_27 : decode cX1_readLiterals 27 = .ok (.iconst 3, 1) := by decide +kernel
theorem dX1_readLiterals_28 : decode cX1_readLiterals 28 = .ok (.iload_n 2, 1) := by decide +kernel
theorem dX1_readLiterals_29 : decode cX1_readLiterals 29 = .ok (.invokevirtual 56, 3) := by decide +kernel
theorem dX1_readLiterals_32 : decode cX1_readLiterals 32 = .ok (.goto 51, 3) := by decide +kernel
theorem dX1_readLiterals_35 : decode cX1_readLiterals 35 = .ok (.iload_n 3, 1) := by decide +kernel
theorem dX1_readLiterals_36 : decode cX1_readLiterals 36 = .ok (.aload_n 0, 1) := by decide +kernel
theorem dX1_readLiterals_37 : decode cX1_readLiterals 37 = .ok (.getfield 28, 3) := by decide +kernel
theorem dX1_readLiterals_40 : decode cX1_readLiterals 40 = .ok (.aload_n 0, 1) := by decide +kernel
theorem dX1_readLiterals_41 : decode cX1_readLiterals 41 = .ok (.getfield 31, 3) := by decide +kernel
theorem dX1_readLiterals_44 : decode cX1_readLiterals 44 = .ok (.isub, 1) := by decide +kernel
theorem dX1_readLiterals_45 : decode cX1_readLiterals 45 = .ok (.if_icmp .le 15, 3) := by decide +kernel
theorem dX1_readLiterals_48 : decode cX1_readLiterals 48 = .ok (.aload_n 0, 1) := by decide +kernel
theorem dX1_readLiterals_49 : decode cX1_readLiterals 49 = .ok (.iconst 1, 1) := by decide +kernel
theorem dX1_readLiterals_50 : decode cX1_readLiterals 50 = .ok (.aload_n 0, 1) := by decide +kernel
theorem dX1_readLiterals_51 : decode cX1_readLiterals 51 = .ok (.getfield 28, 3) := by decide +kernel
theorem dX1_readLiterals_54 : decode cX1_readLiterals 54 = .ok (.invokevirtual 56, 3) := by decide +kernel
theorem dX1_readLiterals_57 : decode cX1_readLiterals 57 = .ok (.goto 26, 3) := by decide +kernel
theorem dX1_readLiterals_60 : decode cX1_readLiterals 60 = .ok (.iconst 0, 1) := by decide +kernel
theorem dX1_readLiterals_61 : decode cX1_readLiterals 61 = .ok (.istore 4, 2) := by decide +kernel
theorem dX1_readLiterals_63 : decode cX1_readLiterals 63 = .ok (.iload 4, 2) := by decide +kernel
theorem dX1_readLiterals_65 : decode cX1_readLiterals 65 = .ok (.iload_n 3, 1) := by decide +kernel
theorem dX1_readLiterals_66 : decode cX1_readLiterals 66 = .ok (.if_icmp .ge 17, 3) := by decide +kernel
theorem dX1_readLiterals_69 : decode cX1_readLiterals 69 = .ok (.aload_n 0, 1) := by decide +kernel
theorem dX1_readLiterals_70 : decode cX1_readLiterals 70 = .ok (.aload_n 0, 1) := by decide +kernel
theorem dX1_readLiterals_71 : decode cX1_readLiterals 71 = .ok (.invokevirtual 41, 3) := by decide +kernel
theorem dX1_readLiterals_74 : decode cX1_readLiterals 74 = .ok (.invokevirtual 59, 3) := by decide +kernel
theorem dX1_readLiterals_77 : decode cX1_readLiterals 77 = .ok (.iinc 4 1, 3) := by decide +kernel
theorem dX1_readLiterals_80 : decode cX1_readLiterals 80 = .ok (.goto (-17), 3) := by decide +kernel
theorem dX1_readLiterals_83 : decode cX1_readLiterals 83 = .ok (.return_, 1) := by decide +kernel
theorem dX1_readMatch_0 : decode cX1_readMatch 0 = .ok (.aload_n 0, 1) := by decide +kernel
theorem dX1_readMatch_1 : decode cX1_readMatch 1 = .ok (.getfield 31, 3) := by decide +kernel
theorem dX1_readMatch_4 : decode cX1_readMatch 4 = .ok (.istore_n 3, 1) := by decide +kernel
theorem dX1_readMatch_5 : decode cX1_readMatch 5 = .ok (.aload_n 0, 1) := by decide +kernel
theorem dX1_readMatch_6 : decode cX1_readMatch 6 = .ok (.invokevirtual 41, 3) := by decide +kernel
theorem dX1_readMatch_9 : decode cX1_readMatch 9 = .ok (.sipush 256, 3) := by decide +kernel
theorem dX1_readMatch_12 : decode cX1_readMatch 12 = .ok (.aload_n 0, 1) := by decide +kernel
theorem dX1_readMatch_13 : decode cX1_readMatch 13 = .ok (.invokevirtual 41, 3) := by decide +kernel
theorem dX1_readMatch_16 : decode cX1_readMatch 16 = .ok (.imul, 1) := by decide +kernel
theorem dX1_readMatch_17 : decode cX1_readMatch 17 = .ok (.iadd, 1) := by decide +kernel
theorem dX1_readMatch_18 : decode cX1_readMatch 18 = .ok (.istore 4, 2) := by decide +kernel
theorem dX1_readMatch_20 : decode cX1_readMatch 20 = .ok (.aload_n 0, 1) := by decide +kernel
theorem dX1_readMatch_21 : decode cX1_readMatch 21 = .ok (.getfield 19, 3) := by decide +kernel
theorem dX1_readMatch_24 : decode cX1_readMatch 24 = .ok (.ifCond .ne 23, 3) := by decide +kernel
theorem dX1_readMatch_27 : decode cX1_readMatch 27 = .ok (.iload 4, 2) := by decide +kernel
theorem dX1_readMatch_29 : decode cX1_readMatch 29 = .ok (.ifCond .eq 12, 3) := by decide +kernel
theorem dX1_readMatch_32 : decode cX1_readMatch 32 = .ok (.iload 4, 2) := by decide +kernel
theorem dX1_readMatch_34 : decode cX1_readMatch 34 = .ok (.aload_n 0, 1) := by decide +kernel
theorem dX1_readMatch_35 : decode cX1_readMatch 35 = .ok (.getfield 34, 3) := by decide +kernel
theorem dX1_readMatch_38 : decode cX1_readMatch 38 = .ok (.if_icmp .le 9, 3) := by decide +kernel
theorem dX1_readMatch_41 : decode cX1_readMatch 41 = .ok (.aload_n 0, 1) := by decide +kernel
theorem dX1_readMatch_42 : decode cX1_readMatch 42 = .ok (.iconst 2, 1) := by decide +kernel
theorem dX1_readMatch_43 : decode cX1_readMatch 43 = .ok (.iload_n 3, 1) := by decide +kernel
theorem dX1_readMatch_44 : decode cX1_readMatch 44 = .ok (.invokevirtual 56, 3) := by decide +kernel
theorem dX1_readMatch_47 : decode cX1_readMatch 47 = .ok (.iconst 4, 1) := by decide +kernel
theorem dX1_readMatch_48 : decode cX1_readMatch 48 = .ok (.aload_n 0, 1) := by decide +kernel
theorem dX1_readMatch_49 : decode cX1_readMatch 49 = .ok (.iload_n 1, 1) := by decide +kernel
theorem dX1_readMatch_50 : decode cX1_readMatch 50 = .ok (.invokevirtual 52, 3) := by decide +kernel
theorem dX1_readMatch_53 : decode cX1_readMatch 53 = .ok (.iadd, 1) := by decide +kernel
theorem dX1_readMatch_54 : decode cX1_readMatch 54 = .ok (.istore 5, 2) := by decide +kernel
theorem dX1_readMatch_56 : decode cX1_readMatch 56 = .ok (.aload_n 0, 1) := by decide +kernel
theorem dX1_readMatch_57 : decode cX1_readMatch 57 = .ok (.getfield 19, 3) := by decide +kernel
theorem dX1_readMatch_60 : decode cX1_readMatch 60 = .ok (.ifCond .ne 22, 3) := by decide +kernel
theorem dX1_readMatch_63 : decode cX1_readMatch 63 = .ok (.iload 5, 2) := by decide +kernel
theorem dX1_readMatch_65 : decode cX1_readMatch 65 = .ok (.sipush 256, 3) := by decide +kernel
theorem dX1_readMatch_68 : decode cX1_readMatch 68 = .ok (.aload_n 0, 1) := by decide +kernel
theorem dX1_readMatch_69 : decode cX1_readMatch 69 = .ok (.getfield 34, 3) := by decide +kernel
theorem dX1_readMatch_72 : decode cX1_readMatch 72 = .ok (.isub, 1) := by decide +kernel
theorem dX1_readMatch_73 : decode cX1_readMatch 73 = .ok (.if_icmp .le 9, 3) := by decide +kernel
theorem dX1_readMatch_76 : decode cX1_readMatch 76 = .ok (.aload_n 0, 1) := by decide +kernel
theorem dX1_readMatch_77 : decode cX1_readMatch 77 = .ok (.iconst 3, 1) := by decide +kernel
theorem dX1_readMatch_78 : decode cX1_readMatch 78 = .ok (.iload_n 2, 1) := by decide +kernel
theorem dX1_readMatch_79 : decode cX1_readMatch 79 = .ok (.invokevirtual 56, 3) := by decide +kernel
theorem dX1_readMatch_82 : decode cX1_readMatch 82 = .ok (.aload_n 0, 1) := by decide +kernel
theorem dX1_readMatch_83 : decode cX1_readMatch 83 = .ok (.getfield 19, 3) := by decide +kernel
theorem dX1_readMatch_86 : decode cX1_readMatch 86 = .ok (.ifCond .eq 4, 3) := by decide +kernel
theorem dX1_readMatch_89 : decode cX1_readMatch 89 = .ok (.return_, 1) := by decide +kernel
theorem dX1_readMatch_90 : decode cX1_readMatch 90 = .ok (.iconst 0, 1) := by decide +kernel
theorem dX1_readMatch_91 : decode cX1_readMatch 91 = .ok (.istore 6, 2) := by decide +kernel
theorem dX1_readMatch_93 : decode cX1_readMatch 93 = .ok (.iload 6, 2) := by decide +kernel
theorem dX1_readMatch_95 : decode cX1_readMatch 95 = .ok (.iload 5, 2) := by decide +kernel
theorem dX1_readMatch_97 : decode cX1_readMatch 97 = .ok (.if_icmp .ge 25, 3) := by decide +kernel
theorem dX1_readMatch_100 : decode cX1_readMatch 100 = .ok (.aload_n 0, 1) := by decide +kernel
theorem dX1_readMatch_101 : decode cX1_readMatch 101 = .ok (.aload_n 0, 1) := by decide +kernel
theorem dX1_readMatch_102 : decode cX1_readMatch 102 = .ok (.getfield 9, 3) := by decide +kernel
theorem dX1_readMatch_105 : decode cX1_readMatch 105 = .ok (.aload_n 0, 1) := by decide +kernel
theorem dX1_readMatch_106 : decode cX1_readMatch 106 = .ok (.getfield 34, 3) := by decide +kernel
theorem dX1_readMatch_109 : decode cX1_readMatch 109 = .ok (.iload 4, 2) := by decide +kernel
theorem dX1_readMatch_111 : decode cX1_readMatch 111 = .ok (.isub, 1) := by decide +kernel
theorem dX1_readMatch_112 : decode cX1_readMatch 112 = .ok (.iaload, 1) := by decide +kernel
theorem dX1_readMatch_113 : decode cX1_readMatch 113 = .ok (.invokevirtual 59, 3) := by decide +kernel
theorem dX1_readMatch_116 : decode cX1_readMatch 116 = .ok (.iinc 6 1, 3) := by decide +kernel
theorem dX1_readMatch_119 : decode cX1_readMatch 119 = .ok (.goto (-26), 3) := by decide +kernel
theorem dX1_readMatch_122 : decode cX1_readMatch 122 = .ok (.return_, 1) := by decide +kernel
theorem dX1_readNumber_0 : decode cX1_readNumber 0 = .ok (.iload_n 1, 1) := by decide +kernel
theorem dX1_readNumber_1 : decode cX1_readNumber 1 = .ok (.istore_n 2, 1) := by decide +kernel
theorem dX1_readNumber_2 : decode cX1_readNumber 2 = .ok (.iload_n 1, 1) := by decide +kernel
theorem dX1_readNumber_3 : decode cX1_readNumber 3 = .ok (.bipush 15, 2) := by decide +kernel
theorem dX1_readNumber_5 : decode cX1_readNumber 5 = .ok (.if_icmp .ne 7, 3) := by decide +kernel
theorem dX1_readNumber_8 : decode cX1_readNumber 8 = .ok (.iconst 1, 1) := by decide +kernel
theorem dX1_readNumber_9 : decode cX1_readNumber 9 = .ok (.goto 4, 3) := by decide +kernel
theorem dX1_readNumber_12 : decode cX1_readNumber 12 = .ok (.iconst 0, 1) := by decide +kernel
theorem dX1_readNumber_13 : decode cX1_readNumber 13 = .ok (.istore_n 3, 1) := by decide +kernel
theorem dX1_readNumber_14 : decode cX1_readNumber 14 = .ok (.iconst 0, 1) := by decide +kernel
theorem dX1_readNumber_15 : decode cX1_readNumber 15 = .ok (.istore 4, 2) := by decide +kernel
theorem dX1_readNumber_17 : decode cX1_readNumber 17 = .ok (.iload 4, 2) := by decide +kernel
theorem dX1_readNumber_19 : decode cX1_readNumber 19 = .ok (.aload_n 0, 1) := by decide +kernel
theorem dX1_readNumber_20 : decode cX1_readNumber 20 = .ok (.getfield 28, 3) := by decide +kernel
theorem dX1_readNumber_23 : decode cX1_readNumber 23 = .ok (.if_icmp .gt 38, 3) := by decide +kernel
theorem dX1_readNumber_26 : decode cX1_readNumber 26 = .ok (.iload_n 3, 1) := by decide +kernel
theorem dX1_readNumber_27 : decode cX1_readNumber 27 = .ok (.ifCond .eq 34, 3) := by decide +kernel
theorem dX1_readNumber_30 : decode cX1_readNumber 30 = .ok (.aload_n 0, 1) := by decide +kernel
theorem dX1_readNumber_31 : decode cX1_readNumber 31 = .ok (.invokevirtual 41, 3) := by decide +kernel
theorem dX1_readNumber_34 : decode cX1_readNumber 34 = .ok (.istore 5, 2) := by decide +kernel
theorem dX1_readNumber_36 : decode cX1_readNumber 36 = .ok (.iload_n 2, 1) := by decide +kernel
theorem dX1_readNumber_37 : decode cX1_readNumber 37 = .ok (.iload 5, 2) := by decide +kernel
theorem dX1_readNumber_39 : decode cX1_readNumber 39 = .ok (.iadd, 1) := by decide +kernel
theorem dX1_readNumber_40 : decode cX1_readNumber 40 = .ok (.istore_n 2, 1) := by decide +kernel
theorem dX1_readNumber_41 : decode cX1_readNumber 41 = .ok (.iload 5, 2) := by decide +kernel
theorem dX1_readNumber_43 : decode cX1_readNumber 43 = .ok (.sipush 255, 3) := by decide +kernel
theorem dX1_readNumber_46 : decode cX1_readNumber 46 = .ok (.if_icmp .ne 7, 3) := by decide +kernel
theorem dX1_readNumber_49 : decode cX1_readNumber 49 = .ok (.iconst 1, 1) := by decide +kernel
theorem dX1_readNumber_50 : decode cX1_readNumber 50 = .ok (.goto 4, 3) := by decide +kernel
theorem dX1_readNumber_53 : decode cX1_readNumber 53 = .ok (.iconst 0, 1) := by decide +kernel
theorem dX1_readNumber_54 : decode cX1_readNumber 54 = .ok (.istore_n 3, 1) := by decide +kernel
theorem dX1_readNumber_55 : decode cX1_readNumber 55 = .ok (.iinc 4 1, 3) := by decide +kernel
theorem dX1_readNumber_58 : decode cX1_readNumber 58 = .ok (.goto (-41), 3) := by decide +kernel
theorem dX1_readNumber_61 : decode cX1_readNumber 61 = .ok (.iload_n 2, 1) := by decide +kernel
theorem dX1_readNumber_62 : decode cX1_readNumber 62 = .ok (.ireturn, 1) := by decide +kernel
theorem dX1_next_0 : decode cX1_next 0 = .ok (.aload_n 0, 1) := by decide +kernel
theorem dX1_next_1 : decode cX1_next 1 = .ok (.getfield 31, 3) := by decide +kernel
theorem dX1_next_4 : decode cX1_next 4 = .ok (.aload_n 0, 1) := by decide +kernel
theorem dX1_next_5 : decode cX1_next 5 = .ok (.getfield 28, 3) := by decide +kernel
theorem dX1_next_8 : decode cX1_next 8 = .ok (.if_icmp .lt 14, 3) := by decide +kernel
theorem dX1_next_11 : decode cX1_next 11 = .ok (.aload_n 0, 1) := by decide +kernel
theorem dX1_next_12 : decode cX1_next 12 = .ok (.iconst 1, 1) := by decide +kernel
theorem dX1_next_13 : decode cX1_next 13 = .ok (.aload_n 0, 1) := by decide +kernel
theorem dX1_next_14 : decode cX1_next 14 = .ok (.getfield 28, 3) := by decide +kernel
theorem dX1_next_17 : decode cX1_next 17 = .ok (.invokevirtual 56, 3) := by decide +kernel
theorem dX1_next_20 : decode cX1_next 20 = .ok (.iconst 0, 1) := by decide +kernel
theorem dX1_next_21 : decode cX1_next 21 = .ok (.ireturn, 1) := by decide +kernel
theorem dX1_next_22 : decode cX1_next 22 = .ok (.aload_n 0, 1) := by decide +kernel
theorem dX1_next_23 : decode cX1_next 23 = .ok (.dup, 1) := by decide +kernel
theorem dX1_next_24 : decode cX1_next 24 = .ok (.getfield 31, 3) := by decide +kernel
theorem dX1_next_27 : decode cX1_next 27 = .ok (.iconst 1, 1) := by decide +kernel
theorem dX1_next_28 : decode cX1_next 28 = .ok (.iadd, 1) := by decide +kernel
theorem dX1_next_29 : decode cX1_next 29 = .ok (.putfield 31, 3) := by decide +kernel
theorem dX1_next_32 : decode cX1_next 32 = .ok (.aload_n 0, 1) := by decide +kernel
theorem dX1_next_33 : decode cX1_next 33 = .ok (.getfield 22, 3) := by decide +kernel
theorem dX1_next_36 : decode cX1_next 36 = .ok (.aload_n 0, 1) := by decide +kernel
theorem dX1_next_37 : decode cX1_next 37 = .ok (.getfield 25, 3) := by decide +kernel
theorem dX1_next_40 : decode cX1_next 40 = .ok (.aload_n 0, 1) := by decide +kernel
theorem dX1_next_41 : decode cX1_next 41 = .ok (.getfield 31, 3) := by decide +kernel
theorem dX1_next_44 : decode cX1_next 44 = .ok (.iadd, 1) := by decide +kernel
theorem dX1_next_45 : decode cX1_next 45 = .ok (.iconst 1, 1) := by decide +kernel
theorem dX1_next_46 : decode cX1_next 46 = .ok (.isub, 1) := by decide +kernel
theorem dX1_next_47 : decode cX1_next 47 = .ok (.iaload, 1) := by decide +kernel
theorem dX1_next_48 : decode cX1_next 48 = .ok (.ireturn, 1) := by decide +kernel
theorem dX1_putOut_0 : decode cX1_putOut 0 = .ok (.aload_n 0, 1) := by decide +kernel
theorem dX1_putOut_1 : decode cX1_putOut 1 = .ok (.getfield 9, 3) := by decide +kernel
theorem dX1_putOut_4 : decode cX1_putOut 4 = .ok (.aload_n 0, 1) := by decide +kernel
theorem dX1_putOut_5 : decode cX1_putOut 5 = .ok (.getfield 34, 3) := by decide +kernel
theorem dX1_putOut_8 : decode cX1_putOut 8 = .ok (.iload_n 1, 1) := by decide +kernel
theorem dX1_putOut_9 : decode cX1_putOut 9 = .ok (.iastore, 1) := by decide +kernel
theorem dX1_putOut_10 : decode cX1_putOut 10 = .ok (.aload_n 0, 1) := by decide +kernel
theorem dX1_putOut_11 : decode cX1_putOut 11 = .ok (.dup, 1) := by decide +kernel
theorem dX1_putOut_12 : decode cX1_putOut 12 = .ok (.getfield 34, 3) := by decide +kernel
theorem dX1_putOut_15 : decode cX1_putOut 15 = .ok (.iconst 1, 1) := by decide +kernel
theorem dX1_putOut_16 : decode cX1_putOut 16 = .ok (.iadd, 1) := by decide +kernel
theorem dX1_putOut_17 : decode cX1_putOut 17 = .ok (.putfield 34, 3) := by decide +kernel
theorem dX1_putOut_20 : decode cX1_putOut 20 = .ok (.return_, 1) := by decide +kernel
theorem dX1_fail_0 : decode cX1_fail 0 = .ok (.aload_n 0, 1) := by decide +kernel
theorem dX1_fail_1 : decode cX1_fail 1 = .ok (.getfield 19, 3) := by decide +kernel
theorem dX1_fail_4 : decode cX1_fail 4 = .ok (.ifCond .ne 13, 3) := by decide +kernel
theorem dX1_fail_7 : decode cX1_fail 7 = .ok (.aload_n 0, 1) := by decide +kernel
theorem dX1_fail_8 : decode cX1_fail 8 = .ok (.iload_n 1, 1) := by decide +kernel
theorem dX1_fail_9 : decode cX1_fail 9 = .ok (.putfield 19, 3) := by decide +kernel
theorem dX1_fail_12 : decode cX1_fail 12 = .ok (.aload_n 0, 1) := by decide +kernel
theorem dX1_fail_13 : decode cX1_fail 13 = .ok (.iload_n 2, 1) := by decide +kernel
theorem dX1_fail_14 : decode cX1_fail 14 = .ok (.putfield 15, 3) := by decide +kernel
theorem dX1_fail_17 : decode cX1_fail 17 = .ok (.return_, 1) := by decide +kernel
theorem dX2_init_0 : decode cX2_init 0 = .ok (.aload_n 0, 1) := by decide +kernel
theorem dX2_init_1 : decode cX2_init 1 = .ok (.invokespecial 3, 3) := by decide +kernel
theorem dX2_init_4 : decode cX2_init 4 = .ok (.aload_n 0, 1) := by decide +kernel
theorem dX2_init_5 : decode cX2_init 5 = .ok (.bipush 32, 2) := by decide +kernel
theorem dX2_init_7 : decode cX2_init 7 = .ok (.newarray .int, 2) := by decide +kernel
theorem dX2_init_9 : decode cX2_init 9 = .ok (.putfield 9, 3) := by decide +kernel
theorem dX2_init_12 : decode cX2_init 12 = .ok (.aload_n 0, 1) := by decide +kernel
theorem dX2_init_13 : decode cX2_init 13 = .ok (.bipush 32, 2) := by decide +kernel
theorem dX2_init_15 : decode cX2_init 15 = .ok (.newarray .int, 2) := by decide +kernel
theorem dX2_init_17 : decode cX2_init 17 = .ok (.putfield 15, 3) := by decide +kernel
theorem dX2_init_20 : decode cX2_init 20 = .ok (.aload_n 0, 1) := by decide +kernel
theorem dX2_init_21 : decode cX2_init 21 = .ok (.bipush 32, 2) := by decide +kernel
theorem dX2_init_23 : decode cX2_init 23 = .ok (.newarray .int, 2) := by decide +kernel
theorem dX2_init_25 : decode cX2_init 25 = .ok (.putfield 18, 3) := by decide +kernel
theorem dX2_init_28 : decode cX2_init 28 = .ok (.aload_n 0, 1) := by decide +kernel
theorem dX2_init_29 : decode cX2_init 29 = .ok (.iconst 0, 1) := by decide +kernel
theorem dX2_init_30 : decode cX2_init 30 = .ok (.putfield 21, 3) := by decide +kernel
theorem dX2_init_33 : decode cX2_init 33 = .ok (.aload_n 0, 1) := by decide +kernel
theorem dX2_init_34 : decode cX2_init 34 = .ok (.iload_n 1, 1) := by decide +kernel
theorem dX2_init_35 : decode cX2_init 35 = .ok (.newarray .int, 2) := by decide +kernel
theorem dX2_init_37 : decode cX2_init 37 = .ok (.putfield 25, 3) := by decide +kernel
theorem dX2_init_40 : decode cX2_init 40 = .ok (.aload_n 0, 1) := by decide +kernel
theorem dX2_init_41 : decode cX2_init 41 = .ok (.getfield 9, 3) := by decide +kernel
theorem dX2_init_44 : decode cX2_init 44 = .ok (.iconst (-1), 1) := by decide +kernel
theorem dX2_init_45 : decode cX2_init 45 = .ok (.invokestatic 28, 3) := by decide +kernel
theorem dX2_init_48 : decode cX2_init 48 = .ok (.return_, 1) := by decide +kernel
theorem dX2_has_0 : decode cX2_has 0 = .ok (.iload_n 1, 1) := by decide +kernel
theorem dX2_has_1 : decode cX2_has 1 = .ok (.ifCond .lt 16, 3) := by decide +kernel
theorem dX2_has_4 : decode cX2_has 4 = .ok (.iload_n 1, 1) := by decide +kernel
theorem dX2_has_5 : decode cX2_has 5 = .ok (.aload_n 0, 1) := by decide +kernel
