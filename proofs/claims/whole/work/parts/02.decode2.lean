theorem dX3_read_36 : decode cX3_read 36 = .ok (.aload_n 0, 1) := by decide +kernel
theorem dX3_read_37 : decode cX3_read 37 = .ok (.getfield 57, 3) := by decide +kernel
theorem dX3_read_40 : decode cX3_read 40 = .ok (.getfield 95, 3) := by decide +kernel
theorem dX3_read_43 : decode cX3_read 43 = .ok (.aload_n 0, 1) := by decide +kernel
theorem dX3_read_44 : decode cX3_read 44 = .ok (.getfield 57, 3) := by decide +kernel
theorem dX3_read_47 : decode cX3_read 47 = .ok (.getfield 98, 3) := by decide +kernel
theorem dX3_read_50 : decode cX3_read 50 = .ok (.iload_n 1, 1) := by decide +kernel
theorem dX3_read_51 : decode cX3_read 51 = .ok (.iaload, 1) := by decide +kernel
theorem dX3_read_52 : decode cX3_read 52 = .ok (.aload_n 0, 1) := by decide +kernel
theorem dX3_read_53 : decode cX3_read 53 = .ok (.getfield 9, 3) := by decide +kernel
theorem dX3_read_56 : decode cX3_read 56 = .ok (.iconst 0, 1) := by decide +kernel
theorem dX3_read_57 : decode cX3_read 57 = .ok (.sipush 256, 3) := by decide +kernel
theorem dX3_read_60 : decode cX3_read 60 = .ok (.invokestatic 101, 3) := by decide +kernel
theorem dX3_read_63 : decode cX3_read 63 = .ok (.goto 30, 3) := by decide +kernel
theorem dX3_read_66 : decode cX3_read 66 = .ok (.aload_n 0, 1) := by decide +kernel
theorem dX3_read_67 : decode cX3_read 67 = .ok (.getfield 9, 3) := by decide +kernel
theorem dX3_read_70 : decode cX3_read 70 = .ok (.aload_n 0, 1) := by decide +kernel
theorem dX3_read_71 : decode cX3_read 71 = .ok (.getfield 13, 3) := by decide +kernel
theorem dX3_read_74 : decode cX3_read 74 = .ok (.iload_n 1, 1) := by decide +kernel
theorem dX3_read_75 : decode cX3_read 75 = .ok (.iaload, 1) := by decide +kernel
theorem dX3_read_76 : decode cX3_read 76 = .ok (.iconst 1, 1) := by decide +kernel
theorem dX3_read_77 : decode cX3_read 77 = .ok (.if_icmp .ne 12, 3) := by decide +kernel
theorem dX3_read_80 : decode cX3_read 80 = .ok (.aload_n 0, 1) := by decide +kernel
theorem dX3_read_81 : decode cX3_read 81 = .ok (.getfield 16, 3) := by decide +kernel
theorem dX3_read_84 : decode cX3_read 84 = .ok (.iload_n 1, 1) := by decide +kernel
theorem dX3_read_85 : decode cX3_read 85 = .ok (.iaload, 1) := by decide +kernel
theorem dX3_read_86 : decode cX3_read 86 = .ok (.goto 4, 3) := by decide +kernel
theorem dX3_read_89 : decode cX3_read 89 = .ok (.iconst 0, 1) := by decide +kernel
theorem dX3_read_90 : decode cX3_read 90 = .ok (.invokestatic 107, 3) := by decide +kernel
theorem dX3_read_93 : decode cX3_read 93 = .ok (.iconst 1, 1) := by decide +kernel
theorem dX3_read_94 : decode cX3_read 94 = .ok (.ireturn, 1) := by decide +kernel
theorem dX3_trim_0 : decode cX3_trim 0 = .ok (.iload_n 1, 1) := by decide +kernel
theorem dX3_trim_1 : decode cX3_trim 1 = .ok (.invokestatic 69, 3) := by decide +kernel
theorem dX3_trim_4 : decode cX3_trim 4 = .ok (.ifCond .ne 6, 3) := by decide +kernel
theorem dX3_trim_7 : decode cX3_trim 7 = .ok (.bipush (-11), 2) := by decide +kernel
theorem dX3_trim_9 : decode cX3_trim 9 = .ok (.ireturn, 1) := by decide +kernel
theorem dX3_trim_10 : decode cX3_trim 10 = .ok (.aload_n 0, 1) := by decide +kernel
theorem dX3_trim_11 : decode cX3_trim 11 = .ok (.getfield 13, 3) := by decide +kernel
theorem dX3_trim_14 : decode cX3_trim 14 = .ok (.iload_n 1, 1) := by decide +kernel
theorem dX3_trim_15 : decode cX3_trim 15 = .ok (.iconst 0, 1) := by decide +kernel
theorem dX3_trim_16 : decode cX3_trim 16 = .ok (.iastore, 1) := by decide +kernel
theorem dX3_trim_17 : decode cX3_trim 17 = .ok (.aload_n 0, 1) := by decide +kernel
theorem dX3_trim_18 : decode cX3_trim 18 = .ok (.getfield 57, 3) := by decide +kernel
theorem dX3_trim_21 : decode cX3_trim 21 = .ok (.iload_n 1, 1) := by decide +kernel
theorem dX3_trim_22 : decode cX3_trim 22 = .ok (.invokevirtual 77, 3) := by decide +kernel
theorem dX3_trim_25 : decode cX3_trim 25 = .ok (.ireturn, 1) := by decide +kernel
theorem dX3_slot_0 : decode cX3_slot 0 = .ok (.iload_n 1, 1) := by decide +kernel
theorem dX3_slot_1 : decode cX3_slot 1 = .ok (.invokestatic 69, 3) := by decide +kernel
theorem dX3_slot_4 : decode cX3_slot 4 = .ok (.ifCond .ne 6, 3) := by decide +kernel
theorem dX3_slot_7 : decode cX3_slot 7 = .ok (.bipush (-11), 2) := by decide +kernel
theorem dX3_slot_9 : decode cX3_slot 9 = .ok (.ireturn, 1) := by decide +kernel
theorem dX3_slot_10 : decode cX3_slot 10 = .ok (.iload_n 2, 1) := by decide +kernel
theorem dX3_slot_11 : decode cX3_slot 11 = .ok (.tableswitch 52 0 2 #[25, 32, 42], 25) := by decide +kernel
theorem dX3_slot_36 : decode cX3_slot 36 = .ok (.aload_n 0, 1) := by decide +kernel
theorem dX3_slot_37 : decode cX3_slot 37 = .ok (.getfield 13, 3) := by decide +kernel
theorem dX3_slot_40 : decode cX3_slot 40 = .ok (.iload_n 1, 1) := by decide +kernel
theorem dX3_slot_41 : decode cX3_slot 41 = .ok (.iaload, 1) := by decide +kernel
theorem dX3_slot_42 : decode cX3_slot 42 = .ok (.ireturn, 1) := by decide +kernel
theorem dX3_slot_43 : decode cX3_slot 43 = .ok (.aload_n 0, 1) := by decide +kernel
theorem dX3_slot_44 : decode cX3_slot 44 = .ok (.getfield 57, 3) := by decide +kernel
theorem dX3_slot_47 : decode cX3_slot 47 = .ok (.getfield 113, 3) := by decide +kernel
theorem dX3_slot_50 : decode cX3_slot 50 = .ok (.iload_n 1, 1) := by decide +kernel
theorem dX3_slot_51 : decode cX3_slot 51 = .ok (.iaload, 1) := by decide +kernel
theorem dX3_slot_52 : decode cX3_slot 52 = .ok (.ireturn, 1) := by decide +kernel
theorem dX3_slot_53 : decode cX3_slot 53 = .ok (.aload_n 0, 1) := by decide +kernel
theorem dX3_slot_54 : decode cX3_slot 54 = .ok (.getfield 57, 3) := by decide +kernel
theorem dX3_slot_57 : decode cX3_slot 57 = .ok (.getfield 98, 3) := by decide +kernel
theorem dX3_slot_60 : decode cX3_slot 60 = .ok (.iload_n 1, 1) := by decide +kernel
theorem dX3_slot_61 : decode cX3_slot 61 = .ok (.iaload, 1) := by decide +kernel
theorem dX3_slot_62 : decode cX3_slot 62 = .ok (.ireturn, 1) := by decide +kernel
theorem dX3_slot_63 : decode cX3_slot 63 = .ok (.bipush (-12), 2) := by decide +kernel
theorem dX3_slot_65 : decode cX3_slot 65 = .ok (.ireturn, 1) := by decide +kernel
theorem dX3_stored_0 : decode cX3_stored 0 = .ok (.aload_n 0, 1) := by decide +kernel
theorem dX3_stored_1 : decode cX3_stored 1 = .ok (.getfield 57, 3) := by decide +kernel
theorem dX3_stored_4 : decode cX3_stored 4 = .ok (.iload_n 1, 1) := by decide +kernel
theorem dX3_stored_5 : decode cX3_stored 5 = .ok (.invokevirtual 116, 3) := by decide +kernel
theorem dX3_stored_8 : decode cX3_stored 8 = .ok (.ifCond .eq 15, 3) := by decide +kernel
theorem dX3_stored_11 : decode cX3_stored 11 = .ok (.aload_n 0, 1) := by decide +kernel
theorem dX3_stored_12 : decode cX3_stored 12 = .ok (.getfield 57, 3) := by decide +kernel
theorem dX3_stored_15 : decode cX3_stored 15 = .ok (.getfield 95, 3) := by decide +kernel
theorem dX3_stored_18 : decode cX3_stored 18 = .ok (.iload_n 1, 1) := by decide +kernel
theorem dX3_stored_19 : decode cX3_stored 19 = .ok (.iaload, 1) := by decide +kernel
theorem dX3_stored_20 : decode cX3_stored 20 = .ok (.goto 4, 3) := by decide +kernel
theorem dX3_stored_23 : decode cX3_stored 23 = .ok (.iconst (-1), 1) := by decide +kernel
theorem dX3_stored_24 : decode cX3_stored 24 = .ok (.ireturn, 1) := by decide +kernel
theorem dX3_alter_0 : decode cX3_alter 0 = .ok (.aload_n 0, 1) := by decide +kernel
theorem dX3_alter_1 : decode cX3_alter 1 = .ok (.getfield 57, 3) := by decide +kernel
theorem dX3_alter_4 : decode cX3_alter 4 = .ok (.iload_n 1, 1) := by decide +kernel
theorem dX3_alter_5 : decode cX3_alter 5 = .ok (.invokevirtual 116, 3) := by decide +kernel
theorem dX3_alter_8 : decode cX3_alter 8 = .ok (.ifCond .ne 6, 3) := by decide +kernel
theorem dX3_alter_11 : decode cX3_alter 11 = .ok (.bipush (-12), 2) := by decide +kernel
theorem dX3_alter_13 : decode cX3_alter 13 = .ok (.ireturn, 1) := by decide +kernel
theorem dX3_alter_14 : decode cX3_alter 14 = .ok (.aload_n 0, 1) := by decide +kernel
theorem dX3_alter_15 : decode cX3_alter 15 = .ok (.getfield 57, 3) := by decide +kernel
theorem dX3_alter_18 : decode cX3_alter 18 = .ok (.getfield 95, 3) := by decide +kernel
theorem dX3_alter_21 : decode cX3_alter 21 = .ok (.iload_n 1, 1) := by decide +kernel
theorem dX3_alter_22 : decode cX3_alter 22 = .ok (.dup2, 1) := by decide +kernel
theorem dX3_alter_23 : decode cX3_alter 23 = .ok (.iaload, 1) := by decide +kernel
theorem dX3_alter_24 : decode cX3_alter 24 = .ok (.iload_n 2, 1) := by decide +kernel
theorem dX3_alter_25 : decode cX3_alter 25 = .ok (.sipush 255, 3) := by decide +kernel
theorem dX3_alter_28 : decode cX3_alter 28 = .ok (.iand, 1) := by decide +kernel
theorem dX3_alter_29 : decode cX3_alter 29 = .ok (.ixor, 1) := by decide +kernel
theorem dX3_alter_30 : decode cX3_alter 30 = .ok (.iastore, 1) := by decide +kernel
theorem dX3_alter_31 : decode cX3_alter 31 = .ok (.iconst 1, 1) := by decide +kernel
theorem dX3_alter_32 : decode cX3_alter 32 = .ok (.ireturn, 1) := by decide +kernel
theorem dX3_compact_0 : decode cX3_compact 0 = .ok (.aload_n 0, 1) := by decide +kernel
theorem dX3_compact_1 : decode cX3_compact 1 = .ok (.getfield 57, 3) := by decide +kernel
theorem dX3_compact_4 : decode cX3_compact 4 = .ok (.invokevirtual 119, 3) := by decide +kernel
theorem dX3_compact_7 : decode cX3_compact 7 = .ok (.ireturn, 1) := by decide +kernel
theorem dX3_free_0 : decode cX3_free 0 = .ok (.iload_n 1, 1) := by decide +kernel
theorem dX3_free_1 : decode cX3_free 1 = .ok (.tableswitch 51 0 2 #[27, 35, 43], 27) := by decide +kernel
theorem dX3_free_28 : decode cX3_free 28 = .ok (.aload_n 0, 1) := by decide +kernel
theorem dX3_free_29 : decode cX3_free 29 = .ok (.getfield 57, 3) := by decide +kernel
theorem dX3_free_32 : decode cX3_free 32 = .ok (.invokevirtual 123, 3) := by decide +kernel
theorem dX3_free_35 : decode cX3_free 35 = .ok (.ireturn, 1) := by decide +kernel
theorem dX3_free_36 : decode cX3_free 36 = .ok (.aload_n 0, 1) := by decide +kernel
theorem dX3_free_37 : decode cX3_free 37 = .ok (.getfield 57, 3) := by decide +kernel
theorem dX3_free_40 : decode cX3_free 40 = .ok (.invokevirtual 126, 3) := by decide +kernel
theorem dX3_free_43 : decode cX3_free 43 = .ok (.ireturn, 1) := by decide +kernel
theorem dX3_free_44 : decode cX3_free 44 = .ok (.aload_n 0, 1) := by decide +kernel
theorem dX3_free_45 : decode cX3_free 45 = .ok (.getfield 57, 3) := by decide +kernel
theorem dX3_free_48 : decode cX3_free 48 = .ok (.invokevirtual 129, 3) := by decide +kernel
theorem dX3_free_51 : decode cX3_free 51 = .ok (.ireturn, 1) := by decide +kernel
theorem dX3_free_52 : decode cX3_free 52 = .ok (.bipush (-12), 2) := by decide +kernel
theorem dX3_free_54 : decode cX3_free 54 = .ok (.ireturn, 1) := by decide +kernel
theorem dX3_type_0 : decode cX3_type 0 = .ok (.iload_n 2, 1) := by decide +kernel
theorem dX3_type_1 : decode cX3_type 1 = .ok (.iconst 1, 1) := by decide +kernel
theorem dX3_type_2 : decode cX3_type 2 = .ok (.if_icmp .lt 8, 3) := by decide +kernel
theorem dX3_type_5 : decode cX3_type 5 = .ok (.iload_n 2, 1) := by decide +kernel
theorem dX3_type_6 : decode cX3_type 6 = .ok (.iconst 4, 1) := by decide +kernel
theorem dX3_type_7 : decode cX3_type 7 = .ok (.if_icmp .le 6, 3) := by decide +kernel
theorem dX3_type_10 : decode cX3_type 10 = .ok (.bipush (-12), 2) := by decide +kernel
theorem dX3_type_12 : decode cX3_type 12 = .ok (.ireturn, 1) := by decide +kernel
theorem dX3_type_13 : decode cX3_type 13 = .ok (.iload_n 2, 1) := by decide +kernel
theorem dX3_type_14 : decode cX3_type 14 = .ok (.sipush 600, 3) := by decide +kernel
theorem dX3_type_17 : decode cX3_type 17 = .ok (.aload_n 0, 1) := by decide +kernel
theorem dX3_type_18 : decode cX3_type 18 = .ok (.getfield 36, 3) := by decide +kernel
theorem dX3_type_21 : decode cX3_type 21 = .ok (.isub, 1) := by decide +kernel
theorem dX3_type_22 : decode cX3_type 22 = .ok (.if_icmp .le 6, 3) := by decide +kernel
theorem dX3_type_25 : decode cX3_type 25 = .ok (.bipush (-14), 2) := by decide +kernel
theorem dX3_type_27 : decode cX3_type 27 = .ok (.ireturn, 1) := by decide +kernel
theorem dX3_type_28 : decode cX3_type 28 = .ok (.iload_n 1, 1) := by decide +kernel
theorem dX3_type_29 : decode cX3_type 29 = .ok (.iload_n 2, 1) := by decide +kernel
theorem dX3_type_30 : decode cX3_type 30 = .ok (.aload_n 0, 1) := by decide +kernel
theorem dX3_type_31 : decode cX3_type 31 = .ok (.getfield 33, 3) := by decide +kernel
theorem dX3_type_34 : decode cX3_type 34 = .ok (.aload_n 0, 1) := by decide +kernel
theorem dX3_type_35 : decode cX3_type 35 = .ok (.getfield 36, 3) := by decide +kernel
theorem dX3_type_38 : decode cX3_type 38 = .ok (.invokestatic 65, 3) := by decide +kernel
theorem dX3_type_41 : decode cX3_type 41 = .ok (.aload_n 0, 1) := by decide +kernel
theorem dX3_type_42 : decode cX3_type 42 = .ok (.dup, 1) := by decide +kernel
theorem dX3_type_43 : decode cX3_type 43 = .ok (.getfield 36, 3) := by decide +kernel
theorem dX3_type_46 : decode cX3_type 46 = .ok (.iload_n 2, 1) := by decide +kernel
theorem dX3_type_47 : decode cX3_type 47 = .ok (.iadd, 1) := by decide +kernel
theorem dX3_type_48 : decode cX3_type 48 = .ok (.putfield 36, 3) := by decide +kernel
theorem dX3_type_51 : decode cX3_type 51 = .ok (.aload_n 0, 1) := by decide +kernel
theorem dX3_type_52 : decode cX3_type 52 = .ok (.getfield 36, 3) := by decide +kernel
theorem dX3_type_55 : decode cX3_type 55 = .ok (.ireturn, 1) := by decide +kernel
theorem dX3_decode_0 : decode cX3_decode 0 = .ok (.aload_n 0, 1) := by decide +kernel
theorem dX3_decode_1 : decode cX3_decode 1 = .ok (.getfield 29, 3) := by decide +kernel
theorem dX3_decode_4 : decode cX3_decode 4 = .ok (.aload_n 0, 1) := by decide +kernel
theorem dX3_decode_5 : decode cX3_decode 5 = .ok (.getfield 33, 3) := by decide +kernel
theorem dX3_decode_8 : decode cX3_decode 8 = .ok (.iconst 0, 1) := by decide +kernel
theorem dX3_decode_9 : decode cX3_decode 9 = .ok (.aload_n 0, 1) := by decide +kernel
theorem dX3_decode_10 : decode cX3_decode 10 = .ok (.getfield 36, 3) := by decide +kernel
theorem dX3_decode_13 : decode cX3_decode 13 = .ok (.invokevirtual 132, 3) := by decide +kernel
theorem dX3_decode_16 : decode cX3_decode 16 = .ok (.istore_n 1, 1) := by decide +kernel
theorem dX3_decode_17 : decode cX3_decode 17 = .ok (.aload_n 0, 1) := by decide +kernel
theorem dX3_decode_18 : decode cX3_decode 18 = .ok (.iconst 0, 1) := by decide +kernel
theorem dX3_decode_19 : decode cX3_decode 19 = .ok (.putfield 36, 3) := by decide +kernel
theorem dX3_decode_22 : decode cX3_decode 22 = .ok (.aload_n 0, 1) := by decide +kernel
theorem dX3_decode_23 : decode cX3_decode 23 = .ok (.aload_n 0, 1) := by decide +kernel
theorem dX3_decode_24 : decode cX3_decode 24 = .ok (.getfield 29, 3) := by decide +kernel
theorem dX3_decode_27 : decode cX3_decode 27 = .ok (.getfield 135, 3) := by decide +kernel
theorem dX3_decode_30 : decode cX3_decode 30 = .ok (.putfield 40, 3) := by decide +kernel
theorem dX3_decode_33 : decode cX3_decode 33 = .ok (.iload_n 1, 1) := by decide +kernel
theorem dX3_decode_34 : decode cX3_decode 34 = .ok (.ifCond .le 20, 3) := by decide +kernel
theorem dX3_decode_37 : decode cX3_decode 37 = .ok (.aload_n 0, 1) := by decide +kernel
theorem dX3_decode_38 : decode cX3_decode 38 = .ok (.getfield 29, 3) := by decide +kernel
theorem dX3_decode_41 : decode cX3_decode 41 = .ok (.getfield 138, 3) := by decide +kernel
theorem dX3_decode_44 : decode cX3_decode 44 = .ok (.iconst 0, 1) := by decide +kernel
theorem dX3_decode_45 : decode cX3_decode 45 = .ok (.aload_n 0, 1) := by decide +kernel
theorem dX3_decode_46 : decode cX3_decode 46 = .ok (.getfield 9, 3) := by decide +kernel
theorem dX3_decode_49 : decode cX3_decode 49 = .ok (.iconst 0, 1) := by decide +kernel
theorem dX3_decode_50 : decode cX3_decode 50 = .ok (.iload_n 1, 1) := by decide +kernel
theorem dX3_decode_51 : decode cX3_decode 51 = .ok (.invokestatic 101, 3) := by decide +kernel
theorem dX3_decode_54 : decode cX3_decode 54 = .ok (.iload_n 1, 1) := by decide +kernel
theorem dX3_decode_55 : decode cX3_decode 55 = .ok (.ireturn, 1) := by decide +kernel
theorem dX3_place_0 : decode cX3_place 0 = .ok (.aload_n 0, 1) := by decide +kernel
theorem dX3_place_1 : decode cX3_place 1 = .ok (.getfield 40, 3) := by decide +kernel
theorem dX3_place_4 : decode cX3_place 4 = .ok (.ireturn, 1) := by decide +kernel
theorem dX3_isBlock_0 : decode cX3_isBlock 0 = .ok (.iload_n 0, 1) := by decide +kernel
theorem dX3_isBlock_1 : decode cX3_isBlock 1 = .ok (.ifCond .lt 13, 3) := by decide +kernel
theorem dX3_isBlock_4 : decode cX3_isBlock 4 = .ok (.iload_n 0, 1) := by decide +kernel
theorem dX3_isBlock_5 : decode cX3_isBlock 5 = .ok (.bipush 32, 2) := by decide +kernel
theorem dX3_isBlock_7 : decode cX3_isBlock 7 = .ok (.if_icmp .ge 7, 3) := by decide +kernel
theorem dX3_isBlock_10 : decode cX3_isBlock 10 = .ok (.iconst 1, 1) := by decide +kernel
theorem dX3_isBlock_11 : decode cX3_isBlock 11 = .ok (.goto 4, 3) := by decide +kernel
theorem dX3_isBlock_14 : decode cX3_isBlock 14 = .ok (.iconst 0, 1) := by decide +kernel
theorem dX3_isBlock_15 : decode cX3_isBlock 15 = .ok (.ireturn, 1) := by decide +kernel
theorem dX3_liesInBuffer_0 : decode cX3_liesInBuffer 0 = .ok (.iload_n 0, 1) := by decide +kernel
theorem dX3_liesInBuffer_1 : decode cX3_liesInBuffer 1 = .ok (.ifCond .lt 28, 3) := by decide +kernel
theorem dX3_liesInBuffer_4 : decode cX3_liesInBuffer 4 = .ok (.iload_n 0, 1) := by decide +kernel
theorem dX3_liesInBuffer_5 : decode cX3_liesInBuffer 5 = .ok (.sipush 256, 3) := by decide +kernel
theorem dX3_liesInBuffer_8 : decode cX3_liesInBuffer 8 = .ok (.if_icmp .ge 21, 3) := by decide +kernel
theorem dX3_liesInBuffer_11 : decode cX3_liesInBuffer 11 = .ok (.iload_n 1, 1) := by decide +kernel
theorem dX3_liesInBuffer_12 : decode cX3_liesInBuffer 12 = .ok (.iconst 1, 1) := by decide +kernel
theorem dX3_liesInBuffer_13 : decode cX3_liesInBuffer 13 = .ok (.if_icmp .lt 16, 3) := by decide +kernel
theorem dX3_liesInBuffer_16 : decode cX3_liesInBuffer 16 = .ok (.iload_n 1, 1) := by decide +kernel
theorem dX3_liesInBuffer_17 : decode cX3_liesInBuffer 17 = .ok (.sipush 256, 3) := by decide +kernel
theorem dX3_liesInBuffer_20 : decode cX3_liesInBuffer 20 = .ok (.iload_n 0, 1) := by decide +kernel
theorem dX3_liesInBuffer_21 : decode cX3_liesInBuffer 21 = .ok (.isub, 1) := by decide +kernel
theorem dX3_liesInBuffer_22 : decode cX3_liesInBuffer 22 = .ok (.if_icmp .gt 7, 3) := by decide +kernel
theorem dX3_liesInBuffer_25 : decode cX3_liesInBuffer 25 = .ok (.iconst 1, 1) := by decide +kernel
theorem dX3_liesInBuffer_26 : decode cX3_liesInBuffer 26 = .ok (.goto 4, 3) := by decide +kernel
theorem dX3_liesInBuffer_29 : decode cX3_liesInBuffer 29 = .ok (.iconst 0, 1) := by decide +kernel
theorem dX3_liesInBuffer_30 : decode cX3_liesInBuffer 30 = .ok (.ireturn, 1) := by decide +kernel
theorem dX3_putHighestFirst_0 : decode cX3_putHighestFirst 0 = .ok (.iconst 0, 1) := by decide +kernel
theorem dX3_putHighestFirst_1 : decode cX3_putHighestFirst 1 = .ok (.istore 4, 2) := by decide +kernel
theorem dX3_putHighestFirst_3 : decode cX3_putHighestFirst 3 = .ok (.iload 4, 2) := by decide +kernel
theorem dX3_putHighestFirst_5 : decode cX3_putHighestFirst 5 = .ok (.iload_n 1, 1) := by decide +kernel
theorem dX3_putHighestFirst_6 : decode cX3_putHighestFirst 6 = .ok (.if_icmp .ge 30, 3) := by decide +kernel
theorem dX3_putHighestFirst_9 : decode cX3_putHighestFirst 9 = .ok (.aload_n 2, 1) := by decide +kernel
theorem dX3_putHighestFirst_10 : decode cX3_putHighestFirst 10 = .ok (.iload_n 3, 1) := by decide +kernel
theorem dX3_putHighestFirst_11 : decode cX3_putHighestFirst 11 = .ok (.iload 4, 2) := by decide +kernel
theorem dX3_putHighestFirst_13 : decode cX3_putHighestFirst 13 = .ok (.iadd, 1) := by decide +kernel
theorem dX3_putHighestFirst_14 : decode cX3_putHighestFirst 14 = .ok (.iload_n 0, 1) := by decide +kernel
theorem dX3_putHighestFirst_15 : decode cX3_putHighestFirst 15 = .ok (.bipush 8, 2) := by decide +kernel
theorem dX3_putHighestFirst_17 : decode cX3_putHighestFirst 17 = .ok (.iload_n 1, 1) := by decide +kernel
theorem dX3_putHighestFirst_18 : decode cX3_putHighestFirst 18 = .ok (.iconst 1, 1) := by decide +kernel
theorem dX3_putHighestFirst_19 : decode cX3_putHighestFirst 19 = .ok (.isub, 1) := by decide +kernel
theorem dX3_putHighestFirst_20 : decode cX3_putHighestFirst 20 = .ok (.iload 4, 2) := by decide +kernel
theorem dX3_putHighestFirst_22 : decode cX3_putHighestFirst 22 = .ok (.isub, 1) := by decide +kernel
theorem dX3_putHighestFirst_23 : decode cX3_putHighestFirst 23 = .ok (.imul, 1) := by decide +kernel
theorem dX3_putHighestFirst_24 : decode cX3_putHighestFirst 24 = .ok (.iushr, 1) := by decide +kernel
theorem dX3_putHighestFirst_25 : decode cX3_putHighestFirst 25 = .ok (.sipush 255, 3) := by decide +kernel
theorem dX3_putHighestFirst_28 : decode cX3_putHighestFirst 28 = .ok (.iand, 1) := by decide +kernel
theorem dX3_putHighestFirst_29 : decode cX3_putHighestFirst 29 = .ok (.iastore, 1) := by decide +kernel
theorem dX3_putHighestFirst_30 : decode cX3_putHighestFirst 30 = .ok (.iinc 4 1, 3) := by decide +kernel
theorem dX3_putHighestFirst_33 : decode cX3_putHighestFirst 33 = .ok (.goto (-30), 3) := by decide +kernel
theorem dX3_putHighestFirst_36 : decode cX3_putHighestFirst 36 = .ok (.return_, 1) := by decide +kernel
theorem dX3_bufferIsOneByte_0 : decode cX3_bufferIsOneByte 0 = .ok (.iconst 1, 1) := by decide +kernel
theorem dX3_bufferIsOneByte_1 : decode cX3_bufferIsOneByte 1 = .ok (.istore_n 1, 1) := by decide +kernel
theorem dX3_bufferIsOneByte_2 : decode cX3_bufferIsOneByte 2 = .ok (.iload_n 1, 1) := by decide +kernel
theorem dX3_bufferIsOneByte_3 : decode cX3_bufferIsOneByte 3 = .ok (.sipush 256, 3) := by decide +kernel
theorem dX3_bufferIsOneByte_6 : decode cX3_bufferIsOneByte 6 = .ok (.if_icmp .ge 26, 3) := by decide +kernel
theorem dX3_bufferIsOneByte_9 : decode cX3_bufferIsOneByte 9 = .ok (.aload_n 0, 1) := by decide +kernel
theorem dX3_bufferIsOneByte_10 : decode cX3_bufferIsOneByte 10 = .ok (.getfield 9, 3) := by decide +kernel
theorem dX3_bufferIsOneByte_13 : decode cX3_bufferIsOneByte 13 = .ok (.iload_n 1, 1) := by decide +kernel
theorem dX3_bufferIsOneByte_14 : decode cX3_bufferIsOneByte 14 = .ok (.iaload, 1) := by decide +kernel
theorem dX3_bufferIsOneByte_15 : decode cX3_bufferIsOneByte 15 = .ok (.aload_n 0, 1) := by decide +kernel
theorem dX3_bufferIsOneByte_16 : decode cX3_bufferIsOneByte 16 = .ok (.getfield 9, 3) := by decide +kernel
theorem dX3_bufferIsOneByte_19 : decode cX3_bufferIsOneByte 19 = .ok (.iconst 0, 1) := by decide +kernel
theorem dX3_bufferIsOneByte_20 : decode cX3_bufferIsOneByte 20 = .ok (.iaload, 1) := by decide +kernel
theorem dX3_bufferIsOneByte_21 : decode cX3_bufferIsOneByte 21 = .ok (.if_icmp .eq 5, 3) := by decide +kernel
theorem dX3_bufferIsOneByte_24 : decode cX3_bufferIsOneByte 24 = .ok (.iconst 0, 1) := by decide +kernel
theorem dX3_bufferIsOneByte_25 : decode cX3_bufferIsOneByte 25 = .ok (.ireturn, 1) := by decide +kernel
theorem dX3_bufferIsOneByte_26 : decode cX3_bufferIsOneByte 26 = .ok (.iinc 1 1, 3) := by decide +kernel
theorem dX3_bufferIsOneByte_29 : decode cX3_bufferIsOneByte 29 = .ok (.goto (-27), 3) := by decide +kernel
theorem dX3_bufferIsOneByte_32 : decode cX3_bufferIsOneByte 32 = .ok (.iconst 1, 1) := by decide +kernel
theorem dX3_bufferIsOneByte_33 : decode cX3_bufferIsOneByte 33 = .ok (.ireturn, 1) := by decide +kernel
theorem dX3_keep_0 : decode cX3_keep 0 = .ok (.aload_n 0, 1) := by decide +kernel
theorem dX3_keep_1 : decode cX3_keep 1 = .ok (.getfield 57, 3) := by decide +kernel
theorem dX3_keep_4 : decode cX3_keep 4 = .ok (.iload_n 1, 1) := by decide +kernel
theorem dX3_keep_5 : decode cX3_keep 5 = .ok (.aload_n 3, 1) := by decide +kernel
theorem dX3_keep_6 : decode cX3_keep 6 = .ok (.iload 4, 2) := by decide +kernel
theorem dX3_keep_8 : decode cX3_keep 8 = .ok (.invokevirtual 139, 3) := by decide +kernel
theorem dX3_keep_11 : decode cX3_keep 11 = .ok (.ifCond .ne 6, 3) := by decide +kernel
theorem dX3_keep_14 : decode cX3_keep 14 = .ok (.bipush (-14), 2) := by decide +kernel
theorem dX3_keep_16 : decode cX3_keep 16 = .ok (.ireturn, 1) := by decide +kernel
theorem dX3_keep_17 : decode cX3_keep 17 = .ok (.aload_n 0, 1) := by decide +kernel
theorem dX3_keep_18 : decode cX3_keep 18 = .ok (.getfield 13, 3) := by decide +kernel
theorem dX3_keep_21 : decode cX3_keep 21 = .ok (.iload_n 1, 1) := by decide +kernel
theorem dX3_keep_22 : decode cX3_keep 22 = .ok (.iload_n 2, 1) := by decide +kernel
theorem dX3_keep_23 : decode cX3_keep 23 = .ok (.iastore, 1) := by decide +kernel
theorem dX3_keep_24 : decode cX3_keep 24 = .ok (.iload 4, 2) := by decide +kernel
theorem dX3_keep_26 : decode cX3_keep 26 = .ok (.ireturn, 1) := by decide +kernel
theorem dX3_unpack_0 : decode cX3_unpack 0 = .ok (.aload_n 0, 1) := by decide +kernel
theorem dX3_unpack_1 : decode cX3_unpack 1 = .ok (.getfield 29, 3) := by decide +kernel
theorem dX3_unpack_4 : decode cX3_unpack 4 = .ok (.aload_n 0, 1) := by decide +kernel
theorem dX3_unpack_5 : decode cX3_unpack 5 = .ok (.getfield 57, 3) := by decide +kernel
theorem dX3_unpack_8 : decode cX3_unpack 8 = .ok (.getfield 95, 3) := by decide +kernel
theorem dX3_unpack_11 : decode cX3_unpack 11 = .ok (.aload_n 0, 1) := by decide +kernel
theorem dX3_unpack_12 : decode cX3_unpack 12 = .ok (.getfield 57, 3) := by decide +kernel
theorem dX3_unpack_15 : decode cX3_unpack 15 = .ok (.getfield 98, 3) := by decide +kernel
theorem dX3_unpack_18 : decode cX3_unpack 18 = .ok (.iload_n 1, 1) := by decide +kernel
theorem dX3_unpack_19 : decode cX3_unpack 19 = .ok (.iaload, 1) := by decide +kernel
theorem dX3_unpack_20 : decode cX3_unpack 20 = .ok (.aload_n 0, 1) := by decide +kernel
theorem dX3_unpack_21 : decode cX3_unpack 21 = .ok (.getfield 57, 3) := by decide +kernel
theorem dX3_unpack_24 : decode cX3_unpack 24 = .ok (.getfield 113, 3) := by decide +kernel
theorem dX3_unpack_27 : decode cX3_unpack 27 = .ok (.iload_n 1, 1) := by decide +kernel
theorem dX3_unpack_28 : decode cX3_unpack 28 = .ok (.iaload, 1) := by decide +kernel
theorem dX3_unpack_29 : decode cX3_unpack 29 = .ok (.invokevirtual 132, 3) := by decide +kernel
theorem dX3_unpack_32 : decode cX3_unpack 32 = .ok (.istore_n 2, 1) := by decide +kernel
theorem dX3_unpack_33 : decode cX3_unpack 33 = .ok (.iload_n 2, 1) := by decide +kernel
theorem dX3_unpack_34 : decode cX3_unpack 34 = .ok (.ifCond .ge 5, 3) := by decide +kernel
theorem dX3_unpack_37 : decode cX3_unpack 37 = .ok (.iload_n 2, 1) := by decide +kernel
theorem dX3_unpack_38 : decode cX3_unpack 38 = .ok (.ireturn, 1) := by decide +kernel
theorem dX3_unpack_39 : decode cX3_unpack 39 = .ok (.iload_n 2, 1) := by decide +kernel
theorem dX3_unpack_40 : decode cX3_unpack 40 = .ok (.sipush 256, 3) := by decide +kernel
theorem dX3_unpack_43 : decode cX3_unpack 43 = .ok (.if_icmp .ge 6, 3) := by decide +kernel
theorem dX3_unpack_46 : decode cX3_unpack 46 = .ok (.bipush (-4), 2) := by decide +kernel
theorem dX3_unpack_48 : decode cX3_unpack 48 = .ok (.ireturn, 1) := by decide +kernel
theorem dX3_unpack_49 : decode cX3_unpack 49 = .ok (.aload_n 0, 1) := by decide +kernel
theorem dX3_unpack_50 : decode cX3_unpack 50 = .ok (.getfield 29, 3) := by decide +kernel
theorem dX3_unpack_53 : decode cX3_unpack 53 = .ok (.getfield 138, 3) := by decide +kernel
theorem dX3_unpack_56 : decode cX3_unpack 56 = .ok (.iconst 0, 1) := by decide +kernel
theorem dX3_unpack_57 : decode cX3_unpack 57 = .ok (.aload_n 0, 1) := by decide +kernel
theorem dX3_unpack_58 : decode cX3_unpack 58 = .ok (.getfield 9, 3) := by decide +kernel
theorem dX3_unpack_61 : decode cX3_unpack 61 = .ok (.iconst 0, 1) := by decide +kernel
theorem dX3_unpack_62 : decode cX3_unpack 62 = .ok (.sipush 256, 3) := by decide +kernel
theorem dX3_unpack_65 : decode cX3_unpack 65 = .ok (.invokestatic 101, 3) := by decide +kernel
theorem dX3_unpack_68 : decode cX3_unpack 68 = .ok (.iconst 1, 1) := by decide +kernel
theorem dX3_unpack_69 : decode cX3_unpack 69 = .ok (.ireturn, 1) := by decide +kernel
theorem dX4_init_0 : decode cX4_init 0 = .ok (.aload_n 0, 1) := by decide +kernel
theorem dX4_init_1 : decode cX4_init 1 = .ok (.invokespecial 1, 3) := by decide +kernel
theorem dX4_init_4 : decode cX4_init 4 = .ok (.aload_n 0, 1) := by decide +kernel
theorem dX4_init_5 : decode cX4_init 5 = .ok (.sipush 256, 3) := by decide +kernel
theorem dX4_init_8 : decode cX4_init 8 = .ok (.newarray .int, 2) := by decide +kernel
theorem dX4_init_10 : decode cX4_init 10 = .ok (.putfield 7, 3) := by decide +kernel
theorem dX4_init_13 : decode cX4_init 13 = .ok (.aload_n 0, 1) := by decide +kernel
theorem dX4_init_14 : decode cX4_init 14 = .ok (.sipush 4096, 3) := by decide +kernel
theorem dX4_init_17 : decode cX4_init 17 = .ok (.newarray .int, 2) := by decide +kernel
theorem dX4_init_19 : decode cX4_init 19 = .ok (.putfield 13, 3) := by decide +kernel
theorem dX4_init_22 : decode cX4_init 22 = .ok (.aload_n 0, 1) := by decide +kernel
theorem dX4_init_23 : decode cX4_init 23 = .ok (.sipush 4096, 3) := by decide +kernel
theorem dX4_init_26 : decode cX4_init 26 = .ok (.newarray .int, 2) := by decide +kernel
theorem dX4_init_28 : decode cX4_init 28 = .ok (.putfield 16, 3) := by decide +kernel
theorem dX4_init_31 : decode cX4_init 31 = .ok (.aload_n 0, 1) := by decide +kernel
theorem dX4_init_32 : decode cX4_init 32 = .ok (.bipush 32, 2) := by decide +kernel
theorem dX4_init_34 : decode cX4_init 34 = .ok (.newarray .int, 2) := by decide +kernel
theorem dX4_init_36 : decode cX4_init 36 = .ok (.putfield 19, 3) := by decide +kernel
theorem dX4_init_39 : decode cX4_init 39 = .ok (.aload_n 0, 1) := by decide +kernel
theorem dX4_init_40 : decode cX4_init 40 = .ok (.bipush 32, 2) := by decide +kernel
theorem dX4_init_42 : decode cX4_init 42 = .ok (.newarray .int, 2) := by decide +kernel
theorem dX4_init_44 : decode cX4_init 44 = .ok (.putfield 22, 3) := by decide +kernel
theorem dX4_init_47 : decode cX4_init 47 = .ok (.aload_n 0, 1) := by decide +kernel
theorem dX4_init_48 : decode cX4_init 48 = .ok (.sipush 600, 3) := by decide +kernel
theorem dX4_init_51 : decode cX4_init 51 = .ok (.newarray .int, 2) := by decide +kernel
theorem dX4_init_53 : decode cX4_init 53 = .ok (.putfield 25, 3) := by decide +kernel
theorem dX4_init_56 : decode cX4_init 56 = .ok (.aload_n 0, 1) := by decide +kernel
theorem dX4_init_57 : decode cX4_init 57 = .ok (.iconst (-1), 1) := by decide +kernel
theorem dX4_init_58 : decode cX4_init 58 = .ok (.putfield 28, 3) := by decide +kernel
theorem dX4_init_61 : decode cX4_init 61 = .ok (.aload_n 0, 1) := by decide +kernel
theorem dX4_init_62 : decode cX4_init 62 = .ok (.sipush 600, 3) := by decide +kernel
theorem dX4_init_65 : decode cX4_init 65 = .ok (.newarray .int, 2) := by decide +kernel
theorem dX4_init_67 : decode cX4_init 67 = .ok (.putfield 32, 3) := by decide +kernel
theorem dX4_init_70 : decode cX4_init 70 = .ok (.aload_n 0, 1) := by decide +kernel
theorem dX4_init_71 : decode cX4_init 71 = .ok (.sipush 600, 3) := by decide +kernel
theorem dX4_init_74 : decode cX4_init 74 = .ok (.newarray .int, 2) := by decide +kernel
theorem dX4_init_76 : decode cX4_init 76 = .ok (.putfield 35, 3) := by decide +kernel
theorem dX4_init_79 : decode cX4_init 79 = .ok (.aload_n 0, 1) := by decide +kernel
theorem dX4_init_80 : decode cX4_init 80 = .ok (.sipush 256, 3) := by decide +kernel
theorem dX4_init_83 : decode cX4_init 83 = .ok (.newarray .int, 2) := by decide +kernel
theorem dX4_init_85 : decode cX4_init 85 = .ok (.putfield 38, 3) := by decide +kernel
theorem dX4_init_88 : decode cX4_init 88 = .ok (.aload_n 0, 1) := by decide +kernel
theorem dX4_init_89 : decode cX4_init 89 = .ok (.iload_n 1, 1) := by decide +kernel
theorem dX4_init_90 : decode cX4_init 90 = .ok (.ifCond .ge 7, 3) := by decide +kernel
theorem dX4_init_93 : decode cX4_init 93 = .ok (.iconst 0, 1) := by decide +kernel
theorem dX4_init_94 : decode cX4_init 94 = .ok (.goto 17, 3) := by decide +kernel
theorem dX4_init_97 : decode cX4_init 97 = .ok (.iload_n 1, 1) := by decide +kernel
theorem dX4_init_98 : decode cX4_init 98 = .ok (.sipush 4096, 3) := by decide +kernel
theorem dX4_init_101 : decode cX4_init 101 = .ok (.if_icmp .le 9, 3) := by decide +kernel
theorem dX4_init_104 : decode cX4_init 104 = .ok (.sipush 4096, 3) := by decide +kernel
theorem dX4_init_107 : decode cX4_init 107 = .ok (.goto 4, 3) := by decide +kernel
theorem dX4_init_110 : decode cX4_init 110 = .ok (.iload_n 1, 1) := by decide +kernel
theorem dX4_init_111 : decode cX4_init 111 = .ok (.putfield 41, 3) := by decide +kernel
theorem dX4_init_114 : decode cX4_init 114 = .ok (.return_, 1) := by decide +kernel
theorem dX4_isIn_0 : decode cX4_isIn 0 = .ok (.iload_n 0, 1) := by decide +kernel
theorem dX4_isIn_1 : decode cX4_isIn 1 = .ok (.iload_n 1, 1) := by decide +kernel
theorem dX4_isIn_2 : decode cX4_isIn 2 = .ok (.if_icmp .lt 12, 3) := by decide +kernel
theorem dX4_isIn_5 : decode cX4_isIn 5 = .ok (.iload_n 0, 1) := by decide +kernel
theorem dX4_isIn_6 : decode cX4_isIn 6 = .ok (.iload_n 2, 1) := by decide +kernel
theorem dX4_isIn_7 : decode cX4_isIn 7 = .ok (.if_icmp .gt 7, 3) := by decide +kernel
theorem dX4_isIn_10 : decode cX4_isIn 10 = .ok (.iconst 1, 1) := by decide +kernel
theorem dX4_isIn_11 : decode cX4_isIn 11 = .ok (.goto 4, 3) := by decide +kernel
theorem dX4_isIn_14 : decode cX4_isIn 14 = .ok (.iconst 0, 1) := by decide +kernel
theorem dX4_isIn_15 : decode cX4_isIn 15 = .ok (.ireturn, 1) := by decide +kernel
theorem dX4_fill_0 : decode cX4_fill 0 = .ok (.iload_n 1, 1) := by decide +kernel
theorem dX4_fill_1 : decode cX4_fill 1 = .ok (.iconst 0, 1) := by decide +kernel
theorem dX4_fill_2 : decode cX4_fill 2 = .ok (.sipush 252, 3) := by decide +kernel
theorem dX4_fill_5 : decode cX4_fill 5 = .ok (.invokestatic 44, 3) := by decide +kernel
theorem dX4_fill_8 : decode cX4_fill 8 = .ok (.ifCond .ne 6, 3) := by decide +kernel
theorem dX4_fill_11 : decode cX4_fill 11 = .ok (.bipush (-12), 2) := by decide +kernel
theorem dX4_fill_13 : decode cX4_fill 13 = .ok (.ireturn, 1) := by decide +kernel
theorem dX4_fill_14 : decode cX4_fill 14 = .ok (.iconst 0, 1) := by decide +kernel
theorem dX4_fill_15 : decode cX4_fill 15 = .ok (.istore_n 3, 1) := by decide +kernel
theorem dX4_fill_16 : decode cX4_fill 16 = .ok (.iload_n 3, 1) := by decide +kernel
theorem dX4_fill_17 : decode cX4_fill 17 = .ok (.iconst 4, 1) := by decide +kernel
theorem dX4_fill_18 : decode cX4_fill 18 = .ok (.if_icmp .ge 30, 3) := by decide +kernel
theorem dX4_fill_21 : decode cX4_fill 21 = .ok (.aload_n 0, 1) := by decide +kernel
theorem dX4_fill_22 : decode cX4_fill 22 = .ok (.getfield 7, 3) := by decide +kernel
theorem dX4_fill_25 : decode cX4_fill 25 = .ok (.iload_n 1, 1) := by decide +kernel
theorem dX4_fill_26 : decode cX4_fill 26 = .ok (.iload_n 3, 1) := by decide +kernel
theorem dX4_fill_27 : decode cX4_fill 27 = .ok (.iadd, 1) := by decide +kernel
theorem dX4_fill_28 : decode cX4_fill 28 = .ok (.iload_n 2, 1) := by decide +kernel
theorem dX4_fill_29 : decode cX4_fill 29 = .ok (.bipush 24, 2) := by decide +kernel
theorem dX4_fill_31 : decode cX4_fill 31 = .ok (.bipush 8, 2) := by decide +kernel
theorem dX4_fill_33 : decode cX4_fill 33 = .ok (.iload_n 3, 1) := by decide +kernel
theorem dX4_fill_34 : decode cX4_fill 34 = .ok (.imul, 1) := by decide +kernel
theorem dX4_fill_35 : decode cX4_fill 35 = .ok (.isub, 1) := by decide +kernel
theorem dX4_fill_36 : decode cX4_fill 36 = .ok (.iushr, 1) := by decide +kernel
theorem dX4_fill_37 : decode cX4_fill 37 = .ok (.sipush 255, 3) := by decide +kernel
theorem dX4_fill_40 : decode cX4_fill 40 = .ok (.iand, 1) := by decide +kernel
theorem dX4_fill_41 : decode cX4_fill 41 = .ok (.iastore, 1) := by decide +kernel
theorem dX4_fill_42 : decode cX4_fill 42 = .ok (.iinc 3 1, 3) := by decide +kernel
theorem dX4_fill_45 : decode cX4_fill 45 = .ok (.goto (-29), 3) := by decide +kernel
theorem dX4_fill_48 : decode cX4_fill 48 = .ok (.iconst 1, 1) := by decide +kernel
theorem dX4_fill_49 : decode cX4_fill 49 = .ok (.ireturn, 1) := by decide +kernel
theorem dX4_run_0 : decode cX4_run 0 = .ok (.iload_n 1, 1) := by decide +kernel
theorem dX4_run_1 : decode cX4_run 1 = .ok (.iconst 0, 1) := by decide +kernel
theorem dX4_run_2 : decode cX4_run 2 = .ok (.sipush 255, 3) := by decide +kernel
theorem dX4_run_5 : decode cX4_run 5 = .ok (.invokestatic 44, 3) := by decide +kernel
theorem dX4_run_8 : decode cX4_run 8 = .ok (.ifCond .eq 16, 3) := by decide +kernel
theorem dX4_run_11 : decode cX4_run 11 = .ok (.iload_n 2, 1) := by decide +kernel
theorem dX4_run_12 : decode cX4_run 12 = .ok (.iconst 1, 1) := by decide +kernel
theorem dX4_run_13 : decode cX4_run 13 = .ok (.sipush 256, 3) := by decide +kernel
theorem dX4_run_16 : decode cX4_run 16 = .ok (.iload_n 1, 1) := by decide +kernel
theorem dX4_run_17 : decode cX4_run 17 = .ok (.isub, 1) := by decide +kernel
theorem dX4_run_18 : decode cX4_run 18 = .ok (.invokestatic 44, 3) := by decide +kernel
theorem dX4_run_21 : decode cX4_run 21 = .ok (.ifCond .ne 6, 3) := by decide +kernel
theorem dX4_run_24 : decode cX4_run 24 = .ok (.bipush (-12), 2) := by decide +kernel
theorem dX4_run_26 : decode cX4_run 26 = .ok (.ireturn, 1) := by decide +kernel
theorem dX4_run_27 : decode cX4_run 27 = .ok (.iload_n 1, 1) := by decide +kernel
theorem dX4_run_28 : decode cX4_run 28 = .ok (.istore 4, 2) := by decide +kernel
theorem dX4_run_30 : decode cX4_run 30 = .ok (.iload 4, 2) := by decide +kernel
theorem dX4_run_32 : decode cX4_run 32 = .ok (.iload_n 1, 1) := by decide +kernel
theorem dX4_run_33 : decode cX4_run 33 = .ok (.iload_n 2, 1) := by decide +kernel
theorem dX4_run_34 : decode cX4_run 34 = .ok (.iadd, 1) := by decide +kernel
theorem dX4_run_35 : decode cX4_run 35 = .ok (.if_icmp .ge 21, 3) := by decide +kernel
theorem dX4_run_38 : decode cX4_run 38 = .ok (.aload_n 0, 1) := by decide +kernel
theorem dX4_run_39 : decode cX4_run 39 = .ok (.getfield 7, 3) := by decide +kernel
theorem dX4_run_42 : decode cX4_run 42 = .ok (.iload 4, 2) := by decide +kernel
theorem dX4_run_44 : decode cX4_run 44 = .ok (.iload_n 3, 1) := by decide +kernel
theorem dX4_run_45 : decode cX4_run 45 = .ok (.sipush 255, 3) := by decide +kernel
theorem dX4_run_48 : decode cX4_run 48 = .ok (.iand, 1) := by decide +kernel
theorem dX4_run_49 : decode cX4_run 49 = .ok (.iastore, 1) := by decide +kernel
theorem dX4_run_50 : decode cX4_run 50 = .ok (.iinc 4 1, 3) := by decide +kernel
theorem dX4_run_53 : decode cX4_run 53 = .ok (.goto (-23), 3) := by decide +kernel
theorem dX4_run_56 : decode cX4_run 56 = .ok (.iconst 1, 1) := by decide +kernel
theorem dX4_run_57 : decode cX4_run 57 = .ok (.ireturn, 1) := by decide +kernel
theorem dX4_copy_0 : decode cX4_copy 0 = .ok (.iload_n 1, 1) := by decide +kernel
theorem dX4_copy_1 : decode cX4_copy 1 = .ok (.iconst 0, 1) := by decide +kernel
theorem dX4_copy_2 : decode cX4_copy 2 = .ok (.sipush 255, 3) := by decide +kernel
theorem dX4_copy_5 : decode cX4_copy 5 = .ok (.invokestatic 44, 3) := by decide +kernel
theorem dX4_copy_8 : decode cX4_copy 8 = .ok (.ifCond .eq 36, 3) := by decide +kernel
theorem dX4_copy_11 : decode cX4_copy 11 = .ok (.iload_n 2, 1) := by decide +kernel
theorem dX4_copy_12 : decode cX4_copy 12 = .ok (.iconst 0, 1) := by decide +kernel
theorem dX4_copy_13 : decode cX4_copy 13 = .ok (.sipush 255, 3) := by decide +kernel
theorem dX4_copy_16 : decode cX4_copy 16 = .ok (.invokestatic 44, 3) := by decide +kernel
theorem dX4_copy_19 : decode cX4_copy 19 = .ok (.ifCond .eq 25, 3) := by decide +kernel
theorem dX4_copy_22 : decode cX4_copy 22 = .ok (.iload_n 3, 1) := by decide +kernel
theorem dX4_copy_23 : decode cX4_copy 23 = .ok (.iconst 1, 1) := by decide +kernel
theorem dX4_copy_24 : decode cX4_copy 24 = .ok (.sipush 256, 3) := by decide +kernel
theorem dX4_copy_27 : decode cX4_copy 27 = .ok (.iload_n 1, 1) := by decide +kernel
theorem dX4_copy_28 : decode cX4_copy 28 = .ok (.isub, 1) := by decide +kernel
theorem dX4_copy_29 : decode cX4_copy 29 = .ok (.invokestatic 44, 3) := by decide +kernel
theorem dX4_copy_32 : decode cX4_copy 32 = .ok (.ifCond .eq 12, 3) := by decide +kernel
theorem dX4_copy_35 : decode cX4_copy 35 = .ok (.iload_n 3, 1) := by decide +kernel
theorem dX4_copy_36 : decode cX4_copy 36 = .ok (.sipush 256, 3) := by decide +kernel
theorem dX4_copy_39 : decode cX4_copy 39 = .ok (.iload_n 2, 1) := by decide +kernel
theorem dX4_copy_40 : decode cX4_copy 40 = .ok (.isub, 1) := by decide +kernel
theorem dX4_copy_41 : decode cX4_copy 41 = .ok (.if_icmp .le 6, 3) := by decide +kernel
theorem dX4_copy_44 : decode cX4_copy 44 = .ok (.bipush (-12), 2) := by decide +kernel
theorem dX4_copy_46 : decode cX4_copy 46 = .ok (.ireturn, 1) := by decide +kernel
theorem dX4_copy_47 : decode cX4_copy 47 = .ok (.iconst 0, 1) := by decide +kernel
theorem dX4_copy_48 : decode cX4_copy 48 = .ok (.istore 4, 2) := by decide +kernel
theorem dX4_copy_50 : decode cX4_copy 50 = .ok (.iload 4, 2) := by decide +kernel
theorem dX4_copy_52 : decode cX4_copy 52 = .ok (.iload_n 3, 1) := by decide +kernel
theorem dX4_copy_53 : decode cX4_copy 53 = .ok (.if_icmp .ge 27, 3) := by decide +kernel
theorem dX4_copy_56 : decode cX4_copy 56 = .ok (.aload_n 0, 1) := by decide +kernel
theorem dX4_copy_57 : decode cX4_copy 57 = .ok (.getfield 7, 3) := by decide +kernel
theorem dX4_copy_60 : decode cX4_copy 60 = .ok (.iload_n 1, 1) := by decide +kernel
theorem dX4_copy_61 : decode cX4_copy 61 = .ok (.iload 4, 2) := by decide +kernel
theorem dX4_copy_63 : decode cX4_copy 63 = .ok (.iadd, 1) := by decide +kernel
theorem dX4_copy_64 : decode cX4_copy 64 = .ok (.aload_n 0, 1) := by decide +kernel
theorem dX4_copy_65 : decode cX4_copy 65 = .ok (.getfield 7, 3) := by decide +kernel
theorem dX4_copy_68 : decode cX4_copy 68 = .ok (.iload_n 2, 1) := by decide +kernel
theorem dX4_copy_69 : decode cX4_copy 69 = .ok (.iload 4, 2) := by decide +kernel
theorem dX4_copy_71 : decode cX4_copy 71 = .ok (.iadd, 1) := by decide +kernel
theorem dX4_copy_72 : decode cX4_copy 72 = .ok (.iaload, 1) := by decide +kernel
theorem dX4_copy_73 : decode cX4_copy 73 = .ok (.iastore, 1) := by decide +kernel
theorem dX4_copy_74 : decode cX4_copy 74 = .ok (.iinc 4 1, 3) := by decide +kernel
theorem dX4_copy_77 : decode cX4_copy 77 = .ok (.goto (-27), 3) := by decide +kernel
theorem dX4_copy_80 : decode cX4_copy 80 = .ok (.iconst 1, 1) := by decide +kernel
theorem dX4_copy_81 : decode cX4_copy 81 = .ok (.ireturn, 1) := by decide +kernel
theorem dX4_octet_0 : decode cX4_octet 0 = .ok (.iload_n 1, 1) := by decide +kernel
theorem dX4_octet_1 : decode cX4_octet 1 = .ok (.iconst 0, 1) := by decide +kernel
theorem dX4_octet_2 : decode cX4_octet 2 = .ok (.sipush 255, 3) := by decide +kernel
theorem dX4_octet_5 : decode cX4_octet 5 = .ok (.invokestatic 44, 3) := by decide +kernel
theorem dX4_octet_8 : decode cX4_octet 8 = .ok (.ifCond .eq 12, 3) := by decide +kernel
theorem dX4_octet_11 : decode cX4_octet 11 = .ok (.aload_n 0, 1) := by decide +kernel
theorem dX4_octet_12 : decode cX4_octet 12 = .ok (.getfield 7, 3) := by decide +kernel
theorem dX4_octet_15 : decode cX4_octet 15 = .ok (.iload_n 1, 1) := by decide +kernel
theorem dX4_octet_16 : decode cX4_octet 16 = .ok (.iaload, 1) := by decide +kernel
theorem dX4_octet_17 : decode cX4_octet 17 = .ok (.goto 4, 3) := by decide +kernel
theorem dX4_octet_20 : decode cX4_octet 20 = .ok (.iconst (-1), 1) := by decide +kernel
theorem dX4_octet_21 : decode cX4_octet 21 = .ok (.ireturn, 1) := by decide +kernel
theorem dX4_byteOut_0 : decode cX4_byteOut 0 = .ok (.aload_n 0, 1) := by decide +kernel
theorem dX4_byteOut_1 : decode cX4_byteOut 1 = .ok (.getfield 32, 3) := by decide +kernel
theorem dX4_byteOut_4 : decode cX4_byteOut 4 = .ok (.aload_n 0, 1) := by decide +kernel
theorem dX4_byteOut_5 : decode cX4_byteOut 5 = .ok (.getfield 48, 3) := by decide +kernel
theorem dX4_byteOut_8 : decode cX4_byteOut 8 = .ok (.iload_n 1, 1) := by decide +kernel
theorem dX4_byteOut_9 : decode cX4_byteOut 9 = .ok (.iastore, 1) := by decide +kernel
theorem dX4_byteOut_10 : decode cX4_byteOut 10 = .ok (.aload_n 0, 1) := by decide +kernel
theorem dX4_byteOut_11 : decode cX4_byteOut 11 = .ok (.dup, 1) := by decide +kernel
theorem dX4_byteOut_12 : decode cX4_byteOut 12 = .ok (.getfield 48, 3) := by decide +kernel
theorem dX4_byteOut_15 : decode cX4_byteOut 15 = .ok (.iconst 1, 1) := by decide +kernel
theorem dX4_byteOut_16 : decode cX4_byteOut 16 = .ok (.iadd, 1) := by decide +kernel
theorem dX4_byteOut_17 : decode cX4_byteOut 17 = .ok (.putfield 48, 3) := by decide +kernel
theorem dX4_byteOut_20 : decode cX4_byteOut 20 = .ok (.return_, 1) := by decide +kernel
theorem dX4_more_0 : decode cX4_more 0 = .ok (.iload_n 1, 1) := by decide +kernel
theorem dX4_more_1 : decode cX4_more 1 = .ok (.bipush 15, 2) := by decide +kernel
theorem dX4_more_3 : decode cX4_more 3 = .ok (.if_icmp .ge 4, 3) := by decide +kernel
theorem dX4_more_6 : decode cX4_more 6 = .ok (.return_, 1) := by decide +kernel
theorem dX4_more_7 : decode cX4_more 7 = .ok (.iload_n 1, 1) := by decide +kernel
theorem dX4_more_8 : decode cX4_more 8 = .ok (.bipush 15, 2) := by decide +kernel
theorem dX4_more_10 : decode cX4_more 10 = .ok (.isub, 1) := by decide +kernel
theorem dX4_more_11 : decode cX4_more 11 = .ok (.istore_n 2, 1) := by decide +kernel
theorem dX4_more_12 : decode cX4_more 12 = .ok (.iload_n 2, 1) := by decide +kernel
theorem dX4_more_13 : decode cX4_more 13 = .ok (.sipush 254, 3) := by decide +kernel
