theorem dRw_init_0 : decode cRw_init 0 = .ok (.aload_n 0, 1) := by decide +kernel
theorem dRw_init_1 : decode cRw_init 1 = .ok (.invokespecial 3, 3) := by decide +kernel
theorem dRw_init_4 : decode cRw_init 4 = .ok (.aload_n 0, 1) := by decide +kernel
theorem dRw_init_5 : decode cRw_init 5 = .ok (.bipush 64, 2) := by decide +kernel
theorem dRw_init_7 : decode cRw_init 7 = .ok (.newarray .byte, 2) := by decide +kernel
theorem dRw_init_9 : decode cRw_init 9 = .ok (.putfield 9, 3) := by decide +kernel
theorem dRw_init_12 : decode cRw_init 12 = .ok (.return_, 1) := by decide +kernel
theorem dRw_append_0 : decode cRw_append 0 = .ok (.aload_n 0, 1) := by decide +kernel
theorem dRw_append_1 : decode cRw_append 1 = .ok (.aload_n 0, 1) := by decide +kernel
theorem dRw_append_2 : decode cRw_append 2 = .ok (.getfield 27, 3) := by decide +kernel
theorem dRw_append_5 : decode cRw_append 5 = .ok (.iload_n 3, 1) := by decide +kernel
theorem dRw_append_6 : decode cRw_append 6 = .ok (.iadd, 1) := by decide +kernel
theorem dRw_append_7 : decode cRw_append 7 = .ok (.invokevirtual 31, 3) := by decide +kernel
theorem dRw_append_10 : decode cRw_append 10 = .ok (.aload_n 1, 1) := by decide +kernel
theorem dRw_append_11 : decode cRw_append 11 = .ok (.iload_n 2, 1) := by decide +kernel
theorem dRw_append_12 : decode cRw_append 12 = .ok (.aload_n 0, 1) := by decide +kernel
theorem dRw_append_13 : decode cRw_append 13 = .ok (.getfield 9, 3) := by decide +kernel
theorem dRw_append_16 : decode cRw_append 16 = .ok (.aload_n 0, 1) := by decide +kernel
theorem dRw_append_17 : decode cRw_append 17 = .ok (.getfield 27, 3) := by decide +kernel
theorem dRw_append_20 : decode cRw_append 20 = .ok (.iload_n 3, 1) := by decide +kernel
theorem dRw_append_21 : decode cRw_append 21 = .ok (.invokestatic 38, 3) := by decide +kernel
theorem dRw_append_24 : decode cRw_append 24 = .ok (.aload_n 0, 1) := by decide +kernel
theorem dRw_append_25 : decode cRw_append 25 = .ok (.dup, 1) := by decide +kernel
theorem dRw_append_26 : decode cRw_append 26 = .ok (.getfield 27, 3) := by decide +kernel
theorem dRw_append_29 : decode cRw_append 29 = .ok (.iload_n 3, 1) := by decide +kernel
theorem dRw_append_30 : decode cRw_append 30 = .ok (.iadd, 1) := by decide +kernel
theorem dRw_append_31 : decode cRw_append 31 = .ok (.putfield 27, 3) := by decide +kernel
theorem dRw_append_34 : decode cRw_append 34 = .ok (.return_, 1) := by decide +kernel
theorem dRw_appendByte_0 : decode cRw_appendByte 0 = .ok (.aload_n 0, 1) := by decide +kernel
theorem dRw_appendByte_1 : decode cRw_appendByte 1 = .ok (.aload_n 0, 1) := by decide +kernel
theorem dRw_appendByte_2 : decode cRw_appendByte 2 = .ok (.getfield 27, 3) := by decide +kernel
theorem dRw_appendByte_5 : decode cRw_appendByte 5 = .ok (.iconst 1, 1) := by decide +kernel
theorem dRw_appendByte_6 : decode cRw_appendByte 6 = .ok (.iadd, 1) := by decide +kernel
theorem dRw_appendByte_7 : decode cRw_appendByte 7 = .ok (.invokevirtual 31, 3) := by decide +kernel
theorem dRw_appendByte_10 : decode cRw_appendByte 10 = .ok (.aload_n 0, 1) := by decide +kernel
theorem dRw_appendByte_11 : decode cRw_appendByte 11 = .ok (.getfield 9, 3) := by decide +kernel
theorem dRw_appendByte_14 : decode cRw_appendByte 14 = .ok (.aload_n 0, 1) := by decide +kernel
theorem dRw_appendByte_15 : decode cRw_appendByte 15 = .ok (.getfield 27, 3) := by decide +kernel
theorem dRw_appendByte_18 : decode cRw_appendByte 18 = .ok (.iload_n 1, 1) := by decide +kernel
theorem dRw_appendByte_19 : decode cRw_appendByte 19 = .ok (.i2b, 1) := by decide +kernel
theorem dRw_appendByte_20 : decode cRw_appendByte 20 = .ok (.bastore, 1) := by decide +kernel
theorem dRw_appendByte_21 : decode cRw_appendByte 21 = .ok (.aload_n 0, 1) := by decide +kernel
theorem dRw_appendByte_22 : decode cRw_appendByte 22 = .ok (.dup, 1) := by decide +kernel
theorem dRw_appendByte_23 : decode cRw_appendByte 23 = .ok (.getfield 27, 3) := by decide +kernel
theorem dRw_appendByte_26 : decode cRw_appendByte 26 = .ok (.iconst 1, 1) := by decide +kernel
theorem dRw_appendByte_27 : decode cRw_appendByte 27 = .ok (.iadd, 1) := by decide +kernel
theorem dRw_appendByte_28 : decode cRw_appendByte 28 = .ok (.putfield 27, 3) := by decide +kernel
theorem dRw_appendByte_31 : decode cRw_appendByte 31 = .ok (.return_, 1) := by decide +kernel
theorem dRw_appendNumber_0 : decode cRw_appendNumber 0 = .ok (.aload_n 0, 1) := by decide +kernel
theorem dRw_appendNumber_1 : decode cRw_appendNumber 1 = .ok (.iload_n 1, 1) := by decide +kernel
theorem dRw_appendNumber_2 : decode cRw_appendNumber 2 = .ok (.bipush 24, 2) := by decide +kernel
theorem dRw_appendNumber_4 : decode cRw_appendNumber 4 = .ok (.iushr, 1) := by decide +kernel
theorem dRw_appendNumber_5 : decode cRw_appendNumber 5 = .ok (.invokevirtual 35, 3) := by decide +kernel
theorem dRw_appendNumber_8 : decode cRw_appendNumber 8 = .ok (.aload_n 0, 1) := by decide +kernel
theorem dRw_appendNumber_9 : decode cRw_appendNumber 9 = .ok (.iload_n 1, 1) := by decide +kernel
theorem dRw_appendNumber_10 : decode cRw_appendNumber 10 = .ok (.bipush 16, 2) := by decide +kernel
theorem dRw_appendNumber_12 : decode cRw_appendNumber 12 = .ok (.iushr, 1) := by decide +kernel
theorem dRw_appendNumber_13 : decode cRw_appendNumber 13 = .ok (.invokevirtual 35, 3) := by decide +kernel
theorem dRw_appendNumber_16 : decode cRw_appendNumber 16 = .ok (.aload_n 0, 1) := by decide +kernel
theorem dRw_appendNumber_17 : decode cRw_appendNumber 17 = .ok (.iload_n 1, 1) := by decide +kernel
theorem dRw_appendNumber_18 : decode cRw_appendNumber 18 = .ok (.bipush 8, 2) := by decide +kernel
theorem dRw_appendNumber_20 : decode cRw_appendNumber 20 = .ok (.iushr, 1) := by decide +kernel
theorem dRw_appendNumber_21 : decode cRw_appendNumber 21 = .ok (.invokevirtual 35, 3) := by decide +kernel
theorem dRw_appendNumber_24 : decode cRw_appendNumber 24 = .ok (.aload_n 0, 1) := by decide +kernel
theorem dRw_appendNumber_25 : decode cRw_appendNumber 25 = .ok (.iload_n 1, 1) := by decide +kernel
theorem dRw_appendNumber_26 : decode cRw_appendNumber 26 = .ok (.invokevirtual 35, 3) := by decide +kernel
theorem dRw_appendNumber_29 : decode cRw_appendNumber 29 = .ok (.return_, 1) := by decide +kernel
theorem dRw_becomeCopyOf_0 : decode cRw_becomeCopyOf 0 = .ok (.aload_n 0, 1) := by decide +kernel
theorem dRw_becomeCopyOf_1 : decode cRw_becomeCopyOf 1 = .ok (.iconst 0, 1) := by decide +kernel
theorem dRw_becomeCopyOf_2 : decode cRw_becomeCopyOf 2 = .ok (.putfield 27, 3) := by decide +kernel
theorem dRw_becomeCopyOf_5 : decode cRw_becomeCopyOf 5 = .ok (.aload_n 0, 1) := by decide +kernel
theorem dRw_becomeCopyOf_6 : decode cRw_becomeCopyOf 6 = .ok (.aload_n 1, 1) := by decide +kernel
theorem dRw_becomeCopyOf_7 : decode cRw_becomeCopyOf 7 = .ok (.getfield 9, 3) := by decide +kernel
theorem dRw_becomeCopyOf_10 : decode cRw_becomeCopyOf 10 = .ok (.iconst 0, 1) := by decide +kernel
theorem dRw_becomeCopyOf_11 : decode cRw_becomeCopyOf 11 = .ok (.aload_n 1, 1) := by decide +kernel
theorem dRw_becomeCopyOf_12 : decode cRw_becomeCopyOf 12 = .ok (.getfield 27, 3) := by decide +kernel
theorem dRw_becomeCopyOf_15 : decode cRw_becomeCopyOf 15 = .ok (.invokevirtual 44, 3) := by decide +kernel
theorem dRw_becomeCopyOf_18 : decode cRw_becomeCopyOf 18 = .ok (.return_, 1) := by decide +kernel
theorem dRw_makeRoom_0 : decode cRw_makeRoom 0 = .ok (.iload_n 1, 1) := by decide +kernel
theorem dRw_makeRoom_1 : decode cRw_makeRoom 1 = .ok (.aload_n 0, 1) := by decide +kernel
theorem dRw_makeRoom_2 : decode cRw_makeRoom 2 = .ok (.getfield 9, 3) := by decide +kernel
theorem dRw_makeRoom_5 : decode cRw_makeRoom 5 = .ok (.arraylength, 1) := by decide +kernel
theorem dRw_makeRoom_6 : decode cRw_makeRoom 6 = .ok (.if_icmp .le 25, 3) := by decide +kernel
theorem dRw_makeRoom_9 : decode cRw_makeRoom 9 = .ok (.aload_n 0, 1) := by decide +kernel
theorem dRw_makeRoom_10 : decode cRw_makeRoom 10 = .ok (.aload_n 0, 1) := by decide +kernel
theorem dRw_makeRoom_11 : decode cRw_makeRoom 11 = .ok (.getfield 9, 3) := by decide +kernel
theorem dRw_makeRoom_14 : decode cRw_makeRoom 14 = .ok (.iload_n 1, 1) := by decide +kernel
theorem dRw_makeRoom_15 : decode cRw_makeRoom 15 = .ok (.iconst 2, 1) := by decide +kernel
theorem dRw_makeRoom_16 : decode cRw_makeRoom 16 = .ok (.aload_n 0, 1) := by decide +kernel
theorem dRw_makeRoom_17 : decode cRw_makeRoom 17 = .ok (.getfield 9, 3) := by decide +kernel
theorem dRw_makeRoom_20 : decode cRw_makeRoom 20 = .ok (.arraylength, 1) := by decide +kernel
theorem dRw_makeRoom_21 : decode cRw_makeRoom 21 = .ok (.imul, 1) := by decide +kernel
theorem dRw_makeRoom_22 : decode cRw_makeRoom 22 = .ok (.invokestatic 15, 3) := by decide +kernel
theorem dRw_makeRoom_25 : decode cRw_makeRoom 25 = .ok (.invokestatic 21, 3) := by decide +kernel
theorem dRw_makeRoom_28 : decode cRw_makeRoom 28 = .ok (.putfield 9, 3) := by decide +kernel
theorem dRw_makeRoom_31 : decode cRw_makeRoom 31 = .ok (.return_, 1) := by decide +kernel
theorem dAr_copyOf_0 : decode cAr_copyOf 0 = .ok (.iload_n 1, 1) := by decide +kernel
theorem dAr_copyOf_1 : decode cAr_copyOf 1 = .ok (.aload_n 0, 1) := by decide +kernel
theorem dAr_copyOf_2 : decode cAr_copyOf 2 = .ok (.arraylength, 1) := by decide +kernel
theorem dAr_copyOf_3 : decode cAr_copyOf 3 = .ok (.if_icmp .ne 11, 3) := by decide +kernel
theorem dAr_copyOf_6 : decode cAr_copyOf 6 = .ok (.aload_n 0, 1) := by decide +kernel
theorem dAr_copyOf_7 : decode cAr_copyOf 7 = .ok (.invokevirtual 310, 3) := by decide +kernel
theorem dAr_copyOf_10 : decode cAr_copyOf 10 = .ok (.checkcast 311, 3) := by decide +kernel
theorem dAr_copyOf_13 : decode cAr_copyOf 13 = .ok (.areturn, 1) := by decide +kernel
theorem dAr_copyOf_14 : decode cAr_copyOf 14 = .ok (.iload_n 1, 1) := by decide +kernel
theorem dAr_copyOf_15 : decode cAr_copyOf 15 = .ok (.newarray .byte, 2) := by decide +kernel
theorem dAr_copyOf_17 : decode cAr_copyOf 17 = .ok (.astore_n 2, 1) := by decide +kernel
theorem dAr_copyOf_18 : decode cAr_copyOf 18 = .ok (.aload_n 0, 1) := by decide +kernel
theorem dAr_copyOf_19 : decode cAr_copyOf 19 = .ok (.iconst 0, 1) := by decide +kernel
theorem dAr_copyOf_20 : decode cAr_copyOf 20 = .ok (.aload_n 2, 1) := by decide +kernel
theorem dAr_copyOf_21 : decode cAr_copyOf 21 = .ok (.iconst 0, 1) := by decide +kernel
theorem dAr_copyOf_22 : decode cAr_copyOf 22 = .ok (.aload_n 0, 1) := by decide +kernel
theorem dAr_copyOf_23 : decode cAr_copyOf 23 = .ok (.arraylength, 1) := by decide +kernel
theorem dAr_copyOf_24 : decode cAr_copyOf 24 = .ok (.iload_n 1, 1) := by decide +kernel
theorem dAr_copyOf_25 : decode cAr_copyOf 25 = .ok (.invokestatic 304, 3) := by decide +kernel
theorem dAr_copyOf_28 : decode cAr_copyOf 28 = .ok (.invokestatic 150, 3) := by decide +kernel
theorem dAr_copyOf_31 : decode cAr_copyOf 31 = .ok (.aload_n 2, 1) := by decide +kernel
theorem dAr_copyOf_32 : decode cAr_copyOf 32 = .ok (.areturn, 1) := by decide +kernel
theorem dAr_fill0_0 : decode cAr_fill0 0 = .ok (.iconst 0, 1) := by decide +kernel
theorem dAr_fill0_1 : decode cAr_fill0 1 = .ok (.istore_n 2, 1) := by decide +kernel
theorem dAr_fill0_2 : decode cAr_fill0 2 = .ok (.aload_n 0, 1) := by decide +kernel
theorem dAr_fill0_3 : decode cAr_fill0 3 = .ok (.arraylength, 1) := by decide +kernel
theorem dAr_fill0_4 : decode cAr_fill0 4 = .ok (.istore_n 3, 1) := by decide +kernel
theorem dAr_fill0_5 : decode cAr_fill0 5 = .ok (.iload_n 2, 1) := by decide +kernel
theorem dAr_fill0_6 : decode cAr_fill0 6 = .ok (.iload_n 3, 1) := by decide +kernel
theorem dAr_fill0_7 : decode cAr_fill0 7 = .ok (.if_icmp .ge 13, 3) := by decide +kernel
theorem dAr_fill0_10 : decode cAr_fill0 10 = .ok (.aload_n 0, 1) := by decide +kernel
theorem dAr_fill0_11 : decode cAr_fill0 11 = .ok (.iload_n 2, 1) := by decide +kernel
theorem dAr_fill0_12 : decode cAr_fill0 12 = .ok (.iload_n 1, 1) := by decide +kernel
theorem dAr_fill0_13 : decode cAr_fill0 13 = .ok (.bastore, 1) := by decide +kernel
theorem dAr_fill0_14 : decode cAr_fill0 14 = .ok (.iinc 2 1, 3) := by decide +kernel
theorem dAr_fill0_17 : decode cAr_fill0 17 = .ok (.goto (-12), 3) := by decide +kernel
theorem dAr_fill0_20 : decode cAr_fill0 20 = .ok (.return_, 1) := by decide +kernel
theorem dAr_fill1_0 : decode cAr_fill1 0 = .ok (.aload_n 0, 1) := by decide +kernel
theorem dAr_fill1_1 : decode cAr_fill1 1 = .ok (.arraylength, 1) := by decide +kernel
theorem dAr_fill1_2 : decode cAr_fill1 2 = .ok (.iload_n 1, 1) := by decide +kernel
theorem dAr_fill1_3 : decode cAr_fill1 3 = .ok (.iload_n 2, 1) := by decide +kernel
theorem dAr_fill1_4 : decode cAr_fill1 4 = .ok (.invokestatic 13, 3) := by decide +kernel
theorem dAr_fill1_7 : decode cAr_fill1 7 = .ok (.iload_n 1, 1) := by decide +kernel
theorem dAr_fill1_8 : decode cAr_fill1 8 = .ok (.istore 4, 2) := by decide +kernel
theorem dAr_fill1_10 : decode cAr_fill1 10 = .ok (.iload 4, 2) := by decide +kernel
theorem dAr_fill1_12 : decode cAr_fill1 12 = .ok (.iload_n 2, 1) := by decide +kernel
theorem dAr_fill1_13 : decode cAr_fill1 13 = .ok (.if_icmp .ge 14, 3) := by decide +kernel
theorem dAr_fill1_16 : decode cAr_fill1 16 = .ok (.aload_n 0, 1) := by decide +kernel
theorem dAr_fill1_17 : decode cAr_fill1 17 = .ok (.iload 4, 2) := by decide +kernel
theorem dAr_fill1_19 : decode cAr_fill1 19 = .ok (.iload_n 3, 1) := by decide +kernel
theorem dAr_fill1_20 : decode cAr_fill1 20 = .ok (.bastore, 1) := by decide +kernel
theorem dAr_fill1_21 : decode cAr_fill1 21 = .ok (.iinc 4 1, 3) := by decide +kernel
theorem dAr_fill1_24 : decode cAr_fill1 24 = .ok (.goto (-14), 3) := by decide +kernel
theorem dAr_fill1_27 : decode cAr_fill1 27 = .ok (.return_, 1) := by decide +kernel
theorem dAr_rangeCheck_0 : decode cAr_rangeCheck 0 = .ok (.iload_n 1, 1) := by decide +kernel
theorem dAr_rangeCheck_1 : decode cAr_rangeCheck 1 = .ok (.iload_n 2, 1) := by decide +kernel
theorem dAr_rangeCheck_2 : decode cAr_rangeCheck 2 = .ok (.if_icmp .le 44, 3) := by decide +kernel
theorem dAr_rangeCheck_5 : decode cAr_rangeCheck 5 = .ok (.new 43, 3) := by decide +kernel
theorem dAr_rangeCheck_8 : decode cAr_rangeCheck 8 = .ok (.dup, 1) := by decide +kernel
theorem dAr_rangeCheck_9 : decode cAr_rangeCheck 9 = .ok (.new 45, 3) := by decide +kernel
theorem dAr_rangeCheck_12 : decode cAr_rangeCheck 12 = .ok (.dup, 1) := by decide +kernel
theorem dAr_rangeCheck_13 : decode cAr_rangeCheck 13 = .ok (.invokespecial 47, 3) := by decide +kernel
theorem dAr_rangeCheck_16 : decode cAr_rangeCheck 16 = .ok (.ldc 48, 2) := by decide +kernel
theorem dAr_rangeCheck_18 : decode cAr_rangeCheck 18 = .ok (.invokevirtual 50, 3) := by decide +kernel
theorem dAr_rangeCheck_21 : decode cAr_rangeCheck 21 = .ok (.iload_n 1, 1) := by decide +kernel
theorem dAr_rangeCheck_22 : decode cAr_rangeCheck 22 = .ok (.invokevirtual 54, 3) := by decide +kernel
theorem dAr_rangeCheck_25 : decode cAr_rangeCheck 25 = .ok (.ldc 57, 2) := by decide +kernel
theorem dAr_rangeCheck_27 : decode cAr_rangeCheck 27 = .ok (.invokevirtual 50, 3) := by decide +kernel
theorem dAr_rangeCheck_30 : decode cAr_rangeCheck 30 = .ok (.iload_n 2, 1) := by decide +kernel
theorem dAr_rangeCheck_31 : decode cAr_rangeCheck 31 = .ok (.invokevirtual 54, 3) := by decide +kernel
theorem dAr_rangeCheck_34 : decode cAr_rangeCheck 34 = .ok (.ldc 59, 2) := by decide +kernel
theorem dAr_rangeCheck_36 : decode cAr_rangeCheck 36 = .ok (.invokevirtual 50, 3) := by decide +kernel
theorem dAr_rangeCheck_39 : decode cAr_rangeCheck 39 = .ok (.invokevirtual 61, 3) := by decide +kernel
theorem dAr_rangeCheck_42 : decode cAr_rangeCheck 42 = .ok (.invokespecial 65, 3) := by decide +kernel
theorem dAr_rangeCheck_45 : decode cAr_rangeCheck 45 = .ok (.athrow, 1) := by decide +kernel
theorem dAr_rangeCheck_46 : decode cAr_rangeCheck 46 = .ok (.iload_n 1, 1) := by decide +kernel
theorem dAr_rangeCheck_47 : decode cAr_rangeCheck 47 = .ok (.ifCond .ge 12, 3) := by decide +kernel
theorem dAr_rangeCheck_50 : decode cAr_rangeCheck 50 = .ok (.new 68, 3) := by decide +kernel
theorem dAr_rangeCheck_53 : decode cAr_rangeCheck 53 = .ok (.dup, 1) := by decide +kernel
theorem dAr_rangeCheck_54 : decode cAr_rangeCheck 54 = .ok (.iload_n 1, 1) := by decide +kernel
theorem dAr_rangeCheck_55 : decode cAr_rangeCheck 55 = .ok (.invokespecial 70, 3) := by decide +kernel
theorem dAr_rangeCheck_58 : decode cAr_rangeCheck 58 = .ok (.athrow, 1) := by decide +kernel
theorem dAr_rangeCheck_59 : decode cAr_rangeCheck 59 = .ok (.iload_n 2, 1) := by decide +kernel
theorem dAr_rangeCheck_60 : decode cAr_rangeCheck 60 = .ok (.iload_n 0, 1) := by decide +kernel
theorem dAr_rangeCheck_61 : decode cAr_rangeCheck 61 = .ok (.if_icmp .le 12, 3) := by decide +kernel
theorem dAr_rangeCheck_64 : decode cAr_rangeCheck 64 = .ok (.new 68, 3) := by decide +kernel
theorem dAr_rangeCheck_67 : decode cAr_rangeCheck 67 = .ok (.dup, 1) := by decide +kernel
theorem dAr_rangeCheck_68 : decode cAr_rangeCheck 68 = .ok (.iload_n 2, 1) := by decide +kernel
theorem dAr_rangeCheck_69 : decode cAr_rangeCheck 69 = .ok (.invokespecial 70, 3) := by decide +kernel
theorem dAr_rangeCheck_72 : decode cAr_rangeCheck 72 = .ok (.athrow, 1) := by decide +kernel
theorem dAr_rangeCheck_73 : decode cAr_rangeCheck 73 = .ok (.return_, 1) := by decide +kernel
