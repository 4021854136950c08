theorem dMc_init_0 : decode cMc_init 0 = .ok (.aload_n 0, 1) := by decide +kernel
theorem dMc_init_1 : decode cMc_init 1 = .ok (.invokespecial 1, 3) := by decide +kernel
theorem dMc_init_4 : decode cMc_init 4 = .ok (.aload_n 0, 1) := by decide +kernel
theorem dMc_init_5 : decode cMc_init 5 = .ok (.bipush 8, 2) := by decide +kernel
theorem dMc_init_7 : decode cMc_init 7 = .ok (.newarray .long, 2) := by decide +kernel
theorem dMc_init_9 : decode cMc_init 9 = .ok (.putfield 7, 3) := by decide +kernel
theorem dMc_init_12 : decode cMc_init 12 = .ok (.aload_n 0, 1) := by decide +kernel
theorem dMc_init_13 : decode cMc_init 13 = .ok (.bipush 8, 2) := by decide +kernel
theorem dMc_init_15 : decode cMc_init 15 = .ok (.newarray .long, 2) := by decide +kernel
theorem dMc_init_17 : decode cMc_init 17 = .ok (.putfield 13, 3) := by decide +kernel
theorem dMc_init_20 : decode cMc_init 20 = .ok (.aload_n 0, 1) := by decide +kernel
theorem dMc_init_21 : decode cMc_init 21 = .ok (.aload_n 1, 1) := by decide +kernel
theorem dMc_init_22 : decode cMc_init 22 = .ok (.putfield 16, 3) := by decide +kernel
theorem dMc_init_25 : decode cMc_init 25 = .ok (.aload_n 0, 1) := by decide +kernel
theorem dMc_init_26 : decode cMc_init 26 = .ok (.aload_n 1, 1) := by decide +kernel
theorem dMc_init_27 : decode cMc_init 27 = .ok (.getfield 20, 3) := by decide +kernel
theorem dMc_init_30 : decode cMc_init 30 = .ok (.arraylength, 1) := by decide +kernel
theorem dMc_init_31 : decode cMc_init 31 = .ok (.newarray .byte, 2) := by decide +kernel
theorem dMc_init_33 : decode cMc_init 33 = .ok (.putfield 26, 3) := by decide +kernel
theorem dMc_init_36 : decode cMc_init 36 = .ok (.aload_n 0, 1) := by decide +kernel
theorem dMc_init_37 : decode cMc_init 37 = .ok (.aload_n 1, 1) := by decide +kernel
theorem dMc_init_38 : decode cMc_init 38 = .ok (.getfield 29, 3) := by decide +kernel
theorem dMc_init_41 : decode cMc_init 41 = .ok (.newarray .byte, 2) := by decide +kernel
theorem dMc_init_43 : decode cMc_init 43 = .ok (.putfield 33, 3) := by decide +kernel
theorem dMc_init_46 : decode cMc_init 46 = .ok (.return_, 1) := by decide +kernel
theorem dMc_beginText_0 : decode cMc_beginText 0 = .ok (.aload_n 0, 1) := by decide +kernel
theorem dMc_beginText_1 : decode cMc_beginText 1 = .ok (.getfield 16, 3) := by decide +kernel
theorem dMc_beginText_4 : decode cMc_beginText 4 = .ok (.dup, 1) := by decide +kernel
theorem dMc_beginText_5 : decode cMc_beginText 5 = .ok (.getfield 36, 3) := by decide +kernel
theorem dMc_beginText_8 : decode cMc_beginText 8 = .ok (.aload_n 0, 1) := by decide +kernel
theorem dMc_beginText_9 : decode cMc_beginText 9 = .ok (.getfield 47, 3) := by decide +kernel
theorem dMc_beginText_12 : decode cMc_beginText 12 = .ok (.iadd, 1) := by decide +kernel
theorem dMc_beginText_13 : decode cMc_beginText 13 = .ok (.putfield 36, 3) := by decide +kernel
theorem dMc_beginText_16 : decode cMc_beginText 16 = .ok (.aload_n 0, 1) := by decide +kernel
theorem dMc_beginText_17 : decode cMc_beginText 17 = .ok (.getfield 16, 3) := by decide +kernel
theorem dMc_beginText_20 : decode cMc_beginText 20 = .ok (.aload_n 0, 1) := by decide +kernel
theorem dMc_beginText_21 : decode cMc_beginText 21 = .ok (.getfield 7, 3) := by decide +kernel
theorem dMc_beginText_24 : decode cMc_beginText 24 = .ok (.aload_n 0, 1) := by decide +kernel
theorem dMc_beginText_25 : decode cMc_beginText 25 = .ok (.getfield 26, 3) := by decide +kernel
theorem dMc_beginText_28 : decode cMc_beginText 28 = .ok (.arraylength, 1) := by decide +kernel
theorem dMc_beginText_29 : decode cMc_beginText 29 = .ok (.invokevirtual 88, 3) := by decide +kernel
theorem dMc_beginText_32 : decode cMc_beginText 32 = .ok (.return_, 1) := by decide +kernel
theorem dMc_closeText_0 : decode cMc_closeText 0 = .ok (.aload_n 0, 1) := by decide +kernel
theorem dMc_closeText_1 : decode cMc_closeText 1 = .ok (.getfield 16, 3) := by decide +kernel
theorem dMc_closeText_4 : decode cMc_closeText 4 = .ok (.aload_n 0, 1) := by decide +kernel
theorem dMc_closeText_5 : decode cMc_closeText 5 = .ok (.getfield 33, 3) := by decide +kernel
theorem dMc_closeText_8 : decode cMc_closeText 8 = .ok (.iconst 0, 1) := by decide +kernel
theorem dMc_closeText_9 : decode cMc_closeText 9 = .ok (.invokevirtual 71, 3) := by decide +kernel
theorem dMc_closeText_12 : decode cMc_closeText 12 = .ok (.aload_n 0, 1) := by decide +kernel
theorem dMc_closeText_13 : decode cMc_closeText 13 = .ok (.getfield 16, 3) := by decide +kernel
theorem dMc_closeText_16 : decode cMc_closeText 16 = .ok (.aload_n 0, 1) := by decide +kernel
theorem dMc_closeText_17 : decode cMc_closeText 17 = .ok (.getfield 13, 3) := by decide +kernel
theorem dMc_closeText_20 : decode cMc_closeText 20 = .ok (.aload_n 0, 1) := by decide +kernel
theorem dMc_closeText_21 : decode cMc_closeText 21 = .ok (.getfield 26, 3) := by decide +kernel
theorem dMc_closeText_24 : decode cMc_closeText 24 = .ok (.arraylength, 1) := by decide +kernel
theorem dMc_closeText_25 : decode cMc_closeText 25 = .ok (.invokevirtual 88, 3) := by decide +kernel
theorem dMc_closeText_28 : decode cMc_closeText 28 = .ok (.aload_n 0, 1) := by decide +kernel
theorem dMc_closeText_29 : decode cMc_closeText 29 = .ok (.getfield 16, 3) := by decide +kernel
theorem dMc_closeText_32 : decode cMc_closeText 32 = .ok (.aload_n 0, 1) := by decide +kernel
theorem dMc_closeText_33 : decode cMc_closeText 33 = .ok (.getfield 33, 3) := by decide +kernel
theorem dMc_closeText_36 : decode cMc_closeText 36 = .ok (.iconst 0, 1) := by decide +kernel
theorem dMc_closeText_37 : decode cMc_closeText 37 = .ok (.aload_n 0, 1) := by decide +kernel
theorem dMc_closeText_38 : decode cMc_closeText 38 = .ok (.getfield 33, 3) := by decide +kernel
theorem dMc_closeText_41 : decode cMc_closeText 41 = .ok (.arraylength, 1) := by decide +kernel
theorem dMc_closeText_42 : decode cMc_closeText 42 = .ok (.invokevirtual 67, 3) := by decide +kernel
theorem dMc_closeText_45 : decode cMc_closeText 45 = .ok (.aload_n 0, 1) := by decide +kernel
theorem dMc_closeText_46 : decode cMc_closeText 46 = .ok (.getfield 16, 3) := by decide +kernel
theorem dMc_closeText_49 : decode cMc_closeText 49 = .ok (.aload_n 1, 1) := by decide +kernel
theorem dMc_closeText_50 : decode cMc_closeText 50 = .ok (.iload_n 2, 1) := by decide +kernel
theorem dMc_closeText_51 : decode cMc_closeText 51 = .ok (.invokevirtual 71, 3) := by decide +kernel
theorem dMc_closeText_54 : decode cMc_closeText 54 = .ok (.return_, 1) := by decide +kernel
theorem dMc_fillKeyBlock_0 : decode cMc_fillKeyBlock 0 = .ok (.aload_n 0, 1) := by decide +kernel
theorem dMc_fillKeyBlock_1 : decode cMc_fillKeyBlock 1 = .ok (.getfield 26, 3) := by decide +kernel
theorem dMc_fillKeyBlock_4 : decode cMc_fillKeyBlock 4 = .ok (.iconst 0, 1) := by decide +kernel
theorem dMc_fillKeyBlock_5 : decode cMc_fillKeyBlock 5 = .ok (.invokestatic 50, 3) := by decide +kernel
theorem dMc_fillKeyBlock_8 : decode cMc_fillKeyBlock 8 = .ok (.aload_n 1, 1) := by decide +kernel
theorem dMc_fillKeyBlock_9 : decode cMc_fillKeyBlock 9 = .ok (.getfield 56, 3) := by decide +kernel
theorem dMc_fillKeyBlock_12 : decode cMc_fillKeyBlock 12 = .ok (.aload_n 0, 1) := by decide +kernel
theorem dMc_fillKeyBlock_13 : decode cMc_fillKeyBlock 13 = .ok (.getfield 26, 3) := by decide +kernel
theorem dMc_fillKeyBlock_16 : decode cMc_fillKeyBlock 16 = .ok (.arraylength, 1) := by decide +kernel
theorem dMc_fillKeyBlock_17 : decode cMc_fillKeyBlock 17 = .ok (.if_icmp .le 41, 3) := by decide +kernel
theorem dMc_fillKeyBlock_20 : decode cMc_fillKeyBlock 20 = .ok (.aload_n 0, 1) := by decide +kernel
theorem dMc_fillKeyBlock_21 : decode cMc_fillKeyBlock 21 = .ok (.getfield 16, 3) := by decide +kernel
theorem dMc_fillKeyBlock_24 : decode cMc_fillKeyBlock 24 = .ok (.invokevirtual 61, 3) := by decide +kernel
theorem dMc_fillKeyBlock_27 : decode cMc_fillKeyBlock 27 = .ok (.aload_n 0, 1) := by decide +kernel
theorem dMc_fillKeyBlock_28 : decode cMc_fillKeyBlock 28 = .ok (.getfield 16, 3) := by decide +kernel
theorem dMc_fillKeyBlock_31 : decode cMc_fillKeyBlock 31 = .ok (.aload_n 1, 1) := by decide +kernel
theorem dMc_fillKeyBlock_32 : decode cMc_fillKeyBlock 32 = .ok (.getfield 64, 3) := by decide +kernel
theorem dMc_fillKeyBlock_35 : decode cMc_fillKeyBlock 35 = .ok (.iconst 0, 1) := by decide +kernel
theorem dMc_fillKeyBlock_36 : decode cMc_fillKeyBlock 36 = .ok (.aload_n 1, 1) := by decide +kernel
theorem dMc_fillKeyBlock_37 : decode cMc_fillKeyBlock 37 = .ok (.getfield 56, 3) := by decide +kernel
theorem dMc_fillKeyBlock_40 : decode cMc_fillKeyBlock 40 = .ok (.invokevirtual 67, 3) := by decide +kernel
theorem dMc_fillKeyBlock_43 : decode cMc_fillKeyBlock 43 = .ok (.aload_n 0, 1) := by decide +kernel
theorem dMc_fillKeyBlock_44 : decode cMc_fillKeyBlock 44 = .ok (.getfield 16, 3) := by decide +kernel
theorem dMc_fillKeyBlock_47 : decode cMc_fillKeyBlock 47 = .ok (.aload_n 0, 1) := by decide +kernel
theorem dMc_fillKeyBlock_48 : decode cMc_fillKeyBlock 48 = .ok (.getfield 26, 3) := by decide +kernel
theorem dMc_fillKeyBlock_51 : decode cMc_fillKeyBlock 51 = .ok (.iconst 0, 1) := by decide +kernel
theorem dMc_fillKeyBlock_52 : decode cMc_fillKeyBlock 52 = .ok (.invokevirtual 71, 3) := by decide +kernel
theorem dMc_fillKeyBlock_55 : decode cMc_fillKeyBlock 55 = .ok (.goto 20, 3) := by decide +kernel
theorem dMc_fillKeyBlock_58 : decode cMc_fillKeyBlock 58 = .ok (.aload_n 1, 1) := by decide +kernel
theorem dMc_fillKeyBlock_59 : decode cMc_fillKeyBlock 59 = .ok (.getfield 64, 3) := by decide +kernel
theorem dMc_fillKeyBlock_62 : decode cMc_fillKeyBlock 62 = .ok (.iconst 0, 1) := by decide +kernel
theorem dMc_fillKeyBlock_63 : decode cMc_fillKeyBlock 63 = .ok (.aload_n 0, 1) := by decide +kernel
theorem dMc_fillKeyBlock_64 : decode cMc_fillKeyBlock 64 = .ok (.getfield 26, 3) := by decide +kernel
theorem dMc_fillKeyBlock_67 : decode cMc_fillKeyBlock 67 = .ok (.iconst 0, 1) := by decide +kernel
theorem dMc_fillKeyBlock_68 : decode cMc_fillKeyBlock 68 = .ok (.aload_n 1, 1) := by decide +kernel
theorem dMc_fillKeyBlock_69 : decode cMc_fillKeyBlock 69 = .ok (.getfield 56, 3) := by decide +kernel
theorem dMc_fillKeyBlock_72 : decode cMc_fillKeyBlock 72 = .ok (.invokestatic 75, 3) := by decide +kernel
theorem dMc_fillKeyBlock_75 : decode cMc_fillKeyBlock 75 = .ok (.return_, 1) := by decide +kernel
theorem dMc_setKey_0 : decode cMc_setKey 0 = .ok (.aload_n 0, 1) := by decide +kernel
theorem dMc_setKey_1 : decode cMc_setKey 1 = .ok (.getfield 16, 3) := by decide +kernel
theorem dMc_setKey_4 : decode cMc_setKey 4 = .ok (.getfield 36, 3) := by decide +kernel
theorem dMc_setKey_7 : decode cMc_setKey 7 = .ok (.istore_n 2, 1) := by decide +kernel
theorem dMc_setKey_8 : decode cMc_setKey 8 = .ok (.aload_n 0, 1) := by decide +kernel
theorem dMc_setKey_9 : decode cMc_setKey 9 = .ok (.aload_n 1, 1) := by decide +kernel
theorem dMc_setKey_10 : decode cMc_setKey 10 = .ok (.invokevirtual 39, 3) := by decide +kernel
theorem dMc_setKey_13 : decode cMc_setKey 13 = .ok (.aload_n 0, 1) := by decide +kernel
theorem dMc_setKey_14 : decode cMc_setKey 14 = .ok (.bipush 54, 2) := by decide +kernel
theorem dMc_setKey_16 : decode cMc_setKey 16 = .ok (.aload_n 0, 1) := by decide +kernel
theorem dMc_setKey_17 : decode cMc_setKey 17 = .ok (.getfield 7, 3) := by decide +kernel
theorem dMc_setKey_20 : decode cMc_setKey 20 = .ok (.invokevirtual 43, 3) := by decide +kernel
theorem dMc_setKey_23 : decode cMc_setKey 23 = .ok (.aload_n 0, 1) := by decide +kernel
theorem dMc_setKey_24 : decode cMc_setKey 24 = .ok (.bipush 92, 2) := by decide +kernel
theorem dMc_setKey_26 : decode cMc_setKey 26 = .ok (.aload_n 0, 1) := by decide +kernel
theorem dMc_setKey_27 : decode cMc_setKey 27 = .ok (.getfield 13, 3) := by decide +kernel
theorem dMc_setKey_30 : decode cMc_setKey 30 = .ok (.invokevirtual 43, 3) := by decide +kernel
theorem dMc_setKey_33 : decode cMc_setKey 33 = .ok (.aload_n 0, 1) := by decide +kernel
theorem dMc_setKey_34 : decode cMc_setKey 34 = .ok (.aload_n 0, 1) := by decide +kernel
theorem dMc_setKey_35 : decode cMc_setKey 35 = .ok (.getfield 16, 3) := by decide +kernel
theorem dMc_setKey_38 : decode cMc_setKey 38 = .ok (.getfield 36, 3) := by decide +kernel
theorem dMc_setKey_41 : decode cMc_setKey 41 = .ok (.iload_n 2, 1) := by decide +kernel
theorem dMc_setKey_42 : decode cMc_setKey 42 = .ok (.isub, 1) := by decide +kernel
theorem dMc_setKey_43 : decode cMc_setKey 43 = .ok (.putfield 47, 3) := by decide +kernel
theorem dMc_setKey_46 : decode cMc_setKey 46 = .ok (.aload_n 0, 1) := by decide +kernel
theorem dMc_setKey_47 : decode cMc_setKey 47 = .ok (.getfield 16, 3) := by decide +kernel
theorem dMc_setKey_50 : decode cMc_setKey 50 = .ok (.iload_n 2, 1) := by decide +kernel
theorem dMc_setKey_51 : decode cMc_setKey 51 = .ok (.putfield 36, 3) := by decide +kernel
theorem dMc_setKey_54 : decode cMc_setKey 54 = .ok (.return_, 1) := by decide +kernel
theorem dMc_startWith_0 : decode cMc_startWith 0 = .ok (.aload_n 0, 1) := by decide +kernel
theorem dMc_startWith_1 : decode cMc_startWith 1 = .ok (.getfield 16, 3) := by decide +kernel
theorem dMc_startWith_4 : decode cMc_startWith 4 = .ok (.invokevirtual 61, 3) := by decide +kernel
theorem dMc_startWith_7 : decode cMc_startWith 7 = .ok (.iconst 0, 1) := by decide +kernel
theorem dMc_startWith_8 : decode cMc_startWith 8 = .ok (.istore_n 3, 1) := by decide +kernel
theorem dMc_startWith_9 : decode cMc_startWith 9 = .ok (.iload_n 3, 1) := by decide +kernel
theorem dMc_startWith_10 : decode cMc_startWith 10 = .ok (.aload_n 0, 1) := by decide +kernel
theorem dMc_startWith_11 : decode cMc_startWith 11 = .ok (.getfield 26, 3) := by decide +kernel
theorem dMc_startWith_14 : decode cMc_startWith 14 = .ok (.arraylength, 1) := by decide +kernel
theorem dMc_startWith_15 : decode cMc_startWith 15 = .ok (.if_icmp .ge 24, 3) := by decide +kernel
theorem dMc_startWith_18 : decode cMc_startWith 18 = .ok (.aload_n 0, 1) := by decide +kernel
theorem dMc_startWith_19 : decode cMc_startWith 19 = .ok (.getfield 16, 3) := by decide +kernel
theorem dMc_startWith_22 : decode cMc_startWith 22 = .ok (.aload_n 0, 1) := by decide +kernel
theorem dMc_startWith_23 : decode cMc_startWith 23 = .ok (.getfield 26, 3) := by decide +kernel
theorem dMc_startWith_26 : decode cMc_startWith 26 = .ok (.iload_n 3, 1) := by decide +kernel
theorem dMc_startWith_27 : decode cMc_startWith 27 = .ok (.baload, 1) := by decide +kernel
theorem dMc_startWith_28 : decode cMc_startWith 28 = .ok (.iload_n 1, 1) := by decide +kernel
theorem dMc_startWith_29 : decode cMc_startWith 29 = .ok (.ixor, 1) := by decide +kernel
theorem dMc_startWith_30 : decode cMc_startWith 30 = .ok (.invokevirtual 81, 3) := by decide +kernel
theorem dMc_startWith_33 : decode cMc_startWith 33 = .ok (.iinc 3 1, 3) := by decide +kernel
theorem dMc_startWith_36 : decode cMc_startWith 36 = .ok (.goto (-27), 3) := by decide +kernel
theorem dMc_startWith_39 : decode cMc_startWith 39 = .ok (.aload_n 0, 1) := by decide +kernel
theorem dMc_startWith_40 : decode cMc_startWith 40 = .ok (.getfield 16, 3) := by decide +kernel
theorem dMc_startWith_43 : decode cMc_startWith 43 = .ok (.getfield 85, 3) := by decide +kernel
theorem dMc_startWith_46 : decode cMc_startWith 46 = .ok (.iconst 0, 1) := by decide +kernel
theorem dMc_startWith_47 : decode cMc_startWith 47 = .ok (.aload_n 2, 1) := by decide +kernel
theorem dMc_startWith_48 : decode cMc_startWith 48 = .ok (.iconst 0, 1) := by decide +kernel
theorem dMc_startWith_49 : decode cMc_startWith 49 = .ok (.aload_n 2, 1) := by decide +kernel
theorem dMc_startWith_50 : decode cMc_startWith 50 = .ok (.arraylength, 1) := by decide +kernel
theorem dMc_startWith_51 : decode cMc_startWith 51 = .ok (.invokestatic 75, 3) := by decide +kernel
theorem dMc_startWith_54 : decode cMc_startWith 54 = .ok (.return_, 1) := by decide +kernel
theorem dSh_init_0 : decode cSh_init 0 = .ok (.aload_n 0, 1) := by decide +kernel
theorem dSh_init_1 : decode cSh_init 1 = .ok (.invokespecial 1, 3) := by decide +kernel
theorem dSh_init_4 : decode cSh_init 4 = .ok (.aload_n 0, 1) := by decide +kernel
theorem dSh_init_5 : decode cSh_init 5 = .ok (.bipush 8, 2) := by decide +kernel
theorem dSh_init_7 : decode cSh_init 7 = .ok (.newarray .long, 2) := by decide +kernel
theorem dSh_init_9 : decode cSh_init 9 = .ok (.putfield 7, 3) := by decide +kernel
theorem dSh_init_12 : decode cSh_init 12 = .ok (.aload_n 0, 1) := by decide +kernel
theorem dSh_init_13 : decode cSh_init 13 = .ok (.aload_n 1, 1) := by decide +kernel
theorem dSh_init_14 : decode cSh_init 14 = .ok (.putfield 13, 3) := by decide +kernel
theorem dSh_init_17 : decode cSh_init 17 = .ok (.aload_n 0, 1) := by decide +kernel
theorem dSh_init_18 : decode cSh_init 18 = .ok (.iload_n 2, 1) := by decide +kernel
theorem dSh_init_19 : decode cSh_init 19 = .ok (.putfield 16, 3) := by decide +kernel
theorem dSh_init_22 : decode cSh_init 22 = .ok (.aload_n 0, 1) := by decide +kernel
theorem dSh_init_23 : decode cSh_init 23 = .ok (.iload_n 3, 1) := by decide +kernel
theorem dSh_init_24 : decode cSh_init 24 = .ok (.putfield 20, 3) := by decide +kernel
theorem dSh_init_27 : decode cSh_init 27 = .ok (.aload_n 0, 1) := by decide +kernel
theorem dSh_init_28 : decode cSh_init 28 = .ok (.bipush 16, 2) := by decide +kernel
theorem dSh_init_30 : decode cSh_init 30 = .ok (.iload_n 2, 1) := by decide +kernel
theorem dSh_init_31 : decode cSh_init 31 = .ok (.imul, 1) := by decide +kernel
theorem dSh_init_32 : decode cSh_init 32 = .ok (.newarray .byte, 2) := by decide +kernel
theorem dSh_init_34 : decode cSh_init 34 = .ok (.putfield 23, 3) := by decide +kernel
theorem dSh_init_37 : decode cSh_init 37 = .ok (.aload_n 1, 1) := by decide +kernel
theorem dSh_init_38 : decode cSh_init 38 = .ok (.iconst 0, 1) := by decide +kernel
theorem dSh_init_39 : decode cSh_init 39 = .ok (.aload_n 0, 1) := by decide +kernel
theorem dSh_init_40 : decode cSh_init 40 = .ok (.getfield 7, 3) := by decide +kernel
theorem dSh_init_43 : decode cSh_init 43 = .ok (.iconst 0, 1) := by decide +kernel
theorem dSh_init_44 : decode cSh_init 44 = .ok (.aload_n 0, 1) := by decide +kernel
theorem dSh_init_45 : decode cSh_init 45 = .ok (.getfield 7, 3) := by decide +kernel
theorem dSh_init_48 : decode cSh_init 48 = .ok (.arraylength, 1) := by decide +kernel
theorem dSh_init_49 : decode cSh_init 49 = .ok (.invokestatic 27, 3) := by decide +kernel
theorem dSh_init_52 : decode cSh_init 52 = .ok (.return_, 1) := by decide +kernel
theorem dSh_becomeCopyOf_0 : decode cSh_becomeCopyOf 0 = .ok (.aload_n 1, 1) := by decide +kernel
theorem dSh_becomeCopyOf_1 : decode cSh_becomeCopyOf 1 = .ok (.getfield 7, 3) := by decide +kernel
theorem dSh_becomeCopyOf_4 : decode cSh_becomeCopyOf 4 = .ok (.iconst 0, 1) := by decide +kernel
theorem dSh_becomeCopyOf_5 : decode cSh_becomeCopyOf 5 = .ok (.aload_n 0, 1) := by decide +kernel
theorem dSh_becomeCopyOf_6 : decode cSh_becomeCopyOf 6 = .ok (.getfield 7, 3) := by decide +kernel
theorem dSh_becomeCopyOf_9 : decode cSh_becomeCopyOf 9 = .ok (.iconst 0, 1) := by decide +kernel
theorem dSh_becomeCopyOf_10 : decode cSh_becomeCopyOf 10 = .ok (.aload_n 0, 1) := by decide +kernel
theorem dSh_becomeCopyOf_11 : decode cSh_becomeCopyOf 11 = .ok (.getfield 7, 3) := by decide +kernel
theorem dSh_becomeCopyOf_14 : decode cSh_becomeCopyOf 14 = .ok (.arraylength, 1) := by decide +kernel
theorem dSh_becomeCopyOf_15 : decode cSh_becomeCopyOf 15 = .ok (.invokestatic 27, 3) := by decide +kernel
theorem dSh_becomeCopyOf_18 : decode cSh_becomeCopyOf 18 = .ok (.aload_n 1, 1) := by decide +kernel
theorem dSh_becomeCopyOf_19 : decode cSh_becomeCopyOf 19 = .ok (.getfield 23, 3) := by decide +kernel
theorem dSh_becomeCopyOf_22 : decode cSh_becomeCopyOf 22 = .ok (.iconst 0, 1) := by decide +kernel
theorem dSh_becomeCopyOf_23 : decode cSh_becomeCopyOf 23 = .ok (.aload_n 0, 1) := by decide +kernel
theorem dSh_becomeCopyOf_24 : decode cSh_becomeCopyOf 24 = .ok (.getfield 23, 3) := by decide +kernel
theorem dSh_becomeCopyOf_27 : decode cSh_becomeCopyOf 27 = .ok (.iconst 0, 1) := by decide +kernel
theorem dSh_becomeCopyOf_28 : decode cSh_becomeCopyOf 28 = .ok (.aload_n 1, 1) := by decide +kernel
theorem dSh_becomeCopyOf_29 : decode cSh_becomeCopyOf 29 = .ok (.getfield 37, 3) := by decide +kernel
theorem dSh_becomeCopyOf_32 : decode cSh_becomeCopyOf 32 = .ok (.invokestatic 27, 3) := by decide +kernel
theorem dSh_becomeCopyOf_35 : decode cSh_becomeCopyOf 35 = .ok (.aload_n 0, 1) := by decide +kernel
theorem dSh_becomeCopyOf_36 : decode cSh_becomeCopyOf 36 = .ok (.aload_n 1, 1) := by decide +kernel
theorem dSh_becomeCopyOf_37 : decode cSh_becomeCopyOf 37 = .ok (.getfield 37, 3) := by decide +kernel
theorem dSh_becomeCopyOf_40 : decode cSh_becomeCopyOf 40 = .ok (.putfield 37, 3) := by decide +kernel
theorem dSh_becomeCopyOf_43 : decode cSh_becomeCopyOf 43 = .ok (.aload_n 0, 1) := by decide +kernel
theorem dSh_becomeCopyOf_44 : decode cSh_becomeCopyOf 44 = .ok (.aload_n 1, 1) := by decide +kernel
theorem dSh_becomeCopyOf_45 : decode cSh_becomeCopyOf 45 = .ok (.getfield 40, 3) := by decide +kernel
theorem dSh_becomeCopyOf_48 : decode cSh_becomeCopyOf 48 = .ok (.putfield 40, 3) := by decide +kernel
theorem dSh_becomeCopyOf_51 : decode cSh_becomeCopyOf 51 = .ok (.return_, 1) := by decide +kernel
theorem dSh_begin_0 : decode cSh_begin 0 = .ok (.aload_n 0, 1) := by decide +kernel
theorem dSh_begin_1 : decode cSh_begin 1 = .ok (.aload_n 0, 1) := by decide +kernel
theorem dSh_begin_2 : decode cSh_begin 2 = .ok (.getfield 13, 3) := by decide +kernel
theorem dSh_begin_5 : decode cSh_begin 5 = .ok (.iconst 0, 1) := by decide +kernel
theorem dSh_begin_6 : decode cSh_begin 6 = .ok (.invokevirtual 33, 3) := by decide +kernel
theorem dSh_begin_9 : decode cSh_begin 9 = .ok (.return_, 1) := by decide +kernel
theorem dSh_close_0 : decode cSh_close 0 = .ok (.aload_n 0, 1) := by decide +kernel
theorem dSh_close_1 : decode cSh_close 1 = .ok (.getfield 23, 3) := by decide +kernel
theorem dSh_close_4 : decode cSh_close 4 = .ok (.aload_n 0, 1) := by decide +kernel
theorem dSh_close_5 : decode cSh_close 5 = .ok (.getfield 37, 3) := by decide +kernel
theorem dSh_close_8 : decode cSh_close 8 = .ok (.bipush (-128), 2) := by decide +kernel
theorem dSh_close_10 : decode cSh_close 10 = .ok (.bastore, 1) := by decide +kernel
theorem dSh_close_11 : decode cSh_close 11 = .ok (.aload_n 0, 1) := by decide +kernel
theorem dSh_close_12 : decode cSh_close 12 = .ok (.dup, 1) := by decide +kernel
theorem dSh_close_13 : decode cSh_close 13 = .ok (.getfield 37, 3) := by decide +kernel
theorem dSh_close_16 : decode cSh_close 16 = .ok (.iconst 1, 1) := by decide +kernel
theorem dSh_close_17 : decode cSh_close 17 = .ok (.iadd, 1) := by decide +kernel
theorem dSh_close_18 : decode cSh_close 18 = .ok (.putfield 37, 3) := by decide +kernel
theorem dSh_close_21 : decode cSh_close 21 = .ok (.aload_n 0, 1) := by decide +kernel
theorem dSh_close_22 : decode cSh_close 22 = .ok (.getfield 37, 3) := by decide +kernel
theorem dSh_close_25 : decode cSh_close 25 = .ok (.aload_n 0, 1) := by decide +kernel
theorem dSh_close_26 : decode cSh_close 26 = .ok (.getfield 23, 3) := by decide +kernel
theorem dSh_close_29 : decode cSh_close 29 = .ok (.arraylength, 1) := by decide +kernel
theorem dSh_close_30 : decode cSh_close 30 = .ok (.iconst 2, 1) := by decide +kernel
theorem dSh_close_31 : decode cSh_close 31 = .ok (.aload_n 0, 1) := by decide +kernel
theorem dSh_close_32 : decode cSh_close 32 = .ok (.getfield 16, 3) := by decide +kernel
theorem dSh_close_35 : decode cSh_close 35 = .ok (.imul, 1) := by decide +kernel
theorem dSh_close_36 : decode cSh_close 36 = .ok (.isub, 1) := by decide +kernel
theorem dSh_close_37 : decode cSh_close 37 = .ok (.if_icmp .le 11, 3) := by decide +kernel
theorem dSh_close_40 : decode cSh_close 40 = .ok (.aload_n 0, 1) := by decide +kernel
theorem dSh_close_41 : decode cSh_close 41 = .ok (.invokevirtual 56, 3) := by decide +kernel
theorem dSh_close_44 : decode cSh_close 44 = .ok (.aload_n 0, 1) := by decide +kernel
theorem dSh_close_45 : decode cSh_close 45 = .ok (.invokevirtual 44, 3) := by decide +kernel
theorem dSh_close_48 : decode cSh_close 48 = .ok (.aload_n 0, 1) := by decide +kernel
theorem dSh_close_49 : decode cSh_close 49 = .ok (.invokevirtual 56, 3) := by decide +kernel
theorem dSh_close_52 : decode cSh_close 52 = .ok (.aload_n 0, 1) := by decide +kernel
theorem dSh_close_53 : decode cSh_close 53 = .ok (.invokevirtual 59, 3) := by decide +kernel
theorem dSh_close_56 : decode cSh_close 56 = .ok (.aload_n 0, 1) := by decide +kernel
theorem dSh_close_57 : decode cSh_close 57 = .ok (.invokevirtual 44, 3) := by decide +kernel
theorem dSh_close_60 : decode cSh_close 60 = .ok (.aload_n 0, 1) := by decide +kernel
theorem dSh_close_61 : decode cSh_close 61 = .ok (.aload_n 1, 1) := by decide +kernel
theorem dSh_close_62 : decode cSh_close 62 = .ok (.iload_n 2, 1) := by decide +kernel
theorem dSh_close_63 : decode cSh_close 63 = .ok (.invokevirtual 62, 3) := by decide +kernel
theorem dSh_close_66 : decode cSh_close 66 = .ok (.return_, 1) := by decide +kernel
theorem dSh_fillUpWithZeros_0 : decode cSh_fillUpWithZeros 0 = .ok (.aload_n 0, 1) := by decide +kernel
theorem dSh_fillUpWithZeros_1 : decode cSh_fillUpWithZeros 1 = .ok (.getfield 23, 3) := by decide +kernel
theorem dSh_fillUpWithZeros_4 : decode cSh_fillUpWithZeros 4 = .ok (.aload_n 0, 1) := by decide +kernel
theorem dSh_fillUpWithZeros_5 : decode cSh_fillUpWithZeros 5 = .ok (.getfield 37, 3) := by decide +kernel
theorem dSh_fillUpWithZeros_8 : decode cSh_fillUpWithZeros 8 = .ok (.aload_n 0, 1) := by decide +kernel
theorem dSh_fillUpWithZeros_9 : decode cSh_fillUpWithZeros 9 = .ok (.getfield 23, 3) := by decide +kernel
theorem dSh_fillUpWithZeros_12 : decode cSh_fillUpWithZeros 12 = .ok (.arraylength, 1) := by decide +kernel
theorem dSh_fillUpWithZeros_13 : decode cSh_fillUpWithZeros 13 = .ok (.iconst 0, 1) := by decide +kernel
theorem dSh_fillUpWithZeros_14 : decode cSh_fillUpWithZeros 14 = .ok (.invokestatic 66, 3) := by decide +kernel
theorem dSh_fillUpWithZeros_17 : decode cSh_fillUpWithZeros 17 = .ok (.return_, 1) := by decide +kernel
theorem dSh_goOverBlock_0 : decode cSh_goOverBlock 0 = .ok (.aload_n 0, 1) := by decide +kernel
theorem dSh_goOverBlock_1 : decode cSh_goOverBlock 1 = .ok (.invokevirtual 47, 3) := by decide +kernel
theorem dSh_goOverBlock_4 : decode cSh_goOverBlock 4 = .ok (.aload_n 0, 1) := by decide +kernel
theorem dSh_goOverBlock_5 : decode cSh_goOverBlock 5 = .ok (.invokevirtual 50, 3) := by decide +kernel
theorem dSh_goOverBlock_8 : decode cSh_goOverBlock 8 = .ok (.aload_n 0, 1) := by decide +kernel
theorem dSh_goOverBlock_9 : decode cSh_goOverBlock 9 = .ok (.dup, 1) := by decide +kernel
theorem dSh_goOverBlock_10 : decode cSh_goOverBlock 10 = .ok (.getfield 53, 3) := by decide +kernel
theorem dSh_goOverBlock_13 : decode cSh_goOverBlock 13 = .ok (.iconst 1, 1) := by decide +kernel
theorem dSh_goOverBlock_14 : decode cSh_goOverBlock 14 = .ok (.iadd, 1) := by decide +kernel
theorem dSh_goOverBlock_15 : decode cSh_goOverBlock 15 = .ok (.putfield 53, 3) := by decide +kernel
theorem dSh_goOverBlock_18 : decode cSh_goOverBlock 18 = .ok (.aload_n 0, 1) := by decide +kernel
theorem dSh_goOverBlock_19 : decode cSh_goOverBlock 19 = .ok (.iconst 0, 1) := by decide +kernel
theorem dSh_goOverBlock_20 : decode cSh_goOverBlock 20 = .ok (.putfield 37, 3) := by decide +kernel
theorem dSh_goOverBlock_23 : decode cSh_goOverBlock 23 = .ok (.return_, 1) := by decide +kernel
theorem dSh_resume_0 : decode cSh_resume 0 = .ok (.aload_n 1, 1) := by decide +kernel
theorem dSh_resume_1 : decode cSh_resume 1 = .ok (.iconst 0, 1) := by decide +kernel
theorem dSh_resume_2 : decode cSh_resume 2 = .ok (.aload_n 0, 1) := by decide +kernel
theorem dSh_resume_3 : decode cSh_resume 3 = .ok (.getfield 7, 3) := by decide +kernel
theorem dSh_resume_6 : decode cSh_resume 6 = .ok (.iconst 0, 1) := by decide +kernel
theorem dSh_resume_7 : decode cSh_resume 7 = .ok (.aload_n 0, 1) := by decide +kernel
theorem dSh_resume_8 : decode cSh_resume 8 = .ok (.getfield 7, 3) := by decide +kernel
theorem dSh_resume_11 : decode cSh_resume 11 = .ok (.arraylength, 1) := by decide +kernel
theorem dSh_resume_12 : decode cSh_resume 12 = .ok (.invokestatic 27, 3) := by decide +kernel
theorem dSh_resume_15 : decode cSh_resume 15 = .ok (.aload_n 0, 1) := by decide +kernel
theorem dSh_resume_16 : decode cSh_resume 16 = .ok (.iconst 0, 1) := by decide +kernel
theorem dSh_resume_17 : decode cSh_resume 17 = .ok (.putfield 37, 3) := by decide +kernel
theorem dSh_resume_20 : decode cSh_resume 20 = .ok (.aload_n 0, 1) := by decide +kernel
theorem dSh_resume_21 : decode cSh_resume 21 = .ok (.iload_n 2, 1) := by decide +kernel
theorem dSh_resume_22 : decode cSh_resume 22 = .ok (.i2l, 1) := by decide +kernel
theorem dSh_resume_23 : decode cSh_resume 23 = .ok (.putfield 40, 3) := by decide +kernel
theorem dSh_resume_26 : decode cSh_resume 26 = .ok (.return_, 1) := by decide +kernel
theorem dSh_take_0 : decode cSh_take 0 = .ok (.iconst 0, 1) := by decide +kernel
theorem dSh_take_1 : decode cSh_take 1 = .ok (.istore 4, 2) := by decide +kernel
theorem dSh_take_3 : decode cSh_take 3 = .ok (.iload 4, 2) := by decide +kernel
theorem dSh_take_5 : decode cSh_take 5 = .ok (.iload_n 3, 1) := by decide +kernel
theorem dSh_take_6 : decode cSh_take 6 = .ok (.if_icmp .ge 50, 3) := by decide +kernel
theorem dSh_take_9 : decode cSh_take 9 = .ok (.aload_n 0, 1) := by decide +kernel
theorem dSh_take_10 : decode cSh_take 10 = .ok (.getfield 23, 3) := by decide +kernel
theorem dSh_take_13 : decode cSh_take 13 = .ok (.aload_n 0, 1) := by decide +kernel
theorem dSh_take_14 : decode cSh_take 14 = .ok (.getfield 37, 3) := by decide +kernel
theorem dSh_take_17 : decode cSh_take 17 = .ok (.aload_n 1, 1) := by decide +kernel
theorem dSh_take_18 : decode cSh_take 18 = .ok (.iload_n 2, 1) := by decide +kernel
theorem dSh_take_19 : decode cSh_take 19 = .ok (.iload 4, 2) := by decide +kernel
theorem dSh_take_21 : decode cSh_take 21 = .ok (.iadd, 1) := by decide +kernel
theorem dSh_take_22 : decode cSh_take 22 = .ok (.baload, 1) := by decide +kernel
theorem dSh_take_23 : decode cSh_take 23 = .ok (.bastore, 1) := by decide +kernel
theorem dSh_take_24 : decode cSh_take 24 = .ok (.aload_n 0, 1) := by decide +kernel
theorem dSh_take_25 : decode cSh_take 25 = .ok (.dup, 1) := by decide +kernel
theorem dSh_take_26 : decode cSh_take 26 = .ok (.getfield 37, 3) := by decide +kernel
theorem dSh_take_29 : decode cSh_take 29 = .ok (.iconst 1, 1) := by decide +kernel
theorem dSh_take_30 : decode cSh_take 30 = .ok (.iadd, 1) := by decide +kernel
theorem dSh_take_31 : decode cSh_take 31 = .ok (.putfield 37, 3) := by decide +kernel
theorem dSh_take_34 : decode cSh_take 34 = .ok (.aload_n 0, 1) := by decide +kernel
theorem dSh_take_35 : decode cSh_take 35 = .ok (.getfield 37, 3) := by decide +kernel
theorem dSh_take_38 : decode cSh_take 38 = .ok (.aload_n 0, 1) := by decide +kernel
theorem dSh_take_39 : decode cSh_take 39 = .ok (.getfield 23, 3) := by decide +kernel
theorem dSh_take_42 : decode cSh_take 42 = .ok (.arraylength, 1) := by decide +kernel
theorem dSh_take_43 : decode cSh_take 43 = .ok (.if_icmp .ne 7, 3) := by decide +kernel
theorem dSh_take_46 : decode cSh_take 46 = .ok (.aload_n 0, 1) := by decide +kernel
theorem dSh_take_47 : decode cSh_take 47 = .ok (.invokevirtual 44, 3) := by decide +kernel
theorem dSh_take_50 : decode cSh_take 50 = .ok (.iinc 4 1, 3) := by decide +kernel
theorem dSh_take_53 : decode cSh_take 53 = .ok (.goto (-50), 3) := by decide +kernel
theorem dSh_take_56 : decode cSh_take 56 = .ok (.aload_n 0, 1) := by decide +kernel
theorem dSh_take_57 : decode cSh_take 57 = .ok (.dup, 1) := by decide +kernel
theorem dSh_take_58 : decode cSh_take 58 = .ok (.getfield 40, 3) := by decide +kernel
theorem dSh_take_61 : decode cSh_take 61 = .ok (.iload_n 3, 1) := by decide +kernel
theorem dSh_take_62 : decode cSh_take 62 = .ok (.i2l, 1) := by decide +kernel
theorem dSh_take_63 : decode cSh_take 63 = .ok (.ladd, 1) := by decide +kernel
theorem dSh_take_64 : decode cSh_take 64 = .ok (.putfield 40, 3) := by decide +kernel
theorem dSh_take_67 : decode cSh_take 67 = .ok (.return_, 1) := by decide +kernel
theorem dSh_takeByte_0 : decode cSh_takeByte 0 = .ok (.aload_n 0, 1) := by decide +kernel
theorem dSh_takeByte_1 : decode cSh_takeByte 1 = .ok (.getfield 23, 3) := by decide +kernel
theorem dSh_takeByte_4 : decode cSh_takeByte 4 = .ok (.aload_n 0, 1) := by decide +kernel
theorem dSh_takeByte_5 : decode cSh_takeByte 5 = .ok (.getfield 37, 3) := by decide +kernel
theorem dSh_takeByte_8 : decode cSh_takeByte 8 = .ok (.iload_n 1, 1) := by decide +kernel
theorem dSh_takeByte_9 : decode cSh_takeByte 9 = .ok (.i2b, 1) := by decide +kernel
theorem dSh_takeByte_10 : decode cSh_takeByte 10 = .ok (.bastore, 1) := by decide +kernel
theorem dSh_takeByte_11 : decode cSh_takeByte 11 = .ok (.aload_n 0, 1) := by decide +kernel
theorem dSh_takeByte_12 : decode cSh_takeByte 12 = .ok (.dup, 1) := by decide +kernel
theorem dSh_takeByte_13 : decode cSh_takeByte 13 = .ok (.getfield 37, 3) := by decide +kernel
theorem dSh_takeByte_16 : decode cSh_takeByte 16 = .ok (.iconst 1, 1) := by decide +kernel
theorem dSh_takeByte_17 : decode cSh_takeByte 17 = .ok (.iadd, 1) := by decide +kernel
theorem dSh_takeByte_18 : decode cSh_takeByte 18 = .ok (.putfield 37, 3) := by decide +kernel
theorem dSh_takeByte_21 : decode cSh_takeByte 21 = .ok (.aload_n 0, 1) := by decide +kernel
theorem dSh_takeByte_22 : decode cSh_takeByte 22 = .ok (.getfield 37, 3) := by decide +kernel
theorem dSh_takeByte_25 : decode cSh_takeByte 25 = .ok (.aload_n 0, 1) := by decide +kernel
theorem dSh_takeByte_26 : decode cSh_takeByte 26 = .ok (.getfield 23, 3) := by decide +kernel
theorem dSh_takeByte_29 : decode cSh_takeByte 29 = .ok (.arraylength, 1) := by decide +kernel
theorem dSh_takeByte_30 : decode cSh_takeByte 30 = .ok (.if_icmp .ne 7, 3) := by decide +kernel
theorem dSh_takeByte_33 : decode cSh_takeByte 33 = .ok (.aload_n 0, 1) := by decide +kernel
theorem dSh_takeByte_34 : decode cSh_takeByte 34 = .ok (.invokevirtual 44, 3) := by decide +kernel
theorem dSh_takeByte_37 : decode cSh_takeByte 37 = .ok (.aload_n 0, 1) := by decide +kernel
theorem dSh_takeByte_38 : decode cSh_takeByte 38 = .ok (.dup, 1) := by decide +kernel
theorem dSh_takeByte_39 : decode cSh_takeByte 39 = .ok (.getfield 40, 3) := by decide +kernel
theorem dSh_takeByte_42 : decode cSh_takeByte 42 = .ok (.lconst 1, 1) := by decide +kernel
theorem dSh_takeByte_43 : decode cSh_takeByte 43 = .ok (.ladd, 1) := by decide +kernel
theorem dSh_takeByte_44 : decode cSh_takeByte 44 = .ok (.putfield 40, 3) := by decide +kernel
theorem dSh_takeByte_47 : decode cSh_takeByte 47 = .ok (.return_, 1) := by decide +kernel
theorem dSh_writeHash_0 : decode cSh_writeHash 0 = .ok (.iconst 0, 1) := by decide +kernel
theorem dSh_writeHash_1 : decode cSh_writeHash 1 = .ok (.istore_n 3, 1) := by decide +kernel
theorem dSh_writeHash_2 : decode cSh_writeHash 2 = .ok (.iload_n 3, 1) := by decide +kernel
theorem dSh_writeHash_3 : decode cSh_writeHash 3 = .ok (.aload_n 0, 1) := by decide +kernel
theorem dSh_writeHash_4 : decode cSh_writeHash 4 = .ok (.getfield 20, 3) := by decide +kernel
theorem dSh_writeHash_7 : decode cSh_writeHash 7 = .ok (.if_icmp .ge 48, 3) := by decide +kernel
theorem dSh_writeHash_10 : decode cSh_writeHash 10 = .ok (.bipush 8, 2) := by decide +kernel
theorem dSh_writeHash_12 : decode cSh_writeHash 12 = .ok (.aload_n 0, 1) := by decide +kernel
theorem dSh_writeHash_13 : decode cSh_writeHash 13 = .ok (.getfield 16, 3) := by decide +kernel
theorem dSh_writeHash_16 : decode cSh_writeHash 16 = .ok (.iconst 1, 1) := by decide +kernel
theorem dSh_writeHash_17 : decode cSh_writeHash 17 = .ok (.isub, 1) := by decide +kernel
theorem dSh_writeHash_18 : decode cSh_writeHash 18 = .ok (.iload_n 3, 1) := by decide +kernel
theorem dSh_writeHash_19 : decode cSh_writeHash 19 = .ok (.aload_n 0, 1) := by decide +kernel
theorem dSh_writeHash_20 : decode cSh_writeHash 20 = .ok (.getfield 16, 3) := by decide +kernel
theorem dSh_writeHash_23 : decode cSh_writeHash 23 = .ok (.irem, 1) := by decide +kernel
theorem dSh_writeHash_24 : decode cSh_writeHash 24 = .ok (.isub, 1) := by decide +kernel
theorem dSh_writeHash_25 : decode cSh_writeHash 25 = .ok (.imul, 1) := by decide +kernel
theorem dSh_writeHash_26 : decode cSh_writeHash 26 = .ok (.istore 4, 2) := by decide +kernel
theorem dSh_writeHash_28 : decode cSh_writeHash 28 = .ok (.aload_n 1, 1) := by decide +kernel
theorem dSh_writeHash_29 : decode cSh_writeHash 29 = .ok (.iload_n 2, 1) := by decide +kernel
theorem dSh_writeHash_30 : decode cSh_writeHash 30 = .ok (.iload_n 3, 1) := by decide +kernel
theorem dSh_writeHash_31 : decode cSh_writeHash 31 = .ok (.iadd, 1) := by decide +kernel
theorem dSh_writeHash_32 : decode cSh_writeHash 32 = .ok (.aload_n 0, 1) := by decide +kernel
theorem dSh_writeHash_33 : decode cSh_writeHash 33 = .ok (.getfield 7, 3) := by decide +kernel
theorem dSh_writeHash_36 : decode cSh_writeHash 36 = .ok (.iload_n 3, 1) := by decide +kernel
theorem dSh_writeHash_37 : decode cSh_writeHash 37 = .ok (.aload_n 0, 1) := by decide +kernel
theorem dSh_writeHash_38 : decode cSh_writeHash 38 = .ok (.getfield 16, 3) := by decide +kernel
theorem dSh_writeHash_41 : decode cSh_writeHash 41 = .ok (.idiv, 1) := by decide +kernel
theorem dSh_writeHash_42 : decode cSh_writeHash 42 = .ok (.laload, 1) := by decide +kernel
theorem dSh_writeHash_43 : decode cSh_writeHash 43 = .ok (.iload 4, 2) := by decide +kernel
theorem dSh_writeHash_45 : decode cSh_writeHash 45 = .ok (.lushr, 1) := by decide +kernel
theorem dSh_writeHash_46 : decode cSh_writeHash 46 = .ok (.l2i, 1) := by decide +kernel
theorem dSh_writeHash_47 : decode cSh_writeHash 47 = .ok (.i2b, 1) := by decide +kernel
theorem dSh_writeHash_48 : decode cSh_writeHash 48 = .ok (.bastore, 1) := by decide +kernel
theorem dSh_writeHash_49 : decode cSh_writeHash 49 = .ok (.iinc 3 1, 3) := by decide +kernel
theorem dSh_writeHash_52 : decode cSh_writeHash 52 = .ok (.goto (-50), 3) := by decide +kernel
theorem dSh_writeHash_55 : decode cSh_writeHash 55 = .ok (.return_, 1) := by decide +kernel
theorem dSh_writeLengthInBits_0 : decode cSh_writeLengthInBits 0 = .ok (.ldc2_w 72, 3) := by decide +kernel
theorem dSh_writeLengthInBits_3 : decode cSh_writeLengthInBits 3 = .ok (.aload_n 0, 1) := by decide +kernel
theorem dSh_writeLengthInBits_4 : decode cSh_writeLengthInBits 4 = .ok (.getfield 40, 3) := by decide +kernel
theorem dSh_writeLengthInBits_7 : decode cSh_writeLengthInBits 7 = .ok (.lmul, 1) := by decide +kernel
theorem dSh_writeLengthInBits_8 : decode cSh_writeLengthInBits 8 = .ok (.lstore_n 1, 1) := by decide +kernel
theorem dSh_writeLengthInBits_9 : decode cSh_writeLengthInBits 9 = .ok (.iconst 0, 1) := by decide +kernel
theorem dSh_writeLengthInBits_10 : decode cSh_writeLengthInBits 10 = .ok (.istore_n 3, 1) := by decide +kernel
theorem dSh_writeLengthInBits_11 : decode cSh_writeLengthInBits 11 = .ok (.iload_n 3, 1) := by decide +kernel
theorem dSh_writeLengthInBits_12 : decode cSh_writeLengthInBits 12 = .ok (.bipush 8, 2) := by decide +kernel
theorem dSh_writeLengthInBits_14 : decode cSh_writeLengthInBits 14 = .ok (.if_icmp .ge 31, 3) := by decide +kernel
theorem dSh_writeLengthInBits_17 : decode cSh_writeLengthInBits 17 = .ok (.aload_n 0, 1) := by decide +kernel
theorem dSh_writeLengthInBits_18 : decode cSh_writeLengthInBits 18 = .ok (.getfield 23, 3) := by decide +kernel
theorem dSh_writeLengthInBits_21 : decode cSh_writeLengthInBits 21 = .ok (.aload_n 0, 1) := by decide +kernel
theorem dSh_writeLengthInBits_22 : decode cSh_writeLengthInBits 22 = .ok (.getfield 23, 3) := by decide +kernel
theorem dSh_writeLengthInBits_25 : decode cSh_writeLengthInBits 25 = .ok (.arraylength, 1) := by decide +kernel
theorem dSh_writeLengthInBits_26 : decode cSh_writeLengthInBits 26 = .ok (.iconst 1, 1) := by decide +kernel
theorem dSh_writeLengthInBits_27 : decode cSh_writeLengthInBits 27 = .ok (.isub, 1) := by decide +kernel
theorem dSh_writeLengthInBits_28 : decode cSh_writeLengthInBits 28 = .ok (.iload_n 3, 1) := by decide +kernel
theorem dSh_writeLengthInBits_29 : decode cSh_writeLengthInBits 29 = .ok (.isub, 1) := by decide +kernel
theorem dSh_writeLengthInBits_30 : decode cSh_writeLengthInBits 30 = .ok (.lload_n 1, 1) := by decide +kernel
theorem dSh_writeLengthInBits_31 : decode cSh_writeLengthInBits 31 = .ok (.bipush 8, 2) := by decide +kernel
theorem dSh_writeLengthInBits_33 : decode cSh_writeLengthInBits 33 = .ok (.iload_n 3, 1) := by decide +kernel
theorem dSh_writeLengthInBits_34 : decode cSh_writeLengthInBits 34 = .ok (.imul, 1) := by decide +kernel
theorem dSh_writeLengthInBits_35 : decode cSh_writeLengthInBits 35 = .ok (.lushr, 1) := by decide +kernel
theorem dSh_writeLengthInBits_36 : decode cSh_writeLengthInBits 36 = .ok (.l2i, 1) := by decide +kernel
theorem dSh_writeLengthInBits_37 : decode cSh_writeLengthInBits 37 = .ok (.i2b, 1) := by decide +kernel
theorem dSh_writeLengthInBits_38 : decode cSh_writeLengthInBits 38 = .ok (.bastore, 1) := by decide +kernel
theorem dSh_writeLengthInBits_39 : decode cSh_writeLengthInBits 39 = .ok (.iinc 3 1, 3) := by decide +kernel
theorem dSh_writeLengthInBits_42 : decode cSh_writeLengthInBits 42 = .ok (.goto (-31), 3) := by decide +kernel
theorem dSh_writeLengthInBits_45 : decode cSh_writeLengthInBits 45 = .ok (.return_, 1) := by decide +kernel
