theorem dX2_init_0 : decode cX2_init 0 = .ok (.aload_n 0, 1) := by decide +kernel
theorem dX2_init_1 : decode cX2_init 1 = .ok (.invokespecial 5, 3) := by decide +kernel
theorem dX2_init_4 : decode cX2_init 4 = .ok (.aload_n 0, 1) := by decide +kernel
theorem dX2_init_5 : decode cX2_init 5 = .ok (.bipush 8, 2) := by decide +kernel
theorem dX2_init_7 : decode cX2_init 7 = .ok (.newarray .int, 2) := by decide +kernel
theorem dX2_init_9 : decode cX2_init 9 = .ok (.putfield 11, 3) := by decide +kernel
theorem dX2_init_12 : decode cX2_init 12 = .ok (.aload_n 0, 1) := by decide +kernel
theorem dX2_init_13 : decode cX2_init 13 = .ok (.bipush 64, 2) := by decide +kernel
theorem dX2_init_15 : decode cX2_init 15 = .ok (.newarray .int, 2) := by decide +kernel
theorem dX2_init_17 : decode cX2_init 17 = .ok (.putfield 15, 3) := by decide +kernel
theorem dX2_init_20 : decode cX2_init 20 = .ok (.aload_n 0, 1) := by decide +kernel
theorem dX2_init_21 : decode cX2_init 21 = .ok (.iconst 2, 1) := by decide +kernel
theorem dX2_init_22 : decode cX2_init 22 = .ok (.newarray .int, 2) := by decide +kernel
theorem dX2_init_24 : decode cX2_init 24 = .ok (.putfield 18, 3) := by decide +kernel
theorem dX2_init_27 : decode cX2_init 27 = .ok (.aload_n 0, 1) := by decide +kernel
theorem dX2_init_28 : decode cX2_init 28 = .ok (.iconst 0, 1) := by decide +kernel
theorem dX2_init_29 : decode cX2_init 29 = .ok (.putfield 21, 3) := by decide +kernel
theorem dX2_init_32 : decode cX2_init 32 = .ok (.aload_n 0, 1) := by decide +kernel
theorem dX2_init_33 : decode cX2_init 33 = .ok (.iconst 1, 1) := by decide +kernel
theorem dX2_init_34 : decode cX2_init 34 = .ok (.putfield 25, 3) := by decide +kernel
theorem dX2_init_37 : decode cX2_init 37 = .ok (.aload_n 0, 1) := by decide +kernel
theorem dX2_init_38 : decode cX2_init 38 = .ok (.iconst 0, 1) := by decide +kernel
theorem dX2_init_39 : decode cX2_init 39 = .ok (.putfield 29, 3) := by decide +kernel
theorem dX2_init_42 : decode cX2_init 42 = .ok (.aload_n 0, 1) := by decide +kernel
theorem dX2_init_43 : decode cX2_init 43 = .ok (.iconst 0, 1) := by decide +kernel
theorem dX2_init_44 : decode cX2_init 44 = .ok (.putfield 32, 3) := by decide +kernel
theorem dX2_init_47 : decode cX2_init 47 = .ok (.aload_n 0, 1) := by decide +kernel
theorem dX2_init_48 : decode cX2_init 48 = .ok (.iconst 0, 1) := by decide +kernel
theorem dX2_init_49 : decode cX2_init 49 = .ok (.putfield 35, 3) := by decide +kernel
theorem dX2_init_52 : decode cX2_init 52 = .ok (.return_, 1) := by decide +kernel
theorem dX1_init_0 : decode cX1_init 0 = .ok (.aload_n 0, 1) := by decide +kernel
theorem dX1_init_1 : decode cX1_init 1 = .ok (.invokespecial 3, 3) := by decide +kernel
theorem dX1_init_4 : decode cX1_init 4 = .ok (.aload_n 0, 1) := by decide +kernel
theorem dX1_init_5 : decode cX1_init 5 = .ok (.iconst 4, 1) := by decide +kernel
theorem dX1_init_6 : decode cX1_init 6 = .ok (.newarray .int, 2) := by decide +kernel
theorem dX1_init_8 : decode cX1_init 8 = .ok (.putfield 11, 3) := by decide +kernel
theorem dX1_init_11 : decode cX1_init 11 = .ok (.aload_n 0, 1) := by decide +kernel
theorem dX1_init_12 : decode cX1_init 12 = .ok (.iconst 0, 1) := by decide +kernel
theorem dX1_init_13 : decode cX1_init 13 = .ok (.putfield 15, 3) := by decide +kernel
theorem dX1_init_16 : decode cX1_init 16 = .ok (.aload_n 0, 1) := by decide +kernel
theorem dX1_init_17 : decode cX1_init 17 = .ok (.iconst 0, 1) := by decide +kernel
theorem dX1_init_18 : decode cX1_init 18 = .ok (.putfield 19, 3) := by decide +kernel
theorem dX1_init_21 : decode cX1_init 21 = .ok (.aload_n 0, 1) := by decide +kernel
theorem dX1_init_22 : decode cX1_init 22 = .ok (.iconst 0, 1) := by decide +kernel
theorem dX1_init_23 : decode cX1_init 23 = .ok (.putfield 23, 3) := by decide +kernel
theorem dX1_init_26 : decode cX1_init 26 = .ok (.aload_n 0, 1) := by decide +kernel
theorem dX1_init_27 : decode cX1_init 27 = .ok (.iconst 0, 1) := by decide +kernel
theorem dX1_init_28 : decode cX1_init 28 = .ok (.putfield 26, 3) := by decide +kernel
theorem dX1_init_31 : decode cX1_init 31 = .ok (.aload_n 0, 1) := by decide +kernel
theorem dX1_init_32 : decode cX1_init 32 = .ok (.aload_n 1, 1) := by decide +kernel
theorem dX1_init_33 : decode cX1_init 33 = .ok (.putfield 29, 3) := by decide +kernel
theorem dX1_init_36 : decode cX1_init 36 = .ok (.return_, 1) := by decide +kernel
theorem dX0_init_0 : decode cX0_init 0 = .ok (.aload_n 0, 1) := by decide +kernel
theorem dX0_init_1 : decode cX0_init 1 = .ok (.invokespecial 3, 3) := by decide +kernel
theorem dX0_init_4 : decode cX0_init 4 = .ok (.aload_n 0, 1) := by decide +kernel
theorem dX0_init_5 : decode cX0_init 5 = .ok (.iconst 0, 1) := by decide +kernel
theorem dX0_init_6 : decode cX0_init 6 = .ok (.putfield 11, 3) := by decide +kernel
theorem dX0_init_9 : decode cX0_init 9 = .ok (.aload_n 0, 1) := by decide +kernel
theorem dX0_init_10 : decode cX0_init 10 = .ok (.iconst 1, 1) := by decide +kernel
theorem dX0_init_11 : decode cX0_init 11 = .ok (.putfield 15, 3) := by decide +kernel
theorem dX0_init_14 : decode cX0_init 14 = .ok (.aload_n 0, 1) := by decide +kernel
theorem dX0_init_15 : decode cX0_init 15 = .ok (.iconst 0, 1) := by decide +kernel
theorem dX0_init_16 : decode cX0_init 16 = .ok (.putfield 18, 3) := by decide +kernel
theorem dX0_init_19 : decode cX0_init 19 = .ok (.aload_n 0, 1) := by decide +kernel
theorem dX0_init_20 : decode cX0_init 20 = .ok (.iconst 1, 1) := by decide +kernel
theorem dX0_init_21 : decode cX0_init 21 = .ok (.putfield 21, 3) := by decide +kernel
theorem dX0_init_24 : decode cX0_init 24 = .ok (.aload_n 0, 1) := by decide +kernel
theorem dX0_init_25 : decode cX0_init 25 = .ok (.iconst 0, 1) := by decide +kernel
theorem dX0_init_26 : decode cX0_init 26 = .ok (.putfield 24, 3) := by decide +kernel
theorem dX0_init_29 : decode cX0_init 29 = .ok (.aload_n 0, 1) := by decide +kernel
theorem dX0_init_30 : decode cX0_init 30 = .ok (.iconst 0, 1) := by decide +kernel
theorem dX0_init_31 : decode cX0_init 31 = .ok (.putfield 28, 3) := by decide +kernel
theorem dX0_init_34 : decode cX0_init 34 = .ok (.aload_n 0, 1) := by decide +kernel
theorem dX0_init_35 : decode cX0_init 35 = .ok (.iconst 0, 1) := by decide +kernel
theorem dX0_init_36 : decode cX0_init 36 = .ok (.putfield 31, 3) := by decide +kernel
theorem dX0_init_39 : decode cX0_init 39 = .ok (.aload_n 0, 1) := by decide +kernel
theorem dX0_init_40 : decode cX0_init 40 = .ok (.iconst 0, 1) := by decide +kernel
theorem dX0_init_41 : decode cX0_init 41 = .ok (.putfield 34, 3) := by decide +kernel
theorem dX0_init_44 : decode cX0_init 44 = .ok (.aload_n 0, 1) := by decide +kernel
theorem dX0_init_45 : decode cX0_init 45 = .ok (.iconst 0, 1) := by decide +kernel
theorem dX0_init_46 : decode cX0_init 46 = .ok (.putfield 37, 3) := by decide +kernel
theorem dX0_init_49 : decode cX0_init 49 = .ok (.aload_n 0, 1) := by decide +kernel
theorem dX0_init_50 : decode cX0_init 50 = .ok (.iconst 0, 1) := by decide +kernel
theorem dX0_init_51 : decode cX0_init 51 = .ok (.putfield 40, 3) := by decide +kernel
theorem dX0_init_54 : decode cX0_init 54 = .ok (.aload_n 0, 1) := by decide +kernel
theorem dX0_init_55 : decode cX0_init 55 = .ok (.aload_n 1, 1) := by decide +kernel
theorem dX0_init_56 : decode cX0_init 56 = .ok (.putfield 43, 3) := by decide +kernel
theorem dX0_init_59 : decode cX0_init 59 = .ok (.return_, 1) := by decide +kernel
theorem dX3_init_0 : decode cX3_init 0 = .ok (.aload_n 0, 1) := by decide +kernel
theorem dX3_init_1 : decode cX3_init 1 = .ok (.invokespecial 1, 3) := by decide +kernel
theorem dX3_init_4 : decode cX3_init 4 = .ok (.aload_n 0, 1) := by decide +kernel
theorem dX3_init_5 : decode cX3_init 5 = .ok (.new 7, 3) := by decide +kernel
theorem dX3_init_8 : decode cX3_init 8 = .ok (.dup, 1) := by decide +kernel
theorem dX3_init_9 : decode cX3_init 9 = .ok (.invokespecial 9, 3) := by decide +kernel
theorem dX3_init_12 : decode cX3_init 12 = .ok (.putfield 10, 3) := by decide +kernel
theorem dX3_init_15 : decode cX3_init 15 = .ok (.aload_n 0, 1) := by decide +kernel
theorem dX3_init_16 : decode cX3_init 16 = .ok (.new 16, 3) := by decide +kernel
theorem dX3_init_19 : decode cX3_init 19 = .ok (.dup, 1) := by decide +kernel
theorem dX3_init_20 : decode cX3_init 20 = .ok (.aload_n 0, 1) := by decide +kernel
theorem dX3_init_21 : decode cX3_init 21 = .ok (.getfield 10, 3) := by decide +kernel
theorem dX3_init_24 : decode cX3_init 24 = .ok (.invokespecial 18, 3) := by decide +kernel
theorem dX3_init_27 : decode cX3_init 27 = .ok (.putfield 21, 3) := by decide +kernel
theorem dX3_init_30 : decode cX3_init 30 = .ok (.aload_n 0, 1) := by decide +kernel
theorem dX3_init_31 : decode cX3_init 31 = .ok (.new 25, 3) := by decide +kernel
theorem dX3_init_34 : decode cX3_init 34 = .ok (.dup, 1) := by decide +kernel
theorem dX3_init_35 : decode cX3_init 35 = .ok (.aload_n 0, 1) := by decide +kernel
theorem dX3_init_36 : decode cX3_init 36 = .ok (.getfield 21, 3) := by decide +kernel
theorem dX3_init_39 : decode cX3_init 39 = .ok (.invokespecial 27, 3) := by decide +kernel
theorem dX3_init_42 : decode cX3_init 42 = .ok (.putfield 30, 3) := by decide +kernel
theorem dX3_init_45 : decode cX3_init 45 = .ok (.return_, 1) := by decide +kernel
theorem dX0_setRow_0 : decode cX0_setRow 0 = .ok (.aload_n 0, 1) := by decide +kernel
theorem dX0_setRow_1 : decode cX0_setRow 1 = .ok (.iload_n 1, 1) := by decide +kernel
theorem dX0_setRow_2 : decode cX0_setRow 2 = .ok (.putfield 21, 3) := by decide +kernel
theorem dX0_setRow_5 : decode cX0_setRow 5 = .ok (.aload_n 0, 1) := by decide +kernel
theorem dX0_setRow_6 : decode cX0_setRow 6 = .ok (.iload_n 2, 1) := by decide +kernel
theorem dX0_setRow_7 : decode cX0_setRow 7 = .ok (.putfield 18, 3) := by decide +kernel
theorem dX0_setRow_10 : decode cX0_setRow 10 = .ok (.return_, 1) := by decide +kernel
theorem dX0_captureData_0 : decode cX0_captureData 0 = .ok (.aload_n 0, 1) := by decide +kernel
theorem dX0_captureData_1 : decode cX0_captureData 1 = .ok (.getfield 24, 3) := by decide +kernel
theorem dX0_captureData_4 : decode cX0_captureData 4 = .ok (.ifCond .eq 7, 3) := by decide +kernel
theorem dX0_captureData_7 : decode cX0_captureData 7 = .ok (.iconst 3, 1) := by decide +kernel
theorem dX0_captureData_8 : decode cX0_captureData 8 = .ok (.goto 4, 3) := by decide +kernel
theorem dX0_captureData_11 : decode cX0_captureData 11 = .ok (.iconst 0, 1) := by decide +kernel
theorem dX0_captureData_12 : decode cX0_captureData 12 = .ok (.istore_n 1, 1) := by decide +kernel
theorem dX0_captureData_13 : decode cX0_captureData 13 = .ok (.aload_n 0, 1) := by decide +kernel
theorem dX0_captureData_14 : decode cX0_captureData 14 = .ok (.getfield 15, 3) := by decide +kernel
theorem dX0_captureData_17 : decode cX0_captureData 17 = .ok (.tableswitch 73 1 3 #[27, 39, 48], 27) := by decide +kernel
theorem dX0_captureData_44 : decode cX0_captureData 44 = .ok (.aload_n 0, 1) := by decide +kernel
theorem dX0_captureData_45 : decode cX0_captureData 45 = .ok (.bipush 16, 2) := by decide +kernel
theorem dX0_captureData_47 : decode cX0_captureData 47 = .ok (.sipush 23130, 3) := by decide +kernel
theorem dX0_captureData_50 : decode cX0_captureData 50 = .ok (.invokevirtual 47, 3) := by decide +kernel
theorem dX0_captureData_53 : decode cX0_captureData 53 = .ok (.goto 43, 3) := by decide +kernel
theorem dX0_captureData_56 : decode cX0_captureData 56 = .ok (.aload_n 0, 1) := by decide +kernel
theorem dX0_captureData_57 : decode cX0_captureData 57 = .ok (.iconst 4, 1) := by decide +kernel
theorem dX0_captureData_58 : decode cX0_captureData 58 = .ok (.iload_n 1, 1) := by decide +kernel
theorem dX0_captureData_59 : decode cX0_captureData 59 = .ok (.invokevirtual 47, 3) := by decide +kernel
theorem dX0_captureData_62 : decode cX0_captureData 62 = .ok (.goto 34, 3) := by decide +kernel
theorem dX0_captureData_65 : decode cX0_captureData 65 = .ok (.aload_n 0, 1) := by decide +kernel
theorem dX0_captureData_66 : decode cX0_captureData 66 = .ok (.bipush 22, 2) := by decide +kernel
theorem dX0_captureData_68 : decode cX0_captureData 68 = .ok (.iload_n 1, 1) := by decide +kernel
theorem dX0_captureData_69 : decode cX0_captureData 69 = .ok (.aload_n 0, 1) := by decide +kernel
theorem dX0_captureData_70 : decode cX0_captureData 70 = .ok (.getfield 28, 3) := by decide +kernel
theorem dX0_captureData_73 : decode cX0_captureData 73 = .ok (.iconst 2, 1) := by decide +kernel
theorem dX0_captureData_74 : decode cX0_captureData 74 = .ok (.ishl, 1) := by decide +kernel
theorem dX0_captureData_75 : decode cX0_captureData 75 = .ok (.ior, 1) := by decide +kernel
theorem dX0_captureData_76 : decode cX0_captureData 76 = .ok (.aload_n 0, 1) := by decide +kernel
theorem dX0_captureData_77 : decode cX0_captureData 77 = .ok (.getfield 31, 3) := by decide +kernel
theorem dX0_captureData_80 : decode cX0_captureData 80 = .ok (.bipush 18, 2) := by decide +kernel
theorem dX0_captureData_82 : decode cX0_captureData 82 = .ok (.ishl, 1) := by decide +kernel
theorem dX0_captureData_83 : decode cX0_captureData 83 = .ok (.ior, 1) := by decide +kernel
theorem dX0_captureData_84 : decode cX0_captureData 84 = .ok (.invokevirtual 47, 3) := by decide +kernel
theorem dX0_captureData_87 : decode cX0_captureData 87 = .ok (.goto 9, 3) := by decide +kernel
theorem dX0_captureData_90 : decode cX0_captureData 90 = .ok (.aload_n 0, 1) := by decide +kernel
theorem dX0_captureData_91 : decode cX0_captureData 91 = .ok (.iconst 1, 1) := by decide +kernel
theorem dX0_captureData_92 : decode cX0_captureData 92 = .ok (.iconst 0, 1) := by decide +kernel
theorem dX0_captureData_93 : decode cX0_captureData 93 = .ok (.invokevirtual 47, 3) := by decide +kernel
theorem dX0_captureData_96 : decode cX0_captureData 96 = .ok (.return_, 1) := by decide +kernel
theorem dX0_comesTooSoon_0 : decode cX0_comesTooSoon 0 = .ok (.aload_n 0, 1) := by decide +kernel
theorem dX0_comesTooSoon_1 : decode cX0_comesTooSoon 1 = .ok (.getfield 37, 3) := by decide +kernel
theorem dX0_comesTooSoon_4 : decode cX0_comesTooSoon 4 = .ok (.aload_n 0, 1) := by decide +kernel
theorem dX0_comesTooSoon_5 : decode cX0_comesTooSoon 5 = .ok (.getfield 40, 3) := by decide +kernel
theorem dX0_comesTooSoon_8 : decode cX0_comesTooSoon 8 = .ok (.isub, 1) := by decide +kernel
theorem dX0_comesTooSoon_9 : decode cX0_comesTooSoon 9 = .ok (.iconst 1, 1) := by decide +kernel
theorem dX0_comesTooSoon_10 : decode cX0_comesTooSoon 10 = .ok (.isub, 1) := by decide +kernel
theorem dX0_comesTooSoon_11 : decode cX0_comesTooSoon 11 = .ok (.istore_n 1, 1) := by decide +kernel
theorem dX0_comesTooSoon_12 : decode cX0_comesTooSoon 12 = .ok (.aload_n 0, 1) := by decide +kernel
theorem dX0_comesTooSoon_13 : decode cX0_comesTooSoon 13 = .ok (.getfield 34, 3) := by decide +kernel
theorem dX0_comesTooSoon_16 : decode cX0_comesTooSoon 16 = .ok (.ifCond .eq 12, 3) := by decide +kernel
theorem dX0_comesTooSoon_19 : decode cX0_comesTooSoon 19 = .ok (.iload_n 1, 1) := by decide +kernel
theorem dX0_comesTooSoon_20 : decode cX0_comesTooSoon 20 = .ok (.iconst 4, 1) := by decide +kernel
theorem dX0_comesTooSoon_21 : decode cX0_comesTooSoon 21 = .ok (.if_icmp .ge 7, 3) := by decide +kernel
theorem dX0_comesTooSoon_24 : decode cX0_comesTooSoon 24 = .ok (.iconst 1, 1) := by decide +kernel
theorem dX0_comesTooSoon_25 : decode cX0_comesTooSoon 25 = .ok (.goto 4, 3) := by decide +kernel
theorem dX0_comesTooSoon_28 : decode cX0_comesTooSoon 28 = .ok (.iconst 0, 1) := by decide +kernel
theorem dX0_comesTooSoon_29 : decode cX0_comesTooSoon 29 = .ok (.ireturn, 1) := by decide +kernel
theorem dX0_noteBegin_0 : decode cX0_noteBegin 0 = .ok (.aload_n 0, 1) := by decide +kernel
theorem dX0_noteBegin_1 : decode cX0_noteBegin 1 = .ok (.iconst 1, 1) := by decide +kernel
theorem dX0_noteBegin_2 : decode cX0_noteBegin 2 = .ok (.putfield 34, 3) := by decide +kernel
theorem dX0_noteBegin_5 : decode cX0_noteBegin 5 = .ok (.aload_n 0, 1) := by decide +kernel
theorem dX0_noteBegin_6 : decode cX0_noteBegin 6 = .ok (.aload_n 0, 1) := by decide +kernel
theorem dX0_noteBegin_7 : decode cX0_noteBegin 7 = .ok (.getfield 37, 3) := by decide +kernel
theorem dX0_noteBegin_10 : decode cX0_noteBegin 10 = .ok (.putfield 40, 3) := by decide +kernel
theorem dX0_noteBegin_13 : decode cX0_noteBegin 13 = .ok (.aload_n 0, 1) := by decide +kernel
theorem dX0_noteBegin_14 : decode cX0_noteBegin 14 = .ok (.aload_n 0, 1) := by decide +kernel
theorem dX0_noteBegin_15 : decode cX0_noteBegin 15 = .ok (.getfield 18, 3) := by decide +kernel
theorem dX0_noteBegin_18 : decode cX0_noteBegin 18 = .ok (.bipush 18, 2) := by decide +kernel
theorem dX0_noteBegin_20 : decode cX0_noteBegin 20 = .ok (.ishr, 1) := by decide +kernel
theorem dX0_noteBegin_21 : decode cX0_noteBegin 21 = .ok (.bipush 15, 2) := by decide +kernel
theorem dX0_noteBegin_23 : decode cX0_noteBegin 23 = .ok (.iand, 1) := by decide +kernel
theorem dX0_noteBegin_24 : decode cX0_noteBegin 24 = .ok (.putfield 31, 3) := by decide +kernel
theorem dX0_noteBegin_27 : decode cX0_noteBegin 27 = .ok (.return_, 1) := by decide +kernel
theorem dX2_status_0 : decode cX2_status 0 = .ok (.aload_n 0, 1) := by decide +kernel
theorem dX2_status_1 : decode cX2_status 1 = .ok (.getfield 25, 3) := by decide +kernel
theorem dX2_status_4 : decode cX2_status 4 = .ok (.ifCond .eq 7, 3) := by decide +kernel
theorem dX2_status_7 : decode cX2_status 7 = .ok (.iconst 0, 1) := by decide +kernel
theorem dX2_status_8 : decode cX2_status 8 = .ok (.goto 4, 3) := by decide +kernel
theorem dX2_status_11 : decode cX2_status 11 = .ok (.iconst 1, 1) := by decide +kernel
theorem dX2_status_12 : decode cX2_status 12 = .ok (.aload_n 0, 1) := by decide +kernel
theorem dX2_status_13 : decode cX2_status 13 = .ok (.getfield 29, 3) := by decide +kernel
theorem dX2_status_16 : decode cX2_status 16 = .ok (.iconst 1, 1) := by decide +kernel
theorem dX2_status_17 : decode cX2_status 17 = .ok (.ishl, 1) := by decide +kernel
theorem dX2_status_18 : decode cX2_status 18 = .ok (.ior, 1) := by decide +kernel
theorem dX2_status_19 : decode cX2_status 19 = .ok (.aload_n 0, 1) := by decide +kernel
theorem dX2_status_20 : decode cX2_status 20 = .ok (.getfield 21, 3) := by decide +kernel
theorem dX2_status_23 : decode cX2_status 23 = .ok (.iconst 4, 1) := by decide +kernel
theorem dX2_status_24 : decode cX2_status 24 = .ok (.ishl, 1) := by decide +kernel
theorem dX2_status_25 : decode cX2_status 25 = .ok (.ior, 1) := by decide +kernel
theorem dX2_status_26 : decode cX2_status 26 = .ok (.ireturn, 1) := by decide +kernel
theorem dX1_passAddress_0 : decode cX1_passAddress 0 = .ok (.aload_n 0, 1) := by decide +kernel
theorem dX1_passAddress_1 : decode cX1_passAddress 1 = .ok (.getfield 26, 3) := by decide +kernel
theorem dX1_passAddress_4 : decode cX1_passAddress 4 = .ok (.istore_n 1, 1) := by decide +kernel
theorem dX1_passAddress_5 : decode cX1_passAddress 5 = .ok (.aload_n 0, 1) := by decide +kernel
theorem dX1_passAddress_6 : decode cX1_passAddress 6 = .ok (.iload_n 1, 1) := by decide +kernel
theorem dX1_passAddress_7 : decode cX1_passAddress 7 = .ok (.iconst 1, 1) := by decide +kernel
theorem dX1_passAddress_8 : decode cX1_passAddress 8 = .ok (.iadd, 1) := by decide +kernel
theorem dX1_passAddress_9 : decode cX1_passAddress 9 = .ok (.bipush 63, 2) := by decide +kernel
theorem dX1_passAddress_11 : decode cX1_passAddress 11 = .ok (.iand, 1) := by decide +kernel
theorem dX1_passAddress_12 : decode cX1_passAddress 12 = .ok (.putfield 26, 3) := by decide +kernel
theorem dX1_passAddress_15 : decode cX1_passAddress 15 = .ok (.iload_n 1, 1) := by decide +kernel
theorem dX1_passAddress_16 : decode cX1_passAddress 16 = .ok (.ireturn, 1) := by decide +kernel
theorem dX1_fetch_0 : decode cX1_fetch 0 = .ok (.iload_n 1, 1) := by decide +kernel
theorem dX1_fetch_1 : decode cX1_fetch 1 = .ok (.iconst 5, 1) := by decide +kernel
theorem dX1_fetch_2 : decode cX1_fetch 2 = .ok (.if_icmp .lt 18, 3) := by decide +kernel
theorem dX1_fetch_5 : decode cX1_fetch 5 = .ok (.iload_n 1, 1) := by decide +kernel
theorem dX1_fetch_6 : decode cX1_fetch 6 = .ok (.bipush 8, 2) := by decide +kernel
theorem dX1_fetch_8 : decode cX1_fetch 8 = .ok (.if_icmp .gt 12, 3) := by decide +kernel
theorem dX1_fetch_11 : decode cX1_fetch 11 = .ok (.aload_n 0, 1) := by decide +kernel
theorem dX1_fetch_12 : decode cX1_fetch 12 = .ok (.getfield 11, 3) := by decide +kernel
theorem dX1_fetch_15 : decode cX1_fetch 15 = .ok (.iload_n 1, 1) := by decide +kernel
theorem dX1_fetch_16 : decode cX1_fetch 16 = .ok (.iconst 5, 1) := by decide +kernel
theorem dX1_fetch_17 : decode cX1_fetch 17 = .ok (.isub, 1) := by decide +kernel
theorem dX1_fetch_18 : decode cX1_fetch 18 = .ok (.iaload, 1) := by decide +kernel
theorem dX1_fetch_19 : decode cX1_fetch 19 = .ok (.ireturn, 1) := by decide +kernel
theorem dX1_fetch_20 : decode cX1_fetch 20 = .ok (.iload_n 1, 1) := by decide +kernel
theorem dX1_fetch_21 : decode cX1_fetch 21 = .ok (.bipush 11, 2) := by decide +kernel
theorem dX1_fetch_23 : decode cX1_fetch 23 = .ok (.if_icmp .lt 22, 3) := by decide +kernel
theorem dX1_fetch_26 : decode cX1_fetch 26 = .ok (.iload_n 1, 1) := by decide +kernel
theorem dX1_fetch_27 : decode cX1_fetch 27 = .ok (.bipush 12, 2) := by decide +kernel
theorem dX1_fetch_29 : decode cX1_fetch 29 = .ok (.if_icmp .gt 16, 3) := by decide +kernel
theorem dX1_fetch_32 : decode cX1_fetch 32 = .ok (.aload_n 0, 1) := by decide +kernel
theorem dX1_fetch_33 : decode cX1_fetch 33 = .ok (.getfield 29, 3) := by decide +kernel
theorem dX1_fetch_36 : decode cX1_fetch 36 = .ok (.getfield 33, 3) := by decide +kernel
theorem dX1_fetch_39 : decode cX1_fetch 39 = .ok (.iload_n 1, 1) := by decide +kernel
theorem dX1_fetch_40 : decode cX1_fetch 40 = .ok (.bipush 11, 2) := by decide +kernel
theorem dX1_fetch_42 : decode cX1_fetch 42 = .ok (.isub, 1) := by decide +kernel
theorem dX1_fetch_43 : decode cX1_fetch 43 = .ok (.iaload, 1) := by decide +kernel
theorem dX1_fetch_44 : decode cX1_fetch 44 = .ok (.ireturn, 1) := by decide +kernel
theorem dX1_fetch_45 : decode cX1_fetch 45 = .ok (.iload_n 1, 1) := by decide +kernel
theorem dX1_fetch_46 : decode cX1_fetch 46 = .ok (.tableswitch 123 0 13 #[70, 83, 91, 123, 96, 123, 123, 123, 123, 101, 106, 123, 123, 119], 70) := by decide +kernel
theorem dX1_fetch_116 : decode cX1_fetch 116 = .ok (.aload_n 0, 1) := by decide +kernel
theorem dX1_fetch_117 : decode cX1_fetch 117 = .ok (.getfield 15, 3) := by decide +kernel
theorem dX1_fetch_120 : decode cX1_fetch 120 = .ok (.ifCond .eq 7, 3) := by decide +kernel
theorem dX1_fetch_123 : decode cX1_fetch 123 = .ok (.iconst 4, 1) := by decide +kernel
theorem dX1_fetch_124 : decode cX1_fetch 124 = .ok (.goto 4, 3) := by decide +kernel
theorem dX1_fetch_127 : decode cX1_fetch 127 = .ok (.iconst 0, 1) := by decide +kernel
theorem dX1_fetch_128 : decode cX1_fetch 128 = .ok (.ireturn, 1) := by decide +kernel
theorem dX1_fetch_129 : decode cX1_fetch 129 = .ok (.aload_n 0, 1) := by decide +kernel
theorem dX1_fetch_130 : decode cX1_fetch 130 = .ok (.getfield 29, 3) := by decide +kernel
theorem dX1_fetch_133 : decode cX1_fetch 133 = .ok (.invokevirtual 38, 3) := by decide +kernel
theorem dX1_fetch_136 : decode cX1_fetch 136 = .ok (.ireturn, 1) := by decide +kernel
theorem dX1_fetch_137 : decode cX1_fetch 137 = .ok (.aload_n 0, 1) := by decide +kernel
theorem dX1_fetch_138 : decode cX1_fetch 138 = .ok (.getfield 19, 3) := by decide +kernel
theorem dX1_fetch_141 : decode cX1_fetch 141 = .ok (.ireturn, 1) := by decide +kernel
theorem dX1_fetch_142 : decode cX1_fetch 142 = .ok (.aload_n 0, 1) := by decide +kernel
theorem dX1_fetch_143 : decode cX1_fetch 143 = .ok (.getfield 23, 3) := by decide +kernel
theorem dX1_fetch_146 : decode cX1_fetch 146 = .ok (.ireturn, 1) := by decide +kernel
theorem dX1_fetch_147 : decode cX1_fetch 147 = .ok (.aload_n 0, 1) := by decide +kernel
theorem dX1_fetch_148 : decode cX1_fetch 148 = .ok (.getfield 26, 3) := by decide +kernel
theorem dX1_fetch_151 : decode cX1_fetch 151 = .ok (.ireturn, 1) := by decide +kernel
theorem dX1_fetch_152 : decode cX1_fetch 152 = .ok (.aload_n 0, 1) := by decide +kernel
theorem dX1_fetch_153 : decode cX1_fetch 153 = .ok (.getfield 29, 3) := by decide +kernel
theorem dX1_fetch_156 : decode cX1_fetch 156 = .ok (.getfield 42, 3) := by decide +kernel
theorem dX1_fetch_159 : decode cX1_fetch 159 = .ok (.aload_n 0, 1) := by decide +kernel
theorem dX1_fetch_160 : decode cX1_fetch 160 = .ok (.invokevirtual 45, 3) := by decide +kernel
theorem dX1_fetch_163 : decode cX1_fetch 163 = .ok (.iaload, 1) := by decide +kernel
theorem dX1_fetch_164 : decode cX1_fetch 164 = .ok (.ireturn, 1) := by decide +kernel
theorem dX1_fetch_165 : decode cX1_fetch 165 = .ok (.sipush 23130, 3) := by decide +kernel
theorem dX1_fetch_168 : decode cX1_fetch 168 = .ok (.ireturn, 1) := by decide +kernel
theorem dX1_fetch_169 : decode cX1_fetch 169 = .ok (.iconst 0, 1) := by decide +kernel
theorem dX1_fetch_170 : decode cX1_fetch 170 = .ok (.ireturn, 1) := by decide +kernel
theorem dX2_setTrap_0 : decode cX2_setTrap 0 = .ok (.iload_n 2, 1) := by decide +kernel
theorem dX2_setTrap_1 : decode cX2_setTrap 1 = .ok (.sipush 192, 3) := by decide +kernel
theorem dX2_setTrap_4 : decode cX2_setTrap 4 = .ok (.iand, 1) := by decide +kernel
theorem dX2_setTrap_5 : decode cX2_setTrap 5 = .ok (.sipush 192, 3) := by decide +kernel
theorem dX2_setTrap_8 : decode cX2_setTrap 8 = .ok (.if_icmp .ne 7, 3) := by decide +kernel
theorem dX2_setTrap_11 : decode cX2_setTrap 11 = .ok (.iconst 1, 1) := by decide +kernel
theorem dX2_setTrap_12 : decode cX2_setTrap 12 = .ok (.goto 4, 3) := by decide +kernel
theorem dX2_setTrap_15 : decode cX2_setTrap 15 = .ok (.iconst 0, 1) := by decide +kernel
theorem dX2_setTrap_16 : decode cX2_setTrap 16 = .ok (.istore_n 3, 1) := by decide +kernel
theorem dX2_setTrap_17 : decode cX2_setTrap 17 = .ok (.aload_n 0, 1) := by decide +kernel
theorem dX2_setTrap_18 : decode cX2_setTrap 18 = .ok (.getfield 18, 3) := by decide +kernel
theorem dX2_setTrap_21 : decode cX2_setTrap 21 = .ok (.iload_n 1, 1) := by decide +kernel
theorem dX2_setTrap_22 : decode cX2_setTrap 22 = .ok (.iload_n 2, 1) := by decide +kernel
theorem dX2_setTrap_23 : decode cX2_setTrap 23 = .ok (.iload_n 3, 1) := by decide +kernel
theorem dX2_setTrap_24 : decode cX2_setTrap 24 = .ok (.ifCond .eq 8, 3) := by decide +kernel
theorem dX2_setTrap_27 : decode cX2_setTrap 27 = .ok (.bipush 63, 2) := by decide +kernel
theorem dX2_setTrap_29 : decode cX2_setTrap 29 = .ok (.goto 6, 3) := by decide +kernel
theorem dX2_setTrap_32 : decode cX2_setTrap 32 = .ok (.sipush 255, 3) := by decide +kernel
theorem dX2_setTrap_35 : decode cX2_setTrap 35 = .ok (.iand, 1) := by decide +kernel
theorem dX2_setTrap_36 : decode cX2_setTrap 36 = .ok (.iastore, 1) := by decide +kernel
theorem dX2_setTrap_37 : decode cX2_setTrap 37 = .ok (.return_, 1) := by decide +kernel
theorem dX2_halt_0 : decode cX2_halt 0 = .ok (.aload_n 0, 1) := by decide +kernel
theorem dX2_halt_1 : decode cX2_halt 1 = .ok (.iconst 0, 1) := by decide +kernel
theorem dX2_halt_2 : decode cX2_halt 2 = .ok (.putfield 25, 3) := by decide +kernel
theorem dX2_halt_5 : decode cX2_halt 5 = .ok (.aload_n 0, 1) := by decide +kernel
theorem dX2_halt_6 : decode cX2_halt 6 = .ok (.iload_n 1, 1) := by decide +kernel
theorem dX2_halt_7 : decode cX2_halt 7 = .ok (.putfield 29, 3) := by decide +kernel
theorem dX2_halt_10 : decode cX2_halt 10 = .ok (.return_, 1) := by decide +kernel
theorem dX2_resume_0 : decode cX2_resume 0 = .ok (.aload_n 0, 1) := by decide +kernel
theorem dX2_resume_1 : decode cX2_resume 1 = .ok (.iconst 1, 1) := by decide +kernel
theorem dX2_resume_2 : decode cX2_resume 2 = .ok (.putfield 25, 3) := by decide +kernel
theorem dX2_resume_5 : decode cX2_resume 5 = .ok (.aload_n 0, 1) := by decide +kernel
theorem dX2_resume_6 : decode cX2_resume 6 = .ok (.iconst 1, 1) := by decide +kernel
theorem dX2_resume_7 : decode cX2_resume 7 = .ok (.putfield 35, 3) := by decide +kernel
theorem dX2_resume_10 : decode cX2_resume 10 = .ok (.return_, 1) := by decide +kernel
theorem dX2_isTrapped_0 : decode cX2_isTrapped 0 = .ok (.aload_n 0, 1) := by decide +kernel
theorem dX2_isTrapped_1 : decode cX2_isTrapped 1 = .ok (.getfield 11, 3) := by decide +kernel
theorem dX2_isTrapped_4 : decode cX2_isTrapped 4 = .ok (.iload_n 1, 1) := by decide +kernel
theorem dX2_isTrapped_5 : decode cX2_isTrapped 5 = .ok (.bipush 6, 2) := by decide +kernel
theorem dX2_isTrapped_7 : decode cX2_isTrapped 7 = .ok (.ishr, 1) := by decide +kernel
theorem dX2_isTrapped_8 : decode cX2_isTrapped 8 = .ok (.bipush 7, 2) := by decide +kernel
theorem dX2_isTrapped_10 : decode cX2_isTrapped 10 = .ok (.iand, 1) := by decide +kernel
theorem dX2_isTrapped_11 : decode cX2_isTrapped 11 = .ok (.iaload, 1) := by decide +kernel
theorem dX2_isTrapped_12 : decode cX2_isTrapped 12 = .ok (.iload_n 1, 1) := by decide +kernel
theorem dX2_isTrapped_13 : decode cX2_isTrapped 13 = .ok (.iadd, 1) := by decide +kernel
theorem dX2_isTrapped_14 : decode cX2_isTrapped 14 = .ok (.bipush 63, 2) := by decide +kernel
theorem dX2_isTrapped_16 : decode cX2_isTrapped 16 = .ok (.iand, 1) := by decide +kernel
theorem dX2_isTrapped_17 : decode cX2_isTrapped 17 = .ok (.istore_n 2, 1) := by decide +kernel
theorem dX2_isTrapped_18 : decode cX2_isTrapped 18 = .ok (.iload_n 1, 1) := by decide +kernel
theorem dX2_isTrapped_19 : decode cX2_isTrapped 19 = .ok (.bipush 12, 2) := by decide +kernel
theorem dX2_isTrapped_21 : decode cX2_isTrapped 21 = .ok (.ishr, 1) := by decide +kernel
theorem dX2_isTrapped_22 : decode cX2_isTrapped 22 = .ok (.iconst 5, 1) := by decide +kernel
theorem dX2_isTrapped_23 : decode cX2_isTrapped 23 = .ok (.if_icmp .ne 7, 3) := by decide +kernel
theorem dX2_isTrapped_26 : decode cX2_isTrapped 26 = .ok (.iconst 1, 1) := by decide +kernel
theorem dX2_isTrapped_27 : decode cX2_isTrapped 27 = .ok (.goto 4, 3) := by decide +kernel
theorem dX2_isTrapped_30 : decode cX2_isTrapped 30 = .ok (.iconst 0, 1) := by decide +kernel
theorem dX2_isTrapped_31 : decode cX2_isTrapped 31 = .ok (.istore_n 3, 1) := by decide +kernel
theorem dX2_isTrapped_32 : decode cX2_isTrapped 32 = .ok (.iconst 0, 1) := by decide +kernel
theorem dX2_isTrapped_33 : decode cX2_isTrapped 33 = .ok (.istore 4, 2) := by decide +kernel
theorem dX2_isTrapped_35 : decode cX2_isTrapped 35 = .ok (.iload 4, 2) := by decide +kernel
theorem dX2_isTrapped_37 : decode cX2_isTrapped 37 = .ok (.iconst 2, 1) := by decide +kernel
theorem dX2_isTrapped_38 : decode cX2_isTrapped 38 = .ok (.if_icmp .ge 56, 3) := by decide +kernel
theorem dX2_isTrapped_41 : decode cX2_isTrapped 41 = .ok (.aload_n 0, 1) := by decide +kernel
theorem dX2_isTrapped_42 : decode cX2_isTrapped 42 = .ok (.getfield 35, 3) := by decide +kernel
theorem dX2_isTrapped_45 : decode cX2_isTrapped 45 = .ok (.ifCond .ne 22, 3) := by decide +kernel
theorem dX2_isTrapped_48 : decode cX2_isTrapped 48 = .ok (.aload_n 0, 1) := by decide +kernel
theorem dX2_isTrapped_49 : decode cX2_isTrapped 49 = .ok (.getfield 18, 3) := by decide +kernel
theorem dX2_isTrapped_52 : decode cX2_isTrapped 52 = .ok (.iload 4, 2) := by decide +kernel
theorem dX2_isTrapped_54 : decode cX2_isTrapped 54 = .ok (.iaload, 1) := by decide +kernel
theorem dX2_isTrapped_55 : decode cX2_isTrapped 55 = .ok (.bipush 64, 2) := by decide +kernel
theorem dX2_isTrapped_57 : decode cX2_isTrapped 57 = .ok (.aload_n 0, 1) := by decide +kernel
theorem dX2_isTrapped_58 : decode cX2_isTrapped 58 = .ok (.getfield 21, 3) := by decide +kernel
theorem dX2_isTrapped_61 : decode cX2_isTrapped 61 = .ok (.iadd, 1) := by decide +kernel
theorem dX2_isTrapped_62 : decode cX2_isTrapped 62 = .ok (.if_icmp .ne 5, 3) := by decide +kernel
theorem dX2_isTrapped_65 : decode cX2_isTrapped 65 = .ok (.iconst 1, 1) := by decide +kernel
theorem dX2_isTrapped_66 : decode cX2_isTrapped 66 = .ok (.ireturn, 1) := by decide +kernel
theorem dX2_isTrapped_67 : decode cX2_isTrapped 67 = .ok (.iload_n 3, 1) := by decide +kernel
theorem dX2_isTrapped_68 : decode cX2_isTrapped 68 = .ok (.ifCond .eq 20, 3) := by decide +kernel
theorem dX2_isTrapped_71 : decode cX2_isTrapped 71 = .ok (.aload_n 0, 1) := by decide +kernel
theorem dX2_isTrapped_72 : decode cX2_isTrapped 72 = .ok (.getfield 18, 3) := by decide +kernel
theorem dX2_isTrapped_75 : decode cX2_isTrapped 75 = .ok (.iload 4, 2) := by decide +kernel
theorem dX2_isTrapped_77 : decode cX2_isTrapped 77 = .ok (.iaload, 1) := by decide +kernel
theorem dX2_isTrapped_78 : decode cX2_isTrapped 78 = .ok (.sipush 128, 3) := by decide +kernel
theorem dX2_isTrapped_81 : decode cX2_isTrapped 81 = .ok (.iload_n 2, 1) := by decide +kernel
theorem dX2_isTrapped_82 : decode cX2_isTrapped 82 = .ok (.iadd, 1) := by decide +kernel
theorem dX2_isTrapped_83 : decode cX2_isTrapped 83 = .ok (.if_icmp .ne 5, 3) := by decide +kernel
theorem dX2_isTrapped_86 : decode cX2_isTrapped 86 = .ok (.iconst 1, 1) := by decide +kernel
theorem dX2_isTrapped_87 : decode cX2_isTrapped 87 = .ok (.ireturn, 1) := by decide +kernel
theorem dX2_isTrapped_88 : decode cX2_isTrapped 88 = .ok (.iinc 4 1, 3) := by decide +kernel
theorem dX2_isTrapped_91 : decode cX2_isTrapped 91 = .ok (.goto (-56), 3) := by decide +kernel
theorem dX2_isTrapped_94 : decode cX2_isTrapped 94 = .ok (.iconst 0, 1) := by decide +kernel
theorem dX2_isTrapped_95 : decode cX2_isTrapped 95 = .ok (.ireturn, 1) := by decide +kernel
theorem dX2_isJump_0 : decode cX2_isJump 0 = .ok (.iload_n 0, 1) := by decide +kernel
theorem dX2_isJump_1 : decode cX2_isJump 1 = .ok (.bipush 12, 2) := by decide +kernel
theorem dX2_isJump_3 : decode cX2_isJump 3 = .ok (.ishr, 1) := by decide +kernel
theorem dX2_isJump_4 : decode cX2_isJump 4 = .ok (.bipush 6, 2) := by decide +kernel
theorem dX2_isJump_6 : decode cX2_isJump 6 = .ok (.if_icmp .lt 16, 3) := by decide +kernel
theorem dX2_isJump_9 : decode cX2_isJump 9 = .ok (.iload_n 0, 1) := by decide +kernel
theorem dX2_isJump_10 : decode cX2_isJump 10 = .ok (.bipush 12, 2) := by decide +kernel
theorem dX2_isJump_12 : decode cX2_isJump 12 = .ok (.ishr, 1) := by decide +kernel
theorem dX2_isJump_13 : decode cX2_isJump 13 = .ok (.bipush 9, 2) := by decide +kernel
theorem dX2_isJump_15 : decode cX2_isJump 15 = .ok (.if_icmp .gt 7, 3) := by decide +kernel
theorem dX2_isJump_18 : decode cX2_isJump 18 = .ok (.iconst 1, 1) := by decide +kernel
theorem dX2_isJump_19 : decode cX2_isJump 19 = .ok (.goto 4, 3) := by decide +kernel
theorem dX2_isJump_22 : decode cX2_isJump 22 = .ok (.iconst 0, 1) := by decide +kernel
theorem dX2_isJump_23 : decode cX2_isJump 23 = .ok (.ireturn, 1) := by decide +kernel
theorem dX2_jump_0 : decode cX2_jump 0 = .ok (.iload_n 1, 1) := by decide +kernel
theorem dX2_jump_1 : decode cX2_jump 1 = .ok (.bipush 9, 2) := by decide +kernel
theorem dX2_jump_3 : decode cX2_jump 3 = .ok (.ishr, 1) := by decide +kernel
theorem dX2_jump_4 : decode cX2_jump 4 = .ok (.bipush 7, 2) := by decide +kernel
theorem dX2_jump_6 : decode cX2_jump 6 = .ok (.iand, 1) := by decide +kernel
theorem dX2_jump_7 : decode cX2_jump 7 = .ok (.istore_n 2, 1) := by decide +kernel
theorem dX2_jump_8 : decode cX2_jump 8 = .ok (.iload_n 1, 1) := by decide +kernel
theorem dX2_jump_9 : decode cX2_jump 9 = .ok (.bipush 6, 2) := by decide +kernel
theorem dX2_jump_11 : decode cX2_jump 11 = .ok (.ishr, 1) := by decide +kernel
theorem dX2_jump_12 : decode cX2_jump 12 = .ok (.bipush 7, 2) := by decide +kernel
theorem dX2_jump_14 : decode cX2_jump 14 = .ok (.iand, 1) := by decide +kernel
theorem dX2_jump_15 : decode cX2_jump 15 = .ok (.istore_n 3, 1) := by decide +kernel
theorem dX2_jump_16 : decode cX2_jump 16 = .ok (.iload_n 1, 1) := by decide +kernel
theorem dX2_jump_17 : decode cX2_jump 17 = .ok (.bipush 63, 2) := by decide +kernel
theorem dX2_jump_19 : decode cX2_jump 19 = .ok (.iand, 1) := by decide +kernel
theorem dX2_jump_20 : decode cX2_jump 20 = .ok (.istore 4, 2) := by decide +kernel
theorem dX2_jump_22 : decode cX2_jump 22 = .ok (.aload_n 0, 1) := by decide +kernel
theorem dX2_jump_23 : decode cX2_jump 23 = .ok (.getfield 21, 3) := by decide +kernel
theorem dX2_jump_26 : decode cX2_jump 26 = .ok (.istore 5, 2) := by decide +kernel
theorem dX2_jump_28 : decode cX2_jump 28 = .ok (.iload_n 1, 1) := by decide +kernel
theorem dX2_jump_29 : decode cX2_jump 29 = .ok (.bipush 12, 2) := by decide +kernel
theorem dX2_jump_31 : decode cX2_jump 31 = .ok (.ishr, 1) := by decide +kernel
theorem dX2_jump_32 : decode cX2_jump 32 = .ok (.tableswitch 117 6 9 #[32, 41, 64, 93], 32) := by decide +kernel
theorem dX2_jump_64 : decode cX2_jump 64 = .ok (.aload_n 0, 1) := by decide +kernel
theorem dX2_jump_65 : decode cX2_jump 65 = .ok (.iload 4, 2) := by decide +kernel
theorem dX2_jump_67 : decode cX2_jump 67 = .ok (.putfield 21, 3) := by decide +kernel
theorem dX2_jump_70 : decode cX2_jump 70 = .ok (.goto 79, 3) := by decide +kernel
theorem dX2_jump_73 : decode cX2_jump 73 = .ok (.aload_n 0, 1) := by decide +kernel
theorem dX2_jump_74 : decode cX2_jump 74 = .ok (.aload_n 0, 1) := by decide +kernel
theorem dX2_jump_75 : decode cX2_jump 75 = .ok (.getfield 11, 3) := by decide +kernel
theorem dX2_jump_78 : decode cX2_jump 78 = .ok (.iload_n 2, 1) := by decide +kernel
theorem dX2_jump_79 : decode cX2_jump 79 = .ok (.iaload, 1) := by decide +kernel
theorem dX2_jump_80 : decode cX2_jump 80 = .ok (.ifCond .ne 8, 3) := by decide +kernel
theorem dX2_jump_83 : decode cX2_jump 83 = .ok (.iload 4, 2) := by decide +kernel
theorem dX2_jump_85 : decode cX2_jump 85 = .ok (.goto 5, 3) := by decide +kernel
theorem dX2_jump_88 : decode cX2_jump 88 = .ok (.iload 5, 2) := by decide +kernel
theorem dX2_jump_90 : decode cX2_jump 90 = .ok (.putfield 21, 3) := by decide +kernel
theorem dX2_jump_93 : decode cX2_jump 93 = .ok (.goto 56, 3) := by decide +kernel
theorem dX2_jump_96 : decode cX2_jump 96 = .ok (.aload_n 0, 1) := by decide +kernel
theorem dX2_jump_97 : decode cX2_jump 97 = .ok (.aload_n 0, 1) := by decide +kernel
theorem dX2_jump_98 : decode cX2_jump 98 = .ok (.getfield 11, 3) := by decide +kernel
theorem dX2_jump_101 : decode cX2_jump 101 = .ok (.iload_n 2, 1) := by decide +kernel
theorem dX2_jump_102 : decode cX2_jump 102 = .ok (.iaload, 1) := by decide +kernel
theorem dX2_jump_103 : decode cX2_jump 103 = .ok (.aload_n 0, 1) := by decide +kernel
theorem dX2_jump_104 : decode cX2_jump 104 = .ok (.getfield 11, 3) := by decide +kernel
theorem dX2_jump_107 : decode cX2_jump 107 = .ok (.iload_n 3, 1) := by decide +kernel
theorem dX2_jump_108 : decode cX2_jump 108 = .ok (.iaload, 1) := by decide +kernel
theorem dX2_jump_109 : decode cX2_jump 109 = .ok (.if_icmp .ge 8, 3) := by decide +kernel
theorem dX2_jump_112 : decode cX2_jump 112 = .ok (.iload 4, 2) := by decide +kernel
theorem dX2_jump_114 : decode cX2_jump 114 = .ok (.goto 5, 3) := by decide +kernel
theorem dX2_jump_117 : decode cX2_jump 117 = .ok (.iload 5, 2) := by decide +kernel
theorem dX2_jump_119 : decode cX2_jump 119 = .ok (.putfield 21, 3) := by decide +kernel
theorem dX2_jump_122 : decode cX2_jump 122 = .ok (.goto 27, 3) := by decide +kernel
theorem dX2_jump_125 : decode cX2_jump 125 = .ok (.aload_n 0, 1) := by decide +kernel
theorem dX2_jump_126 : decode cX2_jump 126 = .ok (.aload_n 0, 1) := by decide +kernel
theorem dX2_jump_127 : decode cX2_jump 127 = .ok (.getfield 11, 3) := by decide +kernel
theorem dX2_jump_130 : decode cX2_jump 130 = .ok (.iload_n 3, 1) := by decide +kernel
theorem dX2_jump_131 : decode cX2_jump 131 = .ok (.iaload, 1) := by decide +kernel
theorem dX2_jump_132 : decode cX2_jump 132 = .ok (.bipush 63, 2) := by decide +kernel
theorem dX2_jump_134 : decode cX2_jump 134 = .ok (.iand, 1) := by decide +kernel
theorem dX2_jump_135 : decode cX2_jump 135 = .ok (.putfield 21, 3) := by decide +kernel
theorem dX2_jump_138 : decode cX2_jump 138 = .ok (.aload_n 0, 1) := by decide +kernel
theorem dX2_jump_139 : decode cX2_jump 139 = .ok (.getfield 11, 3) := by decide +kernel
theorem dX2_jump_142 : decode cX2_jump 142 = .ok (.iload_n 2, 1) := by decide +kernel
theorem dX2_jump_143 : decode cX2_jump 143 = .ok (.iload 5, 2) := by decide +kernel
theorem dX2_jump_145 : decode cX2_jump 145 = .ok (.iastore, 1) := by decide +kernel
theorem dX2_jump_146 : decode cX2_jump 146 = .ok (.goto 3, 3) := by decide +kernel
theorem dX2_jump_149 : decode cX2_jump 149 = .ok (.return_, 1) := by decide +kernel
theorem dX2_perform_0 : decode cX2_perform 0 = .ok (.iload_n 1, 1) := by decide +kernel
theorem dX2_perform_1 : decode cX2_perform 1 = .ok (.bipush 9, 2) := by decide +kernel
theorem dX2_perform_3 : decode cX2_perform 3 = .ok (.ishr, 1) := by decide +kernel
theorem dX2_perform_4 : decode cX2_perform 4 = .ok (.bipush 7, 2) := by decide +kernel
theorem dX2_perform_6 : decode cX2_perform 6 = .ok (.iand, 1) := by decide +kernel
theorem dX2_perform_7 : decode cX2_perform 7 = .ok (.istore_n 2, 1) := by decide +kernel
theorem dX2_perform_8 : decode cX2_perform 8 = .ok (.iload_n 1, 1) := by decide +kernel
theorem dX2_perform_9 : decode cX2_perform 9 = .ok (.bipush 6, 2) := by decide +kernel
theorem dX2_perform_11 : decode cX2_perform 11 = .ok (.ishr, 1) := by decide +kernel
theorem dX2_perform_12 : decode cX2_perform 12 = .ok (.bipush 7, 2) := by decide +kernel
theorem dX2_perform_14 : decode cX2_perform 14 = .ok (.iand, 1) := by decide +kernel
theorem dX2_perform_15 : decode cX2_perform 15 = .ok (.istore_n 3, 1) := by decide +kernel
theorem dX2_perform_16 : decode cX2_perform 16 = .ok (.iload_n 1, 1) := by decide +kernel
theorem dX2_perform_17 : decode cX2_perform 17 = .ok (.bipush 63, 2) := by decide +kernel
theorem dX2_perform_19 : decode cX2_perform 19 = .ok (.iand, 1) := by decide +kernel
theorem dX2_perform_20 : decode cX2_perform 20 = .ok (.istore 4, 2) := by decide +kernel
theorem dX2_perform_22 : decode cX2_perform 22 = .ok (.aload_n 0, 1) := by decide +kernel
theorem dX2_perform_23 : decode cX2_perform 23 = .ok (.getfield 11, 3) := by decide +kernel
theorem dX2_perform_26 : decode cX2_perform 26 = .ok (.iload_n 3, 1) := by decide +kernel
theorem dX2_perform_27 : decode cX2_perform 27 = .ok (.iaload, 1) := by decide +kernel
theorem dX2_perform_28 : decode cX2_perform 28 = .ok (.iload 4, 2) := by decide +kernel
theorem dX2_perform_30 : decode cX2_perform 30 = .ok (.iadd, 1) := by decide +kernel
theorem dX2_perform_31 : decode cX2_perform 31 = .ok (.bipush 63, 2) := by decide +kernel
theorem dX2_perform_33 : decode cX2_perform 33 = .ok (.iand, 1) := by decide +kernel
theorem dX2_perform_34 : decode cX2_perform 34 = .ok (.istore 5, 2) := by decide +kernel
theorem dX2_perform_36 : decode cX2_perform 36 = .ok (.iload_n 1, 1) := by decide +kernel
theorem dX2_perform_37 : decode cX2_perform 37 = .ok (.bipush 12, 2) := by decide +kernel
theorem dX2_perform_39 : decode cX2_perform 39 = .ok (.ishr, 1) := by decide +kernel
theorem dX2_perform_40 : decode cX2_perform 40 = .ok (.tableswitch 129 1 5 #[36, 47, 72, 97, 113], 36) := by decide +kernel
theorem dX2_perform_76 : decode cX2_perform 76 = .ok (.aload_n 0, 1) := by decide +kernel
theorem dX2_perform_77 : decode cX2_perform 77 = .ok (.getfield 11, 3) := by decide +kernel
theorem dX2_perform_80 : decode cX2_perform 80 = .ok (.iload_n 2, 1) := by decide +kernel
theorem dX2_perform_81 : decode cX2_perform 81 = .ok (.iload 4, 2) := by decide +kernel
theorem dX2_perform_83 : decode cX2_perform 83 = .ok (.iastore, 1) := by decide +kernel
theorem dX2_perform_84 : decode cX2_perform 84 = .ok (.goto 85, 3) := by decide +kernel
theorem dX2_perform_87 : decode cX2_perform 87 = .ok (.aload_n 0, 1) := by decide +kernel
theorem dX2_perform_88 : decode cX2_perform 88 = .ok (.getfield 11, 3) := by decide +kernel
theorem dX2_perform_91 : decode cX2_perform 91 = .ok (.iload_n 2, 1) := by decide +kernel
theorem dX2_perform_92 : decode cX2_perform 92 = .ok (.aload_n 0, 1) := by decide +kernel
theorem dX2_perform_93 : decode cX2_perform 93 = .ok (.getfield 11, 3) := by decide +kernel
theorem dX2_perform_96 : decode cX2_perform 96 = .ok (.iload_n 2, 1) := by decide +kernel
theorem dX2_perform_97 : decode cX2_perform 97 = .ok (.iaload, 1) := by decide +kernel
theorem dX2_perform_98 : decode cX2_perform 98 = .ok (.aload_n 0, 1) := by decide +kernel
theorem dX2_perform_99 : decode cX2_perform 99 = .ok (.getfield 11, 3) := by decide +kernel
theorem dX2_perform_102 : decode cX2_perform 102 = .ok (.iload_n 3, 1) := by decide +kernel
theorem dX2_perform_103 : decode cX2_perform 103 = .ok (.iaload, 1) := by decide +kernel
theorem dX2_perform_104 : decode cX2_perform 104 = .ok (.iadd, 1) := by decide +kernel
theorem dX2_perform_105 : decode cX2_perform 105 = .ok (.ldc 55, 2) := by decide +kernel
theorem dX2_perform_107 : decode cX2_perform 107 = .ok (.iand, 1) := by decide +kernel
theorem dX2_perform_108 : decode cX2_perform 108 = .ok (.iastore, 1) := by decide +kernel
theorem dX2_perform_109 : decode cX2_perform 109 = .ok (.goto 60, 3) := by decide +kernel
theorem dX2_perform_112 : decode cX2_perform 112 = .ok (.aload_n 0, 1) := by decide +kernel
theorem dX2_perform_113 : decode cX2_perform 113 = .ok (.getfield 11, 3) := by decide +kernel
theorem dX2_perform_116 : decode cX2_perform 116 = .ok (.iload_n 2, 1) := by decide +kernel
theorem dX2_perform_117 : decode cX2_perform 117 = .ok (.aload_n 0, 1) := by decide +kernel
theorem dX2_perform_118 : decode cX2_perform 118 = .ok (.getfield 11, 3) := by decide +kernel
theorem dX2_perform_121 : decode cX2_perform 121 = .ok (.iload_n 2, 1) := by decide +kernel
theorem dX2_perform_122 : decode cX2_perform 122 = .ok (.iaload, 1) := by decide +kernel
theorem dX2_perform_123 : decode cX2_perform 123 = .ok (.aload_n 0, 1) := by decide +kernel
theorem dX2_perform_124 : decode cX2_perform 124 = .ok (.getfield 11, 3) := by decide +kernel
theorem dX2_perform_127 : decode cX2_perform 127 = .ok (.iload_n 3, 1) := by decide +kernel
theorem dX2_perform_128 : decode cX2_perform 128 = .ok (.iaload, 1) := by decide +kernel
theorem dX2_perform_129 : decode cX2_perform 129 = .ok (.isub, 1) := by decide +kernel
theorem dX2_perform_130 : decode cX2_perform 130 = .ok (.ldc 55, 2) := by decide +kernel
theorem dX2_perform_132 : decode cX2_perform 132 = .ok (.iand, 1) := by decide +kernel
theorem dX2_perform_133 : decode cX2_perform 133 = .ok (.iastore, 1) := by decide +kernel
theorem dX2_perform_134 : decode cX2_perform 134 = .ok (.goto 35, 3) := by decide +kernel
theorem dX2_perform_137 : decode cX2_perform 137 = .ok (.aload_n 0, 1) := by decide +kernel
theorem dX2_perform_138 : decode cX2_perform 138 = .ok (.getfield 11, 3) := by decide +kernel
theorem dX2_perform_141 : decode cX2_perform 141 = .ok (.iload_n 2, 1) := by decide +kernel
theorem dX2_perform_142 : decode cX2_perform 142 = .ok (.aload_n 0, 1) := by decide +kernel
theorem dX2_perform_143 : decode cX2_perform 143 = .ok (.getfield 15, 3) := by decide +kernel
theorem dX2_perform_146 : decode cX2_perform 146 = .ok (.iload 5, 2) := by decide +kernel
theorem dX2_perform_148 : decode cX2_perform 148 = .ok (.iaload, 1) := by decide +kernel
theorem dX2_perform_149 : decode cX2_perform 149 = .ok (.iastore, 1) := by decide +kernel
theorem dX2_perform_150 : decode cX2_perform 150 = .ok (.goto 19, 3) := by decide +kernel
theorem dX2_perform_153 : decode cX2_perform 153 = .ok (.aload_n 0, 1) := by decide +kernel
theorem dX2_perform_154 : decode cX2_perform 154 = .ok (.getfield 15, 3) := by decide +kernel
theorem dX2_perform_157 : decode cX2_perform 157 = .ok (.iload 5, 2) := by decide +kernel
theorem dX2_perform_159 : decode cX2_perform 159 = .ok (.aload_n 0, 1) := by decide +kernel
theorem dX2_perform_160 : decode cX2_perform 160 = .ok (.getfield 11, 3) := by decide +kernel
theorem dX2_perform_163 : decode cX2_perform 163 = .ok (.iload_n 2, 1) := by decide +kernel
theorem dX2_perform_164 : decode cX2_perform 164 = .ok (.iaload, 1) := by decide +kernel
theorem dX2_perform_165 : decode cX2_perform 165 = .ok (.iastore, 1) := by decide +kernel
theorem dX2_perform_166 : decode cX2_perform 166 = .ok (.goto 3, 3) := by decide +kernel
theorem dX2_perform_169 : decode cX2_perform 169 = .ok (.return_, 1) := by decide +kernel
theorem dX2_advance_0 : decode cX2_advance 0 = .ok (.aload_n 0, 1) := by decide +kernel
theorem dX2_advance_1 : decode cX2_advance 1 = .ok (.getfield 15, 3) := by decide +kernel
theorem dX2_advance_4 : decode cX2_advance 4 = .ok (.aload_n 0, 1) := by decide +kernel
theorem dX2_advance_5 : decode cX2_advance 5 = .ok (.getfield 21, 3) := by decide +kernel
theorem dX2_advance_8 : decode cX2_advance 8 = .ok (.iaload, 1) := by decide +kernel
theorem dX2_advance_9 : decode cX2_advance 9 = .ok (.istore_n 1, 1) := by decide +kernel
theorem dX2_advance_10 : decode cX2_advance 10 = .ok (.aload_n 0, 1) := by decide +kernel
theorem dX2_advance_11 : decode cX2_advance 11 = .ok (.iload_n 1, 1) := by decide +kernel
theorem dX2_advance_12 : decode cX2_advance 12 = .ok (.invokevirtual 38, 3) := by decide +kernel
theorem dX2_advance_15 : decode cX2_advance 15 = .ok (.istore_n 2, 1) := by decide +kernel
theorem dX2_advance_16 : decode cX2_advance 16 = .ok (.aload_n 0, 1) := by decide +kernel
theorem dX2_advance_17 : decode cX2_advance 17 = .ok (.iconst 0, 1) := by decide +kernel
theorem dX2_advance_18 : decode cX2_advance 18 = .ok (.putfield 35, 3) := by decide +kernel
theorem dX2_advance_21 : decode cX2_advance 21 = .ok (.iload_n 2, 1) := by decide +kernel
theorem dX2_advance_22 : decode cX2_advance 22 = .ok (.ifCond .eq 10, 3) := by decide +kernel
theorem dX2_advance_25 : decode cX2_advance 25 = .ok (.aload_n 0, 1) := by decide +kernel
theorem dX2_advance_26 : decode cX2_advance 26 = .ok (.iconst 2, 1) := by decide +kernel
theorem dX2_advance_27 : decode cX2_advance 27 = .ok (.invokevirtual 42, 3) := by decide +kernel
theorem dX2_advance_30 : decode cX2_advance 30 = .ok (.iconst 0, 1) := by decide +kernel
theorem dX2_advance_31 : decode cX2_advance 31 = .ok (.ireturn, 1) := by decide +kernel
theorem dX2_advance_32 : decode cX2_advance 32 = .ok (.iload_n 1, 1) := by decide +kernel
theorem dX2_advance_33 : decode cX2_advance 33 = .ok (.bipush 12, 2) := by decide +kernel
theorem dX2_advance_35 : decode cX2_advance 35 = .ok (.ishr, 1) := by decide +kernel
theorem dX2_advance_36 : decode cX2_advance 36 = .ok (.bipush 10, 2) := by decide +kernel
theorem dX2_advance_38 : decode cX2_advance 38 = .ok (.if_icmp .ne 10, 3) := by decide +kernel
theorem dX2_advance_41 : decode cX2_advance 41 = .ok (.aload_n 0, 1) := by decide +kernel
theorem dX2_advance_42 : decode cX2_advance 42 = .ok (.iconst 1, 1) := by decide +kernel
theorem dX2_advance_43 : decode cX2_advance 43 = .ok (.invokevirtual 42, 3) := by decide +kernel
theorem dX2_advance_46 : decode cX2_advance 46 = .ok (.iconst 0, 1) := by decide +kernel
theorem dX2_advance_47 : decode cX2_advance 47 = .ok (.ireturn, 1) := by decide +kernel
theorem dX2_advance_48 : decode cX2_advance 48 = .ok (.aload_n 0, 1) := by decide +kernel
theorem dX2_advance_49 : decode cX2_advance 49 = .ok (.aload_n 0, 1) := by decide +kernel
theorem dX2_advance_50 : decode cX2_advance 50 = .ok (.getfield 21, 3) := by decide +kernel
theorem dX2_advance_53 : decode cX2_advance 53 = .ok (.iconst 1, 1) := by decide +kernel
theorem dX2_advance_54 : decode cX2_advance 54 = .ok (.iadd, 1) := by decide +kernel
theorem dX2_advance_55 : decode cX2_advance 55 = .ok (.bipush 63, 2) := by decide +kernel
theorem dX2_advance_57 : decode cX2_advance 57 = .ok (.iand, 1) := by decide +kernel
theorem dX2_advance_58 : decode cX2_advance 58 = .ok (.putfield 21, 3) := by decide +kernel
theorem dX2_advance_61 : decode cX2_advance 61 = .ok (.iload_n 1, 1) := by decide +kernel
theorem dX2_advance_62 : decode cX2_advance 62 = .ok (.invokestatic 46, 3) := by decide +kernel
theorem dX2_advance_65 : decode cX2_advance 65 = .ok (.ifCond .eq 11, 3) := by decide +kernel
theorem dX2_advance_68 : decode cX2_advance 68 = .ok (.aload_n 0, 1) := by decide +kernel
theorem dX2_advance_69 : decode cX2_advance 69 = .ok (.iload_n 1, 1) := by decide +kernel
theorem dX2_advance_70 : decode cX2_advance 70 = .ok (.invokevirtual 49, 3) := by decide +kernel
theorem dX2_advance_73 : decode cX2_advance 73 = .ok (.goto 8, 3) := by decide +kernel
theorem dX2_advance_76 : decode cX2_advance 76 = .ok (.aload_n 0, 1) := by decide +kernel
theorem dX2_advance_77 : decode cX2_advance 77 = .ok (.iload_n 1, 1) := by decide +kernel
theorem dX2_advance_78 : decode cX2_advance 78 = .ok (.invokevirtual 52, 3) := by decide +kernel
theorem dX2_advance_81 : decode cX2_advance 81 = .ok (.aload_n 0, 1) := by decide +kernel
theorem dX2_advance_82 : decode cX2_advance 82 = .ok (.dup, 1) := by decide +kernel
theorem dX2_advance_83 : decode cX2_advance 83 = .ok (.getfield 32, 3) := by decide +kernel
theorem dX2_advance_86 : decode cX2_advance 86 = .ok (.iconst 1, 1) := by decide +kernel
theorem dX2_advance_87 : decode cX2_advance 87 = .ok (.iadd, 1) := by decide +kernel
theorem dX2_advance_88 : decode cX2_advance 88 = .ok (.putfield 32, 3) := by decide +kernel
theorem dX2_advance_91 : decode cX2_advance 91 = .ok (.iconst 1, 1) := by decide +kernel
theorem dX2_advance_92 : decode cX2_advance 92 = .ok (.ireturn, 1) := by decide +kernel
theorem dX1_control_0 : decode cX1_control 0 = .ok (.aload_n 0, 1) := by decide +kernel
theorem dX1_control_1 : decode cX1_control 1 = .ok (.iload_n 1, 1) := by decide +kernel
theorem dX1_control_2 : decode cX1_control 2 = .ok (.iconst 4, 1) := by decide +kernel
theorem dX1_control_3 : decode cX1_control 3 = .ok (.iand, 1) := by decide +kernel
theorem dX1_control_4 : decode cX1_control 4 = .ok (.ifCond .eq 7, 3) := by decide +kernel
theorem dX1_control_7 : decode cX1_control 7 = .ok (.iconst 1, 1) := by decide +kernel
theorem dX1_control_8 : decode cX1_control 8 = .ok (.goto 4, 3) := by decide +kernel
theorem dX1_control_11 : decode cX1_control 11 = .ok (.iconst 0, 1) := by decide +kernel
theorem dX1_control_12 : decode cX1_control 12 = .ok (.putfield 15, 3) := by decide +kernel
theorem dX1_control_15 : decode cX1_control 15 = .ok (.iload_n 1, 1) := by decide +kernel
theorem dX1_control_16 : decode cX1_control 16 = .ok (.iconst 1, 1) := by decide +kernel
theorem dX1_control_17 : decode cX1_control 17 = .ok (.iand, 1) := by decide +kernel
theorem dX1_control_18 : decode cX1_control 18 = .ok (.ifCond .eq 24, 3) := by decide +kernel
theorem dX1_control_21 : decode cX1_control 21 = .ok (.aload_n 0, 1) := by decide +kernel
theorem dX1_control_22 : decode cX1_control 22 = .ok (.getfield 29, 3) := by decide +kernel
theorem dX1_control_25 : decode cX1_control 25 = .ok (.getfield 59, 3) := by decide +kernel
theorem dX1_control_28 : decode cX1_control 28 = .ok (.ifCond .eq 14, 3) := by decide +kernel
theorem dX1_control_31 : decode cX1_control 31 = .ok (.aload_n 0, 1) := by decide +kernel
theorem dX1_control_32 : decode cX1_control 32 = .ok (.getfield 29, 3) := by decide +kernel
theorem dX1_control_35 : decode cX1_control 35 = .ok (.iconst 3, 1) := by decide +kernel
theorem dX1_control_36 : decode cX1_control 36 = .ok (.invokevirtual 62, 3) := by decide +kernel
theorem dX1_control_39 : decode cX1_control 39 = .ok (.goto 51, 3) := by decide +kernel
theorem dX1_control_42 : decode cX1_control 42 = .ok (.iload_n 1, 1) := by decide +kernel
theorem dX1_control_43 : decode cX1_control 43 = .ok (.iconst 2, 1) := by decide +kernel
theorem dX1_control_44 : decode cX1_control 44 = .ok (.iand, 1) := by decide +kernel
theorem dX1_control_45 : decode cX1_control 45 = .ok (.ifCond .eq 45, 3) := by decide +kernel
theorem dX1_control_48 : decode cX1_control 48 = .ok (.aload_n 0, 1) := by decide +kernel
theorem dX1_control_49 : decode cX1_control 49 = .ok (.getfield 29, 3) := by decide +kernel
theorem dX1_control_52 : decode cX1_control 52 = .ok (.getfield 59, 3) := by decide +kernel
theorem dX1_control_55 : decode cX1_control 55 = .ok (.ifCond .ne 35, 3) := by decide +kernel
theorem dX1_control_58 : decode cX1_control 58 = .ok (.aload_n 0, 1) := by decide +kernel
theorem dX1_control_59 : decode cX1_control 59 = .ok (.getfield 29, 3) := by decide +kernel
theorem dX1_control_62 : decode cX1_control 62 = .ok (.invokevirtual 65, 3) := by decide +kernel
theorem dX1_control_65 : decode cX1_control 65 = .ok (.aload_n 0, 1) := by decide +kernel
theorem dX1_control_66 : decode cX1_control 66 = .ok (.getfield 15, 3) := by decide +kernel
theorem dX1_control_69 : decode cX1_control 69 = .ok (.ifCond .eq 21, 3) := by decide +kernel
theorem dX1_control_72 : decode cX1_control 72 = .ok (.aload_n 0, 1) := by decide +kernel
theorem dX1_control_73 : decode cX1_control 73 = .ok (.getfield 29, 3) := by decide +kernel
theorem dX1_control_76 : decode cX1_control 76 = .ok (.invokevirtual 68, 3) := by decide +kernel
theorem dX1_control_79 : decode cX1_control 79 = .ok (.ifCond .eq 11, 3) := by decide +kernel
theorem dX1_control_82 : decode cX1_control 82 = .ok (.aload_n 0, 1) := by decide +kernel
theorem dX1_control_83 : decode cX1_control 83 = .ok (.getfield 29, 3) := by decide +kernel
theorem dX1_control_86 : decode cX1_control 86 = .ok (.iconst 4, 1) := by decide +kernel
theorem dX1_control_87 : decode cX1_control 87 = .ok (.invokevirtual 62, 3) := by decide +kernel
theorem dX1_control_90 : decode cX1_control 90 = .ok (.return_, 1) := by decide +kernel
theorem dX1_doProgram_0 : decode cX1_doProgram 0 = .ok (.iconst 0, 1) := by decide +kernel
theorem dX1_doProgram_1 : decode cX1_doProgram 1 = .ok (.istore_n 1, 1) := by decide +kernel
theorem dX1_doProgram_2 : decode cX1_doProgram 2 = .ok (.iload_n 1, 1) := by decide +kernel
theorem dX1_doProgram_3 : decode cX1_doProgram 3 = .ok (.aload_n 0, 1) := by decide +kernel
theorem dX1_doProgram_4 : decode cX1_doProgram 4 = .ok (.getfield 11, 3) := by decide +kernel
theorem dX1_doProgram_7 : decode cX1_doProgram 7 = .ok (.arraylength, 1) := by decide +kernel
theorem dX1_doProgram_8 : decode cX1_doProgram 8 = .ok (.if_icmp .ge 47, 3) := by decide +kernel
theorem dX1_doProgram_11 : decode cX1_doProgram 11 = .ok (.aload_n 0, 1) := by decide +kernel
theorem dX1_doProgram_12 : decode cX1_doProgram 12 = .ok (.getfield 11, 3) := by decide +kernel
theorem dX1_doProgram_15 : decode cX1_doProgram 15 = .ok (.iload_n 1, 1) := by decide +kernel
theorem dX1_doProgram_16 : decode cX1_doProgram 16 = .ok (.iaload, 1) := by decide +kernel
theorem dX1_doProgram_17 : decode cX1_doProgram 17 = .ok (.istore_n 2, 1) := by decide +kernel
theorem dX1_doProgram_18 : decode cX1_doProgram 18 = .ok (.iload_n 2, 1) := by decide +kernel
theorem dX1_doProgram_19 : decode cX1_doProgram 19 = .ok (.bipush 12, 2) := by decide +kernel
theorem dX1_doProgram_21 : decode cX1_doProgram 21 = .ok (.ishr, 1) := by decide +kernel
theorem dX1_doProgram_22 : decode cX1_doProgram 22 = .ok (.bipush 10, 2) := by decide +kernel
theorem dX1_doProgram_24 : decode cX1_doProgram 24 = .ok (.if_icmp .ne 4, 3) := by decide +kernel
theorem dX1_doProgram_27 : decode cX1_doProgram 27 = .ok (.return_, 1) := by decide +kernel
theorem dX1_doProgram_28 : decode cX1_doProgram 28 = .ok (.iload_n 2, 1) := by decide +kernel
theorem dX1_doProgram_29 : decode cX1_doProgram 29 = .ok (.invokestatic 81, 3) := by decide +kernel
theorem dX1_doProgram_32 : decode cX1_doProgram 32 = .ok (.ifCond .eq 9, 3) := by decide +kernel
theorem dX1_doProgram_35 : decode cX1_doProgram 35 = .ok (.aload_n 0, 1) := by decide +kernel
theorem dX1_doProgram_36 : decode cX1_doProgram 36 = .ok (.iconst 3, 1) := by decide +kernel
theorem dX1_doProgram_37 : decode cX1_doProgram 37 = .ok (.putfield 23, 3) := by decide +kernel
theorem dX1_doProgram_40 : decode cX1_doProgram 40 = .ok (.return_, 1) := by decide +kernel
theorem dX1_doProgram_41 : decode cX1_doProgram 41 = .ok (.aload_n 0, 1) := by decide +kernel
theorem dX1_doProgram_42 : decode cX1_doProgram 42 = .ok (.getfield 29, 3) := by decide +kernel
theorem dX1_doProgram_45 : decode cX1_doProgram 45 = .ok (.iload_n 2, 1) := by decide +kernel
theorem dX1_doProgram_46 : decode cX1_doProgram 46 = .ok (.invokevirtual 85, 3) := by decide +kernel
theorem dX1_doProgram_49 : decode cX1_doProgram 49 = .ok (.iinc 1 1, 3) := by decide +kernel
theorem dX1_doProgram_52 : decode cX1_doProgram 52 = .ok (.goto (-50), 3) := by decide +kernel
theorem dX1_doProgram_55 : decode cX1_doProgram 55 = .ok (.return_, 1) := by decide +kernel
theorem dX1_command_0 : decode cX1_command 0 = .ok (.aload_n 0, 1) := by decide +kernel
theorem dX1_command_1 : decode cX1_command 1 = .ok (.getfield 23, 3) := by decide +kernel
theorem dX1_command_4 : decode cX1_command 4 = .ok (.ifCond .eq 4, 3) := by decide +kernel
theorem dX1_command_7 : decode cX1_command 7 = .ok (.return_, 1) := by decide +kernel
theorem dX1_command_8 : decode cX1_command 8 = .ok (.aload_n 0, 1) := by decide +kernel
theorem dX1_command_9 : decode cX1_command 9 = .ok (.getfield 29, 3) := by decide +kernel
theorem dX1_command_12 : decode cX1_command 12 = .ok (.getfield 59, 3) := by decide +kernel
theorem dX1_command_15 : decode cX1_command 15 = .ok (.ifCond .eq 9, 3) := by decide +kernel
theorem dX1_command_18 : decode cX1_command 18 = .ok (.aload_n 0, 1) := by decide +kernel
theorem dX1_command_19 : decode cX1_command 19 = .ok (.iconst 1, 1) := by decide +kernel
theorem dX1_command_20 : decode cX1_command 20 = .ok (.putfield 23, 3) := by decide +kernel
theorem dX1_command_23 : decode cX1_command 23 = .ok (.return_, 1) := by decide +kernel
theorem dX1_command_24 : decode cX1_command 24 = .ok (.iload_n 1, 1) := by decide +kernel
theorem dX1_command_25 : decode cX1_command 25 = .ok (.bipush 8, 2) := by decide +kernel
theorem dX1_command_27 : decode cX1_command 27 = .ok (.ishr, 1) := by decide +kernel
theorem dX1_command_28 : decode cX1_command 28 = .ok (.bipush 7, 2) := by decide +kernel
theorem dX1_command_30 : decode cX1_command 30 = .ok (.iand, 1) := by decide +kernel
theorem dX1_command_31 : decode cX1_command 31 = .ok (.tableswitch 109 0 4 #[33, 52, 71, 85, 102], 33) := by decide +kernel
theorem dX1_command_64 : decode cX1_command 64 = .ok (.aload_n 0, 1) := by decide +kernel
theorem dX1_command_65 : decode cX1_command 65 = .ok (.aload_n 0, 1) := by decide +kernel
theorem dX1_command_66 : decode cX1_command 66 = .ok (.getfield 29, 3) := by decide +kernel
theorem dX1_command_69 : decode cX1_command 69 = .ok (.getfield 72, 3) := by decide +kernel
theorem dX1_command_72 : decode cX1_command 72 = .ok (.iload_n 1, 1) := by decide +kernel
theorem dX1_command_73 : decode cX1_command 73 = .ok (.bipush 7, 2) := by decide +kernel
theorem dX1_command_75 : decode cX1_command 75 = .ok (.iand, 1) := by decide +kernel
theorem dX1_command_76 : decode cX1_command 76 = .ok (.iaload, 1) := by decide +kernel
theorem dX1_command_77 : decode cX1_command 77 = .ok (.putfield 19, 3) := by decide +kernel
theorem dX1_command_80 : decode cX1_command 80 = .ok (.goto 65, 3) := by decide +kernel
theorem dX1_command_83 : decode cX1_command 83 = .ok (.aload_n 0, 1) := by decide +kernel
theorem dX1_command_84 : decode cX1_command 84 = .ok (.getfield 29, 3) := by decide +kernel
theorem dX1_command_87 : decode cX1_command 87 = .ok (.getfield 72, 3) := by decide +kernel
theorem dX1_command_90 : decode cX1_command 90 = .ok (.iload_n 1, 1) := by decide +kernel
theorem dX1_command_91 : decode cX1_command 91 = .ok (.bipush 7, 2) := by decide +kernel
theorem dX1_command_93 : decode cX1_command 93 = .ok (.iand, 1) := by decide +kernel
theorem dX1_command_94 : decode cX1_command 94 = .ok (.aload_n 0, 1) := by decide +kernel
theorem dX1_command_95 : decode cX1_command 95 = .ok (.getfield 19, 3) := by decide +kernel
theorem dX1_command_98 : decode cX1_command 98 = .ok (.iastore, 1) := by decide +kernel
theorem dX1_command_99 : decode cX1_command 99 = .ok (.goto 46, 3) := by decide +kernel
theorem dX1_command_102 : decode cX1_command 102 = .ok (.aload_n 0, 1) := by decide +kernel
theorem dX1_command_103 : decode cX1_command 103 = .ok (.aload_n 0, 1) := by decide +kernel
theorem dX1_command_104 : decode cX1_command 104 = .ok (.getfield 29, 3) := by decide +kernel
theorem dX1_command_107 : decode cX1_command 107 = .ok (.getfield 75, 3) := by decide +kernel
theorem dX1_command_110 : decode cX1_command 110 = .ok (.putfield 19, 3) := by decide +kernel
theorem dX1_command_113 : decode cX1_command 113 = .ok (.goto 32, 3) := by decide +kernel
theorem dX1_command_116 : decode cX1_command 116 = .ok (.aload_n 0, 1) := by decide +kernel
theorem dX1_command_117 : decode cX1_command 117 = .ok (.getfield 29, 3) := by decide +kernel
theorem dX1_command_120 : decode cX1_command 120 = .ok (.aload_n 0, 1) := by decide +kernel
theorem dX1_command_121 : decode cX1_command 121 = .ok (.getfield 19, 3) := by decide +kernel
theorem dX1_command_124 : decode cX1_command 124 = .ok (.bipush 63, 2) := by decide +kernel
theorem dX1_command_126 : decode cX1_command 126 = .ok (.iand, 1) := by decide +kernel
theorem dX1_command_127 : decode cX1_command 127 = .ok (.putfield 75, 3) := by decide +kernel
theorem dX1_command_130 : decode cX1_command 130 = .ok (.goto 15, 3) := by decide +kernel
theorem dX1_command_133 : decode cX1_command 133 = .ok (.aload_n 0, 1) := by decide +kernel
theorem dX1_command_134 : decode cX1_command 134 = .ok (.invokevirtual 78, 3) := by decide +kernel
theorem dX1_command_137 : decode cX1_command 137 = .ok (.goto 8, 3) := by decide +kernel
theorem dX1_command_140 : decode cX1_command 140 = .ok (.aload_n 0, 1) := by decide +kernel
theorem dX1_command_141 : decode cX1_command 141 = .ok (.iconst 2, 1) := by decide +kernel
theorem dX1_command_142 : decode cX1_command 142 = .ok (.putfield 23, 3) := by decide +kernel
theorem dX1_command_145 : decode cX1_command 145 = .ok (.return_, 1) := by decide +kernel
theorem dX1_put_0 : decode cX1_put 0 = .ok (.iload_n 1, 1) := by decide +kernel
theorem dX1_put_1 : decode cX1_put 1 = .ok (.iconst 5, 1) := by decide +kernel
theorem dX1_put_2 : decode cX1_put 2 = .ok (.if_icmp .lt 19, 3) := by decide +kernel
theorem dX1_put_5 : decode cX1_put 5 = .ok (.iload_n 1, 1) := by decide +kernel
theorem dX1_put_6 : decode cX1_put 6 = .ok (.bipush 8, 2) := by decide +kernel
theorem dX1_put_8 : decode cX1_put 8 = .ok (.if_icmp .gt 13, 3) := by decide +kernel
theorem dX1_put_11 : decode cX1_put 11 = .ok (.aload_n 0, 1) := by decide +kernel
theorem dX1_put_12 : decode cX1_put 12 = .ok (.getfield 11, 3) := by decide +kernel
theorem dX1_put_15 : decode cX1_put 15 = .ok (.iload_n 1, 1) := by decide +kernel
theorem dX1_put_16 : decode cX1_put 16 = .ok (.iconst 5, 1) := by decide +kernel
theorem dX1_put_17 : decode cX1_put 17 = .ok (.isub, 1) := by decide +kernel
theorem dX1_put_18 : decode cX1_put 18 = .ok (.iload_n 2, 1) := by decide +kernel
theorem dX1_put_19 : decode cX1_put 19 = .ok (.iastore, 1) := by decide +kernel
theorem dX1_put_20 : decode cX1_put 20 = .ok (.return_, 1) := by decide +kernel
theorem dX1_put_21 : decode cX1_put 21 = .ok (.iload_n 1, 1) := by decide +kernel
theorem dX1_put_22 : decode cX1_put 22 = .ok (.bipush 11, 2) := by decide +kernel
theorem dX1_put_24 : decode cX1_put 24 = .ok (.if_icmp .lt 22, 3) := by decide +kernel
theorem dX1_put_27 : decode cX1_put 27 = .ok (.iload_n 1, 1) := by decide +kernel
theorem dX1_put_28 : decode cX1_put 28 = .ok (.bipush 12, 2) := by decide +kernel
theorem dX1_put_30 : decode cX1_put 30 = .ok (.if_icmp .gt 16, 3) := by decide +kernel
theorem dX1_put_33 : decode cX1_put 33 = .ok (.aload_n 0, 1) := by decide +kernel
theorem dX1_put_34 : decode cX1_put 34 = .ok (.getfield 29, 3) := by decide +kernel
theorem dX1_put_37 : decode cX1_put 37 = .ok (.iload_n 1, 1) := by decide +kernel
theorem dX1_put_38 : decode cX1_put 38 = .ok (.bipush 11, 2) := by decide +kernel
theorem dX1_put_40 : decode cX1_put 40 = .ok (.isub, 1) := by decide +kernel
theorem dX1_put_41 : decode cX1_put 41 = .ok (.iload_n 2, 1) := by decide +kernel
theorem dX1_put_42 : decode cX1_put 42 = .ok (.invokevirtual 48, 3) := by decide +kernel
theorem dX1_put_45 : decode cX1_put 45 = .ok (.return_, 1) := by decide +kernel
theorem dX1_put_46 : decode cX1_put 46 = .ok (.iload_n 1, 1) := by decide +kernel
theorem dX1_put_47 : decode cX1_put 47 = .ok (.tableswitch 130 0 10 #[57, 130, 65, 73, 81, 130, 130, 130, 130, 103, 114], 57) := by decide +kernel
theorem dX1_put_104 : decode cX1_put 104 = .ok (.aload_n 0, 1) := by decide +kernel
theorem dX1_put_105 : decode cX1_put 105 = .ok (.iload_n 2, 1) := by decide +kernel
theorem dX1_put_106 : decode cX1_put 106 = .ok (.invokevirtual 52, 3) := by decide +kernel
theorem dX1_put_109 : decode cX1_put 109 = .ok (.goto 68, 3) := by decide +kernel
theorem dX1_put_112 : decode cX1_put 112 = .ok (.aload_n 0, 1) := by decide +kernel
theorem dX1_put_113 : decode cX1_put 113 = .ok (.iload_n 2, 1) := by decide +kernel
theorem dX1_put_114 : decode cX1_put 114 = .ok (.putfield 19, 3) := by decide +kernel
theorem dX1_put_117 : decode cX1_put 117 = .ok (.goto 60, 3) := by decide +kernel
theorem dX1_put_120 : decode cX1_put 120 = .ok (.aload_n 0, 1) := by decide +kernel
theorem dX1_put_121 : decode cX1_put 121 = .ok (.iload_n 2, 1) := by decide +kernel
theorem dX1_put_122 : decode cX1_put 122 = .ok (.invokevirtual 56, 3) := by decide +kernel
theorem dX1_put_125 : decode cX1_put 125 = .ok (.goto 52, 3) := by decide +kernel
theorem dX1_put_128 : decode cX1_put 128 = .ok (.aload_n 0, 1) := by decide +kernel
theorem dX1_put_129 : decode cX1_put 129 = .ok (.iload_n 2, 1) := by decide +kernel
theorem dX1_put_130 : decode cX1_put 130 = .ok (.iconst 1, 1) := by decide +kernel
theorem dX1_put_131 : decode cX1_put 131 = .ok (.iand, 1) := by decide +kernel
theorem dX1_put_132 : decode cX1_put 132 = .ok (.iconst 1, 1) := by decide +kernel
theorem dX1_put_133 : decode cX1_put 133 = .ok (.if_icmp .ne 7, 3) := by decide +kernel
theorem dX1_put_136 : decode cX1_put 136 = .ok (.iconst 0, 1) := by decide +kernel
theorem dX1_put_137 : decode cX1_put 137 = .ok (.goto 7, 3) := by decide +kernel
theorem dX1_put_140 : decode cX1_put 140 = .ok (.aload_n 0, 1) := by decide +kernel
theorem dX1_put_141 : decode cX1_put 141 = .ok (.getfield 23, 3) := by decide +kernel
theorem dX1_put_144 : decode cX1_put 144 = .ok (.putfield 23, 3) := by decide +kernel
theorem dX1_put_147 : decode cX1_put 147 = .ok (.goto 30, 3) := by decide +kernel
theorem dX1_put_150 : decode cX1_put 150 = .ok (.aload_n 0, 1) := by decide +kernel
theorem dX1_put_151 : decode cX1_put 151 = .ok (.iload_n 2, 1) := by decide +kernel
theorem dX1_put_152 : decode cX1_put 152 = .ok (.bipush 63, 2) := by decide +kernel
theorem dX1_put_154 : decode cX1_put 154 = .ok (.iand, 1) := by decide +kernel
theorem dX1_put_155 : decode cX1_put 155 = .ok (.putfield 26, 3) := by decide +kernel
theorem dX1_put_158 : decode cX1_put 158 = .ok (.goto 19, 3) := by decide +kernel
theorem dX1_put_161 : decode cX1_put 161 = .ok (.aload_n 0, 1) := by decide +kernel
theorem dX1_put_162 : decode cX1_put 162 = .ok (.getfield 29, 3) := by decide +kernel
theorem dX1_put_165 : decode cX1_put 165 = .ok (.getfield 42, 3) := by decide +kernel
theorem dX1_put_168 : decode cX1_put 168 = .ok (.aload_n 0, 1) := by decide +kernel
theorem dX1_put_169 : decode cX1_put 169 = .ok (.invokevirtual 45, 3) := by decide +kernel
theorem dX1_put_172 : decode cX1_put 172 = .ok (.iload_n 2, 1) := by decide +kernel
theorem dX1_put_173 : decode cX1_put 173 = .ok (.iastore, 1) := by decide +kernel
theorem dX1_put_174 : decode cX1_put 174 = .ok (.goto 3, 3) := by decide +kernel
theorem dX1_put_177 : decode cX1_put 177 = .ok (.return_, 1) := by decide +kernel
theorem dX0_updateData_0 : decode cX0_updateData 0 = .ok (.aload_n 0, 1) := by decide +kernel
theorem dX0_updateData_1 : decode cX0_updateData 1 = .ok (.getfield 15, 3) := by decide +kernel
theorem dX0_updateData_4 : decode cX0_updateData 4 = .ok (.iconst 2, 1) := by decide +kernel
theorem dX0_updateData_5 : decode cX0_updateData 5 = .ok (.if_icmp .ne 18, 3) := by decide +kernel
theorem dX0_updateData_8 : decode cX0_updateData 8 = .ok (.aload_n 0, 1) := by decide +kernel
theorem dX0_updateData_9 : decode cX0_updateData 9 = .ok (.getfield 18, 3) := by decide +kernel
theorem dX0_updateData_12 : decode cX0_updateData 12 = .ok (.iconst 1, 1) := by decide +kernel
theorem dX0_updateData_13 : decode cX0_updateData 13 = .ok (.iand, 1) := by decide +kernel
theorem dX0_updateData_14 : decode cX0_updateData 14 = .ok (.iconst 1, 1) := by decide +kernel
theorem dX0_updateData_15 : decode cX0_updateData 15 = .ok (.if_icmp .ne 8, 3) := by decide +kernel
theorem dX0_updateData_18 : decode cX0_updateData 18 = .ok (.aload_n 0, 1) := by decide +kernel
theorem dX0_updateData_19 : decode cX0_updateData 19 = .ok (.iconst 0, 1) := by decide +kernel
theorem dX0_updateData_20 : decode cX0_updateData 20 = .ok (.putfield 24, 3) := by decide +kernel
theorem dX0_updateData_23 : decode cX0_updateData 23 = .ok (.aload_n 0, 1) := by decide +kernel
theorem dX0_updateData_24 : decode cX0_updateData 24 = .ok (.getfield 15, 3) := by decide +kernel
theorem dX0_updateData_27 : decode cX0_updateData 27 = .ok (.iconst 3, 1) := by decide +kernel
theorem dX0_updateData_28 : decode cX0_updateData 28 = .ok (.if_icmp .ne 10, 3) := by decide +kernel
theorem dX0_updateData_31 : decode cX0_updateData 31 = .ok (.aload_n 0, 1) := by decide +kernel
theorem dX0_updateData_32 : decode cX0_updateData 32 = .ok (.getfield 24, 3) := by decide +kernel
theorem dX0_updateData_35 : decode cX0_updateData 35 = .ok (.ifCond .eq 4, 3) := by decide +kernel
theorem dX0_updateData_38 : decode cX0_updateData 38 = .ok (.return_, 1) := by decide +kernel
theorem dX0_updateData_39 : decode cX0_updateData 39 = .ok (.aload_n 0, 1) := by decide +kernel
theorem dX0_updateData_40 : decode cX0_updateData 40 = .ok (.invokevirtual 64, 3) := by decide +kernel
theorem dX0_updateData_43 : decode cX0_updateData 43 = .ok (.ifCond .eq 9, 3) := by decide +kernel
theorem dX0_updateData_46 : decode cX0_updateData 46 = .ok (.aload_n 0, 1) := by decide +kernel
theorem dX0_updateData_47 : decode cX0_updateData 47 = .ok (.iconst 1, 1) := by decide +kernel
theorem dX0_updateData_48 : decode cX0_updateData 48 = .ok (.putfield 24, 3) := by decide +kernel
theorem dX0_updateData_51 : decode cX0_updateData 51 = .ok (.return_, 1) := by decide +kernel
theorem dX0_updateData_52 : decode cX0_updateData 52 = .ok (.aload_n 0, 1) := by decide +kernel
theorem dX0_updateData_53 : decode cX0_updateData 53 = .ok (.getfield 18, 3) := by decide +kernel
theorem dX0_updateData_56 : decode cX0_updateData 56 = .ok (.iconst 3, 1) := by decide +kernel
theorem dX0_updateData_57 : decode cX0_updateData 57 = .ok (.iand, 1) := by decide +kernel
theorem dX0_updateData_58 : decode cX0_updateData 58 = .ok (.istore_n 1, 1) := by decide +kernel
theorem dX0_updateData_59 : decode cX0_updateData 59 = .ok (.iload_n 1, 1) := by decide +kernel
theorem dX0_updateData_60 : decode cX0_updateData 60 = .ok (.iconst 1, 1) := by decide +kernel
theorem dX0_updateData_61 : decode cX0_updateData 61 = .ok (.if_icmp .ne 25, 3) := by decide +kernel
theorem dX0_updateData_64 : decode cX0_updateData 64 = .ok (.aload_n 0, 1) := by decide +kernel
theorem dX0_updateData_65 : decode cX0_updateData 65 = .ok (.invokevirtual 68, 3) := by decide +kernel
theorem dX0_updateData_68 : decode cX0_updateData 68 = .ok (.aload_n 0, 1) := by decide +kernel
theorem dX0_updateData_69 : decode cX0_updateData 69 = .ok (.aload_n 0, 1) := by decide +kernel
theorem dX0_updateData_70 : decode cX0_updateData 70 = .ok (.getfield 43, 3) := by decide +kernel
theorem dX0_updateData_73 : decode cX0_updateData 73 = .ok (.aload_n 0, 1) := by decide +kernel
theorem dX0_updateData_74 : decode cX0_updateData 74 = .ok (.getfield 31, 3) := by decide +kernel
theorem dX0_updateData_77 : decode cX0_updateData 77 = .ok (.invokevirtual 71, 3) := by decide +kernel
theorem dX0_updateData_80 : decode cX0_updateData 80 = .ok (.putfield 28, 3) := by decide +kernel
theorem dX0_updateData_83 : decode cX0_updateData 83 = .ok (.goto 32, 3) := by decide +kernel
theorem dX0_updateData_86 : decode cX0_updateData 86 = .ok (.iload_n 1, 1) := by decide +kernel
theorem dX0_updateData_87 : decode cX0_updateData 87 = .ok (.iconst 2, 1) := by decide +kernel
theorem dX0_updateData_88 : decode cX0_updateData 88 = .ok (.if_icmp .ne 27, 3) := by decide +kernel
theorem dX0_updateData_91 : decode cX0_updateData 91 = .ok (.aload_n 0, 1) := by decide +kernel
theorem dX0_updateData_92 : decode cX0_updateData 92 = .ok (.invokevirtual 68, 3) := by decide +kernel
theorem dX0_updateData_95 : decode cX0_updateData 95 = .ok (.aload_n 0, 1) := by decide +kernel
theorem dX0_updateData_96 : decode cX0_updateData 96 = .ok (.getfield 43, 3) := by decide +kernel
theorem dX0_updateData_99 : decode cX0_updateData 99 = .ok (.aload_n 0, 1) := by decide +kernel
theorem dX0_updateData_100 : decode cX0_updateData 100 = .ok (.getfield 31, 3) := by decide +kernel
theorem dX0_updateData_103 : decode cX0_updateData 103 = .ok (.aload_n 0, 1) := by decide +kernel
theorem dX0_updateData_104 : decode cX0_updateData 104 = .ok (.getfield 18, 3) := by decide +kernel
theorem dX0_updateData_107 : decode cX0_updateData 107 = .ok (.iconst 2, 1) := by decide +kernel
theorem dX0_updateData_108 : decode cX0_updateData 108 = .ok (.ishr, 1) := by decide +kernel
theorem dX0_updateData_109 : decode cX0_updateData 109 = .ok (.ldc 77, 2) := by decide +kernel
theorem dX0_updateData_111 : decode cX0_updateData 111 = .ok (.iand, 1) := by decide +kernel
theorem dX0_updateData_112 : decode cX0_updateData 112 = .ok (.invokevirtual 78, 3) := by decide +kernel
theorem dX0_updateData_115 : decode cX0_updateData 115 = .ok (.return_, 1) := by decide +kernel
theorem dX0_clock_0 : decode cX0_clock 0 = .ok (.iconst 0, 1) := by decide +kernel
theorem dX0_clock_1 : decode cX0_clock 1 = .ok (.istore_n 3, 1) := by decide +kernel
theorem dX0_clock_2 : decode cX0_clock 2 = .ok (.aload_n 0, 1) := by decide +kernel
theorem dX0_clock_3 : decode cX0_clock 3 = .ok (.getfield 11, 3) := by decide +kernel
theorem dX0_clock_6 : decode cX0_clock 6 = .ok (.tableswitch 149 0 15 #[78, 149, 149, 135, 95, 149, 149, 149, 142, 149, 86, 95, 149, 149, 149, 124], 78) := by decide +kernel
theorem dX0_clock_84 : decode cX0_clock 84 = .ok (.aload_n 0, 1) := by decide +kernel
theorem dX0_clock_85 : decode cX0_clock 85 = .ok (.iconst 1, 1) := by decide +kernel
theorem dX0_clock_86 : decode cX0_clock 86 = .ok (.putfield 15, 3) := by decide +kernel
theorem dX0_clock_89 : decode cX0_clock 89 = .ok (.goto 66, 3) := by decide +kernel
theorem dX0_clock_92 : decode cX0_clock 92 = .ok (.aload_n 0, 1) := by decide +kernel
theorem dX0_clock_93 : decode cX0_clock 93 = .ok (.iconst 4, 1) := by decide +kernel
theorem dX0_clock_94 : decode cX0_clock 94 = .ok (.iconst 5, 1) := by decide +kernel
theorem dX0_clock_95 : decode cX0_clock 95 = .ok (.invokevirtual 47, 3) := by decide +kernel
theorem dX0_clock_98 : decode cX0_clock 98 = .ok (.goto 57, 3) := by decide +kernel
theorem dX0_clock_101 : decode cX0_clock 101 = .ok (.aload_n 0, 1) := by decide +kernel
theorem dX0_clock_102 : decode cX0_clock 102 = .ok (.getfield 18, 3) := by decide +kernel
theorem dX0_clock_105 : decode cX0_clock 105 = .ok (.iconst 1, 1) := by decide +kernel
theorem dX0_clock_106 : decode cX0_clock 106 = .ok (.iand, 1) := by decide +kernel
theorem dX0_clock_107 : decode cX0_clock 107 = .ok (.istore_n 3, 1) := by decide +kernel
theorem dX0_clock_108 : decode cX0_clock 108 = .ok (.aload_n 0, 1) := by decide +kernel
theorem dX0_clock_109 : decode cX0_clock 109 = .ok (.aload_n 0, 1) := by decide +kernel
theorem dX0_clock_110 : decode cX0_clock 110 = .ok (.getfield 18, 3) := by decide +kernel
theorem dX0_clock_113 : decode cX0_clock 113 = .ok (.iconst 1, 1) := by decide +kernel
theorem dX0_clock_114 : decode cX0_clock 114 = .ok (.ishr, 1) := by decide +kernel
theorem dX0_clock_115 : decode cX0_clock 115 = .ok (.iload_n 2, 1) := by decide +kernel
theorem dX0_clock_116 : decode cX0_clock 116 = .ok (.aload_n 0, 1) := by decide +kernel
theorem dX0_clock_117 : decode cX0_clock 117 = .ok (.getfield 21, 3) := by decide +kernel
theorem dX0_clock_120 : decode cX0_clock 120 = .ok (.iconst 1, 1) := by decide +kernel
theorem dX0_clock_121 : decode cX0_clock 121 = .ok (.isub, 1) := by decide +kernel
theorem dX0_clock_122 : decode cX0_clock 122 = .ok (.ishl, 1) := by decide +kernel
theorem dX0_clock_123 : decode cX0_clock 123 = .ok (.ior, 1) := by decide +kernel
theorem dX0_clock_124 : decode cX0_clock 124 = .ok (.putfield 18, 3) := by decide +kernel
theorem dX0_clock_127 : decode cX0_clock 127 = .ok (.goto 28, 3) := by decide +kernel
theorem dX0_clock_130 : decode cX0_clock 130 = .ok (.aload_n 0, 1) := by decide +kernel
theorem dX0_clock_131 : decode cX0_clock 131 = .ok (.aload_n 0, 1) := by decide +kernel
theorem dX0_clock_132 : decode cX0_clock 132 = .ok (.getfield 18, 3) := by decide +kernel
theorem dX0_clock_135 : decode cX0_clock 135 = .ok (.putfield 15, 3) := by decide +kernel
theorem dX0_clock_138 : decode cX0_clock 138 = .ok (.goto 17, 3) := by decide +kernel
theorem dX0_clock_141 : decode cX0_clock 141 = .ok (.aload_n 0, 1) := by decide +kernel
theorem dX0_clock_142 : decode cX0_clock 142 = .ok (.invokevirtual 51, 3) := by decide +kernel
theorem dX0_clock_145 : decode cX0_clock 145 = .ok (.goto 10, 3) := by decide +kernel
theorem dX0_clock_148 : decode cX0_clock 148 = .ok (.aload_n 0, 1) := by decide +kernel
theorem dX0_clock_149 : decode cX0_clock 149 = .ok (.invokevirtual 54, 3) := by decide +kernel
theorem dX0_clock_152 : decode cX0_clock 152 = .ok (.goto 3, 3) := by decide +kernel
theorem dX0_clock_155 : decode cX0_clock 155 = .ok (.aload_n 0, 1) := by decide +kernel
theorem dX0_clock_156 : decode cX0_clock 156 = .ok (.iload_n 1, 1) := by decide +kernel
theorem dX0_clock_157 : decode cX0_clock 157 = .ok (.ifCond .ne 14, 3) := by decide +kernel
theorem dX0_clock_160 : decode cX0_clock 160 = .ok (.getstatic 57, 3) := by decide +kernel
theorem dX0_clock_163 : decode cX0_clock 163 = .ok (.aload_n 0, 1) := by decide +kernel
theorem dX0_clock_164 : decode cX0_clock 164 = .ok (.getfield 11, 3) := by decide +kernel
theorem dX0_clock_167 : decode cX0_clock 167 = .ok (.iaload, 1) := by decide +kernel
theorem dX0_clock_168 : decode cX0_clock 168 = .ok (.goto 11, 3) := by decide +kernel
theorem dX0_clock_171 : decode cX0_clock 171 = .ok (.getstatic 61, 3) := by decide +kernel
theorem dX0_clock_174 : decode cX0_clock 174 = .ok (.aload_n 0, 1) := by decide +kernel
theorem dX0_clock_175 : decode cX0_clock 175 = .ok (.getfield 11, 3) := by decide +kernel
theorem dX0_clock_178 : decode cX0_clock 178 = .ok (.iaload, 1) := by decide +kernel
theorem dX0_clock_179 : decode cX0_clock 179 = .ok (.putfield 11, 3) := by decide +kernel
theorem dX0_clock_182 : decode cX0_clock 182 = .ok (.aload_n 0, 1) := by decide +kernel
theorem dX0_clock_183 : decode cX0_clock 183 = .ok (.dup, 1) := by decide +kernel
theorem dX0_clock_184 : decode cX0_clock 184 = .ok (.getfield 37, 3) := by decide +kernel
theorem dX0_clock_187 : decode cX0_clock 187 = .ok (.iconst 1, 1) := by decide +kernel
theorem dX0_clock_188 : decode cX0_clock 188 = .ok (.iadd, 1) := by decide +kernel
theorem dX0_clock_189 : decode cX0_clock 189 = .ok (.putfield 37, 3) := by decide +kernel
theorem dX0_clock_192 : decode cX0_clock 192 = .ok (.iload_n 3, 1) := by decide +kernel
theorem dX0_clock_193 : decode cX0_clock 193 = .ok (.ireturn, 1) := by decide +kernel
theorem dX3_tick_0 : decode cX3_tick 0 = .ok (.iload_n 1, 1) := by decide +kernel
theorem dX3_tick_1 : decode cX3_tick 1 = .ok (.iconst 1, 1) := by decide +kernel
theorem dX3_tick_2 : decode cX3_tick 2 = .ok (.if_icmp .lt 9, 3) := by decide +kernel
theorem dX3_tick_5 : decode cX3_tick 5 = .ok (.iload_n 1, 1) := by decide +kernel
theorem dX3_tick_6 : decode cX3_tick 6 = .ok (.bipush 24, 2) := by decide +kernel
theorem dX3_tick_8 : decode cX3_tick 8 = .ok (.if_icmp .le 5, 3) := by decide +kernel
theorem dX3_tick_11 : decode cX3_tick 11 = .ok (.iconst (-1), 1) := by decide +kernel
theorem dX3_tick_12 : decode cX3_tick 12 = .ok (.ireturn, 1) := by decide +kernel
theorem dX3_tick_13 : decode cX3_tick 13 = .ok (.iconst 0, 1) := by decide +kernel
theorem dX3_tick_14 : decode cX3_tick 14 = .ok (.istore 4, 2) := by decide +kernel
theorem dX3_tick_16 : decode cX3_tick 16 = .ok (.iconst 0, 1) := by decide +kernel
theorem dX3_tick_17 : decode cX3_tick 17 = .ok (.istore 5, 2) := by decide +kernel
theorem dX3_tick_19 : decode cX3_tick 19 = .ok (.iload 5, 2) := by decide +kernel
theorem dX3_tick_21 : decode cX3_tick 21 = .ok (.iload_n 1, 1) := by decide +kernel
theorem dX3_tick_22 : decode cX3_tick 22 = .ok (.if_icmp .ge 36, 3) := by decide +kernel
theorem dX3_tick_25 : decode cX3_tick 25 = .ok (.iload 4, 2) := by decide +kernel
theorem dX3_tick_27 : decode cX3_tick 27 = .ok (.aload_n 0, 1) := by decide +kernel
theorem dX3_tick_28 : decode cX3_tick 28 = .ok (.getfield 30, 3) := by decide +kernel
theorem dX3_tick_31 : decode cX3_tick 31 = .ok (.iload_n 2, 1) := by decide +kernel
theorem dX3_tick_32 : decode cX3_tick 32 = .ok (.iload 5, 2) := by decide +kernel
theorem dX3_tick_34 : decode cX3_tick 34 = .ok (.ishr, 1) := by decide +kernel
theorem dX3_tick_35 : decode cX3_tick 35 = .ok (.iconst 1, 1) := by decide +kernel
theorem dX3_tick_36 : decode cX3_tick 36 = .ok (.iand, 1) := by decide +kernel
theorem dX3_tick_37 : decode cX3_tick 37 = .ok (.iload_n 3, 1) := by decide +kernel
theorem dX3_tick_38 : decode cX3_tick 38 = .ok (.iload 5, 2) := by decide +kernel
theorem dX3_tick_40 : decode cX3_tick 40 = .ok (.ishr, 1) := by decide +kernel
theorem dX3_tick_41 : decode cX3_tick 41 = .ok (.iconst 1, 1) := by decide +kernel
theorem dX3_tick_42 : decode cX3_tick 42 = .ok (.iand, 1) := by decide +kernel
theorem dX3_tick_43 : decode cX3_tick 43 = .ok (.invokevirtual 34, 3) := by decide +kernel
theorem dX3_tick_46 : decode cX3_tick 46 = .ok (.iload 5, 2) := by decide +kernel
theorem dX3_tick_48 : decode cX3_tick 48 = .ok (.ishl, 1) := by decide +kernel
theorem dX3_tick_49 : decode cX3_tick 49 = .ok (.ior, 1) := by decide +kernel
theorem dX3_tick_50 : decode cX3_tick 50 = .ok (.istore 4, 2) := by decide +kernel
theorem dX3_tick_52 : decode cX3_tick 52 = .ok (.iinc 5 1, 3) := by decide +kernel
theorem dX3_tick_55 : decode cX3_tick 55 = .ok (.goto (-36), 3) := by decide +kernel
theorem dX3_tick_58 : decode cX3_tick 58 = .ok (.iload 4, 2) := by decide +kernel
theorem dX3_tick_60 : decode cX3_tick 60 = .ok (.ireturn, 1) := by decide +kernel
theorem dX3_run_0 : decode cX3_run 0 = .ok (.iload_n 1, 1) := by decide +kernel
theorem dX3_run_1 : decode cX3_run 1 = .ok (.iconst 1, 1) := by decide +kernel
theorem dX3_run_2 : decode cX3_run 2 = .ok (.if_icmp .lt 9, 3) := by decide +kernel
theorem dX3_run_5 : decode cX3_run 5 = .ok (.iload_n 1, 1) := by decide +kernel
theorem dX3_run_6 : decode cX3_run 6 = .ok (.bipush 50, 2) := by decide +kernel
theorem dX3_run_8 : decode cX3_run 8 = .ok (.if_icmp .le 5, 3) := by decide +kernel
theorem dX3_run_11 : decode cX3_run 11 = .ok (.iconst (-1), 1) := by decide +kernel
theorem dX3_run_12 : decode cX3_run 12 = .ok (.ireturn, 1) := by decide +kernel
theorem dX3_run_13 : decode cX3_run 13 = .ok (.iconst 0, 1) := by decide +kernel
theorem dX3_run_14 : decode cX3_run 14 = .ok (.istore_n 2, 1) := by decide +kernel
theorem dX3_run_15 : decode cX3_run 15 = .ok (.iload_n 2, 1) := by decide +kernel
theorem dX3_run_16 : decode cX3_run 16 = .ok (.iload_n 1, 1) := by decide +kernel
theorem dX3_run_17 : decode cX3_run 17 = .ok (.if_icmp .ge 29, 3) := by decide +kernel
theorem dX3_run_20 : decode cX3_run 20 = .ok (.aload_n 0, 1) := by decide +kernel
theorem dX3_run_21 : decode cX3_run 21 = .ok (.getfield 10, 3) := by decide +kernel
theorem dX3_run_24 : decode cX3_run 24 = .ok (.getfield 38, 3) := by decide +kernel
theorem dX3_run_27 : decode cX3_run 27 = .ok (.ifCond .eq 19, 3) := by decide +kernel
theorem dX3_run_30 : decode cX3_run 30 = .ok (.aload_n 0, 1) := by decide +kernel
theorem dX3_run_31 : decode cX3_run 31 = .ok (.getfield 10, 3) := by decide +kernel
theorem dX3_run_34 : decode cX3_run 34 = .ok (.invokevirtual 42, 3) := by decide +kernel
theorem dX3_run_37 : decode cX3_run 37 = .ok (.ifCond .eq 9, 3) := by decide +kernel
theorem dX3_run_40 : decode cX3_run 40 = .ok (.iinc 2 1, 3) := by decide +kernel
theorem dX3_run_43 : decode cX3_run 43 = .ok (.goto (-28), 3) := by decide +kernel
theorem dX3_run_46 : decode cX3_run 46 = .ok (.iload_n 2, 1) := by decide +kernel
theorem dX3_run_47 : decode cX3_run 47 = .ok (.ireturn, 1) := by decide +kernel
theorem dX1_hasRegister_0 : decode cX1_hasRegister 0 = .ok (.iload_n 0, 1) := by decide +kernel
theorem dX1_hasRegister_1 : decode cX1_hasRegister 1 = .ok (.ifCond .lt 13, 3) := by decide +kernel
theorem dX1_hasRegister_4 : decode cX1_hasRegister 4 = .ok (.iload_n 0, 1) := by decide +kernel
theorem dX1_hasRegister_5 : decode cX1_hasRegister 5 = .ok (.bipush 16, 2) := by decide +kernel
theorem dX1_hasRegister_7 : decode cX1_hasRegister 7 = .ok (.if_icmp .ge 7, 3) := by decide +kernel
theorem dX1_hasRegister_10 : decode cX1_hasRegister 10 = .ok (.iconst 1, 1) := by decide +kernel
theorem dX1_hasRegister_11 : decode cX1_hasRegister 11 = .ok (.goto 4, 3) := by decide +kernel
theorem dX1_hasRegister_14 : decode cX1_hasRegister 14 = .ok (.iconst 0, 1) := by decide +kernel
theorem dX1_hasRegister_15 : decode cX1_hasRegister 15 = .ok (.ireturn, 1) := by decide +kernel
theorem dX3_read_0 : decode cX3_read 0 = .ok (.iload_n 1, 1) := by decide +kernel
theorem dX3_read_1 : decode cX3_read 1 = .ok (.invokestatic 46, 3) := by decide +kernel
theorem dX3_read_4 : decode cX3_read 4 = .ok (.ifCond .eq 14, 3) := by decide +kernel
theorem dX3_read_7 : decode cX3_read 7 = .ok (.aload_n 0, 1) := by decide +kernel
theorem dX3_read_8 : decode cX3_read 8 = .ok (.getfield 21, 3) := by decide +kernel
theorem dX3_read_11 : decode cX3_read 11 = .ok (.iload_n 1, 1) := by decide +kernel
theorem dX3_read_12 : decode cX3_read 12 = .ok (.invokevirtual 50, 3) := by decide +kernel
theorem dX3_read_15 : decode cX3_read 15 = .ok (.goto 4, 3) := by decide +kernel
theorem dX3_read_18 : decode cX3_read 18 = .ok (.iconst (-1), 1) := by decide +kernel
theorem dX3_read_19 : decode cX3_read 19 = .ok (.ireturn, 1) := by decide +kernel
theorem dX3_write_0 : decode cX3_write 0 = .ok (.iload_n 1, 1) := by decide +kernel
theorem dX3_write_1 : decode cX3_write 1 = .ok (.invokestatic 46, 3) := by decide +kernel
theorem dX3_write_4 : decode cX3_write 4 = .ok (.ifCond .ne 5, 3) := by decide +kernel
theorem dX3_write_7 : decode cX3_write 7 = .ok (.iconst 0, 1) := by decide +kernel
theorem dX3_write_8 : decode cX3_write 8 = .ok (.ireturn, 1) := by decide +kernel
theorem dX3_write_9 : decode cX3_write 9 = .ok (.aload_n 0, 1) := by decide +kernel
theorem dX3_write_10 : decode cX3_write 10 = .ok (.getfield 21, 3) := by decide +kernel
theorem dX3_write_13 : decode cX3_write 13 = .ok (.iload_n 1, 1) := by decide +kernel
theorem dX3_write_14 : decode cX3_write 14 = .ok (.iload_n 2, 1) := by decide +kernel
theorem dX3_write_15 : decode cX3_write 15 = .ok (.ldc 54, 2) := by decide +kernel
theorem dX3_write_17 : decode cX3_write 17 = .ok (.iand, 1) := by decide +kernel
theorem dX3_write_18 : decode cX3_write 18 = .ok (.invokevirtual 55, 3) := by decide +kernel
theorem dX3_write_21 : decode cX3_write 21 = .ok (.iconst 1, 1) := by decide +kernel
theorem dX3_write_22 : decode cX3_write 22 = .ok (.ireturn, 1) := by decide +kernel
theorem dX3_state_0 : decode cX3_state 0 = .ok (.aload_n 0, 1) := by decide +kernel
theorem dX3_state_1 : decode cX3_state 1 = .ok (.getfield 30, 3) := by decide +kernel
theorem dX3_state_4 : decode cX3_state 4 = .ok (.getfield 59, 3) := by decide +kernel
theorem dX3_state_7 : decode cX3_state 7 = .ok (.ireturn, 1) := by decide +kernel
theorem dX3_instruction_0 : decode cX3_instruction 0 = .ok (.aload_n 0, 1) := by decide +kernel
theorem dX3_instruction_1 : decode cX3_instruction 1 = .ok (.getfield 30, 3) := by decide +kernel
theorem dX3_instruction_4 : decode cX3_instruction 4 = .ok (.getfield 63, 3) := by decide +kernel
theorem dX3_instruction_7 : decode cX3_instruction 7 = .ok (.ireturn, 1) := by decide +kernel
theorem dX3_register_0 : decode cX3_register 0 = .ok (.iload_n 1, 1) := by decide +kernel
theorem dX3_register_1 : decode cX3_register 1 = .ok (.ifCond .lt 21, 3) := by decide +kernel
theorem dX3_register_4 : decode cX3_register 4 = .ok (.iload_n 1, 1) := by decide +kernel
theorem dX3_register_5 : decode cX3_register 5 = .ok (.bipush 8, 2) := by decide +kernel
theorem dX3_register_7 : decode cX3_register 7 = .ok (.if_icmp .ge 15, 3) := by decide +kernel
theorem dX3_register_10 : decode cX3_register 10 = .ok (.aload_n 0, 1) := by decide +kernel
theorem dX3_register_11 : decode cX3_register 11 = .ok (.getfield 10, 3) := by decide +kernel
theorem dX3_register_14 : decode cX3_register 14 = .ok (.getfield 66, 3) := by decide +kernel
theorem dX3_register_17 : decode cX3_register 17 = .ok (.iload_n 1, 1) := by decide +kernel
theorem dX3_register_18 : decode cX3_register 18 = .ok (.iaload, 1) := by decide +kernel
theorem dX3_register_19 : decode cX3_register 19 = .ok (.goto 4, 3) := by decide +kernel
theorem dX3_register_22 : decode cX3_register 22 = .ok (.iconst (-1), 1) := by decide +kernel
theorem dX3_register_23 : decode cX3_register 23 = .ok (.ireturn, 1) := by decide +kernel
theorem dX3_word_0 : decode cX3_word 0 = .ok (.iload_n 1, 1) := by decide +kernel
theorem dX3_word_1 : decode cX3_word 1 = .ok (.ifCond .lt 21, 3) := by decide +kernel
theorem dX3_word_4 : decode cX3_word 4 = .ok (.iload_n 1, 1) := by decide +kernel
theorem dX3_word_5 : decode cX3_word 5 = .ok (.bipush 64, 2) := by decide +kernel
theorem dX3_word_7 : decode cX3_word 7 = .ok (.if_icmp .ge 15, 3) := by decide +kernel
theorem dX3_word_10 : decode cX3_word 10 = .ok (.aload_n 0, 1) := by decide +kernel
theorem dX3_word_11 : decode cX3_word 11 = .ok (.getfield 10, 3) := by decide +kernel
theorem dX3_word_14 : decode cX3_word 14 = .ok (.getfield 70, 3) := by decide +kernel
theorem dX3_word_17 : decode cX3_word 17 = .ok (.iload_n 1, 1) := by decide +kernel
theorem dX3_word_18 : decode cX3_word 18 = .ok (.iaload, 1) := by decide +kernel
theorem dX3_word_19 : decode cX3_word 19 = .ok (.goto 4, 3) := by decide +kernel
theorem dX3_word_22 : decode cX3_word 22 = .ok (.iconst (-1), 1) := by decide +kernel
theorem dX3_word_23 : decode cX3_word 23 = .ok (.ireturn, 1) := by decide +kernel
theorem dX3_pc_0 : decode cX3_pc 0 = .ok (.aload_n 0, 1) := by decide +kernel
theorem dX3_pc_1 : decode cX3_pc 1 = .ok (.getfield 10, 3) := by decide +kernel
theorem dX3_pc_4 : decode cX3_pc 4 = .ok (.getfield 73, 3) := by decide +kernel
theorem dX3_pc_7 : decode cX3_pc 7 = .ok (.ireturn, 1) := by decide +kernel
theorem dX3_steps_0 : decode cX3_steps 0 = .ok (.aload_n 0, 1) := by decide +kernel
theorem dX3_steps_1 : decode cX3_steps 1 = .ok (.getfield 10, 3) := by decide +kernel
theorem dX3_steps_4 : decode cX3_steps 4 = .ok (.getfield 76, 3) := by decide +kernel
theorem dX3_steps_7 : decode cX3_steps 7 = .ok (.ireturn, 1) := by decide +kernel
set_option maxRecDepth 20000 in
theorem ggX3_init_X2_init : GoodIn wsX3_init wsX2_init := goodIn_r _ [8, 9, 2, 3, 10, 11, 12, 13, 14, 15, 16, 17, 18, 53, 54, 55, 56, 57, 58, 59, 60] (by decide +kernel) (by decide +kernel)
theorem gX3_init_X2_init : GoodIn wsX3_init wsX2_init := ggX3_init_X2_init
set_option maxRecDepth 20000 in
theorem ggX3_init_X1_init : GoodIn wsX3_init wsX1_init := goodIn_r _ [25, 26, 2, 3, 10, 27, 28, 29, 30, 31, 32, 64, 65, 66, 67, 68, 69] (by decide +kernel) (by decide +kernel)
theorem gX3_init_X1_init : GoodIn wsX3_init wsX1_init := ggX3_init_X1_init
set_option maxRecDepth 20000 in
theorem ggX3_init_X0_init : GoodIn wsX3_init wsX0_init := goodIn_r _ [39, 40, 2, 3, 41, 42, 43, 44, 45, 46, 47, 48, 49, 50, 51, 70, 71, 72, 73, 74, 75, 76, 77, 78, 79, 80] (by decide +kernel) (by decide +kernel)
theorem gX3_init_X0_init : GoodIn wsX3_init wsX0_init := ggX3_init_X0_init
set_option maxRecDepth 20000 in
theorem ggX0_captureData_X0_setRow : GoodIn wsX0_captureData wsX0_setRow := goodIn_r _ [7, 8, 9, 12, 13, 14, 15, 16, 17, 18, 19, 20, 21, 22] (by decide +kernel) (by decide +kernel)
set_option maxRecDepth 20000 in
theorem gX0_captureData_X0_setRow : GoodIn wsX0_captureData (wsV RX0 47 RX0 yX0_setRow wsX0_setRow) := goodIn_app (goodIn_of _ (by decide +kernel)) ggX0_captureData_X0_setRow
set_option maxRecDepth 20000 in
theorem ggX1_fetch_X2_status : GoodIn wsX1_fetch wsX2_status := goodIn_r _ [9, 10, 11, 12, 28, 29, 30, 31, 32, 33, 34, 35] (by decide +kernel) (by decide +kernel)
set_option maxRecDepth 20000 in
theorem gX1_fetch_X2_status : GoodIn wsX1_fetch (wsV RX1 38 RX2 yX2_status wsX2_status) := goodIn_app (goodIn_of _ (by decide +kernel)) ggX1_fetch_X2_status
set_option maxRecDepth 20000 in
theorem ggX1_fetch_X1_passAddress : GoodIn wsX1_fetch wsX1_passAddress := goodIn_r _ [21, 15, 22, 23, 24, 25, 26, 27] (by decide +kernel) (by decide +kernel)
set_option maxRecDepth 20000 in
theorem gX1_fetch_X1_passAddress : GoodIn wsX1_fetch (wsV RX1 45 RX1 yX1_passAddress wsX1_passAddress) := goodIn_app (goodIn_of _ (by decide +kernel)) ggX1_fetch_X1_passAddress
set_option maxRecDepth 20000 in
theorem ggX2_advance_X2_isTrapped : GoodIn wsX2_advance wsX2_isTrapped := goodIn_r _ [7, 8, 9, 10, 2, 30, 31, 32, 33, 34, 35, 36, 37] (by decide +kernel) (by decide +kernel)
set_option maxRecDepth 20000 in
theorem gX2_advance_X2_isTrapped : GoodIn wsX2_advance (wsV RX2 38 RX2 yX2_isTrapped wsX2_isTrapped) := goodIn_app (goodIn_of _ (by decide +kernel)) ggX2_advance_X2_isTrapped
set_option maxRecDepth 20000 in
theorem ggX2_advance_X2_halt : GoodIn wsX2_advance wsX2_halt := goodIn_r _ [14, 15, 16, 30, 31, 32, 33, 34, 35, 36, 37] (by decide +kernel) (by decide +kernel)
set_option maxRecDepth 20000 in
theorem gX2_advance_X2_halt : GoodIn wsX2_advance (wsV RX2 42 RX2 yX2_halt wsX2_halt) := goodIn_app (goodIn_of _ (by decide +kernel)) ggX2_advance_X2_halt
set_option maxRecDepth 20000 in
theorem ggX2_advance_X2_isJump : GoodIn wsX2_advance wsX2_isJump := goodIn_r _ [19] (by decide +kernel) (by decide +kernel)
set_option maxRecDepth 20000 in
theorem gX2_advance_X2_isJump : GoodIn wsX2_advance (wsS RX2 46 yX2_isJump wsX2_isJump) := goodIn_app (goodIn_of _ (by decide +kernel)) ggX2_advance_X2_isJump
set_option maxRecDepth 20000 in
theorem ggX2_advance_X2_jump : GoodIn wsX2_advance wsX2_jump := goodIn_r _ [23, 2, 8, 30, 31, 32, 33, 34, 35, 36, 37] (by decide +kernel) (by decide +kernel)
set_option maxRecDepth 20000 in
theorem gX2_advance_X2_jump : GoodIn wsX2_advance (wsV RX2 49 RX2 yX2_jump wsX2_jump) := goodIn_app (goodIn_of _ (by decide +kernel)) ggX2_advance_X2_jump
set_option maxRecDepth 20000 in
theorem ggX2_advance_X2_perform : GoodIn wsX2_advance wsX2_perform := goodIn_r _ [27, 8, 28, 1, 30, 31, 32, 33, 34, 35, 36, 37] (by decide +kernel) (by decide +kernel)
set_option maxRecDepth 20000 in
theorem gX2_advance_X2_perform : GoodIn wsX2_advance (wsV RX2 52 RX2 yX2_perform wsX2_perform) := goodIn_app (goodIn_of _ (by decide +kernel)) ggX2_advance_X2_perform
set_option maxRecDepth 20000 in
theorem ggX1_control_X2_halt : GoodIn wsX1_control wsX2_halt := goodIn_r _ [8, 9, 10, 48, 49, 50, 51, 52, 53, 54, 55] (by decide +kernel) (by decide +kernel)
set_option maxRecDepth 20000 in
theorem gX1_control_X2_halt : GoodIn wsX1_control (wsV RX1 62 RX2 yX2_halt wsX2_halt) := goodIn_app (goodIn_of _ (by decide +kernel)) ggX1_control_X2_halt
set_option maxRecDepth 20000 in
theorem ggX1_control_X2_resume : GoodIn wsX1_control wsX2_resume := goodIn_r _ [14, 9, 15, 48, 49, 50, 51, 52, 53, 54, 55] (by decide +kernel) (by decide +kernel)
set_option maxRecDepth 20000 in
theorem gX1_control_X2_resume : GoodIn wsX1_control (wsV RX1 65 RX2 yX2_resume wsX2_resume) := goodIn_app (goodIn_of _ (by decide +kernel)) ggX1_control_X2_resume
set_option maxRecDepth 20000 in
theorem ggX1_control_X2_advance : GoodIn wsX1_control wsX2_advance := goodIn_r _ [19, 20, 21, 22, 23, 24, 7, 25, 26, 15, 27, 28, 5, 6, 8, 9, 10, 29, 30, 31, 32, 33, 34, 35, 36, 37, 38, 39, 40, 41, 48, 49, 50, 51, 52, 53, 54, 55] (by decide +kernel) (by decide +kernel)
set_option maxRecDepth 20000 in
theorem gX1_control_X2_advance : GoodIn wsX1_control (wsV RX1 68 RX2 yX2_advance wsX2_advance) := goodIn_app (goodIn_of _ (by decide +kernel)) ggX1_control_X2_advance
set_option maxRecDepth 20000 in
theorem ggX1_doProgram_X2_isJump : GoodIn wsX1_doProgram wsX2_isJump := goodIn_r _ [5] (by decide +kernel) (by decide +kernel)
set_option maxRecDepth 20000 in
theorem gX1_doProgram_X2_isJump : GoodIn wsX1_doProgram (va_wsS RX1 81 yX2_isJump wsX2_isJump) := goodIn_app (goodIn_of _ (by decide +kernel)) ggX1_doProgram_X2_isJump
set_option maxRecDepth 20000 in
theorem ggX1_doProgram_X2_perform : GoodIn wsX1_doProgram wsX2_perform := goodIn_r _ [11, 12, 13, 14, 21, 22, 23, 24, 25, 26, 27, 28] (by decide +kernel) (by decide +kernel)
set_option maxRecDepth 20000 in
theorem gX1_doProgram_X2_perform : GoodIn wsX1_doProgram (wsV RX1 85 RX2 yX2_perform wsX2_perform) := goodIn_app (goodIn_of _ (by decide +kernel)) ggX1_doProgram_X2_perform
set_option maxRecDepth 20000 in
theorem ggX1_command_X1_doProgram : GoodIn wsX1_command wsX1_doProgram := goodIn_r _ [11, 12, 13, 14, 15, 16, 1, 2, 17, 18, 19, 20, 21, 22, 23, 24, 25, 26, 27, 28, 29, 30, 31, 32, 33, 34, 35, 36, 37] (by decide +kernel) (by decide +kernel)
set_option maxRecDepth 20000 in
theorem gX1_command_X1_doProgram : GoodIn wsX1_command (wsV RX1 78 RX1 yX1_doProgram wsX1_doProgram) := goodIn_app (goodIn_of _ (by decide +kernel)) ggX1_command_X1_doProgram
set_option maxRecDepth 20000 in
theorem ggX1_put_X2_setTrap : GoodIn wsX1_put wsX2_setTrap := goodIn_r _ [7, 8, 78, 79, 80, 81, 82, 83, 84, 85] (by decide +kernel) (by decide +kernel)
set_option maxRecDepth 20000 in
theorem gX1_put_X2_setTrap : GoodIn wsX1_put (wsV RX1 48 RX2 yX2_setTrap wsX2_setTrap) := goodIn_app (goodIn_of _ (by decide +kernel)) ggX1_put_X2_setTrap
set_option maxRecDepth 20000 in
theorem ggX1_put_X1_control : GoodIn wsX1_put wsX1_control := goodIn_r _ [13, 14, 2, 15, 16, 17, 18, 6, 19, 20, 21, 22, 23, 24, 25, 26, 27, 28, 29, 30, 31, 32, 33, 34, 35, 36, 37, 8, 38, 39, 40, 41, 42, 43, 44, 45, 46, 47, 48, 49, 50, 51, 72, 73, 74, 75, 76, 77, 78, 79, 80, 81, 82, 83, 84, 85] (by decide +kernel) (by decide +kernel)
set_option maxRecDepth 20000 in
theorem gX1_put_X1_control : GoodIn wsX1_put (wsV RX1 52 RX1 yX1_control wsX1_control) := goodIn_app (goodIn_of _ (by decide +kernel)) ggX1_put_X1_control
set_option maxRecDepth 20000 in
theorem ggX1_put_X1_command : GoodIn wsX1_put wsX1_command := goodIn_r _ [56, 57, 2, 15, 58, 52, 59, 60, 61, 62, 12, 63, 1, 64, 40, 6, 41, 65, 47, 48, 49, 37, 50, 31, 72, 73, 74, 75, 76, 77, 78, 79, 80, 81, 82, 83, 84, 85] (by decide +kernel) (by decide +kernel)
set_option maxRecDepth 20000 in
theorem gX1_put_X1_command : GoodIn wsX1_put (wsV RX1 56 RX1 yX1_command wsX1_command) := goodIn_app (goodIn_of _ (by decide +kernel)) ggX1_put_X1_command
set_option maxRecDepth 20000 in
theorem ggX1_put_X1_passAddress : GoodIn wsX1_put wsX1_passAddress := goodIn_r _ [71, 66, 72, 73, 74, 75, 76, 77] (by decide +kernel) (by decide +kernel)
set_option maxRecDepth 20000 in
theorem gX1_put_X1_passAddress : GoodIn wsX1_put (wsV RX1 45 RX1 yX1_passAddress wsX1_passAddress) := goodIn_app (goodIn_of _ (by decide +kernel)) ggX1_put_X1_passAddress
set_option maxRecDepth 20000 in
theorem ggX0_updateData_X0_comesTooSoon : GoodIn wsX0_updateData wsX0_comesTooSoon := goodIn_r _ [8, 9, 10, 11, 104, 105, 106, 107, 108, 109, 110, 111, 112, 113, 114] (by decide +kernel) (by decide +kernel)
set_option maxRecDepth 20000 in
theorem gX0_updateData_X0_comesTooSoon : GoodIn wsX0_updateData (wsV RX0 64 RX0 yX0_comesTooSoon wsX0_comesTooSoon) := goodIn_app (goodIn_of _ (by decide +kernel)) ggX0_updateData_X0_comesTooSoon
set_option maxRecDepth 20000 in
theorem ggX0_updateData_X0_noteBegin : GoodIn wsX0_updateData wsX0_noteBegin := goodIn_r _ [15, 11, 9, 10, 2, 16, 104, 105, 106, 107, 108, 109, 110, 111, 112, 113, 114] (by decide +kernel) (by decide +kernel)
set_option maxRecDepth 20000 in
theorem gX0_updateData_X0_noteBegin : GoodIn wsX0_updateData (wsV RX0 68 RX0 yX0_noteBegin wsX0_noteBegin) := goodIn_app (goodIn_of _ (by decide +kernel)) ggX0_updateData_X0_noteBegin
set_option maxRecDepth 20000 in
theorem ggX0_updateData_X1_fetch : GoodIn wsX0_updateData wsX1_fetch := goodIn_r _ [22, 23, 24, 25, 26, 27, 28, 29, 30, 31, 32, 33, 34, 35, 36, 37, 38, 39, 40, 41, 21, 42, 115, 116, 117, 118, 119, 120, 121, 122, 123, 124, 125, 126, 127, 128] (by decide +kernel) (by decide +kernel)
set_option maxRecDepth 20000 in
theorem gX0_updateData_X1_fetch : GoodIn wsX0_updateData (wsV RX0 71 RX1 yX1_fetch wsX1_fetch) := goodIn_app (goodIn_of _ (by decide +kernel)) ggX0_updateData_X1_fetch
set_option maxRecDepth 20000 in
theorem ggX0_updateData_X1_put : GoodIn wsX0_updateData wsX1_put := goodIn_r _ [48, 23, 24, 49, 50, 51, 30, 52, 53, 54, 55, 56, 21, 57, 26, 58, 59, 60, 61, 62, 32, 33, 63, 64, 65, 66, 67, 68, 69, 70, 71, 72, 34, 73, 74, 75, 76, 77, 78, 79, 80, 81, 82, 83, 84, 85, 86, 87, 88, 89, 90, 91, 35, 92, 93, 94, 95, 36, 96, 97, 98, 99, 100, 101, 102, 103, 37, 38, 39, 40, 41, 42, 115, 116, 117, 118, 119, 120, 121, 122, 123, 124, 125, 126, 127, 128] (by decide +kernel) (by decide +kernel)
set_option maxRecDepth 20000 in
theorem gX0_updateData_X1_put : GoodIn wsX0_updateData (wsV RX0 78 RX1 yX1_put wsX1_put) := goodIn_app (goodIn_of _ (by decide +kernel)) ggX0_updateData_X1_put
set_option maxRecDepth 20000 in
theorem ggX0_clock_X0_setRow : GoodIn wsX0_clock wsX0_setRow := goodIn_r _ [7, 8, 9, 120, 121, 122, 123, 124, 125, 126, 127, 128, 129, 130] (by decide +kernel) (by decide +kernel)
set_option maxRecDepth 20000 in
theorem gX0_clock_X0_setRow : GoodIn wsX0_clock (wsV RX0 47 RX0 yX0_setRow wsX0_setRow) := goodIn_app (goodIn_of _ (by decide +kernel)) ggX0_clock_X0_setRow
set_option maxRecDepth 20000 in
theorem ggX0_clock_X0_captureData : GoodIn wsX0_clock wsX0_captureData := goodIn_r _ [13, 14, 2, 3, 4, 5, 6, 7, 8, 9, 15, 16, 120, 121, 122, 123, 124, 125, 126, 127, 128, 129, 130] (by decide +kernel) (by decide +kernel)
set_option maxRecDepth 20000 in
theorem gX0_clock_X0_captureData : GoodIn wsX0_clock (wsV RX0 51 RX0 yX0_captureData wsX0_captureData) := goodIn_app (goodIn_of _ (by decide +kernel)) ggX0_clock_X0_captureData
set_option maxRecDepth 20000 in
theorem ggX0_clock_X0_updateData : GoodIn wsX0_clock wsX0_updateData := goodIn_r _ [20, 2, 9, 14, 21, 22, 23, 6, 24, 25, 26, 27, 28, 29, 30, 31, 16, 32, 33, 34, 35, 36, 37, 38, 39, 40, 41, 42, 43, 44, 45, 46, 47, 48, 49, 50, 51, 52, 53, 54, 55, 56, 57, 15, 58, 59, 60, 61, 62, 63, 64, 65, 66, 67, 68, 69, 70, 71, 72, 73, 74, 75, 76, 77, 78, 79, 80, 81, 82, 83, 84, 85, 86, 87, 88, 89, 90, 91, 92, 93, 94, 95, 96, 97, 98, 99, 100, 101, 102, 103, 104, 105, 106, 107, 108, 109, 110, 111, 112, 113, 114, 115, 116, 117, 120, 121, 122, 123, 124, 125, 126, 127, 128, 129, 130, 131, 132, 133, 134, 135, 136, 137, 138, 139, 140, 141, 142, 143, 144] (by decide +kernel) (by decide +kernel)
set_option maxRecDepth 20000 in
theorem gX0_clock_X0_updateData : GoodIn wsX0_clock (wsV RX0 54 RX0 yX0_updateData wsX0_updateData) := goodIn_app (goodIn_of _ (by decide +kernel)) ggX0_clock_X0_updateData
set_option maxRecDepth 20000 in
theorem ggX3_tick_X0_clock : GoodIn wsX3_tick wsX0_clock := goodIn_r _ [6, 7, 8, 9, 10, 11, 5, 12, 13, 14, 15, 16, 17, 18, 19, 20, 21, 22, 23, 24, 25, 26, 27, 28, 29, 30, 31, 32, 33, 34, 35, 36, 37, 38, 39, 40, 41, 42, 43, 44, 45, 46, 47, 48, 49, 50, 51, 52, 53, 54, 55, 56, 57, 58, 59, 60, 61, 62, 63, 64, 65, 66, 67, 68, 69, 70, 71, 72, 73, 74, 75, 76, 77, 78, 79, 80, 81, 82, 83, 84, 85, 86, 87, 88, 89, 90, 91, 92, 93, 94, 95, 96, 97, 98, 99, 100, 101, 102, 103, 104, 105, 106, 107, 108, 109, 110, 111, 112, 113, 114, 115, 116, 117, 118, 119, 120, 121, 122, 123, 124, 128, 129, 130, 131, 132, 133, 134, 135, 136, 137, 138, 139, 140, 141, 142, 143, 144, 145, 146, 147, 148, 149, 150, 151, 152] (by decide +kernel) (by decide +kernel)
set_option maxRecDepth 20000 in
theorem gX3_tick_X0_clock : GoodIn wsX3_tick (wsV RX3 34 RX0 yX0_clock wsX0_clock) := goodIn_app (goodIn_of _ (by decide +kernel)) ggX3_tick_X0_clock
set_option maxRecDepth 20000 in
theorem ggX3_run_X2_advance : GoodIn wsX3_run wsX2_advance := goodIn_r _ [7, 8, 9, 10, 11, 12, 6, 13, 14, 15, 16, 17, 18, 19, 20, 21, 22, 23, 24, 25, 26, 27, 28, 29, 30, 31, 32, 33, 34, 35, 39, 40, 41, 42, 43, 44, 45, 46] (by decide +kernel) (by decide +kernel)
set_option maxRecDepth 20000 in
theorem gX3_run_X2_advance : GoodIn wsX3_run (wsV RX3 42 RX2 yX2_advance wsX2_advance) := goodIn_app (goodIn_of _ (by decide +kernel)) ggX3_run_X2_advance
set_option maxRecDepth 20000 in
theorem ggX3_read_X1_hasRegister : GoodIn wsX3_read wsX1_hasRegister := goodIn_r _ [4] (by decide +kernel) (by decide +kernel)
set_option maxRecDepth 20000 in
theorem gX3_read_X1_hasRegister : GoodIn wsX3_read (va_wsS RX3 46 yX1_hasRegister wsX1_hasRegister) := goodIn_app (goodIn_of _ (by decide +kernel)) ggX3_read_X1_hasRegister
set_option maxRecDepth 20000 in
theorem ggX3_read_X1_fetch : GoodIn wsX3_read wsX1_fetch := goodIn_r _ [9, 10, 11, 12, 13, 14, 15, 16, 17, 18, 19, 20, 21, 22, 23, 24, 25, 26, 27, 28, 3, 29, 33, 34, 35, 36, 37, 38, 39, 40, 41, 42, 43, 44, 45, 46] (by decide +kernel) (by decide +kernel)
set_option maxRecDepth 20000 in
theorem gX3_read_X1_fetch : GoodIn wsX3_read (wsV RX3 50 RX1 yX1_fetch wsX1_fetch) := goodIn_app (goodIn_of _ (by decide +kernel)) ggX3_read_X1_fetch
set_option maxRecDepth 20000 in
theorem ggX3_write_X1_hasRegister : GoodIn wsX3_write wsX1_hasRegister := goodIn_r _ [4] (by decide +kernel) (by decide +kernel)
set_option maxRecDepth 20000 in
theorem gX3_write_X1_hasRegister : GoodIn wsX3_write (va_wsS RX3 46 yX1_hasRegister wsX1_hasRegister) := goodIn_app (goodIn_of _ (by decide +kernel)) ggX3_write_X1_hasRegister
set_option maxRecDepth 20000 in
theorem ggX3_write_X1_put : GoodIn wsX3_write wsX1_put := goodIn_r _ [10, 11, 12, 13, 14, 15, 16, 17, 18, 19, 20, 21, 3, 22, 23, 24, 25, 26, 27, 28, 29, 30, 31, 32, 33, 34, 35, 36, 37, 38, 39, 40, 41, 42, 43, 44, 45, 46, 47, 48, 49, 50, 51, 52, 53, 54, 55, 56, 57, 58, 59, 60, 61, 62, 63, 64, 65, 66, 67, 68, 69, 70, 71, 72, 73, 74, 75, 76, 77, 78, 79, 80, 84, 85, 86, 87, 88, 89, 90, 91, 92, 93, 94, 95, 96, 97] (by decide +kernel) (by decide +kernel)
set_option maxRecDepth 20000 in
theorem gX3_write_X1_put : GoodIn wsX3_write (wsV RX3 55 RX1 yX1_put wsX1_put) := goodIn_app (goodIn_of _ (by decide +kernel)) ggX3_write_X1_put
