theorem dX4_init_0 : decode cX4_init 0 = .ok (.aload_n 0, 1) := by decide +kernel
theorem dX4_init_1 : decode cX4_init 1 = .ok (.invokespecial 1, 3) := by decide +kernel
theorem dX4_init_4 : decode cX4_init 4 = .ok (.aload_n 0, 1) := by decide +kernel
theorem dX4_init_5 : decode cX4_init 5 = .ok (.bipush 8, 2) := by decide +kernel
theorem dX4_init_7 : decode cX4_init 7 = .ok (.newarray .int, 2) := by decide +kernel
theorem dX4_init_9 : decode cX4_init 9 = .ok (.putfield 7, 3) := by decide +kernel
theorem dX4_init_12 : decode cX4_init 12 = .ok (.aload_n 0, 1) := by decide +kernel
theorem dX4_init_13 : decode cX4_init 13 = .ok (.bipush 64, 2) := by decide +kernel
theorem dX4_init_15 : decode cX4_init 15 = .ok (.newarray .int, 2) := by decide +kernel
theorem dX4_init_17 : decode cX4_init 17 = .ok (.putfield 13, 3) := by decide +kernel
theorem dX4_init_20 : decode cX4_init 20 = .ok (.aload_n 0, 1) := by decide +kernel
theorem dX4_init_21 : decode cX4_init 21 = .ok (.iconst 4, 1) := by decide +kernel
theorem dX4_init_22 : decode cX4_init 22 = .ok (.newarray .int, 2) := by decide +kernel
theorem dX4_init_24 : decode cX4_init 24 = .ok (.putfield 16, 3) := by decide +kernel
theorem dX4_init_27 : decode cX4_init 27 = .ok (.aload_n 0, 1) := by decide +kernel
theorem dX4_init_28 : decode cX4_init 28 = .ok (.iconst 2, 1) := by decide +kernel
theorem dX4_init_29 : decode cX4_init 29 = .ok (.newarray .int, 2) := by decide +kernel
theorem dX4_init_31 : decode cX4_init 31 = .ok (.putfield 19, 3) := by decide +kernel
theorem dX4_init_34 : decode cX4_init 34 = .ok (.aload_n 0, 1) := by decide +kernel
theorem dX4_init_35 : decode cX4_init 35 = .ok (.iconst 2, 1) := by decide +kernel
theorem dX4_init_36 : decode cX4_init 36 = .ok (.newarray .int, 2) := by decide +kernel
theorem dX4_init_38 : decode cX4_init 38 = .ok (.putfield 22, 3) := by decide +kernel
theorem dX4_init_41 : decode cX4_init 41 = .ok (.aload_n 0, 1) := by decide +kernel
theorem dX4_init_42 : decode cX4_init 42 = .ok (.iconst 1, 1) := by decide +kernel
theorem dX4_init_43 : decode cX4_init 43 = .ok (.putfield 25, 3) := by decide +kernel
theorem dX4_init_46 : decode cX4_init 46 = .ok (.aload_n 0, 1) := by decide +kernel
theorem dX4_init_47 : decode cX4_init 47 = .ok (.bipush 22, 2) := by decide +kernel
theorem dX4_init_49 : decode cX4_init 49 = .ok (.newarray .int, 2) := by decide +kernel
theorem dX4_init_51 : decode cX4_init 51 = .ok (.putfield 29, 3) := by decide +kernel
theorem dX4_init_54 : decode cX4_init 54 = .ok (.return_, 1) := by decide +kernel
theorem dX4_in_0 : decode cX4_in 0 = .ok (.iload_n 0, 1) := by decide +kernel
theorem dX4_in_1 : decode cX4_in 1 = .ok (.iload_n 1, 1) := by decide +kernel
theorem dX4_in_2 : decode cX4_in 2 = .ok (.if_icmp .lt 12, 3) := by decide +kernel
theorem dX4_in_5 : decode cX4_in 5 = .ok (.iload_n 0, 1) := by decide +kernel
theorem dX4_in_6 : decode cX4_in 6 = .ok (.iload_n 2, 1) := by decide +kernel
theorem dX4_in_7 : decode cX4_in 7 = .ok (.if_icmp .gt 7, 3) := by decide +kernel
theorem dX4_in_10 : decode cX4_in 10 = .ok (.iconst 1, 1) := by decide +kernel
theorem dX4_in_11 : decode cX4_in 11 = .ok (.goto 4, 3) := by decide +kernel
theorem dX4_in_14 : decode cX4_in 14 = .ok (.iconst 0, 1) := by decide +kernel
theorem dX4_in_15 : decode cX4_in 15 = .ok (.ireturn, 1) := by decide +kernel
theorem dX4_fill_0 : decode cX4_fill 0 = .ok (.iconst 0, 1) := by decide +kernel
theorem dX4_fill_1 : decode cX4_fill 1 = .ok (.istore 4, 2) := by decide +kernel
theorem dX4_fill_3 : decode cX4_fill 3 = .ok (.iload 4, 2) := by decide +kernel
theorem dX4_fill_5 : decode cX4_fill 5 = .ok (.iload_n 2, 1) := by decide +kernel
theorem dX4_fill_6 : decode cX4_fill 6 = .ok (.if_icmp .ge 24, 3) := by decide +kernel
theorem dX4_fill_9 : decode cX4_fill 9 = .ok (.aload_n 0, 1) := by decide +kernel
theorem dX4_fill_10 : decode cX4_fill 10 = .ok (.getfield 29, 3) := by decide +kernel
theorem dX4_fill_13 : decode cX4_fill 13 = .ok (.iload_n 1, 1) := by decide +kernel
theorem dX4_fill_14 : decode cX4_fill 14 = .ok (.iload 4, 2) := by decide +kernel
theorem dX4_fill_16 : decode cX4_fill 16 = .ok (.iadd, 1) := by decide +kernel
theorem dX4_fill_17 : decode cX4_fill 17 = .ok (.iload_n 3, 1) := by decide +kernel
theorem dX4_fill_18 : decode cX4_fill 18 = .ok (.iload 4, 2) := by decide +kernel
theorem dX4_fill_20 : decode cX4_fill 20 = .ok (.ishr, 1) := by decide +kernel
theorem dX4_fill_21 : decode cX4_fill 21 = .ok (.iconst 1, 1) := by decide +kernel
theorem dX4_fill_22 : decode cX4_fill 22 = .ok (.iand, 1) := by decide +kernel
theorem dX4_fill_23 : decode cX4_fill 23 = .ok (.iastore, 1) := by decide +kernel
theorem dX4_fill_24 : decode cX4_fill 24 = .ok (.iinc 4 1, 3) := by decide +kernel
theorem dX4_fill_27 : decode cX4_fill 27 = .ok (.goto (-24), 3) := by decide +kernel
theorem dX4_fill_30 : decode cX4_fill 30 = .ok (.return_, 1) := by decide +kernel
theorem dX4_shift_0 : decode cX4_shift 0 = .ok (.aload_n 0, 1) := by decide +kernel
theorem dX4_shift_1 : decode cX4_shift 1 = .ok (.getfield 29, 3) := by decide +kernel
theorem dX4_shift_4 : decode cX4_shift 4 = .ok (.iconst 0, 1) := by decide +kernel
theorem dX4_shift_5 : decode cX4_shift 5 = .ok (.iaload, 1) := by decide +kernel
theorem dX4_shift_6 : decode cX4_shift 6 = .ok (.istore_n 2, 1) := by decide +kernel
theorem dX4_shift_7 : decode cX4_shift 7 = .ok (.iconst 0, 1) := by decide +kernel
theorem dX4_shift_8 : decode cX4_shift 8 = .ok (.istore_n 3, 1) := by decide +kernel
theorem dX4_shift_9 : decode cX4_shift 9 = .ok (.iload_n 3, 1) := by decide +kernel
theorem dX4_shift_10 : decode cX4_shift 10 = .ok (.aload_n 0, 1) := by decide +kernel
theorem dX4_shift_11 : decode cX4_shift 11 = .ok (.getfield 94, 3) := by decide +kernel
theorem dX4_shift_14 : decode cX4_shift 14 = .ok (.iconst 1, 1) := by decide +kernel
theorem dX4_shift_15 : decode cX4_shift 15 = .ok (.isub, 1) := by decide +kernel
theorem dX4_shift_16 : decode cX4_shift 16 = .ok (.if_icmp .ge 23, 3) := by decide +kernel
theorem dX4_shift_19 : decode cX4_shift 19 = .ok (.aload_n 0, 1) := by decide +kernel
theorem dX4_shift_20 : decode cX4_shift 20 = .ok (.getfield 29, 3) := by decide +kernel
theorem dX4_shift_23 : decode cX4_shift 23 = .ok (.iload_n 3, 1) := by decide +kernel
theorem dX4_shift_24 : decode cX4_shift 24 = .ok (.aload_n 0, 1) := by decide +kernel
theorem dX4_shift_25 : decode cX4_shift 25 = .ok (.getfield 29, 3) := by decide +kernel
theorem dX4_shift_28 : decode cX4_shift 28 = .ok (.iload_n 3, 1) := by decide +kernel
theorem dX4_shift_29 : decode cX4_shift 29 = .ok (.iconst 1, 1) := by decide +kernel
theorem dX4_shift_30 : decode cX4_shift 30 = .ok (.iadd, 1) := by decide +kernel
theorem dX4_shift_31 : decode cX4_shift 31 = .ok (.iaload, 1) := by decide +kernel
theorem dX4_shift_32 : decode cX4_shift 32 = .ok (.iastore, 1) := by decide +kernel
theorem dX4_shift_33 : decode cX4_shift 33 = .ok (.iinc 3 1, 3) := by decide +kernel
theorem dX4_shift_36 : decode cX4_shift 36 = .ok (.goto (-27), 3) := by decide +kernel
theorem dX4_shift_39 : decode cX4_shift 39 = .ok (.aload_n 0, 1) := by decide +kernel
theorem dX4_shift_40 : decode cX4_shift 40 = .ok (.getfield 29, 3) := by decide +kernel
theorem dX4_shift_43 : decode cX4_shift 43 = .ok (.aload_n 0, 1) := by decide +kernel
theorem dX4_shift_44 : decode cX4_shift 44 = .ok (.getfield 94, 3) := by decide +kernel
theorem dX4_shift_47 : decode cX4_shift 47 = .ok (.iconst 1, 1) := by decide +kernel
theorem dX4_shift_48 : decode cX4_shift 48 = .ok (.isub, 1) := by decide +kernel
theorem dX4_shift_49 : decode cX4_shift 49 = .ok (.iload_n 1, 1) := by decide +kernel
theorem dX4_shift_50 : decode cX4_shift 50 = .ok (.iastore, 1) := by decide +kernel
theorem dX4_shift_51 : decode cX4_shift 51 = .ok (.iload_n 2, 1) := by decide +kernel
theorem dX4_shift_52 : decode cX4_shift 52 = .ok (.ireturn, 1) := by decide +kernel
theorem dX4_bits_0 : decode cX4_bits 0 = .ok (.iconst 0, 1) := by decide +kernel
theorem dX4_bits_1 : decode cX4_bits 1 = .ok (.istore_n 3, 1) := by decide +kernel
theorem dX4_bits_2 : decode cX4_bits 2 = .ok (.iload_n 2, 1) := by decide +kernel
theorem dX4_bits_3 : decode cX4_bits 3 = .ok (.iconst 1, 1) := by decide +kernel
theorem dX4_bits_4 : decode cX4_bits 4 = .ok (.isub, 1) := by decide +kernel
theorem dX4_bits_5 : decode cX4_bits 5 = .ok (.istore 4, 2) := by decide +kernel
theorem dX4_bits_7 : decode cX4_bits 7 = .ok (.iload 4, 2) := by decide +kernel
theorem dX4_bits_9 : decode cX4_bits 9 = .ok (.ifCond .lt 23, 3) := by decide +kernel
theorem dX4_bits_12 : decode cX4_bits 12 = .ok (.iconst 2, 1) := by decide +kernel
theorem dX4_bits_13 : decode cX4_bits 13 = .ok (.iload_n 3, 1) := by decide +kernel
theorem dX4_bits_14 : decode cX4_bits 14 = .ok (.imul, 1) := by decide +kernel
theorem dX4_bits_15 : decode cX4_bits 15 = .ok (.aload_n 0, 1) := by decide +kernel
theorem dX4_bits_16 : decode cX4_bits 16 = .ok (.getfield 29, 3) := by decide +kernel
theorem dX4_bits_19 : decode cX4_bits 19 = .ok (.iload_n 1, 1) := by decide +kernel
theorem dX4_bits_20 : decode cX4_bits 20 = .ok (.iload 4, 2) := by decide +kernel
theorem dX4_bits_22 : decode cX4_bits 22 = .ok (.iadd, 1) := by decide +kernel
theorem dX4_bits_23 : decode cX4_bits 23 = .ok (.iaload, 1) := by decide +kernel
theorem dX4_bits_24 : decode cX4_bits 24 = .ok (.iadd, 1) := by decide +kernel
theorem dX4_bits_25 : decode cX4_bits 25 = .ok (.istore_n 3, 1) := by decide +kernel
theorem dX4_bits_26 : decode cX4_bits 26 = .ok (.iinc 4 (-1), 3) := by decide +kernel
theorem dX4_bits_29 : decode cX4_bits 29 = .ok (.goto (-22), 3) := by decide +kernel
theorem dX4_bits_32 : decode cX4_bits 32 = .ok (.iload_n 3, 1) := by decide +kernel
theorem dX4_bits_33 : decode cX4_bits 33 = .ok (.ireturn, 1) := by decide +kernel
theorem dX4_capture_0 : decode cX4_capture 0 = .ok (.aload_n 0, 1) := by decide +kernel
theorem dX4_capture_1 : decode cX4_capture 1 = .ok (.aload_n 0, 1) := by decide +kernel
theorem dX4_capture_2 : decode cX4_capture 2 = .ok (.getfield 25, 3) := by decide +kernel
theorem dX4_capture_5 : decode cX4_capture 5 = .ok (.iconst 1, 1) := by decide +kernel
theorem dX4_capture_6 : decode cX4_capture 6 = .ok (.if_icmp .ne 8, 3) := by decide +kernel
theorem dX4_capture_9 : decode cX4_capture 9 = .ok (.bipush 16, 2) := by decide +kernel
theorem dX4_capture_11 : decode cX4_capture 11 = .ok (.goto 29, 3) := by decide +kernel
theorem dX4_capture_14 : decode cX4_capture 14 = .ok (.aload_n 0, 1) := by decide +kernel
theorem dX4_capture_15 : decode cX4_capture 15 = .ok (.getfield 25, 3) := by decide +kernel
theorem dX4_capture_18 : decode cX4_capture 18 = .ok (.iconst 2, 1) := by decide +kernel
theorem dX4_capture_19 : decode cX4_capture 19 = .ok (.if_icmp .ne 7, 3) := by decide +kernel
theorem dX4_capture_22 : decode cX4_capture 22 = .ok (.iconst 4, 1) := by decide +kernel
theorem dX4_capture_23 : decode cX4_capture 23 = .ok (.goto 17, 3) := by decide +kernel
theorem dX4_capture_26 : decode cX4_capture 26 = .ok (.aload_n 0, 1) := by decide +kernel
theorem dX4_capture_27 : decode cX4_capture 27 = .ok (.getfield 25, 3) := by decide +kernel
theorem dX4_capture_30 : decode cX4_capture 30 = .ok (.iconst 3, 1) := by decide +kernel
theorem dX4_capture_31 : decode cX4_capture 31 = .ok (.if_icmp .ne 8, 3) := by decide +kernel
theorem dX4_capture_34 : decode cX4_capture 34 = .ok (.bipush 22, 2) := by decide +kernel
theorem dX4_capture_36 : decode cX4_capture 36 = .ok (.goto 4, 3) := by decide +kernel
theorem dX4_capture_39 : decode cX4_capture 39 = .ok (.iconst 1, 1) := by decide +kernel
theorem dX4_capture_40 : decode cX4_capture 40 = .ok (.putfield 94, 3) := by decide +kernel
theorem dX4_capture_43 : decode cX4_capture 43 = .ok (.aload_n 0, 1) := by decide +kernel
theorem dX4_capture_44 : decode cX4_capture 44 = .ok (.iconst 0, 1) := by decide +kernel
theorem dX4_capture_45 : decode cX4_capture 45 = .ok (.aload_n 0, 1) := by decide +kernel
theorem dX4_capture_46 : decode cX4_capture 46 = .ok (.getfield 94, 3) := by decide +kernel
theorem dX4_capture_49 : decode cX4_capture 49 = .ok (.iconst 0, 1) := by decide +kernel
theorem dX4_capture_50 : decode cX4_capture 50 = .ok (.invokevirtual 97, 3) := by decide +kernel
theorem dX4_capture_53 : decode cX4_capture 53 = .ok (.aload_n 0, 1) := by decide +kernel
theorem dX4_capture_54 : decode cX4_capture 54 = .ok (.getfield 25, 3) := by decide +kernel
theorem dX4_capture_57 : decode cX4_capture 57 = .ok (.iconst 1, 1) := by decide +kernel
theorem dX4_capture_58 : decode cX4_capture 58 = .ok (.if_icmp .ne 13, 3) := by decide +kernel
theorem dX4_capture_61 : decode cX4_capture 61 = .ok (.aload_n 0, 1) := by decide +kernel
theorem dX4_capture_62 : decode cX4_capture 62 = .ok (.iconst 0, 1) := by decide +kernel
theorem dX4_capture_63 : decode cX4_capture 63 = .ok (.bipush 16, 2) := by decide +kernel
theorem dX4_capture_65 : decode cX4_capture 65 = .ok (.sipush 23130, 3) := by decide +kernel
theorem dX4_capture_68 : decode cX4_capture 68 = .ok (.invokevirtual 97, 3) := by decide +kernel
theorem dX4_capture_71 : decode cX4_capture 71 = .ok (.aload_n 0, 1) := by decide +kernel
theorem dX4_capture_72 : decode cX4_capture 72 = .ok (.getfield 25, 3) := by decide +kernel
theorem dX4_capture_75 : decode cX4_capture 75 = .ok (.iconst 2, 1) := by decide +kernel
theorem dX4_capture_76 : decode cX4_capture 76 = .ok (.if_icmp .eq 11, 3) := by decide +kernel
theorem dX4_capture_79 : decode cX4_capture 79 = .ok (.aload_n 0, 1) := by decide +kernel
theorem dX4_capture_80 : decode cX4_capture 80 = .ok (.getfield 25, 3) := by decide +kernel
theorem dX4_capture_83 : decode cX4_capture 83 = .ok (.iconst 3, 1) := by decide +kernel
theorem dX4_capture_84 : decode cX4_capture 84 = .ok (.if_icmp .ne 21, 3) := by decide +kernel
theorem dX4_capture_87 : decode cX4_capture 87 = .ok (.aload_n 0, 1) := by decide +kernel
theorem dX4_capture_88 : decode cX4_capture 88 = .ok (.iconst 0, 1) := by decide +kernel
theorem dX4_capture_89 : decode cX4_capture 89 = .ok (.iconst 2, 1) := by decide +kernel
theorem dX4_capture_90 : decode cX4_capture 90 = .ok (.aload_n 0, 1) := by decide +kernel
theorem dX4_capture_91 : decode cX4_capture 91 = .ok (.getfield 101, 3) := by decide +kernel
theorem dX4_capture_94 : decode cX4_capture 94 = .ok (.ifCond .eq 7, 3) := by decide +kernel
theorem dX4_capture_97 : decode cX4_capture 97 = .ok (.iconst 3, 1) := by decide +kernel
theorem dX4_capture_98 : decode cX4_capture 98 = .ok (.goto 4, 3) := by decide +kernel
theorem dX4_capture_101 : decode cX4_capture 101 = .ok (.iconst 0, 1) := by decide +kernel
theorem dX4_capture_102 : decode cX4_capture 102 = .ok (.invokevirtual 97, 3) := by decide +kernel
theorem dX4_capture_105 : decode cX4_capture 105 = .ok (.aload_n 0, 1) := by decide +kernel
theorem dX4_capture_106 : decode cX4_capture 106 = .ok (.getfield 25, 3) := by decide +kernel
theorem dX4_capture_109 : decode cX4_capture 109 = .ok (.iconst 3, 1) := by decide +kernel
theorem dX4_capture_110 : decode cX4_capture 110 = .ok (.if_icmp .ne 25, 3) := by decide +kernel
theorem dX4_capture_113 : decode cX4_capture 113 = .ok (.aload_n 0, 1) := by decide +kernel
theorem dX4_capture_114 : decode cX4_capture 114 = .ok (.iconst 2, 1) := by decide +kernel
theorem dX4_capture_115 : decode cX4_capture 115 = .ok (.bipush 16, 2) := by decide +kernel
theorem dX4_capture_117 : decode cX4_capture 117 = .ok (.aload_n 0, 1) := by decide +kernel
theorem dX4_capture_118 : decode cX4_capture 118 = .ok (.getfield 104, 3) := by decide +kernel
theorem dX4_capture_121 : decode cX4_capture 121 = .ok (.invokevirtual 97, 3) := by decide +kernel
theorem dX4_capture_124 : decode cX4_capture 124 = .ok (.aload_n 0, 1) := by decide +kernel
theorem dX4_capture_125 : decode cX4_capture 125 = .ok (.bipush 18, 2) := by decide +kernel
theorem dX4_capture_127 : decode cX4_capture 127 = .ok (.iconst 4, 1) := by decide +kernel
theorem dX4_capture_128 : decode cX4_capture 128 = .ok (.aload_n 0, 1) := by decide +kernel
theorem dX4_capture_129 : decode cX4_capture 129 = .ok (.getfield 107, 3) := by decide +kernel
theorem dX4_capture_132 : decode cX4_capture 132 = .ok (.invokevirtual 97, 3) := by decide +kernel
theorem dX4_capture_135 : decode cX4_capture 135 = .ok (.return_, 1) := by decide +kernel
theorem dX4_next_0 : decode cX4_next 0 = .ok (.aload_n 0, 1) := by decide +kernel
theorem dX4_next_1 : decode cX4_next 1 = .ok (.getfield 80, 3) := by decide +kernel
theorem dX4_next_4 : decode cX4_next 4 = .ok (.istore_n 1, 1) := by decide +kernel
theorem dX4_next_5 : decode cX4_next 5 = .ok (.aload_n 0, 1) := by decide +kernel
theorem dX4_next_6 : decode cX4_next 6 = .ok (.aload_n 0, 1) := by decide +kernel
theorem dX4_next_7 : decode cX4_next 7 = .ok (.getfield 80, 3) := by decide +kernel
theorem dX4_next_10 : decode cX4_next 10 = .ok (.iconst 1, 1) := by decide +kernel
theorem dX4_next_11 : decode cX4_next 11 = .ok (.iadd, 1) := by decide +kernel
theorem dX4_next_12 : decode cX4_next 12 = .ok (.bipush 64, 2) := by decide +kernel
theorem dX4_next_14 : decode cX4_next 14 = .ok (.irem, 1) := by decide +kernel
theorem dX4_next_15 : decode cX4_next 15 = .ok (.putfield 80, 3) := by decide +kernel
theorem dX4_next_18 : decode cX4_next 18 = .ok (.iload_n 1, 1) := by decide +kernel
theorem dX4_next_19 : decode cX4_next 19 = .ok (.ireturn, 1) := by decide +kernel
theorem dX4_read_0 : decode cX4_read 0 = .ok (.iload_n 1, 1) := by decide +kernel
theorem dX4_read_1 : decode cX4_read 1 = .ok (.iconst 0, 1) := by decide +kernel
theorem dX4_read_2 : decode cX4_read 2 = .ok (.bipush 15, 2) := by decide +kernel
theorem dX4_read_4 : decode cX4_read 4 = .ok (.invokestatic 60, 3) := by decide +kernel
theorem dX4_read_7 : decode cX4_read 7 = .ok (.ifCond .ne 5, 3) := by decide +kernel
theorem dX4_read_10 : decode cX4_read 10 = .ok (.iconst (-1), 1) := by decide +kernel
theorem dX4_read_11 : decode cX4_read 11 = .ok (.ireturn, 1) := by decide +kernel
theorem dX4_read_12 : decode cX4_read 12 = .ok (.iload_n 1, 1) := by decide +kernel
theorem dX4_read_13 : decode cX4_read 13 = .ok (.iconst 5, 1) := by decide +kernel
theorem dX4_read_14 : decode cX4_read 14 = .ok (.bipush 8, 2) := by decide +kernel
theorem dX4_read_16 : decode cX4_read 16 = .ok (.invokestatic 60, 3) := by decide +kernel
theorem dX4_read_19 : decode cX4_read 19 = .ok (.ifCond .eq 12, 3) := by decide +kernel
theorem dX4_read_22 : decode cX4_read 22 = .ok (.aload_n 0, 1) := by decide +kernel
theorem dX4_read_23 : decode cX4_read 23 = .ok (.getfield 16, 3) := by decide +kernel
theorem dX4_read_26 : decode cX4_read 26 = .ok (.iload_n 1, 1) := by decide +kernel
theorem dX4_read_27 : decode cX4_read 27 = .ok (.iconst 5, 1) := by decide +kernel
theorem dX4_read_28 : decode cX4_read 28 = .ok (.isub, 1) := by decide +kernel
theorem dX4_read_29 : decode cX4_read 29 = .ok (.iaload, 1) := by decide +kernel
theorem dX4_read_30 : decode cX4_read 30 = .ok (.ireturn, 1) := by decide +kernel
theorem dX4_read_31 : decode cX4_read 31 = .ok (.iload_n 1, 1) := by decide +kernel
theorem dX4_read_32 : decode cX4_read 32 = .ok (.bipush 11, 2) := by decide +kernel
theorem dX4_read_34 : decode cX4_read 34 = .ok (.if_icmp .eq 9, 3) := by decide +kernel
theorem dX4_read_37 : decode cX4_read 37 = .ok (.iload_n 1, 1) := by decide +kernel
theorem dX4_read_38 : decode cX4_read 38 = .ok (.bipush 12, 2) := by decide +kernel
theorem dX4_read_40 : decode cX4_read 40 = .ok (.if_icmp .ne 26, 3) := by decide +kernel
theorem dX4_read_43 : decode cX4_read 43 = .ok (.aload_n 0, 1) := by decide +kernel
theorem dX4_read_44 : decode cX4_read 44 = .ok (.getfield 22, 3) := by decide +kernel
theorem dX4_read_47 : decode cX4_read 47 = .ok (.iload_n 1, 1) := by decide +kernel
theorem dX4_read_48 : decode cX4_read 48 = .ok (.bipush 11, 2) := by decide +kernel
theorem dX4_read_50 : decode cX4_read 50 = .ok (.isub, 1) := by decide +kernel
theorem dX4_read_51 : decode cX4_read 51 = .ok (.iaload, 1) := by decide +kernel
theorem dX4_read_52 : decode cX4_read 52 = .ok (.bipush 64, 2) := by decide +kernel
theorem dX4_read_54 : decode cX4_read 54 = .ok (.aload_n 0, 1) := by decide +kernel
theorem dX4_read_55 : decode cX4_read 55 = .ok (.getfield 19, 3) := by decide +kernel
theorem dX4_read_58 : decode cX4_read 58 = .ok (.iload_n 1, 1) := by decide +kernel
theorem dX4_read_59 : decode cX4_read 59 = .ok (.bipush 11, 2) := by decide +kernel
theorem dX4_read_61 : decode cX4_read 61 = .ok (.isub, 1) := by decide +kernel
theorem dX4_read_62 : decode cX4_read 62 = .ok (.iaload, 1) := by decide +kernel
theorem dX4_read_63 : decode cX4_read 63 = .ok (.imul, 1) := by decide +kernel
theorem dX4_read_64 : decode cX4_read 64 = .ok (.iadd, 1) := by decide +kernel
theorem dX4_read_65 : decode cX4_read 65 = .ok (.ireturn, 1) := by decide +kernel
theorem dX4_read_66 : decode cX4_read 66 = .ok (.iload_n 1, 1) := by decide +kernel
theorem dX4_read_67 : decode cX4_read 67 = .ok (.tableswitch 139 0 13 #[69, 82, 110, 139, 115, 139, 139, 139, 139, 120, 125, 139, 139, 135], 69) := by decide +kernel
theorem dX4_read_136 : decode cX4_read 136 = .ok (.aload_n 0, 1) := by decide +kernel
theorem dX4_read_137 : decode cX4_read 137 = .ok (.getfield 68, 3) := by decide +kernel
theorem dX4_read_140 : decode cX4_read 140 = .ok (.ifCond .eq 7, 3) := by decide +kernel
theorem dX4_read_143 : decode cX4_read 143 = .ok (.iconst 4, 1) := by decide +kernel
theorem dX4_read_144 : decode cX4_read 144 = .ok (.goto 4, 3) := by decide +kernel
theorem dX4_read_147 : decode cX4_read 147 = .ok (.iconst 0, 1) := by decide +kernel
theorem dX4_read_148 : decode cX4_read 148 = .ok (.ireturn, 1) := by decide +kernel
theorem dX4_read_149 : decode cX4_read 149 = .ok (.aload_n 0, 1) := by decide +kernel
theorem dX4_read_150 : decode cX4_read 150 = .ok (.getfield 32, 3) := by decide +kernel
theorem dX4_read_153 : decode cX4_read 153 = .ok (.ifCond .eq 7, 3) := by decide +kernel
theorem dX4_read_156 : decode cX4_read 156 = .ok (.iconst 1, 1) := by decide +kernel
theorem dX4_read_157 : decode cX4_read 157 = .ok (.goto 4, 3) := by decide +kernel
theorem dX4_read_160 : decode cX4_read 160 = .ok (.iconst 0, 1) := by decide +kernel
theorem dX4_read_161 : decode cX4_read 161 = .ok (.iconst 2, 1) := by decide +kernel
theorem dX4_read_162 : decode cX4_read 162 = .ok (.aload_n 0, 1) := by decide +kernel
theorem dX4_read_163 : decode cX4_read 163 = .ok (.getfield 36, 3) := by decide +kernel
theorem dX4_read_166 : decode cX4_read 166 = .ok (.imul, 1) := by decide +kernel
theorem dX4_read_167 : decode cX4_read 167 = .ok (.iadd, 1) := by decide +kernel
theorem dX4_read_168 : decode cX4_read 168 = .ok (.bipush 16, 2) := by decide +kernel
theorem dX4_read_170 : decode cX4_read 170 = .ok (.aload_n 0, 1) := by decide +kernel
theorem dX4_read_171 : decode cX4_read 171 = .ok (.getfield 40, 3) := by decide +kernel
theorem dX4_read_174 : decode cX4_read 174 = .ok (.imul, 1) := by decide +kernel
theorem dX4_read_175 : decode cX4_read 175 = .ok (.iadd, 1) := by decide +kernel
theorem dX4_read_176 : decode cX4_read 176 = .ok (.ireturn, 1) := by decide +kernel
theorem dX4_read_177 : decode cX4_read 177 = .ok (.aload_n 0, 1) := by decide +kernel
theorem dX4_read_178 : decode cX4_read 178 = .ok (.getfield 74, 3) := by decide +kernel
theorem dX4_read_181 : decode cX4_read 181 = .ok (.ireturn, 1) := by decide +kernel
theorem dX4_read_182 : decode cX4_read 182 = .ok (.aload_n 0, 1) := by decide +kernel
theorem dX4_read_183 : decode cX4_read 183 = .ok (.getfield 71, 3) := by decide +kernel
theorem dX4_read_186 : decode cX4_read 186 = .ok (.ireturn, 1) := by decide +kernel
theorem dX4_read_187 : decode cX4_read 187 = .ok (.aload_n 0, 1) := by decide +kernel
theorem dX4_read_188 : decode cX4_read 188 = .ok (.getfield 80, 3) := by decide +kernel
theorem dX4_read_191 : decode cX4_read 191 = .ok (.ireturn, 1) := by decide +kernel
theorem dX4_read_192 : decode cX4_read 192 = .ok (.aload_n 0, 1) := by decide +kernel
theorem dX4_read_193 : decode cX4_read 193 = .ok (.getfield 13, 3) := by decide +kernel
theorem dX4_read_196 : decode cX4_read 196 = .ok (.aload_n 0, 1) := by decide +kernel
theorem dX4_read_197 : decode cX4_read 197 = .ok (.invokevirtual 83, 3) := by decide +kernel
theorem dX4_read_200 : decode cX4_read 200 = .ok (.iaload, 1) := by decide +kernel
theorem dX4_read_201 : decode cX4_read 201 = .ok (.ireturn, 1) := by decide +kernel
theorem dX4_read_202 : decode cX4_read 202 = .ok (.sipush 23130, 3) := by decide +kernel
theorem dX4_read_205 : decode cX4_read 205 = .ok (.ireturn, 1) := by decide +kernel
theorem dX4_read_206 : decode cX4_read 206 = .ok (.iconst 0, 1) := by decide +kernel
theorem dX4_read_207 : decode cX4_read 207 = .ok (.ireturn, 1) := by decide +kernel
theorem dX4_isTrap_0 : decode cX4_isTrap 0 = .ok (.iconst 0, 1) := by decide +kernel
theorem dX4_isTrap_1 : decode cX4_isTrap 1 = .ok (.istore_n 3, 1) := by decide +kernel
theorem dX4_isTrap_2 : decode cX4_isTrap 2 = .ok (.iconst 0, 1) := by decide +kernel
theorem dX4_isTrap_3 : decode cX4_isTrap 3 = .ok (.istore 4, 2) := by decide +kernel
theorem dX4_isTrap_5 : decode cX4_isTrap 5 = .ok (.iload 4, 2) := by decide +kernel
theorem dX4_isTrap_7 : decode cX4_isTrap 7 = .ok (.iconst 2, 1) := by decide +kernel
theorem dX4_isTrap_8 : decode cX4_isTrap 8 = .ok (.if_icmp .ge 41, 3) := by decide +kernel
theorem dX4_isTrap_11 : decode cX4_isTrap 11 = .ok (.iload_n 3, 1) := by decide +kernel
theorem dX4_isTrap_12 : decode cX4_isTrap 12 = .ok (.ifCond .ne 25, 3) := by decide +kernel
theorem dX4_isTrap_15 : decode cX4_isTrap 15 = .ok (.aload_n 0, 1) := by decide +kernel
theorem dX4_isTrap_16 : decode cX4_isTrap 16 = .ok (.getfield 19, 3) := by decide +kernel
theorem dX4_isTrap_19 : decode cX4_isTrap 19 = .ok (.iload 4, 2) := by decide +kernel
theorem dX4_isTrap_21 : decode cX4_isTrap 21 = .ok (.iaload, 1) := by decide +kernel
theorem dX4_isTrap_22 : decode cX4_isTrap 22 = .ok (.iload_n 1, 1) := by decide +kernel
theorem dX4_isTrap_23 : decode cX4_isTrap 23 = .ok (.if_icmp .ne 18, 3) := by decide +kernel
theorem dX4_isTrap_26 : decode cX4_isTrap 26 = .ok (.aload_n 0, 1) := by decide +kernel
theorem dX4_isTrap_27 : decode cX4_isTrap 27 = .ok (.getfield 22, 3) := by decide +kernel
theorem dX4_isTrap_30 : decode cX4_isTrap 30 = .ok (.iload 4, 2) := by decide +kernel
theorem dX4_isTrap_32 : decode cX4_isTrap 32 = .ok (.iaload, 1) := by decide +kernel
theorem dX4_isTrap_33 : decode cX4_isTrap 33 = .ok (.iload_n 2, 1) := by decide +kernel
theorem dX4_isTrap_34 : decode cX4_isTrap 34 = .ok (.if_icmp .ne 7, 3) := by decide +kernel
theorem dX4_isTrap_37 : decode cX4_isTrap 37 = .ok (.iconst 1, 1) := by decide +kernel
theorem dX4_isTrap_38 : decode cX4_isTrap 38 = .ok (.goto 4, 3) := by decide +kernel
theorem dX4_isTrap_41 : decode cX4_isTrap 41 = .ok (.iconst 0, 1) := by decide +kernel
theorem dX4_isTrap_42 : decode cX4_isTrap 42 = .ok (.istore_n 3, 1) := by decide +kernel
theorem dX4_isTrap_43 : decode cX4_isTrap 43 = .ok (.iinc 4 1, 3) := by decide +kernel
theorem dX4_isTrap_46 : decode cX4_isTrap 46 = .ok (.goto (-41), 3) := by decide +kernel
theorem dX4_isTrap_49 : decode cX4_isTrap 49 = .ok (.iload_n 3, 1) := by decide +kernel
theorem dX4_isTrap_50 : decode cX4_isTrap 50 = .ok (.ireturn, 1) := by decide +kernel
theorem dX4_halt_0 : decode cX4_halt 0 = .ok (.aload_n 0, 1) := by decide +kernel
theorem dX4_halt_1 : decode cX4_halt 1 = .ok (.iconst 1, 1) := by decide +kernel
theorem dX4_halt_2 : decode cX4_halt 2 = .ok (.putfield 32, 3) := by decide +kernel
theorem dX4_halt_5 : decode cX4_halt 5 = .ok (.aload_n 0, 1) := by decide +kernel
theorem dX4_halt_6 : decode cX4_halt 6 = .ok (.iload_n 1, 1) := by decide +kernel
theorem dX4_halt_7 : decode cX4_halt 7 = .ok (.putfield 36, 3) := by decide +kernel
theorem dX4_halt_10 : decode cX4_halt 10 = .ok (.return_, 1) := by decide +kernel
theorem dX4_work_0 : decode cX4_work 0 = .ok (.iload_n 1, 1) := by decide +kernel
theorem dX4_work_1 : decode cX4_work 1 = .ok (.bipush 9, 2) := by decide +kernel
theorem dX4_work_3 : decode cX4_work 3 = .ok (.ishr, 1) := by decide +kernel
theorem dX4_work_4 : decode cX4_work 4 = .ok (.bipush 7, 2) := by decide +kernel
theorem dX4_work_6 : decode cX4_work 6 = .ok (.iand, 1) := by decide +kernel
theorem dX4_work_7 : decode cX4_work 7 = .ok (.istore_n 2, 1) := by decide +kernel
theorem dX4_work_8 : decode cX4_work 8 = .ok (.aload_n 0, 1) := by decide +kernel
theorem dX4_work_9 : decode cX4_work 9 = .ok (.getfield 7, 3) := by decide +kernel
theorem dX4_work_12 : decode cX4_work 12 = .ok (.iload_n 1, 1) := by decide +kernel
theorem dX4_work_13 : decode cX4_work 13 = .ok (.bipush 6, 2) := by decide +kernel
theorem dX4_work_15 : decode cX4_work 15 = .ok (.ishr, 1) := by decide +kernel
theorem dX4_work_16 : decode cX4_work 16 = .ok (.bipush 7, 2) := by decide +kernel
theorem dX4_work_18 : decode cX4_work 18 = .ok (.iand, 1) := by decide +kernel
theorem dX4_work_19 : decode cX4_work 19 = .ok (.iaload, 1) := by decide +kernel
theorem dX4_work_20 : decode cX4_work 20 = .ok (.istore_n 3, 1) := by decide +kernel
theorem dX4_work_21 : decode cX4_work 21 = .ok (.iload_n 1, 1) := by decide +kernel
theorem dX4_work_22 : decode cX4_work 22 = .ok (.bipush 63, 2) := by decide +kernel
theorem dX4_work_24 : decode cX4_work 24 = .ok (.iand, 1) := by decide +kernel
theorem dX4_work_25 : decode cX4_work 25 = .ok (.istore 4, 2) := by decide +kernel
theorem dX4_work_27 : decode cX4_work 27 = .ok (.iload_n 3, 1) := by decide +kernel
theorem dX4_work_28 : decode cX4_work 28 = .ok (.iload 4, 2) := by decide +kernel
theorem dX4_work_30 : decode cX4_work 30 = .ok (.iadd, 1) := by decide +kernel
theorem dX4_work_31 : decode cX4_work 31 = .ok (.bipush 64, 2) := by decide +kernel
theorem dX4_work_33 : decode cX4_work 33 = .ok (.irem, 1) := by decide +kernel
theorem dX4_work_34 : decode cX4_work 34 = .ok (.istore 5, 2) := by decide +kernel
theorem dX4_work_36 : decode cX4_work 36 = .ok (.iload_n 1, 1) := by decide +kernel
theorem dX4_work_37 : decode cX4_work 37 = .ok (.bipush 12, 2) := by decide +kernel
theorem dX4_work_39 : decode cX4_work 39 = .ok (.ishr, 1) := by decide +kernel
theorem dX4_work_40 : decode cX4_work 40 = .ok (.tableswitch 122 1 5 #[36, 47, 67, 90, 106], 36) := by decide +kernel
theorem dX4_work_76 : decode cX4_work 76 = .ok (.aload_n 0, 1) := by decide +kernel
theorem dX4_work_77 : decode cX4_work 77 = .ok (.getfield 7, 3) := by decide +kernel
theorem dX4_work_80 : decode cX4_work 80 = .ok (.iload_n 2, 1) := by decide +kernel
theorem dX4_work_81 : decode cX4_work 81 = .ok (.iload 4, 2) := by decide +kernel
theorem dX4_work_83 : decode cX4_work 83 = .ok (.iastore, 1) := by decide +kernel
theorem dX4_work_84 : decode cX4_work 84 = .ok (.goto 78, 3) := by decide +kernel
theorem dX4_work_87 : decode cX4_work 87 = .ok (.aload_n 0, 1) := by decide +kernel
theorem dX4_work_88 : decode cX4_work 88 = .ok (.getfield 7, 3) := by decide +kernel
theorem dX4_work_91 : decode cX4_work 91 = .ok (.iload_n 2, 1) := by decide +kernel
theorem dX4_work_92 : decode cX4_work 92 = .ok (.aload_n 0, 1) := by decide +kernel
theorem dX4_work_93 : decode cX4_work 93 = .ok (.getfield 7, 3) := by decide +kernel
theorem dX4_work_96 : decode cX4_work 96 = .ok (.iload_n 2, 1) := by decide +kernel
theorem dX4_work_97 : decode cX4_work 97 = .ok (.iaload, 1) := by decide +kernel
theorem dX4_work_98 : decode cX4_work 98 = .ok (.iload_n 3, 1) := by decide +kernel
theorem dX4_work_99 : decode cX4_work 99 = .ok (.iadd, 1) := by decide +kernel
theorem dX4_work_100 : decode cX4_work 100 = .ok (.ldc 39, 2) := by decide +kernel
theorem dX4_work_102 : decode cX4_work 102 = .ok (.irem, 1) := by decide +kernel
theorem dX4_work_103 : decode cX4_work 103 = .ok (.iastore, 1) := by decide +kernel
theorem dX4_work_104 : decode cX4_work 104 = .ok (.goto 58, 3) := by decide +kernel
theorem dX4_work_107 : decode cX4_work 107 = .ok (.aload_n 0, 1) := by decide +kernel
theorem dX4_work_108 : decode cX4_work 108 = .ok (.getfield 7, 3) := by decide +kernel
theorem dX4_work_111 : decode cX4_work 111 = .ok (.iload_n 2, 1) := by decide +kernel
theorem dX4_work_112 : decode cX4_work 112 = .ok (.aload_n 0, 1) := by decide +kernel
theorem dX4_work_113 : decode cX4_work 113 = .ok (.getfield 7, 3) := by decide +kernel
theorem dX4_work_116 : decode cX4_work 116 = .ok (.iload_n 2, 1) := by decide +kernel
theorem dX4_work_117 : decode cX4_work 117 = .ok (.iaload, 1) := by decide +kernel
theorem dX4_work_118 : decode cX4_work 118 = .ok (.ldc 39, 2) := by decide +kernel
theorem dX4_work_120 : decode cX4_work 120 = .ok (.iadd, 1) := by decide +kernel
theorem dX4_work_121 : decode cX4_work 121 = .ok (.iload_n 3, 1) := by decide +kernel
theorem dX4_work_122 : decode cX4_work 122 = .ok (.isub, 1) := by decide +kernel
theorem dX4_work_123 : decode cX4_work 123 = .ok (.ldc 39, 2) := by decide +kernel
theorem dX4_work_125 : decode cX4_work 125 = .ok (.irem, 1) := by decide +kernel
theorem dX4_work_126 : decode cX4_work 126 = .ok (.iastore, 1) := by decide +kernel
theorem dX4_work_127 : decode cX4_work 127 = .ok (.goto 35, 3) := by decide +kernel
theorem dX4_work_130 : decode cX4_work 130 = .ok (.aload_n 0, 1) := by decide +kernel
theorem dX4_work_131 : decode cX4_work 131 = .ok (.getfield 7, 3) := by decide +kernel
theorem dX4_work_134 : decode cX4_work 134 = .ok (.iload_n 2, 1) := by decide +kernel
theorem dX4_work_135 : decode cX4_work 135 = .ok (.aload_n 0, 1) := by decide +kernel
theorem dX4_work_136 : decode cX4_work 136 = .ok (.getfield 13, 3) := by decide +kernel
theorem dX4_work_139 : decode cX4_work 139 = .ok (.iload 5, 2) := by decide +kernel
theorem dX4_work_141 : decode cX4_work 141 = .ok (.iaload, 1) := by decide +kernel
theorem dX4_work_142 : decode cX4_work 142 = .ok (.iastore, 1) := by decide +kernel
theorem dX4_work_143 : decode cX4_work 143 = .ok (.goto 19, 3) := by decide +kernel
theorem dX4_work_146 : decode cX4_work 146 = .ok (.aload_n 0, 1) := by decide +kernel
theorem dX4_work_147 : decode cX4_work 147 = .ok (.getfield 13, 3) := by decide +kernel
theorem dX4_work_150 : decode cX4_work 150 = .ok (.iload 5, 2) := by decide +kernel
theorem dX4_work_152 : decode cX4_work 152 = .ok (.aload_n 0, 1) := by decide +kernel
theorem dX4_work_153 : decode cX4_work 153 = .ok (.getfield 7, 3) := by decide +kernel
theorem dX4_work_156 : decode cX4_work 156 = .ok (.iload_n 2, 1) := by decide +kernel
theorem dX4_work_157 : decode cX4_work 157 = .ok (.iaload, 1) := by decide +kernel
theorem dX4_work_158 : decode cX4_work 158 = .ok (.iastore, 1) := by decide +kernel
theorem dX4_work_159 : decode cX4_work 159 = .ok (.goto 3, 3) := by decide +kernel
theorem dX4_work_162 : decode cX4_work 162 = .ok (.return_, 1) := by decide +kernel
theorem dX4_step_0 : decode cX4_step 0 = .ok (.aload_n 0, 1) := by decide +kernel
theorem dX4_step_1 : decode cX4_step 1 = .ok (.getfield 13, 3) := by decide +kernel
theorem dX4_step_4 : decode cX4_step 4 = .ok (.aload_n 0, 1) := by decide +kernel
theorem dX4_step_5 : decode cX4_step 5 = .ok (.getfield 40, 3) := by decide +kernel
theorem dX4_step_8 : decode cX4_step 8 = .ok (.iaload, 1) := by decide +kernel
theorem dX4_step_9 : decode cX4_step 9 = .ok (.istore_n 1, 1) := by decide +kernel
theorem dX4_step_10 : decode cX4_step 10 = .ok (.iload_n 1, 1) := by decide +kernel
theorem dX4_step_11 : decode cX4_step 11 = .ok (.bipush 12, 2) := by decide +kernel
theorem dX4_step_13 : decode cX4_step 13 = .ok (.ishr, 1) := by decide +kernel
theorem dX4_step_14 : decode cX4_step 14 = .ok (.istore_n 2, 1) := by decide +kernel
theorem dX4_step_15 : decode cX4_step 15 = .ok (.aload_n 0, 1) := by decide +kernel
theorem dX4_step_16 : decode cX4_step 16 = .ok (.getfield 7, 3) := by decide +kernel
theorem dX4_step_19 : decode cX4_step 19 = .ok (.iload_n 1, 1) := by decide +kernel
theorem dX4_step_20 : decode cX4_step 20 = .ok (.bipush 6, 2) := by decide +kernel
theorem dX4_step_22 : decode cX4_step 22 = .ok (.ishr, 1) := by decide +kernel
theorem dX4_step_23 : decode cX4_step 23 = .ok (.bipush 7, 2) := by decide +kernel
theorem dX4_step_25 : decode cX4_step 25 = .ok (.iand, 1) := by decide +kernel
theorem dX4_step_26 : decode cX4_step 26 = .ok (.iaload, 1) := by decide +kernel
theorem dX4_step_27 : decode cX4_step 27 = .ok (.istore_n 3, 1) := by decide +kernel
theorem dX4_step_28 : decode cX4_step 28 = .ok (.iload_n 1, 1) := by decide +kernel
theorem dX4_step_29 : decode cX4_step 29 = .ok (.bipush 63, 2) := by decide +kernel
theorem dX4_step_31 : decode cX4_step 31 = .ok (.iand, 1) := by decide +kernel
theorem dX4_step_32 : decode cX4_step 32 = .ok (.istore 4, 2) := by decide +kernel
theorem dX4_step_34 : decode cX4_step 34 = .ok (.aload_n 0, 1) := by decide +kernel
theorem dX4_step_35 : decode cX4_step 35 = .ok (.getfield 43, 3) := by decide +kernel
theorem dX4_step_38 : decode cX4_step 38 = .ok (.istore 5, 2) := by decide +kernel
theorem dX4_step_40 : decode cX4_step 40 = .ok (.aload_n 0, 1) := by decide +kernel
theorem dX4_step_41 : decode cX4_step 41 = .ok (.iconst 0, 1) := by decide +kernel
theorem dX4_step_42 : decode cX4_step 42 = .ok (.putfield 43, 3) := by decide +kernel
theorem dX4_step_45 : decode cX4_step 45 = .ok (.iload 5, 2) := by decide +kernel
theorem dX4_step_47 : decode cX4_step 47 = .ok (.ifCond .ne 15, 3) := by decide +kernel
theorem dX4_step_50 : decode cX4_step 50 = .ok (.aload_n 0, 1) := by decide +kernel
theorem dX4_step_51 : decode cX4_step 51 = .ok (.iconst 1, 1) := by decide +kernel
theorem dX4_step_52 : decode cX4_step 52 = .ok (.aload_n 0, 1) := by decide +kernel
theorem dX4_step_53 : decode cX4_step 53 = .ok (.getfield 40, 3) := by decide +kernel
theorem dX4_step_56 : decode cX4_step 56 = .ok (.invokevirtual 46, 3) := by decide +kernel
theorem dX4_step_59 : decode cX4_step 59 = .ok (.ifCond .ne 23, 3) := by decide +kernel
theorem dX4_step_62 : decode cX4_step 62 = .ok (.iload_n 2, 1) := by decide +kernel
theorem dX4_step_63 : decode cX4_step 63 = .ok (.iconst 5, 1) := by decide +kernel
theorem dX4_step_64 : decode cX4_step 64 = .ok (.if_icmp .ne 25, 3) := by decide +kernel
theorem dX4_step_67 : decode cX4_step 67 = .ok (.aload_n 0, 1) := by decide +kernel
theorem dX4_step_68 : decode cX4_step 68 = .ok (.iconst 2, 1) := by decide +kernel
theorem dX4_step_69 : decode cX4_step 69 = .ok (.iload_n 3, 1) := by decide +kernel
theorem dX4_step_70 : decode cX4_step 70 = .ok (.iload 4, 2) := by decide +kernel
theorem dX4_step_72 : decode cX4_step 72 = .ok (.iadd, 1) := by decide +kernel
theorem dX4_step_73 : decode cX4_step 73 = .ok (.bipush 64, 2) := by decide +kernel
theorem dX4_step_75 : decode cX4_step 75 = .ok (.irem, 1) := by decide +kernel
theorem dX4_step_76 : decode cX4_step 76 = .ok (.invokevirtual 46, 3) := by decide +kernel
theorem dX4_step_79 : decode cX4_step 79 = .ok (.ifCond .eq 10, 3) := by decide +kernel
theorem dX4_step_82 : decode cX4_step 82 = .ok (.aload_n 0, 1) := by decide +kernel
theorem dX4_step_83 : decode cX4_step 83 = .ok (.iconst 2, 1) := by decide +kernel
theorem dX4_step_84 : decode cX4_step 84 = .ok (.invokevirtual 50, 3) := by decide +kernel
theorem dX4_step_87 : decode cX4_step 87 = .ok (.iconst 0, 1) := by decide +kernel
theorem dX4_step_88 : decode cX4_step 88 = .ok (.ireturn, 1) := by decide +kernel
theorem dX4_step_89 : decode cX4_step 89 = .ok (.iload_n 2, 1) := by decide +kernel
theorem dX4_step_90 : decode cX4_step 90 = .ok (.bipush 10, 2) := by decide +kernel
theorem dX4_step_92 : decode cX4_step 92 = .ok (.if_icmp .ne 10, 3) := by decide +kernel
theorem dX4_step_95 : decode cX4_step 95 = .ok (.aload_n 0, 1) := by decide +kernel
theorem dX4_step_96 : decode cX4_step 96 = .ok (.iconst 1, 1) := by decide +kernel
theorem dX4_step_97 : decode cX4_step 97 = .ok (.invokevirtual 50, 3) := by decide +kernel
theorem dX4_step_100 : decode cX4_step 100 = .ok (.iconst 0, 1) := by decide +kernel
theorem dX4_step_101 : decode cX4_step 101 = .ok (.ireturn, 1) := by decide +kernel
theorem dX4_step_102 : decode cX4_step 102 = .ok (.iload_n 1, 1) := by decide +kernel
theorem dX4_step_103 : decode cX4_step 103 = .ok (.bipush 9, 2) := by decide +kernel
theorem dX4_step_105 : decode cX4_step 105 = .ok (.ishr, 1) := by decide +kernel
theorem dX4_step_106 : decode cX4_step 106 = .ok (.bipush 7, 2) := by decide +kernel
theorem dX4_step_108 : decode cX4_step 108 = .ok (.iand, 1) := by decide +kernel
theorem dX4_step_109 : decode cX4_step 109 = .ok (.istore 6, 2) := by decide +kernel
theorem dX4_step_111 : decode cX4_step 111 = .ok (.aload_n 0, 1) := by decide +kernel
theorem dX4_step_112 : decode cX4_step 112 = .ok (.getfield 40, 3) := by decide +kernel
theorem dX4_step_115 : decode cX4_step 115 = .ok (.iconst 1, 1) := by decide +kernel
theorem dX4_step_116 : decode cX4_step 116 = .ok (.iadd, 1) := by decide +kernel
theorem dX4_step_117 : decode cX4_step 117 = .ok (.bipush 64, 2) := by decide +kernel
theorem dX4_step_119 : decode cX4_step 119 = .ok (.irem, 1) := by decide +kernel
theorem dX4_step_120 : decode cX4_step 120 = .ok (.istore 7, 2) := by decide +kernel
theorem dX4_step_122 : decode cX4_step 122 = .ok (.iload_n 2, 1) := by decide +kernel
theorem dX4_step_123 : decode cX4_step 123 = .ok (.bipush 6, 2) := by decide +kernel
theorem dX4_step_125 : decode cX4_step 125 = .ok (.if_icmp .eq 36, 3) := by decide +kernel
theorem dX4_step_128 : decode cX4_step 128 = .ok (.iload_n 2, 1) := by decide +kernel
theorem dX4_step_129 : decode cX4_step 129 = .ok (.bipush 7, 2) := by decide +kernel
theorem dX4_step_131 : decode cX4_step 131 = .ok (.if_icmp .ne 13, 3) := by decide +kernel
theorem dX4_step_134 : decode cX4_step 134 = .ok (.aload_n 0, 1) := by decide +kernel
theorem dX4_step_135 : decode cX4_step 135 = .ok (.getfield 7, 3) := by decide +kernel
theorem dX4_step_138 : decode cX4_step 138 = .ok (.iload 6, 2) := by decide +kernel
theorem dX4_step_140 : decode cX4_step 140 = .ok (.iaload, 1) := by decide +kernel
theorem dX4_step_141 : decode cX4_step 141 = .ok (.ifCond .eq 20, 3) := by decide +kernel
theorem dX4_step_144 : decode cX4_step 144 = .ok (.iload_n 2, 1) := by decide +kernel
theorem dX4_step_145 : decode cX4_step 145 = .ok (.bipush 8, 2) := by decide +kernel
theorem dX4_step_147 : decode cX4_step 147 = .ok (.if_icmp .ne 18, 3) := by decide +kernel
theorem dX4_step_150 : decode cX4_step 150 = .ok (.aload_n 0, 1) := by decide +kernel
theorem dX4_step_151 : decode cX4_step 151 = .ok (.getfield 7, 3) := by decide +kernel
theorem dX4_step_154 : decode cX4_step 154 = .ok (.iload 6, 2) := by decide +kernel
theorem dX4_step_156 : decode cX4_step 156 = .ok (.iaload, 1) := by decide +kernel
theorem dX4_step_157 : decode cX4_step 157 = .ok (.iload_n 3, 1) := by decide +kernel
theorem dX4_step_158 : decode cX4_step 158 = .ok (.if_icmp .ge 7, 3) := by decide +kernel
theorem dX4_step_161 : decode cX4_step 161 = .ok (.iconst 1, 1) := by decide +kernel
theorem dX4_step_162 : decode cX4_step 162 = .ok (.goto 4, 3) := by decide +kernel
theorem dX4_step_165 : decode cX4_step 165 = .ok (.iconst 0, 1) := by decide +kernel
theorem dX4_step_166 : decode cX4_step 166 = .ok (.istore 8, 2) := by decide +kernel
theorem dX4_step_168 : decode cX4_step 168 = .ok (.aload_n 0, 1) := by decide +kernel
theorem dX4_step_169 : decode cX4_step 169 = .ok (.iload 8, 2) := by decide +kernel
theorem dX4_step_171 : decode cX4_step 171 = .ok (.ifCond .eq 8, 3) := by decide +kernel
theorem dX4_step_174 : decode cX4_step 174 = .ok (.iload 4, 2) := by decide +kernel
theorem dX4_step_176 : decode cX4_step 176 = .ok (.goto 18, 3) := by decide +kernel
theorem dX4_step_179 : decode cX4_step 179 = .ok (.iload_n 2, 1) := by decide +kernel
theorem dX4_step_180 : decode cX4_step 180 = .ok (.bipush 9, 2) := by decide +kernel
theorem dX4_step_182 : decode cX4_step 182 = .ok (.if_icmp .ne 10, 3) := by decide +kernel
theorem dX4_step_185 : decode cX4_step 185 = .ok (.iload_n 3, 1) := by decide +kernel
theorem dX4_step_186 : decode cX4_step 186 = .ok (.bipush 64, 2) := by decide +kernel
theorem dX4_step_188 : decode cX4_step 188 = .ok (.irem, 1) := by decide +kernel
theorem dX4_step_189 : decode cX4_step 189 = .ok (.goto 5, 3) := by decide +kernel
theorem dX4_step_192 : decode cX4_step 192 = .ok (.iload 7, 2) := by decide +kernel
theorem dX4_step_194 : decode cX4_step 194 = .ok (.putfield 40, 3) := by decide +kernel
theorem dX4_step_197 : decode cX4_step 197 = .ok (.iload_n 2, 1) := by decide +kernel
theorem dX4_step_198 : decode cX4_step 198 = .ok (.bipush 9, 2) := by decide +kernel
theorem dX4_step_200 : decode cX4_step 200 = .ok (.if_icmp .ne 12, 3) := by decide +kernel
theorem dX4_step_203 : decode cX4_step 203 = .ok (.aload_n 0, 1) := by decide +kernel
theorem dX4_step_204 : decode cX4_step 204 = .ok (.getfield 7, 3) := by decide +kernel
theorem dX4_step_207 : decode cX4_step 207 = .ok (.iload 6, 2) := by decide +kernel
theorem dX4_step_209 : decode cX4_step 209 = .ok (.iload 7, 2) := by decide +kernel
theorem dX4_step_211 : decode cX4_step 211 = .ok (.iastore, 1) := by decide +kernel
theorem dX4_step_212 : decode cX4_step 212 = .ok (.aload_n 0, 1) := by decide +kernel
theorem dX4_step_213 : decode cX4_step 213 = .ok (.iload_n 1, 1) := by decide +kernel
theorem dX4_step_214 : decode cX4_step 214 = .ok (.invokevirtual 54, 3) := by decide +kernel
theorem dX4_step_217 : decode cX4_step 217 = .ok (.aload_n 0, 1) := by decide +kernel
theorem dX4_step_218 : decode cX4_step 218 = .ok (.dup, 1) := by decide +kernel
theorem dX4_step_219 : decode cX4_step 219 = .ok (.getfield 57, 3) := by decide +kernel
theorem dX4_step_222 : decode cX4_step 222 = .ok (.iconst 1, 1) := by decide +kernel
theorem dX4_step_223 : decode cX4_step 223 = .ok (.iadd, 1) := by decide +kernel
theorem dX4_step_224 : decode cX4_step 224 = .ok (.putfield 57, 3) := by decide +kernel
theorem dX4_step_227 : decode cX4_step 227 = .ok (.iconst 1, 1) := by decide +kernel
theorem dX4_step_228 : decode cX4_step 228 = .ok (.ireturn, 1) := by decide +kernel
theorem dX4_control_0 : decode cX4_control 0 = .ok (.aload_n 0, 1) := by decide +kernel
theorem dX4_control_1 : decode cX4_control 1 = .ok (.iload_n 1, 1) := by decide +kernel
theorem dX4_control_2 : decode cX4_control 2 = .ok (.iconst 4, 1) := by decide +kernel
theorem dX4_control_3 : decode cX4_control 3 = .ok (.iand, 1) := by decide +kernel
theorem dX4_control_4 : decode cX4_control 4 = .ok (.ifCond .eq 7, 3) := by decide +kernel
theorem dX4_control_7 : decode cX4_control 7 = .ok (.iconst 1, 1) := by decide +kernel
theorem dX4_control_8 : decode cX4_control 8 = .ok (.goto 4, 3) := by decide +kernel
theorem dX4_control_11 : decode cX4_control 11 = .ok (.iconst 0, 1) := by decide +kernel
theorem dX4_control_12 : decode cX4_control 12 = .ok (.putfield 68, 3) := by decide +kernel
theorem dX4_control_15 : decode cX4_control 15 = .ok (.aload_n 0, 1) := by decide +kernel
theorem dX4_control_16 : decode cX4_control 16 = .ok (.getfield 32, 3) := by decide +kernel
theorem dX4_control_19 : decode cX4_control 19 = .ok (.ifCond .eq 42, 3) := by decide +kernel
theorem dX4_control_22 : decode cX4_control 22 = .ok (.iload_n 1, 1) := by decide +kernel
theorem dX4_control_23 : decode cX4_control 23 = .ok (.iconst 2, 1) := by decide +kernel
theorem dX4_control_24 : decode cX4_control 24 = .ok (.iand, 1) := by decide +kernel
theorem dX4_control_25 : decode cX4_control 25 = .ok (.ifCond .ne 4, 3) := by decide +kernel
theorem dX4_control_28 : decode cX4_control 28 = .ok (.return_, 1) := by decide +kernel
theorem dX4_control_29 : decode cX4_control 29 = .ok (.aload_n 0, 1) := by decide +kernel
theorem dX4_control_30 : decode cX4_control 30 = .ok (.iconst 0, 1) := by decide +kernel
theorem dX4_control_31 : decode cX4_control 31 = .ok (.putfield 32, 3) := by decide +kernel
theorem dX4_control_34 : decode cX4_control 34 = .ok (.aload_n 0, 1) := by decide +kernel
theorem dX4_control_35 : decode cX4_control 35 = .ok (.iconst 1, 1) := by decide +kernel
theorem dX4_control_36 : decode cX4_control 36 = .ok (.putfield 43, 3) := by decide +kernel
theorem dX4_control_39 : decode cX4_control 39 = .ok (.aload_n 0, 1) := by decide +kernel
theorem dX4_control_40 : decode cX4_control 40 = .ok (.getfield 68, 3) := by decide +kernel
theorem dX4_control_43 : decode cX4_control 43 = .ok (.ifCond .eq 29, 3) := by decide +kernel
theorem dX4_control_46 : decode cX4_control 46 = .ok (.aload_n 0, 1) := by decide +kernel
theorem dX4_control_47 : decode cX4_control 47 = .ok (.invokevirtual 64, 3) := by decide +kernel
theorem dX4_control_50 : decode cX4_control 50 = .ok (.ifCond .eq 22, 3) := by decide +kernel
theorem dX4_control_53 : decode cX4_control 53 = .ok (.aload_n 0, 1) := by decide +kernel
theorem dX4_control_54 : decode cX4_control 54 = .ok (.iconst 4, 1) := by decide +kernel
theorem dX4_control_55 : decode cX4_control 55 = .ok (.invokevirtual 50, 3) := by decide +kernel
theorem dX4_control_58 : decode cX4_control 58 = .ok (.goto 14, 3) := by decide +kernel
theorem dX4_control_61 : decode cX4_control 61 = .ok (.iload_n 1, 1) := by decide +kernel
theorem dX4_control_62 : decode cX4_control 62 = .ok (.iconst 1, 1) := by decide +kernel
theorem dX4_control_63 : decode cX4_control 63 = .ok (.iand, 1) := by decide +kernel
theorem dX4_control_64 : decode cX4_control 64 = .ok (.ifCond .eq 8, 3) := by decide +kernel
theorem dX4_control_67 : decode cX4_control 67 = .ok (.aload_n 0, 1) := by decide +kernel
theorem dX4_control_68 : decode cX4_control 68 = .ok (.iconst 3, 1) := by decide +kernel
theorem dX4_control_69 : decode cX4_control 69 = .ok (.invokevirtual 50, 3) := by decide +kernel
theorem dX4_control_72 : decode cX4_control 72 = .ok (.return_, 1) := by decide +kernel
theorem dX4_runProgram_0 : decode cX4_runProgram 0 = .ok (.iconst 0, 1) := by decide +kernel
theorem dX4_runProgram_1 : decode cX4_runProgram 1 = .ok (.istore_n 1, 1) := by decide +kernel
theorem dX4_runProgram_2 : decode cX4_runProgram 2 = .ok (.iload_n 1, 1) := by decide +kernel
theorem dX4_runProgram_3 : decode cX4_runProgram 3 = .ok (.iconst 4, 1) := by decide +kernel
theorem dX4_runProgram_4 : decode cX4_runProgram 4 = .ok (.if_icmp .ge 53, 3) := by decide +kernel
theorem dX4_runProgram_7 : decode cX4_runProgram 7 = .ok (.aload_n 0, 1) := by decide +kernel
theorem dX4_runProgram_8 : decode cX4_runProgram 8 = .ok (.getfield 16, 3) := by decide +kernel
theorem dX4_runProgram_11 : decode cX4_runProgram 11 = .ok (.iload_n 1, 1) := by decide +kernel
theorem dX4_runProgram_12 : decode cX4_runProgram 12 = .ok (.iaload, 1) := by decide +kernel
theorem dX4_runProgram_13 : decode cX4_runProgram 13 = .ok (.bipush 12, 2) := by decide +kernel
theorem dX4_runProgram_15 : decode cX4_runProgram 15 = .ok (.ishr, 1) := by decide +kernel
theorem dX4_runProgram_16 : decode cX4_runProgram 16 = .ok (.istore_n 2, 1) := by decide +kernel
theorem dX4_runProgram_17 : decode cX4_runProgram 17 = .ok (.iload_n 2, 1) := by decide +kernel
theorem dX4_runProgram_18 : decode cX4_runProgram 18 = .ok (.bipush 10, 2) := by decide +kernel
theorem dX4_runProgram_20 : decode cX4_runProgram 20 = .ok (.if_icmp .ne 4, 3) := by decide +kernel
theorem dX4_runProgram_23 : decode cX4_runProgram 23 = .ok (.return_, 1) := by decide +kernel
theorem dX4_runProgram_24 : decode cX4_runProgram 24 = .ok (.iload_n 2, 1) := by decide +kernel
theorem dX4_runProgram_25 : decode cX4_runProgram 25 = .ok (.bipush 6, 2) := by decide +kernel
theorem dX4_runProgram_27 : decode cX4_runProgram 27 = .ok (.bipush 9, 2) := by decide +kernel
theorem dX4_runProgram_29 : decode cX4_runProgram 29 = .ok (.invokestatic 60, 3) := by decide +kernel
theorem dX4_runProgram_32 : decode cX4_runProgram 32 = .ok (.ifCond .eq 9, 3) := by decide +kernel
theorem dX4_runProgram_35 : decode cX4_runProgram 35 = .ok (.aload_n 0, 1) := by decide +kernel
theorem dX4_runProgram_36 : decode cX4_runProgram 36 = .ok (.iconst 3, 1) := by decide +kernel
theorem dX4_runProgram_37 : decode cX4_runProgram 37 = .ok (.putfield 71, 3) := by decide +kernel
theorem dX4_runProgram_40 : decode cX4_runProgram 40 = .ok (.return_, 1) := by decide +kernel
theorem dX4_runProgram_41 : decode cX4_runProgram 41 = .ok (.aload_n 0, 1) := by decide +kernel
theorem dX4_runProgram_42 : decode cX4_runProgram 42 = .ok (.aload_n 0, 1) := by decide +kernel
theorem dX4_runProgram_43 : decode cX4_runProgram 43 = .ok (.getfield 16, 3) := by decide +kernel
theorem dX4_runProgram_46 : decode cX4_runProgram 46 = .ok (.iload_n 1, 1) := by decide +kernel
theorem dX4_runProgram_47 : decode cX4_runProgram 47 = .ok (.iaload, 1) := by decide +kernel
theorem dX4_runProgram_48 : decode cX4_runProgram 48 = .ok (.invokevirtual 54, 3) := by decide +kernel
theorem dX4_runProgram_51 : decode cX4_runProgram 51 = .ok (.iinc 1 1, 3) := by decide +kernel
theorem dX4_runProgram_54 : decode cX4_runProgram 54 = .ok (.goto (-52), 3) := by decide +kernel
theorem dX4_runProgram_57 : decode cX4_runProgram 57 = .ok (.return_, 1) := by decide +kernel
theorem dX4_command_0 : decode cX4_command 0 = .ok (.aload_n 0, 1) := by decide +kernel
theorem dX4_command_1 : decode cX4_command 1 = .ok (.getfield 71, 3) := by decide +kernel
theorem dX4_command_4 : decode cX4_command 4 = .ok (.ifCond .eq 4, 3) := by decide +kernel
theorem dX4_command_7 : decode cX4_command 7 = .ok (.return_, 1) := by decide +kernel
theorem dX4_command_8 : decode cX4_command 8 = .ok (.iload_n 1, 1) := by decide +kernel
theorem dX4_command_9 : decode cX4_command 9 = .ok (.bipush 8, 2) := by decide +kernel
theorem dX4_command_11 : decode cX4_command 11 = .ok (.ishr, 1) := by decide +kernel
theorem dX4_command_12 : decode cX4_command 12 = .ok (.bipush 7, 2) := by decide +kernel
theorem dX4_command_14 : decode cX4_command 14 = .ok (.iand, 1) := by decide +kernel
theorem dX4_command_15 : decode cX4_command 15 = .ok (.istore_n 2, 1) := by decide +kernel
theorem dX4_command_16 : decode cX4_command 16 = .ok (.iload_n 1, 1) := by decide +kernel
theorem dX4_command_17 : decode cX4_command 17 = .ok (.bipush 7, 2) := by decide +kernel
theorem dX4_command_19 : decode cX4_command 19 = .ok (.iand, 1) := by decide +kernel
theorem dX4_command_20 : decode cX4_command 20 = .ok (.istore_n 3, 1) := by decide +kernel
theorem dX4_command_21 : decode cX4_command 21 = .ok (.aload_n 0, 1) := by decide +kernel
theorem dX4_command_22 : decode cX4_command 22 = .ok (.getfield 32, 3) := by decide +kernel
theorem dX4_command_25 : decode cX4_command 25 = .ok (.ifCond .ne 11, 3) := by decide +kernel
theorem dX4_command_28 : decode cX4_command 28 = .ok (.aload_n 0, 1) := by decide +kernel
theorem dX4_command_29 : decode cX4_command 29 = .ok (.iconst 1, 1) := by decide +kernel
theorem dX4_command_30 : decode cX4_command 30 = .ok (.putfield 71, 3) := by decide +kernel
theorem dX4_command_33 : decode cX4_command 33 = .ok (.goto 90, 3) := by decide +kernel
theorem dX4_command_36 : decode cX4_command 36 = .ok (.iload_n 2, 1) := by decide +kernel
theorem dX4_command_37 : decode cX4_command 37 = .ok (.ifCond .ne 16, 3) := by decide +kernel
theorem dX4_command_40 : decode cX4_command 40 = .ok (.aload_n 0, 1) := by decide +kernel
theorem dX4_command_41 : decode cX4_command 41 = .ok (.aload_n 0, 1) := by decide +kernel
theorem dX4_command_42 : decode cX4_command 42 = .ok (.getfield 7, 3) := by decide +kernel
theorem dX4_command_45 : decode cX4_command 45 = .ok (.iload_n 3, 1) := by decide +kernel
theorem dX4_command_46 : decode cX4_command 46 = .ok (.iaload, 1) := by decide +kernel
theorem dX4_command_47 : decode cX4_command 47 = .ok (.putfield 74, 3) := by decide +kernel
theorem dX4_command_50 : decode cX4_command 50 = .ok (.goto 73, 3) := by decide +kernel
theorem dX4_command_53 : decode cX4_command 53 = .ok (.iload_n 2, 1) := by decide +kernel
theorem dX4_command_54 : decode cX4_command 54 = .ok (.iconst 1, 1) := by decide +kernel
theorem dX4_command_55 : decode cX4_command 55 = .ok (.if_icmp .ne 16, 3) := by decide +kernel
theorem dX4_command_58 : decode cX4_command 58 = .ok (.aload_n 0, 1) := by decide +kernel
theorem dX4_command_59 : decode cX4_command 59 = .ok (.getfield 7, 3) := by decide +kernel
theorem dX4_command_62 : decode cX4_command 62 = .ok (.iload_n 3, 1) := by decide +kernel
theorem dX4_command_63 : decode cX4_command 63 = .ok (.aload_n 0, 1) := by decide +kernel
theorem dX4_command_64 : decode cX4_command 64 = .ok (.getfield 74, 3) := by decide +kernel
theorem dX4_command_67 : decode cX4_command 67 = .ok (.iastore, 1) := by decide +kernel
theorem dX4_command_68 : decode cX4_command 68 = .ok (.goto 55, 3) := by decide +kernel
theorem dX4_command_71 : decode cX4_command 71 = .ok (.iload_n 2, 1) := by decide +kernel
theorem dX4_command_72 : decode cX4_command 72 = .ok (.iconst 2, 1) := by decide +kernel
theorem dX4_command_73 : decode cX4_command 73 = .ok (.if_icmp .ne 14, 3) := by decide +kernel
theorem dX4_command_76 : decode cX4_command 76 = .ok (.aload_n 0, 1) := by decide +kernel
theorem dX4_command_77 : decode cX4_command 77 = .ok (.aload_n 0, 1) := by decide +kernel
theorem dX4_command_78 : decode cX4_command 78 = .ok (.getfield 40, 3) := by decide +kernel
theorem dX4_command_81 : decode cX4_command 81 = .ok (.putfield 74, 3) := by decide +kernel
theorem dX4_command_84 : decode cX4_command 84 = .ok (.goto 39, 3) := by decide +kernel
theorem dX4_command_87 : decode cX4_command 87 = .ok (.iload_n 2, 1) := by decide +kernel
theorem dX4_command_88 : decode cX4_command 88 = .ok (.iconst 3, 1) := by decide +kernel
theorem dX4_command_89 : decode cX4_command 89 = .ok (.if_icmp .ne 17, 3) := by decide +kernel
theorem dX4_command_92 : decode cX4_command 92 = .ok (.aload_n 0, 1) := by decide +kernel
theorem dX4_command_93 : decode cX4_command 93 = .ok (.aload_n 0, 1) := by decide +kernel
theorem dX4_command_94 : decode cX4_command 94 = .ok (.getfield 74, 3) := by decide +kernel
theorem dX4_command_97 : decode cX4_command 97 = .ok (.bipush 64, 2) := by decide +kernel
theorem dX4_command_99 : decode cX4_command 99 = .ok (.irem, 1) := by decide +kernel
theorem dX4_command_100 : decode cX4_command 100 = .ok (.putfield 40, 3) := by decide +kernel
theorem dX4_command_103 : decode cX4_command 103 = .ok (.goto 20, 3) := by decide +kernel
theorem dX4_command_106 : decode cX4_command 106 = .ok (.iload_n 2, 1) := by decide +kernel
theorem dX4_command_107 : decode cX4_command 107 = .ok (.iconst 4, 1) := by decide +kernel
theorem dX4_command_108 : decode cX4_command 108 = .ok (.if_icmp .ne 10, 3) := by decide +kernel
theorem dX4_command_111 : decode cX4_command 111 = .ok (.aload_n 0, 1) := by decide +kernel
theorem dX4_command_112 : decode cX4_command 112 = .ok (.invokevirtual 77, 3) := by decide +kernel
theorem dX4_command_115 : decode cX4_command 115 = .ok (.goto 8, 3) := by decide +kernel
theorem dX4_command_118 : decode cX4_command 118 = .ok (.aload_n 0, 1) := by decide +kernel
theorem dX4_command_119 : decode cX4_command 119 = .ok (.iconst 2, 1) := by decide +kernel
theorem dX4_command_120 : decode cX4_command 120 = .ok (.putfield 71, 3) := by decide +kernel
theorem dX4_command_123 : decode cX4_command 123 = .ok (.return_, 1) := by decide +kernel
theorem dX4_write_0 : decode cX4_write 0 = .ok (.iload_n 1, 1) := by decide +kernel
theorem dX4_write_1 : decode cX4_write 1 = .ok (.iconst 0, 1) := by decide +kernel
theorem dX4_write_2 : decode cX4_write 2 = .ok (.bipush 15, 2) := by decide +kernel
theorem dX4_write_4 : decode cX4_write 4 = .ok (.invokestatic 60, 3) := by decide +kernel
theorem dX4_write_7 : decode cX4_write 7 = .ok (.ifCond .ne 5, 3) := by decide +kernel
theorem dX4_write_10 : decode cX4_write 10 = .ok (.iconst 0, 1) := by decide +kernel
theorem dX4_write_11 : decode cX4_write 11 = .ok (.ireturn, 1) := by decide +kernel
theorem dX4_write_12 : decode cX4_write 12 = .ok (.iload_n 2, 1) := by decide +kernel
theorem dX4_write_13 : decode cX4_write 13 = .ok (.ldc 87, 2) := by decide +kernel
theorem dX4_write_15 : decode cX4_write 15 = .ok (.iand, 1) := by decide +kernel
theorem dX4_write_16 : decode cX4_write 16 = .ok (.istore_n 3, 1) := by decide +kernel
theorem dX4_write_17 : decode cX4_write 17 = .ok (.iload_n 1, 1) := by decide +kernel
theorem dX4_write_18 : decode cX4_write 18 = .ok (.iconst 5, 1) := by decide +kernel
theorem dX4_write_19 : decode cX4_write 19 = .ok (.bipush 8, 2) := by decide +kernel
theorem dX4_write_21 : decode cX4_write 21 = .ok (.invokestatic 60, 3) := by decide +kernel
theorem dX4_write_24 : decode cX4_write 24 = .ok (.ifCond .eq 12, 3) := by decide +kernel
theorem dX4_write_27 : decode cX4_write 27 = .ok (.aload_n 0, 1) := by decide +kernel
theorem dX4_write_28 : decode cX4_write 28 = .ok (.getfield 16, 3) := by decide +kernel
theorem dX4_write_31 : decode cX4_write 31 = .ok (.iload_n 1, 1) := by decide +kernel
theorem dX4_write_32 : decode cX4_write 32 = .ok (.iconst 5, 1) := by decide +kernel
theorem dX4_write_33 : decode cX4_write 33 = .ok (.isub, 1) := by decide +kernel
theorem dX4_write_34 : decode cX4_write 34 = .ok (.iload_n 3, 1) := by decide +kernel
theorem dX4_write_35 : decode cX4_write 35 = .ok (.iastore, 1) := by decide +kernel
theorem dX4_write_36 : decode cX4_write 36 = .ok (.iload_n 1, 1) := by decide +kernel
theorem dX4_write_37 : decode cX4_write 37 = .ok (.bipush 11, 2) := by decide +kernel
theorem dX4_write_39 : decode cX4_write 39 = .ok (.if_icmp .eq 9, 3) := by decide +kernel
theorem dX4_write_42 : decode cX4_write 42 = .ok (.iload_n 1, 1) := by decide +kernel
theorem dX4_write_43 : decode cX4_write 43 = .ok (.bipush 12, 2) := by decide +kernel
theorem dX4_write_45 : decode cX4_write 45 = .ok (.if_icmp .ne 45, 3) := by decide +kernel
theorem dX4_write_48 : decode cX4_write 48 = .ok (.iload_n 3, 1) := by decide +kernel
theorem dX4_write_49 : decode cX4_write 49 = .ok (.bipush 6, 2) := by decide +kernel
theorem dX4_write_51 : decode cX4_write 51 = .ok (.ishr, 1) := by decide +kernel
theorem dX4_write_52 : decode cX4_write 52 = .ok (.iconst 3, 1) := by decide +kernel
theorem dX4_write_53 : decode cX4_write 53 = .ok (.iand, 1) := by decide +kernel
theorem dX4_write_54 : decode cX4_write 54 = .ok (.istore 4, 2) := by decide +kernel
theorem dX4_write_56 : decode cX4_write 56 = .ok (.aload_n 0, 1) := by decide +kernel
theorem dX4_write_57 : decode cX4_write 57 = .ok (.getfield 22, 3) := by decide +kernel
theorem dX4_write_60 : decode cX4_write 60 = .ok (.iload_n 1, 1) := by decide +kernel
theorem dX4_write_61 : decode cX4_write 61 = .ok (.bipush 11, 2) := by decide +kernel
theorem dX4_write_63 : decode cX4_write 63 = .ok (.isub, 1) := by decide +kernel
theorem dX4_write_64 : decode cX4_write 64 = .ok (.iload_n 3, 1) := by decide +kernel
theorem dX4_write_65 : decode cX4_write 65 = .ok (.bipush 63, 2) := by decide +kernel
theorem dX4_write_67 : decode cX4_write 67 = .ok (.iand, 1) := by decide +kernel
theorem dX4_write_68 : decode cX4_write 68 = .ok (.iastore, 1) := by decide +kernel
theorem dX4_write_69 : decode cX4_write 69 = .ok (.aload_n 0, 1) := by decide +kernel
theorem dX4_write_70 : decode cX4_write 70 = .ok (.getfield 19, 3) := by decide +kernel
theorem dX4_write_73 : decode cX4_write 73 = .ok (.iload_n 1, 1) := by decide +kernel
theorem dX4_write_74 : decode cX4_write 74 = .ok (.bipush 11, 2) := by decide +kernel
theorem dX4_write_76 : decode cX4_write 76 = .ok (.isub, 1) := by decide +kernel
theorem dX4_write_77 : decode cX4_write 77 = .ok (.iload 4, 2) := by decide +kernel
theorem dX4_write_79 : decode cX4_write 79 = .ok (.iconst 3, 1) := by decide +kernel
theorem dX4_write_80 : decode cX4_write 80 = .ok (.if_icmp .ne 7, 3) := by decide +kernel
theorem dX4_write_83 : decode cX4_write 83 = .ok (.iconst 0, 1) := by decide +kernel
theorem dX4_write_84 : decode cX4_write 84 = .ok (.goto 5, 3) := by decide +kernel
theorem dX4_write_87 : decode cX4_write 87 = .ok (.iload 4, 2) := by decide +kernel
theorem dX4_write_89 : decode cX4_write 89 = .ok (.iastore, 1) := by decide +kernel
theorem dX4_write_90 : decode cX4_write 90 = .ok (.iload_n 1, 1) := by decide +kernel
theorem dX4_write_91 : decode cX4_write 91 = .ok (.ifCond .ne 8, 3) := by decide +kernel
theorem dX4_write_94 : decode cX4_write 94 = .ok (.aload_n 0, 1) := by decide +kernel
theorem dX4_write_95 : decode cX4_write 95 = .ok (.iload_n 3, 1) := by decide +kernel
theorem dX4_write_96 : decode cX4_write 96 = .ok (.invokevirtual 88, 3) := by decide +kernel
theorem dX4_write_99 : decode cX4_write 99 = .ok (.iload_n 1, 1) := by decide +kernel
theorem dX4_write_100 : decode cX4_write 100 = .ok (.iconst 2, 1) := by decide +kernel
theorem dX4_write_101 : decode cX4_write 101 = .ok (.if_icmp .ne 8, 3) := by decide +kernel
theorem dX4_write_104 : decode cX4_write 104 = .ok (.aload_n 0, 1) := by decide +kernel
theorem dX4_write_105 : decode cX4_write 105 = .ok (.iload_n 3, 1) := by decide +kernel
theorem dX4_write_106 : decode cX4_write 106 = .ok (.putfield 74, 3) := by decide +kernel
theorem dX4_write_109 : decode cX4_write 109 = .ok (.iload_n 1, 1) := by decide +kernel
theorem dX4_write_110 : decode cX4_write 110 = .ok (.iconst 3, 1) := by decide +kernel
theorem dX4_write_111 : decode cX4_write 111 = .ok (.if_icmp .ne 8, 3) := by decide +kernel
theorem dX4_write_114 : decode cX4_write 114 = .ok (.aload_n 0, 1) := by decide +kernel
theorem dX4_write_115 : decode cX4_write 115 = .ok (.iload_n 3, 1) := by decide +kernel
theorem dX4_write_116 : decode cX4_write 116 = .ok (.invokevirtual 91, 3) := by decide +kernel
theorem dX4_write_119 : decode cX4_write 119 = .ok (.iload_n 1, 1) := by decide +kernel
theorem dX4_write_120 : decode cX4_write 120 = .ok (.iconst 4, 1) := by decide +kernel
theorem dX4_write_121 : decode cX4_write 121 = .ok (.if_icmp .ne 15, 3) := by decide +kernel
theorem dX4_write_124 : decode cX4_write 124 = .ok (.iload_n 3, 1) := by decide +kernel
theorem dX4_write_125 : decode cX4_write 125 = .ok (.iconst 1, 1) := by decide +kernel
theorem dX4_write_126 : decode cX4_write 126 = .ok (.iand, 1) := by decide +kernel
theorem dX4_write_127 : decode cX4_write 127 = .ok (.iconst 1, 1) := by decide +kernel
theorem dX4_write_128 : decode cX4_write 128 = .ok (.if_icmp .ne 8, 3) := by decide +kernel
theorem dX4_write_131 : decode cX4_write 131 = .ok (.aload_n 0, 1) := by decide +kernel
theorem dX4_write_132 : decode cX4_write 132 = .ok (.iconst 0, 1) := by decide +kernel
theorem dX4_write_133 : decode cX4_write 133 = .ok (.putfield 71, 3) := by decide +kernel
theorem dX4_write_136 : decode cX4_write 136 = .ok (.iload_n 1, 1) := by decide +kernel
theorem dX4_write_137 : decode cX4_write 137 = .ok (.bipush 9, 2) := by decide +kernel
theorem dX4_write_139 : decode cX4_write 139 = .ok (.if_icmp .ne 11, 3) := by decide +kernel
theorem dX4_write_142 : decode cX4_write 142 = .ok (.aload_n 0, 1) := by decide +kernel
theorem dX4_write_143 : decode cX4_write 143 = .ok (.iload_n 3, 1) := by decide +kernel
theorem dX4_write_144 : decode cX4_write 144 = .ok (.bipush 64, 2) := by decide +kernel
theorem dX4_write_146 : decode cX4_write 146 = .ok (.irem, 1) := by decide +kernel
theorem dX4_write_147 : decode cX4_write 147 = .ok (.putfield 80, 3) := by decide +kernel
theorem dX4_write_150 : decode cX4_write 150 = .ok (.iload_n 1, 1) := by decide +kernel
theorem dX4_write_151 : decode cX4_write 151 = .ok (.bipush 10, 2) := by decide +kernel
theorem dX4_write_153 : decode cX4_write 153 = .ok (.if_icmp .ne 17, 3) := by decide +kernel
theorem dX4_write_156 : decode cX4_write 156 = .ok (.aload_n 0, 1) := by decide +kernel
theorem dX4_write_157 : decode cX4_write 157 = .ok (.invokevirtual 83, 3) := by decide +kernel
theorem dX4_write_160 : decode cX4_write 160 = .ok (.istore 4, 2) := by decide +kernel
theorem dX4_write_162 : decode cX4_write 162 = .ok (.aload_n 0, 1) := by decide +kernel
theorem dX4_write_163 : decode cX4_write 163 = .ok (.getfield 13, 3) := by decide +kernel
theorem dX4_write_166 : decode cX4_write 166 = .ok (.iload 4, 2) := by decide +kernel
theorem dX4_write_168 : decode cX4_write 168 = .ok (.iload_n 3, 1) := by decide +kernel
theorem dX4_write_169 : decode cX4_write 169 = .ok (.iastore, 1) := by decide +kernel
theorem dX4_write_170 : decode cX4_write 170 = .ok (.iconst 1, 1) := by decide +kernel
theorem dX4_write_171 : decode cX4_write 171 = .ok (.ireturn, 1) := by decide +kernel
theorem dX4_update_0 : decode cX4_update 0 = .ok (.aload_n 0, 1) := by decide +kernel
theorem dX4_update_1 : decode cX4_update 1 = .ok (.getfield 25, 3) := by decide +kernel
theorem dX4_update_4 : decode cX4_update 4 = .ok (.iconst 2, 1) := by decide +kernel
theorem dX4_update_5 : decode cX4_update 5 = .ok (.if_icmp .ne 18, 3) := by decide +kernel
theorem dX4_update_8 : decode cX4_update 8 = .ok (.aload_n 0, 1) := by decide +kernel
theorem dX4_update_9 : decode cX4_update 9 = .ok (.getfield 29, 3) := by decide +kernel
theorem dX4_update_12 : decode cX4_update 12 = .ok (.iconst 0, 1) := by decide +kernel
theorem dX4_update_13 : decode cX4_update 13 = .ok (.iaload, 1) := by decide +kernel
theorem dX4_update_14 : decode cX4_update 14 = .ok (.iconst 1, 1) := by decide +kernel
theorem dX4_update_15 : decode cX4_update 15 = .ok (.if_icmp .ne 8, 3) := by decide +kernel
theorem dX4_update_18 : decode cX4_update 18 = .ok (.aload_n 0, 1) := by decide +kernel
theorem dX4_update_19 : decode cX4_update 19 = .ok (.iconst 0, 1) := by decide +kernel
theorem dX4_update_20 : decode cX4_update 20 = .ok (.putfield 101, 3) := by decide +kernel
theorem dX4_update_23 : decode cX4_update 23 = .ok (.aload_n 0, 1) := by decide +kernel
theorem dX4_update_24 : decode cX4_update 24 = .ok (.getfield 25, 3) := by decide +kernel
theorem dX4_update_27 : decode cX4_update 27 = .ok (.iconst 3, 1) := by decide +kernel
theorem dX4_update_28 : decode cX4_update 28 = .ok (.if_icmp .ne 10, 3) := by decide +kernel
theorem dX4_update_31 : decode cX4_update 31 = .ok (.aload_n 0, 1) := by decide +kernel
theorem dX4_update_32 : decode cX4_update 32 = .ok (.getfield 101, 3) := by decide +kernel
theorem dX4_update_35 : decode cX4_update 35 = .ok (.ifCond .eq 4, 3) := by decide +kernel
theorem dX4_update_38 : decode cX4_update 38 = .ok (.return_, 1) := by decide +kernel
theorem dX4_update_39 : decode cX4_update 39 = .ok (.aload_n 0, 1) := by decide +kernel
theorem dX4_update_40 : decode cX4_update 40 = .ok (.getfield 110, 3) := by decide +kernel
theorem dX4_update_43 : decode cX4_update 43 = .ok (.ifCond .eq 22, 3) := by decide +kernel
theorem dX4_update_46 : decode cX4_update 46 = .ok (.aload_n 0, 1) := by decide +kernel
theorem dX4_update_47 : decode cX4_update 47 = .ok (.getfield 113, 3) := by decide +kernel
theorem dX4_update_50 : decode cX4_update 50 = .ok (.aload_n 0, 1) := by decide +kernel
theorem dX4_update_51 : decode cX4_update 51 = .ok (.getfield 116, 3) := by decide +kernel
theorem dX4_update_54 : decode cX4_update 54 = .ok (.isub, 1) := by decide +kernel
theorem dX4_update_55 : decode cX4_update 55 = .ok (.iconst 5, 1) := by decide +kernel
theorem dX4_update_56 : decode cX4_update 56 = .ok (.if_icmp .ge 9, 3) := by decide +kernel
theorem dX4_update_59 : decode cX4_update 59 = .ok (.aload_n 0, 1) := by decide +kernel
theorem dX4_update_60 : decode cX4_update 60 = .ok (.iconst 1, 1) := by decide +kernel
theorem dX4_update_61 : decode cX4_update 61 = .ok (.putfield 101, 3) := by decide +kernel
theorem dX4_update_64 : decode cX4_update 64 = .ok (.return_, 1) := by decide +kernel
theorem dX4_update_65 : decode cX4_update 65 = .ok (.aload_n 0, 1) := by decide +kernel
theorem dX4_update_66 : decode cX4_update 66 = .ok (.iconst 0, 1) := by decide +kernel
theorem dX4_update_67 : decode cX4_update 67 = .ok (.iconst 2, 1) := by decide +kernel
theorem dX4_update_68 : decode cX4_update 68 = .ok (.invokevirtual 119, 3) := by decide +kernel
theorem dX4_update_71 : decode cX4_update 71 = .ok (.istore_n 1, 1) := by decide +kernel
theorem dX4_update_72 : decode cX4_update 72 = .ok (.iload_n 1, 1) := by decide +kernel
theorem dX4_update_73 : decode cX4_update 73 = .ok (.ifCond .eq 8, 3) := by decide +kernel
theorem dX4_update_76 : decode cX4_update 76 = .ok (.iload_n 1, 1) := by decide +kernel
theorem dX4_update_77 : decode cX4_update 77 = .ok (.iconst 3, 1) := by decide +kernel
theorem dX4_update_78 : decode cX4_update 78 = .ok (.if_icmp .ne 4, 3) := by decide +kernel
theorem dX4_update_81 : decode cX4_update 81 = .ok (.return_, 1) := by decide +kernel
theorem dX4_update_82 : decode cX4_update 82 = .ok (.aload_n 0, 1) := by decide +kernel
theorem dX4_update_83 : decode cX4_update 83 = .ok (.iconst 1, 1) := by decide +kernel
theorem dX4_update_84 : decode cX4_update 84 = .ok (.putfield 110, 3) := by decide +kernel
theorem dX4_update_87 : decode cX4_update 87 = .ok (.aload_n 0, 1) := by decide +kernel
theorem dX4_update_88 : decode cX4_update 88 = .ok (.aload_n 0, 1) := by decide +kernel
theorem dX4_update_89 : decode cX4_update 89 = .ok (.getfield 113, 3) := by decide +kernel
theorem dX4_update_92 : decode cX4_update 92 = .ok (.putfield 116, 3) := by decide +kernel
theorem dX4_update_95 : decode cX4_update 95 = .ok (.aload_n 0, 1) := by decide +kernel
theorem dX4_update_96 : decode cX4_update 96 = .ok (.aload_n 0, 1) := by decide +kernel
theorem dX4_update_97 : decode cX4_update 97 = .ok (.bipush 18, 2) := by decide +kernel
theorem dX4_update_99 : decode cX4_update 99 = .ok (.iconst 4, 1) := by decide +kernel
theorem dX4_update_100 : decode cX4_update 100 = .ok (.invokevirtual 119, 3) := by decide +kernel
theorem dX4_update_103 : decode cX4_update 103 = .ok (.putfield 107, 3) := by decide +kernel
theorem dX4_update_106 : decode cX4_update 106 = .ok (.iload_n 1, 1) := by decide +kernel
theorem dX4_update_107 : decode cX4_update 107 = .ok (.iconst 1, 1) := by decide +kernel
theorem dX4_update_108 : decode cX4_update 108 = .ok (.if_icmp .ne 18, 3) := by decide +kernel
theorem dX4_update_111 : decode cX4_update 111 = .ok (.aload_n 0, 1) := by decide +kernel
theorem dX4_update_112 : decode cX4_update 112 = .ok (.aload_n 0, 1) := by decide +kernel
theorem dX4_update_113 : decode cX4_update 113 = .ok (.aload_n 0, 1) := by decide +kernel
theorem dX4_update_114 : decode cX4_update 114 = .ok (.getfield 107, 3) := by decide +kernel
theorem dX4_update_117 : decode cX4_update 117 = .ok (.invokevirtual 123, 3) := by decide +kernel
theorem dX4_update_120 : decode cX4_update 120 = .ok (.putfield 104, 3) := by decide +kernel
theorem dX4_update_123 : decode cX4_update 123 = .ok (.goto 19, 3) := by decide +kernel
theorem dX4_update_126 : decode cX4_update 126 = .ok (.aload_n 0, 1) := by decide +kernel
theorem dX4_update_127 : decode cX4_update 127 = .ok (.aload_n 0, 1) := by decide +kernel
theorem dX4_update_128 : decode cX4_update 128 = .ok (.getfield 107, 3) := by decide +kernel
theorem dX4_update_131 : decode cX4_update 131 = .ok (.aload_n 0, 1) := by decide +kernel
theorem dX4_update_132 : decode cX4_update 132 = .ok (.iconst 2, 1) := by decide +kernel
theorem dX4_update_133 : decode cX4_update 133 = .ok (.bipush 16, 2) := by decide +kernel
theorem dX4_update_135 : decode cX4_update 135 = .ok (.invokevirtual 119, 3) := by decide +kernel
theorem dX4_update_138 : decode cX4_update 138 = .ok (.invokevirtual 127, 3) := by decide +kernel
theorem dX4_update_141 : decode cX4_update 141 = .ok (.pop, 1) := by decide +kernel
theorem dX4_update_142 : decode cX4_update 142 = .ok (.return_, 1) := by decide +kernel
theorem dX4_leads_0 : decode cX4_leads 0 = .ok (.aload_n 0, 1) := by decide +kernel
theorem dX4_leads_1 : decode cX4_leads 1 = .ok (.getfield 130, 3) := by decide +kernel
theorem dX4_leads_4 : decode cX4_leads 4 = .ok (.bipush 10, 2) := by decide +kernel
theorem dX4_leads_6 : decode cX4_leads 6 = .ok (.if_icmp .lt 8, 3) := by decide +kernel
theorem dX4_leads_9 : decode cX4_leads 9 = .ok (.bipush 7, 2) := by decide +kernel
theorem dX4_leads_11 : decode cX4_leads 11 = .ok (.goto 4, 3) := by decide +kernel
theorem dX4_leads_14 : decode cX4_leads 14 = .ok (.iconst 0, 1) := by decide +kernel
theorem dX4_leads_15 : decode cX4_leads 15 = .ok (.istore_n 2, 1) := by decide +kernel
theorem dX4_leads_16 : decode cX4_leads 16 = .ok (.aload_n 0, 1) := by decide +kernel
theorem dX4_leads_17 : decode cX4_leads 17 = .ok (.getfield 130, 3) := by decide +kernel
theorem dX4_leads_20 : decode cX4_leads 20 = .ok (.tableswitch 168 0 15 #[80, 90, 100, 122, 122, 136, 152, 168, 90, 111, 122, 122, 136, 152, 168, 90], 80) := by decide +kernel
theorem dX4_leads_100 : decode cX4_leads 100 = .ok (.iload_n 1, 1) := by decide +kernel
theorem dX4_leads_101 : decode cX4_leads 101 = .ok (.ifCond .eq 7, 3) := by decide +kernel
theorem dX4_leads_104 : decode cX4_leads 104 = .ok (.iconst 0, 1) := by decide +kernel
theorem dX4_leads_105 : decode cX4_leads 105 = .ok (.goto 4, 3) := by decide +kernel
theorem dX4_leads_108 : decode cX4_leads 108 = .ok (.iconst 1, 1) := by decide +kernel
theorem dX4_leads_109 : decode cX4_leads 109 = .ok (.ireturn, 1) := by decide +kernel
theorem dX4_leads_110 : decode cX4_leads 110 = .ok (.iload_n 1, 1) := by decide +kernel
theorem dX4_leads_111 : decode cX4_leads 111 = .ok (.ifCond .eq 7, 3) := by decide +kernel
theorem dX4_leads_114 : decode cX4_leads 114 = .ok (.iconst 2, 1) := by decide +kernel
theorem dX4_leads_115 : decode cX4_leads 115 = .ok (.goto 4, 3) := by decide +kernel
theorem dX4_leads_118 : decode cX4_leads 118 = .ok (.iconst 1, 1) := by decide +kernel
theorem dX4_leads_119 : decode cX4_leads 119 = .ok (.ireturn, 1) := by decide +kernel
theorem dX4_leads_120 : decode cX4_leads 120 = .ok (.iload_n 1, 1) := by decide +kernel
theorem dX4_leads_121 : decode cX4_leads 121 = .ok (.ifCond .eq 8, 3) := by decide +kernel
theorem dX4_leads_124 : decode cX4_leads 124 = .ok (.bipush 9, 2) := by decide +kernel
theorem dX4_leads_126 : decode cX4_leads 126 = .ok (.goto 4, 3) := by decide +kernel
theorem dX4_leads_129 : decode cX4_leads 129 = .ok (.iconst 3, 1) := by decide +kernel
theorem dX4_leads_130 : decode cX4_leads 130 = .ok (.ireturn, 1) := by decide +kernel
theorem dX4_leads_131 : decode cX4_leads 131 = .ok (.iload_n 1, 1) := by decide +kernel
theorem dX4_leads_132 : decode cX4_leads 132 = .ok (.ifCond .eq 7, 3) := by decide +kernel
theorem dX4_leads_135 : decode cX4_leads 135 = .ok (.iconst 0, 1) := by decide +kernel
theorem dX4_leads_136 : decode cX4_leads 136 = .ok (.goto 5, 3) := by decide +kernel
theorem dX4_leads_139 : decode cX4_leads 139 = .ok (.bipush 10, 2) := by decide +kernel
theorem dX4_leads_141 : decode cX4_leads 141 = .ok (.ireturn, 1) := by decide +kernel
theorem dX4_leads_142 : decode cX4_leads 142 = .ok (.iload_n 1, 1) := by decide +kernel
theorem dX4_leads_143 : decode cX4_leads 143 = .ok (.ifCond .eq 9, 3) := by decide +kernel
theorem dX4_leads_146 : decode cX4_leads 146 = .ok (.iconst 5, 1) := by decide +kernel
theorem dX4_leads_147 : decode cX4_leads 147 = .ok (.iload_n 2, 1) := by decide +kernel
theorem dX4_leads_148 : decode cX4_leads 148 = .ok (.iadd, 1) := by decide +kernel
theorem dX4_leads_149 : decode cX4_leads 149 = .ok (.goto 6, 3) := by decide +kernel
theorem dX4_leads_152 : decode cX4_leads 152 = .ok (.iconst 4, 1) := by decide +kernel
theorem dX4_leads_153 : decode cX4_leads 153 = .ok (.iload_n 2, 1) := by decide +kernel
theorem dX4_leads_154 : decode cX4_leads 154 = .ok (.iadd, 1) := by decide +kernel
theorem dX4_leads_155 : decode cX4_leads 155 = .ok (.ireturn, 1) := by decide +kernel
theorem dX4_leads_156 : decode cX4_leads 156 = .ok (.iload_n 1, 1) := by decide +kernel
theorem dX4_leads_157 : decode cX4_leads 157 = .ok (.ifCond .eq 10, 3) := by decide +kernel
theorem dX4_leads_160 : decode cX4_leads 160 = .ok (.bipush 8, 2) := by decide +kernel
theorem dX4_leads_162 : decode cX4_leads 162 = .ok (.iload_n 2, 1) := by decide +kernel
theorem dX4_leads_163 : decode cX4_leads 163 = .ok (.iadd, 1) := by decide +kernel
theorem dX4_leads_164 : decode cX4_leads 164 = .ok (.goto 7, 3) := by decide +kernel
theorem dX4_leads_167 : decode cX4_leads 167 = .ok (.bipush 6, 2) := by decide +kernel
theorem dX4_leads_169 : decode cX4_leads 169 = .ok (.iload_n 2, 1) := by decide +kernel
theorem dX4_leads_170 : decode cX4_leads 170 = .ok (.iadd, 1) := by decide +kernel
theorem dX4_leads_171 : decode cX4_leads 171 = .ok (.ireturn, 1) := by decide +kernel
theorem dX4_leads_172 : decode cX4_leads 172 = .ok (.iload_n 1, 1) := by decide +kernel
theorem dX4_leads_173 : decode cX4_leads 173 = .ok (.ifCond .eq 10, 3) := by decide +kernel
theorem dX4_leads_176 : decode cX4_leads 176 = .ok (.bipush 7, 2) := by decide +kernel
theorem dX4_leads_178 : decode cX4_leads 178 = .ok (.iload_n 2, 1) := by decide +kernel
theorem dX4_leads_179 : decode cX4_leads 179 = .ok (.iadd, 1) := by decide +kernel
theorem dX4_leads_180 : decode cX4_leads 180 = .ok (.goto 7, 3) := by decide +kernel
theorem dX4_leads_183 : decode cX4_leads 183 = .ok (.bipush 6, 2) := by decide +kernel
theorem dX4_leads_185 : decode cX4_leads 185 = .ok (.iload_n 2, 1) := by decide +kernel
theorem dX4_leads_186 : decode cX4_leads 186 = .ok (.iadd, 1) := by decide +kernel
theorem dX4_leads_187 : decode cX4_leads 187 = .ok (.ireturn, 1) := by decide +kernel
theorem dX4_leads_188 : decode cX4_leads 188 = .ok (.iload_n 1, 1) := by decide +kernel
theorem dX4_leads_189 : decode cX4_leads 189 = .ok (.ifCond .eq 10, 3) := by decide +kernel
theorem dX4_leads_192 : decode cX4_leads 192 = .ok (.bipush 8, 2) := by decide +kernel
theorem dX4_leads_194 : decode cX4_leads 194 = .ok (.iload_n 2, 1) := by decide +kernel
theorem dX4_leads_195 : decode cX4_leads 195 = .ok (.iadd, 1) := by decide +kernel
theorem dX4_leads_196 : decode cX4_leads 196 = .ok (.goto 6, 3) := by decide +kernel
theorem dX4_leads_199 : decode cX4_leads 199 = .ok (.iconst 4, 1) := by decide +kernel
theorem dX4_leads_200 : decode cX4_leads 200 = .ok (.iload_n 2, 1) := by decide +kernel
theorem dX4_leads_201 : decode cX4_leads 201 = .ok (.iadd, 1) := by decide +kernel
theorem dX4_leads_202 : decode cX4_leads 202 = .ok (.ireturn, 1) := by decide +kernel
theorem dX4_one_0 : decode cX4_one 0 = .ok (.iconst 0, 1) := by decide +kernel
theorem dX4_one_1 : decode cX4_one 1 = .ok (.istore_n 3, 1) := by decide +kernel
theorem dX4_one_2 : decode cX4_one 2 = .ok (.aload_n 0, 1) := by decide +kernel
theorem dX4_one_3 : decode cX4_one 3 = .ok (.dup, 1) := by decide +kernel
theorem dX4_one_4 : decode cX4_one 4 = .ok (.getfield 113, 3) := by decide +kernel
theorem dX4_one_7 : decode cX4_one 7 = .ok (.iconst 1, 1) := by decide +kernel
theorem dX4_one_8 : decode cX4_one 8 = .ok (.iadd, 1) := by decide +kernel
theorem dX4_one_9 : decode cX4_one 9 = .ok (.putfield 113, 3) := by decide +kernel
theorem dX4_one_12 : decode cX4_one 12 = .ok (.aload_n 0, 1) := by decide +kernel
theorem dX4_one_13 : decode cX4_one 13 = .ok (.getfield 130, 3) := by decide +kernel
theorem dX4_one_16 : decode cX4_one 16 = .ok (.ifCond .ne 8, 3) := by decide +kernel
theorem dX4_one_19 : decode cX4_one 19 = .ok (.aload_n 0, 1) := by decide +kernel
theorem dX4_one_20 : decode cX4_one 20 = .ok (.iconst 1, 1) := by decide +kernel
theorem dX4_one_21 : decode cX4_one 21 = .ok (.putfield 25, 3) := by decide +kernel
theorem dX4_one_24 : decode cX4_one 24 = .ok (.aload_n 0, 1) := by decide +kernel
theorem dX4_one_25 : decode cX4_one 25 = .ok (.getfield 130, 3) := by decide +kernel
theorem dX4_one_28 : decode cX4_one 28 = .ok (.bipush 10, 2) := by decide +kernel
theorem dX4_one_30 : decode cX4_one 30 = .ok (.if_icmp .ne 15, 3) := by decide +kernel
theorem dX4_one_33 : decode cX4_one 33 = .ok (.aload_n 0, 1) := by decide +kernel
theorem dX4_one_34 : decode cX4_one 34 = .ok (.iconst 4, 1) := by decide +kernel
theorem dX4_one_35 : decode cX4_one 35 = .ok (.putfield 94, 3) := by decide +kernel
theorem dX4_one_38 : decode cX4_one 38 = .ok (.aload_n 0, 1) := by decide +kernel
theorem dX4_one_39 : decode cX4_one 39 = .ok (.iconst 0, 1) := by decide +kernel
theorem dX4_one_40 : decode cX4_one 40 = .ok (.iconst 4, 1) := by decide +kernel
theorem dX4_one_41 : decode cX4_one 41 = .ok (.iconst 5, 1) := by decide +kernel
theorem dX4_one_42 : decode cX4_one 42 = .ok (.invokevirtual 97, 3) := by decide +kernel
theorem dX4_one_45 : decode cX4_one 45 = .ok (.aload_n 0, 1) := by decide +kernel
theorem dX4_one_46 : decode cX4_one 46 = .ok (.getfield 130, 3) := by decide +kernel
theorem dX4_one_49 : decode cX4_one 49 = .ok (.iconst 4, 1) := by decide +kernel
theorem dX4_one_50 : decode cX4_one 50 = .ok (.if_icmp .eq 12, 3) := by decide +kernel
theorem dX4_one_53 : decode cX4_one 53 = .ok (.aload_n 0, 1) := by decide +kernel
theorem dX4_one_54 : decode cX4_one 54 = .ok (.getfield 130, 3) := by decide +kernel
theorem dX4_one_57 : decode cX4_one 57 = .ok (.bipush 11, 2) := by decide +kernel
theorem dX4_one_59 : decode cX4_one 59 = .ok (.if_icmp .ne 9, 3) := by decide +kernel
theorem dX4_one_62 : decode cX4_one 62 = .ok (.aload_n 0, 1) := by decide +kernel
theorem dX4_one_63 : decode cX4_one 63 = .ok (.iload_n 2, 1) := by decide +kernel
theorem dX4_one_64 : decode cX4_one 64 = .ok (.invokevirtual 133, 3) := by decide +kernel
theorem dX4_one_67 : decode cX4_one 67 = .ok (.istore_n 3, 1) := by decide +kernel
theorem dX4_one_68 : decode cX4_one 68 = .ok (.aload_n 0, 1) := by decide +kernel
theorem dX4_one_69 : decode cX4_one 69 = .ok (.getfield 130, 3) := by decide +kernel
theorem dX4_one_72 : decode cX4_one 72 = .ok (.bipush 15, 2) := by decide +kernel
theorem dX4_one_74 : decode cX4_one 74 = .ok (.if_icmp .ne 13, 3) := by decide +kernel
theorem dX4_one_77 : decode cX4_one 77 = .ok (.aload_n 0, 1) := by decide +kernel
theorem dX4_one_78 : decode cX4_one 78 = .ok (.aload_n 0, 1) := by decide +kernel
theorem dX4_one_79 : decode cX4_one 79 = .ok (.iconst 0, 1) := by decide +kernel
theorem dX4_one_80 : decode cX4_one 80 = .ok (.iconst 4, 1) := by decide +kernel
theorem dX4_one_81 : decode cX4_one 81 = .ok (.invokevirtual 119, 3) := by decide +kernel
theorem dX4_one_84 : decode cX4_one 84 = .ok (.putfield 25, 3) := by decide +kernel
theorem dX4_one_87 : decode cX4_one 87 = .ok (.aload_n 0, 1) := by decide +kernel
theorem dX4_one_88 : decode cX4_one 88 = .ok (.getfield 130, 3) := by decide +kernel
theorem dX4_one_91 : decode cX4_one 91 = .ok (.iconst 3, 1) := by decide +kernel
theorem dX4_one_92 : decode cX4_one 92 = .ok (.if_icmp .ne 7, 3) := by decide +kernel
theorem dX4_one_95 : decode cX4_one 95 = .ok (.aload_n 0, 1) := by decide +kernel
theorem dX4_one_96 : decode cX4_one 96 = .ok (.invokevirtual 136, 3) := by decide +kernel
theorem dX4_one_99 : decode cX4_one 99 = .ok (.aload_n 0, 1) := by decide +kernel
theorem dX4_one_100 : decode cX4_one 100 = .ok (.getfield 130, 3) := by decide +kernel
theorem dX4_one_103 : decode cX4_one 103 = .ok (.bipush 8, 2) := by decide +kernel
theorem dX4_one_105 : decode cX4_one 105 = .ok (.if_icmp .ne 7, 3) := by decide +kernel
theorem dX4_one_108 : decode cX4_one 108 = .ok (.aload_n 0, 1) := by decide +kernel
theorem dX4_one_109 : decode cX4_one 109 = .ok (.invokevirtual 139, 3) := by decide +kernel
theorem dX4_one_112 : decode cX4_one 112 = .ok (.aload_n 0, 1) := by decide +kernel
theorem dX4_one_113 : decode cX4_one 113 = .ok (.aload_n 0, 1) := by decide +kernel
theorem dX4_one_114 : decode cX4_one 114 = .ok (.iload_n 1, 1) := by decide +kernel
theorem dX4_one_115 : decode cX4_one 115 = .ok (.invokevirtual 142, 3) := by decide +kernel
theorem dX4_one_118 : decode cX4_one 118 = .ok (.putfield 130, 3) := by decide +kernel
theorem dX4_one_121 : decode cX4_one 121 = .ok (.iload_n 3, 1) := by decide +kernel
theorem dX4_one_122 : decode cX4_one 122 = .ok (.ireturn, 1) := by decide +kernel
theorem dX4_tick_0 : decode cX4_tick 0 = .ok (.iload_n 1, 1) := by decide +kernel
theorem dX4_tick_1 : decode cX4_tick 1 = .ok (.iconst 1, 1) := by decide +kernel
theorem dX4_tick_2 : decode cX4_tick 2 = .ok (.bipush 24, 2) := by decide +kernel
theorem dX4_tick_4 : decode cX4_tick 4 = .ok (.invokestatic 60, 3) := by decide +kernel
theorem dX4_tick_7 : decode cX4_tick 7 = .ok (.ifCond .ne 5, 3) := by decide +kernel
theorem dX4_tick_10 : decode cX4_tick 10 = .ok (.iconst (-1), 1) := by decide +kernel
theorem dX4_tick_11 : decode cX4_tick 11 = .ok (.ireturn, 1) := by decide +kernel
theorem dX4_tick_12 : decode cX4_tick 12 = .ok (.iconst 0, 1) := by decide +kernel
theorem dX4_tick_13 : decode cX4_tick 13 = .ok (.istore 4, 2) := by decide +kernel
theorem dX4_tick_15 : decode cX4_tick 15 = .ok (.iconst 0, 1) := by decide +kernel
theorem dX4_tick_16 : decode cX4_tick 16 = .ok (.istore 5, 2) := by decide +kernel
theorem dX4_tick_18 : decode cX4_tick 18 = .ok (.iload 5, 2) := by decide +kernel
theorem dX4_tick_20 : decode cX4_tick 20 = .ok (.iload_n 1, 1) := by decide +kernel
theorem dX4_tick_21 : decode cX4_tick 21 = .ok (.if_icmp .ge 46, 3) := by decide +kernel
theorem dX4_tick_24 : decode cX4_tick 24 = .ok (.aload_n 0, 1) := by decide +kernel
theorem dX4_tick_25 : decode cX4_tick 25 = .ok (.iload_n 2, 1) := by decide +kernel
theorem dX4_tick_26 : decode cX4_tick 26 = .ok (.iload 5, 2) := by decide +kernel
theorem dX4_tick_28 : decode cX4_tick 28 = .ok (.ishr, 1) := by decide +kernel
theorem dX4_tick_29 : decode cX4_tick 29 = .ok (.iconst 1, 1) := by decide +kernel
theorem dX4_tick_30 : decode cX4_tick 30 = .ok (.iand, 1) := by decide +kernel
theorem dX4_tick_31 : decode cX4_tick 31 = .ok (.iconst 1, 1) := by decide +kernel
theorem dX4_tick_32 : decode cX4_tick 32 = .ok (.if_icmp .ne 7, 3) := by decide +kernel
theorem dX4_tick_35 : decode cX4_tick 35 = .ok (.iconst 1, 1) := by decide +kernel
theorem dX4_tick_36 : decode cX4_tick 36 = .ok (.goto 4, 3) := by decide +kernel
theorem dX4_tick_39 : decode cX4_tick 39 = .ok (.iconst 0, 1) := by decide +kernel
theorem dX4_tick_40 : decode cX4_tick 40 = .ok (.iload_n 3, 1) := by decide +kernel
theorem dX4_tick_41 : decode cX4_tick 41 = .ok (.iload 5, 2) := by decide +kernel
theorem dX4_tick_43 : decode cX4_tick 43 = .ok (.ishr, 1) := by decide +kernel
theorem dX4_tick_44 : decode cX4_tick 44 = .ok (.iconst 1, 1) := by decide +kernel
theorem dX4_tick_45 : decode cX4_tick 45 = .ok (.iand, 1) := by decide +kernel
theorem dX4_tick_46 : decode cX4_tick 46 = .ok (.invokevirtual 146, 3) := by decide +kernel
theorem dX4_tick_49 : decode cX4_tick 49 = .ok (.istore 6, 2) := by decide +kernel
theorem dX4_tick_51 : decode cX4_tick 51 = .ok (.iload 4, 2) := by decide +kernel
theorem dX4_tick_53 : decode cX4_tick 53 = .ok (.iload 6, 2) := by decide +kernel
theorem dX4_tick_55 : decode cX4_tick 55 = .ok (.iload 5, 2) := by decide +kernel
theorem dX4_tick_57 : decode cX4_tick 57 = .ok (.ishl, 1) := by decide +kernel
theorem dX4_tick_58 : decode cX4_tick 58 = .ok (.ior, 1) := by decide +kernel
theorem dX4_tick_59 : decode cX4_tick 59 = .ok (.istore 4, 2) := by decide +kernel
theorem dX4_tick_61 : decode cX4_tick 61 = .ok (.iinc 5 1, 3) := by decide +kernel
theorem dX4_tick_64 : decode cX4_tick 64 = .ok (.goto (-46), 3) := by decide +kernel
theorem dX4_tick_67 : decode cX4_tick 67 = .ok (.iload 4, 2) := by decide +kernel
theorem dX4_tick_69 : decode cX4_tick 69 = .ok (.ireturn, 1) := by decide +kernel
theorem dX4_run_0 : decode cX4_run 0 = .ok (.iload_n 1, 1) := by decide +kernel
theorem dX4_run_1 : decode cX4_run 1 = .ok (.iconst 1, 1) := by decide +kernel
theorem dX4_run_2 : decode cX4_run 2 = .ok (.bipush 50, 2) := by decide +kernel
theorem dX4_run_4 : decode cX4_run 4 = .ok (.invokestatic 60, 3) := by decide +kernel
theorem dX4_run_7 : decode cX4_run 7 = .ok (.ifCond .ne 5, 3) := by decide +kernel
theorem dX4_run_10 : decode cX4_run 10 = .ok (.iconst (-1), 1) := by decide +kernel
theorem dX4_run_11 : decode cX4_run 11 = .ok (.ireturn, 1) := by decide +kernel
theorem dX4_run_12 : decode cX4_run 12 = .ok (.iconst 0, 1) := by decide +kernel
theorem dX4_run_13 : decode cX4_run 13 = .ok (.istore_n 2, 1) := by decide +kernel
theorem dX4_run_14 : decode cX4_run 14 = .ok (.iconst 0, 1) := by decide +kernel
theorem dX4_run_15 : decode cX4_run 15 = .ok (.istore_n 3, 1) := by decide +kernel
theorem dX4_run_16 : decode cX4_run 16 = .ok (.iload_n 3, 1) := by decide +kernel
theorem dX4_run_17 : decode cX4_run 17 = .ok (.iload_n 1, 1) := by decide +kernel
theorem dX4_run_18 : decode cX4_run 18 = .ok (.if_icmp .ge 26, 3) := by decide +kernel
theorem dX4_run_21 : decode cX4_run 21 = .ok (.aload_n 0, 1) := by decide +kernel
theorem dX4_run_22 : decode cX4_run 22 = .ok (.getfield 32, 3) := by decide +kernel
theorem dX4_run_25 : decode cX4_run 25 = .ok (.ifCond .ne 13, 3) := by decide +kernel
theorem dX4_run_28 : decode cX4_run 28 = .ok (.aload_n 0, 1) := by decide +kernel
theorem dX4_run_29 : decode cX4_run 29 = .ok (.invokevirtual 64, 3) := by decide +kernel
theorem dX4_run_32 : decode cX4_run 32 = .ok (.ifCond .eq 6, 3) := by decide +kernel
theorem dX4_run_35 : decode cX4_run 35 = .ok (.iinc 2 1, 3) := by decide +kernel
theorem dX4_run_38 : decode cX4_run 38 = .ok (.iinc 3 1, 3) := by decide +kernel
theorem dX4_run_41 : decode cX4_run 41 = .ok (.goto (-25), 3) := by decide +kernel
theorem dX4_run_44 : decode cX4_run 44 = .ok (.iload_n 2, 1) := by decide +kernel
theorem dX4_run_45 : decode cX4_run 45 = .ok (.ireturn, 1) := by decide +kernel
theorem dX4_state_0 : decode cX4_state 0 = .ok (.aload_n 0, 1) := by decide +kernel
theorem dX4_state_1 : decode cX4_state 1 = .ok (.getfield 130, 3) := by decide +kernel
theorem dX4_state_4 : decode cX4_state 4 = .ok (.ireturn, 1) := by decide +kernel
theorem dX4_instruction_0 : decode cX4_instruction 0 = .ok (.aload_n 0, 1) := by decide +kernel
theorem dX4_instruction_1 : decode cX4_instruction 1 = .ok (.getfield 25, 3) := by decide +kernel
theorem dX4_instruction_4 : decode cX4_instruction 4 = .ok (.ireturn, 1) := by decide +kernel
theorem dX4_register_0 : decode cX4_register 0 = .ok (.iload_n 1, 1) := by decide +kernel
theorem dX4_register_1 : decode cX4_register 1 = .ok (.iconst 0, 1) := by decide +kernel
theorem dX4_register_2 : decode cX4_register 2 = .ok (.bipush 7, 2) := by decide +kernel
theorem dX4_register_4 : decode cX4_register 4 = .ok (.invokestatic 60, 3) := by decide +kernel
theorem dX4_register_7 : decode cX4_register 7 = .ok (.ifCond .eq 12, 3) := by decide +kernel
theorem dX4_register_10 : decode cX4_register 10 = .ok (.aload_n 0, 1) := by decide +kernel
theorem dX4_register_11 : decode cX4_register 11 = .ok (.getfield 7, 3) := by decide +kernel
theorem dX4_register_14 : decode cX4_register 14 = .ok (.iload_n 1, 1) := by decide +kernel
theorem dX4_register_15 : decode cX4_register 15 = .ok (.iaload, 1) := by decide +kernel
theorem dX4_register_16 : decode cX4_register 16 = .ok (.goto 4, 3) := by decide +kernel
theorem dX4_register_19 : decode cX4_register 19 = .ok (.iconst (-1), 1) := by decide +kernel
theorem dX4_register_20 : decode cX4_register 20 = .ok (.ireturn, 1) := by decide +kernel
theorem dX4_word_0 : decode cX4_word 0 = .ok (.iload_n 1, 1) := by decide +kernel
theorem dX4_word_1 : decode cX4_word 1 = .ok (.iconst 0, 1) := by decide +kernel
theorem dX4_word_2 : decode cX4_word 2 = .ok (.bipush 63, 2) := by decide +kernel
theorem dX4_word_4 : decode cX4_word 4 = .ok (.invokestatic 60, 3) := by decide +kernel
theorem dX4_word_7 : decode cX4_word 7 = .ok (.ifCond .eq 12, 3) := by decide +kernel
theorem dX4_word_10 : decode cX4_word 10 = .ok (.aload_n 0, 1) := by decide +kernel
theorem dX4_word_11 : decode cX4_word 11 = .ok (.getfield 13, 3) := by decide +kernel
theorem dX4_word_14 : decode cX4_word 14 = .ok (.iload_n 1, 1) := by decide +kernel
theorem dX4_word_15 : decode cX4_word 15 = .ok (.iaload, 1) := by decide +kernel
theorem dX4_word_16 : decode cX4_word 16 = .ok (.goto 4, 3) := by decide +kernel
theorem dX4_word_19 : decode cX4_word 19 = .ok (.iconst (-1), 1) := by decide +kernel
theorem dX4_word_20 : decode cX4_word 20 = .ok (.ireturn, 1) := by decide +kernel
theorem dX4_pc_0 : decode cX4_pc 0 = .ok (.aload_n 0, 1) := by decide +kernel
theorem dX4_pc_1 : decode cX4_pc 1 = .ok (.getfield 40, 3) := by decide +kernel
theorem dX4_pc_4 : decode cX4_pc 4 = .ok (.ireturn, 1) := by decide +kernel
theorem dX4_steps_0 : decode cX4_steps 0 = .ok (.aload_n 0, 1) := by decide +kernel
theorem dX4_steps_1 : decode cX4_steps 1 = .ok (.getfield 57, 3) := by decide +kernel
theorem dX4_steps_4 : decode cX4_steps 4 = .ok (.ireturn, 1) := by decide +kernel
set_option maxRecDepth 20000 in
theorem ggX4_capture_X4_fill : GoodIn wsX4_capture wsX4_fill := goodIn_r _ [7, 8, 12, 13, 14, 15, 16, 17, 18, 19, 20, 21, 22, 23, 24, 25, 26, 27, 28, 29, 30, 31, 32, 33, 34, 35] (by decide +kernel) (by decide +kernel)
set_option maxRecDepth 20000 in
theorem gX4_capture_X4_fill : GoodIn wsX4_capture (wsV RX4 97 RX4 yX4_fill wsX4_fill) := goodIn_app (goodIn_of _ (by decide +kernel)) ggX4_capture_X4_fill
set_option maxRecDepth 20000 in
theorem ggX4_read_X4_in : GoodIn wsX4_read wsX4_in := goodIn_r _ [4] (by decide +kernel) (by decide +kernel)
set_option maxRecDepth 20000 in
theorem gX4_read_X4_in : GoodIn wsX4_read (wsS RX4 60 yX4_in wsX4_in) := goodIn_app (goodIn_of _ (by decide +kernel)) ggX4_read_X4_in
set_option maxRecDepth 20000 in
theorem ggX4_read_X4_next : GoodIn wsX4_read wsX4_next := goodIn_r _ [19, 14, 20, 21, 22, 23, 24, 25, 26, 27, 28, 29, 30, 31, 32, 33, 34, 35, 36, 37, 38, 39, 40, 41, 42, 43] (by decide +kernel) (by decide +kernel)
set_option maxRecDepth 20000 in
theorem gX4_read_X4_next : GoodIn wsX4_read (wsV RX4 83 RX4 yX4_next wsX4_next) := goodIn_app (goodIn_of _ (by decide +kernel)) ggX4_read_X4_next
set_option maxRecDepth 20000 in
theorem ggX4_step_X4_isTrap : GoodIn wsX4_step wsX4_isTrap := goodIn_r _ [9, 10, 11, 24, 25, 26, 27, 28, 29, 30, 31, 32, 33, 34, 35, 36, 37, 38, 39, 40, 41, 42, 43, 44, 45, 46, 47] (by decide +kernel) (by decide +kernel)
set_option maxRecDepth 20000 in
theorem gX4_step_X4_isTrap : GoodIn wsX4_step (wsV RX4 46 RX4 yX4_isTrap wsX4_isTrap) := goodIn_app (goodIn_of _ (by decide +kernel)) ggX4_step_X4_isTrap
set_option maxRecDepth 20000 in
theorem ggX4_step_X4_halt : GoodIn wsX4_step wsX4_halt := goodIn_r _ [15, 16, 17, 24, 25, 26, 27, 28, 29, 30, 31, 32, 33, 34, 35, 36, 37, 38, 39, 40, 41, 42, 43, 44, 45, 46, 47] (by decide +kernel) (by decide +kernel)
set_option maxRecDepth 20000 in
theorem gX4_step_X4_halt : GoodIn wsX4_step (wsV RX4 50 RX4 yX4_halt wsX4_halt) := goodIn_app (goodIn_of _ (by decide +kernel)) ggX4_step_X4_halt
set_option maxRecDepth 20000 in
theorem ggX4_step_X4_work : GoodIn wsX4_step wsX4_work := goodIn_r _ [21, 3, 22, 1, 24, 25, 26, 27, 28, 29, 30, 31, 32, 33, 34, 35, 36, 37, 38, 39, 40, 41, 42, 43, 44, 45, 46, 47] (by decide +kernel) (by decide +kernel)
set_option maxRecDepth 20000 in
theorem gX4_step_X4_work : GoodIn wsX4_step (wsV RX4 54 RX4 yX4_work wsX4_work) := goodIn_app (goodIn_of _ (by decide +kernel)) ggX4_step_X4_work
set_option maxRecDepth 20000 in
theorem ggX4_control_X4_step : GoodIn wsX4_control wsX4_step := goodIn_r _ [8, 9, 10, 11, 3, 12, 13, 14, 7, 15, 16, 17, 18, 19, 20, 21, 2, 22, 23, 24, 25, 26, 27, 28, 29, 30, 31, 32, 33, 34, 35, 36, 37, 38, 39, 40, 41, 42, 43, 44, 45, 46, 47, 48, 49, 50, 51, 52] (by decide +kernel) (by decide +kernel)
set_option maxRecDepth 20000 in
theorem gX4_control_X4_step : GoodIn wsX4_control (wsV RX4 64 RX4 yX4_step wsX4_step) := goodIn_app (goodIn_of _ (by decide +kernel)) ggX4_control_X4_step
set_option maxRecDepth 20000 in
theorem ggX4_control_X4_halt : GoodIn wsX4_control wsX4_halt := goodIn_r _ [21, 2, 22, 29, 30, 31, 32, 33, 34, 35, 36, 37, 38, 39, 40, 41, 42, 43, 44, 45, 46, 47, 48, 49, 50, 51, 52] (by decide +kernel) (by decide +kernel)
set_option maxRecDepth 20000 in
theorem gX4_control_X4_halt : GoodIn wsX4_control (wsV RX4 50 RX4 yX4_halt wsX4_halt) := goodIn_app (goodIn_of _ (by decide +kernel)) ggX4_control_X4_halt
set_option maxRecDepth 20000 in
theorem ggX4_runProgram_X4_in : GoodIn wsX4_runProgram wsX4_in := goodIn_r _ [5] (by decide +kernel) (by decide +kernel)
set_option maxRecDepth 20000 in
theorem gX4_runProgram_X4_in : GoodIn wsX4_runProgram (wsS RX4 60 yX4_in wsX4_in) := goodIn_app (goodIn_of _ (by decide +kernel)) ggX4_runProgram_X4_in
set_option maxRecDepth 20000 in
theorem ggX4_runProgram_X4_work : GoodIn wsX4_runProgram wsX4_work := goodIn_r _ [10, 11, 12, 13, 14, 15, 16, 17, 18, 19, 20, 21, 22, 23, 24, 25, 26, 27, 28, 29, 30, 31, 32, 33, 34, 35, 36, 37] (by decide +kernel) (by decide +kernel)
set_option maxRecDepth 20000 in
theorem gX4_runProgram_X4_work : GoodIn wsX4_runProgram (wsV RX4 54 RX4 yX4_work wsX4_work) := goodIn_app (goodIn_of _ (by decide +kernel)) ggX4_runProgram_X4_work
set_option maxRecDepth 20000 in
theorem ggX4_command_X4_runProgram : GoodIn wsX4_command wsX4_runProgram := goodIn_r _ [10, 11, 12, 13, 9, 14, 1, 15, 16, 17, 18, 3, 19, 20, 21, 22, 23, 24, 25, 26, 27, 28, 29, 30, 31, 32, 33, 34, 35, 36, 37, 38, 39, 40, 41, 42, 43, 44] (by decide +kernel) (by decide +kernel)
set_option maxRecDepth 20000 in
theorem gX4_command_X4_runProgram : GoodIn wsX4_command (wsV RX4 77 RX4 yX4_runProgram wsX4_runProgram) := goodIn_app (goodIn_of _ (by decide +kernel)) ggX4_command_X4_runProgram
set_option maxRecDepth 20000 in
theorem ggX4_write_X4_in : GoodIn wsX4_write wsX4_in := goodIn_r _ [4] (by decide +kernel) (by decide +kernel)
set_option maxRecDepth 20000 in
theorem gX4_write_X4_in : GoodIn wsX4_write (wsS RX4 60 yX4_in wsX4_in) := goodIn_app (goodIn_of _ (by decide +kernel)) ggX4_write_X4_in
set_option maxRecDepth 20000 in
theorem ggX4_write_X4_control : GoodIn wsX4_write wsX4_control := goodIn_r _ [12, 13, 14, 15, 16, 17, 18, 3, 19, 20, 21, 22, 23, 24, 25, 26, 8, 7, 27, 28, 29, 30, 31, 32, 33, 34, 35, 36, 37, 53, 54, 55, 56, 57, 58, 59, 60, 61, 62, 63, 64, 65, 66, 67, 68, 69, 70, 71, 72, 73, 74, 75, 76] (by decide +kernel) (by decide +kernel)
set_option maxRecDepth 20000 in
theorem gX4_write_X4_control : GoodIn wsX4_write (wsV RX4 88 RX4 yX4_control wsX4_control) := goodIn_app (goodIn_of _ (by decide +kernel)) ggX4_write_X4_control
set_option maxRecDepth 20000 in
theorem ggX4_write_X4_command : GoodIn wsX4_write wsX4_command := goodIn_r _ [42, 43, 14, 22, 38, 21, 44, 45, 46, 3, 47, 6, 1, 2, 4, 32, 33, 34, 35, 36, 20, 53, 54, 55, 56, 57, 58, 59, 60, 61, 62, 63, 64, 65, 66, 67, 68, 69, 70, 71, 72, 73, 74, 75, 76] (by decide +kernel) (by decide +kernel)
set_option maxRecDepth 20000 in
theorem gX4_write_X4_command : GoodIn wsX4_write (wsV RX4 91 RX4 yX4_command wsX4_command) := goodIn_app (goodIn_of _ (by decide +kernel)) ggX4_write_X4_command
set_option maxRecDepth 20000 in
theorem ggX4_write_X4_next : GoodIn wsX4_write wsX4_next := goodIn_r _ [52, 48, 53, 54, 55, 56, 57, 58, 59, 60, 61, 62, 63, 64, 65, 66, 67, 68, 69, 70, 71, 72, 73, 74, 75, 76] (by decide +kernel) (by decide +kernel)
set_option maxRecDepth 20000 in
theorem gX4_write_X4_next : GoodIn wsX4_write (wsV RX4 83 RX4 yX4_next wsX4_next) := goodIn_app (goodIn_of _ (by decide +kernel)) ggX4_write_X4_next
set_option maxRecDepth 20000 in
theorem ggX4_update_X4_bits : GoodIn wsX4_update wsX4_bits := goodIn_r _ [11, 2, 73, 74, 75, 76, 77, 78, 79, 80, 81, 82, 83, 84, 85, 86, 87, 88, 89, 90, 91, 92, 93, 94, 95, 96] (by decide +kernel) (by decide +kernel)
set_option maxRecDepth 20000 in
theorem gX4_update_X4_bits : GoodIn wsX4_update (wsV RX4 119 RX4 yX4_bits wsX4_bits) := goodIn_app (goodIn_of _ (by decide +kernel)) ggX4_update_X4_bits
set_option maxRecDepth 20000 in
theorem ggX4_update_X4_read : GoodIn wsX4_update wsX4_read := goodIn_r _ [16, 17, 18, 10, 19, 20, 21, 22, 23, 24, 25, 26, 27, 28, 29, 30, 31, 32, 33, 34, 73, 74, 75, 76, 77, 78, 79, 80, 81, 82, 83, 84, 85, 86, 87, 88, 89, 90, 91, 92, 93, 94, 95, 96] (by decide +kernel) (by decide +kernel)
set_option maxRecDepth 20000 in
theorem gX4_update_X4_read : GoodIn wsX4_update (wsV RX4 123 RX4 yX4_read wsX4_read) := goodIn_app (goodIn_of _ (by decide +kernel)) ggX4_update_X4_read
set_option maxRecDepth 20000 in
theorem ggX4_update_X4_write : GoodIn wsX4_update wsX4_write := goodIn_r _ [39, 17, 18, 10, 19, 40, 20, 21, 22, 41, 42, 43, 44, 23, 24, 45, 46, 47, 48, 49, 30, 26, 50, 51, 52, 53, 54, 55, 56, 57, 58, 25, 59, 60, 61, 62, 63, 64, 27, 65, 66, 67, 68, 28, 69, 70, 71, 72, 29, 31, 32, 33, 34, 73, 74, 75, 76, 77, 78, 79, 80, 81, 82, 83, 84, 85, 86, 87, 88, 89, 90, 91, 92, 93, 94, 95, 96] (by decide +kernel) (by decide +kernel)
set_option maxRecDepth 20000 in
theorem gX4_update_X4_write : GoodIn wsX4_update (wsV RX4 127 RX4 yX4_write wsX4_write) := goodIn_app (goodIn_of _ (by decide +kernel)) ggX4_update_X4_write
set_option maxRecDepth 20000 in
theorem ggX4_one_X4_fill : GoodIn wsX4_one wsX4_fill := goodIn_r _ [9, 10, 95, 96, 97, 98, 99, 100, 101, 102, 103, 104, 105, 106, 107, 108, 109, 110, 111, 112, 113, 114, 115, 116, 117, 118] (by decide +kernel) (by decide +kernel)
set_option maxRecDepth 20000 in
theorem gX4_one_X4_fill : GoodIn wsX4_one (wsV RX4 97 RX4 yX4_fill wsX4_fill) := goodIn_app (goodIn_of _ (by decide +kernel)) ggX4_one_X4_fill
set_option maxRecDepth 20000 in
theorem ggX4_one_X4_shift : GoodIn wsX4_one wsX4_shift := goodIn_r _ [14, 10, 4, 95, 96, 97, 98, 99, 100, 101, 102, 103, 104, 105, 106, 107, 108, 109, 110, 111, 112, 113, 114, 115, 116, 117, 118] (by decide +kernel) (by decide +kernel)
set_option maxRecDepth 20000 in
theorem gX4_one_X4_shift : GoodIn wsX4_one (wsV RX4 133 RX4 yX4_shift wsX4_shift) := goodIn_app (goodIn_of _ (by decide +kernel)) ggX4_one_X4_shift
set_option maxRecDepth 20000 in
theorem ggX4_one_X4_bits : GoodIn wsX4_one wsX4_bits := goodIn_r _ [18, 10, 95, 96, 97, 98, 99, 100, 101, 102, 103, 104, 105, 106, 107, 108, 109, 110, 111, 112, 113, 114, 115, 116, 117, 118] (by decide +kernel) (by decide +kernel)
set_option maxRecDepth 20000 in
theorem gX4_one_X4_bits : GoodIn wsX4_one (wsV RX4 119 RX4 yX4_bits wsX4_bits) := goodIn_app (goodIn_of _ (by decide +kernel)) ggX4_one_X4_bits
set_option maxRecDepth 20000 in
theorem ggX4_one_X4_capture : GoodIn wsX4_one wsX4_capture := goodIn_r _ [22, 3, 4, 5, 6, 7, 8, 9, 10, 23, 24, 25, 95, 96, 97, 98, 99, 100, 101, 102, 103, 104, 105, 106, 107, 108, 109, 110, 111, 112, 113, 114, 115, 116, 117, 118] (by decide +kernel) (by decide +kernel)
set_option maxRecDepth 20000 in
theorem gX4_one_X4_capture : GoodIn wsX4_one (wsV RX4 136 RX4 yX4_capture wsX4_capture) := goodIn_app (goodIn_of _ (by decide +kernel)) ggX4_one_X4_capture
set_option maxRecDepth 20000 in
theorem ggX4_one_X4_update : GoodIn wsX4_one wsX4_update := goodIn_r _ [29, 3, 10, 23, 30, 1, 31, 15, 16, 17, 8, 18, 25, 32, 33, 34, 35, 36, 37, 38, 39, 40, 41, 42, 43, 44, 45, 46, 47, 48, 49, 50, 51, 52, 53, 24, 54, 55, 56, 57, 58, 59, 60, 61, 62, 63, 64, 65, 66, 67, 68, 69, 70, 71, 72, 73, 74, 75, 76, 77, 78, 79, 80, 81, 82, 83, 84, 85, 86, 87, 88, 89, 90, 95, 96, 97, 98, 99, 100, 101, 102, 103, 104, 105, 106, 107, 108, 109, 110, 111, 112, 113, 114, 115, 116, 117, 118] (by decide +kernel) (by decide +kernel)
set_option maxRecDepth 20000 in
theorem gX4_one_X4_update : GoodIn wsX4_one (wsV RX4 139 RX4 yX4_update wsX4_update) := goodIn_app (goodIn_of _ (by decide +kernel)) ggX4_one_X4_update
set_option maxRecDepth 20000 in
theorem ggX4_one_X4_leads : GoodIn wsX4_one wsX4_leads := goodIn_r _ [94, 2, 95, 96, 97, 98, 99, 100, 101, 102, 103, 104, 105, 106, 107, 108, 109, 110, 111, 112, 113, 114, 115, 116, 117, 118] (by decide +kernel) (by decide +kernel)
set_option maxRecDepth 20000 in
theorem gX4_one_X4_leads : GoodIn wsX4_one (wsV RX4 142 RX4 yX4_leads wsX4_leads) := goodIn_app (goodIn_of _ (by decide +kernel)) ggX4_one_X4_leads
set_option maxRecDepth 20000 in
theorem ggX4_tick_X4_in : GoodIn wsX4_tick wsX4_in := goodIn_r _ [4] (by decide +kernel) (by decide +kernel)
set_option maxRecDepth 20000 in
theorem gX4_tick_X4_in : GoodIn wsX4_tick (wsS RX4 60 yX4_in wsX4_in) := goodIn_app (goodIn_of _ (by decide +kernel)) ggX4_tick_X4_in
set_option maxRecDepth 20000 in
theorem ggX4_tick_X4_one : GoodIn wsX4_tick wsX4_one := goodIn_r _ [8, 9, 10, 11, 12, 13, 14, 15, 3, 16, 17, 18, 19, 20, 21, 22, 23, 24, 25, 26, 27, 28, 29, 30, 31, 32, 33, 34, 35, 36, 37, 38, 39, 40, 41, 42, 1, 2, 4, 43, 44, 45, 46, 47, 48, 49, 50, 51, 52, 53, 54, 55, 56, 57, 58, 59, 60, 61, 62, 63, 64, 65, 66, 67, 68, 69, 70, 71, 72, 73, 74, 75, 76, 77, 78, 79, 80, 81, 82, 83, 84, 85, 86, 87, 88, 89, 90, 91, 92, 93, 94, 95, 96, 97, 98, 99, 100, 101, 102, 103, 104, 105, 106, 107, 108, 109, 110, 111, 112, 113, 114, 115, 116, 117, 118, 119, 120, 121, 122] (by decide +kernel) (by decide +kernel)
set_option maxRecDepth 20000 in
theorem gX4_tick_X4_one : GoodIn wsX4_tick (wsV RX4 146 RX4 yX4_one wsX4_one) := goodIn_app (goodIn_of _ (by decide +kernel)) ggX4_tick_X4_one
set_option maxRecDepth 20000 in
theorem ggX4_run_X4_in : GoodIn wsX4_run wsX4_in := goodIn_r _ [4] (by decide +kernel) (by decide +kernel)
set_option maxRecDepth 20000 in
theorem gX4_run_X4_in : GoodIn wsX4_run (wsS RX4 60 yX4_in wsX4_in) := goodIn_app (goodIn_of _ (by decide +kernel)) ggX4_run_X4_in
set_option maxRecDepth 20000 in
theorem ggX4_run_X4_step : GoodIn wsX4_run wsX4_step := goodIn_r _ [9, 10, 11, 12, 13, 14, 15, 16, 3, 17, 18, 19, 20, 21, 22, 23, 5, 24, 25, 26, 27, 28, 29, 30, 31, 32, 33, 34, 35, 36, 37, 38, 39, 40, 41, 42, 43, 44, 45, 46, 47, 48, 49, 50, 51, 52, 53, 54] (by decide +kernel) (by decide +kernel)
set_option maxRecDepth 20000 in
theorem gX4_run_X4_step : GoodIn wsX4_run (wsV RX4 64 RX4 yX4_step wsX4_step) := goodIn_app (goodIn_of _ (by decide +kernel)) ggX4_run_X4_step
set_option maxRecDepth 20000 in
theorem ggX4_register_X4_in : GoodIn wsX4_register wsX4_in := goodIn_r _ [4] (by decide +kernel) (by decide +kernel)
set_option maxRecDepth 20000 in
theorem gX4_register_X4_in : GoodIn wsX4_register (wsS RX4 60 yX4_in wsX4_in) := goodIn_app (goodIn_of _ (by decide +kernel)) ggX4_register_X4_in
set_option maxRecDepth 20000 in
theorem ggX4_word_X4_in : GoodIn wsX4_word wsX4_in := goodIn_r _ [4] (by decide +kernel) (by decide +kernel)
set_option maxRecDepth 20000 in
theorem gX4_word_X4_in : GoodIn wsX4_word (wsS RX4 60 yX4_in wsX4_in) := goodIn_app (goodIn_of _ (by decide +kernel)) ggX4_word_X4_in
