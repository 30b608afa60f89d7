theorem dX5_init_0 : decode cX5_init 0 = .ok (.aload_n 0, 1) := by decide +kernel
theorem dX5_init_1 : decode cX5_init 1 = .ok (.invokespecial 1, 3) := by decide +kernel
theorem dX5_init_4 : decode cX5_init 4 = .ok (.aload_n 0, 1) := by decide +kernel
theorem dX5_init_5 : decode cX5_init 5 = .ok (.sipush 2048, 3) := by decide +kernel
theorem dX5_init_8 : decode cX5_init 8 = .ok (.newarray .byte, 2) := by decide +kernel
theorem dX5_init_10 : decode cX5_init 10 = .ok (.putfield 7, 3) := by decide +kernel
theorem dX5_init_13 : decode cX5_init 13 = .ok (.aload_n 0, 1) := by decide +kernel
theorem dX5_init_14 : decode cX5_init 14 = .ok (.bipush 64, 2) := by decide +kernel
theorem dX5_init_16 : decode cX5_init 16 = .ok (.newarray .int, 2) := by decide +kernel
theorem dX5_init_18 : decode cX5_init 18 = .ok (.putfield 13, 3) := by decide +kernel
theorem dX5_init_21 : decode cX5_init 21 = .ok (.aload_n 0, 1) := by decide +kernel
theorem dX5_init_22 : decode cX5_init 22 = .ok (.sipush 2048, 3) := by decide +kernel
theorem dX5_init_25 : decode cX5_init 25 = .ok (.newarray .byte, 2) := by decide +kernel
theorem dX5_init_27 : decode cX5_init 27 = .ok (.putfield 17, 3) := by decide +kernel
theorem dX5_init_30 : decode cX5_init 30 = .ok (.aload_n 0, 1) := by decide +kernel
theorem dX5_init_31 : decode cX5_init 31 = .ok (.iconst 4, 1) := by decide +kernel
theorem dX5_init_32 : decode cX5_init 32 = .ok (.newarray .int, 2) := by decide +kernel
theorem dX5_init_34 : decode cX5_init 34 = .ok (.putfield 20, 3) := by decide +kernel
theorem dX5_init_37 : decode cX5_init 37 = .ok (.aload_n 0, 1) := by decide +kernel
theorem dX5_init_38 : decode cX5_init 38 = .ok (.iconst 4, 1) := by decide +kernel
theorem dX5_init_39 : decode cX5_init 39 = .ok (.newarray .int, 2) := by decide +kernel
theorem dX5_init_41 : decode cX5_init 41 = .ok (.putfield 23, 3) := by decide +kernel
theorem dX5_init_44 : decode cX5_init 44 = .ok (.aload_n 0, 1) := by decide +kernel
theorem dX5_init_45 : decode cX5_init 45 = .ok (.iconst 4, 1) := by decide +kernel
theorem dX5_init_46 : decode cX5_init 46 = .ok (.newarray .int, 2) := by decide +kernel
theorem dX5_init_48 : decode cX5_init 48 = .ok (.putfield 26, 3) := by decide +kernel
theorem dX5_init_51 : decode cX5_init 51 = .ok (.aload_n 0, 1) := by decide +kernel
theorem dX5_init_52 : decode cX5_init 52 = .ok (.bipush 32, 2) := by decide +kernel
theorem dX5_init_54 : decode cX5_init 54 = .ok (.newarray .int, 2) := by decide +kernel
theorem dX5_init_56 : decode cX5_init 56 = .ok (.putfield 29, 3) := by decide +kernel
theorem dX5_init_59 : decode cX5_init 59 = .ok (.aload_n 0, 1) := by decide +kernel
theorem dX5_init_60 : decode cX5_init 60 = .ok (.iconst 3, 1) := by decide +kernel
theorem dX5_init_61 : decode cX5_init 61 = .ok (.newarray .boolean, 2) := by decide +kernel
theorem dX5_init_63 : decode cX5_init 63 = .ok (.putfield 32, 3) := by decide +kernel
theorem dX5_init_66 : decode cX5_init 66 = .ok (.aload_n 0, 1) := by decide +kernel
theorem dX5_init_67 : decode cX5_init 67 = .ok (.bipush 32, 2) := by decide +kernel
theorem dX5_init_69 : decode cX5_init 69 = .ok (.newarray .int, 2) := by decide +kernel
theorem dX5_init_71 : decode cX5_init 71 = .ok (.putfield 36, 3) := by decide +kernel
theorem dX5_init_74 : decode cX5_init 74 = .ok (.aload_n 0, 1) := by decide +kernel
theorem dX5_init_75 : decode cX5_init 75 = .ok (.bipush 32, 2) := by decide +kernel
theorem dX5_init_77 : decode cX5_init 77 = .ok (.newarray .int, 2) := by decide +kernel
theorem dX5_init_79 : decode cX5_init 79 = .ok (.putfield 39, 3) := by decide +kernel
theorem dX5_init_82 : decode cX5_init 82 = .ok (.aload_n 0, 1) := by decide +kernel
theorem dX5_init_83 : decode cX5_init 83 = .ok (.bipush 32, 2) := by decide +kernel
theorem dX5_init_85 : decode cX5_init 85 = .ok (.newarray .byte, 2) := by decide +kernel
theorem dX5_init_87 : decode cX5_init 87 = .ok (.putfield 42, 3) := by decide +kernel
theorem dX5_init_90 : decode cX5_init 90 = .ok (.aload_n 0, 1) := by decide +kernel
theorem dX5_init_91 : decode cX5_init 91 = .ok (.iload_n 1, 1) := by decide +kernel
theorem dX5_init_92 : decode cX5_init 92 = .ok (.bipush 16, 2) := by decide +kernel
theorem dX5_init_94 : decode cX5_init 94 = .ok (.if_icmp .ge 8, 3) := by decide +kernel
theorem dX5_init_97 : decode cX5_init 97 = .ok (.bipush 16, 2) := by decide +kernel
theorem dX5_init_99 : decode cX5_init 99 = .ok (.goto 15, 3) := by decide +kernel
theorem dX5_init_102 : decode cX5_init 102 = .ok (.iload_n 1, 1) := by decide +kernel
theorem dX5_init_103 : decode cX5_init 103 = .ok (.bipush 64, 2) := by decide +kernel
theorem dX5_init_105 : decode cX5_init 105 = .ok (.if_icmp .le 8, 3) := by decide +kernel
theorem dX5_init_108 : decode cX5_init 108 = .ok (.bipush 64, 2) := by decide +kernel
theorem dX5_init_110 : decode cX5_init 110 = .ok (.goto 4, 3) := by decide +kernel
theorem dX5_init_113 : decode cX5_init 113 = .ok (.iload_n 1, 1) := by decide +kernel
theorem dX5_init_114 : decode cX5_init 114 = .ok (.putfield 45, 3) := by decide +kernel
theorem dX5_init_117 : decode cX5_init 117 = .ok (.aload_n 0, 1) := by decide +kernel
theorem dX5_init_118 : decode cX5_init 118 = .ok (.invokevirtual 49, 3) := by decide +kernel
theorem dX5_init_121 : decode cX5_init 121 = .ok (.return_, 1) := by decide +kernel
theorem dX5_forget_0 : decode cX5_forget 0 = .ok (.aload_n 0, 1) := by decide +kernel
theorem dX5_forget_1 : decode cX5_forget 1 = .ok (.iconst 0, 1) := by decide +kernel
theorem dX5_forget_2 : decode cX5_forget 2 = .ok (.putfield 52, 3) := by decide +kernel
theorem dX5_forget_5 : decode cX5_forget 5 = .ok (.aload_n 0, 1) := by decide +kernel
theorem dX5_forget_6 : decode cX5_forget 6 = .ok (.iconst 0, 1) := by decide +kernel
theorem dX5_forget_7 : decode cX5_forget 7 = .ok (.putfield 55, 3) := by decide +kernel
theorem dX5_forget_10 : decode cX5_forget 10 = .ok (.aload_n 0, 1) := by decide +kernel
theorem dX5_forget_11 : decode cX5_forget 11 = .ok (.iconst 0, 1) := by decide +kernel
theorem dX5_forget_12 : decode cX5_forget 12 = .ok (.putfield 58, 3) := by decide +kernel
theorem dX5_forget_15 : decode cX5_forget 15 = .ok (.iconst 0, 1) := by decide +kernel
theorem dX5_forget_16 : decode cX5_forget 16 = .ok (.istore_n 1, 1) := by decide +kernel
theorem dX5_forget_17 : decode cX5_forget 17 = .ok (.iload_n 1, 1) := by decide +kernel
theorem dX5_forget_18 : decode cX5_forget 18 = .ok (.iconst 3, 1) := by decide +kernel
theorem dX5_forget_19 : decode cX5_forget 19 = .ok (.if_icmp .ge 16, 3) := by decide +kernel
theorem dX5_forget_22 : decode cX5_forget 22 = .ok (.aload_n 0, 1) := by decide +kernel
theorem dX5_forget_23 : decode cX5_forget 23 = .ok (.getfield 32, 3) := by decide +kernel
theorem dX5_forget_26 : decode cX5_forget 26 = .ok (.iload_n 1, 1) := by decide +kernel
theorem dX5_forget_27 : decode cX5_forget 27 = .ok (.iconst 0, 1) := by decide +kernel
theorem dX5_forget_28 : decode cX5_forget 28 = .ok (.bastore, 1) := by decide +kernel
theorem dX5_forget_29 : decode cX5_forget 29 = .ok (.iinc 1 1, 3) := by decide +kernel
theorem dX5_forget_32 : decode cX5_forget 32 = .ok (.goto (-15), 3) := by decide +kernel
theorem dX5_forget_35 : decode cX5_forget 35 = .ok (.iconst 0, 1) := by decide +kernel
theorem dX5_forget_36 : decode cX5_forget 36 = .ok (.istore_n 1, 1) := by decide +kernel
theorem dX5_forget_37 : decode cX5_forget 37 = .ok (.iload_n 1, 1) := by decide +kernel
theorem dX5_forget_38 : decode cX5_forget 38 = .ok (.bipush 32, 2) := by decide +kernel
theorem dX5_forget_40 : decode cX5_forget 40 = .ok (.if_icmp .ge 23, 3) := by decide +kernel
theorem dX5_forget_43 : decode cX5_forget 43 = .ok (.aload_n 0, 1) := by decide +kernel
theorem dX5_forget_44 : decode cX5_forget 44 = .ok (.getfield 29, 3) := by decide +kernel
theorem dX5_forget_47 : decode cX5_forget 47 = .ok (.iload_n 1, 1) := by decide +kernel
theorem dX5_forget_48 : decode cX5_forget 48 = .ok (.iconst (-1), 1) := by decide +kernel
theorem dX5_forget_49 : decode cX5_forget 49 = .ok (.iastore, 1) := by decide +kernel
theorem dX5_forget_50 : decode cX5_forget 50 = .ok (.aload_n 0, 1) := by decide +kernel
theorem dX5_forget_51 : decode cX5_forget 51 = .ok (.getfield 36, 3) := by decide +kernel
theorem dX5_forget_54 : decode cX5_forget 54 = .ok (.iload_n 1, 1) := by decide +kernel
theorem dX5_forget_55 : decode cX5_forget 55 = .ok (.iconst (-1), 1) := by decide +kernel
theorem dX5_forget_56 : decode cX5_forget 56 = .ok (.iastore, 1) := by decide +kernel
theorem dX5_forget_57 : decode cX5_forget 57 = .ok (.iinc 1 1, 3) := by decide +kernel
theorem dX5_forget_60 : decode cX5_forget 60 = .ok (.goto (-23), 3) := by decide +kernel
theorem dX5_forget_63 : decode cX5_forget 63 = .ok (.return_, 1) := by decide +kernel
theorem dX5_begin0_0 : decode cX5_begin0 0 = .ok (.aload_n 0, 1) := by decide +kernel
theorem dX5_begin0_1 : decode cX5_begin0 1 = .ok (.invokevirtual 61, 3) := by decide +kernel
theorem dX5_begin0_4 : decode cX5_begin0 4 = .ok (.aload_n 0, 1) := by decide +kernel
theorem dX5_begin0_5 : decode cX5_begin0 5 = .ok (.iconst 0, 1) := by decide +kernel
theorem dX5_begin0_6 : decode cX5_begin0 6 = .ok (.putfield 64, 3) := by decide +kernel
theorem dX5_begin0_9 : decode cX5_begin0 9 = .ok (.iconst 0, 1) := by decide +kernel
theorem dX5_begin0_10 : decode cX5_begin0 10 = .ok (.istore_n 1, 1) := by decide +kernel
theorem dX5_begin0_11 : decode cX5_begin0 11 = .ok (.iload_n 1, 1) := by decide +kernel
theorem dX5_begin0_12 : decode cX5_begin0 12 = .ok (.bipush 32, 2) := by decide +kernel
theorem dX5_begin0_14 : decode cX5_begin0 14 = .ok (.aload_n 0, 1) := by decide +kernel
theorem dX5_begin0_15 : decode cX5_begin0 15 = .ok (.getfield 45, 3) := by decide +kernel
theorem dX5_begin0_18 : decode cX5_begin0 18 = .ok (.imul, 1) := by decide +kernel
theorem dX5_begin0_19 : decode cX5_begin0 19 = .ok (.if_icmp .ge 16, 3) := by decide +kernel
theorem dX5_begin0_22 : decode cX5_begin0 22 = .ok (.aload_n 0, 1) := by decide +kernel
theorem dX5_begin0_23 : decode cX5_begin0 23 = .ok (.getfield 7, 3) := by decide +kernel
theorem dX5_begin0_26 : decode cX5_begin0 26 = .ok (.iload_n 1, 1) := by decide +kernel
theorem dX5_begin0_27 : decode cX5_begin0 27 = .ok (.iconst 0, 1) := by decide +kernel
theorem dX5_begin0_28 : decode cX5_begin0 28 = .ok (.bastore, 1) := by decide +kernel
theorem dX5_begin0_29 : decode cX5_begin0 29 = .ok (.iinc 1 1, 3) := by decide +kernel
theorem dX5_begin0_32 : decode cX5_begin0 32 = .ok (.goto (-21), 3) := by decide +kernel
theorem dX5_begin0_35 : decode cX5_begin0 35 = .ok (.aload_n 0, 1) := by decide +kernel
theorem dX5_begin0_36 : decode cX5_begin0 36 = .ok (.iconst 0, 1) := by decide +kernel
theorem dX5_begin0_37 : decode cX5_begin0 37 = .ok (.putfield 68, 3) := by decide +kernel
theorem dX5_begin0_40 : decode cX5_begin0 40 = .ok (.aload_n 0, 1) := by decide +kernel
theorem dX5_begin0_41 : decode cX5_begin0 41 = .ok (.iconst 1, 1) := by decide +kernel
theorem dX5_begin0_42 : decode cX5_begin0 42 = .ok (.putfield 71, 3) := by decide +kernel
theorem dX5_begin0_45 : decode cX5_begin0 45 = .ok (.aload_n 0, 1) := by decide +kernel
theorem dX5_begin0_46 : decode cX5_begin0 46 = .ok (.iconst 1, 1) := by decide +kernel
theorem dX5_begin0_47 : decode cX5_begin0 47 = .ok (.putfield 74, 3) := by decide +kernel
theorem dX5_begin0_50 : decode cX5_begin0 50 = .ok (.aload_n 0, 1) := by decide +kernel
theorem dX5_begin0_51 : decode cX5_begin0 51 = .ok (.iconst 1, 1) := by decide +kernel
theorem dX5_begin0_52 : decode cX5_begin0 52 = .ok (.putfield 77, 3) := by decide +kernel
theorem dX5_begin0_55 : decode cX5_begin0 55 = .ok (.aload_n 0, 1) := by decide +kernel
theorem dX5_begin0_56 : decode cX5_begin0 56 = .ok (.iconst 2, 1) := by decide +kernel
theorem dX5_begin0_57 : decode cX5_begin0 57 = .ok (.iconst 1, 1) := by decide +kernel
theorem dX5_begin0_58 : decode cX5_begin0 58 = .ok (.invokevirtual 80, 3) := by decide +kernel
theorem dX5_begin0_61 : decode cX5_begin0 61 = .ok (.aload_n 0, 1) := by decide +kernel
theorem dX5_begin0_62 : decode cX5_begin0 62 = .ok (.getfield 42, 3) := by decide +kernel
theorem dX5_begin0_65 : decode cX5_begin0 65 = .ok (.bipush 27, 2) := by decide +kernel
theorem dX5_begin0_67 : decode cX5_begin0 67 = .ok (.iconst 1, 1) := by decide +kernel
theorem dX5_begin0_68 : decode cX5_begin0 68 = .ok (.bastore, 1) := by decide +kernel
theorem dX5_begin0_69 : decode cX5_begin0 69 = .ok (.aload_n 0, 1) := by decide +kernel
theorem dX5_begin0_70 : decode cX5_begin0 70 = .ok (.iconst 0, 1) := by decide +kernel
theorem dX5_begin0_71 : decode cX5_begin0 71 = .ok (.invokevirtual 84, 3) := by decide +kernel
theorem dX5_begin0_74 : decode cX5_begin0 74 = .ok (.iconst 0, 1) := by decide +kernel
theorem dX5_begin0_75 : decode cX5_begin0 75 = .ok (.istore_n 1, 1) := by decide +kernel
theorem dX5_begin0_76 : decode cX5_begin0 76 = .ok (.iload_n 1, 1) := by decide +kernel
theorem dX5_begin0_77 : decode cX5_begin0 77 = .ok (.bipush 32, 2) := by decide +kernel
theorem dX5_begin0_79 : decode cX5_begin0 79 = .ok (.if_icmp .ge 21, 3) := by decide +kernel
theorem dX5_begin0_82 : decode cX5_begin0 82 = .ok (.aload_n 0, 1) := by decide +kernel
theorem dX5_begin0_83 : decode cX5_begin0 83 = .ok (.getfield 7, 3) := by decide +kernel
theorem dX5_begin0_86 : decode cX5_begin0 86 = .ok (.iload_n 1, 1) := by decide +kernel
theorem dX5_begin0_87 : decode cX5_begin0 87 = .ok (.aload_n 0, 1) := by decide +kernel
theorem dX5_begin0_88 : decode cX5_begin0 88 = .ok (.getfield 42, 3) := by decide +kernel
theorem dX5_begin0_91 : decode cX5_begin0 91 = .ok (.iload_n 1, 1) := by decide +kernel
theorem dX5_begin0_92 : decode cX5_begin0 92 = .ok (.baload, 1) := by decide +kernel
theorem dX5_begin0_93 : decode cX5_begin0 93 = .ok (.bastore, 1) := by decide +kernel
theorem dX5_begin0_94 : decode cX5_begin0 94 = .ok (.iinc 1 1, 3) := by decide +kernel
theorem dX5_begin0_97 : decode cX5_begin0 97 = .ok (.goto (-21), 3) := by decide +kernel
theorem dX5_begin0_100 : decode cX5_begin0 100 = .ok (.return_, 1) := by decide +kernel
theorem dX5_isIn_0 : decode cX5_isIn 0 = .ok (.iload_n 0, 1) := by decide +kernel
theorem dX5_isIn_1 : decode cX5_isIn 1 = .ok (.iload_n 1, 1) := by decide +kernel
theorem dX5_isIn_2 : decode cX5_isIn 2 = .ok (.if_icmp .lt 12, 3) := by decide +kernel
theorem dX5_isIn_5 : decode cX5_isIn 5 = .ok (.iload_n 0, 1) := by decide +kernel
theorem dX5_isIn_6 : decode cX5_isIn 6 = .ok (.iload_n 2, 1) := by decide +kernel
theorem dX5_isIn_7 : decode cX5_isIn 7 = .ok (.if_icmp .gt 7, 3) := by decide +kernel
theorem dX5_isIn_10 : decode cX5_isIn 10 = .ok (.iconst 1, 1) := by decide +kernel
theorem dX5_isIn_11 : decode cX5_isIn 11 = .ok (.goto 4, 3) := by decide +kernel
theorem dX5_isIn_14 : decode cX5_isIn 14 = .ok (.iconst 0, 1) := by decide +kernel
theorem dX5_isIn_15 : decode cX5_isIn 15 = .ok (.ireturn, 1) := by decide +kernel
theorem dX5_clearRow_0 : decode cX5_clearRow 0 = .ok (.iconst 0, 1) := by decide +kernel
theorem dX5_clearRow_1 : decode cX5_clearRow 1 = .ok (.istore_n 3, 1) := by decide +kernel
theorem dX5_clearRow_2 : decode cX5_clearRow 2 = .ok (.iload_n 3, 1) := by decide +kernel
theorem dX5_clearRow_3 : decode cX5_clearRow 3 = .ok (.bipush 32, 2) := by decide +kernel
theorem dX5_clearRow_5 : decode cX5_clearRow 5 = .ok (.if_icmp .ge 16, 3) := by decide +kernel
theorem dX5_clearRow_8 : decode cX5_clearRow 8 = .ok (.aload_n 0, 1) := by decide +kernel
theorem dX5_clearRow_9 : decode cX5_clearRow 9 = .ok (.getfield 42, 3) := by decide +kernel
theorem dX5_clearRow_12 : decode cX5_clearRow 12 = .ok (.iload_n 3, 1) := by decide +kernel
theorem dX5_clearRow_13 : decode cX5_clearRow 13 = .ok (.iconst 0, 1) := by decide +kernel
theorem dX5_clearRow_14 : decode cX5_clearRow 14 = .ok (.bastore, 1) := by decide +kernel
theorem dX5_clearRow_15 : decode cX5_clearRow 15 = .ok (.iinc 3 1, 3) := by decide +kernel
theorem dX5_clearRow_18 : decode cX5_clearRow 18 = .ok (.goto (-16), 3) := by decide +kernel
theorem dX5_clearRow_21 : decode cX5_clearRow 21 = .ok (.aload_n 0, 1) := by decide +kernel
theorem dX5_clearRow_22 : decode cX5_clearRow 22 = .ok (.getfield 42, 3) := by decide +kernel
theorem dX5_clearRow_25 : decode cX5_clearRow 25 = .ok (.iconst 0, 1) := by decide +kernel
theorem dX5_clearRow_26 : decode cX5_clearRow 26 = .ok (.iload_n 1, 1) := by decide +kernel
theorem dX5_clearRow_27 : decode cX5_clearRow 27 = .ok (.i2b, 1) := by decide +kernel
theorem dX5_clearRow_28 : decode cX5_clearRow 28 = .ok (.bastore, 1) := by decide +kernel
theorem dX5_clearRow_29 : decode cX5_clearRow 29 = .ok (.aload_n 0, 1) := by decide +kernel
theorem dX5_clearRow_30 : decode cX5_clearRow 30 = .ok (.iconst 1, 1) := by decide +kernel
theorem dX5_clearRow_31 : decode cX5_clearRow 31 = .ok (.iload_n 2, 1) := by decide +kernel
theorem dX5_clearRow_32 : decode cX5_clearRow 32 = .ok (.iconst 4, 1) := by decide +kernel
theorem dX5_clearRow_33 : decode cX5_clearRow 33 = .ok (.invokevirtual 88, 3) := by decide +kernel
theorem dX5_clearRow_36 : decode cX5_clearRow 36 = .ok (.return_, 1) := by decide +kernel
theorem dX5_number_0 : decode cX5_number 0 = .ok (.iconst 0, 1) := by decide +kernel
theorem dX5_number_1 : decode cX5_number 1 = .ok (.istore 4, 2) := by decide +kernel
theorem dX5_number_3 : decode cX5_number 3 = .ok (.iload 4, 2) := by decide +kernel
theorem dX5_number_5 : decode cX5_number 5 = .ok (.iload_n 3, 1) := by decide +kernel
theorem dX5_number_6 : decode cX5_number 6 = .ok (.if_icmp .ge 30, 3) := by decide +kernel
theorem dX5_number_9 : decode cX5_number 9 = .ok (.aload_n 0, 1) := by decide +kernel
theorem dX5_number_10 : decode cX5_number 10 = .ok (.getfield 42, 3) := by decide +kernel
theorem dX5_number_13 : decode cX5_number 13 = .ok (.iload_n 1, 1) := by decide +kernel
theorem dX5_number_14 : decode cX5_number 14 = .ok (.iload 4, 2) := by decide +kernel
theorem dX5_number_16 : decode cX5_number 16 = .ok (.iadd, 1) := by decide +kernel
theorem dX5_number_17 : decode cX5_number 17 = .ok (.iload_n 2, 1) := by decide +kernel
theorem dX5_number_18 : decode cX5_number 18 = .ok (.bipush 8, 2) := by decide +kernel
theorem dX5_number_20 : decode cX5_number 20 = .ok (.iload_n 3, 1) := by decide +kernel
theorem dX5_number_21 : decode cX5_number 21 = .ok (.iconst 1, 1) := by decide +kernel
theorem dX5_number_22 : decode cX5_number 22 = .ok (.isub, 1) := by decide +kernel
theorem dX5_number_23 : decode cX5_number 23 = .ok (.iload 4, 2) := by decide +kernel
theorem dX5_number_25 : decode cX5_number 25 = .ok (.isub, 1) := by decide +kernel
theorem dX5_number_26 : decode cX5_number 26 = .ok (.imul, 1) := by decide +kernel
theorem dX5_number_27 : decode cX5_number 27 = .ok (.ishr, 1) := by decide +kernel
theorem dX5_number_28 : decode cX5_number 28 = .ok (.i2b, 1) := by decide +kernel
theorem dX5_number_29 : decode cX5_number 29 = .ok (.bastore, 1) := by decide +kernel
theorem dX5_number_30 : decode cX5_number 30 = .ok (.iinc 4 1, 3) := by decide +kernel
theorem dX5_number_33 : decode cX5_number 33 = .ok (.goto (-30), 3) := by decide +kernel
theorem dX5_number_36 : decode cX5_number 36 = .ok (.return_, 1) := by decide +kernel
theorem dX5_step_0 : decode cX5_step 0 = .ok (.iload_n 0, 1) := by decide +kernel
theorem dX5_step_1 : decode cX5_step 1 = .ok (.iload_n 1, 1) := by decide +kernel
theorem dX5_step_2 : decode cX5_step 2 = .ok (.ixor, 1) := by decide +kernel
theorem dX5_step_3 : decode cX5_step 3 = .ok (.istore_n 2, 1) := by decide +kernel
theorem dX5_step_4 : decode cX5_step 4 = .ok (.iload_n 2, 1) := by decide +kernel
theorem dX5_step_5 : decode cX5_step 5 = .ok (.bipush 11, 2) := by decide +kernel
theorem dX5_step_7 : decode cX5_step 7 = .ok (.ishl, 1) := by decide +kernel
theorem dX5_step_8 : decode cX5_step 8 = .ok (.iload_n 2, 1) := by decide +kernel
theorem dX5_step_9 : decode cX5_step 9 = .ok (.bipush 21, 2) := by decide +kernel
theorem dX5_step_11 : decode cX5_step 11 = .ok (.iushr, 1) := by decide +kernel
theorem dX5_step_12 : decode cX5_step 12 = .ok (.ior, 1) := by decide +kernel
theorem dX5_step_13 : decode cX5_step 13 = .ok (.ldc 92, 2) := by decide +kernel
theorem dX5_step_15 : decode cX5_step 15 = .ok (.imul, 1) := by decide +kernel
theorem dX5_step_16 : decode cX5_step 16 = .ok (.ireturn, 1) := by decide +kernel
theorem dX5_seal_0 : decode cX5_seal 0 = .ok (.iload_n 1, 1) := by decide +kernel
theorem dX5_seal_1 : decode cX5_seal 1 = .ok (.iconst 1, 1) := by decide +kernel
theorem dX5_seal_2 : decode cX5_seal 2 = .ok (.iadd, 1) := by decide +kernel
theorem dX5_seal_3 : decode cX5_seal 3 = .ok (.istore_n 2, 1) := by decide +kernel
theorem dX5_seal_4 : decode cX5_seal 4 = .ok (.iconst 0, 1) := by decide +kernel
theorem dX5_seal_5 : decode cX5_seal 5 = .ok (.istore_n 3, 1) := by decide +kernel
theorem dX5_seal_6 : decode cX5_seal 6 = .ok (.iload_n 3, 1) := by decide +kernel
theorem dX5_seal_7 : decode cX5_seal 7 = .ok (.bipush 28, 2) := by decide +kernel
theorem dX5_seal_9 : decode cX5_seal 9 = .ok (.if_icmp .ge 24, 3) := by decide +kernel
theorem dX5_seal_12 : decode cX5_seal 12 = .ok (.iload_n 2, 1) := by decide +kernel
theorem dX5_seal_13 : decode cX5_seal 13 = .ok (.aload_n 0, 1) := by decide +kernel
theorem dX5_seal_14 : decode cX5_seal 14 = .ok (.getfield 42, 3) := by decide +kernel
theorem dX5_seal_17 : decode cX5_seal 17 = .ok (.iload_n 3, 1) := by decide +kernel
theorem dX5_seal_18 : decode cX5_seal 18 = .ok (.baload, 1) := by decide +kernel
theorem dX5_seal_19 : decode cX5_seal 19 = .ok (.sipush 255, 3) := by decide +kernel
theorem dX5_seal_22 : decode cX5_seal 22 = .ok (.iand, 1) := by decide +kernel
theorem dX5_seal_23 : decode cX5_seal 23 = .ok (.invokestatic 93, 3) := by decide +kernel
theorem dX5_seal_26 : decode cX5_seal 26 = .ok (.istore_n 2, 1) := by decide +kernel
theorem dX5_seal_27 : decode cX5_seal 27 = .ok (.iinc 3 1, 3) := by decide +kernel
theorem dX5_seal_30 : decode cX5_seal 30 = .ok (.goto (-24), 3) := by decide +kernel
theorem dX5_seal_33 : decode cX5_seal 33 = .ok (.aload_n 0, 1) := by decide +kernel
theorem dX5_seal_34 : decode cX5_seal 34 = .ok (.bipush 28, 2) := by decide +kernel
theorem dX5_seal_36 : decode cX5_seal 36 = .ok (.iload_n 2, 1) := by decide +kernel
theorem dX5_seal_37 : decode cX5_seal 37 = .ok (.iconst 4, 1) := by decide +kernel
theorem dX5_seal_38 : decode cX5_seal 38 = .ok (.invokevirtual 88, 3) := by decide +kernel
theorem dX5_seal_41 : decode cX5_seal 41 = .ok (.return_, 1) := by decide +kernel
theorem dX5_needed_0 : decode cX5_needed 0 = .ok (.aload_n 0, 1) := by decide +kernel
theorem dX5_needed_1 : decode cX5_needed 1 = .ok (.getfield 71, 3) := by decide +kernel
theorem dX5_needed_4 : decode cX5_needed 4 = .ok (.aload_n 0, 1) := by decide +kernel
theorem dX5_needed_5 : decode cX5_needed 5 = .ok (.getfield 77, 3) := by decide +kernel
theorem dX5_needed_8 : decode cX5_needed 8 = .ok (.isub, 1) := by decide +kernel
theorem dX5_needed_9 : decode cX5_needed 9 = .ok (.iconst 1, 1) := by decide +kernel
theorem dX5_needed_10 : decode cX5_needed 10 = .ok (.iadd, 1) := by decide +kernel
theorem dX5_needed_11 : decode cX5_needed 11 = .ok (.ireturn, 1) := by decide +kernel
theorem dX5_mayWrite_0 : decode cX5_mayWrite 0 = .ok (.aload_n 0, 1) := by decide +kernel
theorem dX5_mayWrite_1 : decode cX5_mayWrite 1 = .ok (.invokevirtual 97, 3) := by decide +kernel
theorem dX5_mayWrite_4 : decode cX5_mayWrite 4 = .ok (.iload_n 1, 1) := by decide +kernel
theorem dX5_mayWrite_5 : decode cX5_mayWrite 5 = .ok (.iadd, 1) := by decide +kernel
theorem dX5_mayWrite_6 : decode cX5_mayWrite 6 = .ok (.aload_n 0, 1) := by decide +kernel
theorem dX5_mayWrite_7 : decode cX5_mayWrite 7 = .ok (.getfield 45, 3) := by decide +kernel
theorem dX5_mayWrite_10 : decode cX5_mayWrite 10 = .ok (.if_icmp .gt 7, 3) := by decide +kernel
theorem dX5_mayWrite_13 : decode cX5_mayWrite 13 = .ok (.iconst 1, 1) := by decide +kernel
theorem dX5_mayWrite_14 : decode cX5_mayWrite 14 = .ok (.goto 4, 3) := by decide +kernel
theorem dX5_mayWrite_17 : decode cX5_mayWrite 17 = .ok (.iconst 0, 1) := by decide +kernel
theorem dX5_mayWrite_18 : decode cX5_mayWrite 18 = .ok (.ireturn, 1) := by decide +kernel
theorem dX5_write_0 : decode cX5_write 0 = .ok (.aload_n 0, 1) := by decide +kernel
theorem dX5_write_1 : decode cX5_write 1 = .ok (.aload_n 0, 1) := by decide +kernel
theorem dX5_write_2 : decode cX5_write 2 = .ok (.getfield 68, 3) := by decide +kernel
theorem dX5_write_5 : decode cX5_write 5 = .ok (.iconst 1, 1) := by decide +kernel
theorem dX5_write_6 : decode cX5_write 6 = .ok (.iadd, 1) := by decide +kernel
theorem dX5_write_7 : decode cX5_write 7 = .ok (.aload_n 0, 1) := by decide +kernel
theorem dX5_write_8 : decode cX5_write 8 = .ok (.getfield 45, 3) := by decide +kernel
theorem dX5_write_11 : decode cX5_write 11 = .ok (.irem, 1) := by decide +kernel
theorem dX5_write_12 : decode cX5_write 12 = .ok (.putfield 68, 3) := by decide +kernel
theorem dX5_write_15 : decode cX5_write 15 = .ok (.aload_n 0, 1) := by decide +kernel
theorem dX5_write_16 : decode cX5_write 16 = .ok (.aload_n 0, 1) := by decide +kernel
theorem dX5_write_17 : decode cX5_write 17 = .ok (.getfield 68, 3) := by decide +kernel
theorem dX5_write_20 : decode cX5_write 20 = .ok (.invokevirtual 84, 3) := by decide +kernel
theorem dX5_write_23 : decode cX5_write 23 = .ok (.aload_n 0, 1) := by decide +kernel
theorem dX5_write_24 : decode cX5_write 24 = .ok (.getfield 13, 3) := by decide +kernel
theorem dX5_write_27 : decode cX5_write 27 = .ok (.aload_n 0, 1) := by decide +kernel
theorem dX5_write_28 : decode cX5_write 28 = .ok (.getfield 52, 3) := by decide +kernel
theorem dX5_write_31 : decode cX5_write 31 = .ok (.aload_n 0, 1) := by decide +kernel
theorem dX5_write_32 : decode cX5_write 32 = .ok (.getfield 68, 3) := by decide +kernel
theorem dX5_write_35 : decode cX5_write 35 = .ok (.iastore, 1) := by decide +kernel
theorem dX5_write_36 : decode cX5_write 36 = .ok (.iconst 0, 1) := by decide +kernel
theorem dX5_write_37 : decode cX5_write 37 = .ok (.istore_n 1, 1) := by decide +kernel
theorem dX5_write_38 : decode cX5_write 38 = .ok (.iload_n 1, 1) := by decide +kernel
theorem dX5_write_39 : decode cX5_write 39 = .ok (.bipush 32, 2) := by decide +kernel
theorem dX5_write_41 : decode cX5_write 41 = .ok (.if_icmp .ge 29, 3) := by decide +kernel
theorem dX5_write_44 : decode cX5_write 44 = .ok (.aload_n 0, 1) := by decide +kernel
theorem dX5_write_45 : decode cX5_write 45 = .ok (.getfield 17, 3) := by decide +kernel
theorem dX5_write_48 : decode cX5_write 48 = .ok (.bipush 32, 2) := by decide +kernel
theorem dX5_write_50 : decode cX5_write 50 = .ok (.aload_n 0, 1) := by decide +kernel
theorem dX5_write_51 : decode cX5_write 51 = .ok (.getfield 52, 3) := by decide +kernel
theorem dX5_write_54 : decode cX5_write 54 = .ok (.imul, 1) := by decide +kernel
theorem dX5_write_55 : decode cX5_write 55 = .ok (.iload_n 1, 1) := by decide +kernel
theorem dX5_write_56 : decode cX5_write 56 = .ok (.iadd, 1) := by decide +kernel
theorem dX5_write_57 : decode cX5_write 57 = .ok (.aload_n 0, 1) := by decide +kernel
theorem dX5_write_58 : decode cX5_write 58 = .ok (.getfield 42, 3) := by decide +kernel
theorem dX5_write_61 : decode cX5_write 61 = .ok (.iload_n 1, 1) := by decide +kernel
theorem dX5_write_62 : decode cX5_write 62 = .ok (.baload, 1) := by decide +kernel
theorem dX5_write_63 : decode cX5_write 63 = .ok (.bastore, 1) := by decide +kernel
theorem dX5_write_64 : decode cX5_write 64 = .ok (.iinc 1 1, 3) := by decide +kernel
theorem dX5_write_67 : decode cX5_write 67 = .ok (.goto (-29), 3) := by decide +kernel
theorem dX5_write_70 : decode cX5_write 70 = .ok (.aload_n 0, 1) := by decide +kernel
theorem dX5_write_71 : decode cX5_write 71 = .ok (.dup, 1) := by decide +kernel
theorem dX5_write_72 : decode cX5_write 72 = .ok (.getfield 52, 3) := by decide +kernel
theorem dX5_write_75 : decode cX5_write 75 = .ok (.iconst 1, 1) := by decide +kernel
theorem dX5_write_76 : decode cX5_write 76 = .ok (.iadd, 1) := by decide +kernel
theorem dX5_write_77 : decode cX5_write 77 = .ok (.putfield 52, 3) := by decide +kernel
theorem dX5_write_80 : decode cX5_write 80 = .ok (.aload_n 0, 1) := by decide +kernel
theorem dX5_write_81 : decode cX5_write 81 = .ok (.dup, 1) := by decide +kernel
theorem dX5_write_82 : decode cX5_write 82 = .ok (.getfield 71, 3) := by decide +kernel
theorem dX5_write_85 : decode cX5_write 85 = .ok (.iconst 1, 1) := by decide +kernel
theorem dX5_write_86 : decode cX5_write 86 = .ok (.iadd, 1) := by decide +kernel
theorem dX5_write_87 : decode cX5_write 87 = .ok (.putfield 71, 3) := by decide +kernel
theorem dX5_write_90 : decode cX5_write 90 = .ok (.return_, 1) := by decide +kernel
theorem dX5_writeEntries_0 : decode cX5_writeEntries 0 = .ok (.aload_n 0, 1) := by decide +kernel
theorem dX5_writeEntries_1 : decode cX5_writeEntries 1 = .ok (.iconst 1, 1) := by decide +kernel
theorem dX5_writeEntries_2 : decode cX5_writeEntries 2 = .ok (.aload_n 0, 1) := by decide +kernel
theorem dX5_writeEntries_3 : decode cX5_writeEntries 3 = .ok (.getfield 71, 3) := by decide +kernel
theorem dX5_writeEntries_6 : decode cX5_writeEntries 6 = .ok (.iconst 1, 1) := by decide +kernel
theorem dX5_writeEntries_7 : decode cX5_writeEntries 7 = .ok (.iadd, 1) := by decide +kernel
theorem dX5_writeEntries_8 : decode cX5_writeEntries 8 = .ok (.invokevirtual 80, 3) := by decide +kernel
theorem dX5_writeEntries_11 : decode cX5_writeEntries 11 = .ok (.aload_n 0, 1) := by decide +kernel
theorem dX5_writeEntries_12 : decode cX5_writeEntries 12 = .ok (.getfield 42, 3) := by decide +kernel
theorem dX5_writeEntries_15 : decode cX5_writeEntries 15 = .ok (.iconst 5, 1) := by decide +kernel
theorem dX5_writeEntries_16 : decode cX5_writeEntries 16 = .ok (.aload_n 0, 1) := by decide +kernel
theorem dX5_writeEntries_17 : decode cX5_writeEntries 17 = .ok (.getfield 55, 3) := by decide +kernel
theorem dX5_writeEntries_20 : decode cX5_writeEntries 20 = .ok (.i2b, 1) := by decide +kernel
theorem dX5_writeEntries_21 : decode cX5_writeEntries 21 = .ok (.bastore, 1) := by decide +kernel
theorem dX5_writeEntries_22 : decode cX5_writeEntries 22 = .ok (.iconst 0, 1) := by decide +kernel
theorem dX5_writeEntries_23 : decode cX5_writeEntries 23 = .ok (.istore_n 1, 1) := by decide +kernel
theorem dX5_writeEntries_24 : decode cX5_writeEntries 24 = .ok (.iload_n 1, 1) := by decide +kernel
theorem dX5_writeEntries_25 : decode cX5_writeEntries 25 = .ok (.aload_n 0, 1) := by decide +kernel
theorem dX5_writeEntries_26 : decode cX5_writeEntries 26 = .ok (.getfield 55, 3) := by decide +kernel
theorem dX5_writeEntries_29 : decode cX5_writeEntries 29 = .ok (.if_icmp .ge 62, 3) := by decide +kernel
theorem dX5_writeEntries_32 : decode cX5_writeEntries 32 = .ok (.aload_n 0, 1) := by decide +kernel
theorem dX5_writeEntries_33 : decode cX5_writeEntries 33 = .ok (.getfield 42, 3) := by decide +kernel
theorem dX5_writeEntries_36 : decode cX5_writeEntries 36 = .ok (.bipush 6, 2) := by decide +kernel
theorem dX5_writeEntries_38 : decode cX5_writeEntries 38 = .ok (.iconst 5, 1) := by decide +kernel
theorem dX5_writeEntries_39 : decode cX5_writeEntries 39 = .ok (.iload_n 1, 1) := by decide +kernel
theorem dX5_writeEntries_40 : decode cX5_writeEntries 40 = .ok (.imul, 1) := by decide +kernel
theorem dX5_writeEntries_41 : decode cX5_writeEntries 41 = .ok (.iadd, 1) := by decide +kernel
theorem dX5_writeEntries_42 : decode cX5_writeEntries 42 = .ok (.aload_n 0, 1) := by decide +kernel
theorem dX5_writeEntries_43 : decode cX5_writeEntries 43 = .ok (.getfield 20, 3) := by decide +kernel
theorem dX5_writeEntries_46 : decode cX5_writeEntries 46 = .ok (.iload_n 1, 1) := by decide +kernel
theorem dX5_writeEntries_47 : decode cX5_writeEntries 47 = .ok (.iaload, 1) := by decide +kernel
theorem dX5_writeEntries_48 : decode cX5_writeEntries 48 = .ok (.i2b, 1) := by decide +kernel
theorem dX5_writeEntries_49 : decode cX5_writeEntries 49 = .ok (.bastore, 1) := by decide +kernel
theorem dX5_writeEntries_50 : decode cX5_writeEntries 50 = .ok (.aload_n 0, 1) := by decide +kernel
theorem dX5_writeEntries_51 : decode cX5_writeEntries 51 = .ok (.getfield 42, 3) := by decide +kernel
theorem dX5_writeEntries_54 : decode cX5_writeEntries 54 = .ok (.bipush 7, 2) := by decide +kernel
theorem dX5_writeEntries_56 : decode cX5_writeEntries 56 = .ok (.iconst 5, 1) := by decide +kernel
theorem dX5_writeEntries_57 : decode cX5_writeEntries 57 = .ok (.iload_n 1, 1) := by decide +kernel
theorem dX5_writeEntries_58 : decode cX5_writeEntries 58 = .ok (.imul, 1) := by decide +kernel
theorem dX5_writeEntries_59 : decode cX5_writeEntries 59 = .ok (.iadd, 1) := by decide +kernel
theorem dX5_writeEntries_60 : decode cX5_writeEntries 60 = .ok (.aload_n 0, 1) := by decide +kernel
theorem dX5_writeEntries_61 : decode cX5_writeEntries 61 = .ok (.getfield 23, 3) := by decide +kernel
theorem dX5_writeEntries_64 : decode cX5_writeEntries 64 = .ok (.iload_n 1, 1) := by decide +kernel
theorem dX5_writeEntries_65 : decode cX5_writeEntries 65 = .ok (.iaload, 1) := by decide +kernel
theorem dX5_writeEntries_66 : decode cX5_writeEntries 66 = .ok (.i2b, 1) := by decide +kernel
theorem dX5_writeEntries_67 : decode cX5_writeEntries 67 = .ok (.bastore, 1) := by decide +kernel
theorem dX5_writeEntries_68 : decode cX5_writeEntries 68 = .ok (.aload_n 0, 1) := by decide +kernel
theorem dX5_writeEntries_69 : decode cX5_writeEntries 69 = .ok (.bipush 8, 2) := by decide +kernel
theorem dX5_writeEntries_71 : decode cX5_writeEntries 71 = .ok (.iconst 5, 1) := by decide +kernel
theorem dX5_writeEntries_72 : decode cX5_writeEntries 72 = .ok (.iload_n 1, 1) := by decide +kernel
theorem dX5_writeEntries_73 : decode cX5_writeEntries 73 = .ok (.imul, 1) := by decide +kernel
theorem dX5_writeEntries_74 : decode cX5_writeEntries 74 = .ok (.iadd, 1) := by decide +kernel
theorem dX5_writeEntries_75 : decode cX5_writeEntries 75 = .ok (.aload_n 0, 1) := by decide +kernel
theorem dX5_writeEntries_76 : decode cX5_writeEntries 76 = .ok (.getfield 26, 3) := by decide +kernel
theorem dX5_writeEntries_79 : decode cX5_writeEntries 79 = .ok (.iload_n 1, 1) := by decide +kernel
theorem dX5_writeEntries_80 : decode cX5_writeEntries 80 = .ok (.iaload, 1) := by decide +kernel
theorem dX5_writeEntries_81 : decode cX5_writeEntries 81 = .ok (.iconst 3, 1) := by decide +kernel
theorem dX5_writeEntries_82 : decode cX5_writeEntries 82 = .ok (.invokevirtual 88, 3) := by decide +kernel
theorem dX5_writeEntries_85 : decode cX5_writeEntries 85 = .ok (.iinc 1 1, 3) := by decide +kernel
theorem dX5_writeEntries_88 : decode cX5_writeEntries 88 = .ok (.goto (-64), 3) := by decide +kernel
theorem dX5_writeEntries_91 : decode cX5_writeEntries 91 = .ok (.aload_n 0, 1) := by decide +kernel
theorem dX5_writeEntries_92 : decode cX5_writeEntries 92 = .ok (.invokevirtual 101, 3) := by decide +kernel
theorem dX5_writeEntries_95 : decode cX5_writeEntries 95 = .ok (.aload_n 0, 1) := by decide +kernel
theorem dX5_writeEntries_96 : decode cX5_writeEntries 96 = .ok (.iconst 0, 1) := by decide +kernel
theorem dX5_writeEntries_97 : decode cX5_writeEntries 97 = .ok (.putfield 55, 3) := by decide +kernel
theorem dX5_writeEntries_100 : decode cX5_writeEntries 100 = .ok (.return_, 1) := by decide +kernel
theorem dX5_add_0 : decode cX5_add 0 = .ok (.aload_n 0, 1) := by decide +kernel
theorem dX5_add_1 : decode cX5_add 1 = .ok (.getfield 20, 3) := by decide +kernel
theorem dX5_add_4 : decode cX5_add 4 = .ok (.aload_n 0, 1) := by decide +kernel
theorem dX5_add_5 : decode cX5_add 5 = .ok (.getfield 55, 3) := by decide +kernel
theorem dX5_add_8 : decode cX5_add 8 = .ok (.iload_n 1, 1) := by decide +kernel
theorem dX5_add_9 : decode cX5_add 9 = .ok (.iastore, 1) := by decide +kernel
theorem dX5_add_10 : decode cX5_add 10 = .ok (.aload_n 0, 1) := by decide +kernel
theorem dX5_add_11 : decode cX5_add 11 = .ok (.getfield 23, 3) := by decide +kernel
theorem dX5_add_14 : decode cX5_add 14 = .ok (.aload_n 0, 1) := by decide +kernel
theorem dX5_add_15 : decode cX5_add 15 = .ok (.getfield 55, 3) := by decide +kernel
theorem dX5_add_18 : decode cX5_add 18 = .ok (.iload_n 2, 1) := by decide +kernel
theorem dX5_add_19 : decode cX5_add 19 = .ok (.iastore, 1) := by decide +kernel
theorem dX5_add_20 : decode cX5_add 20 = .ok (.aload_n 0, 1) := by decide +kernel
theorem dX5_add_21 : decode cX5_add 21 = .ok (.getfield 26, 3) := by decide +kernel
theorem dX5_add_24 : decode cX5_add 24 = .ok (.aload_n 0, 1) := by decide +kernel
theorem dX5_add_25 : decode cX5_add 25 = .ok (.getfield 55, 3) := by decide +kernel
theorem dX5_add_28 : decode cX5_add 28 = .ok (.iload_n 3, 1) := by decide +kernel
theorem dX5_add_29 : decode cX5_add 29 = .ok (.iastore, 1) := by decide +kernel
theorem dX5_add_30 : decode cX5_add 30 = .ok (.aload_n 0, 1) := by decide +kernel
theorem dX5_add_31 : decode cX5_add 31 = .ok (.dup, 1) := by decide +kernel
theorem dX5_add_32 : decode cX5_add 32 = .ok (.getfield 55, 3) := by decide +kernel
theorem dX5_add_35 : decode cX5_add 35 = .ok (.iconst 1, 1) := by decide +kernel
theorem dX5_add_36 : decode cX5_add 36 = .ok (.iadd, 1) := by decide +kernel
theorem dX5_add_37 : decode cX5_add 37 = .ok (.putfield 55, 3) := by decide +kernel
theorem dX5_add_40 : decode cX5_add 40 = .ok (.aload_n 0, 1) := by decide +kernel
theorem dX5_add_41 : decode cX5_add 41 = .ok (.getfield 55, 3) := by decide +kernel
theorem dX5_add_44 : decode cX5_add 44 = .ok (.iconst 4, 1) := by decide +kernel
theorem dX5_add_45 : decode cX5_add 45 = .ok (.if_icmp .ne 7, 3) := by decide +kernel
theorem dX5_add_48 : decode cX5_add 48 = .ok (.aload_n 0, 1) := by decide +kernel
theorem dX5_add_49 : decode cX5_add 49 = .ok (.invokevirtual 104, 3) := by decide +kernel
theorem dX5_add_52 : decode cX5_add 52 = .ok (.return_, 1) := by decide +kernel
theorem dX5_mayAdd_0 : decode cX5_mayAdd 0 = .ok (.aload_n 0, 1) := by decide +kernel
theorem dX5_mayAdd_1 : decode cX5_mayAdd 1 = .ok (.getfield 55, 3) := by decide +kernel
theorem dX5_mayAdd_4 : decode cX5_mayAdd 4 = .ok (.iconst 3, 1) := by decide +kernel
theorem dX5_mayAdd_5 : decode cX5_mayAdd 5 = .ok (.if_icmp .lt 11, 3) := by decide +kernel
theorem dX5_mayAdd_8 : decode cX5_mayAdd 8 = .ok (.aload_n 0, 1) := by decide +kernel
theorem dX5_mayAdd_9 : decode cX5_mayAdd 9 = .ok (.iconst 1, 1) := by decide +kernel
theorem dX5_mayAdd_10 : decode cX5_mayAdd 10 = .ok (.invokevirtual 107, 3) := by decide +kernel
theorem dX5_mayAdd_13 : decode cX5_mayAdd 13 = .ok (.ifCond .eq 7, 3) := by decide +kernel
theorem dX5_mayAdd_16 : decode cX5_mayAdd 16 = .ok (.iconst 1, 1) := by decide +kernel
theorem dX5_mayAdd_17 : decode cX5_mayAdd 17 = .ok (.goto 4, 3) := by decide +kernel
theorem dX5_mayAdd_20 : decode cX5_mayAdd 20 = .ok (.iconst 0, 1) := by decide +kernel
theorem dX5_mayAdd_21 : decode cX5_mayAdd 21 = .ok (.ireturn, 1) := by decide +kernel
theorem dX5_isOpenOne_0 : decode cX5_isOpenOne 0 = .ok (.iload_n 1, 1) := by decide +kernel
theorem dX5_isOpenOne_1 : decode cX5_isOpenOne 1 = .ok (.iconst 0, 1) := by decide +kernel
theorem dX5_isOpenOne_2 : decode cX5_isOpenOne 2 = .ok (.iconst 2, 1) := by decide +kernel
theorem dX5_isOpenOne_3 : decode cX5_isOpenOne 3 = .ok (.invokestatic 111, 3) := by decide +kernel
theorem dX5_isOpenOne_6 : decode cX5_isOpenOne 6 = .ok (.ifCond .eq 16, 3) := by decide +kernel
theorem dX5_isOpenOne_9 : decode cX5_isOpenOne 9 = .ok (.aload_n 0, 1) := by decide +kernel
theorem dX5_isOpenOne_10 : decode cX5_isOpenOne 10 = .ok (.getfield 32, 3) := by decide +kernel
theorem dX5_isOpenOne_13 : decode cX5_isOpenOne 13 = .ok (.iload_n 1, 1) := by decide +kernel
theorem dX5_isOpenOne_14 : decode cX5_isOpenOne 14 = .ok (.baload, 1) := by decide +kernel
theorem dX5_isOpenOne_15 : decode cX5_isOpenOne 15 = .ok (.ifCond .eq 7, 3) := by decide +kernel
theorem dX5_isOpenOne_18 : decode cX5_isOpenOne 18 = .ok (.iconst 1, 1) := by decide +kernel
theorem dX5_isOpenOne_19 : decode cX5_isOpenOne 19 = .ok (.goto 4, 3) := by decide +kernel
theorem dX5_isOpenOne_22 : decode cX5_isOpenOne 22 = .ok (.iconst 0, 1) := by decide +kernel
theorem dX5_isOpenOne_23 : decode cX5_isOpenOne 23 = .ok (.ireturn, 1) := by decide +kernel
theorem dX5_isKey_0 : decode cX5_isKey 0 = .ok (.iload_n 0, 1) := by decide +kernel
theorem dX5_isKey_1 : decode cX5_isKey 1 = .ok (.iconst 0, 1) := by decide +kernel
theorem dX5_isKey_2 : decode cX5_isKey 2 = .ok (.bipush 31, 2) := by decide +kernel
theorem dX5_isKey_4 : decode cX5_isKey 4 = .ok (.invokestatic 111, 3) := by decide +kernel
theorem dX5_isKey_7 : decode cX5_isKey 7 = .ok (.ireturn, 1) := by decide +kernel
theorem dX5_begin_0 : decode cX5_begin 0 = .ok (.aload_n 0, 1) := by decide +kernel
theorem dX5_begin_1 : decode cX5_begin 1 = .ok (.getfield 64, 3) := by decide +kernel
theorem dX5_begin_4 : decode cX5_begin 4 = .ok (.ifCond .eq 6, 3) := by decide +kernel
theorem dX5_begin_7 : decode cX5_begin 7 = .ok (.bipush (-3), 2) := by decide +kernel
theorem dX5_begin_9 : decode cX5_begin 9 = .ok (.ireturn, 1) := by decide +kernel
theorem dX5_begin_10 : decode cX5_begin 10 = .ok (.iconst 0, 1) := by decide +kernel
theorem dX5_begin_11 : decode cX5_begin 11 = .ok (.istore_n 1, 1) := by decide +kernel
theorem dX5_begin_12 : decode cX5_begin 12 = .ok (.iload_n 1, 1) := by decide +kernel
theorem dX5_begin_13 : decode cX5_begin 13 = .ok (.iconst 3, 1) := by decide +kernel
theorem dX5_begin_14 : decode cX5_begin 14 = .ok (.if_icmp .ge 27, 3) := by decide +kernel
theorem dX5_begin_17 : decode cX5_begin 17 = .ok (.aload_n 0, 1) := by decide +kernel
theorem dX5_begin_18 : decode cX5_begin 18 = .ok (.getfield 32, 3) := by decide +kernel
theorem dX5_begin_21 : decode cX5_begin 21 = .ok (.iload_n 1, 1) := by decide +kernel
theorem dX5_begin_22 : decode cX5_begin 22 = .ok (.baload, 1) := by decide +kernel
theorem dX5_begin_23 : decode cX5_begin 23 = .ok (.ifCond .ne 12, 3) := by decide +kernel
theorem dX5_begin_26 : decode cX5_begin 26 = .ok (.aload_n 0, 1) := by decide +kernel
theorem dX5_begin_27 : decode cX5_begin 27 = .ok (.getfield 32, 3) := by decide +kernel
theorem dX5_begin_30 : decode cX5_begin 30 = .ok (.iload_n 1, 1) := by decide +kernel
theorem dX5_begin_31 : decode cX5_begin 31 = .ok (.iconst 1, 1) := by decide +kernel
theorem dX5_begin_32 : decode cX5_begin 32 = .ok (.bastore, 1) := by decide +kernel
theorem dX5_begin_33 : decode cX5_begin 33 = .ok (.iload_n 1, 1) := by decide +kernel
theorem dX5_begin_34 : decode cX5_begin 34 = .ok (.ireturn, 1) := by decide +kernel
theorem dX5_begin_35 : decode cX5_begin 35 = .ok (.iinc 1 1, 3) := by decide +kernel
theorem dX5_begin_38 : decode cX5_begin 38 = .ok (.goto (-26), 3) := by decide +kernel
theorem dX5_begin_41 : decode cX5_begin 41 = .ok (.iconst (-1), 1) := by decide +kernel
theorem dX5_begin_42 : decode cX5_begin 42 = .ok (.ireturn, 1) := by decide +kernel
theorem dX5_put_0 : decode cX5_put 0 = .ok (.aload_n 0, 1) := by decide +kernel
theorem dX5_put_1 : decode cX5_put 1 = .ok (.getfield 64, 3) := by decide +kernel
theorem dX5_put_4 : decode cX5_put 4 = .ok (.ifCond .eq 6, 3) := by decide +kernel
theorem dX5_put_7 : decode cX5_put 7 = .ok (.bipush (-3), 2) := by decide +kernel
theorem dX5_put_9 : decode cX5_put 9 = .ok (.ireturn, 1) := by decide +kernel
theorem dX5_put_10 : decode cX5_put 10 = .ok (.aload_n 0, 1) := by decide +kernel
theorem dX5_put_11 : decode cX5_put 11 = .ok (.iload_n 1, 1) := by decide +kernel
theorem dX5_put_12 : decode cX5_put 12 = .ok (.invokevirtual 115, 3) := by decide +kernel
theorem dX5_put_15 : decode cX5_put 15 = .ok (.ifCond .eq 20, 3) := by decide +kernel
theorem dX5_put_18 : decode cX5_put 18 = .ok (.iload_n 2, 1) := by decide +kernel
theorem dX5_put_19 : decode cX5_put 19 = .ok (.invokestatic 118, 3) := by decide +kernel
theorem dX5_put_22 : decode cX5_put 22 = .ok (.ifCond .eq 13, 3) := by decide +kernel
theorem dX5_put_25 : decode cX5_put 25 = .ok (.iload_n 3, 1) := by decide +kernel
theorem dX5_put_26 : decode cX5_put 26 = .ok (.iconst (-1), 1) := by decide +kernel
theorem dX5_put_27 : decode cX5_put 27 = .ok (.ldc 121, 2) := by decide +kernel
theorem dX5_put_29 : decode cX5_put 29 = .ok (.invokestatic 111, 3) := by decide +kernel
theorem dX5_put_32 : decode cX5_put 32 = .ok (.ifCond .ne 5, 3) := by decide +kernel
theorem dX5_put_35 : decode cX5_put 35 = .ok (.iconst (-1), 1) := by decide +kernel
theorem dX5_put_36 : decode cX5_put 36 = .ok (.ireturn, 1) := by decide +kernel
theorem dX5_put_37 : decode cX5_put 37 = .ok (.aload_n 0, 1) := by decide +kernel
theorem dX5_put_38 : decode cX5_put 38 = .ok (.getfield 36, 3) := by decide +kernel
theorem dX5_put_41 : decode cX5_put 41 = .ok (.iload_n 2, 1) := by decide +kernel
theorem dX5_put_42 : decode cX5_put 42 = .ok (.iaload, 1) := by decide +kernel
theorem dX5_put_43 : decode cX5_put 43 = .ok (.iconst (-1), 1) := by decide +kernel
theorem dX5_put_44 : decode cX5_put 44 = .ok (.if_icmp .eq 15, 3) := by decide +kernel
theorem dX5_put_47 : decode cX5_put 47 = .ok (.aload_n 0, 1) := by decide +kernel
theorem dX5_put_48 : decode cX5_put 48 = .ok (.getfield 36, 3) := by decide +kernel
theorem dX5_put_51 : decode cX5_put 51 = .ok (.iload_n 2, 1) := by decide +kernel
theorem dX5_put_52 : decode cX5_put 52 = .ok (.iaload, 1) := by decide +kernel
theorem dX5_put_53 : decode cX5_put 53 = .ok (.iload_n 1, 1) := by decide +kernel
theorem dX5_put_54 : decode cX5_put 54 = .ok (.if_icmp .eq 5, 3) := by decide +kernel
theorem dX5_put_57 : decode cX5_put 57 = .ok (.iconst 0, 1) := by decide +kernel
theorem dX5_put_58 : decode cX5_put 58 = .ok (.ireturn, 1) := by decide +kernel
theorem dX5_put_59 : decode cX5_put 59 = .ok (.aload_n 0, 1) := by decide +kernel
theorem dX5_put_60 : decode cX5_put 60 = .ok (.invokevirtual 122, 3) := by decide +kernel
theorem dX5_put_63 : decode cX5_put 63 = .ok (.ifCond .ne 6, 3) := by decide +kernel
theorem dX5_put_66 : decode cX5_put 66 = .ok (.bipush (-2), 2) := by decide +kernel
theorem dX5_put_68 : decode cX5_put 68 = .ok (.ireturn, 1) := by decide +kernel
theorem dX5_put_69 : decode cX5_put 69 = .ok (.aload_n 0, 1) := by decide +kernel
theorem dX5_put_70 : decode cX5_put 70 = .ok (.getfield 36, 3) := by decide +kernel
theorem dX5_put_73 : decode cX5_put 73 = .ok (.iload_n 2, 1) := by decide +kernel
theorem dX5_put_74 : decode cX5_put 74 = .ok (.iload_n 1, 1) := by decide +kernel
theorem dX5_put_75 : decode cX5_put 75 = .ok (.iastore, 1) := by decide +kernel
theorem dX5_put_76 : decode cX5_put 76 = .ok (.aload_n 0, 1) := by decide +kernel
theorem dX5_put_77 : decode cX5_put 77 = .ok (.getfield 39, 3) := by decide +kernel
theorem dX5_put_80 : decode cX5_put 80 = .ok (.iload_n 2, 1) := by decide +kernel
theorem dX5_put_81 : decode cX5_put 81 = .ok (.iload_n 3, 1) := by decide +kernel
theorem dX5_put_82 : decode cX5_put 82 = .ok (.iastore, 1) := by decide +kernel
theorem dX5_put_83 : decode cX5_put 83 = .ok (.aload_n 0, 1) := by decide +kernel
theorem dX5_put_84 : decode cX5_put 84 = .ok (.iconst 4, 1) := by decide +kernel
theorem dX5_put_85 : decode cX5_put 85 = .ok (.iload_n 1, 1) := by decide +kernel
theorem dX5_put_86 : decode cX5_put 86 = .ok (.imul, 1) := by decide +kernel
theorem dX5_put_87 : decode cX5_put 87 = .ok (.iload_n 3, 1) := by decide +kernel
theorem dX5_put_88 : decode cX5_put 88 = .ok (.iconst (-1), 1) := by decide +kernel
theorem dX5_put_89 : decode cX5_put 89 = .ok (.if_icmp .ne 7, 3) := by decide +kernel
theorem dX5_put_92 : decode cX5_put 92 = .ok (.iconst 1, 1) := by decide +kernel
theorem dX5_put_93 : decode cX5_put 93 = .ok (.goto 4, 3) := by decide +kernel
theorem dX5_put_96 : decode cX5_put 96 = .ok (.iconst 0, 1) := by decide +kernel
theorem dX5_put_97 : decode cX5_put 97 = .ok (.iadd, 1) := by decide +kernel
theorem dX5_put_98 : decode cX5_put 98 = .ok (.iload_n 2, 1) := by decide +kernel
theorem dX5_put_99 : decode cX5_put 99 = .ok (.iload_n 3, 1) := by decide +kernel
theorem dX5_put_100 : decode cX5_put 100 = .ok (.iconst (-1), 1) := by decide +kernel
theorem dX5_put_101 : decode cX5_put 101 = .ok (.if_icmp .ne 7, 3) := by decide +kernel
theorem dX5_put_104 : decode cX5_put 104 = .ok (.iconst 0, 1) := by decide +kernel
theorem dX5_put_105 : decode cX5_put 105 = .ok (.goto 4, 3) := by decide +kernel
theorem dX5_put_108 : decode cX5_put 108 = .ok (.iload_n 3, 1) := by decide +kernel
theorem dX5_put_109 : decode cX5_put 109 = .ok (.invokevirtual 126, 3) := by decide +kernel
theorem dX5_put_112 : decode cX5_put 112 = .ok (.iconst 1, 1) := by decide +kernel
theorem dX5_put_113 : decode cX5_put 113 = .ok (.ireturn, 1) := by decide +kernel
theorem dX5_release_0 : decode cX5_release 0 = .ok (.iconst 0, 1) := by decide +kernel
theorem dX5_release_1 : decode cX5_release 1 = .ok (.istore_n 3, 1) := by decide +kernel
theorem dX5_release_2 : decode cX5_release 2 = .ok (.iconst 0, 1) := by decide +kernel
theorem dX5_release_3 : decode cX5_release 3 = .ok (.istore 4, 2) := by decide +kernel
theorem dX5_release_5 : decode cX5_release 5 = .ok (.iload 4, 2) := by decide +kernel
theorem dX5_release_7 : decode cX5_release 7 = .ok (.bipush 32, 2) := by decide +kernel
theorem dX5_release_9 : decode cX5_release 9 = .ok (.if_icmp .ge 59, 3) := by decide +kernel
theorem dX5_release_12 : decode cX5_release 12 = .ok (.aload_n 0, 1) := by decide +kernel
theorem dX5_release_13 : decode cX5_release 13 = .ok (.getfield 36, 3) := by decide +kernel
theorem dX5_release_16 : decode cX5_release 16 = .ok (.iload 4, 2) := by decide +kernel
theorem dX5_release_18 : decode cX5_release 18 = .ok (.iaload, 1) := by decide +kernel
theorem dX5_release_19 : decode cX5_release 19 = .ok (.iload_n 1, 1) := by decide +kernel
theorem dX5_release_20 : decode cX5_release 20 = .ok (.if_icmp .ne 42, 3) := by decide +kernel
theorem dX5_release_23 : decode cX5_release 23 = .ok (.iinc 3 1, 3) := by decide +kernel
theorem dX5_release_26 : decode cX5_release 26 = .ok (.aload_n 0, 1) := by decide +kernel
theorem dX5_release_27 : decode cX5_release 27 = .ok (.getfield 36, 3) := by decide +kernel
theorem dX5_release_30 : decode cX5_release 30 = .ok (.iload 4, 2) := by decide +kernel
theorem dX5_release_32 : decode cX5_release 32 = .ok (.iconst (-1), 1) := by decide +kernel
theorem dX5_release_33 : decode cX5_release 33 = .ok (.iastore, 1) := by decide +kernel
theorem dX5_release_34 : decode cX5_release 34 = .ok (.aload_n 0, 1) := by decide +kernel
theorem dX5_release_35 : decode cX5_release 35 = .ok (.getfield 29, 3) := by decide +kernel
theorem dX5_release_38 : decode cX5_release 38 = .ok (.iload 4, 2) := by decide +kernel
theorem dX5_release_40 : decode cX5_release 40 = .ok (.iload_n 2, 1) := by decide +kernel
theorem dX5_release_41 : decode cX5_release 41 = .ok (.ifCond .eq 13, 3) := by decide +kernel
theorem dX5_release_44 : decode cX5_release 44 = .ok (.aload_n 0, 1) := by decide +kernel
theorem dX5_release_45 : decode cX5_release 45 = .ok (.getfield 39, 3) := by decide +kernel
theorem dX5_release_48 : decode cX5_release 48 = .ok (.iload 4, 2) := by decide +kernel
theorem dX5_release_50 : decode cX5_release 50 = .ok (.iaload, 1) := by decide +kernel
theorem dX5_release_51 : decode cX5_release 51 = .ok (.goto 10, 3) := by decide +kernel
theorem dX5_release_54 : decode cX5_release 54 = .ok (.aload_n 0, 1) := by decide +kernel
theorem dX5_release_55 : decode cX5_release 55 = .ok (.getfield 29, 3) := by decide +kernel
theorem dX5_release_58 : decode cX5_release 58 = .ok (.iload 4, 2) := by decide +kernel
theorem dX5_release_60 : decode cX5_release 60 = .ok (.iaload, 1) := by decide +kernel
theorem dX5_release_61 : decode cX5_release 61 = .ok (.iastore, 1) := by decide +kernel
theorem dX5_release_62 : decode cX5_release 62 = .ok (.iinc 4 1, 3) := by decide +kernel
theorem dX5_release_65 : decode cX5_release 65 = .ok (.goto (-60), 3) := by decide +kernel
theorem dX5_release_68 : decode cX5_release 68 = .ok (.aload_n 0, 1) := by decide +kernel
theorem dX5_release_69 : decode cX5_release 69 = .ok (.getfield 32, 3) := by decide +kernel
theorem dX5_release_72 : decode cX5_release 72 = .ok (.iload_n 1, 1) := by decide +kernel
theorem dX5_release_73 : decode cX5_release 73 = .ok (.iconst 0, 1) := by decide +kernel
theorem dX5_release_74 : decode cX5_release 74 = .ok (.bastore, 1) := by decide +kernel
theorem dX5_release_75 : decode cX5_release 75 = .ok (.iload_n 3, 1) := by decide +kernel
theorem dX5_release_76 : decode cX5_release 76 = .ok (.ireturn, 1) := by decide +kernel
theorem dX5_finish_0 : decode cX5_finish 0 = .ok (.aload_n 0, 1) := by decide +kernel
theorem dX5_finish_1 : decode cX5_finish 1 = .ok (.getfield 64, 3) := by decide +kernel
theorem dX5_finish_4 : decode cX5_finish 4 = .ok (.ifCond .eq 6, 3) := by decide +kernel
theorem dX5_finish_7 : decode cX5_finish 7 = .ok (.bipush (-3), 2) := by decide +kernel
theorem dX5_finish_9 : decode cX5_finish 9 = .ok (.ireturn, 1) := by decide +kernel
theorem dX5_finish_10 : decode cX5_finish 10 = .ok (.aload_n 0, 1) := by decide +kernel
theorem dX5_finish_11 : decode cX5_finish 11 = .ok (.iload_n 1, 1) := by decide +kernel
theorem dX5_finish_12 : decode cX5_finish 12 = .ok (.invokevirtual 115, 3) := by decide +kernel
theorem dX5_finish_15 : decode cX5_finish 15 = .ok (.ifCond .ne 5, 3) := by decide +kernel
theorem dX5_finish_18 : decode cX5_finish 18 = .ok (.iconst (-1), 1) := by decide +kernel
theorem dX5_finish_19 : decode cX5_finish 19 = .ok (.ireturn, 1) := by decide +kernel
theorem dX5_finish_20 : decode cX5_finish 20 = .ok (.aload_n 0, 1) := by decide +kernel
theorem dX5_finish_21 : decode cX5_finish 21 = .ok (.invokevirtual 122, 3) := by decide +kernel
theorem dX5_finish_24 : decode cX5_finish 24 = .ok (.ifCond .ne 6, 3) := by decide +kernel
theorem dX5_finish_27 : decode cX5_finish 27 = .ok (.bipush (-2), 2) := by decide +kernel
theorem dX5_finish_29 : decode cX5_finish 29 = .ok (.ireturn, 1) := by decide +kernel
theorem dX5_finish_30 : decode cX5_finish 30 = .ok (.aload_n 0, 1) := by decide +kernel
theorem dX5_finish_31 : decode cX5_finish 31 = .ok (.iconst 4, 1) := by decide +kernel
theorem dX5_finish_32 : decode cX5_finish 32 = .ok (.iload_n 1, 1) := by decide +kernel
theorem dX5_finish_33 : decode cX5_finish 33 = .ok (.imul, 1) := by decide +kernel
theorem dX5_finish_34 : decode cX5_finish 34 = .ok (.iload_n 2, 1) := by decide +kernel
theorem dX5_finish_35 : decode cX5_finish 35 = .ok (.ifCond .eq 7, 3) := by decide +kernel
theorem dX5_finish_38 : decode cX5_finish 38 = .ok (.iconst 2, 1) := by decide +kernel
theorem dX5_finish_39 : decode cX5_finish 39 = .ok (.goto 4, 3) := by decide +kernel
theorem dX5_finish_42 : decode cX5_finish 42 = .ok (.iconst 3, 1) := by decide +kernel
theorem dX5_finish_43 : decode cX5_finish 43 = .ok (.iadd, 1) := by decide +kernel
theorem dX5_finish_44 : decode cX5_finish 44 = .ok (.iconst 0, 1) := by decide +kernel
theorem dX5_finish_45 : decode cX5_finish 45 = .ok (.iconst 0, 1) := by decide +kernel
theorem dX5_finish_46 : decode cX5_finish 46 = .ok (.invokevirtual 126, 3) := by decide +kernel
theorem dX5_finish_49 : decode cX5_finish 49 = .ok (.aload_n 0, 1) := by decide +kernel
theorem dX5_finish_50 : decode cX5_finish 50 = .ok (.dup, 1) := by decide +kernel
theorem dX5_finish_51 : decode cX5_finish 51 = .ok (.getfield 58, 3) := by decide +kernel
theorem dX5_finish_54 : decode cX5_finish 54 = .ok (.iload_n 2, 1) := by decide +kernel
theorem dX5_finish_55 : decode cX5_finish 55 = .ok (.ifCond .eq 7, 3) := by decide +kernel
theorem dX5_finish_58 : decode cX5_finish 58 = .ok (.iconst 1, 1) := by decide +kernel
theorem dX5_finish_59 : decode cX5_finish 59 = .ok (.goto 4, 3) := by decide +kernel
theorem dX5_finish_62 : decode cX5_finish 62 = .ok (.iconst 0, 1) := by decide +kernel
theorem dX5_finish_63 : decode cX5_finish 63 = .ok (.iadd, 1) := by decide +kernel
theorem dX5_finish_64 : decode cX5_finish 64 = .ok (.putfield 58, 3) := by decide +kernel
theorem dX5_finish_67 : decode cX5_finish 67 = .ok (.aload_n 0, 1) := by decide +kernel
theorem dX5_finish_68 : decode cX5_finish 68 = .ok (.iload_n 1, 1) := by decide +kernel
theorem dX5_finish_69 : decode cX5_finish 69 = .ok (.iload_n 2, 1) := by decide +kernel
theorem dX5_finish_70 : decode cX5_finish 70 = .ok (.invokevirtual 129, 3) := by decide +kernel
theorem dX5_finish_73 : decode cX5_finish 73 = .ok (.ireturn, 1) := by decide +kernel
theorem dX5_commit_0 : decode cX5_commit 0 = .ok (.aload_n 0, 1) := by decide +kernel
theorem dX5_commit_1 : decode cX5_commit 1 = .ok (.iload_n 1, 1) := by decide +kernel
theorem dX5_commit_2 : decode cX5_commit 2 = .ok (.iconst 1, 1) := by decide +kernel
theorem dX5_commit_3 : decode cX5_commit 3 = .ok (.invokevirtual 133, 3) := by decide +kernel
theorem dX5_commit_6 : decode cX5_commit 6 = .ok (.ireturn, 1) := by decide +kernel
theorem dX5_undo_0 : decode cX5_undo 0 = .ok (.aload_n 0, 1) := by decide +kernel
theorem dX5_undo_1 : decode cX5_undo 1 = .ok (.iload_n 1, 1) := by decide +kernel
theorem dX5_undo_2 : decode cX5_undo 2 = .ok (.iconst 0, 1) := by decide +kernel
theorem dX5_undo_3 : decode cX5_undo 3 = .ok (.invokevirtual 133, 3) := by decide +kernel
theorem dX5_undo_6 : decode cX5_undo 6 = .ok (.ireturn, 1) := by decide +kernel
theorem dX5_get_0 : decode cX5_get 0 = .ok (.aload_n 0, 1) := by decide +kernel
theorem dX5_get_1 : decode cX5_get 1 = .ok (.getfield 64, 3) := by decide +kernel
theorem dX5_get_4 : decode cX5_get 4 = .ok (.ifCond .eq 8, 3) := by decide +kernel
theorem dX5_get_7 : decode cX5_get 7 = .ok (.bipush (-3), 2) := by decide +kernel
theorem dX5_get_9 : decode cX5_get 9 = .ok (.goto 20, 3) := by decide +kernel
theorem dX5_get_12 : decode cX5_get 12 = .ok (.iload_n 1, 1) := by decide +kernel
theorem dX5_get_13 : decode cX5_get 13 = .ok (.invokestatic 118, 3) := by decide +kernel
theorem dX5_get_16 : decode cX5_get 16 = .ok (.ifCond .eq 12, 3) := by decide +kernel
theorem dX5_get_19 : decode cX5_get 19 = .ok (.aload_n 0, 1) := by decide +kernel
theorem dX5_get_20 : decode cX5_get 20 = .ok (.getfield 29, 3) := by decide +kernel
theorem dX5_get_23 : decode cX5_get 23 = .ok (.iload_n 1, 1) := by decide +kernel
theorem dX5_get_24 : decode cX5_get 24 = .ok (.iaload, 1) := by decide +kernel
theorem dX5_get_25 : decode cX5_get 25 = .ok (.goto 4, 3) := by decide +kernel
theorem dX5_get_28 : decode cX5_get 28 = .ok (.iconst (-1), 1) := by decide +kernel
theorem dX5_get_29 : decode cX5_get 29 = .ok (.ireturn, 1) := by decide +kernel
theorem dX5_seen_0 : decode cX5_seen 0 = .ok (.aload_n 0, 1) := by decide +kernel
theorem dX5_seen_1 : decode cX5_seen 1 = .ok (.getfield 64, 3) := by decide +kernel
theorem dX5_seen_4 : decode cX5_seen 4 = .ok (.ifCond .eq 6, 3) := by decide +kernel
theorem dX5_seen_7 : decode cX5_seen 7 = .ok (.bipush (-3), 2) := by decide +kernel
theorem dX5_seen_9 : decode cX5_seen 9 = .ok (.ireturn, 1) := by decide +kernel
theorem dX5_seen_10 : decode cX5_seen 10 = .ok (.aload_n 0, 1) := by decide +kernel
theorem dX5_seen_11 : decode cX5_seen 11 = .ok (.iload_n 1, 1) := by decide +kernel
theorem dX5_seen_12 : decode cX5_seen 12 = .ok (.invokevirtual 115, 3) := by decide +kernel
theorem dX5_seen_15 : decode cX5_seen 15 = .ok (.ifCond .eq 10, 3) := by decide +kernel
theorem dX5_seen_18 : decode cX5_seen 18 = .ok (.iload_n 2, 1) := by decide +kernel
theorem dX5_seen_19 : decode cX5_seen 19 = .ok (.invokestatic 118, 3) := by decide +kernel
theorem dX5_seen_22 : decode cX5_seen 22 = .ok (.ifCond .ne 5, 3) := by decide +kernel
theorem dX5_seen_25 : decode cX5_seen 25 = .ok (.iconst (-1), 1) := by decide +kernel
theorem dX5_seen_26 : decode cX5_seen 26 = .ok (.ireturn, 1) := by decide +kernel
theorem dX5_seen_27 : decode cX5_seen 27 = .ok (.aload_n 0, 1) := by decide +kernel
theorem dX5_seen_28 : decode cX5_seen 28 = .ok (.getfield 36, 3) := by decide +kernel
theorem dX5_seen_31 : decode cX5_seen 31 = .ok (.iload_n 2, 1) := by decide +kernel
theorem dX5_seen_32 : decode cX5_seen 32 = .ok (.iaload, 1) := by decide +kernel
theorem dX5_seen_33 : decode cX5_seen 33 = .ok (.iload_n 1, 1) := by decide +kernel
theorem dX5_seen_34 : decode cX5_seen 34 = .ok (.if_icmp .ne 12, 3) := by decide +kernel
theorem dX5_seen_37 : decode cX5_seen 37 = .ok (.aload_n 0, 1) := by decide +kernel
theorem dX5_seen_38 : decode cX5_seen 38 = .ok (.getfield 39, 3) := by decide +kernel
theorem dX5_seen_41 : decode cX5_seen 41 = .ok (.iload_n 2, 1) := by decide +kernel
theorem dX5_seen_42 : decode cX5_seen 42 = .ok (.iaload, 1) := by decide +kernel
theorem dX5_seen_43 : decode cX5_seen 43 = .ok (.goto 9, 3) := by decide +kernel
theorem dX5_seen_46 : decode cX5_seen 46 = .ok (.aload_n 0, 1) := by decide +kernel
theorem dX5_seen_47 : decode cX5_seen 47 = .ok (.getfield 29, 3) := by decide +kernel
theorem dX5_seen_50 : decode cX5_seen 50 = .ok (.iload_n 2, 1) := by decide +kernel
theorem dX5_seen_51 : decode cX5_seen 51 = .ok (.iaload, 1) := by decide +kernel
theorem dX5_seen_52 : decode cX5_seen 52 = .ok (.ireturn, 1) := by decide +kernel
theorem dX5_lay_0 : decode cX5_lay 0 = .ok (.iconst 0, 1) := by decide +kernel
theorem dX5_lay_1 : decode cX5_lay 1 = .ok (.istore_n 3, 1) := by decide +kernel
theorem dX5_lay_2 : decode cX5_lay 2 = .ok (.iload_n 3, 1) := by decide +kernel
theorem dX5_lay_3 : decode cX5_lay 3 = .ok (.iload_n 2, 1) := by decide +kernel
