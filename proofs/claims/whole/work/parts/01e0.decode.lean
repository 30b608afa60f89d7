theorem dX0_init_0 : decode cX0_init 0 = .ok (.aload_n 0, 1) := by decide +kernel
theorem dX0_init_1 : decode cX0_init 1 = .ok (.invokespecial 3, 3) := by decide +kernel
theorem dX0_init_4 : decode cX0_init 4 = .ok (.aload_n 0, 1) := by decide +kernel
theorem dX0_init_5 : decode cX0_init 5 = .ok (.bipush 32, 2) := by decide +kernel
theorem dX0_init_7 : decode cX0_init 7 = .ok (.newarray .int, 2) := by decide +kernel
theorem dX0_init_9 : decode cX0_init 9 = .ok (.putfield 9, 3) := by decide +kernel
theorem dX0_init_12 : decode cX0_init 12 = .ok (.aload_n 0, 1) := by decide +kernel
theorem dX0_init_13 : decode cX0_init 13 = .ok (.bipush 32, 2) := by decide +kernel
theorem dX0_init_15 : decode cX0_init 15 = .ok (.newarray .int, 2) := by decide +kernel
theorem dX0_init_17 : decode cX0_init 17 = .ok (.putfield 15, 3) := by decide +kernel
theorem dX0_init_20 : decode cX0_init 20 = .ok (.aload_n 0, 1) := by decide +kernel
theorem dX0_init_21 : decode cX0_init 21 = .ok (.bipush 32, 2) := by decide +kernel
theorem dX0_init_23 : decode cX0_init 23 = .ok (.newarray .int, 2) := by decide +kernel
theorem dX0_init_25 : decode cX0_init 25 = .ok (.putfield 18, 3) := by decide +kernel
theorem dX0_init_28 : decode cX0_init 28 = .ok (.aload_n 0, 1) := by decide +kernel
theorem dX0_init_29 : decode cX0_init 29 = .ok (.invokevirtual 21, 3) := by decide +kernel
theorem dX0_init_32 : decode cX0_init 32 = .ok (.return_, 1) := by decide +kernel
theorem dX0_clear_0 : decode cX0_clear 0 = .ok (.iconst 0, 1) := by decide +kernel
theorem dX0_clear_1 : decode cX0_clear 1 = .ok (.istore_n 1, 1) := by decide +kernel
theorem dX0_clear_2 : decode cX0_clear 2 = .ok (.iload_n 1, 1) := by decide +kernel
theorem dX0_clear_3 : decode cX0_clear 3 = .ok (.bipush 32, 2) := by decide +kernel
theorem dX0_clear_5 : decode cX0_clear 5 = .ok (.if_icmp .ge 30, 3) := by decide +kernel
theorem dX0_clear_8 : decode cX0_clear 8 = .ok (.aload_n 0, 1) := by decide +kernel
theorem dX0_clear_9 : decode cX0_clear 9 = .ok (.getfield 9, 3) := by decide +kernel
theorem dX0_clear_12 : decode cX0_clear 12 = .ok (.iload_n 1, 1) := by decide +kernel
theorem dX0_clear_13 : decode cX0_clear 13 = .ok (.iconst (-1), 1) := by decide +kernel
theorem dX0_clear_14 : decode cX0_clear 14 = .ok (.iastore, 1) := by decide +kernel
theorem dX0_clear_15 : decode cX0_clear 15 = .ok (.aload_n 0, 1) := by decide +kernel
theorem dX0_clear_16 : decode cX0_clear 16 = .ok (.getfield 15, 3) := by decide +kernel
theorem dX0_clear_19 : decode cX0_clear 19 = .ok (.iload_n 1, 1) := by decide +kernel
theorem dX0_clear_20 : decode cX0_clear 20 = .ok (.iconst (-1), 1) := by decide +kernel
theorem dX0_clear_21 : decode cX0_clear 21 = .ok (.iastore, 1) := by decide +kernel
theorem dX0_clear_22 : decode cX0_clear 22 = .ok (.aload_n 0, 1) := by decide +kernel
theorem dX0_clear_23 : decode cX0_clear 23 = .ok (.getfield 18, 3) := by decide +kernel
theorem dX0_clear_26 : decode cX0_clear 26 = .ok (.iload_n 1, 1) := by decide +kernel
theorem dX0_clear_27 : decode cX0_clear 27 = .ok (.iconst (-1), 1) := by decide +kernel
theorem dX0_clear_28 : decode cX0_clear 28 = .ok (.iastore, 1) := by decide +kernel
theorem dX0_clear_29 : decode cX0_clear 29 = .ok (.iinc 1 1, 3) := by decide +kernel
theorem dX0_clear_32 : decode cX0_clear 32 = .ok (.goto (-30), 3) := by decide +kernel
theorem dX0_clear_35 : decode cX0_clear 35 = .ok (.aload_n 0, 1) := by decide +kernel
theorem dX0_clear_36 : decode cX0_clear 36 = .ok (.iconst 0, 1) := by decide +kernel
theorem dX0_clear_37 : decode cX0_clear 37 = .ok (.putfield 24, 3) := by decide +kernel
theorem dX0_clear_40 : decode cX0_clear 40 = .ok (.return_, 1) := by decide +kernel
theorem dX0_openLeast_0 : decode cX0_openLeast 0 = .ok (.iconst 0, 1) := by decide +kernel
theorem dX0_openLeast_1 : decode cX0_openLeast 1 = .ok (.istore_n 1, 1) := by decide +kernel
theorem dX0_openLeast_2 : decode cX0_openLeast 2 = .ok (.iload_n 1, 1) := by decide +kernel
theorem dX0_openLeast_3 : decode cX0_openLeast 3 = .ok (.iconst 3, 1) := by decide +kernel
theorem dX0_openLeast_4 : decode cX0_openLeast 4 = .ok (.if_icmp .ge 31, 3) := by decide +kernel
theorem dX0_openLeast_7 : decode cX0_openLeast 7 = .ok (.aload_n 0, 1) := by decide +kernel
theorem dX0_openLeast_8 : decode cX0_openLeast 8 = .ok (.iload_n 1, 1) := by decide +kernel
theorem dX0_openLeast_9 : decode cX0_openLeast 9 = .ok (.invokevirtual 28, 3) := by decide +kernel
theorem dX0_openLeast_12 : decode cX0_openLeast 12 = .ok (.ifCond .ne 17, 3) := by decide +kernel
theorem dX0_openLeast_15 : decode cX0_openLeast 15 = .ok (.aload_n 0, 1) := by decide +kernel
theorem dX0_openLeast_16 : decode cX0_openLeast 16 = .ok (.dup, 1) := by decide +kernel
theorem dX0_openLeast_17 : decode cX0_openLeast 17 = .ok (.getfield 24, 3) := by decide +kernel
theorem dX0_openLeast_20 : decode cX0_openLeast 20 = .ok (.iconst 1, 1) := by decide +kernel
theorem dX0_openLeast_21 : decode cX0_openLeast 21 = .ok (.iload_n 1, 1) := by decide +kernel
theorem dX0_openLeast_22 : decode cX0_openLeast 22 = .ok (.ishl, 1) := by decide +kernel
theorem dX0_openLeast_23 : decode cX0_openLeast 23 = .ok (.ior, 1) := by decide +kernel
theorem dX0_openLeast_24 : decode cX0_openLeast 24 = .ok (.putfield 24, 3) := by decide +kernel
theorem dX0_openLeast_27 : decode cX0_openLeast 27 = .ok (.iload_n 1, 1) := by decide +kernel
theorem dX0_openLeast_28 : decode cX0_openLeast 28 = .ok (.ireturn, 1) := by decide +kernel
theorem dX0_openLeast_29 : decode cX0_openLeast 29 = .ok (.iinc 1 1, 3) := by decide +kernel
theorem dX0_openLeast_32 : decode cX0_openLeast 32 = .ok (.goto (-30), 3) := by decide +kernel
theorem dX0_openLeast_35 : decode cX0_openLeast 35 = .ok (.iconst (-1), 1) := by decide +kernel
theorem dX0_openLeast_36 : decode cX0_openLeast 36 = .ok (.ireturn, 1) := by decide +kernel
theorem dX0_isOpen_0 : decode cX0_isOpen 0 = .ok (.iload_n 1, 1) := by decide +kernel
theorem dX0_isOpen_1 : decode cX0_isOpen 1 = .ok (.invokestatic 32, 3) := by decide +kernel
theorem dX0_isOpen_4 : decode cX0_isOpen 4 = .ok (.ifCond .eq 19, 3) := by decide +kernel
theorem dX0_isOpen_7 : decode cX0_isOpen 7 = .ok (.aload_n 0, 1) := by decide +kernel
theorem dX0_isOpen_8 : decode cX0_isOpen 8 = .ok (.getfield 24, 3) := by decide +kernel
theorem dX0_isOpen_11 : decode cX0_isOpen 11 = .ok (.iload_n 1, 1) := by decide +kernel
theorem dX0_isOpen_12 : decode cX0_isOpen 12 = .ok (.ishr, 1) := by decide +kernel
theorem dX0_isOpen_13 : decode cX0_isOpen 13 = .ok (.iconst 1, 1) := by decide +kernel
theorem dX0_isOpen_14 : decode cX0_isOpen 14 = .ok (.iand, 1) := by decide +kernel
theorem dX0_isOpen_15 : decode cX0_isOpen 15 = .ok (.iconst 1, 1) := by decide +kernel
theorem dX0_isOpen_16 : decode cX0_isOpen 16 = .ok (.if_icmp .ne 7, 3) := by decide +kernel
theorem dX0_isOpen_19 : decode cX0_isOpen 19 = .ok (.iconst 1, 1) := by decide +kernel
theorem dX0_isOpen_20 : decode cX0_isOpen 20 = .ok (.goto 4, 3) := by decide +kernel
theorem dX0_isOpen_23 : decode cX0_isOpen 23 = .ok (.iconst 0, 1) := by decide +kernel
theorem dX0_isOpen_24 : decode cX0_isOpen 24 = .ok (.ireturn, 1) := by decide +kernel
theorem dX0_openBits_0 : decode cX0_openBits 0 = .ok (.aload_n 0, 1) := by decide +kernel
theorem dX0_openBits_1 : decode cX0_openBits 1 = .ok (.getfield 24, 3) := by decide +kernel
theorem dX0_openBits_4 : decode cX0_openBits 4 = .ok (.ireturn, 1) := by decide +kernel
theorem dX0_holderOf_0 : decode cX0_holderOf 0 = .ok (.iload_n 1, 1) := by decide +kernel
theorem dX0_holderOf_1 : decode cX0_holderOf 1 = .ok (.invokestatic 35, 3) := by decide +kernel
theorem dX0_holderOf_4 : decode cX0_holderOf 4 = .ok (.ifCond .eq 12, 3) := by decide +kernel
theorem dX0_holderOf_7 : decode cX0_holderOf 7 = .ok (.aload_n 0, 1) := by decide +kernel
theorem dX0_holderOf_8 : decode cX0_holderOf 8 = .ok (.getfield 18, 3) := by decide +kernel
theorem dX0_holderOf_11 : decode cX0_holderOf 11 = .ok (.iload_n 1, 1) := by decide +kernel
theorem dX0_holderOf_12 : decode cX0_holderOf 12 = .ok (.iaload, 1) := by decide +kernel
theorem dX0_holderOf_13 : decode cX0_holderOf 13 = .ok (.goto 4, 3) := by decide +kernel
theorem dX0_holderOf_16 : decode cX0_holderOf 16 = .ok (.iconst (-1), 1) := by decide +kernel
theorem dX0_holderOf_17 : decode cX0_holderOf 17 = .ok (.ireturn, 1) := by decide +kernel
theorem dX0_committedValue_0 : decode cX0_committedValue 0 = .ok (.iload_n 1, 1) := by decide +kernel
theorem dX0_committedValue_1 : decode cX0_committedValue 1 = .ok (.invokestatic 35, 3) := by decide +kernel
theorem dX0_committedValue_4 : decode cX0_committedValue 4 = .ok (.ifCond .eq 12, 3) := by decide +kernel
theorem dX0_committedValue_7 : decode cX0_committedValue 7 = .ok (.aload_n 0, 1) := by decide +kernel
theorem dX0_committedValue_8 : decode cX0_committedValue 8 = .ok (.getfield 9, 3) := by decide +kernel
theorem dX0_committedValue_11 : decode cX0_committedValue 11 = .ok (.iload_n 1, 1) := by decide +kernel
theorem dX0_committedValue_12 : decode cX0_committedValue 12 = .ok (.iaload, 1) := by decide +kernel
theorem dX0_committedValue_13 : decode cX0_committedValue 13 = .ok (.goto 4, 3) := by decide +kernel
theorem dX0_committedValue_16 : decode cX0_committedValue 16 = .ok (.iconst (-1), 1) := by decide +kernel
theorem dX0_committedValue_17 : decode cX0_committedValue 17 = .ok (.ireturn, 1) := by decide +kernel
theorem dX0_valueFor_0 : decode cX0_valueFor 0 = .ok (.iload_n 2, 1) := by decide +kernel
theorem dX0_valueFor_1 : decode cX0_valueFor 1 = .ok (.invokestatic 35, 3) := by decide +kernel
theorem dX0_valueFor_4 : decode cX0_valueFor 4 = .ok (.ifCond .ne 5, 3) := by decide +kernel
theorem dX0_valueFor_7 : decode cX0_valueFor 7 = .ok (.iconst (-1), 1) := by decide +kernel
theorem dX0_valueFor_8 : decode cX0_valueFor 8 = .ok (.ireturn, 1) := by decide +kernel
theorem dX0_valueFor_9 : decode cX0_valueFor 9 = .ok (.aload_n 0, 1) := by decide +kernel
theorem dX0_valueFor_10 : decode cX0_valueFor 10 = .ok (.getfield 18, 3) := by decide +kernel
theorem dX0_valueFor_13 : decode cX0_valueFor 13 = .ok (.iload_n 2, 1) := by decide +kernel
theorem dX0_valueFor_14 : decode cX0_valueFor 14 = .ok (.iaload, 1) := by decide +kernel
theorem dX0_valueFor_15 : decode cX0_valueFor 15 = .ok (.iload_n 1, 1) := by decide +kernel
theorem dX0_valueFor_16 : decode cX0_valueFor 16 = .ok (.if_icmp .ne 12, 3) := by decide +kernel
theorem dX0_valueFor_19 : decode cX0_valueFor 19 = .ok (.aload_n 0, 1) := by decide +kernel
theorem dX0_valueFor_20 : decode cX0_valueFor 20 = .ok (.getfield 15, 3) := by decide +kernel
theorem dX0_valueFor_23 : decode cX0_valueFor 23 = .ok (.iload_n 2, 1) := by decide +kernel
theorem dX0_valueFor_24 : decode cX0_valueFor 24 = .ok (.iaload, 1) := by decide +kernel
theorem dX0_valueFor_25 : decode cX0_valueFor 25 = .ok (.goto 9, 3) := by decide +kernel
theorem dX0_valueFor_28 : decode cX0_valueFor 28 = .ok (.aload_n 0, 1) := by decide +kernel
theorem dX0_valueFor_29 : decode cX0_valueFor 29 = .ok (.getfield 9, 3) := by decide +kernel
theorem dX0_valueFor_32 : decode cX0_valueFor 32 = .ok (.iload_n 2, 1) := by decide +kernel
theorem dX0_valueFor_33 : decode cX0_valueFor 33 = .ok (.iaload, 1) := by decide +kernel
theorem dX0_valueFor_34 : decode cX0_valueFor 34 = .ok (.ireturn, 1) := by decide +kernel
theorem dX0_setCommitted_0 : decode cX0_setCommitted 0 = .ok (.iload_n 1, 1) := by decide +kernel
theorem dX0_setCommitted_1 : decode cX0_setCommitted 1 = .ok (.invokestatic 35, 3) := by decide +kernel
theorem dX0_setCommitted_4 : decode cX0_setCommitted 4 = .ok (.ifCond .eq 10, 3) := by decide +kernel
theorem dX0_setCommitted_7 : decode cX0_setCommitted 7 = .ok (.aload_n 0, 1) := by decide +kernel
theorem dX0_setCommitted_8 : decode cX0_setCommitted 8 = .ok (.getfield 9, 3) := by decide +kernel
theorem dX0_setCommitted_11 : decode cX0_setCommitted 11 = .ok (.iload_n 1, 1) := by decide +kernel
theorem dX0_setCommitted_12 : decode cX0_setCommitted 12 = .ok (.iload_n 2, 1) := by decide +kernel
theorem dX0_setCommitted_13 : decode cX0_setCommitted 13 = .ok (.iastore, 1) := by decide +kernel
theorem dX0_setCommitted_14 : decode cX0_setCommitted 14 = .ok (.return_, 1) := by decide +kernel
theorem dX0_change_0 : decode cX0_change 0 = .ok (.iload_n 1, 1) := by decide +kernel
theorem dX0_change_1 : decode cX0_change 1 = .ok (.invokestatic 32, 3) := by decide +kernel
theorem dX0_change_4 : decode cX0_change 4 = .ok (.ifCond .eq 36, 3) := by decide +kernel
theorem dX0_change_7 : decode cX0_change 7 = .ok (.iload_n 2, 1) := by decide +kernel
theorem dX0_change_8 : decode cX0_change 8 = .ok (.invokestatic 35, 3) := by decide +kernel
theorem dX0_change_11 : decode cX0_change 11 = .ok (.ifCond .eq 29, 3) := by decide +kernel
theorem dX0_change_14 : decode cX0_change 14 = .ok (.aload_n 0, 1) := by decide +kernel
theorem dX0_change_15 : decode cX0_change 15 = .ok (.dup, 1) := by decide +kernel
theorem dX0_change_16 : decode cX0_change 16 = .ok (.getfield 24, 3) := by decide +kernel
theorem dX0_change_19 : decode cX0_change 19 = .ok (.iconst 1, 1) := by decide +kernel
theorem dX0_change_20 : decode cX0_change 20 = .ok (.iload_n 1, 1) := by decide +kernel
theorem dX0_change_21 : decode cX0_change 21 = .ok (.ishl, 1) := by decide +kernel
theorem dX0_change_22 : decode cX0_change 22 = .ok (.ior, 1) := by decide +kernel
theorem dX0_change_23 : decode cX0_change 23 = .ok (.putfield 24, 3) := by decide +kernel
theorem dX0_change_26 : decode cX0_change 26 = .ok (.aload_n 0, 1) := by decide +kernel
theorem dX0_change_27 : decode cX0_change 27 = .ok (.getfield 18, 3) := by decide +kernel
theorem dX0_change_30 : decode cX0_change 30 = .ok (.iload_n 2, 1) := by decide +kernel
theorem dX0_change_31 : decode cX0_change 31 = .ok (.iload_n 1, 1) := by decide +kernel
theorem dX0_change_32 : decode cX0_change 32 = .ok (.iastore, 1) := by decide +kernel
theorem dX0_change_33 : decode cX0_change 33 = .ok (.aload_n 0, 1) := by decide +kernel
theorem dX0_change_34 : decode cX0_change 34 = .ok (.getfield 15, 3) := by decide +kernel
theorem dX0_change_37 : decode cX0_change 37 = .ok (.iload_n 2, 1) := by decide +kernel
theorem dX0_change_38 : decode cX0_change 38 = .ok (.iload_n 3, 1) := by decide +kernel
theorem dX0_change_39 : decode cX0_change 39 = .ok (.iastore, 1) := by decide +kernel
theorem dX0_change_40 : decode cX0_change 40 = .ok (.return_, 1) := by decide +kernel
theorem dX0_close_0 : decode cX0_close 0 = .ok (.aload_n 0, 1) := by decide +kernel
theorem dX0_close_1 : decode cX0_close 1 = .ok (.iload_n 1, 1) := by decide +kernel
theorem dX0_close_2 : decode cX0_close 2 = .ok (.invokevirtual 28, 3) := by decide +kernel
theorem dX0_close_5 : decode cX0_close 5 = .ok (.ifCond .ne 5, 3) := by decide +kernel
theorem dX0_close_8 : decode cX0_close 8 = .ok (.iconst 0, 1) := by decide +kernel
theorem dX0_close_9 : decode cX0_close 9 = .ok (.ireturn, 1) := by decide +kernel
theorem dX0_close_10 : decode cX0_close 10 = .ok (.iconst 0, 1) := by decide +kernel
theorem dX0_close_11 : decode cX0_close 11 = .ok (.istore_n 3, 1) := by decide +kernel
theorem dX0_close_12 : decode cX0_close 12 = .ok (.iconst 0, 1) := by decide +kernel
theorem dX0_close_13 : decode cX0_close 13 = .ok (.istore 4, 2) := by decide +kernel
theorem dX0_close_15 : decode cX0_close 15 = .ok (.iload 4, 2) := by decide +kernel
theorem dX0_close_17 : decode cX0_close 17 = .ok (.bipush 32, 2) := by decide +kernel
theorem dX0_close_19 : decode cX0_close 19 = .ok (.if_icmp .ge 59, 3) := by decide +kernel
theorem dX0_close_22 : decode cX0_close 22 = .ok (.aload_n 0, 1) := by decide +kernel
theorem dX0_close_23 : decode cX0_close 23 = .ok (.getfield 18, 3) := by decide +kernel
theorem dX0_close_26 : decode cX0_close 26 = .ok (.iload 4, 2) := by decide +kernel
theorem dX0_close_28 : decode cX0_close 28 = .ok (.iaload, 1) := by decide +kernel
theorem dX0_close_29 : decode cX0_close 29 = .ok (.iload_n 1, 1) := by decide +kernel
theorem dX0_close_30 : decode cX0_close 30 = .ok (.if_icmp .ne 42, 3) := by decide +kernel
theorem dX0_close_33 : decode cX0_close 33 = .ok (.iinc 3 1, 3) := by decide +kernel
theorem dX0_close_36 : decode cX0_close 36 = .ok (.aload_n 0, 1) := by decide +kernel
theorem dX0_close_37 : decode cX0_close 37 = .ok (.getfield 18, 3) := by decide +kernel
theorem dX0_close_40 : decode cX0_close 40 = .ok (.iload 4, 2) := by decide +kernel
theorem dX0_close_42 : decode cX0_close 42 = .ok (.iconst (-1), 1) := by decide +kernel
theorem dX0_close_43 : decode cX0_close 43 = .ok (.iastore, 1) := by decide +kernel
theorem dX0_close_44 : decode cX0_close 44 = .ok (.aload_n 0, 1) := by decide +kernel
theorem dX0_close_45 : decode cX0_close 45 = .ok (.getfield 9, 3) := by decide +kernel
theorem dX0_close_48 : decode cX0_close 48 = .ok (.iload 4, 2) := by decide +kernel
theorem dX0_close_50 : decode cX0_close 50 = .ok (.iload_n 2, 1) := by decide +kernel
theorem dX0_close_51 : decode cX0_close 51 = .ok (.ifCond .eq 13, 3) := by decide +kernel
theorem dX0_close_54 : decode cX0_close 54 = .ok (.aload_n 0, 1) := by decide +kernel
theorem dX0_close_55 : decode cX0_close 55 = .ok (.getfield 15, 3) := by decide +kernel
theorem dX0_close_58 : decode cX0_close 58 = .ok (.iload 4, 2) := by decide +kernel
theorem dX0_close_60 : decode cX0_close 60 = .ok (.iaload, 1) := by decide +kernel
theorem dX0_close_61 : decode cX0_close 61 = .ok (.goto 10, 3) := by decide +kernel
theorem dX0_close_64 : decode cX0_close 64 = .ok (.aload_n 0, 1) := by decide +kernel
theorem dX0_close_65 : decode cX0_close 65 = .ok (.getfield 9, 3) := by decide +kernel
theorem dX0_close_68 : decode cX0_close 68 = .ok (.iload 4, 2) := by decide +kernel
theorem dX0_close_70 : decode cX0_close 70 = .ok (.iaload, 1) := by decide +kernel
theorem dX0_close_71 : decode cX0_close 71 = .ok (.iastore, 1) := by decide +kernel
theorem dX0_close_72 : decode cX0_close 72 = .ok (.iinc 4 1, 3) := by decide +kernel
theorem dX0_close_75 : decode cX0_close 75 = .ok (.goto (-60), 3) := by decide +kernel
theorem dX0_close_78 : decode cX0_close 78 = .ok (.aload_n 0, 1) := by decide +kernel
theorem dX0_close_79 : decode cX0_close 79 = .ok (.dup, 1) := by decide +kernel
theorem dX0_close_80 : decode cX0_close 80 = .ok (.getfield 24, 3) := by decide +kernel
theorem dX0_close_83 : decode cX0_close 83 = .ok (.iconst 1, 1) := by decide +kernel
theorem dX0_close_84 : decode cX0_close 84 = .ok (.iload_n 1, 1) := by decide +kernel
theorem dX0_close_85 : decode cX0_close 85 = .ok (.ishl, 1) := by decide +kernel
theorem dX0_close_86 : decode cX0_close 86 = .ok (.iconst (-1), 1) := by decide +kernel
theorem dX0_close_87 : decode cX0_close 87 = .ok (.ixor, 1) := by decide +kernel
theorem dX0_close_88 : decode cX0_close 88 = .ok (.iand, 1) := by decide +kernel
theorem dX0_close_89 : decode cX0_close 89 = .ok (.putfield 24, 3) := by decide +kernel
theorem dX0_close_92 : decode cX0_close 92 = .ok (.iload_n 3, 1) := by decide +kernel
theorem dX0_close_93 : decode cX0_close 93 = .ok (.ireturn, 1) := by decide +kernel
theorem dX0_pagesDue_0 : decode cX0_pagesDue 0 = .ok (.iconst 0, 1) := by decide +kernel
theorem dX0_pagesDue_1 : decode cX0_pagesDue 1 = .ok (.istore_n 1, 1) := by decide +kernel
theorem dX0_pagesDue_2 : decode cX0_pagesDue 2 = .ok (.iconst 1, 1) := by decide +kernel
theorem dX0_pagesDue_3 : decode cX0_pagesDue 3 = .ok (.istore_n 2, 1) := by decide +kernel
theorem dX0_pagesDue_4 : decode cX0_pagesDue 4 = .ok (.iconst 0, 1) := by decide +kernel
theorem dX0_pagesDue_5 : decode cX0_pagesDue 5 = .ok (.istore_n 3, 1) := by decide +kernel
theorem dX0_pagesDue_6 : decode cX0_pagesDue 6 = .ok (.iload_n 3, 1) := by decide +kernel
theorem dX0_pagesDue_7 : decode cX0_pagesDue 7 = .ok (.bipush 32, 2) := by decide +kernel
theorem dX0_pagesDue_9 : decode cX0_pagesDue 9 = .ok (.if_icmp .ge 32, 3) := by decide +kernel
theorem dX0_pagesDue_12 : decode cX0_pagesDue 12 = .ok (.aload_n 0, 1) := by decide +kernel
theorem dX0_pagesDue_13 : decode cX0_pagesDue 13 = .ok (.getfield 9, 3) := by decide +kernel
theorem dX0_pagesDue_16 : decode cX0_pagesDue 16 = .ok (.iload_n 3, 1) := by decide +kernel
theorem dX0_pagesDue_17 : decode cX0_pagesDue 17 = .ok (.iaload, 1) := by decide +kernel
theorem dX0_pagesDue_18 : decode cX0_pagesDue 18 = .ok (.iconst (-1), 1) := by decide +kernel
theorem dX0_pagesDue_19 : decode cX0_pagesDue 19 = .ok (.if_icmp .eq 16, 3) := by decide +kernel
theorem dX0_pagesDue_22 : decode cX0_pagesDue 22 = .ok (.iinc 1 1, 3) := by decide +kernel
theorem dX0_pagesDue_25 : decode cX0_pagesDue 25 = .ok (.iload_n 1, 1) := by decide +kernel
theorem dX0_pagesDue_26 : decode cX0_pagesDue 26 = .ok (.iload_n 2, 1) := by decide +kernel
theorem dX0_pagesDue_27 : decode cX0_pagesDue 27 = .ok (.iconst 5, 1) := by decide +kernel
theorem dX0_pagesDue_28 : decode cX0_pagesDue 28 = .ok (.imul, 1) := by decide +kernel
theorem dX0_pagesDue_29 : decode cX0_pagesDue 29 = .ok (.if_icmp .le 6, 3) := by decide +kernel
theorem dX0_pagesDue_32 : decode cX0_pagesDue 32 = .ok (.iinc 2 1, 3) := by decide +kernel
theorem dX0_pagesDue_35 : decode cX0_pagesDue 35 = .ok (.iinc 3 1, 3) := by decide +kernel
theorem dX0_pagesDue_38 : decode cX0_pagesDue 38 = .ok (.goto (-32), 3) := by decide +kernel
theorem dX0_pagesDue_41 : decode cX0_pagesDue 41 = .ok (.iload_n 2, 1) := by decide +kernel
theorem dX0_pagesDue_42 : decode cX0_pagesDue 42 = .ok (.ireturn, 1) := by decide +kernel
theorem dX0_nextWithValue_0 : decode cX0_nextWithValue 0 = .ok (.iload_n 1, 1) := by decide +kernel
theorem dX0_nextWithValue_1 : decode cX0_nextWithValue 1 = .ok (.iconst 0, 1) := by decide +kernel
theorem dX0_nextWithValue_2 : decode cX0_nextWithValue 2 = .ok (.invokestatic 38, 3) := by decide +kernel
theorem dX0_nextWithValue_5 : decode cX0_nextWithValue 5 = .ok (.istore_n 2, 1) := by decide +kernel
theorem dX0_nextWithValue_6 : decode cX0_nextWithValue 6 = .ok (.iload_n 2, 1) := by decide +kernel
theorem dX0_nextWithValue_7 : decode cX0_nextWithValue 7 = .ok (.bipush 32, 2) := by decide +kernel
theorem dX0_nextWithValue_9 : decode cX0_nextWithValue 9 = .ok (.if_icmp .ge 21, 3) := by decide +kernel
theorem dX0_nextWithValue_12 : decode cX0_nextWithValue 12 = .ok (.aload_n 0, 1) := by decide +kernel
theorem dX0_nextWithValue_13 : decode cX0_nextWithValue 13 = .ok (.getfield 9, 3) := by decide +kernel
theorem dX0_nextWithValue_16 : decode cX0_nextWithValue 16 = .ok (.iload_n 2, 1) := by decide +kernel
theorem dX0_nextWithValue_17 : decode cX0_nextWithValue 17 = .ok (.iaload, 1) := by decide +kernel
theorem dX0_nextWithValue_18 : decode cX0_nextWithValue 18 = .ok (.iconst (-1), 1) := by decide +kernel
theorem dX0_nextWithValue_19 : decode cX0_nextWithValue 19 = .ok (.if_icmp .eq 5, 3) := by decide +kernel
theorem dX0_nextWithValue_22 : decode cX0_nextWithValue 22 = .ok (.iload_n 2, 1) := by decide +kernel
theorem dX0_nextWithValue_23 : decode cX0_nextWithValue 23 = .ok (.ireturn, 1) := by decide +kernel
theorem dX0_nextWithValue_24 : decode cX0_nextWithValue 24 = .ok (.iinc 2 1, 3) := by decide +kernel
theorem dX0_nextWithValue_27 : decode cX0_nextWithValue 27 = .ok (.goto (-21), 3) := by decide +kernel
theorem dX0_nextWithValue_30 : decode cX0_nextWithValue 30 = .ok (.bipush 32, 2) := by decide +kernel
theorem dX0_nextWithValue_32 : decode cX0_nextWithValue 32 = .ok (.ireturn, 1) := by decide +kernel
theorem dX1_init_0 : decode cX1_init 0 = .ok (.aload_n 0, 1) := by decide +kernel
theorem dX1_init_1 : decode cX1_init 1 = .ok (.invokespecial 3, 3) := by decide +kernel
theorem dX1_init_4 : decode cX1_init 4 = .ok (.aload_n 0, 1) := by decide +kernel
theorem dX1_init_5 : decode cX1_init 5 = .ok (.bipush 64, 2) := by decide +kernel
theorem dX1_init_7 : decode cX1_init 7 = .ok (.newarray .boolean, 2) := by decide +kernel
theorem dX1_init_9 : decode cX1_init 9 = .ok (.putfield 9, 3) := by decide +kernel
theorem dX1_init_12 : decode cX1_init 12 = .ok (.return_, 1) := by decide +kernel
theorem dX1_firstPage_0 : decode cX1_firstPage 0 = .ok (.aload_n 0, 1) := by decide +kernel
theorem dX1_firstPage_1 : decode cX1_firstPage 1 = .ok (.getfield 15, 3) := by decide +kernel
theorem dX1_firstPage_4 : decode cX1_firstPage 4 = .ok (.ireturn, 1) := by decide +kernel
theorem dX1_runEnd_0 : decode cX1_runEnd 0 = .ok (.aload_n 0, 1) := by decide +kernel
theorem dX1_runEnd_1 : decode cX1_runEnd 1 = .ok (.getfield 19, 3) := by decide +kernel
theorem dX1_runEnd_4 : decode cX1_runEnd 4 = .ok (.ireturn, 1) := by decide +kernel
theorem dX1_findCheckpoint_0 : decode cX1_findCheckpoint 0 = .ok (.aload_n 0, 1) := by decide +kernel
theorem dX1_findCheckpoint_1 : decode cX1_findCheckpoint 1 = .ok (.aload_n 1, 1) := by decide +kernel
theorem dX1_findCheckpoint_2 : decode cX1_findCheckpoint 2 = .ok (.invokevirtual 22, 3) := by decide +kernel
theorem dX1_findCheckpoint_5 : decode cX1_findCheckpoint 5 = .ok (.aload_n 0, 1) := by decide +kernel
theorem dX1_findCheckpoint_6 : decode cX1_findCheckpoint 6 = .ok (.iconst 0, 1) := by decide +kernel
theorem dX1_findCheckpoint_7 : decode cX1_findCheckpoint 7 = .ok (.putfield 26, 3) := by decide +kernel
theorem dX1_findCheckpoint_10 : decode cX1_findCheckpoint 10 = .ok (.iconst 0, 1) := by decide +kernel
theorem dX1_findCheckpoint_11 : decode cX1_findCheckpoint 11 = .ok (.istore_n 2, 1) := by decide +kernel
theorem dX1_findCheckpoint_12 : decode cX1_findCheckpoint 12 = .ok (.iload_n 2, 1) := by decide +kernel
theorem dX1_findCheckpoint_13 : decode cX1_findCheckpoint 13 = .ok (.aload_n 1, 1) := by decide +kernel
theorem dX1_findCheckpoint_14 : decode cX1_findCheckpoint 14 = .ok (.invokevirtual 29, 3) := by decide +kernel
theorem dX1_findCheckpoint_17 : decode cX1_findCheckpoint 17 = .ok (.if_icmp .ge 56, 3) := by decide +kernel
theorem dX1_findCheckpoint_20 : decode cX1_findCheckpoint 20 = .ok (.aload_n 0, 1) := by decide +kernel
theorem dX1_findCheckpoint_21 : decode cX1_findCheckpoint 21 = .ok (.aload_n 1, 1) := by decide +kernel
theorem dX1_findCheckpoint_22 : decode cX1_findCheckpoint 22 = .ok (.iload_n 2, 1) := by decide +kernel
theorem dX1_findCheckpoint_23 : decode cX1_findCheckpoint 23 = .ok (.invokevirtual 35, 3) := by decide +kernel
theorem dX1_findCheckpoint_26 : decode cX1_findCheckpoint 26 = .ok (.istore_n 3, 1) := by decide +kernel
theorem dX1_findCheckpoint_27 : decode cX1_findCheckpoint 27 = .ok (.iload_n 3, 1) := by decide +kernel
theorem dX1_findCheckpoint_28 : decode cX1_findCheckpoint 28 = .ok (.ifCond .le 39, 3) := by decide +kernel
theorem dX1_findCheckpoint_31 : decode cX1_findCheckpoint 31 = .ok (.aload_n 0, 1) := by decide +kernel
theorem dX1_findCheckpoint_32 : decode cX1_findCheckpoint 32 = .ok (.getfield 26, 3) := by decide +kernel
theorem dX1_findCheckpoint_35 : decode cX1_findCheckpoint 35 = .ok (.ifCond .eq 22, 3) := by decide +kernel
theorem dX1_findCheckpoint_38 : decode cX1_findCheckpoint 38 = .ok (.aload_n 1, 1) := by decide +kernel
theorem dX1_findCheckpoint_39 : decode cX1_findCheckpoint 39 = .ok (.iload_n 2, 1) := by decide +kernel
theorem dX1_findCheckpoint_40 : decode cX1_findCheckpoint 40 = .ok (.invokevirtual 39, 3) := by decide +kernel
theorem dX1_findCheckpoint_43 : decode cX1_findCheckpoint 43 = .ok (.aload_n 1, 1) := by decide +kernel
theorem dX1_findCheckpoint_44 : decode cX1_findCheckpoint 44 = .ok (.aload_n 0, 1) := by decide +kernel
theorem dX1_findCheckpoint_45 : decode cX1_findCheckpoint 45 = .ok (.getfield 15, 3) := by decide +kernel
theorem dX1_findCheckpoint_48 : decode cX1_findCheckpoint 48 = .ok (.invokevirtual 39, 3) := by decide +kernel
theorem dX1_findCheckpoint_51 : decode cX1_findCheckpoint 51 = .ok (.invokestatic 43, 3) := by decide +kernel
theorem dX1_findCheckpoint_54 : decode cX1_findCheckpoint 54 = .ok (.ifCond .eq 13, 3) := by decide +kernel
theorem dX1_findCheckpoint_57 : decode cX1_findCheckpoint 57 = .ok (.aload_n 0, 1) := by decide +kernel
theorem dX1_findCheckpoint_58 : decode cX1_findCheckpoint 58 = .ok (.iload_n 2, 1) := by decide +kernel
theorem dX1_findCheckpoint_59 : decode cX1_findCheckpoint 59 = .ok (.putfield 15, 3) := by decide +kernel
theorem dX1_findCheckpoint_62 : decode cX1_findCheckpoint 62 = .ok (.aload_n 0, 1) := by decide +kernel
theorem dX1_findCheckpoint_63 : decode cX1_findCheckpoint 63 = .ok (.iload_n 3, 1) := by decide +kernel
theorem dX1_findCheckpoint_64 : decode cX1_findCheckpoint 64 = .ok (.putfield 26, 3) := by decide +kernel
theorem dX1_findCheckpoint_67 : decode cX1_findCheckpoint 67 = .ok (.iinc 2 1, 3) := by decide +kernel
theorem dX1_findCheckpoint_70 : decode cX1_findCheckpoint 70 = .ok (.goto (-58), 3) := by decide +kernel
theorem dX1_findCheckpoint_73 : decode cX1_findCheckpoint 73 = .ok (.aload_n 0, 1) := by decide +kernel
theorem dX1_findCheckpoint_74 : decode cX1_findCheckpoint 74 = .ok (.getfield 26, 3) := by decide +kernel
theorem dX1_findCheckpoint_77 : decode cX1_findCheckpoint 77 = .ok (.ifCond .le 7, 3) := by decide +kernel
theorem dX1_findCheckpoint_80 : decode cX1_findCheckpoint 80 = .ok (.iconst 1, 1) := by decide +kernel
theorem dX1_findCheckpoint_81 : decode cX1_findCheckpoint 81 = .ok (.goto 4, 3) := by decide +kernel
theorem dX1_findCheckpoint_84 : decode cX1_findCheckpoint 84 = .ok (.iconst 0, 1) := by decide +kernel
theorem dX1_findCheckpoint_85 : decode cX1_findCheckpoint 85 = .ok (.ireturn, 1) := by decide +kernel
theorem dX1_readPages_0 : decode cX1_readPages 0 = .ok (.aload_n 0, 1) := by decide +kernel
theorem dX1_readPages_1 : decode cX1_readPages 1 = .ok (.getfield 15, 3) := by decide +kernel
theorem dX1_readPages_4 : decode cX1_readPages 4 = .ok (.istore_n 3, 1) := by decide +kernel
theorem dX1_readPages_5 : decode cX1_readPages 5 = .ok (.iconst 0, 1) := by decide +kernel
theorem dX1_readPages_6 : decode cX1_readPages 6 = .ok (.istore 4, 2) := by decide +kernel
theorem dX1_readPages_8 : decode cX1_readPages 8 = .ok (.iload 4, 2) := by decide +kernel
theorem dX1_readPages_10 : decode cX1_readPages 10 = .ok (.aload_n 0, 1) := by decide +kernel
theorem dX1_readPages_11 : decode cX1_readPages 11 = .ok (.getfield 26, 3) := by decide +kernel
theorem dX1_readPages_14 : decode cX1_readPages 14 = .ok (.if_icmp .ge 26, 3) := by decide +kernel
theorem dX1_readPages_17 : decode cX1_readPages 17 = .ok (.aload_n 1, 1) := by decide +kernel
theorem dX1_readPages_18 : decode cX1_readPages 18 = .ok (.iload_n 3, 1) := by decide +kernel
theorem dX1_readPages_19 : decode cX1_readPages 19 = .ok (.aload_n 2, 1) := by decide +kernel
theorem dX1_readPages_20 : decode cX1_readPages 20 = .ok (.invokestatic 47, 3) := by decide +kernel
theorem dX1_readPages_23 : decode cX1_readPages 23 = .ok (.aload_n 0, 1) := by decide +kernel
theorem dX1_readPages_24 : decode cX1_readPages 24 = .ok (.iload_n 3, 1) := by decide +kernel
theorem dX1_readPages_25 : decode cX1_readPages 25 = .ok (.putfield 19, 3) := by decide +kernel
theorem dX1_readPages_28 : decode cX1_readPages 28 = .ok (.aload_n 1, 1) := by decide +kernel
theorem dX1_readPages_29 : decode cX1_readPages 29 = .ok (.iload_n 3, 1) := by decide +kernel
theorem dX1_readPages_30 : decode cX1_readPages 30 = .ok (.invokevirtual 51, 3) := by decide +kernel
theorem dX1_readPages_33 : decode cX1_readPages 33 = .ok (.istore_n 3, 1) := by decide +kernel
theorem dX1_readPages_34 : decode cX1_readPages 34 = .ok (.iinc 4 1, 3) := by decide +kernel
theorem dX1_readPages_37 : decode cX1_readPages 37 = .ok (.goto (-29), 3) := by decide +kernel
theorem dX1_readPages_40 : decode cX1_readPages 40 = .ok (.return_, 1) := by decide +kernel
theorem dX1_goOverRun_0 : decode cX1_goOverRun 0 = .ok (.iconst 0, 1) := by decide +kernel
theorem dX1_goOverRun_1 : decode cX1_goOverRun 1 = .ok (.istore_n 3, 1) := by decide +kernel
theorem dX1_goOverRun_2 : decode cX1_goOverRun 2 = .ok (.iload_n 3, 1) := by decide +kernel
theorem dX1_goOverRun_3 : decode cX1_goOverRun 3 = .ok (.aload_n 1, 1) := by decide +kernel
theorem dX1_goOverRun_4 : decode cX1_goOverRun 4 = .ok (.invokevirtual 29, 3) := by decide +kernel
theorem dX1_goOverRun_7 : decode cX1_goOverRun 7 = .ok (.if_icmp .ge 72, 3) := by decide +kernel
theorem dX1_goOverRun_10 : decode cX1_goOverRun 10 = .ok (.aload_n 1, 1) := by decide +kernel
theorem dX1_goOverRun_11 : decode cX1_goOverRun 11 = .ok (.aload_n 0, 1) := by decide +kernel
theorem dX1_goOverRun_12 : decode cX1_goOverRun 12 = .ok (.getfield 19, 3) := by decide +kernel
theorem dX1_goOverRun_15 : decode cX1_goOverRun 15 = .ok (.invokevirtual 51, 3) := by decide +kernel
theorem dX1_goOverRun_18 : decode cX1_goOverRun 18 = .ok (.istore 4, 2) := by decide +kernel
theorem dX1_goOverRun_20 : decode cX1_goOverRun 20 = .ok (.aload_n 0, 1) := by decide +kernel
theorem dX1_goOverRun_21 : decode cX1_goOverRun 21 = .ok (.iload 4, 2) := by decide +kernel
theorem dX1_goOverRun_23 : decode cX1_goOverRun 23 = .ok (.invokevirtual 54, 3) := by decide +kernel
theorem dX1_goOverRun_26 : decode cX1_goOverRun 26 = .ok (.ifCond .eq 22, 3) := by decide +kernel
theorem dX1_goOverRun_29 : decode cX1_goOverRun 29 = .ok (.aload_n 1, 1) := by decide +kernel
theorem dX1_goOverRun_30 : decode cX1_goOverRun 30 = .ok (.iload 4, 2) := by decide +kernel
theorem dX1_goOverRun_32 : decode cX1_goOverRun 32 = .ok (.invokevirtual 39, 3) := by decide +kernel
theorem dX1_goOverRun_35 : decode cX1_goOverRun 35 = .ok (.aload_n 1, 1) := by decide +kernel
theorem dX1_goOverRun_36 : decode cX1_goOverRun 36 = .ok (.aload_n 0, 1) := by decide +kernel
theorem dX1_goOverRun_37 : decode cX1_goOverRun 37 = .ok (.getfield 19, 3) := by decide +kernel
theorem dX1_goOverRun_40 : decode cX1_goOverRun 40 = .ok (.invokevirtual 39, 3) := by decide +kernel
theorem dX1_goOverRun_43 : decode cX1_goOverRun 43 = .ok (.iconst 1, 1) := by decide +kernel
theorem dX1_goOverRun_44 : decode cX1_goOverRun 44 = .ok (.iadd, 1) := by decide +kernel
theorem dX1_goOverRun_45 : decode cX1_goOverRun 45 = .ok (.if_icmp .eq 4, 3) := by decide +kernel
theorem dX1_goOverRun_48 : decode cX1_goOverRun 48 = .ok (.return_, 1) := by decide +kernel
theorem dX1_goOverRun_49 : decode cX1_goOverRun 49 = .ok (.aload_n 1, 1) := by decide +kernel
theorem dX1_goOverRun_50 : decode cX1_goOverRun 50 = .ok (.iload 4, 2) := by decide +kernel
theorem dX1_goOverRun_52 : decode cX1_goOverRun 52 = .ok (.iconst 0, 1) := by decide +kernel
theorem dX1_goOverRun_53 : decode cX1_goOverRun 53 = .ok (.invokevirtual 58, 3) := by decide +kernel
theorem dX1_goOverRun_56 : decode cX1_goOverRun 56 = .ok (.iconst 1, 1) := by decide +kernel
theorem dX1_goOverRun_57 : decode cX1_goOverRun 57 = .ok (.if_icmp .ne 10, 3) := by decide +kernel
theorem dX1_goOverRun_60 : decode cX1_goOverRun 60 = .ok (.aload_n 1, 1) := by decide +kernel
theorem dX1_goOverRun_61 : decode cX1_goOverRun 61 = .ok (.iload 4, 2) := by decide +kernel
theorem dX1_goOverRun_63 : decode cX1_goOverRun 63 = .ok (.aload_n 2, 1) := by decide +kernel
theorem dX1_goOverRun_64 : decode cX1_goOverRun 64 = .ok (.invokestatic 62, 3) := by decide +kernel
theorem dX1_goOverRun_67 : decode cX1_goOverRun 67 = .ok (.aload_n 0, 1) := by decide +kernel
theorem dX1_goOverRun_68 : decode cX1_goOverRun 68 = .ok (.iload 4, 2) := by decide +kernel
theorem dX1_goOverRun_70 : decode cX1_goOverRun 70 = .ok (.putfield 19, 3) := by decide +kernel
theorem dX1_goOverRun_73 : decode cX1_goOverRun 73 = .ok (.iinc 3 1, 3) := by decide +kernel
theorem dX1_goOverRun_76 : decode cX1_goOverRun 76 = .ok (.goto (-74), 3) := by decide +kernel
theorem dX1_goOverRun_79 : decode cX1_goOverRun 79 = .ok (.return_, 1) := by decide +kernel
theorem dX1_lookAt_0 : decode cX1_lookAt 0 = .ok (.iconst 0, 1) := by decide +kernel
theorem dX1_lookAt_1 : decode cX1_lookAt 1 = .ok (.istore_n 2, 1) := by decide +kernel
theorem dX1_lookAt_2 : decode cX1_lookAt 2 = .ok (.iload_n 2, 1) := by decide +kernel
theorem dX1_lookAt_3 : decode cX1_lookAt 3 = .ok (.aload_n 0, 1) := by decide +kernel
theorem dX1_lookAt_4 : decode cX1_lookAt 4 = .ok (.getfield 9, 3) := by decide +kernel
theorem dX1_lookAt_7 : decode cX1_lookAt 7 = .ok (.arraylength, 1) := by decide +kernel
theorem dX1_lookAt_8 : decode cX1_lookAt 8 = .ok (.if_icmp .ge 44, 3) := by decide +kernel
theorem dX1_lookAt_11 : decode cX1_lookAt 11 = .ok (.aload_n 0, 1) := by decide +kernel
theorem dX1_lookAt_12 : decode cX1_lookAt 12 = .ok (.getfield 9, 3) := by decide +kernel
theorem dX1_lookAt_15 : decode cX1_lookAt 15 = .ok (.iload_n 2, 1) := by decide +kernel
theorem dX1_lookAt_16 : decode cX1_lookAt 16 = .ok (.aload_n 1, 1) := by decide +kernel
theorem dX1_lookAt_17 : decode cX1_lookAt 17 = .ok (.iload_n 2, 1) := by decide +kernel
theorem dX1_lookAt_18 : decode cX1_lookAt 18 = .ok (.invokestatic 65, 3) := by decide +kernel
theorem dX1_lookAt_21 : decode cX1_lookAt 21 = .ok (.ifCond .ne 11, 3) := by decide +kernel
theorem dX1_lookAt_24 : decode cX1_lookAt 24 = .ok (.aload_n 1, 1) := by decide +kernel
theorem dX1_lookAt_25 : decode cX1_lookAt 25 = .ok (.iload_n 2, 1) := by decide +kernel
theorem dX1_lookAt_26 : decode cX1_lookAt 26 = .ok (.invokestatic 69, 3) := by decide +kernel
theorem dX1_lookAt_29 : decode cX1_lookAt 29 = .ok (.ifCond .eq 15, 3) := by decide +kernel
theorem dX1_lookAt_32 : decode cX1_lookAt 32 = .ok (.aload_n 1, 1) := by decide +kernel
theorem dX1_lookAt_33 : decode cX1_lookAt 33 = .ok (.iload_n 2, 1) := by decide +kernel
theorem dX1_lookAt_34 : decode cX1_lookAt 34 = .ok (.invokevirtual 72, 3) := by decide +kernel
theorem dX1_lookAt_37 : decode cX1_lookAt 37 = .ok (.ifCond .eq 7, 3) := by decide +kernel
theorem dX1_lookAt_40 : decode cX1_lookAt 40 = .ok (.iconst 1, 1) := by decide +kernel
theorem dX1_lookAt_41 : decode cX1_lookAt 41 = .ok (.goto 4, 3) := by decide +kernel
theorem dX1_lookAt_44 : decode cX1_lookAt 44 = .ok (.iconst 0, 1) := by decide +kernel
theorem dX1_lookAt_45 : decode cX1_lookAt 45 = .ok (.bastore, 1) := by decide +kernel
theorem dX1_lookAt_46 : decode cX1_lookAt 46 = .ok (.iinc 2 1, 3) := by decide +kernel
theorem dX1_lookAt_49 : decode cX1_lookAt 49 = .ok (.goto (-47), 3) := by decide +kernel
theorem dX1_lookAt_52 : decode cX1_lookAt 52 = .ok (.return_, 1) := by decide +kernel
theorem dX1_isTelling_0 : decode cX1_isTelling 0 = .ok (.iload_n 1, 1) := by decide +kernel
theorem dX1_isTelling_1 : decode cX1_isTelling 1 = .ok (.ifCond .lt 25, 3) := by decide +kernel
theorem dX1_isTelling_4 : decode cX1_isTelling 4 = .ok (.iload_n 1, 1) := by decide +kernel
theorem dX1_isTelling_5 : decode cX1_isTelling 5 = .ok (.aload_n 0, 1) := by decide +kernel
theorem dX1_isTelling_6 : decode cX1_isTelling 6 = .ok (.getfield 9, 3) := by decide +kernel
theorem dX1_isTelling_9 : decode cX1_isTelling 9 = .ok (.arraylength, 1) := by decide +kernel
theorem dX1_isTelling_10 : decode cX1_isTelling 10 = .ok (.if_icmp .ge 16, 3) := by decide +kernel
theorem dX1_isTelling_13 : decode cX1_isTelling 13 = .ok (.aload_n 0, 1) := by decide +kernel
theorem dX1_isTelling_14 : decode cX1_isTelling 14 = .ok (.getfield 9, 3) := by decide +kernel
theorem dX1_isTelling_17 : decode cX1_isTelling 17 = .ok (.iload_n 1, 1) := by decide +kernel
theorem dX1_isTelling_18 : decode cX1_isTelling 18 = .ok (.baload, 1) := by decide +kernel
theorem dX1_isTelling_19 : decode cX1_isTelling 19 = .ok (.ifCond .eq 7, 3) := by decide +kernel
theorem dX1_isTelling_22 : decode cX1_isTelling 22 = .ok (.iconst 1, 1) := by decide +kernel
theorem dX1_isTelling_23 : decode cX1_isTelling 23 = .ok (.goto 4, 3) := by decide +kernel
theorem dX1_isTelling_26 : decode cX1_isTelling 26 = .ok (.iconst 0, 1) := by decide +kernel
theorem dX1_isTelling_27 : decode cX1_isTelling 27 = .ok (.ireturn, 1) := by decide +kernel
theorem dX1_pagesFrom_0 : decode cX1_pagesFrom 0 = .ok (.aload_n 1, 1) := by decide +kernel
theorem dX1_pagesFrom_1 : decode cX1_pagesFrom 1 = .ok (.iload_n 2, 1) := by decide +kernel
theorem dX1_pagesFrom_2 : decode cX1_pagesFrom 2 = .ok (.bipush 27, 2) := by decide +kernel
theorem dX1_pagesFrom_4 : decode cX1_pagesFrom 4 = .ok (.invokevirtual 58, 3) := by decide +kernel
theorem dX1_pagesFrom_7 : decode cX1_pagesFrom 7 = .ok (.istore_n 3, 1) := by decide +kernel
theorem dX1_pagesFrom_8 : decode cX1_pagesFrom 8 = .ok (.iload_n 2, 1) := by decide +kernel
theorem dX1_pagesFrom_9 : decode cX1_pagesFrom 9 = .ok (.istore 4, 2) := by decide +kernel
theorem dX1_pagesFrom_11 : decode cX1_pagesFrom 11 = .ok (.iconst 0, 1) := by decide +kernel
theorem dX1_pagesFrom_12 : decode cX1_pagesFrom 12 = .ok (.istore 5, 2) := by decide +kernel
theorem dX1_pagesFrom_14 : decode cX1_pagesFrom 14 = .ok (.iload 5, 2) := by decide +kernel
theorem dX1_pagesFrom_16 : decode cX1_pagesFrom 16 = .ok (.iload_n 3, 1) := by decide +kernel
theorem dX1_pagesFrom_17 : decode cX1_pagesFrom 17 = .ok (.if_icmp .ge 81, 3) := by decide +kernel
theorem dX1_pagesFrom_20 : decode cX1_pagesFrom 20 = .ok (.aload_n 0, 1) := by decide +kernel
theorem dX1_pagesFrom_21 : decode cX1_pagesFrom 21 = .ok (.iload 4, 2) := by decide +kernel
theorem dX1_pagesFrom_23 : decode cX1_pagesFrom 23 = .ok (.invokevirtual 54, 3) := by decide +kernel
theorem dX1_pagesFrom_26 : decode cX1_pagesFrom 26 = .ok (.ifCond .eq 56, 3) := by decide +kernel
theorem dX1_pagesFrom_29 : decode cX1_pagesFrom 29 = .ok (.aload_n 1, 1) := by decide +kernel
theorem dX1_pagesFrom_30 : decode cX1_pagesFrom 30 = .ok (.iload 4, 2) := by decide +kernel
theorem dX1_pagesFrom_32 : decode cX1_pagesFrom 32 = .ok (.iconst 0, 1) := by decide +kernel
theorem dX1_pagesFrom_33 : decode cX1_pagesFrom 33 = .ok (.invokevirtual 58, 3) := by decide +kernel
theorem dX1_pagesFrom_36 : decode cX1_pagesFrom 36 = .ok (.iconst 2, 1) := by decide +kernel
theorem dX1_pagesFrom_37 : decode cX1_pagesFrom 37 = .ok (.if_icmp .ne 45, 3) := by decide +kernel
theorem dX1_pagesFrom_40 : decode cX1_pagesFrom 40 = .ok (.aload_n 1, 1) := by decide +kernel
theorem dX1_pagesFrom_41 : decode cX1_pagesFrom 41 = .ok (.iload 4, 2) := by decide +kernel
theorem dX1_pagesFrom_43 : decode cX1_pagesFrom 43 = .ok (.bipush 26, 2) := by decide +kernel
theorem dX1_pagesFrom_45 : decode cX1_pagesFrom 45 = .ok (.invokevirtual 58, 3) := by decide +kernel
theorem dX1_pagesFrom_48 : decode cX1_pagesFrom 48 = .ok (.iload 5, 2) := by decide +kernel
theorem dX1_pagesFrom_50 : decode cX1_pagesFrom 50 = .ok (.if_icmp .ne 32, 3) := by decide +kernel
theorem dX1_pagesFrom_53 : decode cX1_pagesFrom 53 = .ok (.aload_n 1, 1) := by decide +kernel
theorem dX1_pagesFrom_54 : decode cX1_pagesFrom 54 = .ok (.iload 4, 2) := by decide +kernel
theorem dX1_pagesFrom_56 : decode cX1_pagesFrom 56 = .ok (.bipush 27, 2) := by decide +kernel
theorem dX1_pagesFrom_58 : decode cX1_pagesFrom 58 = .ok (.invokevirtual 58, 3) := by decide +kernel
theorem dX1_pagesFrom_61 : decode cX1_pagesFrom 61 = .ok (.iload_n 3, 1) := by decide +kernel
theorem dX1_pagesFrom_62 : decode cX1_pagesFrom 62 = .ok (.if_icmp .ne 20, 3) := by decide +kernel
theorem dX1_pagesFrom_65 : decode cX1_pagesFrom 65 = .ok (.aload_n 1, 1) := by decide +kernel
theorem dX1_pagesFrom_66 : decode cX1_pagesFrom 66 = .ok (.iload 4, 2) := by decide +kernel
theorem dX1_pagesFrom_68 : decode cX1_pagesFrom 68 = .ok (.invokevirtual 39, 3) := by decide +kernel
theorem dX1_pagesFrom_71 : decode cX1_pagesFrom 71 = .ok (.aload_n 1, 1) := by decide +kernel
theorem dX1_pagesFrom_72 : decode cX1_pagesFrom 72 = .ok (.iload_n 2, 1) := by decide +kernel
theorem dX1_pagesFrom_73 : decode cX1_pagesFrom 73 = .ok (.invokevirtual 39, 3) := by decide +kernel
theorem dX1_pagesFrom_76 : decode cX1_pagesFrom 76 = .ok (.iload 5, 2) := by decide +kernel
theorem dX1_pagesFrom_78 : decode cX1_pagesFrom 78 = .ok (.iadd, 1) := by decide +kernel
theorem dX1_pagesFrom_79 : decode cX1_pagesFrom 79 = .ok (.if_icmp .eq 5, 3) := by decide +kernel
theorem dX1_pagesFrom_82 : decode cX1_pagesFrom 82 = .ok (.iconst 0, 1) := by decide +kernel
theorem dX1_pagesFrom_83 : decode cX1_pagesFrom 83 = .ok (.ireturn, 1) := by decide +kernel
theorem dX1_pagesFrom_84 : decode cX1_pagesFrom 84 = .ok (.aload_n 1, 1) := by decide +kernel
theorem dX1_pagesFrom_85 : decode cX1_pagesFrom 85 = .ok (.iload 4, 2) := by decide +kernel
theorem dX1_pagesFrom_87 : decode cX1_pagesFrom 87 = .ok (.invokevirtual 51, 3) := by decide +kernel
theorem dX1_pagesFrom_90 : decode cX1_pagesFrom 90 = .ok (.istore 4, 2) := by decide +kernel
theorem dX1_pagesFrom_92 : decode cX1_pagesFrom 92 = .ok (.iinc 5 1, 3) := by decide +kernel
theorem dX1_pagesFrom_95 : decode cX1_pagesFrom 95 = .ok (.goto (-81), 3) := by decide +kernel
theorem dX1_pagesFrom_98 : decode cX1_pagesFrom 98 = .ok (.iload_n 3, 1) := by decide +kernel
theorem dX1_pagesFrom_99 : decode cX1_pagesFrom 99 = .ok (.ireturn, 1) := by decide +kernel
theorem dX1_isLater_0 : decode cX1_isLater 0 = .ok (.iload_n 0, 1) := by decide +kernel
theorem dX1_isLater_1 : decode cX1_isLater 1 = .ok (.i2l, 1) := by decide +kernel
theorem dX1_isLater_2 : decode cX1_isLater 2 = .ok (.ldc2_w 75, 3) := by decide +kernel
theorem dX1_isLater_5 : decode cX1_isLater 5 = .ok (.land, 1) := by decide +kernel
theorem dX1_isLater_6 : decode cX1_isLater 6 = .ok (.iload_n 1, 1) := by decide +kernel
theorem dX1_isLater_7 : decode cX1_isLater 7 = .ok (.i2l, 1) := by decide +kernel
theorem dX1_isLater_8 : decode cX1_isLater 8 = .ok (.ldc2_w 75, 3) := by decide +kernel
theorem dX1_isLater_11 : decode cX1_isLater 11 = .ok (.land, 1) := by decide +kernel
theorem dX1_isLater_12 : decode cX1_isLater 12 = .ok (.lcmp, 1) := by decide +kernel
theorem dX1_isLater_13 : decode cX1_isLater 13 = .ok (.ifCond .le 7, 3) := by decide +kernel
theorem dX1_isLater_16 : decode cX1_isLater 16 = .ok (.iconst 1, 1) := by decide +kernel
theorem dX1_isLater_17 : decode cX1_isLater 17 = .ok (.goto 4, 3) := by decide +kernel
theorem dX1_isLater_20 : decode cX1_isLater 20 = .ok (.iconst 0, 1) := by decide +kernel
theorem dX1_isLater_21 : decode cX1_isLater 21 = .ok (.ireturn, 1) := by decide +kernel
theorem dX1_isLog_0 : decode cX1_isLog 0 = .ok (.aload_n 0, 1) := by decide +kernel
theorem dX1_isLog_1 : decode cX1_isLog 1 = .ok (.iload_n 1, 1) := by decide +kernel
theorem dX1_isLog_2 : decode cX1_isLog 2 = .ok (.iconst 5, 1) := by decide +kernel
theorem dX1_isLog_3 : decode cX1_isLog 3 = .ok (.invokevirtual 58, 3) := by decide +kernel
theorem dX1_isLog_6 : decode cX1_isLog 6 = .ok (.istore_n 2, 1) := by decide +kernel
theorem dX1_isLog_7 : decode cX1_isLog 7 = .ok (.aload_n 0, 1) := by decide +kernel
theorem dX1_isLog_8 : decode cX1_isLog 8 = .ok (.iload_n 1, 1) := by decide +kernel
theorem dX1_isLog_9 : decode cX1_isLog 9 = .ok (.iconst 0, 1) := by decide +kernel
theorem dX1_isLog_10 : decode cX1_isLog 10 = .ok (.invokevirtual 58, 3) := by decide +kernel
theorem dX1_isLog_13 : decode cX1_isLog 13 = .ok (.iconst 1, 1) := by decide +kernel
theorem dX1_isLog_14 : decode cX1_isLog 14 = .ok (.if_icmp .ne 13, 3) := by decide +kernel
theorem dX1_isLog_17 : decode cX1_isLog 17 = .ok (.iload_n 2, 1) := by decide +kernel
theorem dX1_isLog_18 : decode cX1_isLog 18 = .ok (.iconst 1, 1) := by decide +kernel
theorem dX1_isLog_19 : decode cX1_isLog 19 = .ok (.if_icmp .lt 8, 3) := by decide +kernel
theorem dX1_isLog_22 : decode cX1_isLog 22 = .ok (.iload_n 2, 1) := by decide +kernel
theorem dX1_isLog_23 : decode cX1_isLog 23 = .ok (.iconst 4, 1) := by decide +kernel
theorem dX1_isLog_24 : decode cX1_isLog 24 = .ok (.if_icmp .le 5, 3) := by decide +kernel
theorem dX1_isLog_27 : decode cX1_isLog 27 = .ok (.iconst 0, 1) := by decide +kernel
theorem dX1_isLog_28 : decode cX1_isLog 28 = .ok (.ireturn, 1) := by decide +kernel
theorem dX1_isLog_29 : decode cX1_isLog 29 = .ok (.iconst 0, 1) := by decide +kernel
theorem dX1_isLog_30 : decode cX1_isLog 30 = .ok (.istore_n 3, 1) := by decide +kernel
theorem dX1_isLog_31 : decode cX1_isLog 31 = .ok (.iload_n 3, 1) := by decide +kernel
theorem dX1_isLog_32 : decode cX1_isLog 32 = .ok (.iload_n 2, 1) := by decide +kernel
theorem dX1_isLog_33 : decode cX1_isLog 33 = .ok (.if_icmp .ge 49, 3) := by decide +kernel
theorem dX1_isLog_36 : decode cX1_isLog 36 = .ok (.bipush 6, 2) := by decide +kernel
theorem dX1_isLog_38 : decode cX1_isLog 38 = .ok (.iload_n 3, 1) := by decide +kernel
theorem dX1_isLog_39 : decode cX1_isLog 39 = .ok (.iconst 5, 1) := by decide +kernel
theorem dX1_isLog_40 : decode cX1_isLog 40 = .ok (.imul, 1) := by decide +kernel
theorem dX1_isLog_41 : decode cX1_isLog 41 = .ok (.iadd, 1) := by decide +kernel
theorem dX1_isLog_42 : decode cX1_isLog 42 = .ok (.istore 4, 2) := by decide +kernel
theorem dX1_isLog_44 : decode cX1_isLog 44 = .ok (.aload_n 0, 1) := by decide +kernel
theorem dX1_isLog_45 : decode cX1_isLog 45 = .ok (.iload_n 1, 1) := by decide +kernel
theorem dX1_isLog_46 : decode cX1_isLog 46 = .ok (.iload 4, 2) := by decide +kernel
theorem dX1_isLog_48 : decode cX1_isLog 48 = .ok (.invokevirtual 58, 3) := by decide +kernel
theorem dX1_isLog_51 : decode cX1_isLog 51 = .ok (.iconst 2, 1) := by decide +kernel
theorem dX1_isLog_52 : decode cX1_isLog 52 = .ok (.ishr, 1) := by decide +kernel
theorem dX1_isLog_53 : decode cX1_isLog 53 = .ok (.invokestatic 77, 3) := by decide +kernel
theorem dX1_isLog_56 : decode cX1_isLog 56 = .ok (.ifCond .eq 18, 3) := by decide +kernel
theorem dX1_isLog_59 : decode cX1_isLog 59 = .ok (.aload_n 0, 1) := by decide +kernel
theorem dX1_isLog_60 : decode cX1_isLog 60 = .ok (.iload_n 1, 1) := by decide +kernel
theorem dX1_isLog_61 : decode cX1_isLog 61 = .ok (.iload 4, 2) := by decide +kernel
theorem dX1_isLog_63 : decode cX1_isLog 63 = .ok (.iconst 1, 1) := by decide +kernel
theorem dX1_isLog_64 : decode cX1_isLog 64 = .ok (.iadd, 1) := by decide +kernel
theorem dX1_isLog_65 : decode cX1_isLog 65 = .ok (.invokevirtual 58, 3) := by decide +kernel
theorem dX1_isLog_68 : decode cX1_isLog 68 = .ok (.invokestatic 80, 3) := by decide +kernel
theorem dX1_isLog_71 : decode cX1_isLog 71 = .ok (.ifCond .ne 5, 3) := by decide +kernel
theorem dX1_isLog_74 : decode cX1_isLog 74 = .ok (.iconst 0, 1) := by decide +kernel
theorem dX1_isLog_75 : decode cX1_isLog 75 = .ok (.ireturn, 1) := by decide +kernel
theorem dX1_isLog_76 : decode cX1_isLog 76 = .ok (.iinc 3 1, 3) := by decide +kernel
theorem dX1_isLog_79 : decode cX1_isLog 79 = .ok (.goto (-48), 3) := by decide +kernel
theorem dX1_isLog_82 : decode cX1_isLog 82 = .ok (.iconst 1, 1) := by decide +kernel
theorem dX1_isLog_83 : decode cX1_isLog 83 = .ok (.ireturn, 1) := by decide +kernel
theorem dX1_isPage_0 : decode cX1_isPage 0 = .ok (.aload_n 0, 1) := by decide +kernel
theorem dX1_isPage_1 : decode cX1_isPage 1 = .ok (.iload_n 1, 1) := by decide +kernel
theorem dX1_isPage_2 : decode cX1_isPage 2 = .ok (.iconst 5, 1) := by decide +kernel
theorem dX1_isPage_3 : decode cX1_isPage 3 = .ok (.invokevirtual 58, 3) := by decide +kernel
theorem dX1_isPage_6 : decode cX1_isPage 6 = .ok (.istore_n 2, 1) := by decide +kernel
theorem dX1_isPage_7 : decode cX1_isPage 7 = .ok (.aload_n 0, 1) := by decide +kernel
theorem dX1_isPage_8 : decode cX1_isPage 8 = .ok (.iload_n 1, 1) := by decide +kernel
theorem dX1_isPage_9 : decode cX1_isPage 9 = .ok (.iconst 0, 1) := by decide +kernel
theorem dX1_isPage_10 : decode cX1_isPage 10 = .ok (.invokevirtual 58, 3) := by decide +kernel
theorem dX1_isPage_13 : decode cX1_isPage 13 = .ok (.iconst 2, 1) := by decide +kernel
theorem dX1_isPage_14 : decode cX1_isPage 14 = .ok (.if_icmp .ne 8, 3) := by decide +kernel
theorem dX1_isPage_17 : decode cX1_isPage 17 = .ok (.iload_n 2, 1) := by decide +kernel
theorem dX1_isPage_18 : decode cX1_isPage 18 = .ok (.iconst 5, 1) := by decide +kernel
theorem dX1_isPage_19 : decode cX1_isPage 19 = .ok (.if_icmp .le 5, 3) := by decide +kernel
theorem dX1_isPage_22 : decode cX1_isPage 22 = .ok (.iconst 0, 1) := by decide +kernel
theorem dX1_isPage_23 : decode cX1_isPage 23 = .ok (.ireturn, 1) := by decide +kernel
theorem dX1_isPage_24 : decode cX1_isPage 24 = .ok (.iconst 0, 1) := by decide +kernel
theorem dX1_isPage_25 : decode cX1_isPage 25 = .ok (.istore_n 3, 1) := by decide +kernel
theorem dX1_isPage_26 : decode cX1_isPage 26 = .ok (.iload_n 3, 1) := by decide +kernel
theorem dX1_isPage_27 : decode cX1_isPage 27 = .ok (.iload_n 2, 1) := by decide +kernel
theorem dX1_isPage_28 : decode cX1_isPage 28 = .ok (.if_icmp .ge 28, 3) := by decide +kernel
theorem dX1_isPage_31 : decode cX1_isPage 31 = .ok (.aload_n 0, 1) := by decide +kernel
theorem dX1_isPage_32 : decode cX1_isPage 32 = .ok (.iload_n 1, 1) := by decide +kernel
theorem dX1_isPage_33 : decode cX1_isPage 33 = .ok (.bipush 6, 2) := by decide +kernel
theorem dX1_isPage_35 : decode cX1_isPage 35 = .ok (.iload_n 3, 1) := by decide +kernel
theorem dX1_isPage_36 : decode cX1_isPage 36 = .ok (.iconst 4, 1) := by decide +kernel
theorem dX1_isPage_37 : decode cX1_isPage 37 = .ok (.imul, 1) := by decide +kernel
theorem dX1_isPage_38 : decode cX1_isPage 38 = .ok (.iadd, 1) := by decide +kernel
theorem dX1_isPage_39 : decode cX1_isPage 39 = .ok (.invokevirtual 58, 3) := by decide +kernel
theorem dX1_isPage_42 : decode cX1_isPage 42 = .ok (.invokestatic 80, 3) := by decide +kernel
theorem dX1_isPage_45 : decode cX1_isPage 45 = .ok (.ifCond .ne 5, 3) := by decide +kernel
theorem dX1_isPage_48 : decode cX1_isPage 48 = .ok (.iconst 0, 1) := by decide +kernel
theorem dX1_isPage_49 : decode cX1_isPage 49 = .ok (.ireturn, 1) := by decide +kernel
theorem dX1_isPage_50 : decode cX1_isPage 50 = .ok (.iinc 3 1, 3) := by decide +kernel
theorem dX1_isPage_53 : decode cX1_isPage 53 = .ok (.goto (-27), 3) := by decide +kernel
theorem dX1_isPage_56 : decode cX1_isPage 56 = .ok (.aload_n 0, 1) := by decide +kernel
theorem dX1_isPage_57 : decode cX1_isPage 57 = .ok (.iload_n 1, 1) := by decide +kernel
theorem dX1_isPage_58 : decode cX1_isPage 58 = .ok (.bipush 26, 2) := by decide +kernel
theorem dX1_isPage_60 : decode cX1_isPage 60 = .ok (.invokevirtual 58, 3) := by decide +kernel
theorem dX1_isPage_63 : decode cX1_isPage 63 = .ok (.aload_n 0, 1) := by decide +kernel
theorem dX1_isPage_64 : decode cX1_isPage 64 = .ok (.iload_n 1, 1) := by decide +kernel
theorem dX1_isPage_65 : decode cX1_isPage 65 = .ok (.bipush 27, 2) := by decide +kernel
theorem dX1_isPage_67 : decode cX1_isPage 67 = .ok (.invokevirtual 58, 3) := by decide +kernel
theorem dX1_isPage_70 : decode cX1_isPage 70 = .ok (.if_icmp .ge 7, 3) := by decide +kernel
theorem dX1_isPage_73 : decode cX1_isPage 73 = .ok (.iconst 1, 1) := by decide +kernel
theorem dX1_isPage_74 : decode cX1_isPage 74 = .ok (.goto 4, 3) := by decide +kernel
theorem dX1_isPage_77 : decode cX1_isPage 77 = .ok (.iconst 0, 1) := by decide +kernel
theorem dX1_isPage_78 : decode cX1_isPage 78 = .ok (.ireturn, 1) := by decide +kernel
theorem dX1_readPage_0 : decode cX1_readPage 0 = .ok (.aload_n 0, 1) := by decide +kernel
theorem dX1_readPage_1 : decode cX1_readPage 1 = .ok (.iload_n 1, 1) := by decide +kernel
theorem dX1_readPage_2 : decode cX1_readPage 2 = .ok (.iconst 5, 1) := by decide +kernel
theorem dX1_readPage_3 : decode cX1_readPage 3 = .ok (.invokevirtual 58, 3) := by decide +kernel
theorem dX1_readPage_6 : decode cX1_readPage 6 = .ok (.istore_n 3, 1) := by decide +kernel
theorem dX1_readPage_7 : decode cX1_readPage 7 = .ok (.iconst 0, 1) := by decide +kernel
theorem dX1_readPage_8 : decode cX1_readPage 8 = .ok (.istore 4, 2) := by decide +kernel
theorem dX1_readPage_10 : decode cX1_readPage 10 = .ok (.iload 4, 2) := by decide +kernel
theorem dX1_readPage_12 : decode cX1_readPage 12 = .ok (.iload_n 3, 1) := by decide +kernel
theorem dX1_readPage_13 : decode cX1_readPage 13 = .ok (.if_icmp .ge 39, 3) := by decide +kernel
theorem dX1_readPage_16 : decode cX1_readPage 16 = .ok (.bipush 6, 2) := by decide +kernel
theorem dX1_readPage_18 : decode cX1_readPage 18 = .ok (.iload 4, 2) := by decide +kernel
theorem dX1_readPage_20 : decode cX1_readPage 20 = .ok (.iconst 4, 1) := by decide +kernel
theorem dX1_readPage_21 : decode cX1_readPage 21 = .ok (.imul, 1) := by decide +kernel
theorem dX1_readPage_22 : decode cX1_readPage 22 = .ok (.iadd, 1) := by decide +kernel
theorem dX1_readPage_23 : decode cX1_readPage 23 = .ok (.istore 5, 2) := by decide +kernel
theorem dX1_readPage_25 : decode cX1_readPage 25 = .ok (.aload_n 2, 1) := by decide +kernel
theorem dX1_readPage_26 : decode cX1_readPage 26 = .ok (.aload_n 0, 1) := by decide +kernel
theorem dX1_readPage_27 : decode cX1_readPage 27 = .ok (.iload_n 1, 1) := by decide +kernel
theorem dX1_readPage_28 : decode cX1_readPage 28 = .ok (.iload 5, 2) := by decide +kernel
theorem dX1_readPage_30 : decode cX1_readPage 30 = .ok (.invokevirtual 58, 3) := by decide +kernel
theorem dX1_readPage_33 : decode cX1_readPage 33 = .ok (.aload_n 0, 1) := by decide +kernel
theorem dX1_readPage_34 : decode cX1_readPage 34 = .ok (.iload_n 1, 1) := by decide +kernel
theorem dX1_readPage_35 : decode cX1_readPage 35 = .ok (.iload 5, 2) := by decide +kernel
theorem dX1_readPage_37 : decode cX1_readPage 37 = .ok (.iconst 1, 1) := by decide +kernel
theorem dX1_readPage_38 : decode cX1_readPage 38 = .ok (.iadd, 1) := by decide +kernel
theorem dX1_readPage_39 : decode cX1_readPage 39 = .ok (.iconst 3, 1) := by decide +kernel
theorem dX1_readPage_40 : decode cX1_readPage 40 = .ok (.invokevirtual 83, 3) := by decide +kernel
theorem dX1_readPage_43 : decode cX1_readPage 43 = .ok (.invokevirtual 87, 3) := by decide +kernel
theorem dX1_readPage_46 : decode cX1_readPage 46 = .ok (.iinc 4 1, 3) := by decide +kernel
theorem dX1_readPage_49 : decode cX1_readPage 49 = .ok (.goto (-39), 3) := by decide +kernel
theorem dX1_readPage_52 : decode cX1_readPage 52 = .ok (.return_, 1) := by decide +kernel
theorem dX1_goOverLog_0 : decode cX1_goOverLog 0 = .ok (.aload_n 0, 1) := by decide +kernel
theorem dX1_goOverLog_1 : decode cX1_goOverLog 1 = .ok (.iload_n 1, 1) := by decide +kernel
theorem dX1_goOverLog_2 : decode cX1_goOverLog 2 = .ok (.iconst 5, 1) := by decide +kernel
theorem dX1_goOverLog_3 : decode cX1_goOverLog 3 = .ok (.invokevirtual 58, 3) := by decide +kernel
theorem dX1_goOverLog_6 : decode cX1_goOverLog 6 = .ok (.istore_n 3, 1) := by decide +kernel
theorem dX1_goOverLog_7 : decode cX1_goOverLog 7 = .ok (.iconst 0, 1) := by decide +kernel
theorem dX1_goOverLog_8 : decode cX1_goOverLog 8 = .ok (.istore 4, 2) := by decide +kernel
theorem dX1_goOverLog_10 : decode cX1_goOverLog 10 = .ok (.iload 4, 2) := by decide +kernel
theorem dX1_goOverLog_12 : decode cX1_goOverLog 12 = .ok (.iload_n 3, 1) := by decide +kernel
theorem dX1_goOverLog_13 : decode cX1_goOverLog 13 = .ok (.if_icmp .ge 113, 3) := by decide +kernel
theorem dX1_goOverLog_16 : decode cX1_goOverLog 16 = .ok (.bipush 6, 2) := by decide +kernel
theorem dX1_goOverLog_18 : decode cX1_goOverLog 18 = .ok (.iload 4, 2) := by decide +kernel
theorem dX1_goOverLog_20 : decode cX1_goOverLog 20 = .ok (.iconst 5, 1) := by decide +kernel
theorem dX1_goOverLog_21 : decode cX1_goOverLog 21 = .ok (.imul, 1) := by decide +kernel
theorem dX1_goOverLog_22 : decode cX1_goOverLog 22 = .ok (.iadd, 1) := by decide +kernel
theorem dX1_goOverLog_23 : decode cX1_goOverLog 23 = .ok (.istore 5, 2) := by decide +kernel
theorem dX1_goOverLog_25 : decode cX1_goOverLog 25 = .ok (.aload_n 0, 1) := by decide +kernel
theorem dX1_goOverLog_26 : decode cX1_goOverLog 26 = .ok (.iload_n 1, 1) := by decide +kernel
theorem dX1_goOverLog_27 : decode cX1_goOverLog 27 = .ok (.iload 5, 2) := by decide +kernel
theorem dX1_goOverLog_29 : decode cX1_goOverLog 29 = .ok (.invokevirtual 58, 3) := by decide +kernel
theorem dX1_goOverLog_32 : decode cX1_goOverLog 32 = .ok (.iconst 2, 1) := by decide +kernel
theorem dX1_goOverLog_33 : decode cX1_goOverLog 33 = .ok (.ishr, 1) := by decide +kernel
theorem dX1_goOverLog_34 : decode cX1_goOverLog 34 = .ok (.istore 6, 2) := by decide +kernel
theorem dX1_goOverLog_36 : decode cX1_goOverLog 36 = .ok (.aload_n 0, 1) := by decide +kernel
theorem dX1_goOverLog_37 : decode cX1_goOverLog 37 = .ok (.iload_n 1, 1) := by decide +kernel
theorem dX1_goOverLog_38 : decode cX1_goOverLog 38 = .ok (.iload 5, 2) := by decide +kernel
theorem dX1_goOverLog_40 : decode cX1_goOverLog 40 = .ok (.invokevirtual 58, 3) := by decide +kernel
theorem dX1_goOverLog_43 : decode cX1_goOverLog 43 = .ok (.iconst 3, 1) := by decide +kernel
theorem dX1_goOverLog_44 : decode cX1_goOverLog 44 = .ok (.iand, 1) := by decide +kernel
theorem dX1_goOverLog_45 : decode cX1_goOverLog 45 = .ok (.istore 7, 2) := by decide +kernel
theorem dX1_goOverLog_47 : decode cX1_goOverLog 47 = .ok (.aload_n 0, 1) := by decide +kernel
theorem dX1_goOverLog_48 : decode cX1_goOverLog 48 = .ok (.iload_n 1, 1) := by decide +kernel
theorem dX1_goOverLog_49 : decode cX1_goOverLog 49 = .ok (.iload 5, 2) := by decide +kernel
theorem dX1_goOverLog_51 : decode cX1_goOverLog 51 = .ok (.iconst 1, 1) := by decide +kernel
theorem dX1_goOverLog_52 : decode cX1_goOverLog 52 = .ok (.iadd, 1) := by decide +kernel
theorem dX1_goOverLog_53 : decode cX1_goOverLog 53 = .ok (.invokevirtual 58, 3) := by decide +kernel
theorem dX1_goOverLog_56 : decode cX1_goOverLog 56 = .ok (.istore 8, 2) := by decide +kernel
theorem dX1_goOverLog_58 : decode cX1_goOverLog 58 = .ok (.iload 7, 2) := by decide +kernel
theorem dX1_goOverLog_60 : decode cX1_goOverLog 60 = .ok (.ifCond .ne 24, 3) := by decide +kernel
theorem dX1_goOverLog_63 : decode cX1_goOverLog 63 = .ok (.aload_n 2, 1) := by decide +kernel
theorem dX1_goOverLog_64 : decode cX1_goOverLog 64 = .ok (.iload 6, 2) := by decide +kernel
theorem dX1_goOverLog_66 : decode cX1_goOverLog 66 = .ok (.iload 8, 2) := by decide +kernel
theorem dX1_goOverLog_68 : decode cX1_goOverLog 68 = .ok (.aload_n 0, 1) := by decide +kernel
theorem dX1_goOverLog_69 : decode cX1_goOverLog 69 = .ok (.iload_n 1, 1) := by decide +kernel
theorem dX1_goOverLog_70 : decode cX1_goOverLog 70 = .ok (.iload 5, 2) := by decide +kernel
theorem dX1_goOverLog_72 : decode cX1_goOverLog 72 = .ok (.iconst 2, 1) := by decide +kernel
theorem dX1_goOverLog_73 : decode cX1_goOverLog 73 = .ok (.iadd, 1) := by decide +kernel
theorem dX1_goOverLog_74 : decode cX1_goOverLog 74 = .ok (.iconst 3, 1) := by decide +kernel
theorem dX1_goOverLog_75 : decode cX1_goOverLog 75 = .ok (.invokevirtual 83, 3) := by decide +kernel
theorem dX1_goOverLog_78 : decode cX1_goOverLog 78 = .ok (.invokevirtual 93, 3) := by decide +kernel
theorem dX1_goOverLog_81 : decode cX1_goOverLog 81 = .ok (.goto 39, 3) := by decide +kernel
theorem dX1_goOverLog_84 : decode cX1_goOverLog 84 = .ok (.iload 7, 2) := by decide +kernel
theorem dX1_goOverLog_86 : decode cX1_goOverLog 86 = .ok (.iconst 1, 1) := by decide +kernel
theorem dX1_goOverLog_87 : decode cX1_goOverLog 87 = .ok (.if_icmp .ne 15, 3) := by decide +kernel
theorem dX1_goOverLog_90 : decode cX1_goOverLog 90 = .ok (.aload_n 2, 1) := by decide +kernel
theorem dX1_goOverLog_91 : decode cX1_goOverLog 91 = .ok (.iload 6, 2) := by decide +kernel
theorem dX1_goOverLog_93 : decode cX1_goOverLog 93 = .ok (.iload 8, 2) := by decide +kernel
theorem dX1_goOverLog_95 : decode cX1_goOverLog 95 = .ok (.iconst (-1), 1) := by decide +kernel
theorem dX1_goOverLog_96 : decode cX1_goOverLog 96 = .ok (.invokevirtual 93, 3) := by decide +kernel
theorem dX1_goOverLog_99 : decode cX1_goOverLog 99 = .ok (.goto 21, 3) := by decide +kernel
theorem dX1_goOverLog_102 : decode cX1_goOverLog 102 = .ok (.aload_n 2, 1) := by decide +kernel
theorem dX1_goOverLog_103 : decode cX1_goOverLog 103 = .ok (.iload 6, 2) := by decide +kernel
theorem dX1_goOverLog_105 : decode cX1_goOverLog 105 = .ok (.iload 7, 2) := by decide +kernel
theorem dX1_goOverLog_107 : decode cX1_goOverLog 107 = .ok (.iconst 2, 1) := by decide +kernel
theorem dX1_goOverLog_108 : decode cX1_goOverLog 108 = .ok (.if_icmp .ne 7, 3) := by decide +kernel
theorem dX1_goOverLog_111 : decode cX1_goOverLog 111 = .ok (.iconst 1, 1) := by decide +kernel
theorem dX1_goOverLog_112 : decode cX1_goOverLog 112 = .ok (.goto 4, 3) := by decide +kernel
theorem dX1_goOverLog_115 : decode cX1_goOverLog 115 = .ok (.iconst 0, 1) := by decide +kernel
theorem dX1_goOverLog_116 : decode cX1_goOverLog 116 = .ok (.invokevirtual 97, 3) := by decide +kernel
theorem dX1_goOverLog_119 : decode cX1_goOverLog 119 = .ok (.pop, 1) := by decide +kernel
theorem dX1_goOverLog_120 : decode cX1_goOverLog 120 = .ok (.iinc 4 1, 3) := by decide +kernel
theorem dX1_goOverLog_123 : decode cX1_goOverLog 123 = .ok (.goto (-113), 3) := by decide +kernel
theorem dX1_goOverLog_126 : decode cX1_goOverLog 126 = .ok (.return_, 1) := by decide +kernel
theorem dX3_init_0 : decode cX3_init 0 = .ok (.aload_n 0, 1) := by decide +kernel
