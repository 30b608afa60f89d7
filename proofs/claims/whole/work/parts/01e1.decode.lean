theorem dX3_init_1 : decode cX3_init 1 = .ok (.invokespecial 3, 3) := by decide +kernel
theorem dX3_init_4 : decode cX3_init 4 = .ok (.aload_n 0, 1) := by decide +kernel
theorem dX3_init_5 : decode cX3_init 5 = .ok (.bipush 16, 2) := by decide +kernel
theorem dX3_init_7 : decode cX3_init 7 = .ok (.bipush 64, 2) := by decide +kernel
theorem dX3_init_9 : decode cX3_init 9 = .ok (.iload_n 1, 1) := by decide +kernel
theorem dX3_init_10 : decode cX3_init 10 = .ok (.invokestatic 9, 3) := by decide +kernel
theorem dX3_init_13 : decode cX3_init 13 = .ok (.invokestatic 15, 3) := by decide +kernel
theorem dX3_init_16 : decode cX3_init 16 = .ok (.putfield 18, 3) := by decide +kernel
theorem dX3_init_19 : decode cX3_init 19 = .ok (.aload_n 0, 1) := by decide +kernel
theorem dX3_init_20 : decode cX3_init 20 = .ok (.aload_n 0, 1) := by decide +kernel
theorem dX3_init_21 : decode cX3_init 21 = .ok (.getfield 18, 3) := by decide +kernel
theorem dX3_init_24 : decode cX3_init 24 = .ok (.bipush 32, 2) := by decide +kernel
theorem dX3_init_26 : decode cX3_init 26 = .ok (.imul, 1) := by decide +kernel
theorem dX3_init_27 : decode cX3_init 27 = .ok (.newarray .byte, 2) := by decide +kernel
theorem dX3_init_29 : decode cX3_init 29 = .ok (.putfield 24, 3) := by decide +kernel
theorem dX3_init_32 : decode cX3_init 32 = .ok (.return_, 1) := by decide +kernel
theorem dX3_size_0 : decode cX3_size 0 = .ok (.aload_n 0, 1) := by decide +kernel
theorem dX3_size_1 : decode cX3_size 1 = .ok (.getfield 18, 3) := by decide +kernel
theorem dX3_size_4 : decode cX3_size 4 = .ok (.ireturn, 1) := by decide +kernel
theorem dX3_behind_0 : decode cX3_behind 0 = .ok (.iload_n 1, 1) := by decide +kernel
theorem dX3_behind_1 : decode cX3_behind 1 = .ok (.ifCond .lt 19, 3) := by decide +kernel
theorem dX3_behind_4 : decode cX3_behind 4 = .ok (.iload_n 1, 1) := by decide +kernel
theorem dX3_behind_5 : decode cX3_behind 5 = .ok (.aload_n 0, 1) := by decide +kernel
theorem dX3_behind_6 : decode cX3_behind 6 = .ok (.getfield 18, 3) := by decide +kernel
theorem dX3_behind_9 : decode cX3_behind 9 = .ok (.iconst 1, 1) := by decide +kernel
theorem dX3_behind_10 : decode cX3_behind 10 = .ok (.isub, 1) := by decide +kernel
theorem dX3_behind_11 : decode cX3_behind 11 = .ok (.if_icmp .ge 9, 3) := by decide +kernel
theorem dX3_behind_14 : decode cX3_behind 14 = .ok (.iload_n 1, 1) := by decide +kernel
theorem dX3_behind_15 : decode cX3_behind 15 = .ok (.iconst 1, 1) := by decide +kernel
theorem dX3_behind_16 : decode cX3_behind 16 = .ok (.iadd, 1) := by decide +kernel
theorem dX3_behind_17 : decode cX3_behind 17 = .ok (.goto 4, 3) := by decide +kernel
theorem dX3_behind_20 : decode cX3_behind 20 = .ok (.iconst 0, 1) := by decide +kernel
theorem dX3_behind_21 : decode cX3_behind 21 = .ok (.ireturn, 1) := by decide +kernel
theorem dX3_stepsBetween_0 : decode cX3_stepsBetween 0 = .ok (.iload_n 2, 1) := by decide +kernel
theorem dX3_stepsBetween_1 : decode cX3_stepsBetween 1 = .ok (.iload_n 1, 1) := by decide +kernel
theorem dX3_stepsBetween_2 : decode cX3_stepsBetween 2 = .ok (.if_icmp .lt 9, 3) := by decide +kernel
theorem dX3_stepsBetween_5 : decode cX3_stepsBetween 5 = .ok (.iload_n 2, 1) := by decide +kernel
theorem dX3_stepsBetween_6 : decode cX3_stepsBetween 6 = .ok (.iload_n 1, 1) := by decide +kernel
theorem dX3_stepsBetween_7 : decode cX3_stepsBetween 7 = .ok (.isub, 1) := by decide +kernel
theorem dX3_stepsBetween_8 : decode cX3_stepsBetween 8 = .ok (.goto 11, 3) := by decide +kernel
theorem dX3_stepsBetween_11 : decode cX3_stepsBetween 11 = .ok (.iload_n 2, 1) := by decide +kernel
theorem dX3_stepsBetween_12 : decode cX3_stepsBetween 12 = .ok (.iload_n 1, 1) := by decide +kernel
theorem dX3_stepsBetween_13 : decode cX3_stepsBetween 13 = .ok (.isub, 1) := by decide +kernel
theorem dX3_stepsBetween_14 : decode cX3_stepsBetween 14 = .ok (.aload_n 0, 1) := by decide +kernel
theorem dX3_stepsBetween_15 : decode cX3_stepsBetween 15 = .ok (.getfield 18, 3) := by decide +kernel
theorem dX3_stepsBetween_18 : decode cX3_stepsBetween 18 = .ok (.iadd, 1) := by decide +kernel
theorem dX3_stepsBetween_19 : decode cX3_stepsBetween 19 = .ok (.ireturn, 1) := by decide +kernel
theorem dX3_byteOf_0 : decode cX3_byteOf 0 = .ok (.iload_n 1, 1) := by decide +kernel
theorem dX3_byteOf_1 : decode cX3_byteOf 1 = .ok (.ifCond .lt 21, 3) := by decide +kernel
theorem dX3_byteOf_4 : decode cX3_byteOf 4 = .ok (.iload_n 1, 1) := by decide +kernel
theorem dX3_byteOf_5 : decode cX3_byteOf 5 = .ok (.aload_n 0, 1) := by decide +kernel
theorem dX3_byteOf_6 : decode cX3_byteOf 6 = .ok (.getfield 18, 3) := by decide +kernel
theorem dX3_byteOf_9 : decode cX3_byteOf 9 = .ok (.if_icmp .ge 13, 3) := by decide +kernel
theorem dX3_byteOf_12 : decode cX3_byteOf 12 = .ok (.iload_n 2, 1) := by decide +kernel
theorem dX3_byteOf_13 : decode cX3_byteOf 13 = .ok (.ifCond .lt 9, 3) := by decide +kernel
theorem dX3_byteOf_16 : decode cX3_byteOf 16 = .ok (.iload_n 2, 1) := by decide +kernel
theorem dX3_byteOf_17 : decode cX3_byteOf 17 = .ok (.bipush 32, 2) := by decide +kernel
theorem dX3_byteOf_19 : decode cX3_byteOf 19 = .ok (.if_icmp .lt 5, 3) := by decide +kernel
theorem dX3_byteOf_22 : decode cX3_byteOf 22 = .ok (.iconst (-1), 1) := by decide +kernel
theorem dX3_byteOf_23 : decode cX3_byteOf 23 = .ok (.ireturn, 1) := by decide +kernel
theorem dX3_byteOf_24 : decode cX3_byteOf 24 = .ok (.aload_n 0, 1) := by decide +kernel
theorem dX3_byteOf_25 : decode cX3_byteOf 25 = .ok (.getfield 24, 3) := by decide +kernel
theorem dX3_byteOf_28 : decode cX3_byteOf 28 = .ok (.iload_n 1, 1) := by decide +kernel
theorem dX3_byteOf_29 : decode cX3_byteOf 29 = .ok (.bipush 32, 2) := by decide +kernel
theorem dX3_byteOf_31 : decode cX3_byteOf 31 = .ok (.imul, 1) := by decide +kernel
theorem dX3_byteOf_32 : decode cX3_byteOf 32 = .ok (.iload_n 2, 1) := by decide +kernel
theorem dX3_byteOf_33 : decode cX3_byteOf 33 = .ok (.iadd, 1) := by decide +kernel
theorem dX3_byteOf_34 : decode cX3_byteOf 34 = .ok (.baload, 1) := by decide +kernel
theorem dX3_byteOf_35 : decode cX3_byteOf 35 = .ok (.sipush 255, 3) := by decide +kernel
theorem dX3_byteOf_38 : decode cX3_byteOf 38 = .ok (.iand, 1) := by decide +kernel
theorem dX3_byteOf_39 : decode cX3_byteOf 39 = .ok (.ireturn, 1) := by decide +kernel
theorem dX3_setByte_0 : decode cX3_setByte 0 = .ok (.iload_n 1, 1) := by decide +kernel
theorem dX3_setByte_1 : decode cX3_setByte 1 = .ok (.ifCond .lt 21, 3) := by decide +kernel
theorem dX3_setByte_4 : decode cX3_setByte 4 = .ok (.iload_n 1, 1) := by decide +kernel
theorem dX3_setByte_5 : decode cX3_setByte 5 = .ok (.aload_n 0, 1) := by decide +kernel
theorem dX3_setByte_6 : decode cX3_setByte 6 = .ok (.getfield 18, 3) := by decide +kernel
theorem dX3_setByte_9 : decode cX3_setByte 9 = .ok (.if_icmp .ge 13, 3) := by decide +kernel
theorem dX3_setByte_12 : decode cX3_setByte 12 = .ok (.iload_n 2, 1) := by decide +kernel
theorem dX3_setByte_13 : decode cX3_setByte 13 = .ok (.ifCond .lt 9, 3) := by decide +kernel
theorem dX3_setByte_16 : decode cX3_setByte 16 = .ok (.iload_n 2, 1) := by decide +kernel
theorem dX3_setByte_17 : decode cX3_setByte 17 = .ok (.bipush 32, 2) := by decide +kernel
theorem dX3_setByte_19 : decode cX3_setByte 19 = .ok (.if_icmp .lt 4, 3) := by decide +kernel
theorem dX3_setByte_22 : decode cX3_setByte 22 = .ok (.return_, 1) := by decide +kernel
theorem dX3_setByte_23 : decode cX3_setByte 23 = .ok (.aload_n 0, 1) := by decide +kernel
theorem dX3_setByte_24 : decode cX3_setByte 24 = .ok (.getfield 24, 3) := by decide +kernel
theorem dX3_setByte_27 : decode cX3_setByte 27 = .ok (.iload_n 1, 1) := by decide +kernel
theorem dX3_setByte_28 : decode cX3_setByte 28 = .ok (.bipush 32, 2) := by decide +kernel
theorem dX3_setByte_30 : decode cX3_setByte 30 = .ok (.imul, 1) := by decide +kernel
theorem dX3_setByte_31 : decode cX3_setByte 31 = .ok (.iload_n 2, 1) := by decide +kernel
theorem dX3_setByte_32 : decode cX3_setByte 32 = .ok (.iadd, 1) := by decide +kernel
theorem dX3_setByte_33 : decode cX3_setByte 33 = .ok (.iload_n 3, 1) := by decide +kernel
theorem dX3_setByte_34 : decode cX3_setByte 34 = .ok (.i2b, 1) := by decide +kernel
theorem dX3_setByte_35 : decode cX3_setByte 35 = .ok (.bastore, 1) := by decide +kernel
theorem dX3_setByte_36 : decode cX3_setByte 36 = .ok (.return_, 1) := by decide +kernel
theorem dX3_numberOf_0 : decode cX3_numberOf 0 = .ok (.iconst 0, 1) := by decide +kernel
theorem dX3_numberOf_1 : decode cX3_numberOf 1 = .ok (.istore 4, 2) := by decide +kernel
theorem dX3_numberOf_3 : decode cX3_numberOf 3 = .ok (.iconst 0, 1) := by decide +kernel
theorem dX3_numberOf_4 : decode cX3_numberOf 4 = .ok (.istore 5, 2) := by decide +kernel
theorem dX3_numberOf_6 : decode cX3_numberOf 6 = .ok (.iload 5, 2) := by decide +kernel
theorem dX3_numberOf_8 : decode cX3_numberOf 8 = .ok (.iload_n 3, 1) := by decide +kernel
theorem dX3_numberOf_9 : decode cX3_numberOf 9 = .ok (.if_icmp .ge 26, 3) := by decide +kernel
theorem dX3_numberOf_12 : decode cX3_numberOf 12 = .ok (.iload 4, 2) := by decide +kernel
theorem dX3_numberOf_14 : decode cX3_numberOf 14 = .ok (.bipush 8, 2) := by decide +kernel
theorem dX3_numberOf_16 : decode cX3_numberOf 16 = .ok (.ishl, 1) := by decide +kernel
theorem dX3_numberOf_17 : decode cX3_numberOf 17 = .ok (.aload_n 0, 1) := by decide +kernel
theorem dX3_numberOf_18 : decode cX3_numberOf 18 = .ok (.iload_n 1, 1) := by decide +kernel
theorem dX3_numberOf_19 : decode cX3_numberOf 19 = .ok (.iload_n 2, 1) := by decide +kernel
theorem dX3_numberOf_20 : decode cX3_numberOf 20 = .ok (.iload 5, 2) := by decide +kernel
theorem dX3_numberOf_22 : decode cX3_numberOf 22 = .ok (.iadd, 1) := by decide +kernel
theorem dX3_numberOf_23 : decode cX3_numberOf 23 = .ok (.invokevirtual 28, 3) := by decide +kernel
theorem dX3_numberOf_26 : decode cX3_numberOf 26 = .ok (.ior, 1) := by decide +kernel
theorem dX3_numberOf_27 : decode cX3_numberOf 27 = .ok (.istore 4, 2) := by decide +kernel
theorem dX3_numberOf_29 : decode cX3_numberOf 29 = .ok (.iinc 5 1, 3) := by decide +kernel
theorem dX3_numberOf_32 : decode cX3_numberOf 32 = .ok (.goto (-26), 3) := by decide +kernel
theorem dX3_numberOf_35 : decode cX3_numberOf 35 = .ok (.iload 4, 2) := by decide +kernel
theorem dX3_numberOf_37 : decode cX3_numberOf 37 = .ok (.ireturn, 1) := by decide +kernel
theorem dX3_setNumber_0 : decode cX3_setNumber 0 = .ok (.iload 4, 2) := by decide +kernel
theorem dX3_setNumber_2 : decode cX3_setNumber 2 = .ok (.istore 5, 2) := by decide +kernel
theorem dX3_setNumber_4 : decode cX3_setNumber 4 = .ok (.iload_n 3, 1) := by decide +kernel
theorem dX3_setNumber_5 : decode cX3_setNumber 5 = .ok (.iconst 1, 1) := by decide +kernel
theorem dX3_setNumber_6 : decode cX3_setNumber 6 = .ok (.isub, 1) := by decide +kernel
theorem dX3_setNumber_7 : decode cX3_setNumber 7 = .ok (.istore 6, 2) := by decide +kernel
theorem dX3_setNumber_9 : decode cX3_setNumber 9 = .ok (.iload 6, 2) := by decide +kernel
theorem dX3_setNumber_11 : decode cX3_setNumber 11 = .ok (.ifCond .lt 27, 3) := by decide +kernel
theorem dX3_setNumber_14 : decode cX3_setNumber 14 = .ok (.aload_n 0, 1) := by decide +kernel
theorem dX3_setNumber_15 : decode cX3_setNumber 15 = .ok (.iload_n 1, 1) := by decide +kernel
theorem dX3_setNumber_16 : decode cX3_setNumber 16 = .ok (.iload_n 2, 1) := by decide +kernel
theorem dX3_setNumber_17 : decode cX3_setNumber 17 = .ok (.iload 6, 2) := by decide +kernel
theorem dX3_setNumber_19 : decode cX3_setNumber 19 = .ok (.iadd, 1) := by decide +kernel
theorem dX3_setNumber_20 : decode cX3_setNumber 20 = .ok (.iload 5, 2) := by decide +kernel
theorem dX3_setNumber_22 : decode cX3_setNumber 22 = .ok (.invokevirtual 31, 3) := by decide +kernel
theorem dX3_setNumber_25 : decode cX3_setNumber 25 = .ok (.iload 5, 2) := by decide +kernel
theorem dX3_setNumber_27 : decode cX3_setNumber 27 = .ok (.bipush 8, 2) := by decide +kernel
theorem dX3_setNumber_29 : decode cX3_setNumber 29 = .ok (.iushr, 1) := by decide +kernel
theorem dX3_setNumber_30 : decode cX3_setNumber 30 = .ok (.istore 5, 2) := by decide +kernel
theorem dX3_setNumber_32 : decode cX3_setNumber 32 = .ok (.iinc 6 (-1), 3) := by decide +kernel
theorem dX3_setNumber_35 : decode cX3_setNumber 35 = .ok (.goto (-26), 3) := by decide +kernel
theorem dX3_setNumber_38 : decode cX3_setNumber 38 = .ok (.return_, 1) := by decide +kernel
theorem dX3_serialOf_0 : decode cX3_serialOf 0 = .ok (.aload_n 0, 1) := by decide +kernel
theorem dX3_serialOf_1 : decode cX3_serialOf 1 = .ok (.iload_n 1, 1) := by decide +kernel
theorem dX3_serialOf_2 : decode cX3_serialOf 2 = .ok (.iconst 1, 1) := by decide +kernel
theorem dX3_serialOf_3 : decode cX3_serialOf 3 = .ok (.iconst 4, 1) := by decide +kernel
theorem dX3_serialOf_4 : decode cX3_serialOf 4 = .ok (.invokevirtual 35, 3) := by decide +kernel
theorem dX3_serialOf_7 : decode cX3_serialOf 7 = .ok (.ireturn, 1) := by decide +kernel
theorem dX3_isSound_0 : decode cX3_isSound 0 = .ok (.aload_n 0, 1) := by decide +kernel
theorem dX3_isSound_1 : decode cX3_isSound 1 = .ok (.iload_n 1, 1) := by decide +kernel
theorem dX3_isSound_2 : decode cX3_isSound 2 = .ok (.bipush 28, 2) := by decide +kernel
theorem dX3_isSound_4 : decode cX3_isSound 4 = .ok (.invokevirtual 28, 3) := by decide +kernel
theorem dX3_isSound_7 : decode cX3_isSound 7 = .ok (.iconst (-1), 1) := by decide +kernel
theorem dX3_isSound_8 : decode cX3_isSound 8 = .ok (.if_icmp .eq 23, 3) := by decide +kernel
theorem dX3_isSound_11 : decode cX3_isSound 11 = .ok (.aload_n 0, 1) := by decide +kernel
theorem dX3_isSound_12 : decode cX3_isSound 12 = .ok (.iload_n 1, 1) := by decide +kernel
theorem dX3_isSound_13 : decode cX3_isSound 13 = .ok (.bipush 28, 2) := by decide +kernel
theorem dX3_isSound_15 : decode cX3_isSound 15 = .ok (.iconst 4, 1) := by decide +kernel
theorem dX3_isSound_16 : decode cX3_isSound 16 = .ok (.invokevirtual 35, 3) := by decide +kernel
theorem dX3_isSound_19 : decode cX3_isSound 19 = .ok (.aload_n 0, 1) := by decide +kernel
theorem dX3_isSound_20 : decode cX3_isSound 20 = .ok (.iload_n 1, 1) := by decide +kernel
theorem dX3_isSound_21 : decode cX3_isSound 21 = .ok (.invokevirtual 39, 3) := by decide +kernel
theorem dX3_isSound_24 : decode cX3_isSound 24 = .ok (.if_icmp .ne 7, 3) := by decide +kernel
theorem dX3_isSound_27 : decode cX3_isSound 27 = .ok (.iconst 1, 1) := by decide +kernel
theorem dX3_isSound_28 : decode cX3_isSound 28 = .ok (.goto 4, 3) := by decide +kernel
theorem dX3_isSound_31 : decode cX3_isSound 31 = .ok (.iconst 0, 1) := by decide +kernel
theorem dX3_isSound_32 : decode cX3_isSound 32 = .ok (.ireturn, 1) := by decide +kernel
theorem dX3_prepare_0 : decode cX3_prepare 0 = .ok (.iconst 0, 1) := by decide +kernel
theorem dX3_prepare_1 : decode cX3_prepare 1 = .ok (.istore 5, 2) := by decide +kernel
theorem dX3_prepare_3 : decode cX3_prepare 3 = .ok (.iload 5, 2) := by decide +kernel
theorem dX3_prepare_5 : decode cX3_prepare 5 = .ok (.bipush 32, 2) := by decide +kernel
theorem dX3_prepare_7 : decode cX3_prepare 7 = .ok (.if_icmp .ge 17, 3) := by decide +kernel
theorem dX3_prepare_10 : decode cX3_prepare 10 = .ok (.aload_n 0, 1) := by decide +kernel
theorem dX3_prepare_11 : decode cX3_prepare 11 = .ok (.iload_n 1, 1) := by decide +kernel
theorem dX3_prepare_12 : decode cX3_prepare 12 = .ok (.iload 5, 2) := by decide +kernel
theorem dX3_prepare_14 : decode cX3_prepare 14 = .ok (.iconst 0, 1) := by decide +kernel
theorem dX3_prepare_15 : decode cX3_prepare 15 = .ok (.invokevirtual 31, 3) := by decide +kernel
theorem dX3_prepare_18 : decode cX3_prepare 18 = .ok (.iinc 5 1, 3) := by decide +kernel
theorem dX3_prepare_21 : decode cX3_prepare 21 = .ok (.goto (-18), 3) := by decide +kernel
theorem dX3_prepare_24 : decode cX3_prepare 24 = .ok (.aload_n 0, 1) := by decide +kernel
theorem dX3_prepare_25 : decode cX3_prepare 25 = .ok (.iload_n 1, 1) := by decide +kernel
theorem dX3_prepare_26 : decode cX3_prepare 26 = .ok (.iconst 0, 1) := by decide +kernel
theorem dX3_prepare_27 : decode cX3_prepare 27 = .ok (.iload_n 2, 1) := by decide +kernel
theorem dX3_prepare_28 : decode cX3_prepare 28 = .ok (.invokevirtual 31, 3) := by decide +kernel
theorem dX3_prepare_31 : decode cX3_prepare 31 = .ok (.aload_n 0, 1) := by decide +kernel
theorem dX3_prepare_32 : decode cX3_prepare 32 = .ok (.iload_n 1, 1) := by decide +kernel
theorem dX3_prepare_33 : decode cX3_prepare 33 = .ok (.iconst 1, 1) := by decide +kernel
theorem dX3_prepare_34 : decode cX3_prepare 34 = .ok (.iconst 4, 1) := by decide +kernel
theorem dX3_prepare_35 : decode cX3_prepare 35 = .ok (.iload_n 3, 1) := by decide +kernel
theorem dX3_prepare_36 : decode cX3_prepare 36 = .ok (.invokevirtual 43, 3) := by decide +kernel
theorem dX3_prepare_39 : decode cX3_prepare 39 = .ok (.aload_n 0, 1) := by decide +kernel
theorem dX3_prepare_40 : decode cX3_prepare 40 = .ok (.iload_n 1, 1) := by decide +kernel
theorem dX3_prepare_41 : decode cX3_prepare 41 = .ok (.iconst 5, 1) := by decide +kernel
theorem dX3_prepare_42 : decode cX3_prepare 42 = .ok (.iload 4, 2) := by decide +kernel
theorem dX3_prepare_44 : decode cX3_prepare 44 = .ok (.invokevirtual 31, 3) := by decide +kernel
theorem dX3_prepare_47 : decode cX3_prepare 47 = .ok (.return_, 1) := by decide +kernel
theorem dX3_seal_0 : decode cX3_seal 0 = .ok (.aload_n 0, 1) := by decide +kernel
theorem dX3_seal_1 : decode cX3_seal 1 = .ok (.iload_n 1, 1) := by decide +kernel
theorem dX3_seal_2 : decode cX3_seal 2 = .ok (.bipush 28, 2) := by decide +kernel
theorem dX3_seal_4 : decode cX3_seal 4 = .ok (.iconst 4, 1) := by decide +kernel
theorem dX3_seal_5 : decode cX3_seal 5 = .ok (.aload_n 0, 1) := by decide +kernel
theorem dX3_seal_6 : decode cX3_seal 6 = .ok (.iload_n 1, 1) := by decide +kernel
theorem dX3_seal_7 : decode cX3_seal 7 = .ok (.invokevirtual 39, 3) := by decide +kernel
theorem dX3_seal_10 : decode cX3_seal 10 = .ok (.invokevirtual 43, 3) := by decide +kernel
theorem dX3_seal_13 : decode cX3_seal 13 = .ok (.return_, 1) := by decide +kernel
theorem dX3_copyStart_0 : decode cX3_copyStart 0 = .ok (.iconst 0, 1) := by decide +kernel
theorem dX3_copyStart_1 : decode cX3_copyStart 1 = .ok (.istore 4, 2) := by decide +kernel
theorem dX3_copyStart_3 : decode cX3_copyStart 3 = .ok (.iload 4, 2) := by decide +kernel
theorem dX3_copyStart_5 : decode cX3_copyStart 5 = .ok (.iload_n 3, 1) := by decide +kernel
theorem dX3_copyStart_6 : decode cX3_copyStart 6 = .ok (.if_icmp .ge 30, 3) := by decide +kernel
theorem dX3_copyStart_9 : decode cX3_copyStart 9 = .ok (.iload 4, 2) := by decide +kernel
theorem dX3_copyStart_11 : decode cX3_copyStart 11 = .ok (.bipush 32, 2) := by decide +kernel
theorem dX3_copyStart_13 : decode cX3_copyStart 13 = .ok (.if_icmp .ge 23, 3) := by decide +kernel
theorem dX3_copyStart_16 : decode cX3_copyStart 16 = .ok (.aload_n 0, 1) := by decide +kernel
theorem dX3_copyStart_17 : decode cX3_copyStart 17 = .ok (.iload_n 2, 1) := by decide +kernel
theorem dX3_copyStart_18 : decode cX3_copyStart 18 = .ok (.iload 4, 2) := by decide +kernel
theorem dX3_copyStart_20 : decode cX3_copyStart 20 = .ok (.aload_n 1, 1) := by decide +kernel
theorem dX3_copyStart_21 : decode cX3_copyStart 21 = .ok (.iload_n 2, 1) := by decide +kernel
theorem dX3_copyStart_22 : decode cX3_copyStart 22 = .ok (.iload 4, 2) := by decide +kernel
theorem dX3_copyStart_24 : decode cX3_copyStart 24 = .ok (.invokevirtual 28, 3) := by decide +kernel
theorem dX3_copyStart_27 : decode cX3_copyStart 27 = .ok (.invokevirtual 31, 3) := by decide +kernel
theorem dX3_copyStart_30 : decode cX3_copyStart 30 = .ok (.iinc 4 1, 3) := by decide +kernel
theorem dX3_copyStart_33 : decode cX3_copyStart 33 = .ok (.goto (-30), 3) := by decide +kernel
theorem dX3_copyStart_36 : decode cX3_copyStart 36 = .ok (.return_, 1) := by decide +kernel
theorem dX3_clear_0 : decode cX3_clear 0 = .ok (.iconst 0, 1) := by decide +kernel
theorem dX3_clear_1 : decode cX3_clear 1 = .ok (.istore_n 1, 1) := by decide +kernel
theorem dX3_clear_2 : decode cX3_clear 2 = .ok (.iload_n 1, 1) := by decide +kernel
theorem dX3_clear_3 : decode cX3_clear 3 = .ok (.aload_n 0, 1) := by decide +kernel
theorem dX3_clear_4 : decode cX3_clear 4 = .ok (.getfield 24, 3) := by decide +kernel
theorem dX3_clear_7 : decode cX3_clear 7 = .ok (.arraylength, 1) := by decide +kernel
theorem dX3_clear_8 : decode cX3_clear 8 = .ok (.if_icmp .ge 16, 3) := by decide +kernel
theorem dX3_clear_11 : decode cX3_clear 11 = .ok (.aload_n 0, 1) := by decide +kernel
theorem dX3_clear_12 : decode cX3_clear 12 = .ok (.getfield 24, 3) := by decide +kernel
theorem dX3_clear_15 : decode cX3_clear 15 = .ok (.iload_n 1, 1) := by decide +kernel
theorem dX3_clear_16 : decode cX3_clear 16 = .ok (.iconst 0, 1) := by decide +kernel
theorem dX3_clear_17 : decode cX3_clear 17 = .ok (.bastore, 1) := by decide +kernel
theorem dX3_clear_18 : decode cX3_clear 18 = .ok (.iinc 1 1, 3) := by decide +kernel
theorem dX3_clear_21 : decode cX3_clear 21 = .ok (.goto (-19), 3) := by decide +kernel
theorem dX3_clear_24 : decode cX3_clear 24 = .ok (.return_, 1) := by decide +kernel
theorem dX3_sumOf_0 : decode cX3_sumOf 0 = .ok (.iload_n 1, 1) := by decide +kernel
theorem dX3_sumOf_1 : decode cX3_sumOf 1 = .ok (.ifCond .lt 11, 3) := by decide +kernel
theorem dX3_sumOf_4 : decode cX3_sumOf 4 = .ok (.iload_n 1, 1) := by decide +kernel
theorem dX3_sumOf_5 : decode cX3_sumOf 5 = .ok (.aload_n 0, 1) := by decide +kernel
theorem dX3_sumOf_6 : decode cX3_sumOf 6 = .ok (.getfield 18, 3) := by decide +kernel
theorem dX3_sumOf_9 : decode cX3_sumOf 9 = .ok (.if_icmp .lt 5, 3) := by decide +kernel
theorem dX3_sumOf_12 : decode cX3_sumOf 12 = .ok (.iconst 0, 1) := by decide +kernel
theorem dX3_sumOf_13 : decode cX3_sumOf 13 = .ok (.ireturn, 1) := by decide +kernel
theorem dX3_sumOf_14 : decode cX3_sumOf 14 = .ok (.iload_n 1, 1) := by decide +kernel
theorem dX3_sumOf_15 : decode cX3_sumOf 15 = .ok (.bipush 32, 2) := by decide +kernel
theorem dX3_sumOf_17 : decode cX3_sumOf 17 = .ok (.imul, 1) := by decide +kernel
theorem dX3_sumOf_18 : decode cX3_sumOf 18 = .ok (.istore_n 2, 1) := by decide +kernel
theorem dX3_sumOf_19 : decode cX3_sumOf 19 = .ok (.iload_n 1, 1) := by decide +kernel
theorem dX3_sumOf_20 : decode cX3_sumOf 20 = .ok (.iconst 1, 1) := by decide +kernel
theorem dX3_sumOf_21 : decode cX3_sumOf 21 = .ok (.iadd, 1) := by decide +kernel
theorem dX3_sumOf_22 : decode cX3_sumOf 22 = .ok (.istore_n 3, 1) := by decide +kernel
theorem dX3_sumOf_23 : decode cX3_sumOf 23 = .ok (.iconst 0, 1) := by decide +kernel
theorem dX3_sumOf_24 : decode cX3_sumOf 24 = .ok (.istore 4, 2) := by decide +kernel
theorem dX3_sumOf_26 : decode cX3_sumOf 26 = .ok (.iload 4, 2) := by decide +kernel
theorem dX3_sumOf_28 : decode cX3_sumOf 28 = .ok (.bipush 28, 2) := by decide +kernel
theorem dX3_sumOf_30 : decode cX3_sumOf 30 = .ok (.if_icmp .ge 41, 3) := by decide +kernel
theorem dX3_sumOf_33 : decode cX3_sumOf 33 = .ok (.iload_n 3, 1) := by decide +kernel
theorem dX3_sumOf_34 : decode cX3_sumOf 34 = .ok (.aload_n 0, 1) := by decide +kernel
theorem dX3_sumOf_35 : decode cX3_sumOf 35 = .ok (.getfield 24, 3) := by decide +kernel
theorem dX3_sumOf_38 : decode cX3_sumOf 38 = .ok (.iload_n 2, 1) := by decide +kernel
theorem dX3_sumOf_39 : decode cX3_sumOf 39 = .ok (.iload 4, 2) := by decide +kernel
theorem dX3_sumOf_41 : decode cX3_sumOf 41 = .ok (.iadd, 1) := by decide +kernel
theorem dX3_sumOf_42 : decode cX3_sumOf 42 = .ok (.baload, 1) := by decide +kernel
theorem dX3_sumOf_43 : decode cX3_sumOf 43 = .ok (.sipush 255, 3) := by decide +kernel
theorem dX3_sumOf_46 : decode cX3_sumOf 46 = .ok (.iand, 1) := by decide +kernel
theorem dX3_sumOf_47 : decode cX3_sumOf 47 = .ok (.ixor, 1) := by decide +kernel
theorem dX3_sumOf_48 : decode cX3_sumOf 48 = .ok (.istore 5, 2) := by decide +kernel
theorem dX3_sumOf_50 : decode cX3_sumOf 50 = .ok (.iload 5, 2) := by decide +kernel
theorem dX3_sumOf_52 : decode cX3_sumOf 52 = .ok (.bipush 11, 2) := by decide +kernel
theorem dX3_sumOf_54 : decode cX3_sumOf 54 = .ok (.ishl, 1) := by decide +kernel
theorem dX3_sumOf_55 : decode cX3_sumOf 55 = .ok (.iload 5, 2) := by decide +kernel
theorem dX3_sumOf_57 : decode cX3_sumOf 57 = .ok (.bipush 21, 2) := by decide +kernel
theorem dX3_sumOf_59 : decode cX3_sumOf 59 = .ok (.iushr, 1) := by decide +kernel
theorem dX3_sumOf_60 : decode cX3_sumOf 60 = .ok (.ior, 1) := by decide +kernel
theorem dX3_sumOf_61 : decode cX3_sumOf 61 = .ok (.ldc 47, 2) := by decide +kernel
theorem dX3_sumOf_63 : decode cX3_sumOf 63 = .ok (.imul, 1) := by decide +kernel
theorem dX3_sumOf_64 : decode cX3_sumOf 64 = .ok (.istore_n 3, 1) := by decide +kernel
theorem dX3_sumOf_65 : decode cX3_sumOf 65 = .ok (.iinc 4 1, 3) := by decide +kernel
theorem dX3_sumOf_68 : decode cX3_sumOf 68 = .ok (.goto (-42), 3) := by decide +kernel
theorem dX3_sumOf_71 : decode cX3_sumOf 71 = .ok (.iload_n 3, 1) := by decide +kernel
theorem dX3_sumOf_72 : decode cX3_sumOf 72 = .ok (.ireturn, 1) := by decide +kernel
theorem dJ9_max_7cf53_0 : decode cJ9_max_7cf53 0 = .ok (.iload_n 0, 1) := by decide +kernel
theorem dJ9_max_7cf53_1 : decode cJ9_max_7cf53 1 = .ok (.iload_n 1, 1) := by decide +kernel
theorem dJ9_max_7cf53_2 : decode cJ9_max_7cf53 2 = .ok (.if_icmp .lt 7, 3) := by decide +kernel
theorem dJ9_max_7cf53_5 : decode cJ9_max_7cf53 5 = .ok (.iload_n 0, 1) := by decide +kernel
theorem dJ9_max_7cf53_6 : decode cJ9_max_7cf53 6 = .ok (.goto 4, 3) := by decide +kernel
theorem dJ9_max_7cf53_9 : decode cJ9_max_7cf53 9 = .ok (.iload_n 1, 1) := by decide +kernel
theorem dJ9_max_7cf53_10 : decode cJ9_max_7cf53 10 = .ok (.ireturn, 1) := by decide +kernel
theorem dJ9_min_7cf53_0 : decode cJ9_min_7cf53 0 = .ok (.iload_n 0, 1) := by decide +kernel
theorem dJ9_min_7cf53_1 : decode cJ9_min_7cf53 1 = .ok (.iload_n 1, 1) := by decide +kernel
theorem dJ9_min_7cf53_2 : decode cJ9_min_7cf53 2 = .ok (.if_icmp .gt 7, 3) := by decide +kernel
theorem dJ9_min_7cf53_5 : decode cJ9_min_7cf53 5 = .ok (.iload_n 0, 1) := by decide +kernel
theorem dJ9_min_7cf53_6 : decode cJ9_min_7cf53 6 = .ok (.goto 4, 3) := by decide +kernel
theorem dJ9_min_7cf53_9 : decode cJ9_min_7cf53 9 = .ok (.iload_n 1, 1) := by decide +kernel
theorem dJ9_min_7cf53_10 : decode cJ9_min_7cf53 10 = .ok (.ireturn, 1) := by decide +kernel
theorem dX2_init_0 : decode cX2_init 0 = .ok (.aload_n 0, 1) := by decide +kernel
theorem dX2_init_1 : decode cX2_init 1 = .ok (.invokespecial 3, 3) := by decide +kernel
theorem dX2_init_4 : decode cX2_init 4 = .ok (.aload_n 0, 1) := by decide +kernel
theorem dX2_init_5 : decode cX2_init 5 = .ok (.iconst 4, 1) := by decide +kernel
theorem dX2_init_6 : decode cX2_init 6 = .ok (.newarray .int, 2) := by decide +kernel
theorem dX2_init_8 : decode cX2_init 8 = .ok (.putfield 9, 3) := by decide +kernel
theorem dX2_init_11 : decode cX2_init 11 = .ok (.aload_n 0, 1) := by decide +kernel
theorem dX2_init_12 : decode cX2_init 12 = .ok (.iconst 4, 1) := by decide +kernel
theorem dX2_init_13 : decode cX2_init 13 = .ok (.newarray .int, 2) := by decide +kernel
theorem dX2_init_15 : decode cX2_init 15 = .ok (.putfield 15, 3) := by decide +kernel
theorem dX2_init_18 : decode cX2_init 18 = .ok (.aload_n 0, 1) := by decide +kernel
theorem dX2_init_19 : decode cX2_init 19 = .ok (.iconst 4, 1) := by decide +kernel
theorem dX2_init_20 : decode cX2_init 20 = .ok (.newarray .int, 2) := by decide +kernel
theorem dX2_init_22 : decode cX2_init 22 = .ok (.putfield 18, 3) := by decide +kernel
theorem dX2_init_25 : decode cX2_init 25 = .ok (.aload_n 0, 1) := by decide +kernel
theorem dX2_init_26 : decode cX2_init 26 = .ok (.new 21, 3) := by decide +kernel
theorem dX2_init_29 : decode cX2_init 29 = .ok (.dup, 1) := by decide +kernel
theorem dX2_init_30 : decode cX2_init 30 = .ok (.iload_n 1, 1) := by decide +kernel
theorem dX2_init_31 : decode cX2_init 31 = .ok (.invokespecial 23, 3) := by decide +kernel
theorem dX2_init_34 : decode cX2_init 34 = .ok (.putfield 26, 3) := by decide +kernel
theorem dX2_init_37 : decode cX2_init 37 = .ok (.aload_n 0, 1) := by decide +kernel
theorem dX2_init_38 : decode cX2_init 38 = .ok (.new 21, 3) := by decide +kernel
theorem dX2_init_41 : decode cX2_init 41 = .ok (.dup, 1) := by decide +kernel
theorem dX2_init_42 : decode cX2_init 42 = .ok (.iload_n 1, 1) := by decide +kernel
theorem dX2_init_43 : decode cX2_init 43 = .ok (.invokespecial 23, 3) := by decide +kernel
theorem dX2_init_46 : decode cX2_init 46 = .ok (.putfield 30, 3) := by decide +kernel
theorem dX2_init_49 : decode cX2_init 49 = .ok (.aload_n 0, 1) := by decide +kernel
theorem dX2_init_50 : decode cX2_init 50 = .ok (.invokevirtual 33, 3) := by decide +kernel
theorem dX2_init_53 : decode cX2_init 53 = .ok (.return_, 1) := by decide +kernel
theorem dX2_beginAnew_0 : decode cX2_beginAnew 0 = .ok (.aload_n 0, 1) := by decide +kernel
theorem dX2_beginAnew_1 : decode cX2_beginAnew 1 = .ok (.getfield 26, 3) := by decide +kernel
theorem dX2_beginAnew_4 : decode cX2_beginAnew 4 = .ok (.invokevirtual 36, 3) := by decide +kernel
theorem dX2_beginAnew_7 : decode cX2_beginAnew 7 = .ok (.aload_n 0, 1) := by decide +kernel
theorem dX2_beginAnew_8 : decode cX2_beginAnew 8 = .ok (.getfield 26, 3) := by decide +kernel
theorem dX2_beginAnew_11 : decode cX2_beginAnew 11 = .ok (.iconst 0, 1) := by decide +kernel
theorem dX2_beginAnew_12 : decode cX2_beginAnew 12 = .ok (.iconst 2, 1) := by decide +kernel
theorem dX2_beginAnew_13 : decode cX2_beginAnew 13 = .ok (.iconst 1, 1) := by decide +kernel
theorem dX2_beginAnew_14 : decode cX2_beginAnew 14 = .ok (.iconst 0, 1) := by decide +kernel
theorem dX2_beginAnew_15 : decode cX2_beginAnew 15 = .ok (.invokevirtual 39, 3) := by decide +kernel
theorem dX2_beginAnew_18 : decode cX2_beginAnew 18 = .ok (.aload_n 0, 1) := by decide +kernel
theorem dX2_beginAnew_19 : decode cX2_beginAnew 19 = .ok (.getfield 26, 3) := by decide +kernel
theorem dX2_beginAnew_22 : decode cX2_beginAnew 22 = .ok (.iconst 0, 1) := by decide +kernel
theorem dX2_beginAnew_23 : decode cX2_beginAnew 23 = .ok (.bipush 27, 2) := by decide +kernel
theorem dX2_beginAnew_25 : decode cX2_beginAnew 25 = .ok (.iconst 1, 1) := by decide +kernel
theorem dX2_beginAnew_26 : decode cX2_beginAnew 26 = .ok (.invokevirtual 43, 3) := by decide +kernel
theorem dX2_beginAnew_29 : decode cX2_beginAnew 29 = .ok (.aload_n 0, 1) := by decide +kernel
theorem dX2_beginAnew_30 : decode cX2_beginAnew 30 = .ok (.getfield 26, 3) := by decide +kernel
theorem dX2_beginAnew_33 : decode cX2_beginAnew 33 = .ok (.iconst 0, 1) := by decide +kernel
theorem dX2_beginAnew_34 : decode cX2_beginAnew 34 = .ok (.invokevirtual 47, 3) := by decide +kernel
theorem dX2_beginAnew_37 : decode cX2_beginAnew 37 = .ok (.aload_n 0, 1) := by decide +kernel
theorem dX2_beginAnew_38 : decode cX2_beginAnew 38 = .ok (.iconst 1, 1) := by decide +kernel
theorem dX2_beginAnew_39 : decode cX2_beginAnew 39 = .ok (.putfield 50, 3) := by decide +kernel
theorem dX2_beginAnew_42 : decode cX2_beginAnew 42 = .ok (.aload_n 0, 1) := by decide +kernel
theorem dX2_beginAnew_43 : decode cX2_beginAnew 43 = .ok (.iconst 0, 1) := by decide +kernel
theorem dX2_beginAnew_44 : decode cX2_beginAnew 44 = .ok (.putfield 54, 3) := by decide +kernel
theorem dX2_beginAnew_47 : decode cX2_beginAnew 47 = .ok (.aload_n 0, 1) := by decide +kernel
theorem dX2_beginAnew_48 : decode cX2_beginAnew 48 = .ok (.iconst 0, 1) := by decide +kernel
theorem dX2_beginAnew_49 : decode cX2_beginAnew 49 = .ok (.putfield 57, 3) := by decide +kernel
theorem dX2_beginAnew_52 : decode cX2_beginAnew 52 = .ok (.aload_n 0, 1) := by decide +kernel
theorem dX2_beginAnew_53 : decode cX2_beginAnew 53 = .ok (.invokevirtual 60, 3) := by decide +kernel
theorem dX2_beginAnew_56 : decode cX2_beginAnew 56 = .ok (.return_, 1) := by decide +kernel
theorem dX2_entries_0 : decode cX2_entries 0 = .ok (.aload_n 0, 1) := by decide +kernel
theorem dX2_entries_1 : decode cX2_entries 1 = .ok (.getfield 63, 3) := by decide +kernel
theorem dX2_entries_4 : decode cX2_entries 4 = .ok (.ireturn, 1) := by decide +kernel
theorem dX2_waiting_0 : decode cX2_waiting 0 = .ok (.aload_n 0, 1) := by decide +kernel
theorem dX2_waiting_1 : decode cX2_waiting 1 = .ok (.getfield 66, 3) := by decide +kernel
theorem dX2_waiting_4 : decode cX2_waiting 4 = .ok (.ireturn, 1) := by decide +kernel
theorem dX2_lastSerial_0 : decode cX2_lastSerial 0 = .ok (.aload_n 0, 1) := by decide +kernel
theorem dX2_lastSerial_1 : decode cX2_lastSerial 1 = .ok (.getfield 50, 3) := by decide +kernel
theorem dX2_lastSerial_4 : decode cX2_lastSerial 4 = .ok (.ireturn, 1) := by decide +kernel
theorem dX2_lastSector_0 : decode cX2_lastSector 0 = .ok (.aload_n 0, 1) := by decide +kernel
theorem dX2_lastSector_1 : decode cX2_lastSector 1 = .ok (.getfield 54, 3) := by decide +kernel
theorem dX2_lastSector_4 : decode cX2_lastSector 4 = .ok (.ireturn, 1) := by decide +kernel
theorem dX2_needed_0 : decode cX2_needed 0 = .ok (.aload_n 0, 1) := by decide +kernel
theorem dX2_needed_1 : decode cX2_needed 1 = .ok (.getfield 26, 3) := by decide +kernel
theorem dX2_needed_4 : decode cX2_needed 4 = .ok (.aload_n 0, 1) := by decide +kernel
theorem dX2_needed_5 : decode cX2_needed 5 = .ok (.getfield 57, 3) := by decide +kernel
theorem dX2_needed_8 : decode cX2_needed 8 = .ok (.aload_n 0, 1) := by decide +kernel
theorem dX2_needed_9 : decode cX2_needed 9 = .ok (.getfield 54, 3) := by decide +kernel
theorem dX2_needed_12 : decode cX2_needed 12 = .ok (.invokevirtual 69, 3) := by decide +kernel
theorem dX2_needed_15 : decode cX2_needed 15 = .ok (.iconst 1, 1) := by decide +kernel
theorem dX2_needed_16 : decode cX2_needed 16 = .ok (.iadd, 1) := by decide +kernel
theorem dX2_needed_17 : decode cX2_needed 17 = .ok (.ireturn, 1) := by decide +kernel
theorem dX2_hasRoom_0 : decode cX2_hasRoom 0 = .ok (.aload_n 0, 1) := by decide +kernel
theorem dX2_hasRoom_1 : decode cX2_hasRoom 1 = .ok (.invokevirtual 73, 3) := by decide +kernel
theorem dX2_hasRoom_4 : decode cX2_hasRoom 4 = .ok (.iload_n 1, 1) := by decide +kernel
theorem dX2_hasRoom_5 : decode cX2_hasRoom 5 = .ok (.iadd, 1) := by decide +kernel
theorem dX2_hasRoom_6 : decode cX2_hasRoom 6 = .ok (.aload_n 0, 1) := by decide +kernel
theorem dX2_hasRoom_7 : decode cX2_hasRoom 7 = .ok (.getfield 26, 3) := by decide +kernel
theorem dX2_hasRoom_10 : decode cX2_hasRoom 10 = .ok (.invokevirtual 77, 3) := by decide +kernel
theorem dX2_hasRoom_13 : decode cX2_hasRoom 13 = .ok (.if_icmp .gt 7, 3) := by decide +kernel
theorem dX2_hasRoom_16 : decode cX2_hasRoom 16 = .ok (.iconst 1, 1) := by decide +kernel
theorem dX2_hasRoom_17 : decode cX2_hasRoom 17 = .ok (.goto 4, 3) := by decide +kernel
theorem dX2_hasRoom_20 : decode cX2_hasRoom 20 = .ok (.iconst 0, 1) := by decide +kernel
theorem dX2_hasRoom_21 : decode cX2_hasRoom 21 = .ok (.ireturn, 1) := by decide +kernel
theorem dX2_logsDue_0 : decode cX2_logsDue 0 = .ok (.aload_n 0, 1) := by decide +kernel
theorem dX2_logsDue_1 : decode cX2_logsDue 1 = .ok (.getfield 63, 3) := by decide +kernel
theorem dX2_logsDue_4 : decode cX2_logsDue 4 = .ok (.ifCond .le 7, 3) := by decide +kernel
theorem dX2_logsDue_7 : decode cX2_logsDue 7 = .ok (.iconst 1, 1) := by decide +kernel
theorem dX2_logsDue_8 : decode cX2_logsDue 8 = .ok (.goto 4, 3) := by decide +kernel
theorem dX2_logsDue_11 : decode cX2_logsDue 11 = .ok (.iconst 0, 1) := by decide +kernel
theorem dX2_logsDue_12 : decode cX2_logsDue 12 = .ok (.ireturn, 1) := by decide +kernel
theorem dX2_canTakeEntry_0 : decode cX2_canTakeEntry 0 = .ok (.aload_n 0, 1) := by decide +kernel
theorem dX2_canTakeEntry_1 : decode cX2_canTakeEntry 1 = .ok (.getfield 63, 3) := by decide +kernel
theorem dX2_canTakeEntry_4 : decode cX2_canTakeEntry 4 = .ok (.iconst 3, 1) := by decide +kernel
theorem dX2_canTakeEntry_5 : decode cX2_canTakeEntry 5 = .ok (.if_icmp .lt 11, 3) := by decide +kernel
theorem dX2_canTakeEntry_8 : decode cX2_canTakeEntry 8 = .ok (.aload_n 0, 1) := by decide +kernel
theorem dX2_canTakeEntry_9 : decode cX2_canTakeEntry 9 = .ok (.iconst 1, 1) := by decide +kernel
theorem dX2_canTakeEntry_10 : decode cX2_canTakeEntry 10 = .ok (.invokevirtual 80, 3) := by decide +kernel
theorem dX2_canTakeEntry_13 : decode cX2_canTakeEntry 13 = .ok (.ifCond .eq 7, 3) := by decide +kernel
theorem dX2_canTakeEntry_16 : decode cX2_canTakeEntry 16 = .ok (.iconst 1, 1) := by decide +kernel
theorem dX2_canTakeEntry_17 : decode cX2_canTakeEntry 17 = .ok (.goto 4, 3) := by decide +kernel
theorem dX2_canTakeEntry_20 : decode cX2_canTakeEntry 20 = .ok (.iconst 0, 1) := by decide +kernel
theorem dX2_canTakeEntry_21 : decode cX2_canTakeEntry 21 = .ok (.ireturn, 1) := by decide +kernel
theorem dX2_takeEntry_0 : decode cX2_takeEntry 0 = .ok (.aload_n 0, 1) := by decide +kernel
theorem dX2_takeEntry_1 : decode cX2_takeEntry 1 = .ok (.getfield 63, 3) := by decide +kernel
theorem dX2_takeEntry_4 : decode cX2_takeEntry 4 = .ok (.ifCond .lt 11, 3) := by decide +kernel
theorem dX2_takeEntry_7 : decode cX2_takeEntry 7 = .ok (.aload_n 0, 1) := by decide +kernel
theorem dX2_takeEntry_8 : decode cX2_takeEntry 8 = .ok (.getfield 63, 3) := by decide +kernel
theorem dX2_takeEntry_11 : decode cX2_takeEntry 11 = .ok (.iconst 4, 1) := by decide +kernel
theorem dX2_takeEntry_12 : decode cX2_takeEntry 12 = .ok (.if_icmp .lt 4, 3) := by decide +kernel
theorem dX2_takeEntry_15 : decode cX2_takeEntry 15 = .ok (.return_, 1) := by decide +kernel
theorem dX2_takeEntry_16 : decode cX2_takeEntry 16 = .ok (.aload_n 0, 1) := by decide +kernel
theorem dX2_takeEntry_17 : decode cX2_takeEntry 17 = .ok (.getfield 9, 3) := by decide +kernel
theorem dX2_takeEntry_20 : decode cX2_takeEntry 20 = .ok (.aload_n 0, 1) := by decide +kernel
theorem dX2_takeEntry_21 : decode cX2_takeEntry 21 = .ok (.getfield 63, 3) := by decide +kernel
theorem dX2_takeEntry_24 : decode cX2_takeEntry 24 = .ok (.iconst 4, 1) := by decide +kernel
theorem dX2_takeEntry_25 : decode cX2_takeEntry 25 = .ok (.iload_n 1, 1) := by decide +kernel
theorem dX2_takeEntry_26 : decode cX2_takeEntry 26 = .ok (.imul, 1) := by decide +kernel
theorem dX2_takeEntry_27 : decode cX2_takeEntry 27 = .ok (.iload_n 2, 1) := by decide +kernel
theorem dX2_takeEntry_28 : decode cX2_takeEntry 28 = .ok (.iadd, 1) := by decide +kernel
theorem dX2_takeEntry_29 : decode cX2_takeEntry 29 = .ok (.iastore, 1) := by decide +kernel
theorem dX2_takeEntry_30 : decode cX2_takeEntry 30 = .ok (.aload_n 0, 1) := by decide +kernel
theorem dX2_takeEntry_31 : decode cX2_takeEntry 31 = .ok (.getfield 15, 3) := by decide +kernel
theorem dX2_takeEntry_34 : decode cX2_takeEntry 34 = .ok (.aload_n 0, 1) := by decide +kernel
theorem dX2_takeEntry_35 : decode cX2_takeEntry 35 = .ok (.getfield 63, 3) := by decide +kernel
theorem dX2_takeEntry_38 : decode cX2_takeEntry 38 = .ok (.iload_n 3, 1) := by decide +kernel
theorem dX2_takeEntry_39 : decode cX2_takeEntry 39 = .ok (.iastore, 1) := by decide +kernel
theorem dX2_takeEntry_40 : decode cX2_takeEntry 40 = .ok (.aload_n 0, 1) := by decide +kernel
theorem dX2_takeEntry_41 : decode cX2_takeEntry 41 = .ok (.getfield 18, 3) := by decide +kernel
theorem dX2_takeEntry_44 : decode cX2_takeEntry 44 = .ok (.aload_n 0, 1) := by decide +kernel
theorem dX2_takeEntry_45 : decode cX2_takeEntry 45 = .ok (.getfield 63, 3) := by decide +kernel
theorem dX2_takeEntry_48 : decode cX2_takeEntry 48 = .ok (.iload 4, 2) := by decide +kernel
theorem dX2_takeEntry_50 : decode cX2_takeEntry 50 = .ok (.iastore, 1) := by decide +kernel
theorem dX2_takeEntry_51 : decode cX2_takeEntry 51 = .ok (.aload_n 0, 1) := by decide +kernel
theorem dX2_takeEntry_52 : decode cX2_takeEntry 52 = .ok (.dup, 1) := by decide +kernel
theorem dX2_takeEntry_53 : decode cX2_takeEntry 53 = .ok (.getfield 63, 3) := by decide +kernel
theorem dX2_takeEntry_56 : decode cX2_takeEntry 56 = .ok (.iconst 1, 1) := by decide +kernel
theorem dX2_takeEntry_57 : decode cX2_takeEntry 57 = .ok (.iadd, 1) := by decide +kernel
theorem dX2_takeEntry_58 : decode cX2_takeEntry 58 = .ok (.putfield 63, 3) := by decide +kernel
theorem dX2_takeEntry_61 : decode cX2_takeEntry 61 = .ok (.aload_n 0, 1) := by decide +kernel
theorem dX2_takeEntry_62 : decode cX2_takeEntry 62 = .ok (.getfield 63, 3) := by decide +kernel
theorem dX2_takeEntry_65 : decode cX2_takeEntry 65 = .ok (.iconst 4, 1) := by decide +kernel
theorem dX2_takeEntry_66 : decode cX2_takeEntry 66 = .ok (.if_icmp .ne 7, 3) := by decide +kernel
theorem dX2_takeEntry_69 : decode cX2_takeEntry 69 = .ok (.aload_n 0, 1) := by decide +kernel
theorem dX2_takeEntry_70 : decode cX2_takeEntry 70 = .ok (.invokevirtual 84, 3) := by decide +kernel
theorem dX2_takeEntry_73 : decode cX2_takeEntry 73 = .ok (.return_, 1) := by decide +kernel
theorem dX2_writeLog_0 : decode cX2_writeLog 0 = .ok (.aload_n 0, 1) := by decide +kernel
theorem dX2_writeLog_1 : decode cX2_writeLog 1 = .ok (.getfield 63, 3) := by decide +kernel
theorem dX2_writeLog_4 : decode cX2_writeLog 4 = .ok (.ifCond .ne 4, 3) := by decide +kernel
theorem dX2_writeLog_7 : decode cX2_writeLog 7 = .ok (.return_, 1) := by decide +kernel
theorem dX2_writeLog_8 : decode cX2_writeLog 8 = .ok (.aload_n 0, 1) := by decide +kernel
theorem dX2_writeLog_9 : decode cX2_writeLog 9 = .ok (.invokevirtual 87, 3) := by decide +kernel
theorem dX2_writeLog_12 : decode cX2_writeLog 12 = .ok (.aload_n 0, 1) := by decide +kernel
theorem dX2_writeLog_13 : decode cX2_writeLog 13 = .ok (.getfield 30, 3) := by decide +kernel
theorem dX2_writeLog_16 : decode cX2_writeLog 16 = .ok (.aload_n 0, 1) := by decide +kernel
theorem dX2_writeLog_17 : decode cX2_writeLog 17 = .ok (.getfield 54, 3) := by decide +kernel
theorem dX2_writeLog_20 : decode cX2_writeLog 20 = .ok (.iconst 1, 1) := by decide +kernel
theorem dX2_writeLog_21 : decode cX2_writeLog 21 = .ok (.aload_n 0, 1) := by decide +kernel
theorem dX2_writeLog_22 : decode cX2_writeLog 22 = .ok (.getfield 50, 3) := by decide +kernel
theorem dX2_writeLog_25 : decode cX2_writeLog 25 = .ok (.aload_n 0, 1) := by decide +kernel
theorem dX2_writeLog_26 : decode cX2_writeLog 26 = .ok (.getfield 63, 3) := by decide +kernel
theorem dX2_writeLog_29 : decode cX2_writeLog 29 = .ok (.invokevirtual 39, 3) := by decide +kernel
theorem dX2_writeLog_32 : decode cX2_writeLog 32 = .ok (.iconst 0, 1) := by decide +kernel
theorem dX2_writeLog_33 : decode cX2_writeLog 33 = .ok (.istore_n 1, 1) := by decide +kernel
theorem dX2_writeLog_34 : decode cX2_writeLog 34 = .ok (.iload_n 1, 1) := by decide +kernel
theorem dX2_writeLog_35 : decode cX2_writeLog 35 = .ok (.aload_n 0, 1) := by decide +kernel
theorem dX2_writeLog_36 : decode cX2_writeLog 36 = .ok (.getfield 63, 3) := by decide +kernel
theorem dX2_writeLog_39 : decode cX2_writeLog 39 = .ok (.if_icmp .ge 80, 3) := by decide +kernel
theorem dX2_writeLog_42 : decode cX2_writeLog 42 = .ok (.iload_n 1, 1) := by decide +kernel
theorem dX2_writeLog_43 : decode cX2_writeLog 43 = .ok (.iconst 4, 1) := by decide +kernel
theorem dX2_writeLog_44 : decode cX2_writeLog 44 = .ok (.if_icmp .ge 75, 3) := by decide +kernel
theorem dX2_writeLog_47 : decode cX2_writeLog 47 = .ok (.bipush 6, 2) := by decide +kernel
theorem dX2_writeLog_49 : decode cX2_writeLog 49 = .ok (.iload_n 1, 1) := by decide +kernel
theorem dX2_writeLog_50 : decode cX2_writeLog 50 = .ok (.iconst 5, 1) := by decide +kernel
theorem dX2_writeLog_51 : decode cX2_writeLog 51 = .ok (.imul, 1) := by decide +kernel
theorem dX2_writeLog_52 : decode cX2_writeLog 52 = .ok (.iadd, 1) := by decide +kernel
theorem dX2_writeLog_53 : decode cX2_writeLog 53 = .ok (.istore_n 2, 1) := by decide +kernel
theorem dX2_writeLog_54 : decode cX2_writeLog 54 = .ok (.aload_n 0, 1) := by decide +kernel
theorem dX2_writeLog_55 : decode cX2_writeLog 55 = .ok (.getfield 30, 3) := by decide +kernel
theorem dX2_writeLog_58 : decode cX2_writeLog 58 = .ok (.aload_n 0, 1) := by decide +kernel
theorem dX2_writeLog_59 : decode cX2_writeLog 59 = .ok (.getfield 54, 3) := by decide +kernel
theorem dX2_writeLog_62 : decode cX2_writeLog 62 = .ok (.iload_n 2, 1) := by decide +kernel
theorem dX2_writeLog_63 : decode cX2_writeLog 63 = .ok (.aload_n 0, 1) := by decide +kernel
theorem dX2_writeLog_64 : decode cX2_writeLog 64 = .ok (.getfield 9, 3) := by decide +kernel
theorem dX2_writeLog_67 : decode cX2_writeLog 67 = .ok (.iload_n 1, 1) := by decide +kernel
theorem dX2_writeLog_68 : decode cX2_writeLog 68 = .ok (.iaload, 1) := by decide +kernel
theorem dX2_writeLog_69 : decode cX2_writeLog 69 = .ok (.invokevirtual 43, 3) := by decide +kernel
theorem dX2_writeLog_72 : decode cX2_writeLog 72 = .ok (.aload_n 0, 1) := by decide +kernel
theorem dX2_writeLog_73 : decode cX2_writeLog 73 = .ok (.getfield 30, 3) := by decide +kernel
theorem dX2_writeLog_76 : decode cX2_writeLog 76 = .ok (.aload_n 0, 1) := by decide +kernel
theorem dX2_writeLog_77 : decode cX2_writeLog 77 = .ok (.getfield 54, 3) := by decide +kernel
theorem dX2_writeLog_80 : decode cX2_writeLog 80 = .ok (.iload_n 2, 1) := by decide +kernel
theorem dX2_writeLog_81 : decode cX2_writeLog 81 = .ok (.iconst 1, 1) := by decide +kernel
theorem dX2_writeLog_82 : decode cX2_writeLog 82 = .ok (.iadd, 1) := by decide +kernel
theorem dX2_writeLog_83 : decode cX2_writeLog 83 = .ok (.aload_n 0, 1) := by decide +kernel
theorem dX2_writeLog_84 : decode cX2_writeLog 84 = .ok (.getfield 15, 3) := by decide +kernel
theorem dX2_writeLog_87 : decode cX2_writeLog 87 = .ok (.iload_n 1, 1) := by decide +kernel
theorem dX2_writeLog_88 : decode cX2_writeLog 88 = .ok (.iaload, 1) := by decide +kernel
theorem dX2_writeLog_89 : decode cX2_writeLog 89 = .ok (.invokevirtual 43, 3) := by decide +kernel
theorem dX2_writeLog_92 : decode cX2_writeLog 92 = .ok (.aload_n 0, 1) := by decide +kernel
theorem dX2_writeLog_93 : decode cX2_writeLog 93 = .ok (.getfield 30, 3) := by decide +kernel
theorem dX2_writeLog_96 : decode cX2_writeLog 96 = .ok (.aload_n 0, 1) := by decide +kernel
theorem dX2_writeLog_97 : decode cX2_writeLog 97 = .ok (.getfield 54, 3) := by decide +kernel
theorem dX2_writeLog_100 : decode cX2_writeLog 100 = .ok (.iload_n 2, 1) := by decide +kernel
theorem dX2_writeLog_101 : decode cX2_writeLog 101 = .ok (.iconst 2, 1) := by decide +kernel
theorem dX2_writeLog_102 : decode cX2_writeLog 102 = .ok (.iadd, 1) := by decide +kernel
theorem dX2_writeLog_103 : decode cX2_writeLog 103 = .ok (.iconst 3, 1) := by decide +kernel
theorem dX2_writeLog_104 : decode cX2_writeLog 104 = .ok (.aload_n 0, 1) := by decide +kernel
theorem dX2_writeLog_105 : decode cX2_writeLog 105 = .ok (.getfield 18, 3) := by decide +kernel
theorem dX2_writeLog_108 : decode cX2_writeLog 108 = .ok (.iload_n 1, 1) := by decide +kernel
theorem dX2_writeLog_109 : decode cX2_writeLog 109 = .ok (.iaload, 1) := by decide +kernel
theorem dX2_writeLog_110 : decode cX2_writeLog 110 = .ok (.invokevirtual 90, 3) := by decide +kernel
theorem dX2_writeLog_113 : decode cX2_writeLog 113 = .ok (.iinc 1 1, 3) := by decide +kernel
theorem dX2_writeLog_116 : decode cX2_writeLog 116 = .ok (.goto (-82), 3) := by decide +kernel
theorem dX2_writeLog_119 : decode cX2_writeLog 119 = .ok (.aload_n 0, 1) := by decide +kernel
theorem dX2_writeLog_120 : decode cX2_writeLog 120 = .ok (.getfield 30, 3) := by decide +kernel
theorem dX2_writeLog_123 : decode cX2_writeLog 123 = .ok (.aload_n 0, 1) := by decide +kernel
theorem dX2_writeLog_124 : decode cX2_writeLog 124 = .ok (.getfield 54, 3) := by decide +kernel
theorem dX2_writeLog_127 : decode cX2_writeLog 127 = .ok (.invokevirtual 47, 3) := by decide +kernel
theorem dX2_writeLog_130 : decode cX2_writeLog 130 = .ok (.aload_n 0, 1) := by decide +kernel
theorem dX2_writeLog_131 : decode cX2_writeLog 131 = .ok (.iconst 0, 1) := by decide +kernel
theorem dX2_writeLog_132 : decode cX2_writeLog 132 = .ok (.putfield 63, 3) := by decide +kernel
theorem dX2_writeLog_135 : decode cX2_writeLog 135 = .ok (.return_, 1) := by decide +kernel
theorem dX2_writePages_0 : decode cX2_writePages 0 = .ok (.aload_n 1, 1) := by decide +kernel
theorem dX2_writePages_1 : decode cX2_writePages 1 = .ok (.iconst 0, 1) := by decide +kernel
theorem dX2_writePages_2 : decode cX2_writePages 2 = .ok (.invokevirtual 93, 3) := by decide +kernel
theorem dX2_writePages_5 : decode cX2_writePages 5 = .ok (.istore_n 3, 1) := by decide +kernel
theorem dX2_writePages_6 : decode cX2_writePages 6 = .ok (.iconst 0, 1) := by decide +kernel
theorem dX2_writePages_7 : decode cX2_writePages 7 = .ok (.istore 4, 2) := by decide +kernel
theorem dX2_writePages_9 : decode cX2_writePages 9 = .ok (.iload 4, 2) := by decide +kernel
theorem dX2_writePages_11 : decode cX2_writePages 11 = .ok (.iload_n 2, 1) := by decide +kernel
theorem dX2_writePages_12 : decode cX2_writePages 12 = .ok (.if_icmp .ge 73, 3) := by decide +kernel
theorem dX2_writePages_15 : decode cX2_writePages 15 = .ok (.aload_n 0, 1) := by decide +kernel
theorem dX2_writePages_16 : decode cX2_writePages 16 = .ok (.invokevirtual 87, 3) := by decide +kernel
theorem dX2_writePages_19 : decode cX2_writePages 19 = .ok (.iload 4, 2) := by decide +kernel
theorem dX2_writePages_21 : decode cX2_writePages 21 = .ok (.ifCond .ne 11, 3) := by decide +kernel
theorem dX2_writePages_24 : decode cX2_writePages 24 = .ok (.aload_n 0, 1) := by decide +kernel
theorem dX2_writePages_25 : decode cX2_writePages 25 = .ok (.aload_n 0, 1) := by decide +kernel
theorem dX2_writePages_26 : decode cX2_writePages 26 = .ok (.getfield 54, 3) := by decide +kernel
theorem dX2_writePages_29 : decode cX2_writePages 29 = .ok (.putfield 99, 3) := by decide +kernel
theorem dX2_writePages_32 : decode cX2_writePages 32 = .ok (.aload_n 0, 1) := by decide +kernel
theorem dX2_writePages_33 : decode cX2_writePages 33 = .ok (.aload_n 1, 1) := by decide +kernel
theorem dX2_writePages_34 : decode cX2_writePages 34 = .ok (.iload_n 3, 1) := by decide +kernel
theorem dX2_writePages_35 : decode cX2_writePages 35 = .ok (.invokevirtual 102, 3) := by decide +kernel
theorem dX2_writePages_38 : decode cX2_writePages 38 = .ok (.istore_n 3, 1) := by decide +kernel
theorem dX2_writePages_39 : decode cX2_writePages 39 = .ok (.aload_n 0, 1) := by decide +kernel
theorem dX2_writePages_40 : decode cX2_writePages 40 = .ok (.getfield 30, 3) := by decide +kernel
theorem dX2_writePages_43 : decode cX2_writePages 43 = .ok (.aload_n 0, 1) := by decide +kernel
theorem dX2_writePages_44 : decode cX2_writePages 44 = .ok (.getfield 54, 3) := by decide +kernel
theorem dX2_writePages_47 : decode cX2_writePages 47 = .ok (.bipush 26, 2) := by decide +kernel
theorem dX2_writePages_49 : decode cX2_writePages 49 = .ok (.iload 4, 2) := by decide +kernel
theorem dX2_writePages_51 : decode cX2_writePages 51 = .ok (.invokevirtual 43, 3) := by decide +kernel
theorem dX2_writePages_54 : decode cX2_writePages 54 = .ok (.aload_n 0, 1) := by decide +kernel
theorem dX2_writePages_55 : decode cX2_writePages 55 = .ok (.getfield 30, 3) := by decide +kernel
theorem dX2_writePages_58 : decode cX2_writePages 58 = .ok (.aload_n 0, 1) := by decide +kernel
theorem dX2_writePages_59 : decode cX2_writePages 59 = .ok (.getfield 54, 3) := by decide +kernel
theorem dX2_writePages_62 : decode cX2_writePages 62 = .ok (.bipush 27, 2) := by decide +kernel
theorem dX2_writePages_64 : decode cX2_writePages 64 = .ok (.iload_n 2, 1) := by decide +kernel
theorem dX2_writePages_65 : decode cX2_writePages 65 = .ok (.invokevirtual 43, 3) := by decide +kernel
theorem dX2_writePages_68 : decode cX2_writePages 68 = .ok (.aload_n 0, 1) := by decide +kernel
theorem dX2_writePages_69 : decode cX2_writePages 69 = .ok (.getfield 30, 3) := by decide +kernel
theorem dX2_writePages_72 : decode cX2_writePages 72 = .ok (.aload_n 0, 1) := by decide +kernel
theorem dX2_writePages_73 : decode cX2_writePages 73 = .ok (.getfield 54, 3) := by decide +kernel
theorem dX2_writePages_76 : decode cX2_writePages 76 = .ok (.invokevirtual 47, 3) := by decide +kernel
theorem dX2_writePages_79 : decode cX2_writePages 79 = .ok (.iinc 4 1, 3) := by decide +kernel
theorem dX2_writePages_82 : decode cX2_writePages 82 = .ok (.goto (-73), 3) := by decide +kernel
theorem dX2_writePages_85 : decode cX2_writePages 85 = .ok (.return_, 1) := by decide +kernel
theorem dX2_putAllOnDisk_0 : decode cX2_putAllOnDisk 0 = .ok (.aload_n 0, 1) := by decide +kernel
theorem dX2_putAllOnDisk_1 : decode cX2_putAllOnDisk 1 = .ok (.getfield 66, 3) := by decide +kernel
theorem dX2_putAllOnDisk_4 : decode cX2_putAllOnDisk 4 = .ok (.istore_n 1, 1) := by decide +kernel
theorem dX2_putAllOnDisk_5 : decode cX2_putAllOnDisk 5 = .ok (.aload_n 0, 1) := by decide +kernel
theorem dX2_putAllOnDisk_6 : decode cX2_putAllOnDisk 6 = .ok (.aload_n 0, 1) := by decide +kernel
theorem dX2_putAllOnDisk_7 : decode cX2_putAllOnDisk 7 = .ok (.getfield 66, 3) := by decide +kernel
theorem dX2_putAllOnDisk_10 : decode cX2_putAllOnDisk 10 = .ok (.invokevirtual 106, 3) := by decide +kernel
theorem dX2_putAllOnDisk_13 : decode cX2_putAllOnDisk 13 = .ok (.pop, 1) := by decide +kernel
theorem dX2_putAllOnDisk_14 : decode cX2_putAllOnDisk 14 = .ok (.aload_n 0, 1) := by decide +kernel
theorem dX2_putAllOnDisk_15 : decode cX2_putAllOnDisk 15 = .ok (.iconst 0, 1) := by decide +kernel
theorem dX2_putAllOnDisk_16 : decode cX2_putAllOnDisk 16 = .ok (.putfield 66, 3) := by decide +kernel
theorem dX2_putAllOnDisk_19 : decode cX2_putAllOnDisk 19 = .ok (.aload_n 0, 1) := by decide +kernel
theorem dX2_putAllOnDisk_20 : decode cX2_putAllOnDisk 20 = .ok (.getfield 99, 3) := by decide +kernel
theorem dX2_putAllOnDisk_23 : decode cX2_putAllOnDisk 23 = .ok (.iconst (-1), 1) := by decide +kernel
theorem dX2_putAllOnDisk_24 : decode cX2_putAllOnDisk 24 = .ok (.if_icmp .eq 16, 3) := by decide +kernel
theorem dX2_putAllOnDisk_27 : decode cX2_putAllOnDisk 27 = .ok (.aload_n 0, 1) := by decide +kernel
theorem dX2_putAllOnDisk_28 : decode cX2_putAllOnDisk 28 = .ok (.aload_n 0, 1) := by decide +kernel
theorem dX2_putAllOnDisk_29 : decode cX2_putAllOnDisk 29 = .ok (.getfield 99, 3) := by decide +kernel
theorem dX2_putAllOnDisk_32 : decode cX2_putAllOnDisk 32 = .ok (.putfield 57, 3) := by decide +kernel
theorem dX2_putAllOnDisk_35 : decode cX2_putAllOnDisk 35 = .ok (.aload_n 0, 1) := by decide +kernel
theorem dX2_putAllOnDisk_36 : decode cX2_putAllOnDisk 36 = .ok (.iconst (-1), 1) := by decide +kernel
theorem dX2_putAllOnDisk_37 : decode cX2_putAllOnDisk 37 = .ok (.putfield 99, 3) := by decide +kernel
theorem dX2_putAllOnDisk_40 : decode cX2_putAllOnDisk 40 = .ok (.iload_n 1, 1) := by decide +kernel
theorem dX2_putAllOnDisk_41 : decode cX2_putAllOnDisk 41 = .ok (.ireturn, 1) := by decide +kernel
theorem dX2_loseMemory_0 : decode cX2_loseMemory 0 = .ok (.aload_n 0, 1) := by decide +kernel
theorem dX2_loseMemory_1 : decode cX2_loseMemory 1 = .ok (.iload_n 1, 1) := by decide +kernel
theorem dX2_loseMemory_2 : decode cX2_loseMemory 2 = .ok (.invokevirtual 106, 3) := by decide +kernel
theorem dX2_loseMemory_5 : decode cX2_loseMemory 5 = .ok (.istore_n 3, 1) := by decide +kernel
theorem dX2_loseMemory_6 : decode cX2_loseMemory 6 = .ok (.iload_n 1, 1) := by decide +kernel
theorem dX2_loseMemory_7 : decode cX2_loseMemory 7 = .ok (.aload_n 0, 1) := by decide +kernel
theorem dX2_loseMemory_8 : decode cX2_loseMemory 8 = .ok (.getfield 66, 3) := by decide +kernel
theorem dX2_loseMemory_11 : decode cX2_loseMemory 11 = .ok (.if_icmp .ge 16, 3) := by decide +kernel
theorem dX2_loseMemory_14 : decode cX2_loseMemory 14 = .ok (.aload_n 0, 1) := by decide +kernel
theorem dX2_loseMemory_15 : decode cX2_loseMemory 15 = .ok (.getfield 26, 3) := by decide +kernel
theorem dX2_loseMemory_18 : decode cX2_loseMemory 18 = .ok (.aload_n 0, 1) := by decide +kernel
theorem dX2_loseMemory_19 : decode cX2_loseMemory 19 = .ok (.getfield 30, 3) := by decide +kernel
theorem dX2_loseMemory_22 : decode cX2_loseMemory 22 = .ok (.iload_n 3, 1) := by decide +kernel
theorem dX2_loseMemory_23 : decode cX2_loseMemory 23 = .ok (.iload_n 2, 1) := by decide +kernel
theorem dX2_loseMemory_24 : decode cX2_loseMemory 24 = .ok (.invokevirtual 109, 3) := by decide +kernel
theorem dX2_loseMemory_27 : decode cX2_loseMemory 27 = .ok (.aload_n 0, 1) := by decide +kernel
theorem dX2_loseMemory_28 : decode cX2_loseMemory 28 = .ok (.invokevirtual 60, 3) := by decide +kernel
theorem dX2_loseMemory_31 : decode cX2_loseMemory 31 = .ok (.return_, 1) := by decide +kernel
theorem dX2_goOn_0 : decode cX2_goOn 0 = .ok (.aload_n 0, 1) := by decide +kernel
theorem dX2_goOn_1 : decode cX2_goOn 1 = .ok (.iload_n 1, 1) := by decide +kernel
theorem dX2_goOn_2 : decode cX2_goOn 2 = .ok (.putfield 57, 3) := by decide +kernel
theorem dX2_goOn_5 : decode cX2_goOn 5 = .ok (.aload_n 0, 1) := by decide +kernel
theorem dX2_goOn_6 : decode cX2_goOn 6 = .ok (.iload_n 2, 1) := by decide +kernel
theorem dX2_goOn_7 : decode cX2_goOn 7 = .ok (.putfield 54, 3) := by decide +kernel
theorem dX2_goOn_10 : decode cX2_goOn 10 = .ok (.aload_n 0, 1) := by decide +kernel
theorem dX2_goOn_11 : decode cX2_goOn 11 = .ok (.aload_n 0, 1) := by decide +kernel
theorem dX2_goOn_12 : decode cX2_goOn 12 = .ok (.getfield 26, 3) := by decide +kernel
theorem dX2_goOn_15 : decode cX2_goOn 15 = .ok (.iload_n 2, 1) := by decide +kernel
theorem dX2_goOn_16 : decode cX2_goOn 16 = .ok (.invokevirtual 113, 3) := by decide +kernel
theorem dX2_goOn_19 : decode cX2_goOn 19 = .ok (.putfield 50, 3) := by decide +kernel
theorem dX2_goOn_22 : decode cX2_goOn 22 = .ok (.return_, 1) := by decide +kernel
theorem dX2_writePairs_0 : decode cX2_writePairs 0 = .ok (.aload_n 0, 1) := by decide +kernel
theorem dX2_writePairs_1 : decode cX2_writePairs 1 = .ok (.getfield 30, 3) := by decide +kernel
theorem dX2_writePairs_4 : decode cX2_writePairs 4 = .ok (.aload_n 0, 1) := by decide +kernel
theorem dX2_writePairs_5 : decode cX2_writePairs 5 = .ok (.getfield 54, 3) := by decide +kernel
theorem dX2_writePairs_8 : decode cX2_writePairs 8 = .ok (.iconst 2, 1) := by decide +kernel
theorem dX2_writePairs_9 : decode cX2_writePairs 9 = .ok (.aload_n 0, 1) := by decide +kernel
theorem dX2_writePairs_10 : decode cX2_writePairs 10 = .ok (.getfield 50, 3) := by decide +kernel
theorem dX2_writePairs_13 : decode cX2_writePairs 13 = .ok (.iconst 0, 1) := by decide +kernel
theorem dX2_writePairs_14 : decode cX2_writePairs 14 = .ok (.invokevirtual 39, 3) := by decide +kernel
theorem dX2_writePairs_17 : decode cX2_writePairs 17 = .ok (.iload_n 2, 1) := by decide +kernel
theorem dX2_writePairs_18 : decode cX2_writePairs 18 = .ok (.istore_n 3, 1) := by decide +kernel
theorem dX2_writePairs_19 : decode cX2_writePairs 19 = .ok (.iconst 0, 1) := by decide +kernel
theorem dX2_writePairs_20 : decode cX2_writePairs 20 = .ok (.istore 4, 2) := by decide +kernel
theorem dX2_writePairs_22 : decode cX2_writePairs 22 = .ok (.iload 4, 2) := by decide +kernel
theorem dX2_writePairs_24 : decode cX2_writePairs 24 = .ok (.iconst 5, 1) := by decide +kernel
theorem dX2_writePairs_25 : decode cX2_writePairs 25 = .ok (.if_icmp .ge 67, 3) := by decide +kernel
theorem dX2_writePairs_28 : decode cX2_writePairs 28 = .ok (.iload_n 3, 1) := by decide +kernel
theorem dX2_writePairs_29 : decode cX2_writePairs 29 = .ok (.bipush 32, 2) := by decide +kernel
theorem dX2_writePairs_31 : decode cX2_writePairs 31 = .ok (.if_icmp .ge 61, 3) := by decide +kernel
theorem dX2_writePairs_34 : decode cX2_writePairs 34 = .ok (.bipush 6, 2) := by decide +kernel
theorem dX2_writePairs_36 : decode cX2_writePairs 36 = .ok (.iload 4, 2) := by decide +kernel
theorem dX2_writePairs_38 : decode cX2_writePairs 38 = .ok (.iconst 4, 1) := by decide +kernel
theorem dX2_writePairs_39 : decode cX2_writePairs 39 = .ok (.imul, 1) := by decide +kernel
theorem dX2_writePairs_40 : decode cX2_writePairs 40 = .ok (.iadd, 1) := by decide +kernel
theorem dX2_writePairs_41 : decode cX2_writePairs 41 = .ok (.istore 5, 2) := by decide +kernel
theorem dX2_writePairs_43 : decode cX2_writePairs 43 = .ok (.aload_n 0, 1) := by decide +kernel
theorem dX2_writePairs_44 : decode cX2_writePairs 44 = .ok (.getfield 30, 3) := by decide +kernel
theorem dX2_writePairs_47 : decode cX2_writePairs 47 = .ok (.aload_n 0, 1) := by decide +kernel
theorem dX2_writePairs_48 : decode cX2_writePairs 48 = .ok (.getfield 54, 3) := by decide +kernel
theorem dX2_writePairs_51 : decode cX2_writePairs 51 = .ok (.iload 5, 2) := by decide +kernel
theorem dX2_writePairs_53 : decode cX2_writePairs 53 = .ok (.iload_n 3, 1) := by decide +kernel
theorem dX2_writePairs_54 : decode cX2_writePairs 54 = .ok (.invokevirtual 43, 3) := by decide +kernel
theorem dX2_writePairs_57 : decode cX2_writePairs 57 = .ok (.aload_n 0, 1) := by decide +kernel
theorem dX2_writePairs_58 : decode cX2_writePairs 58 = .ok (.getfield 30, 3) := by decide +kernel
theorem dX2_writePairs_61 : decode cX2_writePairs 61 = .ok (.aload_n 0, 1) := by decide +kernel
theorem dX2_writePairs_62 : decode cX2_writePairs 62 = .ok (.getfield 54, 3) := by decide +kernel
theorem dX2_writePairs_65 : decode cX2_writePairs 65 = .ok (.iload 5, 2) := by decide +kernel
theorem dX2_writePairs_67 : decode cX2_writePairs 67 = .ok (.iconst 1, 1) := by decide +kernel
theorem dX2_writePairs_68 : decode cX2_writePairs 68 = .ok (.iadd, 1) := by decide +kernel
theorem dX2_writePairs_69 : decode cX2_writePairs 69 = .ok (.iconst 3, 1) := by decide +kernel
theorem dX2_writePairs_70 : decode cX2_writePairs 70 = .ok (.aload_n 1, 1) := by decide +kernel
theorem dX2_writePairs_71 : decode cX2_writePairs 71 = .ok (.iload_n 3, 1) := by decide +kernel
theorem dX2_writePairs_72 : decode cX2_writePairs 72 = .ok (.invokevirtual 116, 3) := by decide +kernel
theorem dX2_writePairs_75 : decode cX2_writePairs 75 = .ok (.invokevirtual 90, 3) := by decide +kernel
theorem dX2_writePairs_78 : decode cX2_writePairs 78 = .ok (.iinc 4 1, 3) := by decide +kernel
theorem dX2_writePairs_81 : decode cX2_writePairs 81 = .ok (.aload_n 1, 1) := by decide +kernel
theorem dX2_writePairs_82 : decode cX2_writePairs 82 = .ok (.iload_n 3, 1) := by decide +kernel
theorem dX2_writePairs_83 : decode cX2_writePairs 83 = .ok (.iconst 1, 1) := by decide +kernel
theorem dX2_writePairs_84 : decode cX2_writePairs 84 = .ok (.iadd, 1) := by decide +kernel
theorem dX2_writePairs_85 : decode cX2_writePairs 85 = .ok (.invokevirtual 93, 3) := by decide +kernel
theorem dX2_writePairs_88 : decode cX2_writePairs 88 = .ok (.istore_n 3, 1) := by decide +kernel
theorem dX2_writePairs_89 : decode cX2_writePairs 89 = .ok (.goto (-67), 3) := by decide +kernel
theorem dX2_writePairs_92 : decode cX2_writePairs 92 = .ok (.aload_n 0, 1) := by decide +kernel
theorem dX2_writePairs_93 : decode cX2_writePairs 93 = .ok (.getfield 30, 3) := by decide +kernel
theorem dX2_writePairs_96 : decode cX2_writePairs 96 = .ok (.aload_n 0, 1) := by decide +kernel
theorem dX2_writePairs_97 : decode cX2_writePairs 97 = .ok (.getfield 54, 3) := by decide +kernel
theorem dX2_writePairs_100 : decode cX2_writePairs 100 = .ok (.iconst 5, 1) := by decide +kernel
theorem dX2_writePairs_101 : decode cX2_writePairs 101 = .ok (.iload 4, 2) := by decide +kernel
theorem dX2_writePairs_103 : decode cX2_writePairs 103 = .ok (.invokevirtual 43, 3) := by decide +kernel
theorem dX2_writePairs_106 : decode cX2_writePairs 106 = .ok (.iload_n 3, 1) := by decide +kernel
theorem dX2_writePairs_107 : decode cX2_writePairs 107 = .ok (.ireturn, 1) := by decide +kernel
theorem dX2_goToNext_0 : decode cX2_goToNext 0 = .ok (.aload_n 0, 1) := by decide +kernel
theorem dX2_goToNext_1 : decode cX2_goToNext 1 = .ok (.dup, 1) := by decide +kernel
theorem dX2_goToNext_2 : decode cX2_goToNext 2 = .ok (.getfield 50, 3) := by decide +kernel
theorem dX2_goToNext_5 : decode cX2_goToNext 5 = .ok (.iconst 1, 1) := by decide +kernel
theorem dX2_goToNext_6 : decode cX2_goToNext 6 = .ok (.iadd, 1) := by decide +kernel
theorem dX2_goToNext_7 : decode cX2_goToNext 7 = .ok (.putfield 50, 3) := by decide +kernel
theorem dX2_goToNext_10 : decode cX2_goToNext 10 = .ok (.aload_n 0, 1) := by decide +kernel
theorem dX2_goToNext_11 : decode cX2_goToNext 11 = .ok (.aload_n 0, 1) := by decide +kernel
theorem dX2_goToNext_12 : decode cX2_goToNext 12 = .ok (.getfield 26, 3) := by decide +kernel
theorem dX2_goToNext_15 : decode cX2_goToNext 15 = .ok (.aload_n 0, 1) := by decide +kernel
theorem dX2_goToNext_16 : decode cX2_goToNext 16 = .ok (.getfield 54, 3) := by decide +kernel
