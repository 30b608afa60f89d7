theorem dX2_goToNext_19 : decode cX2_goToNext 19 = .ok (.invokevirtual 119, 3) := by decide +kernel
theorem dX2_goToNext_22 : decode cX2_goToNext 22 = .ok (.putfield 54, 3) := by decide +kernel
theorem dX2_goToNext_25 : decode cX2_goToNext 25 = .ok (.aload_n 0, 1) := by decide +kernel
theorem dX2_goToNext_26 : decode cX2_goToNext 26 = .ok (.getfield 66, 3) := by decide +kernel
theorem dX2_goToNext_29 : decode cX2_goToNext 29 = .ok (.ifCond .ne 11, 3) := by decide +kernel
theorem dX2_goToNext_32 : decode cX2_goToNext 32 = .ok (.aload_n 0, 1) := by decide +kernel
theorem dX2_goToNext_33 : decode cX2_goToNext 33 = .ok (.aload_n 0, 1) := by decide +kernel
theorem dX2_goToNext_34 : decode cX2_goToNext 34 = .ok (.getfield 54, 3) := by decide +kernel
theorem dX2_goToNext_37 : decode cX2_goToNext 37 = .ok (.putfield 122, 3) := by decide +kernel
theorem dX2_goToNext_40 : decode cX2_goToNext 40 = .ok (.aload_n 0, 1) := by decide +kernel
theorem dX2_goToNext_41 : decode cX2_goToNext 41 = .ok (.dup, 1) := by decide +kernel
theorem dX2_goToNext_42 : decode cX2_goToNext 42 = .ok (.getfield 66, 3) := by decide +kernel
theorem dX2_goToNext_45 : decode cX2_goToNext 45 = .ok (.iconst 1, 1) := by decide +kernel
theorem dX2_goToNext_46 : decode cX2_goToNext 46 = .ok (.iadd, 1) := by decide +kernel
theorem dX2_goToNext_47 : decode cX2_goToNext 47 = .ok (.putfield 66, 3) := by decide +kernel
theorem dX2_goToNext_50 : decode cX2_goToNext 50 = .ok (.return_, 1) := by decide +kernel
theorem dX2_putOnDisk_0 : decode cX2_putOnDisk 0 = .ok (.aload_n 0, 1) := by decide +kernel
theorem dX2_putOnDisk_1 : decode cX2_putOnDisk 1 = .ok (.getfield 122, 3) := by decide +kernel
theorem dX2_putOnDisk_4 : decode cX2_putOnDisk 4 = .ok (.istore_n 2, 1) := by decide +kernel
theorem dX2_putOnDisk_5 : decode cX2_putOnDisk 5 = .ok (.iconst 0, 1) := by decide +kernel
theorem dX2_putOnDisk_6 : decode cX2_putOnDisk 6 = .ok (.istore_n 3, 1) := by decide +kernel
theorem dX2_putOnDisk_7 : decode cX2_putOnDisk 7 = .ok (.iload_n 3, 1) := by decide +kernel
theorem dX2_putOnDisk_8 : decode cX2_putOnDisk 8 = .ok (.iload_n 1, 1) := by decide +kernel
theorem dX2_putOnDisk_9 : decode cX2_putOnDisk 9 = .ok (.if_icmp .ge 32, 3) := by decide +kernel
theorem dX2_putOnDisk_12 : decode cX2_putOnDisk 12 = .ok (.aload_n 0, 1) := by decide +kernel
theorem dX2_putOnDisk_13 : decode cX2_putOnDisk 13 = .ok (.getfield 26, 3) := by decide +kernel
theorem dX2_putOnDisk_16 : decode cX2_putOnDisk 16 = .ok (.aload_n 0, 1) := by decide +kernel
theorem dX2_putOnDisk_17 : decode cX2_putOnDisk 17 = .ok (.getfield 30, 3) := by decide +kernel
theorem dX2_putOnDisk_20 : decode cX2_putOnDisk 20 = .ok (.iload_n 2, 1) := by decide +kernel
theorem dX2_putOnDisk_21 : decode cX2_putOnDisk 21 = .ok (.bipush 32, 2) := by decide +kernel
theorem dX2_putOnDisk_23 : decode cX2_putOnDisk 23 = .ok (.invokevirtual 109, 3) := by decide +kernel
theorem dX2_putOnDisk_26 : decode cX2_putOnDisk 26 = .ok (.aload_n 0, 1) := by decide +kernel
theorem dX2_putOnDisk_27 : decode cX2_putOnDisk 27 = .ok (.getfield 26, 3) := by decide +kernel
theorem dX2_putOnDisk_30 : decode cX2_putOnDisk 30 = .ok (.iload_n 2, 1) := by decide +kernel
theorem dX2_putOnDisk_31 : decode cX2_putOnDisk 31 = .ok (.invokevirtual 119, 3) := by decide +kernel
theorem dX2_putOnDisk_34 : decode cX2_putOnDisk 34 = .ok (.istore_n 2, 1) := by decide +kernel
theorem dX2_putOnDisk_35 : decode cX2_putOnDisk 35 = .ok (.iinc 3 1, 3) := by decide +kernel
theorem dX2_putOnDisk_38 : decode cX2_putOnDisk 38 = .ok (.goto (-31), 3) := by decide +kernel
theorem dX2_putOnDisk_41 : decode cX2_putOnDisk 41 = .ok (.iload_n 2, 1) := by decide +kernel
theorem dX2_putOnDisk_42 : decode cX2_putOnDisk 42 = .ok (.ireturn, 1) := by decide +kernel
theorem dX2_forgetMemory_0 : decode cX2_forgetMemory 0 = .ok (.aload_n 0, 1) := by decide +kernel
theorem dX2_forgetMemory_1 : decode cX2_forgetMemory 1 = .ok (.iconst 0, 1) := by decide +kernel
theorem dX2_forgetMemory_2 : decode cX2_forgetMemory 2 = .ok (.putfield 63, 3) := by decide +kernel
theorem dX2_forgetMemory_5 : decode cX2_forgetMemory 5 = .ok (.aload_n 0, 1) := by decide +kernel
theorem dX2_forgetMemory_6 : decode cX2_forgetMemory 6 = .ok (.iconst 0, 1) := by decide +kernel
theorem dX2_forgetMemory_7 : decode cX2_forgetMemory 7 = .ok (.putfield 66, 3) := by decide +kernel
theorem dX2_forgetMemory_10 : decode cX2_forgetMemory 10 = .ok (.aload_n 0, 1) := by decide +kernel
theorem dX2_forgetMemory_11 : decode cX2_forgetMemory 11 = .ok (.iconst (-1), 1) := by decide +kernel
theorem dX2_forgetMemory_12 : decode cX2_forgetMemory 12 = .ok (.putfield 99, 3) := by decide +kernel
theorem dX2_forgetMemory_15 : decode cX2_forgetMemory 15 = .ok (.return_, 1) := by decide +kernel
theorem dX4_init_0 : decode cX4_init 0 = .ok (.aload_n 0, 1) := by decide +kernel
theorem dX4_init_1 : decode cX4_init 1 = .ok (.invokespecial 1, 3) := by decide +kernel
theorem dX4_init_4 : decode cX4_init 4 = .ok (.aload_n 0, 1) := by decide +kernel
theorem dX4_init_5 : decode cX4_init 5 = .ok (.new 7, 3) := by decide +kernel
theorem dX4_init_8 : decode cX4_init 8 = .ok (.dup, 1) := by decide +kernel
theorem dX4_init_9 : decode cX4_init 9 = .ok (.iload_n 1, 1) := by decide +kernel
theorem dX4_init_10 : decode cX4_init 10 = .ok (.invokespecial 9, 3) := by decide +kernel
theorem dX4_init_13 : decode cX4_init 13 = .ok (.putfield 12, 3) := by decide +kernel
theorem dX4_init_16 : decode cX4_init 16 = .ok (.aload_n 0, 1) := by decide +kernel
theorem dX4_init_17 : decode cX4_init 17 = .ok (.new 18, 3) := by decide +kernel
theorem dX4_init_20 : decode cX4_init 20 = .ok (.dup, 1) := by decide +kernel
theorem dX4_init_21 : decode cX4_init 21 = .ok (.invokespecial 20, 3) := by decide +kernel
theorem dX4_init_24 : decode cX4_init 24 = .ok (.putfield 21, 3) := by decide +kernel
theorem dX4_init_27 : decode cX4_init 27 = .ok (.aload_n 0, 1) := by decide +kernel
theorem dX4_init_28 : decode cX4_init 28 = .ok (.new 25, 3) := by decide +kernel
theorem dX4_init_31 : decode cX4_init 31 = .ok (.dup, 1) := by decide +kernel
theorem dX4_init_32 : decode cX4_init 32 = .ok (.invokespecial 27, 3) := by decide +kernel
theorem dX4_init_35 : decode cX4_init 35 = .ok (.putfield 28, 3) := by decide +kernel
theorem dX4_init_38 : decode cX4_init 38 = .ok (.return_, 1) := by decide +kernel
theorem dX4_begin_0 : decode cX4_begin 0 = .ok (.aload_n 0, 1) := by decide +kernel
theorem dX4_begin_1 : decode cX4_begin 1 = .ok (.getfield 32, 3) := by decide +kernel
theorem dX4_begin_4 : decode cX4_begin 4 = .ok (.ifCond .eq 8, 3) := by decide +kernel
theorem dX4_begin_7 : decode cX4_begin 7 = .ok (.bipush (-3), 2) := by decide +kernel
theorem dX4_begin_9 : decode cX4_begin 9 = .ok (.goto 10, 3) := by decide +kernel
theorem dX4_begin_12 : decode cX4_begin 12 = .ok (.aload_n 0, 1) := by decide +kernel
theorem dX4_begin_13 : decode cX4_begin 13 = .ok (.getfield 21, 3) := by decide +kernel
theorem dX4_begin_16 : decode cX4_begin 16 = .ok (.invokevirtual 36, 3) := by decide +kernel
theorem dX4_begin_19 : decode cX4_begin 19 = .ok (.ireturn, 1) := by decide +kernel
theorem dX4_put_0 : decode cX4_put 0 = .ok (.aload_n 0, 1) := by decide +kernel
theorem dX4_put_1 : decode cX4_put 1 = .ok (.getfield 32, 3) := by decide +kernel
theorem dX4_put_4 : decode cX4_put 4 = .ok (.ifCond .eq 6, 3) := by decide +kernel
theorem dX4_put_7 : decode cX4_put 7 = .ok (.bipush (-3), 2) := by decide +kernel
theorem dX4_put_9 : decode cX4_put 9 = .ok (.ireturn, 1) := by decide +kernel
theorem dX4_put_10 : decode cX4_put 10 = .ok (.aload_n 0, 1) := by decide +kernel
theorem dX4_put_11 : decode cX4_put 11 = .ok (.getfield 21, 3) := by decide +kernel
theorem dX4_put_14 : decode cX4_put 14 = .ok (.iload_n 1, 1) := by decide +kernel
theorem dX4_put_15 : decode cX4_put 15 = .ok (.invokevirtual 40, 3) := by decide +kernel
theorem dX4_put_18 : decode cX4_put 18 = .ok (.ifCond .eq 22, 3) := by decide +kernel
theorem dX4_put_21 : decode cX4_put 21 = .ok (.iload_n 2, 1) := by decide +kernel
theorem dX4_put_22 : decode cX4_put 22 = .ok (.invokestatic 44, 3) := by decide +kernel
theorem dX4_put_25 : decode cX4_put 25 = .ok (.ifCond .eq 15, 3) := by decide +kernel
theorem dX4_put_28 : decode cX4_put 28 = .ok (.iload_n 3, 1) := by decide +kernel
theorem dX4_put_29 : decode cX4_put 29 = .ok (.invokestatic 47, 3) := by decide +kernel
theorem dX4_put_32 : decode cX4_put 32 = .ok (.ifCond .ne 10, 3) := by decide +kernel
theorem dX4_put_35 : decode cX4_put 35 = .ok (.iload_n 3, 1) := by decide +kernel
theorem dX4_put_36 : decode cX4_put 36 = .ok (.iconst (-1), 1) := by decide +kernel
theorem dX4_put_37 : decode cX4_put 37 = .ok (.if_icmp .eq 5, 3) := by decide +kernel
theorem dX4_put_40 : decode cX4_put 40 = .ok (.iconst (-1), 1) := by decide +kernel
theorem dX4_put_41 : decode cX4_put 41 = .ok (.ireturn, 1) := by decide +kernel
theorem dX4_put_42 : decode cX4_put 42 = .ok (.aload_n 0, 1) := by decide +kernel
theorem dX4_put_43 : decode cX4_put 43 = .ok (.getfield 21, 3) := by decide +kernel
theorem dX4_put_46 : decode cX4_put 46 = .ok (.iload_n 2, 1) := by decide +kernel
theorem dX4_put_47 : decode cX4_put 47 = .ok (.invokevirtual 50, 3) := by decide +kernel
theorem dX4_put_50 : decode cX4_put 50 = .ok (.istore 4, 2) := by decide +kernel
theorem dX4_put_52 : decode cX4_put 52 = .ok (.iload 4, 2) := by decide +kernel
theorem dX4_put_54 : decode cX4_put 54 = .ok (.iconst (-1), 1) := by decide +kernel
theorem dX4_put_55 : decode cX4_put 55 = .ok (.if_icmp .eq 11, 3) := by decide +kernel
theorem dX4_put_58 : decode cX4_put 58 = .ok (.iload 4, 2) := by decide +kernel
theorem dX4_put_60 : decode cX4_put 60 = .ok (.iload_n 1, 1) := by decide +kernel
theorem dX4_put_61 : decode cX4_put 61 = .ok (.if_icmp .eq 5, 3) := by decide +kernel
theorem dX4_put_64 : decode cX4_put 64 = .ok (.iconst 0, 1) := by decide +kernel
theorem dX4_put_65 : decode cX4_put 65 = .ok (.ireturn, 1) := by decide +kernel
theorem dX4_put_66 : decode cX4_put 66 = .ok (.aload_n 0, 1) := by decide +kernel
theorem dX4_put_67 : decode cX4_put 67 = .ok (.getfield 12, 3) := by decide +kernel
theorem dX4_put_70 : decode cX4_put 70 = .ok (.invokevirtual 54, 3) := by decide +kernel
theorem dX4_put_73 : decode cX4_put 73 = .ok (.ifCond .ne 6, 3) := by decide +kernel
theorem dX4_put_76 : decode cX4_put 76 = .ok (.bipush (-2), 2) := by decide +kernel
theorem dX4_put_78 : decode cX4_put 78 = .ok (.ireturn, 1) := by decide +kernel
theorem dX4_put_79 : decode cX4_put 79 = .ok (.aload_n 0, 1) := by decide +kernel
theorem dX4_put_80 : decode cX4_put 80 = .ok (.getfield 21, 3) := by decide +kernel
theorem dX4_put_83 : decode cX4_put 83 = .ok (.iload_n 1, 1) := by decide +kernel
theorem dX4_put_84 : decode cX4_put 84 = .ok (.iload_n 2, 1) := by decide +kernel
theorem dX4_put_85 : decode cX4_put 85 = .ok (.iload_n 3, 1) := by decide +kernel
theorem dX4_put_86 : decode cX4_put 86 = .ok (.invokevirtual 58, 3) := by decide +kernel
theorem dX4_put_89 : decode cX4_put 89 = .ok (.iload_n 3, 1) := by decide +kernel
theorem dX4_put_90 : decode cX4_put 90 = .ok (.iconst (-1), 1) := by decide +kernel
theorem dX4_put_91 : decode cX4_put 91 = .ok (.if_icmp .ne 17, 3) := by decide +kernel
theorem dX4_put_94 : decode cX4_put 94 = .ok (.aload_n 0, 1) := by decide +kernel
theorem dX4_put_95 : decode cX4_put 95 = .ok (.getfield 12, 3) := by decide +kernel
theorem dX4_put_98 : decode cX4_put 98 = .ok (.iload_n 1, 1) := by decide +kernel
theorem dX4_put_99 : decode cX4_put 99 = .ok (.iconst 1, 1) := by decide +kernel
theorem dX4_put_100 : decode cX4_put 100 = .ok (.iload_n 2, 1) := by decide +kernel
theorem dX4_put_101 : decode cX4_put 101 = .ok (.iconst 0, 1) := by decide +kernel
theorem dX4_put_102 : decode cX4_put 102 = .ok (.invokevirtual 62, 3) := by decide +kernel
theorem dX4_put_105 : decode cX4_put 105 = .ok (.goto 14, 3) := by decide +kernel
theorem dX4_put_108 : decode cX4_put 108 = .ok (.aload_n 0, 1) := by decide +kernel
theorem dX4_put_109 : decode cX4_put 109 = .ok (.getfield 12, 3) := by decide +kernel
theorem dX4_put_112 : decode cX4_put 112 = .ok (.iload_n 1, 1) := by decide +kernel
theorem dX4_put_113 : decode cX4_put 113 = .ok (.iconst 0, 1) := by decide +kernel
theorem dX4_put_114 : decode cX4_put 114 = .ok (.iload_n 2, 1) := by decide +kernel
theorem dX4_put_115 : decode cX4_put 115 = .ok (.iload_n 3, 1) := by decide +kernel
theorem dX4_put_116 : decode cX4_put 116 = .ok (.invokevirtual 62, 3) := by decide +kernel
theorem dX4_put_119 : decode cX4_put 119 = .ok (.iconst 1, 1) := by decide +kernel
theorem dX4_put_120 : decode cX4_put 120 = .ok (.ireturn, 1) := by decide +kernel
theorem dX4_commit_0 : decode cX4_commit 0 = .ok (.aload_n 0, 1) := by decide +kernel
theorem dX4_commit_1 : decode cX4_commit 1 = .ok (.iload_n 1, 1) := by decide +kernel
theorem dX4_commit_2 : decode cX4_commit 2 = .ok (.iconst 2, 1) := by decide +kernel
theorem dX4_commit_3 : decode cX4_commit 3 = .ok (.invokevirtual 66, 3) := by decide +kernel
theorem dX4_commit_6 : decode cX4_commit 6 = .ok (.istore_n 2, 1) := by decide +kernel
theorem dX4_commit_7 : decode cX4_commit 7 = .ok (.iload_n 2, 1) := by decide +kernel
theorem dX4_commit_8 : decode cX4_commit 8 = .ok (.ifCond .lt 13, 3) := by decide +kernel
theorem dX4_commit_11 : decode cX4_commit 11 = .ok (.aload_n 0, 1) := by decide +kernel
theorem dX4_commit_12 : decode cX4_commit 12 = .ok (.dup, 1) := by decide +kernel
theorem dX4_commit_13 : decode cX4_commit 13 = .ok (.getfield 70, 3) := by decide +kernel
theorem dX4_commit_16 : decode cX4_commit 16 = .ok (.iconst 1, 1) := by decide +kernel
theorem dX4_commit_17 : decode cX4_commit 17 = .ok (.iadd, 1) := by decide +kernel
theorem dX4_commit_18 : decode cX4_commit 18 = .ok (.putfield 70, 3) := by decide +kernel
theorem dX4_commit_21 : decode cX4_commit 21 = .ok (.iload_n 2, 1) := by decide +kernel
theorem dX4_commit_22 : decode cX4_commit 22 = .ok (.ireturn, 1) := by decide +kernel
theorem dX4_undo_0 : decode cX4_undo 0 = .ok (.aload_n 0, 1) := by decide +kernel
theorem dX4_undo_1 : decode cX4_undo 1 = .ok (.iload_n 1, 1) := by decide +kernel
theorem dX4_undo_2 : decode cX4_undo 2 = .ok (.iconst 3, 1) := by decide +kernel
theorem dX4_undo_3 : decode cX4_undo 3 = .ok (.invokevirtual 66, 3) := by decide +kernel
theorem dX4_undo_6 : decode cX4_undo 6 = .ok (.ireturn, 1) := by decide +kernel
theorem dX4_get_0 : decode cX4_get 0 = .ok (.aload_n 0, 1) := by decide +kernel
theorem dX4_get_1 : decode cX4_get 1 = .ok (.getfield 32, 3) := by decide +kernel
theorem dX4_get_4 : decode cX4_get 4 = .ok (.ifCond .eq 8, 3) := by decide +kernel
theorem dX4_get_7 : decode cX4_get 7 = .ok (.bipush (-3), 2) := by decide +kernel
theorem dX4_get_9 : decode cX4_get 9 = .ok (.goto 11, 3) := by decide +kernel
theorem dX4_get_12 : decode cX4_get 12 = .ok (.aload_n 0, 1) := by decide +kernel
theorem dX4_get_13 : decode cX4_get 13 = .ok (.getfield 21, 3) := by decide +kernel
theorem dX4_get_16 : decode cX4_get 16 = .ok (.iload_n 1, 1) := by decide +kernel
theorem dX4_get_17 : decode cX4_get 17 = .ok (.invokevirtual 74, 3) := by decide +kernel
theorem dX4_get_20 : decode cX4_get 20 = .ok (.ireturn, 1) := by decide +kernel
theorem dX4_seen_0 : decode cX4_seen 0 = .ok (.aload_n 0, 1) := by decide +kernel
theorem dX4_seen_1 : decode cX4_seen 1 = .ok (.getfield 32, 3) := by decide +kernel
theorem dX4_seen_4 : decode cX4_seen 4 = .ok (.ifCond .eq 6, 3) := by decide +kernel
theorem dX4_seen_7 : decode cX4_seen 7 = .ok (.bipush (-3), 2) := by decide +kernel
theorem dX4_seen_9 : decode cX4_seen 9 = .ok (.ireturn, 1) := by decide +kernel
theorem dX4_seen_10 : decode cX4_seen 10 = .ok (.aload_n 0, 1) := by decide +kernel
theorem dX4_seen_11 : decode cX4_seen 11 = .ok (.getfield 21, 3) := by decide +kernel
theorem dX4_seen_14 : decode cX4_seen 14 = .ok (.iload_n 1, 1) := by decide +kernel
theorem dX4_seen_15 : decode cX4_seen 15 = .ok (.invokevirtual 40, 3) := by decide +kernel
theorem dX4_seen_18 : decode cX4_seen 18 = .ok (.ifCond .eq 15, 3) := by decide +kernel
theorem dX4_seen_21 : decode cX4_seen 21 = .ok (.aload_n 0, 1) := by decide +kernel
theorem dX4_seen_22 : decode cX4_seen 22 = .ok (.getfield 21, 3) := by decide +kernel
theorem dX4_seen_25 : decode cX4_seen 25 = .ok (.iload_n 1, 1) := by decide +kernel
theorem dX4_seen_26 : decode cX4_seen 26 = .ok (.iload_n 2, 1) := by decide +kernel
theorem dX4_seen_27 : decode cX4_seen 27 = .ok (.invokevirtual 77, 3) := by decide +kernel
theorem dX4_seen_30 : decode cX4_seen 30 = .ok (.goto 4, 3) := by decide +kernel
theorem dX4_seen_33 : decode cX4_seen 33 = .ok (.iconst (-1), 1) := by decide +kernel
theorem dX4_seen_34 : decode cX4_seen 34 = .ok (.ireturn, 1) := by decide +kernel
theorem dX4_sync_0 : decode cX4_sync 0 = .ok (.aload_n 0, 1) := by decide +kernel
theorem dX4_sync_1 : decode cX4_sync 1 = .ok (.getfield 32, 3) := by decide +kernel
theorem dX4_sync_4 : decode cX4_sync 4 = .ok (.ifCond .eq 6, 3) := by decide +kernel
theorem dX4_sync_7 : decode cX4_sync 7 = .ok (.bipush (-3), 2) := by decide +kernel
theorem dX4_sync_9 : decode cX4_sync 9 = .ok (.ireturn, 1) := by decide +kernel
theorem dX4_sync_10 : decode cX4_sync 10 = .ok (.aload_n 0, 1) := by decide +kernel
theorem dX4_sync_11 : decode cX4_sync 11 = .ok (.getfield 12, 3) := by decide +kernel
theorem dX4_sync_14 : decode cX4_sync 14 = .ok (.aload_n 0, 1) := by decide +kernel
theorem dX4_sync_15 : decode cX4_sync 15 = .ok (.getfield 12, 3) := by decide +kernel
theorem dX4_sync_18 : decode cX4_sync 18 = .ok (.invokevirtual 80, 3) := by decide +kernel
theorem dX4_sync_21 : decode cX4_sync 21 = .ok (.invokevirtual 83, 3) := by decide +kernel
theorem dX4_sync_24 : decode cX4_sync 24 = .ok (.ifCond .ne 6, 3) := by decide +kernel
theorem dX4_sync_27 : decode cX4_sync 27 = .ok (.bipush (-2), 2) := by decide +kernel
theorem dX4_sync_29 : decode cX4_sync 29 = .ok (.ireturn, 1) := by decide +kernel
theorem dX4_sync_30 : decode cX4_sync 30 = .ok (.aload_n 0, 1) := by decide +kernel
theorem dX4_sync_31 : decode cX4_sync 31 = .ok (.getfield 12, 3) := by decide +kernel
theorem dX4_sync_34 : decode cX4_sync 34 = .ok (.invokevirtual 86, 3) := by decide +kernel
theorem dX4_sync_37 : decode cX4_sync 37 = .ok (.aload_n 0, 1) := by decide +kernel
theorem dX4_sync_38 : decode cX4_sync 38 = .ok (.getfield 12, 3) := by decide +kernel
theorem dX4_sync_41 : decode cX4_sync 41 = .ok (.invokevirtual 89, 3) := by decide +kernel
theorem dX4_sync_44 : decode cX4_sync 44 = .ok (.ireturn, 1) := by decide +kernel
theorem dX4_checkpoint_0 : decode cX4_checkpoint 0 = .ok (.aload_n 0, 1) := by decide +kernel
theorem dX4_checkpoint_1 : decode cX4_checkpoint 1 = .ok (.getfield 32, 3) := by decide +kernel
theorem dX4_checkpoint_4 : decode cX4_checkpoint 4 = .ok (.ifCond .eq 6, 3) := by decide +kernel
theorem dX4_checkpoint_7 : decode cX4_checkpoint 7 = .ok (.bipush (-3), 2) := by decide +kernel
theorem dX4_checkpoint_9 : decode cX4_checkpoint 9 = .ok (.ireturn, 1) := by decide +kernel
theorem dX4_checkpoint_10 : decode cX4_checkpoint 10 = .ok (.aload_n 0, 1) := by decide +kernel
theorem dX4_checkpoint_11 : decode cX4_checkpoint 11 = .ok (.getfield 21, 3) := by decide +kernel
theorem dX4_checkpoint_14 : decode cX4_checkpoint 14 = .ok (.invokevirtual 92, 3) := by decide +kernel
theorem dX4_checkpoint_17 : decode cX4_checkpoint 17 = .ok (.ifCond .eq 5, 3) := by decide +kernel
theorem dX4_checkpoint_20 : decode cX4_checkpoint 20 = .ok (.iconst (-1), 1) := by decide +kernel
theorem dX4_checkpoint_21 : decode cX4_checkpoint 21 = .ok (.ireturn, 1) := by decide +kernel
theorem dX4_checkpoint_22 : decode cX4_checkpoint 22 = .ok (.aload_n 0, 1) := by decide +kernel
theorem dX4_checkpoint_23 : decode cX4_checkpoint 23 = .ok (.getfield 21, 3) := by decide +kernel
theorem dX4_checkpoint_26 : decode cX4_checkpoint 26 = .ok (.invokevirtual 95, 3) := by decide +kernel
theorem dX4_checkpoint_29 : decode cX4_checkpoint 29 = .ok (.istore_n 1, 1) := by decide +kernel
theorem dX4_checkpoint_30 : decode cX4_checkpoint 30 = .ok (.aload_n 0, 1) := by decide +kernel
theorem dX4_checkpoint_31 : decode cX4_checkpoint 31 = .ok (.getfield 12, 3) := by decide +kernel
theorem dX4_checkpoint_34 : decode cX4_checkpoint 34 = .ok (.aload_n 0, 1) := by decide +kernel
theorem dX4_checkpoint_35 : decode cX4_checkpoint 35 = .ok (.getfield 12, 3) := by decide +kernel
theorem dX4_checkpoint_38 : decode cX4_checkpoint 38 = .ok (.invokevirtual 80, 3) := by decide +kernel
theorem dX4_checkpoint_41 : decode cX4_checkpoint 41 = .ok (.iload_n 1, 1) := by decide +kernel
theorem dX4_checkpoint_42 : decode cX4_checkpoint 42 = .ok (.iadd, 1) := by decide +kernel
theorem dX4_checkpoint_43 : decode cX4_checkpoint 43 = .ok (.invokevirtual 83, 3) := by decide +kernel
theorem dX4_checkpoint_46 : decode cX4_checkpoint 46 = .ok (.ifCond .ne 6, 3) := by decide +kernel
theorem dX4_checkpoint_49 : decode cX4_checkpoint 49 = .ok (.bipush (-2), 2) := by decide +kernel
theorem dX4_checkpoint_51 : decode cX4_checkpoint 51 = .ok (.ireturn, 1) := by decide +kernel
theorem dX4_checkpoint_52 : decode cX4_checkpoint 52 = .ok (.aload_n 0, 1) := by decide +kernel
theorem dX4_checkpoint_53 : decode cX4_checkpoint 53 = .ok (.getfield 12, 3) := by decide +kernel
theorem dX4_checkpoint_56 : decode cX4_checkpoint 56 = .ok (.invokevirtual 86, 3) := by decide +kernel
theorem dX4_checkpoint_59 : decode cX4_checkpoint 59 = .ok (.aload_n 0, 1) := by decide +kernel
theorem dX4_checkpoint_60 : decode cX4_checkpoint 60 = .ok (.getfield 12, 3) := by decide +kernel
theorem dX4_checkpoint_63 : decode cX4_checkpoint 63 = .ok (.aload_n 0, 1) := by decide +kernel
theorem dX4_checkpoint_64 : decode cX4_checkpoint 64 = .ok (.getfield 21, 3) := by decide +kernel
theorem dX4_checkpoint_67 : decode cX4_checkpoint 67 = .ok (.iload_n 1, 1) := by decide +kernel
theorem dX4_checkpoint_68 : decode cX4_checkpoint 68 = .ok (.invokevirtual 98, 3) := by decide +kernel
theorem dX4_checkpoint_71 : decode cX4_checkpoint 71 = .ok (.iload_n 1, 1) := by decide +kernel
theorem dX4_checkpoint_72 : decode cX4_checkpoint 72 = .ok (.ireturn, 1) := by decide +kernel
theorem dX4_cut_0 : decode cX4_cut 0 = .ok (.aload_n 0, 1) := by decide +kernel
theorem dX4_cut_1 : decode cX4_cut 1 = .ok (.getfield 32, 3) := by decide +kernel
theorem dX4_cut_4 : decode cX4_cut 4 = .ok (.ifCond .eq 6, 3) := by decide +kernel
theorem dX4_cut_7 : decode cX4_cut 7 = .ok (.bipush (-3), 2) := by decide +kernel
theorem dX4_cut_9 : decode cX4_cut 9 = .ok (.ireturn, 1) := by decide +kernel
theorem dX4_cut_10 : decode cX4_cut 10 = .ok (.aload_n 0, 1) := by decide +kernel
theorem dX4_cut_11 : decode cX4_cut 11 = .ok (.getfield 12, 3) := by decide +kernel
theorem dX4_cut_14 : decode cX4_cut 14 = .ok (.invokevirtual 102, 3) := by decide +kernel
theorem dX4_cut_17 : decode cX4_cut 17 = .ok (.istore_n 3, 1) := by decide +kernel
theorem dX4_cut_18 : decode cX4_cut 18 = .ok (.iload_n 1, 1) := by decide +kernel
theorem dX4_cut_19 : decode cX4_cut 19 = .ok (.ifCond .lt 18, 3) := by decide +kernel
theorem dX4_cut_22 : decode cX4_cut 22 = .ok (.iload_n 1, 1) := by decide +kernel
theorem dX4_cut_23 : decode cX4_cut 23 = .ok (.iload_n 3, 1) := by decide +kernel
theorem dX4_cut_24 : decode cX4_cut 24 = .ok (.if_icmp .gt 13, 3) := by decide +kernel
theorem dX4_cut_27 : decode cX4_cut 27 = .ok (.iload_n 2, 1) := by decide +kernel
theorem dX4_cut_28 : decode cX4_cut 28 = .ok (.ifCond .lt 9, 3) := by decide +kernel
theorem dX4_cut_31 : decode cX4_cut 31 = .ok (.iload_n 2, 1) := by decide +kernel
theorem dX4_cut_32 : decode cX4_cut 32 = .ok (.bipush 32, 2) := by decide +kernel
theorem dX4_cut_34 : decode cX4_cut 34 = .ok (.if_icmp .le 5, 3) := by decide +kernel
theorem dX4_cut_37 : decode cX4_cut 37 = .ok (.iconst (-1), 1) := by decide +kernel
theorem dX4_cut_38 : decode cX4_cut 38 = .ok (.ireturn, 1) := by decide +kernel
theorem dX4_cut_39 : decode cX4_cut 39 = .ok (.aload_n 0, 1) := by decide +kernel
theorem dX4_cut_40 : decode cX4_cut 40 = .ok (.getfield 12, 3) := by decide +kernel
theorem dX4_cut_43 : decode cX4_cut 43 = .ok (.iload_n 1, 1) := by decide +kernel
theorem dX4_cut_44 : decode cX4_cut 44 = .ok (.iload_n 2, 1) := by decide +kernel
theorem dX4_cut_45 : decode cX4_cut 45 = .ok (.invokevirtual 105, 3) := by decide +kernel
theorem dX4_cut_48 : decode cX4_cut 48 = .ok (.aload_n 0, 1) := by decide +kernel
theorem dX4_cut_49 : decode cX4_cut 49 = .ok (.getfield 21, 3) := by decide +kernel
theorem dX4_cut_52 : decode cX4_cut 52 = .ok (.invokevirtual 109, 3) := by decide +kernel
theorem dX4_cut_55 : decode cX4_cut 55 = .ok (.aload_n 0, 1) := by decide +kernel
theorem dX4_cut_56 : decode cX4_cut 56 = .ok (.iconst 1, 1) := by decide +kernel
theorem dX4_cut_57 : decode cX4_cut 57 = .ok (.putfield 32, 3) := by decide +kernel
theorem dX4_cut_60 : decode cX4_cut 60 = .ok (.iload_n 3, 1) := by decide +kernel
theorem dX4_cut_61 : decode cX4_cut 61 = .ok (.ireturn, 1) := by decide +kernel
theorem dX4_start_0 : decode cX4_start 0 = .ok (.aload_n 0, 1) := by decide +kernel
theorem dX4_start_1 : decode cX4_start 1 = .ok (.getfield 32, 3) := by decide +kernel
theorem dX4_start_4 : decode cX4_start 4 = .ok (.ifCond .ne 5, 3) := by decide +kernel
theorem dX4_start_7 : decode cX4_start 7 = .ok (.iconst (-1), 1) := by decide +kernel
theorem dX4_start_8 : decode cX4_start 8 = .ok (.ireturn, 1) := by decide +kernel
theorem dX4_start_9 : decode cX4_start 9 = .ok (.aload_n 0, 1) := by decide +kernel
theorem dX4_start_10 : decode cX4_start 10 = .ok (.getfield 28, 3) := by decide +kernel
theorem dX4_start_13 : decode cX4_start 13 = .ok (.aload_n 0, 1) := by decide +kernel
theorem dX4_start_14 : decode cX4_start 14 = .ok (.getfield 12, 3) := by decide +kernel
theorem dX4_start_17 : decode cX4_start 17 = .ok (.getfield 112, 3) := by decide +kernel
theorem dX4_start_20 : decode cX4_start 20 = .ok (.invokevirtual 116, 3) := by decide +kernel
theorem dX4_start_23 : decode cX4_start 23 = .ok (.ifCond .ne 6, 3) := by decide +kernel
theorem dX4_start_26 : decode cX4_start 26 = .ok (.bipush (-4), 2) := by decide +kernel
theorem dX4_start_28 : decode cX4_start 28 = .ok (.ireturn, 1) := by decide +kernel
theorem dX4_start_29 : decode cX4_start 29 = .ok (.aload_n 0, 1) := by decide +kernel
theorem dX4_start_30 : decode cX4_start 30 = .ok (.getfield 28, 3) := by decide +kernel
theorem dX4_start_33 : decode cX4_start 33 = .ok (.aload_n 0, 1) := by decide +kernel
theorem dX4_start_34 : decode cX4_start 34 = .ok (.getfield 12, 3) := by decide +kernel
theorem dX4_start_37 : decode cX4_start 37 = .ok (.getfield 112, 3) := by decide +kernel
theorem dX4_start_40 : decode cX4_start 40 = .ok (.aload_n 0, 1) := by decide +kernel
theorem dX4_start_41 : decode cX4_start 41 = .ok (.getfield 21, 3) := by decide +kernel
theorem dX4_start_44 : decode cX4_start 44 = .ok (.invokevirtual 120, 3) := by decide +kernel
theorem dX4_start_47 : decode cX4_start 47 = .ok (.aload_n 0, 1) := by decide +kernel
theorem dX4_start_48 : decode cX4_start 48 = .ok (.getfield 28, 3) := by decide +kernel
theorem dX4_start_51 : decode cX4_start 51 = .ok (.aload_n 0, 1) := by decide +kernel
theorem dX4_start_52 : decode cX4_start 52 = .ok (.getfield 12, 3) := by decide +kernel
theorem dX4_start_55 : decode cX4_start 55 = .ok (.getfield 112, 3) := by decide +kernel
theorem dX4_start_58 : decode cX4_start 58 = .ok (.aload_n 0, 1) := by decide +kernel
theorem dX4_start_59 : decode cX4_start 59 = .ok (.getfield 21, 3) := by decide +kernel
theorem dX4_start_62 : decode cX4_start 62 = .ok (.invokevirtual 124, 3) := by decide +kernel
theorem dX4_start_65 : decode cX4_start 65 = .ok (.aload_n 0, 1) := by decide +kernel
theorem dX4_start_66 : decode cX4_start 66 = .ok (.getfield 12, 3) := by decide +kernel
theorem dX4_start_69 : decode cX4_start 69 = .ok (.aload_n 0, 1) := by decide +kernel
theorem dX4_start_70 : decode cX4_start 70 = .ok (.getfield 28, 3) := by decide +kernel
theorem dX4_start_73 : decode cX4_start 73 = .ok (.invokevirtual 127, 3) := by decide +kernel
theorem dX4_start_76 : decode cX4_start 76 = .ok (.aload_n 0, 1) := by decide +kernel
theorem dX4_start_77 : decode cX4_start 77 = .ok (.getfield 28, 3) := by decide +kernel
theorem dX4_start_80 : decode cX4_start 80 = .ok (.invokevirtual 130, 3) := by decide +kernel
theorem dX4_start_83 : decode cX4_start 83 = .ok (.invokevirtual 133, 3) := by decide +kernel
theorem dX4_start_86 : decode cX4_start 86 = .ok (.aload_n 0, 1) := by decide +kernel
theorem dX4_start_87 : decode cX4_start 87 = .ok (.iconst 0, 1) := by decide +kernel
theorem dX4_start_88 : decode cX4_start 88 = .ok (.putfield 70, 3) := by decide +kernel
theorem dX4_start_91 : decode cX4_start 91 = .ok (.aload_n 0, 1) := by decide +kernel
theorem dX4_start_92 : decode cX4_start 92 = .ok (.iconst 0, 1) := by decide +kernel
theorem dX4_start_93 : decode cX4_start 93 = .ok (.putfield 32, 3) := by decide +kernel
theorem dX4_start_96 : decode cX4_start 96 = .ok (.aload_n 0, 1) := by decide +kernel
theorem dX4_start_97 : decode cX4_start 97 = .ok (.invokevirtual 136, 3) := by decide +kernel
theorem dX4_start_100 : decode cX4_start 100 = .ok (.ireturn, 1) := by decide +kernel
theorem dX4_at_0 : decode cX4_at 0 = .ok (.aload_n 0, 1) := by decide +kernel
theorem dX4_at_1 : decode cX4_at 1 = .ok (.getfield 12, 3) := by decide +kernel
theorem dX4_at_4 : decode cX4_at 4 = .ok (.getfield 112, 3) := by decide +kernel
theorem dX4_at_7 : decode cX4_at 7 = .ok (.iload_n 1, 1) := by decide +kernel
theorem dX4_at_8 : decode cX4_at 8 = .ok (.iload_n 2, 1) := by decide +kernel
theorem dX4_at_9 : decode cX4_at 9 = .ok (.invokevirtual 139, 3) := by decide +kernel
theorem dX4_at_12 : decode cX4_at 12 = .ok (.ireturn, 1) := by decide +kernel
theorem dX4_sound_0 : decode cX4_sound 0 = .ok (.aload_n 0, 1) := by decide +kernel
theorem dX4_sound_1 : decode cX4_sound 1 = .ok (.getfield 12, 3) := by decide +kernel
theorem dX4_sound_4 : decode cX4_sound 4 = .ok (.getfield 112, 3) := by decide +kernel
theorem dX4_sound_7 : decode cX4_sound 7 = .ok (.iload_n 1, 1) := by decide +kernel
theorem dX4_sound_8 : decode cX4_sound 8 = .ok (.invokevirtual 144, 3) := by decide +kernel
theorem dX4_sound_11 : decode cX4_sound 11 = .ok (.ireturn, 1) := by decide +kernel
theorem dX4_poke_0 : decode cX4_poke 0 = .ok (.aload_n 0, 1) := by decide +kernel
theorem dX4_poke_1 : decode cX4_poke 1 = .ok (.getfield 12, 3) := by decide +kernel
theorem dX4_poke_4 : decode cX4_poke 4 = .ok (.getfield 112, 3) := by decide +kernel
theorem dX4_poke_7 : decode cX4_poke 7 = .ok (.iload_n 1, 1) := by decide +kernel
theorem dX4_poke_8 : decode cX4_poke 8 = .ok (.iload_n 2, 1) := by decide +kernel
theorem dX4_poke_9 : decode cX4_poke 9 = .ok (.invokevirtual 139, 3) := by decide +kernel
theorem dX4_poke_12 : decode cX4_poke 12 = .ok (.istore 4, 2) := by decide +kernel
theorem dX4_poke_14 : decode cX4_poke 14 = .ok (.iload 4, 2) := by decide +kernel
theorem dX4_poke_16 : decode cX4_poke 16 = .ok (.iconst (-1), 1) := by decide +kernel
theorem dX4_poke_17 : decode cX4_poke 17 = .ok (.if_icmp .eq 15, 3) := by decide +kernel
theorem dX4_poke_20 : decode cX4_poke 20 = .ok (.iload_n 3, 1) := by decide +kernel
theorem dX4_poke_21 : decode cX4_poke 21 = .ok (.iconst 1, 1) := by decide +kernel
theorem dX4_poke_22 : decode cX4_poke 22 = .ok (.if_icmp .lt 10, 3) := by decide +kernel
theorem dX4_poke_25 : decode cX4_poke 25 = .ok (.iload_n 3, 1) := by decide +kernel
theorem dX4_poke_26 : decode cX4_poke 26 = .ok (.sipush 255, 3) := by decide +kernel
theorem dX4_poke_29 : decode cX4_poke 29 = .ok (.if_icmp .le 5, 3) := by decide +kernel
theorem dX4_poke_32 : decode cX4_poke 32 = .ok (.iconst 0, 1) := by decide +kernel
theorem dX4_poke_33 : decode cX4_poke 33 = .ok (.ireturn, 1) := by decide +kernel
theorem dX4_poke_34 : decode cX4_poke 34 = .ok (.aload_n 0, 1) := by decide +kernel
theorem dX4_poke_35 : decode cX4_poke 35 = .ok (.getfield 12, 3) := by decide +kernel
theorem dX4_poke_38 : decode cX4_poke 38 = .ok (.getfield 112, 3) := by decide +kernel
theorem dX4_poke_41 : decode cX4_poke 41 = .ok (.iload_n 1, 1) := by decide +kernel
theorem dX4_poke_42 : decode cX4_poke 42 = .ok (.iload_n 2, 1) := by decide +kernel
theorem dX4_poke_43 : decode cX4_poke 43 = .ok (.iload 4, 2) := by decide +kernel
theorem dX4_poke_45 : decode cX4_poke 45 = .ok (.iload_n 3, 1) := by decide +kernel
theorem dX4_poke_46 : decode cX4_poke 46 = .ok (.ixor, 1) := by decide +kernel
theorem dX4_poke_47 : decode cX4_poke 47 = .ok (.invokevirtual 147, 3) := by decide +kernel
theorem dX4_poke_50 : decode cX4_poke 50 = .ok (.iconst 1, 1) := by decide +kernel
theorem dX4_poke_51 : decode cX4_poke 51 = .ok (.ireturn, 1) := by decide +kernel
theorem dX4_count_0 : decode cX4_count 0 = .ok (.aload_n 0, 1) := by decide +kernel
theorem dX4_count_1 : decode cX4_count 1 = .ok (.getfield 32, 3) := by decide +kernel
theorem dX4_count_4 : decode cX4_count 4 = .ok (.ifCond .eq 6, 3) := by decide +kernel
theorem dX4_count_7 : decode cX4_count 7 = .ok (.bipush (-3), 2) := by decide +kernel
theorem dX4_count_9 : decode cX4_count 9 = .ok (.ireturn, 1) := by decide +kernel
theorem dX4_count_10 : decode cX4_count 10 = .ok (.iload_n 1, 1) := by decide +kernel
theorem dX4_count_11 : decode cX4_count 11 = .ok (.tableswitch 94 0 6 #[41, 49, 57, 65, 73, 81, 89], 41) := by decide +kernel
theorem dX4_count_52 : decode cX4_count 52 = .ok (.aload_n 0, 1) := by decide +kernel
theorem dX4_count_53 : decode cX4_count 53 = .ok (.getfield 12, 3) := by decide +kernel
theorem dX4_count_56 : decode cX4_count 56 = .ok (.invokevirtual 150, 3) := by decide +kernel
theorem dX4_count_59 : decode cX4_count 59 = .ok (.ireturn, 1) := by decide +kernel
theorem dX4_count_60 : decode cX4_count 60 = .ok (.aload_n 0, 1) := by decide +kernel
theorem dX4_count_61 : decode cX4_count 61 = .ok (.getfield 12, 3) := by decide +kernel
theorem dX4_count_64 : decode cX4_count 64 = .ok (.invokevirtual 153, 3) := by decide +kernel
theorem dX4_count_67 : decode cX4_count 67 = .ok (.ireturn, 1) := by decide +kernel
theorem dX4_count_68 : decode cX4_count 68 = .ok (.aload_n 0, 1) := by decide +kernel
theorem dX4_count_69 : decode cX4_count 69 = .ok (.getfield 12, 3) := by decide +kernel
theorem dX4_count_72 : decode cX4_count 72 = .ok (.invokevirtual 102, 3) := by decide +kernel
theorem dX4_count_75 : decode cX4_count 75 = .ok (.ireturn, 1) := by decide +kernel
theorem dX4_count_76 : decode cX4_count 76 = .ok (.aload_n 0, 1) := by decide +kernel
theorem dX4_count_77 : decode cX4_count 77 = .ok (.getfield 12, 3) := by decide +kernel
theorem dX4_count_80 : decode cX4_count 80 = .ok (.invokevirtual 156, 3) := by decide +kernel
theorem dX4_count_83 : decode cX4_count 83 = .ok (.ireturn, 1) := by decide +kernel
theorem dX4_count_84 : decode cX4_count 84 = .ok (.aload_n 0, 1) := by decide +kernel
theorem dX4_count_85 : decode cX4_count 85 = .ok (.getfield 12, 3) := by decide +kernel
theorem dX4_count_88 : decode cX4_count 88 = .ok (.invokevirtual 159, 3) := by decide +kernel
theorem dX4_count_91 : decode cX4_count 91 = .ok (.ireturn, 1) := by decide +kernel
theorem dX4_count_92 : decode cX4_count 92 = .ok (.aload_n 0, 1) := by decide +kernel
theorem dX4_count_93 : decode cX4_count 93 = .ok (.getfield 21, 3) := by decide +kernel
theorem dX4_count_96 : decode cX4_count 96 = .ok (.invokevirtual 92, 3) := by decide +kernel
theorem dX4_count_99 : decode cX4_count 99 = .ok (.ireturn, 1) := by decide +kernel
theorem dX4_count_100 : decode cX4_count 100 = .ok (.aload_n 0, 1) := by decide +kernel
theorem dX4_count_101 : decode cX4_count 101 = .ok (.getfield 70, 3) := by decide +kernel
theorem dX4_count_104 : decode cX4_count 104 = .ok (.ireturn, 1) := by decide +kernel
theorem dX4_count_105 : decode cX4_count 105 = .ok (.iconst (-1), 1) := by decide +kernel
theorem dX4_count_106 : decode cX4_count 106 = .ok (.ireturn, 1) := by decide +kernel
theorem dX4_holder_0 : decode cX4_holder 0 = .ok (.aload_n 0, 1) := by decide +kernel
theorem dX4_holder_1 : decode cX4_holder 1 = .ok (.getfield 32, 3) := by decide +kernel
theorem dX4_holder_4 : decode cX4_holder 4 = .ok (.ifCond .eq 8, 3) := by decide +kernel
theorem dX4_holder_7 : decode cX4_holder 7 = .ok (.bipush (-3), 2) := by decide +kernel
theorem dX4_holder_9 : decode cX4_holder 9 = .ok (.goto 11, 3) := by decide +kernel
theorem dX4_holder_12 : decode cX4_holder 12 = .ok (.aload_n 0, 1) := by decide +kernel
theorem dX4_holder_13 : decode cX4_holder 13 = .ok (.getfield 21, 3) := by decide +kernel
theorem dX4_holder_16 : decode cX4_holder 16 = .ok (.iload_n 1, 1) := by decide +kernel
theorem dX4_holder_17 : decode cX4_holder 17 = .ok (.invokevirtual 50, 3) := by decide +kernel
theorem dX4_holder_20 : decode cX4_holder 20 = .ok (.ireturn, 1) := by decide +kernel
theorem dX4_format_0 : decode cX4_format 0 = .ok (.aload_n 0, 1) := by decide +kernel
theorem dX4_format_1 : decode cX4_format 1 = .ok (.getfield 32, 3) := by decide +kernel
theorem dX4_format_4 : decode cX4_format 4 = .ok (.ifCond .eq 7, 3) := by decide +kernel
theorem dX4_format_7 : decode cX4_format 7 = .ok (.iconst 0, 1) := by decide +kernel
theorem dX4_format_8 : decode cX4_format 8 = .ok (.goto 7, 3) := by decide +kernel
theorem dX4_format_11 : decode cX4_format 11 = .ok (.aload_n 0, 1) := by decide +kernel
theorem dX4_format_12 : decode cX4_format 12 = .ok (.getfield 70, 3) := by decide +kernel
theorem dX4_format_15 : decode cX4_format 15 = .ok (.istore_n 1, 1) := by decide +kernel
theorem dX4_format_16 : decode cX4_format 16 = .ok (.aload_n 0, 1) := by decide +kernel
theorem dX4_format_17 : decode cX4_format 17 = .ok (.getfield 12, 3) := by decide +kernel
theorem dX4_format_20 : decode cX4_format 20 = .ok (.invokevirtual 162, 3) := by decide +kernel
theorem dX4_format_23 : decode cX4_format 23 = .ok (.aload_n 0, 1) := by decide +kernel
theorem dX4_format_24 : decode cX4_format 24 = .ok (.getfield 21, 3) := by decide +kernel
theorem dX4_format_27 : decode cX4_format 27 = .ok (.invokevirtual 109, 3) := by decide +kernel
theorem dX4_format_30 : decode cX4_format 30 = .ok (.aload_n 0, 1) := by decide +kernel
theorem dX4_format_31 : decode cX4_format 31 = .ok (.iconst 0, 1) := by decide +kernel
theorem dX4_format_32 : decode cX4_format 32 = .ok (.putfield 70, 3) := by decide +kernel
theorem dX4_format_35 : decode cX4_format 35 = .ok (.aload_n 0, 1) := by decide +kernel
theorem dX4_format_36 : decode cX4_format 36 = .ok (.iconst 0, 1) := by decide +kernel
theorem dX4_format_37 : decode cX4_format 37 = .ok (.putfield 32, 3) := by decide +kernel
theorem dX4_format_40 : decode cX4_format 40 = .ok (.iload_n 1, 1) := by decide +kernel
theorem dX4_format_41 : decode cX4_format 41 = .ok (.ireturn, 1) := by decide +kernel
theorem dX4_endTransaction_0 : decode cX4_endTransaction 0 = .ok (.aload_n 0, 1) := by decide +kernel
theorem dX4_endTransaction_1 : decode cX4_endTransaction 1 = .ok (.getfield 32, 3) := by decide +kernel
theorem dX4_endTransaction_4 : decode cX4_endTransaction 4 = .ok (.ifCond .eq 6, 3) := by decide +kernel
theorem dX4_endTransaction_7 : decode cX4_endTransaction 7 = .ok (.bipush (-3), 2) := by decide +kernel
theorem dX4_endTransaction_9 : decode cX4_endTransaction 9 = .ok (.ireturn, 1) := by decide +kernel
theorem dX4_endTransaction_10 : decode cX4_endTransaction 10 = .ok (.aload_n 0, 1) := by decide +kernel
theorem dX4_endTransaction_11 : decode cX4_endTransaction 11 = .ok (.getfield 21, 3) := by decide +kernel
theorem dX4_endTransaction_14 : decode cX4_endTransaction 14 = .ok (.iload_n 1, 1) := by decide +kernel
theorem dX4_endTransaction_15 : decode cX4_endTransaction 15 = .ok (.invokevirtual 40, 3) := by decide +kernel
theorem dX4_endTransaction_18 : decode cX4_endTransaction 18 = .ok (.ifCond .ne 5, 3) := by decide +kernel
theorem dX4_endTransaction_21 : decode cX4_endTransaction 21 = .ok (.iconst (-1), 1) := by decide +kernel
theorem dX4_endTransaction_22 : decode cX4_endTransaction 22 = .ok (.ireturn, 1) := by decide +kernel
theorem dX4_endTransaction_23 : decode cX4_endTransaction 23 = .ok (.aload_n 0, 1) := by decide +kernel
theorem dX4_endTransaction_24 : decode cX4_endTransaction 24 = .ok (.getfield 12, 3) := by decide +kernel
theorem dX4_endTransaction_27 : decode cX4_endTransaction 27 = .ok (.invokevirtual 54, 3) := by decide +kernel
theorem dX4_endTransaction_30 : decode cX4_endTransaction 30 = .ok (.ifCond .ne 6, 3) := by decide +kernel
theorem dX4_endTransaction_33 : decode cX4_endTransaction 33 = .ok (.bipush (-2), 2) := by decide +kernel
theorem dX4_endTransaction_35 : decode cX4_endTransaction 35 = .ok (.ireturn, 1) := by decide +kernel
theorem dX4_endTransaction_36 : decode cX4_endTransaction 36 = .ok (.aload_n 0, 1) := by decide +kernel
theorem dX4_endTransaction_37 : decode cX4_endTransaction 37 = .ok (.getfield 12, 3) := by decide +kernel
theorem dX4_endTransaction_40 : decode cX4_endTransaction 40 = .ok (.iload_n 1, 1) := by decide +kernel
theorem dX4_endTransaction_41 : decode cX4_endTransaction 41 = .ok (.iload_n 2, 1) := by decide +kernel
theorem dX4_endTransaction_42 : decode cX4_endTransaction 42 = .ok (.iconst 0, 1) := by decide +kernel
theorem dX4_endTransaction_43 : decode cX4_endTransaction 43 = .ok (.iconst 0, 1) := by decide +kernel
theorem dX4_endTransaction_44 : decode cX4_endTransaction 44 = .ok (.invokevirtual 62, 3) := by decide +kernel
theorem dX4_endTransaction_47 : decode cX4_endTransaction 47 = .ok (.aload_n 0, 1) := by decide +kernel
theorem dX4_endTransaction_48 : decode cX4_endTransaction 48 = .ok (.getfield 21, 3) := by decide +kernel
theorem dX4_endTransaction_51 : decode cX4_endTransaction 51 = .ok (.iload_n 1, 1) := by decide +kernel
theorem dX4_endTransaction_52 : decode cX4_endTransaction 52 = .ok (.iload_n 2, 1) := by decide +kernel
theorem dX4_endTransaction_53 : decode cX4_endTransaction 53 = .ok (.iconst 2, 1) := by decide +kernel
theorem dX4_endTransaction_54 : decode cX4_endTransaction 54 = .ok (.if_icmp .ne 7, 3) := by decide +kernel
theorem dX4_endTransaction_57 : decode cX4_endTransaction 57 = .ok (.iconst 1, 1) := by decide +kernel
theorem dX4_endTransaction_58 : decode cX4_endTransaction 58 = .ok (.goto 4, 3) := by decide +kernel
theorem dX4_endTransaction_61 : decode cX4_endTransaction 61 = .ok (.iconst 0, 1) := by decide +kernel
theorem dX4_endTransaction_62 : decode cX4_endTransaction 62 = .ok (.invokevirtual 165, 3) := by decide +kernel
theorem dX4_endTransaction_65 : decode cX4_endTransaction 65 = .ok (.ireturn, 1) := by decide +kernel
theorem dX4_undoAllOpen_0 : decode cX4_undoAllOpen 0 = .ok (.iconst 0, 1) := by decide +kernel
theorem dX4_undoAllOpen_1 : decode cX4_undoAllOpen 1 = .ok (.istore_n 1, 1) := by decide +kernel
theorem dX4_undoAllOpen_2 : decode cX4_undoAllOpen 2 = .ok (.iconst 0, 1) := by decide +kernel
theorem dX4_undoAllOpen_3 : decode cX4_undoAllOpen 3 = .ok (.istore_n 2, 1) := by decide +kernel
theorem dX4_undoAllOpen_4 : decode cX4_undoAllOpen 4 = .ok (.iload_n 2, 1) := by decide +kernel
theorem dX4_undoAllOpen_5 : decode cX4_undoAllOpen 5 = .ok (.iconst 3, 1) := by decide +kernel
theorem dX4_undoAllOpen_6 : decode cX4_undoAllOpen 6 = .ok (.if_icmp .ge 44, 3) := by decide +kernel
theorem dX4_undoAllOpen_9 : decode cX4_undoAllOpen 9 = .ok (.aload_n 0, 1) := by decide +kernel
theorem dX4_undoAllOpen_10 : decode cX4_undoAllOpen 10 = .ok (.getfield 21, 3) := by decide +kernel
theorem dX4_undoAllOpen_13 : decode cX4_undoAllOpen 13 = .ok (.iload_n 2, 1) := by decide +kernel
theorem dX4_undoAllOpen_14 : decode cX4_undoAllOpen 14 = .ok (.invokevirtual 40, 3) := by decide +kernel
theorem dX4_undoAllOpen_17 : decode cX4_undoAllOpen 17 = .ok (.ifCond .eq 27, 3) := by decide +kernel
theorem dX4_undoAllOpen_20 : decode cX4_undoAllOpen 20 = .ok (.aload_n 0, 1) := by decide +kernel
theorem dX4_undoAllOpen_21 : decode cX4_undoAllOpen 21 = .ok (.getfield 12, 3) := by decide +kernel
theorem dX4_undoAllOpen_24 : decode cX4_undoAllOpen 24 = .ok (.iload_n 2, 1) := by decide +kernel
theorem dX4_undoAllOpen_25 : decode cX4_undoAllOpen 25 = .ok (.iconst 3, 1) := by decide +kernel
theorem dX4_undoAllOpen_26 : decode cX4_undoAllOpen 26 = .ok (.iconst 0, 1) := by decide +kernel
theorem dX4_undoAllOpen_27 : decode cX4_undoAllOpen 27 = .ok (.iconst 0, 1) := by decide +kernel
theorem dX4_undoAllOpen_28 : decode cX4_undoAllOpen 28 = .ok (.invokevirtual 62, 3) := by decide +kernel
theorem dX4_undoAllOpen_31 : decode cX4_undoAllOpen 31 = .ok (.aload_n 0, 1) := by decide +kernel
theorem dX4_undoAllOpen_32 : decode cX4_undoAllOpen 32 = .ok (.getfield 21, 3) := by decide +kernel
theorem dX4_undoAllOpen_35 : decode cX4_undoAllOpen 35 = .ok (.iload_n 2, 1) := by decide +kernel
theorem dX4_undoAllOpen_36 : decode cX4_undoAllOpen 36 = .ok (.iconst 0, 1) := by decide +kernel
theorem dX4_undoAllOpen_37 : decode cX4_undoAllOpen 37 = .ok (.invokevirtual 165, 3) := by decide +kernel
theorem dX4_undoAllOpen_40 : decode cX4_undoAllOpen 40 = .ok (.pop, 1) := by decide +kernel
theorem dX4_undoAllOpen_41 : decode cX4_undoAllOpen 41 = .ok (.iinc 1 1, 3) := by decide +kernel
theorem dX4_undoAllOpen_44 : decode cX4_undoAllOpen 44 = .ok (.iinc 2 1, 3) := by decide +kernel
theorem dX4_undoAllOpen_47 : decode cX4_undoAllOpen 47 = .ok (.goto (-43), 3) := by decide +kernel
theorem dX4_undoAllOpen_50 : decode cX4_undoAllOpen 50 = .ok (.iload_n 1, 1) := by decide +kernel
theorem dX4_undoAllOpen_51 : decode cX4_undoAllOpen 51 = .ok (.ireturn, 1) := by decide +kernel
theorem dX4_isTransaction_0 : decode cX4_isTransaction 0 = .ok (.iload_n 0, 1) := by decide +kernel
theorem dX4_isTransaction_1 : decode cX4_isTransaction 1 = .ok (.ifCond .lt 12, 3) := by decide +kernel
theorem dX4_isTransaction_4 : decode cX4_isTransaction 4 = .ok (.iload_n 0, 1) := by decide +kernel
theorem dX4_isTransaction_5 : decode cX4_isTransaction 5 = .ok (.iconst 3, 1) := by decide +kernel
theorem dX4_isTransaction_6 : decode cX4_isTransaction 6 = .ok (.if_icmp .ge 7, 3) := by decide +kernel
theorem dX4_isTransaction_9 : decode cX4_isTransaction 9 = .ok (.iconst 1, 1) := by decide +kernel
theorem dX4_isTransaction_10 : decode cX4_isTransaction 10 = .ok (.goto 4, 3) := by decide +kernel
theorem dX4_isTransaction_13 : decode cX4_isTransaction 13 = .ok (.iconst 0, 1) := by decide +kernel
theorem dX4_isTransaction_14 : decode cX4_isTransaction 14 = .ok (.ireturn, 1) := by decide +kernel
theorem dX4_isKey_0 : decode cX4_isKey 0 = .ok (.iload_n 0, 1) := by decide +kernel
theorem dX4_isKey_1 : decode cX4_isKey 1 = .ok (.ifCond .lt 13, 3) := by decide +kernel
theorem dX4_isKey_4 : decode cX4_isKey 4 = .ok (.iload_n 0, 1) := by decide +kernel
theorem dX4_isKey_5 : decode cX4_isKey 5 = .ok (.bipush 32, 2) := by decide +kernel
theorem dX4_isKey_7 : decode cX4_isKey 7 = .ok (.if_icmp .ge 7, 3) := by decide +kernel
theorem dX4_isKey_10 : decode cX4_isKey 10 = .ok (.iconst 1, 1) := by decide +kernel
theorem dX4_isKey_11 : decode cX4_isKey 11 = .ok (.goto 4, 3) := by decide +kernel
theorem dX4_isKey_14 : decode cX4_isKey 14 = .ok (.iconst 0, 1) := by decide +kernel
theorem dX4_isKey_15 : decode cX4_isKey 15 = .ok (.ireturn, 1) := by decide +kernel
theorem dX4_isValue_0 : decode cX4_isValue 0 = .ok (.iload_n 0, 1) := by decide +kernel
theorem dX4_isValue_1 : decode cX4_isValue 1 = .ok (.ifCond .lt 13, 3) := by decide +kernel
theorem dX4_isValue_4 : decode cX4_isValue 4 = .ok (.iload_n 0, 1) := by decide +kernel
theorem dX4_isValue_5 : decode cX4_isValue 5 = .ok (.ldc 169, 2) := by decide +kernel
theorem dX4_isValue_7 : decode cX4_isValue 7 = .ok (.if_icmp .gt 7, 3) := by decide +kernel
theorem dX4_isValue_10 : decode cX4_isValue 10 = .ok (.iconst 1, 1) := by decide +kernel
theorem dX4_isValue_11 : decode cX4_isValue 11 = .ok (.goto 4, 3) := by decide +kernel
theorem dX4_isValue_14 : decode cX4_isValue 14 = .ok (.iconst 0, 1) := by decide +kernel
theorem dX4_isValue_15 : decode cX4_isValue 15 = .ok (.ireturn, 1) := by decide +kernel
