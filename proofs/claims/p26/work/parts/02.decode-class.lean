theorem dX0_init_0 : decode cX0_init 0 = .ok (.aload_n 0, 1) := by decide +kernel
theorem dX0_init_1 : decode cX0_init 1 = .ok (.invokespecial 3, 3) := by decide +kernel
theorem dX0_init_4 : decode cX0_init 4 = .ok (.aload_n 0, 1) := by decide +kernel
theorem dX0_init_5 : decode cX0_init 5 = .ok (.bipush 60, 2) := by decide +kernel
theorem dX0_init_7 : decode cX0_init 7 = .ok (.newarray .int, 2) := by decide +kernel
theorem dX0_init_9 : decode cX0_init 9 = .ok (.putfield 9, 3) := by decide +kernel
theorem dX0_init_12 : decode cX0_init 12 = .ok (.return_, 1) := by decide +kernel
theorem dX0_copyFrom_0 : decode cX0_copyFrom 0 = .ok (.aload_n 1, 1) := by decide +kernel
theorem dX0_copyFrom_1 : decode cX0_copyFrom 1 = .ok (.getfield 9, 3) := by decide +kernel
theorem dX0_copyFrom_4 : decode cX0_copyFrom 4 = .ok (.iconst 0, 1) := by decide +kernel
theorem dX0_copyFrom_5 : decode cX0_copyFrom 5 = .ok (.aload_n 0, 1) := by decide +kernel
theorem dX0_copyFrom_6 : decode cX0_copyFrom 6 = .ok (.getfield 9, 3) := by decide +kernel
theorem dX0_copyFrom_9 : decode cX0_copyFrom 9 = .ok (.iconst 0, 1) := by decide +kernel
theorem dX0_copyFrom_10 : decode cX0_copyFrom 10 = .ok (.bipush 60, 2) := by decide +kernel
theorem dX0_copyFrom_12 : decode cX0_copyFrom 12 = .ok (.invokestatic 15, 3) := by decide +kernel
theorem dX0_copyFrom_15 : decode cX0_copyFrom 15 = .ok (.aload_n 0, 1) := by decide +kernel
theorem dX0_copyFrom_16 : decode cX0_copyFrom 16 = .ok (.aload_n 1, 1) := by decide +kernel
theorem dX0_copyFrom_17 : decode cX0_copyFrom 17 = .ok (.getfield 21, 3) := by decide +kernel
theorem dX0_copyFrom_20 : decode cX0_copyFrom 20 = .ok (.putfield 21, 3) := by decide +kernel
theorem dX0_copyFrom_23 : decode cX0_copyFrom 23 = .ok (.aload_n 0, 1) := by decide +kernel
theorem dX0_copyFrom_24 : decode cX0_copyFrom 24 = .ok (.aload_n 1, 1) := by decide +kernel
theorem dX0_copyFrom_25 : decode cX0_copyFrom 25 = .ok (.getfield 25, 3) := by decide +kernel
theorem dX0_copyFrom_28 : decode cX0_copyFrom 28 = .ok (.putfield 25, 3) := by decide +kernel
theorem dX0_copyFrom_31 : decode cX0_copyFrom 31 = .ok (.aload_n 0, 1) := by decide +kernel
theorem dX0_copyFrom_32 : decode cX0_copyFrom 32 = .ok (.aload_n 1, 1) := by decide +kernel
theorem dX0_copyFrom_33 : decode cX0_copyFrom 33 = .ok (.getfield 28, 3) := by decide +kernel
theorem dX0_copyFrom_36 : decode cX0_copyFrom 36 = .ok (.putfield 28, 3) := by decide +kernel
theorem dX0_copyFrom_39 : decode cX0_copyFrom 39 = .ok (.return_, 1) := by decide +kernel
theorem dX0_startIn_0 : decode cX0_startIn 0 = .ok (.aload_n 0, 1) := by decide +kernel
theorem dX0_startIn_1 : decode cX0_startIn 1 = .ok (.iload_n 1, 1) := by decide +kernel
theorem dX0_startIn_2 : decode cX0_startIn 2 = .ok (.putfield 21, 3) := by decide +kernel
theorem dX0_startIn_5 : decode cX0_startIn 5 = .ok (.aload_n 0, 1) := by decide +kernel
theorem dX0_startIn_6 : decode cX0_startIn 6 = .ok (.iconst 0, 1) := by decide +kernel
theorem dX0_startIn_7 : decode cX0_startIn 7 = .ok (.putfield 25, 3) := by decide +kernel
theorem dX0_startIn_10 : decode cX0_startIn 10 = .ok (.aload_n 0, 1) := by decide +kernel
theorem dX0_startIn_11 : decode cX0_startIn 11 = .ok (.iconst 0, 1) := by decide +kernel
theorem dX0_startIn_12 : decode cX0_startIn 12 = .ok (.putfield 28, 3) := by decide +kernel
theorem dX0_startIn_15 : decode cX0_startIn 15 = .ok (.return_, 1) := by decide +kernel
theorem dX0_note_0 : decode cX0_note 0 = .ok (.aload_n 0, 1) := by decide +kernel
theorem dX0_note_1 : decode cX0_note 1 = .ok (.getfield 9, 3) := by decide +kernel
theorem dX0_note_4 : decode cX0_note 4 = .ok (.aload_n 0, 1) := by decide +kernel
theorem dX0_note_5 : decode cX0_note 5 = .ok (.getfield 28, 3) := by decide +kernel
theorem dX0_note_8 : decode cX0_note 8 = .ok (.iload_n 1, 1) := by decide +kernel
theorem dX0_note_9 : decode cX0_note 9 = .ok (.iastore, 1) := by decide +kernel
theorem dX0_note_10 : decode cX0_note 10 = .ok (.aload_n 0, 1) := by decide +kernel
theorem dX0_note_11 : decode cX0_note 11 = .ok (.aload_n 0, 1) := by decide +kernel
theorem dX0_note_12 : decode cX0_note 12 = .ok (.getfield 28, 3) := by decide +kernel
theorem dX0_note_15 : decode cX0_note 15 = .ok (.iconst 1, 1) := by decide +kernel
theorem dX0_note_16 : decode cX0_note 16 = .ok (.iadd, 1) := by decide +kernel
theorem dX0_note_17 : decode cX0_note 17 = .ok (.bipush 60, 2) := by decide +kernel
theorem dX0_note_19 : decode cX0_note 19 = .ok (.irem, 1) := by decide +kernel
theorem dX0_note_20 : decode cX0_note 20 = .ok (.putfield 28, 3) := by decide +kernel
theorem dX0_note_23 : decode cX0_note 23 = .ok (.aload_n 0, 1) := by decide +kernel
theorem dX0_note_24 : decode cX0_note 24 = .ok (.aload_n 0, 1) := by decide +kernel
theorem dX0_note_25 : decode cX0_note 25 = .ok (.getfield 25, 3) := by decide +kernel
theorem dX0_note_28 : decode cX0_note 28 = .ok (.iconst 1, 1) := by decide +kernel
theorem dX0_note_29 : decode cX0_note 29 = .ok (.iadd, 1) := by decide +kernel
theorem dX0_note_30 : decode cX0_note 30 = .ok (.bipush 60, 2) := by decide +kernel
theorem dX0_note_32 : decode cX0_note 32 = .ok (.invokestatic 31, 3) := by decide +kernel
theorem dX0_note_35 : decode cX0_note 35 = .ok (.putfield 25, 3) := by decide +kernel
theorem dX0_note_38 : decode cX0_note 38 = .ok (.return_, 1) := by decide +kernel
theorem dX0_levelAgo_0 : decode cX0_levelAgo 0 = .ok (.aload_n 0, 1) := by decide +kernel
theorem dX0_levelAgo_1 : decode cX0_levelAgo 1 = .ok (.getfield 9, 3) := by decide +kernel
theorem dX0_levelAgo_4 : decode cX0_levelAgo 4 = .ok (.aload_n 0, 1) := by decide +kernel
theorem dX0_levelAgo_5 : decode cX0_levelAgo 5 = .ok (.getfield 28, 3) := by decide +kernel
theorem dX0_levelAgo_8 : decode cX0_levelAgo 8 = .ok (.iconst 1, 1) := by decide +kernel
theorem dX0_levelAgo_9 : decode cX0_levelAgo 9 = .ok (.isub, 1) := by decide +kernel
theorem dX0_levelAgo_10 : decode cX0_levelAgo 10 = .ok (.iload_n 1, 1) := by decide +kernel
theorem dX0_levelAgo_11 : decode cX0_levelAgo 11 = .ok (.isub, 1) := by decide +kernel
theorem dX0_levelAgo_12 : decode cX0_levelAgo 12 = .ok (.bipush 60, 2) := by decide +kernel
theorem dX0_levelAgo_14 : decode cX0_levelAgo 14 = .ok (.invokestatic 37, 3) := by decide +kernel
theorem dX0_levelAgo_17 : decode cX0_levelAgo 17 = .ok (.iaload, 1) := by decide +kernel
theorem dX0_levelAgo_18 : decode cX0_levelAgo 18 = .ok (.ireturn, 1) := by decide +kernel
theorem dX0_greatest_0 : decode cX0_greatest 0 = .ok (.sipush (-9999), 3) := by decide +kernel
theorem dX0_greatest_3 : decode cX0_greatest 3 = .ok (.istore_n 1, 1) := by decide +kernel
theorem dX0_greatest_4 : decode cX0_greatest 4 = .ok (.iconst 0, 1) := by decide +kernel
theorem dX0_greatest_5 : decode cX0_greatest 5 = .ok (.istore_n 2, 1) := by decide +kernel
theorem dX0_greatest_6 : decode cX0_greatest 6 = .ok (.iload_n 2, 1) := by decide +kernel
theorem dX0_greatest_7 : decode cX0_greatest 7 = .ok (.aload_n 0, 1) := by decide +kernel
theorem dX0_greatest_8 : decode cX0_greatest 8 = .ok (.getfield 25, 3) := by decide +kernel
theorem dX0_greatest_11 : decode cX0_greatest 11 = .ok (.if_icmp .ge 19, 3) := by decide +kernel
theorem dX0_greatest_14 : decode cX0_greatest 14 = .ok (.iload_n 1, 1) := by decide +kernel
theorem dX0_greatest_15 : decode cX0_greatest 15 = .ok (.aload_n 0, 1) := by decide +kernel
theorem dX0_greatest_16 : decode cX0_greatest 16 = .ok (.iload_n 2, 1) := by decide +kernel
theorem dX0_greatest_17 : decode cX0_greatest 17 = .ok (.invokevirtual 40, 3) := by decide +kernel
theorem dX0_greatest_20 : decode cX0_greatest 20 = .ok (.invokestatic 44, 3) := by decide +kernel
theorem dX0_greatest_23 : decode cX0_greatest 23 = .ok (.istore_n 1, 1) := by decide +kernel
theorem dX0_greatest_24 : decode cX0_greatest 24 = .ok (.iinc 2 1, 3) := by decide +kernel
theorem dX0_greatest_27 : decode cX0_greatest 27 = .ok (.goto (-21), 3) := by decide +kernel
theorem dX0_greatest_30 : decode cX0_greatest 30 = .ok (.iload_n 1, 1) := by decide +kernel
theorem dX0_greatest_31 : decode cX0_greatest 31 = .ok (.ireturn, 1) := by decide +kernel
theorem dX0_least_0 : decode cX0_least 0 = .ok (.sipush 9999, 3) := by decide +kernel
theorem dX0_least_3 : decode cX0_least 3 = .ok (.istore_n 1, 1) := by decide +kernel
theorem dX0_least_4 : decode cX0_least 4 = .ok (.iconst 0, 1) := by decide +kernel
theorem dX0_least_5 : decode cX0_least 5 = .ok (.istore_n 2, 1) := by decide +kernel
theorem dX0_least_6 : decode cX0_least 6 = .ok (.iload_n 2, 1) := by decide +kernel
theorem dX0_least_7 : decode cX0_least 7 = .ok (.aload_n 0, 1) := by decide +kernel
theorem dX0_least_8 : decode cX0_least 8 = .ok (.getfield 25, 3) := by decide +kernel
theorem dX0_least_11 : decode cX0_least 11 = .ok (.if_icmp .ge 19, 3) := by decide +kernel
theorem dX0_least_14 : decode cX0_least 14 = .ok (.iload_n 1, 1) := by decide +kernel
theorem dX0_least_15 : decode cX0_least 15 = .ok (.aload_n 0, 1) := by decide +kernel
theorem dX0_least_16 : decode cX0_least 16 = .ok (.iload_n 2, 1) := by decide +kernel
theorem dX0_least_17 : decode cX0_least 17 = .ok (.invokevirtual 40, 3) := by decide +kernel
theorem dX0_least_20 : decode cX0_least 20 = .ok (.invokestatic 31, 3) := by decide +kernel
theorem dX0_least_23 : decode cX0_least 23 = .ok (.istore_n 1, 1) := by decide +kernel
theorem dX0_least_24 : decode cX0_least 24 = .ok (.iinc 2 1, 3) := by decide +kernel
theorem dX0_least_27 : decode cX0_least 27 = .ok (.goto (-21), 3) := by decide +kernel
theorem dX0_least_30 : decode cX0_least 30 = .ok (.iload_n 1, 1) := by decide +kernel
theorem dX0_least_31 : decode cX0_least 31 = .ok (.ireturn, 1) := by decide +kernel
theorem dX0_rises_0 : decode cX0_rises 0 = .ok (.iconst 0, 1) := by decide +kernel
theorem dX0_rises_1 : decode cX0_rises 1 = .ok (.istore_n 1, 1) := by decide +kernel
theorem dX0_rises_2 : decode cX0_rises 2 = .ok (.iconst 0, 1) := by decide +kernel
theorem dX0_rises_3 : decode cX0_rises 3 = .ok (.istore_n 2, 1) := by decide +kernel
theorem dX0_rises_4 : decode cX0_rises 4 = .ok (.iload_n 2, 1) := by decide +kernel
theorem dX0_rises_5 : decode cX0_rises 5 = .ok (.iconst 1, 1) := by decide +kernel
theorem dX0_rises_6 : decode cX0_rises 6 = .ok (.iadd, 1) := by decide +kernel
theorem dX0_rises_7 : decode cX0_rises 7 = .ok (.aload_n 0, 1) := by decide +kernel
theorem dX0_rises_8 : decode cX0_rises 8 = .ok (.getfield 25, 3) := by decide +kernel
theorem dX0_rises_11 : decode cX0_rises 11 = .ok (.if_icmp .ge 30, 3) := by decide +kernel
theorem dX0_rises_14 : decode cX0_rises 14 = .ok (.aload_n 0, 1) := by decide +kernel
theorem dX0_rises_15 : decode cX0_rises 15 = .ok (.iload_n 2, 1) := by decide +kernel
theorem dX0_rises_16 : decode cX0_rises 16 = .ok (.invokevirtual 40, 3) := by decide +kernel
theorem dX0_rises_19 : decode cX0_rises 19 = .ok (.ifCond .lt 16, 3) := by decide +kernel
theorem dX0_rises_22 : decode cX0_rises 22 = .ok (.aload_n 0, 1) := by decide +kernel
theorem dX0_rises_23 : decode cX0_rises 23 = .ok (.iload_n 2, 1) := by decide +kernel
theorem dX0_rises_24 : decode cX0_rises 24 = .ok (.iconst 1, 1) := by decide +kernel
theorem dX0_rises_25 : decode cX0_rises 25 = .ok (.iadd, 1) := by decide +kernel
theorem dX0_rises_26 : decode cX0_rises 26 = .ok (.invokevirtual 40, 3) := by decide +kernel
theorem dX0_rises_29 : decode cX0_rises 29 = .ok (.ifCond .ge 6, 3) := by decide +kernel
theorem dX0_rises_32 : decode cX0_rises 32 = .ok (.iinc 1 1, 3) := by decide +kernel
theorem dX0_rises_35 : decode cX0_rises 35 = .ok (.iinc 2 1, 3) := by decide +kernel
theorem dX0_rises_38 : decode cX0_rises 38 = .ok (.goto (-34), 3) := by decide +kernel
theorem dX0_rises_41 : decode cX0_rises 41 = .ok (.iload_n 1, 1) := by decide +kernel
theorem dX0_rises_42 : decode cX0_rises 42 = .ok (.ireturn, 1) := by decide +kernel
theorem dX1_init_0 : decode cX1_init 0 = .ok (.aload_n 0, 1) := by decide +kernel
theorem dX1_init_1 : decode cX1_init 1 = .ok (.invokespecial 3, 3) := by decide +kernel
theorem dX1_init_4 : decode cX1_init 4 = .ok (.aload_n 0, 1) := by decide +kernel
theorem dX1_init_5 : decode cX1_init 5 = .ok (.bipush 6, 2) := by decide +kernel
theorem dX1_init_7 : decode cX1_init 7 = .ok (.anewarray 9, 3) := by decide +kernel
theorem dX1_init_10 : decode cX1_init 10 = .ok (.putfield 11, 3) := by decide +kernel
theorem dX1_init_13 : decode cX1_init 13 = .ok (.iconst 0, 1) := by decide +kernel
theorem dX1_init_14 : decode cX1_init 14 = .ok (.istore_n 1, 1) := by decide +kernel
theorem dX1_init_15 : decode cX1_init 15 = .ok (.iload_n 1, 1) := by decide +kernel
theorem dX1_init_16 : decode cX1_init 16 = .ok (.bipush 6, 2) := by decide +kernel
theorem dX1_init_18 : decode cX1_init 18 = .ok (.if_icmp .ge 22, 3) := by decide +kernel
theorem dX1_init_21 : decode cX1_init 21 = .ok (.aload_n 0, 1) := by decide +kernel
theorem dX1_init_22 : decode cX1_init 22 = .ok (.getfield 11, 3) := by decide +kernel
theorem dX1_init_25 : decode cX1_init 25 = .ok (.iload_n 1, 1) := by decide +kernel
theorem dX1_init_26 : decode cX1_init 26 = .ok (.new 9, 3) := by decide +kernel
theorem dX1_init_29 : decode cX1_init 29 = .ok (.dup, 1) := by decide +kernel
theorem dX1_init_30 : decode cX1_init 30 = .ok (.invokespecial 17, 3) := by decide +kernel
theorem dX1_init_33 : decode cX1_init 33 = .ok (.aastore, 1) := by decide +kernel
theorem dX1_init_34 : decode cX1_init 34 = .ok (.iinc 1 1, 3) := by decide +kernel
theorem dX1_init_37 : decode cX1_init 37 = .ok (.goto (-22), 3) := by decide +kernel
theorem dX1_init_40 : decode cX1_init 40 = .ok (.return_, 1) := by decide +kernel
theorem dX1_push_0 : decode cX1_push 0 = .ok (.aload_n 0, 1) := by decide +kernel
theorem dX1_push_1 : decode cX1_push 1 = .ok (.getfield 18, 3) := by decide +kernel
theorem dX1_push_4 : decode cX1_push 4 = .ok (.bipush 6, 2) := by decide +kernel
theorem dX1_push_6 : decode cX1_push 6 = .ok (.if_icmp .lt 7, 3) := by decide +kernel
theorem dX1_push_9 : decode cX1_push 9 = .ok (.aload_n 0, 1) := by decide +kernel
theorem dX1_push_10 : decode cX1_push 10 = .ok (.invokevirtual 22, 3) := by decide +kernel
theorem dX1_push_13 : decode cX1_push 13 = .ok (.aload_n 0, 1) := by decide +kernel
theorem dX1_push_14 : decode cX1_push 14 = .ok (.getfield 11, 3) := by decide +kernel
theorem dX1_push_17 : decode cX1_push 17 = .ok (.aload_n 0, 1) := by decide +kernel
theorem dX1_push_18 : decode cX1_push 18 = .ok (.getfield 18, 3) := by decide +kernel
theorem dX1_push_21 : decode cX1_push 21 = .ok (.aaload, 1) := by decide +kernel
theorem dX1_push_22 : decode cX1_push 22 = .ok (.aload_n 1, 1) := by decide +kernel
theorem dX1_push_23 : decode cX1_push 23 = .ok (.invokevirtual 25, 3) := by decide +kernel
theorem dX1_push_26 : decode cX1_push 26 = .ok (.aload_n 0, 1) := by decide +kernel
theorem dX1_push_27 : decode cX1_push 27 = .ok (.dup, 1) := by decide +kernel
theorem dX1_push_28 : decode cX1_push 28 = .ok (.getfield 18, 3) := by decide +kernel
theorem dX1_push_31 : decode cX1_push 31 = .ok (.iconst 1, 1) := by decide +kernel
theorem dX1_push_32 : decode cX1_push 32 = .ok (.iadd, 1) := by decide +kernel
theorem dX1_push_33 : decode cX1_push 33 = .ok (.putfield 18, 3) := by decide +kernel
theorem dX1_push_36 : decode cX1_push 36 = .ok (.return_, 1) := by decide +kernel
theorem dX1_dropOldest_0 : decode cX1_dropOldest 0 = .ok (.aload_n 0, 1) := by decide +kernel
theorem dX1_dropOldest_1 : decode cX1_dropOldest 1 = .ok (.getfield 11, 3) := by decide +kernel
theorem dX1_dropOldest_4 : decode cX1_dropOldest 4 = .ok (.iconst 0, 1) := by decide +kernel
theorem dX1_dropOldest_5 : decode cX1_dropOldest 5 = .ok (.aaload, 1) := by decide +kernel
theorem dX1_dropOldest_6 : decode cX1_dropOldest 6 = .ok (.astore_n 1, 1) := by decide +kernel
theorem dX1_dropOldest_7 : decode cX1_dropOldest 7 = .ok (.iconst 1, 1) := by decide +kernel
theorem dX1_dropOldest_8 : decode cX1_dropOldest 8 = .ok (.istore_n 2, 1) := by decide +kernel
theorem dX1_dropOldest_9 : decode cX1_dropOldest 9 = .ok (.iload_n 2, 1) := by decide +kernel
theorem dX1_dropOldest_10 : decode cX1_dropOldest 10 = .ok (.bipush 6, 2) := by decide +kernel
theorem dX1_dropOldest_12 : decode cX1_dropOldest 12 = .ok (.if_icmp .ge 23, 3) := by decide +kernel
theorem dX1_dropOldest_15 : decode cX1_dropOldest 15 = .ok (.aload_n 0, 1) := by decide +kernel
theorem dX1_dropOldest_16 : decode cX1_dropOldest 16 = .ok (.getfield 11, 3) := by decide +kernel
theorem dX1_dropOldest_19 : decode cX1_dropOldest 19 = .ok (.iload_n 2, 1) := by decide +kernel
theorem dX1_dropOldest_20 : decode cX1_dropOldest 20 = .ok (.iconst 1, 1) := by decide +kernel
theorem dX1_dropOldest_21 : decode cX1_dropOldest 21 = .ok (.isub, 1) := by decide +kernel
theorem dX1_dropOldest_22 : decode cX1_dropOldest 22 = .ok (.aload_n 0, 1) := by decide +kernel
theorem dX1_dropOldest_23 : decode cX1_dropOldest 23 = .ok (.getfield 11, 3) := by decide +kernel
theorem dX1_dropOldest_26 : decode cX1_dropOldest 26 = .ok (.iload_n 2, 1) := by decide +kernel
theorem dX1_dropOldest_27 : decode cX1_dropOldest 27 = .ok (.aaload, 1) := by decide +kernel
theorem dX1_dropOldest_28 : decode cX1_dropOldest 28 = .ok (.aastore, 1) := by decide +kernel
theorem dX1_dropOldest_29 : decode cX1_dropOldest 29 = .ok (.iinc 2 1, 3) := by decide +kernel
theorem dX1_dropOldest_32 : decode cX1_dropOldest 32 = .ok (.goto (-23), 3) := by decide +kernel
theorem dX1_dropOldest_35 : decode cX1_dropOldest 35 = .ok (.aload_n 0, 1) := by decide +kernel
theorem dX1_dropOldest_36 : decode cX1_dropOldest 36 = .ok (.getfield 11, 3) := by decide +kernel
theorem dX1_dropOldest_39 : decode cX1_dropOldest 39 = .ok (.iconst 5, 1) := by decide +kernel
theorem dX1_dropOldest_40 : decode cX1_dropOldest 40 = .ok (.aload_n 1, 1) := by decide +kernel
theorem dX1_dropOldest_41 : decode cX1_dropOldest 41 = .ok (.aastore, 1) := by decide +kernel
theorem dX1_dropOldest_42 : decode cX1_dropOldest 42 = .ok (.aload_n 0, 1) := by decide +kernel
theorem dX1_dropOldest_43 : decode cX1_dropOldest 43 = .ok (.iconst 5, 1) := by decide +kernel
theorem dX1_dropOldest_44 : decode cX1_dropOldest 44 = .ok (.putfield 18, 3) := by decide +kernel
theorem dX1_dropOldest_47 : decode cX1_dropOldest 47 = .ok (.return_, 1) := by decide +kernel
theorem dX2_init_0 : decode cX2_init 0 = .ok (.aload_n 0, 1) := by decide +kernel
theorem dX2_init_1 : decode cX2_init 1 = .ok (.invokespecial 3, 3) := by decide +kernel
theorem dX2_init_4 : decode cX2_init 4 = .ok (.aload_n 0, 1) := by decide +kernel
theorem dX2_init_5 : decode cX2_init 5 = .ok (.bipush 80, 2) := by decide +kernel
theorem dX2_init_7 : decode cX2_init 7 = .ok (.newarray .char, 2) := by decide +kernel
theorem dX2_init_9 : decode cX2_init 9 = .ok (.putfield 9, 3) := by decide +kernel
theorem dX2_init_12 : decode cX2_init 12 = .ok (.return_, 1) := by decide +kernel
theorem dX3_init_0 : decode cX3_init 0 = .ok (.aload_n 0, 1) := by decide +kernel
theorem dX3_init_1 : decode cX3_init 1 = .ok (.invokespecial 3, 3) := by decide +kernel
theorem dX3_init_4 : decode cX3_init 4 = .ok (.aload_n 0, 1) := by decide +kernel
theorem dX3_init_5 : decode cX3_init 5 = .ok (.iconst 1, 1) := by decide +kernel
theorem dX3_init_6 : decode cX3_init 6 = .ok (.putfield 9, 3) := by decide +kernel
theorem dX3_init_9 : decode cX3_init 9 = .ok (.return_, 1) := by decide +kernel
theorem dX3_copyFrom_0 : decode cX3_copyFrom 0 = .ok (.aload_n 0, 1) := by decide +kernel
theorem dX3_copyFrom_1 : decode cX3_copyFrom 1 = .ok (.aload_n 1, 1) := by decide +kernel
theorem dX3_copyFrom_2 : decode cX3_copyFrom 2 = .ok (.getfield 15, 3) := by decide +kernel
theorem dX3_copyFrom_5 : decode cX3_copyFrom 5 = .ok (.putfield 15, 3) := by decide +kernel
theorem dX3_copyFrom_8 : decode cX3_copyFrom 8 = .ok (.aload_n 0, 1) := by decide +kernel
theorem dX3_copyFrom_9 : decode cX3_copyFrom 9 = .ok (.aload_n 1, 1) := by decide +kernel
theorem dX3_copyFrom_10 : decode cX3_copyFrom 10 = .ok (.getfield 18, 3) := by decide +kernel
theorem dX3_copyFrom_13 : decode cX3_copyFrom 13 = .ok (.putfield 18, 3) := by decide +kernel
theorem dX3_copyFrom_16 : decode cX3_copyFrom 16 = .ok (.aload_n 0, 1) := by decide +kernel
theorem dX3_copyFrom_17 : decode cX3_copyFrom 17 = .ok (.aload_n 1, 1) := by decide +kernel
theorem dX3_copyFrom_18 : decode cX3_copyFrom 18 = .ok (.getfield 21, 3) := by decide +kernel
theorem dX3_copyFrom_21 : decode cX3_copyFrom 21 = .ok (.putfield 21, 3) := by decide +kernel
theorem dX3_copyFrom_24 : decode cX3_copyFrom 24 = .ok (.aload_n 0, 1) := by decide +kernel
theorem dX3_copyFrom_25 : decode cX3_copyFrom 25 = .ok (.aload_n 1, 1) := by decide +kernel
theorem dX3_copyFrom_26 : decode cX3_copyFrom 26 = .ok (.getfield 9, 3) := by decide +kernel
theorem dX3_copyFrom_29 : decode cX3_copyFrom 29 = .ok (.putfield 9, 3) := by decide +kernel
theorem dX3_copyFrom_32 : decode cX3_copyFrom 32 = .ok (.aload_n 0, 1) := by decide +kernel
theorem dX3_copyFrom_33 : decode cX3_copyFrom 33 = .ok (.aload_n 1, 1) := by decide +kernel
theorem dX3_copyFrom_34 : decode cX3_copyFrom 34 = .ok (.getfield 24, 3) := by decide +kernel
theorem dX3_copyFrom_37 : decode cX3_copyFrom 37 = .ok (.putfield 24, 3) := by decide +kernel
theorem dX3_copyFrom_40 : decode cX3_copyFrom 40 = .ok (.aload_n 0, 1) := by decide +kernel
theorem dX3_copyFrom_41 : decode cX3_copyFrom 41 = .ok (.aload_n 1, 1) := by decide +kernel
theorem dX3_copyFrom_42 : decode cX3_copyFrom 42 = .ok (.getfield 27, 3) := by decide +kernel
theorem dX3_copyFrom_45 : decode cX3_copyFrom 45 = .ok (.putfield 27, 3) := by decide +kernel
theorem dX3_copyFrom_48 : decode cX3_copyFrom 48 = .ok (.return_, 1) := by decide +kernel
theorem dX3_isRecipe_0 : decode cX3_isRecipe 0 = .ok (.iload_n 0, 1) := by decide +kernel
theorem dX3_isRecipe_1 : decode cX3_isRecipe 1 = .ok (.iconst 4, 1) := by decide +kernel
theorem dX3_isRecipe_2 : decode cX3_isRecipe 2 = .ok (.invokestatic 31, 3) := by decide +kernel
theorem dX3_isRecipe_5 : decode cX3_isRecipe 5 = .ok (.ifCond .ne 41, 3) := by decide +kernel
theorem dX3_isRecipe_8 : decode cX3_isRecipe 8 = .ok (.iload_n 1, 1) := by decide +kernel
theorem dX3_isRecipe_9 : decode cX3_isRecipe 9 = .ok (.sipush (-999), 3) := by decide +kernel
theorem dX3_isRecipe_12 : decode cX3_isRecipe 12 = .ok (.if_icmp .lt 34, 3) := by decide +kernel
theorem dX3_isRecipe_15 : decode cX3_isRecipe 15 = .ok (.iload_n 1, 1) := by decide +kernel
theorem dX3_isRecipe_16 : decode cX3_isRecipe 16 = .ok (.sipush 999, 3) := by decide +kernel
theorem dX3_isRecipe_19 : decode cX3_isRecipe 19 = .ok (.if_icmp .gt 27, 3) := by decide +kernel
theorem dX3_isRecipe_22 : decode cX3_isRecipe 22 = .ok (.iload_n 2, 1) := by decide +kernel
theorem dX3_isRecipe_23 : decode cX3_isRecipe 23 = .ok (.iconst 1, 1) := by decide +kernel
theorem dX3_isRecipe_24 : decode cX3_isRecipe 24 = .ok (.if_icmp .lt 22, 3) := by decide +kernel
theorem dX3_isRecipe_27 : decode cX3_isRecipe 27 = .ok (.iload_n 2, 1) := by decide +kernel
theorem dX3_isRecipe_28 : decode cX3_isRecipe 28 = .ok (.bipush 60, 2) := by decide +kernel
theorem dX3_isRecipe_30 : decode cX3_isRecipe 30 = .ok (.if_icmp .gt 16, 3) := by decide +kernel
theorem dX3_isRecipe_33 : decode cX3_isRecipe 33 = .ok (.iload_n 3, 1) := by decide +kernel
theorem dX3_isRecipe_34 : decode cX3_isRecipe 34 = .ok (.bipush 60, 2) := by decide +kernel
theorem dX3_isRecipe_36 : decode cX3_isRecipe 36 = .ok (.invokestatic 31, 3) := by decide +kernel
theorem dX3_isRecipe_39 : decode cX3_isRecipe 39 = .ok (.ifCond .ne 7, 3) := by decide +kernel
theorem dX3_isRecipe_42 : decode cX3_isRecipe 42 = .ok (.iconst 1, 1) := by decide +kernel
theorem dX3_isRecipe_43 : decode cX3_isRecipe 43 = .ok (.goto 4, 3) := by decide +kernel
theorem dX3_isRecipe_46 : decode cX3_isRecipe 46 = .ok (.iconst 0, 1) := by decide +kernel
theorem dX3_isRecipe_47 : decode cX3_isRecipe 47 = .ok (.ireturn, 1) := by decide +kernel
theorem dX3_pushAt_0 : decode cX3_pushAt 0 = .ok (.aload_n 0, 1) := by decide +kernel
theorem dX3_pushAt_1 : decode cX3_pushAt 1 = .ok (.getfield 9, 3) := by decide +kernel
theorem dX3_pushAt_4 : decode cX3_pushAt 4 = .ok (.iconst 1, 1) := by decide +kernel
theorem dX3_pushAt_5 : decode cX3_pushAt 5 = .ok (.if_icmp .ge 5, 3) := by decide +kernel
theorem dX3_pushAt_8 : decode cX3_pushAt 8 = .ok (.iconst 0, 1) := by decide +kernel
theorem dX3_pushAt_9 : decode cX3_pushAt 9 = .ok (.ireturn, 1) := by decide +kernel
theorem dX3_pushAt_10 : decode cX3_pushAt 10 = .ok (.iload_n 1, 1) := by decide +kernel
theorem dX3_pushAt_11 : decode cX3_pushAt 11 = .ok (.aload_n 0, 1) := by decide +kernel
theorem dX3_pushAt_12 : decode cX3_pushAt 12 = .ok (.getfield 24, 3) := by decide +kernel
theorem dX3_pushAt_15 : decode cX3_pushAt 15 = .ok (.iadd, 1) := by decide +kernel
theorem dX3_pushAt_16 : decode cX3_pushAt 16 = .ok (.aload_n 0, 1) := by decide +kernel
theorem dX3_pushAt_17 : decode cX3_pushAt 17 = .ok (.getfield 9, 3) := by decide +kernel
theorem dX3_pushAt_20 : decode cX3_pushAt 20 = .ok (.irem, 1) := by decide +kernel
theorem dX3_pushAt_21 : decode cX3_pushAt 21 = .ok (.istore_n 2, 1) := by decide +kernel
theorem dX3_pushAt_22 : decode cX3_pushAt 22 = .ok (.aload_n 0, 1) := by decide +kernel
theorem dX3_pushAt_23 : decode cX3_pushAt 23 = .ok (.getfield 18, 3) := by decide +kernel
theorem dX3_pushAt_26 : decode cX3_pushAt 26 = .ok (.tableswitch 96 1 3 #[26, 45, 68], 26) := by decide +kernel
theorem dX3_pushAt_52 : decode cX3_pushAt 52 = .ok (.aload_n 0, 1) := by decide +kernel
theorem dX3_pushAt_53 : decode cX3_pushAt 53 = .ok (.getfield 21, 3) := by decide +kernel
theorem dX3_pushAt_56 : decode cX3_pushAt 56 = .ok (.iconst 2, 1) := by decide +kernel
theorem dX3_pushAt_57 : decode cX3_pushAt 57 = .ok (.iload_n 2, 1) := by decide +kernel
theorem dX3_pushAt_58 : decode cX3_pushAt 58 = .ok (.imul, 1) := by decide +kernel
theorem dX3_pushAt_59 : decode cX3_pushAt 59 = .ok (.aload_n 0, 1) := by decide +kernel
theorem dX3_pushAt_60 : decode cX3_pushAt 60 = .ok (.getfield 9, 3) := by decide +kernel
theorem dX3_pushAt_63 : decode cX3_pushAt 63 = .ok (.isub, 1) := by decide +kernel
theorem dX3_pushAt_64 : decode cX3_pushAt 64 = .ok (.imul, 1) := by decide +kernel
theorem dX3_pushAt_65 : decode cX3_pushAt 65 = .ok (.aload_n 0, 1) := by decide +kernel
theorem dX3_pushAt_66 : decode cX3_pushAt 66 = .ok (.getfield 9, 3) := by decide +kernel
theorem dX3_pushAt_69 : decode cX3_pushAt 69 = .ok (.idiv, 1) := by decide +kernel
theorem dX3_pushAt_70 : decode cX3_pushAt 70 = .ok (.ireturn, 1) := by decide +kernel
theorem dX3_pushAt_71 : decode cX3_pushAt 71 = .ok (.iconst 2, 1) := by decide +kernel
theorem dX3_pushAt_72 : decode cX3_pushAt 72 = .ok (.iload_n 2, 1) := by decide +kernel
theorem dX3_pushAt_73 : decode cX3_pushAt 73 = .ok (.imul, 1) := by decide +kernel
theorem dX3_pushAt_74 : decode cX3_pushAt 74 = .ok (.aload_n 0, 1) := by decide +kernel
theorem dX3_pushAt_75 : decode cX3_pushAt 75 = .ok (.getfield 9, 3) := by decide +kernel
theorem dX3_pushAt_78 : decode cX3_pushAt 78 = .ok (.if_icmp .ge 10, 3) := by decide +kernel
theorem dX3_pushAt_81 : decode cX3_pushAt 81 = .ok (.aload_n 0, 1) := by decide +kernel
theorem dX3_pushAt_82 : decode cX3_pushAt 82 = .ok (.getfield 21, 3) := by decide +kernel
theorem dX3_pushAt_85 : decode cX3_pushAt 85 = .ok (.goto 8, 3) := by decide +kernel
theorem dX3_pushAt_88 : decode cX3_pushAt 88 = .ok (.aload_n 0, 1) := by decide +kernel
theorem dX3_pushAt_89 : decode cX3_pushAt 89 = .ok (.getfield 21, 3) := by decide +kernel
theorem dX3_pushAt_92 : decode cX3_pushAt 92 = .ok (.ineg, 1) := by decide +kernel
theorem dX3_pushAt_93 : decode cX3_pushAt 93 = .ok (.ireturn, 1) := by decide +kernel
theorem dX3_pushAt_94 : decode cX3_pushAt 94 = .ok (.aload_n 0, 1) := by decide +kernel
theorem dX3_pushAt_95 : decode cX3_pushAt 95 = .ok (.getfield 21, 3) := by decide +kernel
theorem dX3_pushAt_98 : decode cX3_pushAt 98 = .ok (.iconst 4, 1) := by decide +kernel
theorem dX3_pushAt_99 : decode cX3_pushAt 99 = .ok (.iload_n 2, 1) := by decide +kernel
theorem dX3_pushAt_100 : decode cX3_pushAt 100 = .ok (.aload_n 0, 1) := by decide +kernel
theorem dX3_pushAt_101 : decode cX3_pushAt 101 = .ok (.getfield 9, 3) := by decide +kernel
theorem dX3_pushAt_104 : decode cX3_pushAt 104 = .ok (.iload_n 2, 1) := by decide +kernel
theorem dX3_pushAt_105 : decode cX3_pushAt 105 = .ok (.isub, 1) := by decide +kernel
theorem dX3_pushAt_106 : decode cX3_pushAt 106 = .ok (.invokestatic 35, 3) := by decide +kernel
theorem dX3_pushAt_109 : decode cX3_pushAt 109 = .ok (.imul, 1) := by decide +kernel
theorem dX3_pushAt_110 : decode cX3_pushAt 110 = .ok (.aload_n 0, 1) := by decide +kernel
theorem dX3_pushAt_111 : decode cX3_pushAt 111 = .ok (.getfield 9, 3) := by decide +kernel
theorem dX3_pushAt_114 : decode cX3_pushAt 114 = .ok (.isub, 1) := by decide +kernel
theorem dX3_pushAt_115 : decode cX3_pushAt 115 = .ok (.imul, 1) := by decide +kernel
theorem dX3_pushAt_116 : decode cX3_pushAt 116 = .ok (.aload_n 0, 1) := by decide +kernel
theorem dX3_pushAt_117 : decode cX3_pushAt 117 = .ok (.getfield 9, 3) := by decide +kernel
theorem dX3_pushAt_120 : decode cX3_pushAt 120 = .ok (.idiv, 1) := by decide +kernel
theorem dX3_pushAt_121 : decode cX3_pushAt 121 = .ok (.ireturn, 1) := by decide +kernel
theorem dX3_pushAt_122 : decode cX3_pushAt 122 = .ok (.aload_n 0, 1) := by decide +kernel
theorem dX3_pushAt_123 : decode cX3_pushAt 123 = .ok (.getfield 21, 3) := by decide +kernel
theorem dX3_pushAt_126 : decode cX3_pushAt 126 = .ok (.ireturn, 1) := by decide +kernel
theorem dX4_init_0 : decode cX4_init 0 = .ok (.aload_n 0, 1) := by decide +kernel
theorem dX4_init_1 : decode cX4_init 1 = .ok (.invokespecial 3, 3) := by decide +kernel
theorem dX4_init_4 : decode cX4_init 4 = .ok (.aload_n 0, 1) := by decide +kernel
theorem dX4_init_5 : decode cX4_init 5 = .ok (.getstatic 9, 3) := by decide +kernel
theorem dX4_init_8 : decode cX4_init 8 = .ok (.invokevirtual 13, 3) := by decide +kernel
theorem dX4_init_11 : decode cX4_init 11 = .ok (.checkcast 14, 3) := by decide +kernel
theorem dX4_init_14 : decode cX4_init 14 = .ok (.putfield 18, 3) := by decide +kernel
theorem dX4_init_17 : decode cX4_init 17 = .ok (.aload_n 0, 1) := by decide +kernel
theorem dX4_init_18 : decode cX4_init 18 = .ok (.bipush 40, 2) := by decide +kernel
theorem dX4_init_20 : decode cX4_init 20 = .ok (.newarray .int, 2) := by decide +kernel
theorem dX4_init_22 : decode cX4_init 22 = .ok (.putfield 23, 3) := by decide +kernel
theorem dX4_init_25 : decode cX4_init 25 = .ok (.aload_n 0, 1) := by decide +kernel
theorem dX4_init_26 : decode cX4_init 26 = .ok (.bipush 40, 2) := by decide +kernel
theorem dX4_init_28 : decode cX4_init 28 = .ok (.newarray .int, 2) := by decide +kernel
theorem dX4_init_30 : decode cX4_init 30 = .ok (.putfield 26, 3) := by decide +kernel
theorem dX4_init_33 : decode cX4_init 33 = .ok (.aload_n 0, 1) := by decide +kernel
theorem dX4_init_34 : decode cX4_init 34 = .ok (.bipush 6, 2) := by decide +kernel
theorem dX4_init_36 : decode cX4_init 36 = .ok (.anewarray 29, 3) := by decide +kernel
theorem dX4_init_39 : decode cX4_init 39 = .ok (.putfield 31, 3) := by decide +kernel
theorem dX4_init_42 : decode cX4_init 42 = .ok (.aload_n 0, 1) := by decide +kernel
theorem dX4_init_43 : decode cX4_init 43 = .ok (.iconst 4, 1) := by decide +kernel
theorem dX4_init_44 : decode cX4_init 44 = .ok (.anewarray 35, 3) := by decide +kernel
theorem dX4_init_47 : decode cX4_init 47 = .ok (.putfield 37, 3) := by decide +kernel
theorem dX4_init_50 : decode cX4_init 50 = .ok (.iconst 0, 1) := by decide +kernel
theorem dX4_init_51 : decode cX4_init 51 = .ok (.istore_n 1, 1) := by decide +kernel
theorem dX4_init_52 : decode cX4_init 52 = .ok (.iload_n 1, 1) := by decide +kernel
theorem dX4_init_53 : decode cX4_init 53 = .ok (.bipush 6, 2) := by decide +kernel
theorem dX4_init_55 : decode cX4_init 55 = .ok (.if_icmp .ge 22, 3) := by decide +kernel
theorem dX4_init_58 : decode cX4_init 58 = .ok (.aload_n 0, 1) := by decide +kernel
theorem dX4_init_59 : decode cX4_init 59 = .ok (.getfield 31, 3) := by decide +kernel
theorem dX4_init_62 : decode cX4_init 62 = .ok (.iload_n 1, 1) := by decide +kernel
theorem dX4_init_63 : decode cX4_init 63 = .ok (.new 29, 3) := by decide +kernel
theorem dX4_init_66 : decode cX4_init 66 = .ok (.dup, 1) := by decide +kernel
theorem dX4_init_67 : decode cX4_init 67 = .ok (.invokespecial 41, 3) := by decide +kernel
theorem dX4_init_70 : decode cX4_init 70 = .ok (.aastore, 1) := by decide +kernel
theorem dX4_init_71 : decode cX4_init 71 = .ok (.iinc 1 1, 3) := by decide +kernel
theorem dX4_init_74 : decode cX4_init 74 = .ok (.goto (-22), 3) := by decide +kernel
theorem dX4_init_77 : decode cX4_init 77 = .ok (.iconst 0, 1) := by decide +kernel
theorem dX4_init_78 : decode cX4_init 78 = .ok (.istore_n 1, 1) := by decide +kernel
theorem dX4_init_79 : decode cX4_init 79 = .ok (.iload_n 1, 1) := by decide +kernel
theorem dX4_init_80 : decode cX4_init 80 = .ok (.iconst 4, 1) := by decide +kernel
theorem dX4_init_81 : decode cX4_init 81 = .ok (.if_icmp .ge 22, 3) := by decide +kernel
theorem dX4_init_84 : decode cX4_init 84 = .ok (.aload_n 0, 1) := by decide +kernel
theorem dX4_init_85 : decode cX4_init 85 = .ok (.getfield 37, 3) := by decide +kernel
theorem dX4_init_88 : decode cX4_init 88 = .ok (.iload_n 1, 1) := by decide +kernel
theorem dX4_init_89 : decode cX4_init 89 = .ok (.new 35, 3) := by decide +kernel
theorem dX4_init_92 : decode cX4_init 92 = .ok (.dup, 1) := by decide +kernel
theorem dX4_init_93 : decode cX4_init 93 = .ok (.invokespecial 42, 3) := by decide +kernel
theorem dX4_init_96 : decode cX4_init 96 = .ok (.aastore, 1) := by decide +kernel
theorem dX4_init_97 : decode cX4_init 97 = .ok (.iinc 1 1, 3) := by decide +kernel
theorem dX4_init_100 : decode cX4_init 100 = .ok (.goto (-21), 3) := by decide +kernel
theorem dX4_init_103 : decode cX4_init 103 = .ok (.return_, 1) := by decide +kernel
theorem dX4_copyFrom_0 : decode cX4_copyFrom 0 = .ok (.aload_n 1, 1) := by decide +kernel
theorem dX4_copyFrom_1 : decode cX4_copyFrom 1 = .ok (.getfield 18, 3) := by decide +kernel
theorem dX4_copyFrom_4 : decode cX4_copyFrom 4 = .ok (.iconst 0, 1) := by decide +kernel
theorem dX4_copyFrom_5 : decode cX4_copyFrom 5 = .ok (.aload_n 0, 1) := by decide +kernel
theorem dX4_copyFrom_6 : decode cX4_copyFrom 6 = .ok (.getfield 18, 3) := by decide +kernel
theorem dX4_copyFrom_9 : decode cX4_copyFrom 9 = .ok (.iconst 0, 1) := by decide +kernel
theorem dX4_copyFrom_10 : decode cX4_copyFrom 10 = .ok (.iconst 3, 1) := by decide +kernel
theorem dX4_copyFrom_11 : decode cX4_copyFrom 11 = .ok (.invokestatic 43, 3) := by decide +kernel
theorem dX4_copyFrom_14 : decode cX4_copyFrom 14 = .ok (.aload_n 1, 1) := by decide +kernel
theorem dX4_copyFrom_15 : decode cX4_copyFrom 15 = .ok (.getfield 23, 3) := by decide +kernel
theorem dX4_copyFrom_18 : decode cX4_copyFrom 18 = .ok (.iconst 0, 1) := by decide +kernel
theorem dX4_copyFrom_19 : decode cX4_copyFrom 19 = .ok (.aload_n 0, 1) := by decide +kernel
theorem dX4_copyFrom_20 : decode cX4_copyFrom 20 = .ok (.getfield 23, 3) := by decide +kernel
theorem dX4_copyFrom_23 : decode cX4_copyFrom 23 = .ok (.iconst 0, 1) := by decide +kernel
theorem dX4_copyFrom_24 : decode cX4_copyFrom 24 = .ok (.bipush 40, 2) := by decide +kernel
theorem dX4_copyFrom_26 : decode cX4_copyFrom 26 = .ok (.invokestatic 43, 3) := by decide +kernel
theorem dX4_copyFrom_29 : decode cX4_copyFrom 29 = .ok (.aload_n 1, 1) := by decide +kernel
theorem dX4_copyFrom_30 : decode cX4_copyFrom 30 = .ok (.getfield 26, 3) := by decide +kernel
theorem dX4_copyFrom_33 : decode cX4_copyFrom 33 = .ok (.iconst 0, 1) := by decide +kernel
theorem dX4_copyFrom_34 : decode cX4_copyFrom 34 = .ok (.aload_n 0, 1) := by decide +kernel
theorem dX4_copyFrom_35 : decode cX4_copyFrom 35 = .ok (.getfield 26, 3) := by decide +kernel
theorem dX4_copyFrom_38 : decode cX4_copyFrom 38 = .ok (.iconst 0, 1) := by decide +kernel
theorem dX4_copyFrom_39 : decode cX4_copyFrom 39 = .ok (.bipush 40, 2) := by decide +kernel
theorem dX4_copyFrom_41 : decode cX4_copyFrom 41 = .ok (.invokestatic 43, 3) := by decide +kernel
theorem dX4_copyFrom_44 : decode cX4_copyFrom 44 = .ok (.aload_n 0, 1) := by decide +kernel
theorem dX4_copyFrom_45 : decode cX4_copyFrom 45 = .ok (.aload_n 1, 1) := by decide +kernel
theorem dX4_copyFrom_46 : decode cX4_copyFrom 46 = .ok (.getfield 49, 3) := by decide +kernel
theorem dX4_copyFrom_49 : decode cX4_copyFrom 49 = .ok (.putfield 49, 3) := by decide +kernel
theorem dX4_copyFrom_52 : decode cX4_copyFrom 52 = .ok (.iconst 0, 1) := by decide +kernel
theorem dX4_copyFrom_53 : decode cX4_copyFrom 53 = .ok (.istore_n 2, 1) := by decide +kernel
theorem dX4_copyFrom_54 : decode cX4_copyFrom 54 = .ok (.iload_n 2, 1) := by decide +kernel
theorem dX4_copyFrom_55 : decode cX4_copyFrom 55 = .ok (.aload_n 0, 1) := by decide +kernel
theorem dX4_copyFrom_56 : decode cX4_copyFrom 56 = .ok (.getfield 49, 3) := by decide +kernel
theorem dX4_copyFrom_59 : decode cX4_copyFrom 59 = .ok (.if_icmp .ge 24, 3) := by decide +kernel
theorem dX4_copyFrom_62 : decode cX4_copyFrom 62 = .ok (.aload_n 0, 1) := by decide +kernel
theorem dX4_copyFrom_63 : decode cX4_copyFrom 63 = .ok (.getfield 31, 3) := by decide +kernel
theorem dX4_copyFrom_66 : decode cX4_copyFrom 66 = .ok (.iload_n 2, 1) := by decide +kernel
theorem dX4_copyFrom_67 : decode cX4_copyFrom 67 = .ok (.aaload, 1) := by decide +kernel
theorem dX4_copyFrom_68 : decode cX4_copyFrom 68 = .ok (.aload_n 1, 1) := by decide +kernel
theorem dX4_copyFrom_69 : decode cX4_copyFrom 69 = .ok (.getfield 31, 3) := by decide +kernel
theorem dX4_copyFrom_72 : decode cX4_copyFrom 72 = .ok (.iload_n 2, 1) := by decide +kernel
theorem dX4_copyFrom_73 : decode cX4_copyFrom 73 = .ok (.aaload, 1) := by decide +kernel
theorem dX4_copyFrom_74 : decode cX4_copyFrom 74 = .ok (.invokevirtual 53, 3) := by decide +kernel
theorem dX4_copyFrom_77 : decode cX4_copyFrom 77 = .ok (.iinc 2 1, 3) := by decide +kernel
theorem dX4_copyFrom_80 : decode cX4_copyFrom 80 = .ok (.goto (-26), 3) := by decide +kernel
theorem dX4_copyFrom_83 : decode cX4_copyFrom 83 = .ok (.aload_n 0, 1) := by decide +kernel
theorem dX4_copyFrom_84 : decode cX4_copyFrom 84 = .ok (.aload_n 1, 1) := by decide +kernel
theorem dX4_copyFrom_85 : decode cX4_copyFrom 85 = .ok (.getfield 57, 3) := by decide +kernel
theorem dX4_copyFrom_88 : decode cX4_copyFrom 88 = .ok (.putfield 57, 3) := by decide +kernel
theorem dX4_copyFrom_91 : decode cX4_copyFrom 91 = .ok (.iconst 0, 1) := by decide +kernel
theorem dX4_copyFrom_92 : decode cX4_copyFrom 92 = .ok (.istore_n 2, 1) := by decide +kernel
theorem dX4_copyFrom_93 : decode cX4_copyFrom 93 = .ok (.iload_n 2, 1) := by decide +kernel
theorem dX4_copyFrom_94 : decode cX4_copyFrom 94 = .ok (.aload_n 0, 1) := by decide +kernel
theorem dX4_copyFrom_95 : decode cX4_copyFrom 95 = .ok (.getfield 57, 3) := by decide +kernel
theorem dX4_copyFrom_98 : decode cX4_copyFrom 98 = .ok (.if_icmp .ge 24, 3) := by decide +kernel
theorem dX4_copyFrom_101 : decode cX4_copyFrom 101 = .ok (.aload_n 0, 1) := by decide +kernel
theorem dX4_copyFrom_102 : decode cX4_copyFrom 102 = .ok (.getfield 37, 3) := by decide +kernel
theorem dX4_copyFrom_105 : decode cX4_copyFrom 105 = .ok (.iload_n 2, 1) := by decide +kernel
theorem dX4_copyFrom_106 : decode cX4_copyFrom 106 = .ok (.aaload, 1) := by decide +kernel
theorem dX4_copyFrom_107 : decode cX4_copyFrom 107 = .ok (.aload_n 1, 1) := by decide +kernel
theorem dX4_copyFrom_108 : decode cX4_copyFrom 108 = .ok (.getfield 37, 3) := by decide +kernel
theorem dX4_copyFrom_111 : decode cX4_copyFrom 111 = .ok (.iload_n 2, 1) := by decide +kernel
theorem dX4_copyFrom_112 : decode cX4_copyFrom 112 = .ok (.aaload, 1) := by decide +kernel
theorem dX4_copyFrom_113 : decode cX4_copyFrom 113 = .ok (.invokevirtual 60, 3) := by decide +kernel
theorem dX4_copyFrom_116 : decode cX4_copyFrom 116 = .ok (.iinc 2 1, 3) := by decide +kernel
theorem dX4_copyFrom_119 : decode cX4_copyFrom 119 = .ok (.goto (-26), 3) := by decide +kernel
theorem dX4_copyFrom_122 : decode cX4_copyFrom 122 = .ok (.aload_n 0, 1) := by decide +kernel
theorem dX4_copyFrom_123 : decode cX4_copyFrom 123 = .ok (.aload_n 1, 1) := by decide +kernel
theorem dX4_copyFrom_124 : decode cX4_copyFrom 124 = .ok (.getfield 63, 3) := by decide +kernel
theorem dX4_copyFrom_127 : decode cX4_copyFrom 127 = .ok (.putfield 63, 3) := by decide +kernel
theorem dX4_copyFrom_130 : decode cX4_copyFrom 130 = .ok (.return_, 1) := by decide +kernel
theorem dX4_changeSetting_0 : decode cX4_changeSetting 0 = .ok (.iload_n 1, 1) := by decide +kernel
theorem dX4_changeSetting_1 : decode cX4_changeSetting 1 = .ok (.iconst 3, 1) := by decide +kernel
theorem dX4_changeSetting_2 : decode cX4_changeSetting 2 = .ok (.invokestatic 66, 3) := by decide +kernel
theorem dX4_changeSetting_5 : decode cX4_changeSetting 5 = .ok (.ifCond .eq 6, 3) := by decide +kernel
theorem dX4_changeSetting_8 : decode cX4_changeSetting 8 = .ok (.bipush (-2), 2) := by decide +kernel
theorem dX4_changeSetting_10 : decode cX4_changeSetting 10 = .ok (.ireturn, 1) := by decide +kernel
theorem dX4_changeSetting_11 : decode cX4_changeSetting 11 = .ok (.iload_n 2, 1) := by decide +kernel
theorem dX4_changeSetting_12 : decode cX4_changeSetting 12 = .ok (.getstatic 70, 3) := by decide +kernel
theorem dX4_changeSetting_15 : decode cX4_changeSetting 15 = .ok (.iload_n 1, 1) := by decide +kernel
theorem dX4_changeSetting_16 : decode cX4_changeSetting 16 = .ok (.iaload, 1) := by decide +kernel
theorem dX4_changeSetting_17 : decode cX4_changeSetting 17 = .ok (.if_icmp .lt 12, 3) := by decide +kernel
theorem dX4_changeSetting_20 : decode cX4_changeSetting 20 = .ok (.iload_n 2, 1) := by decide +kernel
theorem dX4_changeSetting_21 : decode cX4_changeSetting 21 = .ok (.getstatic 73, 3) := by decide +kernel
theorem dX4_changeSetting_24 : decode cX4_changeSetting 24 = .ok (.iload_n 1, 1) := by decide +kernel
theorem dX4_changeSetting_25 : decode cX4_changeSetting 25 = .ok (.iaload, 1) := by decide +kernel
theorem dX4_changeSetting_26 : decode cX4_changeSetting 26 = .ok (.if_icmp .le 6, 3) := by decide +kernel
theorem dX4_changeSetting_29 : decode cX4_changeSetting 29 = .ok (.bipush (-2), 2) := by decide +kernel
theorem dX4_changeSetting_31 : decode cX4_changeSetting 31 = .ok (.ireturn, 1) := by decide +kernel
theorem dX4_changeSetting_32 : decode cX4_changeSetting 32 = .ok (.aload_n 0, 1) := by decide +kernel
theorem dX4_changeSetting_33 : decode cX4_changeSetting 33 = .ok (.getfield 18, 3) := by decide +kernel
theorem dX4_changeSetting_36 : decode cX4_changeSetting 36 = .ok (.iload_n 1, 1) := by decide +kernel
theorem dX4_changeSetting_37 : decode cX4_changeSetting 37 = .ok (.iaload, 1) := by decide +kernel
theorem dX4_changeSetting_38 : decode cX4_changeSetting 38 = .ok (.istore_n 3, 1) := by decide +kernel
theorem dX4_changeSetting_39 : decode cX4_changeSetting 39 = .ok (.aload_n 0, 1) := by decide +kernel
theorem dX4_changeSetting_40 : decode cX4_changeSetting 40 = .ok (.getfield 18, 3) := by decide +kernel
theorem dX4_changeSetting_43 : decode cX4_changeSetting 43 = .ok (.iload_n 1, 1) := by decide +kernel
theorem dX4_changeSetting_44 : decode cX4_changeSetting 44 = .ok (.iload_n 2, 1) := by decide +kernel
theorem dX4_changeSetting_45 : decode cX4_changeSetting 45 = .ok (.iastore, 1) := by decide +kernel
theorem dX4_changeSetting_46 : decode cX4_changeSetting 46 = .ok (.iload_n 3, 1) := by decide +kernel
theorem dX4_changeSetting_47 : decode cX4_changeSetting 47 = .ok (.ireturn, 1) := by decide +kernel
theorem dX4_placePaddle_0 : decode cX4_placePaddle 0 = .ok (.iload_n 1, 1) := by decide +kernel
theorem dX4_placePaddle_1 : decode cX4_placePaddle 1 = .ok (.bipush 36, 2) := by decide +kernel
theorem dX4_placePaddle_3 : decode cX4_placePaddle 3 = .ok (.invokestatic 66, 3) := by decide +kernel
theorem dX4_placePaddle_6 : decode cX4_placePaddle 6 = .ok (.ifCond .eq 5, 3) := by decide +kernel
theorem dX4_placePaddle_9 : decode cX4_placePaddle 9 = .ok (.iconst (-1), 1) := by decide +kernel
theorem dX4_placePaddle_10 : decode cX4_placePaddle 10 = .ok (.ireturn, 1) := by decide +kernel
theorem dX4_placePaddle_11 : decode cX4_placePaddle 11 = .ok (.iload_n 2, 1) := by decide +kernel
theorem dX4_placePaddle_12 : decode cX4_placePaddle 12 = .ok (.iload_n 3, 1) := by decide +kernel
theorem dX4_placePaddle_13 : decode cX4_placePaddle 13 = .ok (.iload 4, 2) := by decide +kernel
theorem dX4_placePaddle_15 : decode cX4_placePaddle 15 = .ok (.iload 5, 2) := by decide +kernel
theorem dX4_placePaddle_17 : decode cX4_placePaddle 17 = .ok (.invokestatic 76, 3) := by decide +kernel
theorem dX4_placePaddle_20 : decode cX4_placePaddle 20 = .ok (.ifCond .ne 6, 3) := by decide +kernel
theorem dX4_placePaddle_23 : decode cX4_placePaddle 23 = .ok (.bipush (-2), 2) := by decide +kernel
theorem dX4_placePaddle_25 : decode cX4_placePaddle 25 = .ok (.ireturn, 1) := by decide +kernel
theorem dX4_placePaddle_26 : decode cX4_placePaddle 26 = .ok (.aload_n 0, 1) := by decide +kernel
theorem dX4_placePaddle_27 : decode cX4_placePaddle 27 = .ok (.iload_n 1, 1) := by decide +kernel
theorem dX4_placePaddle_28 : decode cX4_placePaddle 28 = .ok (.invokevirtual 80, 3) := by decide +kernel
theorem dX4_placePaddle_31 : decode cX4_placePaddle 31 = .ok (.istore 6, 2) := by decide +kernel
theorem dX4_placePaddle_33 : decode cX4_placePaddle 33 = .ok (.iload 6, 2) := by decide +kernel
theorem dX4_placePaddle_35 : decode cX4_placePaddle 35 = .ok (.ifCond .ge 10, 3) := by decide +kernel
theorem dX4_placePaddle_38 : decode cX4_placePaddle 38 = .ok (.aload_n 0, 1) := by decide +kernel
theorem dX4_placePaddle_39 : decode cX4_placePaddle 39 = .ok (.iload_n 1, 1) := by decide +kernel
theorem dX4_placePaddle_40 : decode cX4_placePaddle 40 = .ok (.invokevirtual 84, 3) := by decide +kernel
theorem dX4_placePaddle_43 : decode cX4_placePaddle 43 = .ok (.istore 6, 2) := by decide +kernel
theorem dX4_placePaddle_45 : decode cX4_placePaddle 45 = .ok (.iload 6, 2) := by decide +kernel
theorem dX4_placePaddle_47 : decode cX4_placePaddle 47 = .ok (.ifCond .ge 6, 3) := by decide +kernel
theorem dX4_placePaddle_50 : decode cX4_placePaddle 50 = .ok (.bipush (-4), 2) := by decide +kernel
theorem dX4_placePaddle_52 : decode cX4_placePaddle 52 = .ok (.ireturn, 1) := by decide +kernel
theorem dX4_placePaddle_53 : decode cX4_placePaddle 53 = .ok (.aload_n 0, 1) := by decide +kernel
theorem dX4_placePaddle_54 : decode cX4_placePaddle 54 = .ok (.getfield 31, 3) := by decide +kernel
theorem dX4_placePaddle_57 : decode cX4_placePaddle 57 = .ok (.iload 6, 2) := by decide +kernel
theorem dX4_placePaddle_59 : decode cX4_placePaddle 59 = .ok (.aaload, 1) := by decide +kernel
theorem dX4_placePaddle_60 : decode cX4_placePaddle 60 = .ok (.astore 7, 2) := by decide +kernel
theorem dX4_placePaddle_62 : decode cX4_placePaddle 62 = .ok (.aload 7, 2) := by decide +kernel
theorem dX4_placePaddle_64 : decode cX4_placePaddle 64 = .ok (.iload_n 1, 1) := by decide +kernel
theorem dX4_placePaddle_65 : decode cX4_placePaddle 65 = .ok (.putfield 87, 3) := by decide +kernel
theorem dX4_placePaddle_68 : decode cX4_placePaddle 68 = .ok (.aload 7, 2) := by decide +kernel
theorem dX4_placePaddle_70 : decode cX4_placePaddle 70 = .ok (.iload_n 2, 1) := by decide +kernel
theorem dX4_placePaddle_71 : decode cX4_placePaddle 71 = .ok (.putfield 90, 3) := by decide +kernel
theorem dX4_placePaddle_74 : decode cX4_placePaddle 74 = .ok (.aload 7, 2) := by decide +kernel
theorem dX4_placePaddle_76 : decode cX4_placePaddle 76 = .ok (.iload_n 3, 1) := by decide +kernel
theorem dX4_placePaddle_77 : decode cX4_placePaddle 77 = .ok (.putfield 93, 3) := by decide +kernel
theorem dX4_placePaddle_80 : decode cX4_placePaddle 80 = .ok (.aload 7, 2) := by decide +kernel
theorem dX4_placePaddle_82 : decode cX4_placePaddle 82 = .ok (.iload 4, 2) := by decide +kernel
theorem dX4_placePaddle_84 : decode cX4_placePaddle 84 = .ok (.putfield 96, 3) := by decide +kernel
theorem dX4_placePaddle_87 : decode cX4_placePaddle 87 = .ok (.aload 7, 2) := by decide +kernel
theorem dX4_placePaddle_89 : decode cX4_placePaddle 89 = .ok (.iload 5, 2) := by decide +kernel
theorem dX4_placePaddle_91 : decode cX4_placePaddle 91 = .ok (.putfield 99, 3) := by decide +kernel
theorem dX4_placePaddle_94 : decode cX4_placePaddle 94 = .ok (.aload 7, 2) := by decide +kernel
theorem dX4_placePaddle_96 : decode cX4_placePaddle 96 = .ok (.iconst 1, 1) := by decide +kernel
theorem dX4_placePaddle_97 : decode cX4_placePaddle 97 = .ok (.putfield 102, 3) := by decide +kernel
theorem dX4_placePaddle_100 : decode cX4_placePaddle 100 = .ok (.aload_n 0, 1) := by decide +kernel
theorem dX4_placePaddle_101 : decode cX4_placePaddle 101 = .ok (.getfield 49, 3) := by decide +kernel
theorem dX4_placePaddle_104 : decode cX4_placePaddle 104 = .ok (.ireturn, 1) := by decide +kernel
theorem dX4_rankIn_0 : decode cX4_rankIn 0 = .ok (.iconst 0, 1) := by decide +kernel
theorem dX4_rankIn_1 : decode cX4_rankIn 1 = .ok (.istore_n 2, 1) := by decide +kernel
theorem dX4_rankIn_2 : decode cX4_rankIn 2 = .ok (.iload_n 2, 1) := by decide +kernel
theorem dX4_rankIn_3 : decode cX4_rankIn 3 = .ok (.aload_n 0, 1) := by decide +kernel
theorem dX4_rankIn_4 : decode cX4_rankIn 4 = .ok (.getfield 49, 3) := by decide +kernel
theorem dX4_rankIn_7 : decode cX4_rankIn 7 = .ok (.if_icmp .ge 24, 3) := by decide +kernel
theorem dX4_rankIn_10 : decode cX4_rankIn 10 = .ok (.aload_n 0, 1) := by decide +kernel
theorem dX4_rankIn_11 : decode cX4_rankIn 11 = .ok (.getfield 31, 3) := by decide +kernel
theorem dX4_rankIn_14 : decode cX4_rankIn 14 = .ok (.iload_n 2, 1) := by decide +kernel
theorem dX4_rankIn_15 : decode cX4_rankIn 15 = .ok (.aaload, 1) := by decide +kernel
theorem dX4_rankIn_16 : decode cX4_rankIn 16 = .ok (.getfield 87, 3) := by decide +kernel
theorem dX4_rankIn_19 : decode cX4_rankIn 19 = .ok (.iload_n 1, 1) := by decide +kernel
theorem dX4_rankIn_20 : decode cX4_rankIn 20 = .ok (.if_icmp .ne 5, 3) := by decide +kernel
theorem dX4_rankIn_23 : decode cX4_rankIn 23 = .ok (.iload_n 2, 1) := by decide +kernel
theorem dX4_rankIn_24 : decode cX4_rankIn 24 = .ok (.ireturn, 1) := by decide +kernel
theorem dX4_rankIn_25 : decode cX4_rankIn 25 = .ok (.iinc 2 1, 3) := by decide +kernel
theorem dX4_rankIn_28 : decode cX4_rankIn 28 = .ok (.goto (-26), 3) := by decide +kernel
theorem dX4_rankIn_31 : decode cX4_rankIn 31 = .ok (.iconst (-1), 1) := by decide +kernel
theorem dX4_rankIn_32 : decode cX4_rankIn 32 = .ok (.ireturn, 1) := by decide +kernel
theorem dX4_openRank_0 : decode cX4_openRank 0 = .ok (.aload_n 0, 1) := by decide +kernel
theorem dX4_openRank_1 : decode cX4_openRank 1 = .ok (.getfield 49, 3) := by decide +kernel
theorem dX4_openRank_4 : decode cX4_openRank 4 = .ok (.bipush 6, 2) := by decide +kernel
theorem dX4_openRank_6 : decode cX4_openRank 6 = .ok (.if_icmp .lt 6, 3) := by decide +kernel
theorem dX4_openRank_9 : decode cX4_openRank 9 = .ok (.bipush (-4), 2) := by decide +kernel
theorem dX4_openRank_11 : decode cX4_openRank 11 = .ok (.ireturn, 1) := by decide +kernel
theorem dX4_openRank_12 : decode cX4_openRank 12 = .ok (.aload_n 0, 1) := by decide +kernel
theorem dX4_openRank_13 : decode cX4_openRank 13 = .ok (.getfield 31, 3) := by decide +kernel
theorem dX4_openRank_16 : decode cX4_openRank 16 = .ok (.aload_n 0, 1) := by decide +kernel
theorem dX4_openRank_17 : decode cX4_openRank 17 = .ok (.getfield 49, 3) := by decide +kernel
theorem dX4_openRank_20 : decode cX4_openRank 20 = .ok (.aaload, 1) := by decide +kernel
theorem dX4_openRank_21 : decode cX4_openRank 21 = .ok (.astore_n 2, 1) := by decide +kernel
theorem dX4_openRank_22 : decode cX4_openRank 22 = .ok (.aload_n 0, 1) := by decide +kernel
theorem dX4_openRank_23 : decode cX4_openRank 23 = .ok (.getfield 49, 3) := by decide +kernel
theorem dX4_openRank_26 : decode cX4_openRank 26 = .ok (.istore_n 3, 1) := by decide +kernel
theorem dX4_openRank_27 : decode cX4_openRank 27 = .ok (.iload_n 3, 1) := by decide +kernel
theorem dX4_openRank_28 : decode cX4_openRank 28 = .ok (.ifCond .le 38, 3) := by decide +kernel
theorem dX4_openRank_31 : decode cX4_openRank 31 = .ok (.aload_n 0, 1) := by decide +kernel
theorem dX4_openRank_32 : decode cX4_openRank 32 = .ok (.getfield 31, 3) := by decide +kernel
theorem dX4_openRank_35 : decode cX4_openRank 35 = .ok (.iload_n 3, 1) := by decide +kernel
theorem dX4_openRank_36 : decode cX4_openRank 36 = .ok (.iconst 1, 1) := by decide +kernel
theorem dX4_openRank_37 : decode cX4_openRank 37 = .ok (.isub, 1) := by decide +kernel
theorem dX4_openRank_38 : decode cX4_openRank 38 = .ok (.aaload, 1) := by decide +kernel
theorem dX4_openRank_39 : decode cX4_openRank 39 = .ok (.getfield 87, 3) := by decide +kernel
theorem dX4_openRank_42 : decode cX4_openRank 42 = .ok (.iload_n 1, 1) := by decide +kernel
theorem dX4_openRank_43 : decode cX4_openRank 43 = .ok (.if_icmp .le 23, 3) := by decide +kernel
theorem dX4_openRank_46 : decode cX4_openRank 46 = .ok (.aload_n 0, 1) := by decide +kernel
theorem dX4_openRank_47 : decode cX4_openRank 47 = .ok (.getfield 31, 3) := by decide +kernel
theorem dX4_openRank_50 : decode cX4_openRank 50 = .ok (.iload_n 3, 1) := by decide +kernel
theorem dX4_openRank_51 : decode cX4_openRank 51 = .ok (.aload_n 0, 1) := by decide +kernel
theorem dX4_openRank_52 : decode cX4_openRank 52 = .ok (.getfield 31, 3) := by decide +kernel
theorem dX4_openRank_55 : decode cX4_openRank 55 = .ok (.iload_n 3, 1) := by decide +kernel
theorem dX4_openRank_56 : decode cX4_openRank 56 = .ok (.iconst 1, 1) := by decide +kernel
theorem dX4_openRank_57 : decode cX4_openRank 57 = .ok (.isub, 1) := by decide +kernel
theorem dX4_openRank_58 : decode cX4_openRank 58 = .ok (.aaload, 1) := by decide +kernel
theorem dX4_openRank_59 : decode cX4_openRank 59 = .ok (.aastore, 1) := by decide +kernel
theorem dX4_openRank_60 : decode cX4_openRank 60 = .ok (.iinc 3 (-1), 3) := by decide +kernel
theorem dX4_openRank_63 : decode cX4_openRank 63 = .ok (.goto (-36), 3) := by decide +kernel
theorem dX4_openRank_66 : decode cX4_openRank 66 = .ok (.aload_n 0, 1) := by decide +kernel
theorem dX4_openRank_67 : decode cX4_openRank 67 = .ok (.getfield 31, 3) := by decide +kernel
theorem dX4_openRank_70 : decode cX4_openRank 70 = .ok (.iload_n 3, 1) := by decide +kernel
theorem dX4_openRank_71 : decode cX4_openRank 71 = .ok (.aload_n 2, 1) := by decide +kernel
theorem dX4_openRank_72 : decode cX4_openRank 72 = .ok (.aastore, 1) := by decide +kernel
theorem dX4_openRank_73 : decode cX4_openRank 73 = .ok (.aload_n 0, 1) := by decide +kernel
theorem dX4_openRank_74 : decode cX4_openRank 74 = .ok (.dup, 1) := by decide +kernel
theorem dX4_openRank_75 : decode cX4_openRank 75 = .ok (.getfield 49, 3) := by decide +kernel
theorem dX4_openRank_78 : decode cX4_openRank 78 = .ok (.iconst 1, 1) := by decide +kernel
theorem dX4_openRank_79 : decode cX4_openRank 79 = .ok (.iadd, 1) := by decide +kernel
theorem dX4_openRank_80 : decode cX4_openRank 80 = .ok (.putfield 49, 3) := by decide +kernel
theorem dX4_openRank_83 : decode cX4_openRank 83 = .ok (.iload_n 3, 1) := by decide +kernel
theorem dX4_openRank_84 : decode cX4_openRank 84 = .ok (.ireturn, 1) := by decide +kernel
theorem dX4_removePaddle_0 : decode cX4_removePaddle 0 = .ok (.aload_n 0, 1) := by decide +kernel
theorem dX4_removePaddle_1 : decode cX4_removePaddle 1 = .ok (.iload_n 1, 1) := by decide +kernel
theorem dX4_removePaddle_2 : decode cX4_removePaddle 2 = .ok (.invokevirtual 80, 3) := by decide +kernel
theorem dX4_removePaddle_5 : decode cX4_removePaddle 5 = .ok (.istore_n 2, 1) := by decide +kernel
theorem dX4_removePaddle_6 : decode cX4_removePaddle 6 = .ok (.iload_n 2, 1) := by decide +kernel
theorem dX4_removePaddle_7 : decode cX4_removePaddle 7 = .ok (.ifCond .ge 5, 3) := by decide +kernel
theorem dX4_removePaddle_10 : decode cX4_removePaddle 10 = .ok (.iconst (-1), 1) := by decide +kernel
theorem dX4_removePaddle_11 : decode cX4_removePaddle 11 = .ok (.ireturn, 1) := by decide +kernel
theorem dX4_removePaddle_12 : decode cX4_removePaddle 12 = .ok (.aload_n 0, 1) := by decide +kernel
theorem dX4_removePaddle_13 : decode cX4_removePaddle 13 = .ok (.getfield 31, 3) := by decide +kernel
theorem dX4_removePaddle_16 : decode cX4_removePaddle 16 = .ok (.iload_n 2, 1) := by decide +kernel
theorem dX4_removePaddle_17 : decode cX4_removePaddle 17 = .ok (.aaload, 1) := by decide +kernel
theorem dX4_removePaddle_18 : decode cX4_removePaddle 18 = .ok (.astore_n 3, 1) := by decide +kernel
theorem dX4_removePaddle_19 : decode cX4_removePaddle 19 = .ok (.aload_n 0, 1) := by decide +kernel
theorem dX4_removePaddle_20 : decode cX4_removePaddle 20 = .ok (.dup, 1) := by decide +kernel
theorem dX4_removePaddle_21 : decode cX4_removePaddle 21 = .ok (.getfield 49, 3) := by decide +kernel
theorem dX4_removePaddle_24 : decode cX4_removePaddle 24 = .ok (.iconst 1, 1) := by decide +kernel
theorem dX4_removePaddle_25 : decode cX4_removePaddle 25 = .ok (.isub, 1) := by decide +kernel
theorem dX4_removePaddle_26 : decode cX4_removePaddle 26 = .ok (.putfield 49, 3) := by decide +kernel
theorem dX4_removePaddle_29 : decode cX4_removePaddle 29 = .ok (.iload_n 2, 1) := by decide +kernel
theorem dX4_removePaddle_30 : decode cX4_removePaddle 30 = .ok (.istore 4, 2) := by decide +kernel
theorem dX4_removePaddle_32 : decode cX4_removePaddle 32 = .ok (.iload 4, 2) := by decide +kernel
theorem dX4_removePaddle_34 : decode cX4_removePaddle 34 = .ok (.aload_n 0, 1) := by decide +kernel
theorem dX4_removePaddle_35 : decode cX4_removePaddle 35 = .ok (.getfield 49, 3) := by decide +kernel
theorem dX4_removePaddle_38 : decode cX4_removePaddle 38 = .ok (.if_icmp .ge 25, 3) := by decide +kernel
theorem dX4_removePaddle_41 : decode cX4_removePaddle 41 = .ok (.aload_n 0, 1) := by decide +kernel
theorem dX4_removePaddle_42 : decode cX4_removePaddle 42 = .ok (.getfield 31, 3) := by decide +kernel
theorem dX4_removePaddle_45 : decode cX4_removePaddle 45 = .ok (.iload 4, 2) := by decide +kernel
theorem dX4_removePaddle_47 : decode cX4_removePaddle 47 = .ok (.aload_n 0, 1) := by decide +kernel
theorem dX4_removePaddle_48 : decode cX4_removePaddle 48 = .ok (.getfield 31, 3) := by decide +kernel
theorem dX4_removePaddle_51 : decode cX4_removePaddle 51 = .ok (.iload 4, 2) := by decide +kernel
theorem dX4_removePaddle_53 : decode cX4_removePaddle 53 = .ok (.iconst 1, 1) := by decide +kernel
theorem dX4_removePaddle_54 : decode cX4_removePaddle 54 = .ok (.iadd, 1) := by decide +kernel
theorem dX4_removePaddle_55 : decode cX4_removePaddle 55 = .ok (.aaload, 1) := by decide +kernel
theorem dX4_removePaddle_56 : decode cX4_removePaddle 56 = .ok (.aastore, 1) := by decide +kernel
theorem dX4_removePaddle_57 : decode cX4_removePaddle 57 = .ok (.iinc 4 1, 3) := by decide +kernel
theorem dX4_removePaddle_60 : decode cX4_removePaddle 60 = .ok (.goto (-28), 3) := by decide +kernel
theorem dX4_removePaddle_63 : decode cX4_removePaddle 63 = .ok (.aload_n 0, 1) := by decide +kernel
theorem dX4_removePaddle_64 : decode cX4_removePaddle 64 = .ok (.getfield 31, 3) := by decide +kernel
theorem dX4_removePaddle_67 : decode cX4_removePaddle 67 = .ok (.aload_n 0, 1) := by decide +kernel
theorem dX4_removePaddle_68 : decode cX4_removePaddle 68 = .ok (.getfield 49, 3) := by decide +kernel
theorem dX4_removePaddle_71 : decode cX4_removePaddle 71 = .ok (.aload_n 3, 1) := by decide +kernel
theorem dX4_removePaddle_72 : decode cX4_removePaddle 72 = .ok (.aastore, 1) := by decide +kernel
theorem dX4_removePaddle_73 : decode cX4_removePaddle 73 = .ok (.aload_n 0, 1) := by decide +kernel
theorem dX4_removePaddle_74 : decode cX4_removePaddle 74 = .ok (.getfield 49, 3) := by decide +kernel
theorem dX4_removePaddle_77 : decode cX4_removePaddle 77 = .ok (.ireturn, 1) := by decide +kernel
theorem dX4_startPaddle_0 : decode cX4_startPaddle 0 = .ok (.aload_n 0, 1) := by decide +kernel
theorem dX4_startPaddle_1 : decode cX4_startPaddle 1 = .ok (.iload_n 1, 1) := by decide +kernel
theorem dX4_startPaddle_2 : decode cX4_startPaddle 2 = .ok (.invokevirtual 80, 3) := by decide +kernel
theorem dX4_startPaddle_5 : decode cX4_startPaddle 5 = .ok (.istore_n 2, 1) := by decide +kernel
theorem dX4_startPaddle_6 : decode cX4_startPaddle 6 = .ok (.iload_n 2, 1) := by decide +kernel
theorem dX4_startPaddle_7 : decode cX4_startPaddle 7 = .ok (.ifCond .ge 5, 3) := by decide +kernel
theorem dX4_startPaddle_10 : decode cX4_startPaddle 10 = .ok (.iconst (-1), 1) := by decide +kernel
theorem dX4_startPaddle_11 : decode cX4_startPaddle 11 = .ok (.ireturn, 1) := by decide +kernel
theorem dX4_startPaddle_12 : decode cX4_startPaddle 12 = .ok (.aload_n 0, 1) := by decide +kernel
theorem dX4_startPaddle_13 : decode cX4_startPaddle 13 = .ok (.getfield 31, 3) := by decide +kernel
theorem dX4_startPaddle_16 : decode cX4_startPaddle 16 = .ok (.iload_n 2, 1) := by decide +kernel
theorem dX4_startPaddle_17 : decode cX4_startPaddle 17 = .ok (.aaload, 1) := by decide +kernel
theorem dX4_startPaddle_18 : decode cX4_startPaddle 18 = .ok (.getfield 102, 3) := by decide +kernel
theorem dX4_startPaddle_21 : decode cX4_startPaddle 21 = .ok (.ifCond .ne 7, 3) := by decide +kernel
theorem dX4_startPaddle_24 : decode cX4_startPaddle 24 = .ok (.iconst 1, 1) := by decide +kernel
theorem dX4_startPaddle_25 : decode cX4_startPaddle 25 = .ok (.goto 4, 3) := by decide +kernel
theorem dX4_startPaddle_28 : decode cX4_startPaddle 28 = .ok (.iconst 0, 1) := by decide +kernel
theorem dX4_startPaddle_29 : decode cX4_startPaddle 29 = .ok (.istore_n 3, 1) := by decide +kernel
theorem dX4_startPaddle_30 : decode cX4_startPaddle 30 = .ok (.aload_n 0, 1) := by decide +kernel
theorem dX4_startPaddle_31 : decode cX4_startPaddle 31 = .ok (.getfield 31, 3) := by decide +kernel
theorem dX4_startPaddle_34 : decode cX4_startPaddle 34 = .ok (.iload_n 2, 1) := by decide +kernel
theorem dX4_startPaddle_35 : decode cX4_startPaddle 35 = .ok (.aaload, 1) := by decide +kernel
theorem dX4_startPaddle_36 : decode cX4_startPaddle 36 = .ok (.iconst 1, 1) := by decide +kernel
theorem dX4_startPaddle_37 : decode cX4_startPaddle 37 = .ok (.putfield 102, 3) := by decide +kernel
theorem dX4_startPaddle_40 : decode cX4_startPaddle 40 = .ok (.iload_n 3, 1) := by decide +kernel
theorem dX4_startPaddle_41 : decode cX4_startPaddle 41 = .ok (.invokestatic 106, 3) := by decide +kernel
theorem dX4_startPaddle_44 : decode cX4_startPaddle 44 = .ok (.ireturn, 1) := by decide +kernel
theorem dX4_placeGauge_0 : decode cX4_placeGauge 0 = .ok (.iload_n 1, 1) := by decide +kernel
theorem dX4_placeGauge_1 : decode cX4_placeGauge 1 = .ok (.bipush 40, 2) := by decide +kernel
theorem dX4_placeGauge_3 : decode cX4_placeGauge 3 = .ok (.invokestatic 66, 3) := by decide +kernel
theorem dX4_placeGauge_6 : decode cX4_placeGauge 6 = .ok (.ifCond .eq 5, 3) := by decide +kernel
theorem dX4_placeGauge_9 : decode cX4_placeGauge 9 = .ok (.iconst (-1), 1) := by decide +kernel
theorem dX4_placeGauge_10 : decode cX4_placeGauge 10 = .ok (.ireturn, 1) := by decide +kernel
theorem dX4_placeGauge_11 : decode cX4_placeGauge 11 = .ok (.aload_n 0, 1) := by decide +kernel
theorem dX4_placeGauge_12 : decode cX4_placeGauge 12 = .ok (.getfield 57, 3) := by decide +kernel
theorem dX4_placeGauge_15 : decode cX4_placeGauge 15 = .ok (.iconst 4, 1) := by decide +kernel
theorem dX4_placeGauge_16 : decode cX4_placeGauge 16 = .ok (.if_icmp .lt 6, 3) := by decide +kernel
theorem dX4_placeGauge_19 : decode cX4_placeGauge 19 = .ok (.bipush (-4), 2) := by decide +kernel
theorem dX4_placeGauge_21 : decode cX4_placeGauge 21 = .ok (.ireturn, 1) := by decide +kernel
theorem dX4_placeGauge_22 : decode cX4_placeGauge 22 = .ok (.aload_n 0, 1) := by decide +kernel
theorem dX4_placeGauge_23 : decode cX4_placeGauge 23 = .ok (.getfield 37, 3) := by decide +kernel
theorem dX4_placeGauge_26 : decode cX4_placeGauge 26 = .ok (.aload_n 0, 1) := by decide +kernel
theorem dX4_placeGauge_27 : decode cX4_placeGauge 27 = .ok (.getfield 57, 3) := by decide +kernel
theorem dX4_placeGauge_30 : decode cX4_placeGauge 30 = .ok (.aaload, 1) := by decide +kernel
theorem dX4_placeGauge_31 : decode cX4_placeGauge 31 = .ok (.iload_n 1, 1) := by decide +kernel
theorem dX4_placeGauge_32 : decode cX4_placeGauge 32 = .ok (.invokevirtual 110, 3) := by decide +kernel
theorem dX4_placeGauge_35 : decode cX4_placeGauge 35 = .ok (.aload_n 0, 1) := by decide +kernel
theorem dX4_placeGauge_36 : decode cX4_placeGauge 36 = .ok (.dup, 1) := by decide +kernel
theorem dX4_placeGauge_37 : decode cX4_placeGauge 37 = .ok (.getfield 57, 3) := by decide +kernel
theorem dX4_placeGauge_40 : decode cX4_placeGauge 40 = .ok (.iconst 1, 1) := by decide +kernel
theorem dX4_placeGauge_41 : decode cX4_placeGauge 41 = .ok (.iadd, 1) := by decide +kernel
theorem dX4_placeGauge_42 : decode cX4_placeGauge 42 = .ok (.putfield 57, 3) := by decide +kernel
theorem dX4_placeGauge_45 : decode cX4_placeGauge 45 = .ok (.aload_n 0, 1) := by decide +kernel
theorem dX4_placeGauge_46 : decode cX4_placeGauge 46 = .ok (.getfield 57, 3) := by decide +kernel
theorem dX4_placeGauge_49 : decode cX4_placeGauge 49 = .ok (.iconst 1, 1) := by decide +kernel
theorem dX4_placeGauge_50 : decode cX4_placeGauge 50 = .ok (.isub, 1) := by decide +kernel
theorem dX4_placeGauge_51 : decode cX4_placeGauge 51 = .ok (.ireturn, 1) := by decide +kernel
theorem dX4_changeLevel_0 : decode cX4_changeLevel 0 = .ok (.iload_n 1, 1) := by decide +kernel
theorem dX4_changeLevel_1 : decode cX4_changeLevel 1 = .ok (.bipush 40, 2) := by decide +kernel
theorem dX4_changeLevel_3 : decode cX4_changeLevel 3 = .ok (.invokestatic 66, 3) := by decide +kernel
theorem dX4_changeLevel_6 : decode cX4_changeLevel 6 = .ok (.ifCond .eq 5, 3) := by decide +kernel
theorem dX4_changeLevel_9 : decode cX4_changeLevel 9 = .ok (.iconst (-1), 1) := by decide +kernel
theorem dX4_changeLevel_10 : decode cX4_changeLevel 10 = .ok (.ireturn, 1) := by decide +kernel
theorem dX4_changeLevel_11 : decode cX4_changeLevel 11 = .ok (.iload_n 2, 1) := by decide +kernel
theorem dX4_changeLevel_12 : decode cX4_changeLevel 12 = .ok (.sipush (-9999), 3) := by decide +kernel
theorem dX4_changeLevel_15 : decode cX4_changeLevel 15 = .ok (.if_icmp .lt 10, 3) := by decide +kernel
theorem dX4_changeLevel_18 : decode cX4_changeLevel 18 = .ok (.iload_n 2, 1) := by decide +kernel
theorem dX4_changeLevel_19 : decode cX4_changeLevel 19 = .ok (.sipush 9999, 3) := by decide +kernel
theorem dX4_changeLevel_22 : decode cX4_changeLevel 22 = .ok (.if_icmp .le 6, 3) := by decide +kernel
theorem dX4_changeLevel_25 : decode cX4_changeLevel 25 = .ok (.bipush (-2), 2) := by decide +kernel
theorem dX4_changeLevel_27 : decode cX4_changeLevel 27 = .ok (.ireturn, 1) := by decide +kernel
theorem dX4_changeLevel_28 : decode cX4_changeLevel 28 = .ok (.aload_n 0, 1) := by decide +kernel
theorem dX4_changeLevel_29 : decode cX4_changeLevel 29 = .ok (.getfield 23, 3) := by decide +kernel
theorem dX4_changeLevel_32 : decode cX4_changeLevel 32 = .ok (.iload_n 1, 1) := by decide +kernel
theorem dX4_changeLevel_33 : decode cX4_changeLevel 33 = .ok (.iaload, 1) := by decide +kernel
theorem dX4_changeLevel_34 : decode cX4_changeLevel 34 = .ok (.istore_n 3, 1) := by decide +kernel
theorem dX4_changeLevel_35 : decode cX4_changeLevel 35 = .ok (.aload_n 0, 1) := by decide +kernel
theorem dX4_changeLevel_36 : decode cX4_changeLevel 36 = .ok (.getfield 23, 3) := by decide +kernel
theorem dX4_changeLevel_39 : decode cX4_changeLevel 39 = .ok (.iload_n 1, 1) := by decide +kernel
theorem dX4_changeLevel_40 : decode cX4_changeLevel 40 = .ok (.iload_n 2, 1) := by decide +kernel
theorem dX4_changeLevel_41 : decode cX4_changeLevel 41 = .ok (.iastore, 1) := by decide +kernel
theorem dX4_changeLevel_42 : decode cX4_changeLevel 42 = .ok (.iload_n 3, 1) := by decide +kernel
theorem dX4_changeLevel_43 : decode cX4_changeLevel 43 = .ok (.sipush 10000, 3) := by decide +kernel
theorem dX4_changeLevel_46 : decode cX4_changeLevel 46 = .ok (.iadd, 1) := by decide +kernel
theorem dX4_changeLevel_47 : decode cX4_changeLevel 47 = .ok (.ireturn, 1) := by decide +kernel
theorem dX4_passSteps_0 : decode cX4_passSteps 0 = .ok (.iload_n 1, 1) := by decide +kernel
theorem dX4_passSteps_1 : decode cX4_passSteps 1 = .ok (.iconst 1, 1) := by decide +kernel
theorem dX4_passSteps_2 : decode cX4_passSteps 2 = .ok (.if_icmp .lt 9, 3) := by decide +kernel
theorem dX4_passSteps_5 : decode cX4_passSteps 5 = .ok (.iload_n 1, 1) := by decide +kernel
theorem dX4_passSteps_6 : decode cX4_passSteps 6 = .ok (.bipush 99, 2) := by decide +kernel
theorem dX4_passSteps_8 : decode cX4_passSteps 8 = .ok (.if_icmp .le 6, 3) := by decide +kernel
theorem dX4_passSteps_11 : decode cX4_passSteps 11 = .ok (.bipush (-2), 2) := by decide +kernel
theorem dX4_passSteps_13 : decode cX4_passSteps 13 = .ok (.ireturn, 1) := by decide +kernel
theorem dX4_passSteps_14 : decode cX4_passSteps 14 = .ok (.aload_n 0, 1) := by decide +kernel
theorem dX4_passSteps_15 : decode cX4_passSteps 15 = .ok (.getfield 63, 3) := by decide +kernel
theorem dX4_passSteps_18 : decode cX4_passSteps 18 = .ok (.iload_n 1, 1) := by decide +kernel
theorem dX4_passSteps_19 : decode cX4_passSteps 19 = .ok (.iadd, 1) := by decide +kernel
theorem dX4_passSteps_20 : decode cX4_passSteps 20 = .ok (.ldc 114, 2) := by decide +kernel
theorem dX4_passSteps_22 : decode cX4_passSteps 22 = .ok (.if_icmp .le 6, 3) := by decide +kernel
theorem dX4_passSteps_25 : decode cX4_passSteps 25 = .ok (.bipush (-5), 2) := by decide +kernel
theorem dX4_passSteps_27 : decode cX4_passSteps 27 = .ok (.ireturn, 1) := by decide +kernel
theorem dX4_passSteps_28 : decode cX4_passSteps 28 = .ok (.iconst 0, 1) := by decide +kernel
theorem dX4_passSteps_29 : decode cX4_passSteps 29 = .ok (.istore_n 2, 1) := by decide +kernel
theorem dX4_passSteps_30 : decode cX4_passSteps 30 = .ok (.iconst 0, 1) := by decide +kernel
theorem dX4_passSteps_31 : decode cX4_passSteps 31 = .ok (.istore_n 3, 1) := by decide +kernel
theorem dX4_passSteps_32 : decode cX4_passSteps 32 = .ok (.iload_n 3, 1) := by decide +kernel
theorem dX4_passSteps_33 : decode cX4_passSteps 33 = .ok (.iload_n 1, 1) := by decide +kernel
theorem dX4_passSteps_34 : decode cX4_passSteps 34 = .ok (.if_icmp .ge 16, 3) := by decide +kernel
theorem dX4_passSteps_37 : decode cX4_passSteps 37 = .ok (.iload_n 2, 1) := by decide +kernel
theorem dX4_passSteps_38 : decode cX4_passSteps 38 = .ok (.aload_n 0, 1) := by decide +kernel
theorem dX4_passSteps_39 : decode cX4_passSteps 39 = .ok (.invokevirtual 115, 3) := by decide +kernel
theorem dX4_passSteps_42 : decode cX4_passSteps 42 = .ok (.iadd, 1) := by decide +kernel
theorem dX4_passSteps_43 : decode cX4_passSteps 43 = .ok (.istore_n 2, 1) := by decide +kernel
theorem dX4_passSteps_44 : decode cX4_passSteps 44 = .ok (.iinc 3 1, 3) := by decide +kernel
theorem dX4_passSteps_47 : decode cX4_passSteps 47 = .ok (.goto (-15), 3) := by decide +kernel
theorem dX4_passSteps_50 : decode cX4_passSteps 50 = .ok (.iload_n 2, 1) := by decide +kernel
theorem dX4_passSteps_51 : decode cX4_passSteps 51 = .ok (.ireturn, 1) := by decide +kernel
theorem dX4_step_0 : decode cX4_step 0 = .ok (.aload_n 0, 1) := by decide +kernel
theorem dX4_step_1 : decode cX4_step 1 = .ok (.invokevirtual 119, 3) := by decide +kernel
theorem dX4_step_4 : decode cX4_step 4 = .ok (.istore_n 1, 1) := by decide +kernel
theorem dX4_step_5 : decode cX4_step 5 = .ok (.aload_n 0, 1) := by decide +kernel
theorem dX4_step_6 : decode cX4_step 6 = .ok (.invokevirtual 122, 3) := by decide +kernel
theorem dX4_step_9 : decode cX4_step 9 = .ok (.aload_n 0, 1) := by decide +kernel
theorem dX4_step_10 : decode cX4_step 10 = .ok (.invokevirtual 125, 3) := by decide +kernel
theorem dX4_step_13 : decode cX4_step 13 = .ok (.aload_n 0, 1) := by decide +kernel
theorem dX4_step_14 : decode cX4_step 14 = .ok (.dup, 1) := by decide +kernel
theorem dX4_step_15 : decode cX4_step 15 = .ok (.getfield 63, 3) := by decide +kernel
theorem dX4_step_18 : decode cX4_step 18 = .ok (.iconst 1, 1) := by decide +kernel
theorem dX4_step_19 : decode cX4_step 19 = .ok (.iadd, 1) := by decide +kernel
theorem dX4_step_20 : decode cX4_step 20 = .ok (.putfield 63, 3) := by decide +kernel
theorem dX4_step_23 : decode cX4_step 23 = .ok (.iconst 0, 1) := by decide +kernel
theorem dX4_step_24 : decode cX4_step 24 = .ok (.istore_n 2, 1) := by decide +kernel
theorem dX4_step_25 : decode cX4_step 25 = .ok (.iload_n 2, 1) := by decide +kernel
theorem dX4_step_26 : decode cX4_step 26 = .ok (.aload_n 0, 1) := by decide +kernel
theorem dX4_step_27 : decode cX4_step 27 = .ok (.getfield 57, 3) := by decide +kernel
theorem dX4_step_30 : decode cX4_step 30 = .ok (.if_icmp .ge 32, 3) := by decide +kernel
theorem dX4_step_33 : decode cX4_step 33 = .ok (.aload_n 0, 1) := by decide +kernel
theorem dX4_step_34 : decode cX4_step 34 = .ok (.getfield 37, 3) := by decide +kernel
theorem dX4_step_37 : decode cX4_step 37 = .ok (.iload_n 2, 1) := by decide +kernel
theorem dX4_step_38 : decode cX4_step 38 = .ok (.aaload, 1) := by decide +kernel
theorem dX4_step_39 : decode cX4_step 39 = .ok (.aload_n 0, 1) := by decide +kernel
theorem dX4_step_40 : decode cX4_step 40 = .ok (.getfield 23, 3) := by decide +kernel
theorem dX4_step_43 : decode cX4_step 43 = .ok (.aload_n 0, 1) := by decide +kernel
theorem dX4_step_44 : decode cX4_step 44 = .ok (.getfield 37, 3) := by decide +kernel
theorem dX4_step_47 : decode cX4_step 47 = .ok (.iload_n 2, 1) := by decide +kernel
theorem dX4_step_48 : decode cX4_step 48 = .ok (.aaload, 1) := by decide +kernel
theorem dX4_step_49 : decode cX4_step 49 = .ok (.getfield 128, 3) := by decide +kernel
theorem dX4_step_52 : decode cX4_step 52 = .ok (.iaload, 1) := by decide +kernel
theorem dX4_step_53 : decode cX4_step 53 = .ok (.invokevirtual 129, 3) := by decide +kernel
theorem dX4_step_56 : decode cX4_step 56 = .ok (.iinc 2 1, 3) := by decide +kernel
theorem dX4_step_59 : decode cX4_step 59 = .ok (.goto (-34), 3) := by decide +kernel
theorem dX4_step_62 : decode cX4_step 62 = .ok (.iload_n 1, 1) := by decide +kernel
theorem dX4_step_63 : decode cX4_step 63 = .ok (.ireturn, 1) := by decide +kernel
theorem dX4_movePaddles_0 : decode cX4_movePaddles 0 = .ok (.iconst 0, 1) := by decide +kernel
theorem dX4_movePaddles_1 : decode cX4_movePaddles 1 = .ok (.istore_n 1, 1) := by decide +kernel
theorem dX4_movePaddles_2 : decode cX4_movePaddles 2 = .ok (.iconst 0, 1) := by decide +kernel
theorem dX4_movePaddles_3 : decode cX4_movePaddles 3 = .ok (.istore_n 2, 1) := by decide +kernel
theorem dX4_movePaddles_4 : decode cX4_movePaddles 4 = .ok (.iload_n 2, 1) := by decide +kernel
theorem dX4_movePaddles_5 : decode cX4_movePaddles 5 = .ok (.aload_n 0, 1) := by decide +kernel
theorem dX4_movePaddles_6 : decode cX4_movePaddles 6 = .ok (.getfield 49, 3) := by decide +kernel
theorem dX4_movePaddles_9 : decode cX4_movePaddles 9 = .ok (.if_icmp .ge 79, 3) := by decide +kernel
theorem dX4_movePaddles_12 : decode cX4_movePaddles 12 = .ok (.aload_n 0, 1) := by decide +kernel
theorem dX4_movePaddles_13 : decode cX4_movePaddles 13 = .ok (.getfield 31, 3) := by decide +kernel
theorem dX4_movePaddles_16 : decode cX4_movePaddles 16 = .ok (.iload_n 2, 1) := by decide +kernel
theorem dX4_movePaddles_17 : decode cX4_movePaddles 17 = .ok (.aaload, 1) := by decide +kernel
theorem dX4_movePaddles_18 : decode cX4_movePaddles 18 = .ok (.astore_n 3, 1) := by decide +kernel
theorem dX4_movePaddles_19 : decode cX4_movePaddles 19 = .ok (.aload_n 3, 1) := by decide +kernel
theorem dX4_movePaddles_20 : decode cX4_movePaddles 20 = .ok (.getfield 102, 3) := by decide +kernel
theorem dX4_movePaddles_23 : decode cX4_movePaddles 23 = .ok (.ifCond .eq 35, 3) := by decide +kernel
theorem dX4_movePaddles_26 : decode cX4_movePaddles 26 = .ok (.aload_n 0, 1) := by decide +kernel
theorem dX4_movePaddles_27 : decode cX4_movePaddles 27 = .ok (.getfield 23, 3) := by decide +kernel
theorem dX4_movePaddles_30 : decode cX4_movePaddles 30 = .ok (.aload_n 3, 1) := by decide +kernel
theorem dX4_movePaddles_31 : decode cX4_movePaddles 31 = .ok (.getfield 87, 3) := by decide +kernel
theorem dX4_movePaddles_34 : decode cX4_movePaddles 34 = .ok (.iaload, 1) := by decide +kernel
theorem dX4_movePaddles_35 : decode cX4_movePaddles 35 = .ok (.invokestatic 132, 3) := by decide +kernel
theorem dX4_movePaddles_38 : decode cX4_movePaddles 38 = .ok (.aload_n 0, 1) := by decide +kernel
theorem dX4_movePaddles_39 : decode cX4_movePaddles 39 = .ok (.getfield 18, 3) := by decide +kernel
theorem dX4_movePaddles_42 : decode cX4_movePaddles 42 = .ok (.iconst 2, 1) := by decide +kernel
theorem dX4_movePaddles_43 : decode cX4_movePaddles 43 = .ok (.iaload, 1) := by decide +kernel
theorem dX4_movePaddles_44 : decode cX4_movePaddles 44 = .ok (.if_icmp .le 14, 3) := by decide +kernel
theorem dX4_movePaddles_47 : decode cX4_movePaddles 47 = .ok (.aload_n 3, 1) := by decide +kernel
theorem dX4_movePaddles_48 : decode cX4_movePaddles 48 = .ok (.iconst 0, 1) := by decide +kernel
theorem dX4_movePaddles_49 : decode cX4_movePaddles 49 = .ok (.putfield 102, 3) := by decide +kernel
theorem dX4_movePaddles_52 : decode cX4_movePaddles 52 = .ok (.iinc 1 1, 3) := by decide +kernel
theorem dX4_movePaddles_55 : decode cX4_movePaddles 55 = .ok (.goto 27, 3) := by decide +kernel
theorem dX4_movePaddles_58 : decode cX4_movePaddles 58 = .ok (.aload_n 3, 1) := by decide +kernel
theorem dX4_movePaddles_59 : decode cX4_movePaddles 59 = .ok (.getfield 102, 3) := by decide +kernel
theorem dX4_movePaddles_62 : decode cX4_movePaddles 62 = .ok (.ifCond .eq 20, 3) := by decide +kernel
theorem dX4_movePaddles_65 : decode cX4_movePaddles 65 = .ok (.aload_n 0, 1) := by decide +kernel
theorem dX4_movePaddles_66 : decode cX4_movePaddles 66 = .ok (.getfield 23, 3) := by decide +kernel
theorem dX4_movePaddles_69 : decode cX4_movePaddles 69 = .ok (.aload_n 3, 1) := by decide +kernel
theorem dX4_movePaddles_70 : decode cX4_movePaddles 70 = .ok (.getfield 87, 3) := by decide +kernel
theorem dX4_movePaddles_73 : decode cX4_movePaddles 73 = .ok (.aload_n 3, 1) := by decide +kernel
theorem dX4_movePaddles_74 : decode cX4_movePaddles 74 = .ok (.aload_n 0, 1) := by decide +kernel
theorem dX4_movePaddles_75 : decode cX4_movePaddles 75 = .ok (.getfield 63, 3) := by decide +kernel
theorem dX4_movePaddles_78 : decode cX4_movePaddles 78 = .ok (.invokevirtual 137, 3) := by decide +kernel
theorem dX4_movePaddles_81 : decode cX4_movePaddles 81 = .ok (.iastore, 1) := by decide +kernel
theorem dX4_movePaddles_82 : decode cX4_movePaddles 82 = .ok (.iinc 2 1, 3) := by decide +kernel
theorem dX4_movePaddles_85 : decode cX4_movePaddles 85 = .ok (.goto (-81), 3) := by decide +kernel
theorem dX4_movePaddles_88 : decode cX4_movePaddles 88 = .ok (.iload_n 1, 1) := by decide +kernel
theorem dX4_movePaddles_89 : decode cX4_movePaddles 89 = .ok (.ireturn, 1) := by decide +kernel
theorem dX4_moveWater_0 : decode cX4_moveWater 0 = .ok (.aload_n 0, 1) := by decide +kernel
theorem dX4_moveWater_1 : decode cX4_moveWater 1 = .ok (.getfield 23, 3) := by decide +kernel
theorem dX4_moveWater_4 : decode cX4_moveWater 4 = .ok (.iconst 0, 1) := by decide +kernel
theorem dX4_moveWater_5 : decode cX4_moveWater 5 = .ok (.iaload, 1) := by decide +kernel
theorem dX4_moveWater_6 : decode cX4_moveWater 6 = .ok (.istore_n 1, 1) := by decide +kernel
theorem dX4_moveWater_7 : decode cX4_moveWater 7 = .ok (.iconst 0, 1) := by decide +kernel
theorem dX4_moveWater_8 : decode cX4_moveWater 8 = .ok (.istore_n 2, 1) := by decide +kernel
theorem dX4_moveWater_9 : decode cX4_moveWater 9 = .ok (.iload_n 2, 1) := by decide +kernel
theorem dX4_moveWater_10 : decode cX4_moveWater 10 = .ok (.bipush 40, 2) := by decide +kernel
theorem dX4_moveWater_12 : decode cX4_moveWater 12 = .ok (.if_icmp .ge 100, 3) := by decide +kernel
theorem dX4_moveWater_15 : decode cX4_moveWater 15 = .ok (.aload_n 0, 1) := by decide +kernel
theorem dX4_moveWater_16 : decode cX4_moveWater 16 = .ok (.getfield 23, 3) := by decide +kernel
theorem dX4_moveWater_19 : decode cX4_moveWater 19 = .ok (.iload_n 2, 1) := by decide +kernel
theorem dX4_moveWater_20 : decode cX4_moveWater 20 = .ok (.iaload, 1) := by decide +kernel
theorem dX4_moveWater_21 : decode cX4_moveWater 21 = .ok (.istore_n 3, 1) := by decide +kernel
theorem dX4_moveWater_22 : decode cX4_moveWater 22 = .ok (.iload_n 2, 1) := by decide +kernel
theorem dX4_moveWater_23 : decode cX4_moveWater 23 = .ok (.iconst 1, 1) := by decide +kernel
theorem dX4_moveWater_24 : decode cX4_moveWater 24 = .ok (.iadd, 1) := by decide +kernel
theorem dX4_moveWater_25 : decode cX4_moveWater 25 = .ok (.bipush 40, 2) := by decide +kernel
theorem dX4_moveWater_27 : decode cX4_moveWater 27 = .ok (.if_icmp .ge 14, 3) := by decide +kernel
theorem dX4_moveWater_30 : decode cX4_moveWater 30 = .ok (.aload_n 0, 1) := by decide +kernel
theorem dX4_moveWater_31 : decode cX4_moveWater 31 = .ok (.getfield 23, 3) := by decide +kernel
theorem dX4_moveWater_34 : decode cX4_moveWater 34 = .ok (.iload_n 2, 1) := by decide +kernel
theorem dX4_moveWater_35 : decode cX4_moveWater 35 = .ok (.iconst 1, 1) := by decide +kernel
theorem dX4_moveWater_36 : decode cX4_moveWater 36 = .ok (.iadd, 1) := by decide +kernel
theorem dX4_moveWater_37 : decode cX4_moveWater 37 = .ok (.iaload, 1) := by decide +kernel
theorem dX4_moveWater_38 : decode cX4_moveWater 38 = .ok (.goto 4, 3) := by decide +kernel
theorem dX4_moveWater_41 : decode cX4_moveWater 41 = .ok (.iload_n 3, 1) := by decide +kernel
theorem dX4_moveWater_42 : decode cX4_moveWater 42 = .ok (.istore 4, 2) := by decide +kernel
theorem dX4_moveWater_44 : decode cX4_moveWater 44 = .ok (.aload_n 0, 1) := by decide +kernel
theorem dX4_moveWater_45 : decode cX4_moveWater 45 = .ok (.getfield 26, 3) := by decide +kernel
theorem dX4_moveWater_48 : decode cX4_moveWater 48 = .ok (.iload_n 2, 1) := by decide +kernel
theorem dX4_moveWater_49 : decode cX4_moveWater 49 = .ok (.iaload, 1) := by decide +kernel
theorem dX4_moveWater_50 : decode cX4_moveWater 50 = .ok (.iload_n 1, 1) := by decide +kernel
theorem dX4_moveWater_51 : decode cX4_moveWater 51 = .ok (.iload 4, 2) := by decide +kernel
theorem dX4_moveWater_53 : decode cX4_moveWater 53 = .ok (.iadd, 1) := by decide +kernel
theorem dX4_moveWater_54 : decode cX4_moveWater 54 = .ok (.iconst 2, 1) := by decide +kernel
theorem dX4_moveWater_55 : decode cX4_moveWater 55 = .ok (.iload_n 3, 1) := by decide +kernel
theorem dX4_moveWater_56 : decode cX4_moveWater 56 = .ok (.imul, 1) := by decide +kernel
theorem dX4_moveWater_57 : decode cX4_moveWater 57 = .ok (.isub, 1) := by decide +kernel
theorem dX4_moveWater_58 : decode cX4_moveWater 58 = .ok (.iconst 4, 1) := by decide +kernel
theorem dX4_moveWater_59 : decode cX4_moveWater 59 = .ok (.idiv, 1) := by decide +kernel
theorem dX4_moveWater_60 : decode cX4_moveWater 60 = .ok (.iadd, 1) := by decide +kernel
theorem dX4_moveWater_61 : decode cX4_moveWater 61 = .ok (.invokestatic 140, 3) := by decide +kernel
theorem dX4_moveWater_64 : decode cX4_moveWater 64 = .ok (.istore 5, 2) := by decide +kernel
theorem dX4_moveWater_66 : decode cX4_moveWater 66 = .ok (.iload 5, 2) := by decide +kernel
theorem dX4_moveWater_68 : decode cX4_moveWater 68 = .ok (.iload 5, 2) := by decide +kernel
theorem dX4_moveWater_70 : decode cX4_moveWater 70 = .ok (.aload_n 0, 1) := by decide +kernel
theorem dX4_moveWater_71 : decode cX4_moveWater 71 = .ok (.getfield 18, 3) := by decide +kernel
theorem dX4_moveWater_74 : decode cX4_moveWater 74 = .ok (.iconst 1, 1) := by decide +kernel
theorem dX4_moveWater_75 : decode cX4_moveWater 75 = .ok (.iaload, 1) := by decide +kernel
theorem dX4_moveWater_76 : decode cX4_moveWater 76 = .ok (.imul, 1) := by decide +kernel
theorem dX4_moveWater_77 : decode cX4_moveWater 77 = .ok (.bipush 100, 2) := by decide +kernel
theorem dX4_moveWater_79 : decode cX4_moveWater 79 = .ok (.idiv, 1) := by decide +kernel
theorem dX4_moveWater_80 : decode cX4_moveWater 80 = .ok (.isub, 1) := by decide +kernel
theorem dX4_moveWater_81 : decode cX4_moveWater 81 = .ok (.istore 5, 2) := by decide +kernel
theorem dX4_moveWater_83 : decode cX4_moveWater 83 = .ok (.aload_n 0, 1) := by decide +kernel
theorem dX4_moveWater_84 : decode cX4_moveWater 84 = .ok (.getfield 26, 3) := by decide +kernel
theorem dX4_moveWater_87 : decode cX4_moveWater 87 = .ok (.iload_n 2, 1) := by decide +kernel
theorem dX4_moveWater_88 : decode cX4_moveWater 88 = .ok (.iload 5, 2) := by decide +kernel
theorem dX4_moveWater_90 : decode cX4_moveWater 90 = .ok (.iastore, 1) := by decide +kernel
theorem dX4_moveWater_91 : decode cX4_moveWater 91 = .ok (.aload_n 0, 1) := by decide +kernel
theorem dX4_moveWater_92 : decode cX4_moveWater 92 = .ok (.getfield 23, 3) := by decide +kernel
theorem dX4_moveWater_95 : decode cX4_moveWater 95 = .ok (.iload_n 2, 1) := by decide +kernel
theorem dX4_moveWater_96 : decode cX4_moveWater 96 = .ok (.iload_n 3, 1) := by decide +kernel
theorem dX4_moveWater_97 : decode cX4_moveWater 97 = .ok (.iload 5, 2) := by decide +kernel
theorem dX4_moveWater_99 : decode cX4_moveWater 99 = .ok (.iadd, 1) := by decide +kernel
theorem dX4_moveWater_100 : decode cX4_moveWater 100 = .ok (.invokestatic 140, 3) := by decide +kernel
theorem dX4_moveWater_103 : decode cX4_moveWater 103 = .ok (.iastore, 1) := by decide +kernel
theorem dX4_moveWater_104 : decode cX4_moveWater 104 = .ok (.iload_n 3, 1) := by decide +kernel
theorem dX4_moveWater_105 : decode cX4_moveWater 105 = .ok (.istore_n 1, 1) := by decide +kernel
theorem dX4_moveWater_106 : decode cX4_moveWater 106 = .ok (.iinc 2 1, 3) := by decide +kernel
theorem dX4_moveWater_109 : decode cX4_moveWater 109 = .ok (.goto (-100), 3) := by decide +kernel
theorem dX4_moveWater_112 : decode cX4_moveWater 112 = .ok (.return_, 1) := by decide +kernel
theorem dX4_calmBeach_0 : decode cX4_calmBeach 0 = .ok (.bipush 36, 2) := by decide +kernel
theorem dX4_calmBeach_2 : decode cX4_calmBeach 2 = .ok (.istore_n 1, 1) := by decide +kernel
theorem dX4_calmBeach_3 : decode cX4_calmBeach 3 = .ok (.iload_n 1, 1) := by decide +kernel
theorem dX4_calmBeach_4 : decode cX4_calmBeach 4 = .ok (.bipush 40, 2) := by decide +kernel
theorem dX4_calmBeach_6 : decode cX4_calmBeach 6 = .ok (.if_icmp .ge 65, 3) := by decide +kernel
theorem dX4_calmBeach_9 : decode cX4_calmBeach 9 = .ok (.aload_n 0, 1) := by decide +kernel
theorem dX4_calmBeach_10 : decode cX4_calmBeach 10 = .ok (.getfield 18, 3) := by decide +kernel
theorem dX4_calmBeach_13 : decode cX4_calmBeach 13 = .ok (.iconst 0, 1) := by decide +kernel
theorem dX4_calmBeach_14 : decode cX4_calmBeach 14 = .ok (.iaload, 1) := by decide +kernel
theorem dX4_calmBeach_15 : decode cX4_calmBeach 15 = .ok (.iload_n 1, 1) := by decide +kernel
theorem dX4_calmBeach_16 : decode cX4_calmBeach 16 = .ok (.bipush 36, 2) := by decide +kernel
theorem dX4_calmBeach_18 : decode cX4_calmBeach 18 = .ok (.isub, 1) := by decide +kernel
theorem dX4_calmBeach_19 : decode cX4_calmBeach 19 = .ok (.iconst 1, 1) := by decide +kernel
theorem dX4_calmBeach_20 : decode cX4_calmBeach 20 = .ok (.iadd, 1) := by decide +kernel
theorem dX4_calmBeach_21 : decode cX4_calmBeach 21 = .ok (.imul, 1) := by decide +kernel
theorem dX4_calmBeach_22 : decode cX4_calmBeach 22 = .ok (.istore_n 2, 1) := by decide +kernel
theorem dX4_calmBeach_23 : decode cX4_calmBeach 23 = .ok (.aload_n 0, 1) := by decide +kernel
theorem dX4_calmBeach_24 : decode cX4_calmBeach 24 = .ok (.getfield 23, 3) := by decide +kernel
theorem dX4_calmBeach_27 : decode cX4_calmBeach 27 = .ok (.iload_n 1, 1) := by decide +kernel
theorem dX4_calmBeach_28 : decode cX4_calmBeach 28 = .ok (.dup2, 1) := by decide +kernel
theorem dX4_calmBeach_29 : decode cX4_calmBeach 29 = .ok (.iaload, 1) := by decide +kernel
theorem dX4_calmBeach_30 : decode cX4_calmBeach 30 = .ok (.aload_n 0, 1) := by decide +kernel
theorem dX4_calmBeach_31 : decode cX4_calmBeach 31 = .ok (.getfield 23, 3) := by decide +kernel
theorem dX4_calmBeach_34 : decode cX4_calmBeach 34 = .ok (.iload_n 1, 1) := by decide +kernel
theorem dX4_calmBeach_35 : decode cX4_calmBeach 35 = .ok (.iaload, 1) := by decide +kernel
theorem dX4_calmBeach_36 : decode cX4_calmBeach 36 = .ok (.iload_n 2, 1) := by decide +kernel
theorem dX4_calmBeach_37 : decode cX4_calmBeach 37 = .ok (.imul, 1) := by decide +kernel
theorem dX4_calmBeach_38 : decode cX4_calmBeach 38 = .ok (.sipush 400, 3) := by decide +kernel
theorem dX4_calmBeach_41 : decode cX4_calmBeach 41 = .ok (.idiv, 1) := by decide +kernel
theorem dX4_calmBeach_42 : decode cX4_calmBeach 42 = .ok (.isub, 1) := by decide +kernel
theorem dX4_calmBeach_43 : decode cX4_calmBeach 43 = .ok (.iastore, 1) := by decide +kernel
theorem dX4_calmBeach_44 : decode cX4_calmBeach 44 = .ok (.aload_n 0, 1) := by decide +kernel
theorem dX4_calmBeach_45 : decode cX4_calmBeach 45 = .ok (.getfield 26, 3) := by decide +kernel
theorem dX4_calmBeach_48 : decode cX4_calmBeach 48 = .ok (.iload_n 1, 1) := by decide +kernel
theorem dX4_calmBeach_49 : decode cX4_calmBeach 49 = .ok (.dup2, 1) := by decide +kernel
theorem dX4_calmBeach_50 : decode cX4_calmBeach 50 = .ok (.iaload, 1) := by decide +kernel
theorem dX4_calmBeach_51 : decode cX4_calmBeach 51 = .ok (.aload_n 0, 1) := by decide +kernel
theorem dX4_calmBeach_52 : decode cX4_calmBeach 52 = .ok (.getfield 26, 3) := by decide +kernel
theorem dX4_calmBeach_55 : decode cX4_calmBeach 55 = .ok (.iload_n 1, 1) := by decide +kernel
theorem dX4_calmBeach_56 : decode cX4_calmBeach 56 = .ok (.iaload, 1) := by decide +kernel
theorem dX4_calmBeach_57 : decode cX4_calmBeach 57 = .ok (.iload_n 2, 1) := by decide +kernel
theorem dX4_calmBeach_58 : decode cX4_calmBeach 58 = .ok (.imul, 1) := by decide +kernel
theorem dX4_calmBeach_59 : decode cX4_calmBeach 59 = .ok (.sipush 400, 3) := by decide +kernel
theorem dX4_calmBeach_62 : decode cX4_calmBeach 62 = .ok (.idiv, 1) := by decide +kernel
theorem dX4_calmBeach_63 : decode cX4_calmBeach 63 = .ok (.isub, 1) := by decide +kernel
theorem dX4_calmBeach_64 : decode cX4_calmBeach 64 = .ok (.iastore, 1) := by decide +kernel
theorem dX4_calmBeach_65 : decode cX4_calmBeach 65 = .ok (.iinc 1 1, 3) := by decide +kernel
theorem dX4_calmBeach_68 : decode cX4_calmBeach 68 = .ok (.goto (-65), 3) := by decide +kernel
theorem dX4_calmBeach_71 : decode cX4_calmBeach 71 = .ok (.return_, 1) := by decide +kernel
theorem dX4_isCrest_0 : decode cX4_isCrest 0 = .ok (.iload_n 1, 1) := by decide +kernel
theorem dX4_isCrest_1 : decode cX4_isCrest 1 = .ok (.iconst 1, 1) := by decide +kernel
theorem dX4_isCrest_2 : decode cX4_isCrest 2 = .ok (.if_icmp .lt 47, 3) := by decide +kernel
theorem dX4_isCrest_5 : decode cX4_isCrest 5 = .ok (.iload_n 1, 1) := by decide +kernel
theorem dX4_isCrest_6 : decode cX4_isCrest 6 = .ok (.bipush 39, 2) := by decide +kernel
theorem dX4_isCrest_8 : decode cX4_isCrest 8 = .ok (.if_icmp .ge 41, 3) := by decide +kernel
theorem dX4_isCrest_11 : decode cX4_isCrest 11 = .ok (.aload_n 0, 1) := by decide +kernel
theorem dX4_isCrest_12 : decode cX4_isCrest 12 = .ok (.getfield 23, 3) := by decide +kernel
theorem dX4_isCrest_15 : decode cX4_isCrest 15 = .ok (.iload_n 1, 1) := by decide +kernel
theorem dX4_isCrest_16 : decode cX4_isCrest 16 = .ok (.iaload, 1) := by decide +kernel
theorem dX4_isCrest_17 : decode cX4_isCrest 17 = .ok (.aload_n 0, 1) := by decide +kernel
theorem dX4_isCrest_18 : decode cX4_isCrest 18 = .ok (.getfield 23, 3) := by decide +kernel
theorem dX4_isCrest_21 : decode cX4_isCrest 21 = .ok (.iload_n 1, 1) := by decide +kernel
theorem dX4_isCrest_22 : decode cX4_isCrest 22 = .ok (.iconst 1, 1) := by decide +kernel
theorem dX4_isCrest_23 : decode cX4_isCrest 23 = .ok (.isub, 1) := by decide +kernel
theorem dX4_isCrest_24 : decode cX4_isCrest 24 = .ok (.iaload, 1) := by decide +kernel
theorem dX4_isCrest_25 : decode cX4_isCrest 25 = .ok (.if_icmp .le 24, 3) := by decide +kernel
theorem dX4_isCrest_28 : decode cX4_isCrest 28 = .ok (.aload_n 0, 1) := by decide +kernel
theorem dX4_isCrest_29 : decode cX4_isCrest 29 = .ok (.getfield 23, 3) := by decide +kernel
theorem dX4_isCrest_32 : decode cX4_isCrest 32 = .ok (.iload_n 1, 1) := by decide +kernel
theorem dX4_isCrest_33 : decode cX4_isCrest 33 = .ok (.iaload, 1) := by decide +kernel
theorem dX4_isCrest_34 : decode cX4_isCrest 34 = .ok (.aload_n 0, 1) := by decide +kernel
theorem dX4_isCrest_35 : decode cX4_isCrest 35 = .ok (.getfield 23, 3) := by decide +kernel
theorem dX4_isCrest_38 : decode cX4_isCrest 38 = .ok (.iload_n 1, 1) := by decide +kernel
theorem dX4_isCrest_39 : decode cX4_isCrest 39 = .ok (.iconst 1, 1) := by decide +kernel
theorem dX4_isCrest_40 : decode cX4_isCrest 40 = .ok (.iadd, 1) := by decide +kernel
theorem dX4_isCrest_41 : decode cX4_isCrest 41 = .ok (.iaload, 1) := by decide +kernel
theorem dX4_isCrest_42 : decode cX4_isCrest 42 = .ok (.if_icmp .le 7, 3) := by decide +kernel
theorem dX4_isCrest_45 : decode cX4_isCrest 45 = .ok (.iconst 1, 1) := by decide +kernel
theorem dX4_isCrest_46 : decode cX4_isCrest 46 = .ok (.goto 4, 3) := by decide +kernel
theorem dX4_isCrest_49 : decode cX4_isCrest 49 = .ok (.iconst 0, 1) := by decide +kernel
theorem dX4_isCrest_50 : decode cX4_isCrest 50 = .ok (.ireturn, 1) := by decide +kernel
theorem dX4_isTrough_0 : decode cX4_isTrough 0 = .ok (.iload_n 1, 1) := by decide +kernel
theorem dX4_isTrough_1 : decode cX4_isTrough 1 = .ok (.iconst 1, 1) := by decide +kernel
theorem dX4_isTrough_2 : decode cX4_isTrough 2 = .ok (.if_icmp .lt 47, 3) := by decide +kernel
theorem dX4_isTrough_5 : decode cX4_isTrough 5 = .ok (.iload_n 1, 1) := by decide +kernel
theorem dX4_isTrough_6 : decode cX4_isTrough 6 = .ok (.bipush 39, 2) := by decide +kernel
theorem dX4_isTrough_8 : decode cX4_isTrough 8 = .ok (.if_icmp .ge 41, 3) := by decide +kernel
theorem dX4_isTrough_11 : decode cX4_isTrough 11 = .ok (.aload_n 0, 1) := by decide +kernel
theorem dX4_isTrough_12 : decode cX4_isTrough 12 = .ok (.getfield 23, 3) := by decide +kernel
theorem dX4_isTrough_15 : decode cX4_isTrough 15 = .ok (.iload_n 1, 1) := by decide +kernel
theorem dX4_isTrough_16 : decode cX4_isTrough 16 = .ok (.iaload, 1) := by decide +kernel
theorem dX4_isTrough_17 : decode cX4_isTrough 17 = .ok (.aload_n 0, 1) := by decide +kernel
theorem dX4_isTrough_18 : decode cX4_isTrough 18 = .ok (.getfield 23, 3) := by decide +kernel
theorem dX4_isTrough_21 : decode cX4_isTrough 21 = .ok (.iload_n 1, 1) := by decide +kernel
theorem dX4_isTrough_22 : decode cX4_isTrough 22 = .ok (.iconst 1, 1) := by decide +kernel
theorem dX4_isTrough_23 : decode cX4_isTrough 23 = .ok (.isub, 1) := by decide +kernel
theorem dX4_isTrough_24 : decode cX4_isTrough 24 = .ok (.iaload, 1) := by decide +kernel
theorem dX4_isTrough_25 : decode cX4_isTrough 25 = .ok (.if_icmp .ge 24, 3) := by decide +kernel
theorem dX4_isTrough_28 : decode cX4_isTrough 28 = .ok (.aload_n 0, 1) := by decide +kernel
theorem dX4_isTrough_29 : decode cX4_isTrough 29 = .ok (.getfield 23, 3) := by decide +kernel
theorem dX4_isTrough_32 : decode cX4_isTrough 32 = .ok (.iload_n 1, 1) := by decide +kernel
theorem dX4_isTrough_33 : decode cX4_isTrough 33 = .ok (.iaload, 1) := by decide +kernel
theorem dX4_isTrough_34 : decode cX4_isTrough 34 = .ok (.aload_n 0, 1) := by decide +kernel
theorem dX4_isTrough_35 : decode cX4_isTrough 35 = .ok (.getfield 23, 3) := by decide +kernel
theorem dX4_isTrough_38 : decode cX4_isTrough 38 = .ok (.iload_n 1, 1) := by decide +kernel
theorem dX4_isTrough_39 : decode cX4_isTrough 39 = .ok (.iconst 1, 1) := by decide +kernel
theorem dX4_isTrough_40 : decode cX4_isTrough 40 = .ok (.iadd, 1) := by decide +kernel
theorem dX4_isTrough_41 : decode cX4_isTrough 41 = .ok (.iaload, 1) := by decide +kernel
theorem dX4_isTrough_42 : decode cX4_isTrough 42 = .ok (.if_icmp .ge 7, 3) := by decide +kernel
theorem dX4_isTrough_45 : decode cX4_isTrough 45 = .ok (.iconst 1, 1) := by decide +kernel
theorem dX4_isTrough_46 : decode cX4_isTrough 46 = .ok (.goto 4, 3) := by decide +kernel
theorem dX4_isTrough_49 : decode cX4_isTrough 49 = .ok (.iconst 0, 1) := by decide +kernel
theorem dX4_isTrough_50 : decode cX4_isTrough 50 = .ok (.ireturn, 1) := by decide +kernel
theorem dX4_isCalm_0 : decode cX4_isCalm 0 = .ok (.iconst 0, 1) := by decide +kernel
theorem dX4_isCalm_1 : decode cX4_isCalm 1 = .ok (.istore_n 1, 1) := by decide +kernel
theorem dX4_isCalm_2 : decode cX4_isCalm 2 = .ok (.iload_n 1, 1) := by decide +kernel
theorem dX4_isCalm_3 : decode cX4_isCalm 3 = .ok (.bipush 40, 2) := by decide +kernel
theorem dX4_isCalm_5 : decode cX4_isCalm 5 = .ok (.if_icmp .ge 29, 3) := by decide +kernel
theorem dX4_isCalm_8 : decode cX4_isCalm 8 = .ok (.aload_n 0, 1) := by decide +kernel
theorem dX4_isCalm_9 : decode cX4_isCalm 9 = .ok (.getfield 23, 3) := by decide +kernel
theorem dX4_isCalm_12 : decode cX4_isCalm 12 = .ok (.iload_n 1, 1) := by decide +kernel
theorem dX4_isCalm_13 : decode cX4_isCalm 13 = .ok (.iaload, 1) := by decide +kernel
theorem dX4_isCalm_14 : decode cX4_isCalm 14 = .ok (.ifCond .ne 12, 3) := by decide +kernel
theorem dX4_isCalm_17 : decode cX4_isCalm 17 = .ok (.aload_n 0, 1) := by decide +kernel
theorem dX4_isCalm_18 : decode cX4_isCalm 18 = .ok (.getfield 26, 3) := by decide +kernel
theorem dX4_isCalm_21 : decode cX4_isCalm 21 = .ok (.iload_n 1, 1) := by decide +kernel
theorem dX4_isCalm_22 : decode cX4_isCalm 22 = .ok (.iaload, 1) := by decide +kernel
theorem dX4_isCalm_23 : decode cX4_isCalm 23 = .ok (.ifCond .eq 5, 3) := by decide +kernel
theorem dX4_isCalm_26 : decode cX4_isCalm 26 = .ok (.iconst 0, 1) := by decide +kernel
theorem dX4_isCalm_27 : decode cX4_isCalm 27 = .ok (.ireturn, 1) := by decide +kernel
theorem dX4_isCalm_28 : decode cX4_isCalm 28 = .ok (.iinc 1 1, 3) := by decide +kernel
theorem dX4_isCalm_31 : decode cX4_isCalm 31 = .ok (.goto (-29), 3) := by decide +kernel
theorem dX4_isCalm_34 : decode cX4_isCalm 34 = .ok (.iconst 1, 1) := by decide +kernel
theorem dX4_isCalm_35 : decode cX4_isCalm 35 = .ok (.ireturn, 1) := by decide +kernel
theorem dX4_cellsThatAre_0 : decode cX4_cellsThatAre 0 = .ok (.lconst 0, 1) := by decide +kernel
theorem dX4_cellsThatAre_1 : decode cX4_cellsThatAre 1 = .ok (.lstore_n 2, 1) := by decide +kernel
theorem dX4_cellsThatAre_2 : decode cX4_cellsThatAre 2 = .ok (.iconst 0, 1) := by decide +kernel
theorem dX4_cellsThatAre_3 : decode cX4_cellsThatAre 3 = .ok (.istore 4, 2) := by decide +kernel
theorem dX4_cellsThatAre_5 : decode cX4_cellsThatAre 5 = .ok (.iload 4, 2) := by decide +kernel
theorem dX4_cellsThatAre_7 : decode cX4_cellsThatAre 7 = .ok (.bipush 40, 2) := by decide +kernel
theorem dX4_cellsThatAre_9 : decode cX4_cellsThatAre 9 = .ok (.if_icmp .ge 26, 3) := by decide +kernel
theorem dX4_cellsThatAre_12 : decode cX4_cellsThatAre 12 = .ok (.aload_n 0, 1) := by decide +kernel
theorem dX4_cellsThatAre_13 : decode cX4_cellsThatAre 13 = .ok (.iload 4, 2) := by decide +kernel
theorem dX4_cellsThatAre_15 : decode cX4_cellsThatAre 15 = .ok (.iload_n 1, 1) := by decide +kernel
theorem dX4_cellsThatAre_16 : decode cX4_cellsThatAre 16 = .ok (.invokevirtual 143, 3) := by decide +kernel
theorem dX4_cellsThatAre_19 : decode cX4_cellsThatAre 19 = .ok (.ifCond .eq 10, 3) := by decide +kernel
theorem dX4_cellsThatAre_22 : decode cX4_cellsThatAre 22 = .ok (.lload_n 2, 1) := by decide +kernel
theorem dX4_cellsThatAre_23 : decode cX4_cellsThatAre 23 = .ok (.lconst 1, 1) := by decide +kernel
theorem dX4_cellsThatAre_24 : decode cX4_cellsThatAre 24 = .ok (.iload 4, 2) := by decide +kernel
theorem dX4_cellsThatAre_26 : decode cX4_cellsThatAre 26 = .ok (.lshl, 1) := by decide +kernel
theorem dX4_cellsThatAre_27 : decode cX4_cellsThatAre 27 = .ok (.lor, 1) := by decide +kernel
theorem dX4_cellsThatAre_28 : decode cX4_cellsThatAre 28 = .ok (.lstore_n 2, 1) := by decide +kernel
theorem dX4_cellsThatAre_29 : decode cX4_cellsThatAre 29 = .ok (.iinc 4 1, 3) := by decide +kernel
theorem dX4_cellsThatAre_32 : decode cX4_cellsThatAre 32 = .ok (.goto (-27), 3) := by decide +kernel
theorem dX4_cellsThatAre_35 : decode cX4_cellsThatAre 35 = .ok (.lload_n 2, 1) := by decide +kernel
theorem dX4_cellsThatAre_36 : decode cX4_cellsThatAre 36 = .ok (.lreturn, 1) := by decide +kernel
theorem dX4_isPlace_0 : decode cX4_isPlace 0 = .ok (.aload_n 0, 1) := by decide +kernel
theorem dX4_isPlace_1 : decode cX4_isPlace 1 = .ok (.iload_n 1, 1) := by decide +kernel
theorem dX4_isPlace_2 : decode cX4_isPlace 2 = .ok (.invokevirtual 80, 3) := by decide +kernel
theorem dX4_isPlace_5 : decode cX4_isPlace 5 = .ok (.istore_n 3, 1) := by decide +kernel
theorem dX4_isPlace_6 : decode cX4_isPlace 6 = .ok (.iload_n 2, 1) := by decide +kernel
theorem dX4_isPlace_7 : decode cX4_isPlace 7 = .ok (.tableswitch 92 0 4 #[33, 39, 45, 60, 70], 33) := by decide +kernel
theorem dX4_isPlace_40 : decode cX4_isPlace 40 = .ok (.aload_n 0, 1) := by decide +kernel
theorem dX4_isPlace_41 : decode cX4_isPlace 41 = .ok (.iload_n 1, 1) := by decide +kernel
theorem dX4_isPlace_42 : decode cX4_isPlace 42 = .ok (.invokevirtual 146, 3) := by decide +kernel
theorem dX4_isPlace_45 : decode cX4_isPlace 45 = .ok (.ireturn, 1) := by decide +kernel
theorem dX4_isPlace_46 : decode cX4_isPlace 46 = .ok (.aload_n 0, 1) := by decide +kernel
theorem dX4_isPlace_47 : decode cX4_isPlace 47 = .ok (.iload_n 1, 1) := by decide +kernel
theorem dX4_isPlace_48 : decode cX4_isPlace 48 = .ok (.invokevirtual 150, 3) := by decide +kernel
theorem dX4_isPlace_51 : decode cX4_isPlace 51 = .ok (.ireturn, 1) := by decide +kernel
theorem dX4_isPlace_52 : decode cX4_isPlace 52 = .ok (.aload_n 0, 1) := by decide +kernel
theorem dX4_isPlace_53 : decode cX4_isPlace 53 = .ok (.getfield 23, 3) := by decide +kernel
theorem dX4_isPlace_56 : decode cX4_isPlace 56 = .ok (.iload_n 1, 1) := by decide +kernel
theorem dX4_isPlace_57 : decode cX4_isPlace 57 = .ok (.iaload, 1) := by decide +kernel
theorem dX4_isPlace_58 : decode cX4_isPlace 58 = .ok (.ifCond .eq 7, 3) := by decide +kernel
theorem dX4_isPlace_61 : decode cX4_isPlace 61 = .ok (.iconst 1, 1) := by decide +kernel
theorem dX4_isPlace_62 : decode cX4_isPlace 62 = .ok (.goto 4, 3) := by decide +kernel
theorem dX4_isPlace_65 : decode cX4_isPlace 65 = .ok (.iconst 0, 1) := by decide +kernel
theorem dX4_isPlace_66 : decode cX4_isPlace 66 = .ok (.ireturn, 1) := by decide +kernel
theorem dX4_isPlace_67 : decode cX4_isPlace 67 = .ok (.iload_n 3, 1) := by decide +kernel
theorem dX4_isPlace_68 : decode cX4_isPlace 68 = .ok (.ifCond .lt 7, 3) := by decide +kernel
theorem dX4_isPlace_71 : decode cX4_isPlace 71 = .ok (.iconst 1, 1) := by decide +kernel
theorem dX4_isPlace_72 : decode cX4_isPlace 72 = .ok (.goto 4, 3) := by decide +kernel
theorem dX4_isPlace_75 : decode cX4_isPlace 75 = .ok (.iconst 0, 1) := by decide +kernel
theorem dX4_isPlace_76 : decode cX4_isPlace 76 = .ok (.ireturn, 1) := by decide +kernel
theorem dX4_isPlace_77 : decode cX4_isPlace 77 = .ok (.iload_n 3, 1) := by decide +kernel
theorem dX4_isPlace_78 : decode cX4_isPlace 78 = .ok (.ifCond .lt 19, 3) := by decide +kernel
theorem dX4_isPlace_81 : decode cX4_isPlace 81 = .ok (.aload_n 0, 1) := by decide +kernel
theorem dX4_isPlace_82 : decode cX4_isPlace 82 = .ok (.getfield 31, 3) := by decide +kernel
theorem dX4_isPlace_85 : decode cX4_isPlace 85 = .ok (.iload_n 3, 1) := by decide +kernel
theorem dX4_isPlace_86 : decode cX4_isPlace 86 = .ok (.aaload, 1) := by decide +kernel
theorem dX4_isPlace_87 : decode cX4_isPlace 87 = .ok (.getfield 102, 3) := by decide +kernel
theorem dX4_isPlace_90 : decode cX4_isPlace 90 = .ok (.ifCond .ne 7, 3) := by decide +kernel
theorem dX4_isPlace_93 : decode cX4_isPlace 93 = .ok (.iconst 1, 1) := by decide +kernel
theorem dX4_isPlace_94 : decode cX4_isPlace 94 = .ok (.goto 4, 3) := by decide +kernel
theorem dX4_isPlace_97 : decode cX4_isPlace 97 = .ok (.iconst 0, 1) := by decide +kernel
theorem dX4_isPlace_98 : decode cX4_isPlace 98 = .ok (.ireturn, 1) := by decide +kernel
theorem dX4_isPlace_99 : decode cX4_isPlace 99 = .ok (.iconst 0, 1) := by decide +kernel
theorem dX4_isPlace_100 : decode cX4_isPlace 100 = .ok (.ireturn, 1) := by decide +kernel
theorem dX4_sumOfLevels_0 : decode cX4_sumOfLevels 0 = .ok (.iconst 0, 1) := by decide +kernel
theorem dX4_sumOfLevels_1 : decode cX4_sumOfLevels 1 = .ok (.istore_n 1, 1) := by decide +kernel
theorem dX4_sumOfLevels_2 : decode cX4_sumOfLevels 2 = .ok (.iconst 0, 1) := by decide +kernel
theorem dX4_sumOfLevels_3 : decode cX4_sumOfLevels 3 = .ok (.istore_n 2, 1) := by decide +kernel
theorem dX4_sumOfLevels_4 : decode cX4_sumOfLevels 4 = .ok (.iload_n 2, 1) := by decide +kernel
theorem dX4_sumOfLevels_5 : decode cX4_sumOfLevels 5 = .ok (.bipush 40, 2) := by decide +kernel
theorem dX4_sumOfLevels_7 : decode cX4_sumOfLevels 7 = .ok (.if_icmp .ge 18, 3) := by decide +kernel
theorem dX4_sumOfLevels_10 : decode cX4_sumOfLevels 10 = .ok (.iload_n 1, 1) := by decide +kernel
theorem dX4_sumOfLevels_11 : decode cX4_sumOfLevels 11 = .ok (.aload_n 0, 1) := by decide +kernel
theorem dX4_sumOfLevels_12 : decode cX4_sumOfLevels 12 = .ok (.getfield 23, 3) := by decide +kernel
theorem dX4_sumOfLevels_15 : decode cX4_sumOfLevels 15 = .ok (.iload_n 2, 1) := by decide +kernel
theorem dX4_sumOfLevels_16 : decode cX4_sumOfLevels 16 = .ok (.iaload, 1) := by decide +kernel
theorem dX4_sumOfLevels_17 : decode cX4_sumOfLevels 17 = .ok (.iadd, 1) := by decide +kernel
theorem dX4_sumOfLevels_18 : decode cX4_sumOfLevels 18 = .ok (.istore_n 1, 1) := by decide +kernel
theorem dX4_sumOfLevels_19 : decode cX4_sumOfLevels 19 = .ok (.iinc 2 1, 3) := by decide +kernel
theorem dX4_sumOfLevels_22 : decode cX4_sumOfLevels 22 = .ok (.goto (-18), 3) := by decide +kernel
theorem dX4_sumOfLevels_25 : decode cX4_sumOfLevels 25 = .ok (.iload_n 1, 1) := by decide +kernel
theorem dX4_sumOfLevels_26 : decode cX4_sumOfLevels 26 = .ok (.ireturn, 1) := by decide +kernel
theorem dX4_motion_0 : decode cX4_motion 0 = .ok (.iconst 0, 1) := by decide +kernel
theorem dX4_motion_1 : decode cX4_motion 1 = .ok (.istore_n 1, 1) := by decide +kernel
theorem dX4_motion_2 : decode cX4_motion 2 = .ok (.iconst 0, 1) := by decide +kernel
theorem dX4_motion_3 : decode cX4_motion 3 = .ok (.istore_n 2, 1) := by decide +kernel
theorem dX4_motion_4 : decode cX4_motion 4 = .ok (.iload_n 2, 1) := by decide +kernel
theorem dX4_motion_5 : decode cX4_motion 5 = .ok (.bipush 40, 2) := by decide +kernel
theorem dX4_motion_7 : decode cX4_motion 7 = .ok (.if_icmp .ge 31, 3) := by decide +kernel
theorem dX4_motion_10 : decode cX4_motion 10 = .ok (.iload_n 1, 1) := by decide +kernel
theorem dX4_motion_11 : decode cX4_motion 11 = .ok (.aload_n 0, 1) := by decide +kernel
theorem dX4_motion_12 : decode cX4_motion 12 = .ok (.getfield 23, 3) := by decide +kernel
theorem dX4_motion_15 : decode cX4_motion 15 = .ok (.iload_n 2, 1) := by decide +kernel
theorem dX4_motion_16 : decode cX4_motion 16 = .ok (.iaload, 1) := by decide +kernel
theorem dX4_motion_17 : decode cX4_motion 17 = .ok (.invokestatic 132, 3) := by decide +kernel
theorem dX4_motion_20 : decode cX4_motion 20 = .ok (.aload_n 0, 1) := by decide +kernel
theorem dX4_motion_21 : decode cX4_motion 21 = .ok (.getfield 26, 3) := by decide +kernel
theorem dX4_motion_24 : decode cX4_motion 24 = .ok (.iload_n 2, 1) := by decide +kernel
theorem dX4_motion_25 : decode cX4_motion 25 = .ok (.iaload, 1) := by decide +kernel
theorem dX4_motion_26 : decode cX4_motion 26 = .ok (.invokestatic 132, 3) := by decide +kernel
theorem dX4_motion_29 : decode cX4_motion 29 = .ok (.iadd, 1) := by decide +kernel
theorem dX4_motion_30 : decode cX4_motion 30 = .ok (.iadd, 1) := by decide +kernel
theorem dX4_motion_31 : decode cX4_motion 31 = .ok (.istore_n 1, 1) := by decide +kernel
theorem dX4_motion_32 : decode cX4_motion 32 = .ok (.iinc 2 1, 3) := by decide +kernel
theorem dX4_motion_35 : decode cX4_motion 35 = .ok (.goto (-31), 3) := by decide +kernel
theorem dX4_motion_38 : decode cX4_motion 38 = .ok (.iload_n 1, 1) := by decide +kernel
theorem dX4_motion_39 : decode cX4_motion 39 = .ok (.ireturn, 1) := by decide +kernel
theorem dX4_farthestLevel_0 : decode cX4_farthestLevel 0 = .ok (.iconst 0, 1) := by decide +kernel
theorem dX4_farthestLevel_1 : decode cX4_farthestLevel 1 = .ok (.istore_n 1, 1) := by decide +kernel
theorem dX4_farthestLevel_2 : decode cX4_farthestLevel 2 = .ok (.iconst 0, 1) := by decide +kernel
theorem dX4_farthestLevel_3 : decode cX4_farthestLevel 3 = .ok (.istore_n 2, 1) := by decide +kernel
theorem dX4_farthestLevel_4 : decode cX4_farthestLevel 4 = .ok (.iload_n 2, 1) := by decide +kernel
theorem dX4_farthestLevel_5 : decode cX4_farthestLevel 5 = .ok (.bipush 40, 2) := by decide +kernel
theorem dX4_farthestLevel_7 : decode cX4_farthestLevel 7 = .ok (.if_icmp .ge 23, 3) := by decide +kernel
theorem dX4_farthestLevel_10 : decode cX4_farthestLevel 10 = .ok (.iload_n 1, 1) := by decide +kernel
theorem dX4_farthestLevel_11 : decode cX4_farthestLevel 11 = .ok (.aload_n 0, 1) := by decide +kernel
theorem dX4_farthestLevel_12 : decode cX4_farthestLevel 12 = .ok (.getfield 23, 3) := by decide +kernel
theorem dX4_farthestLevel_15 : decode cX4_farthestLevel 15 = .ok (.iload_n 2, 1) := by decide +kernel
theorem dX4_farthestLevel_16 : decode cX4_farthestLevel 16 = .ok (.iaload, 1) := by decide +kernel
theorem dX4_farthestLevel_17 : decode cX4_farthestLevel 17 = .ok (.invokestatic 132, 3) := by decide +kernel
theorem dX4_farthestLevel_20 : decode cX4_farthestLevel 20 = .ok (.invokestatic 153, 3) := by decide +kernel
theorem dX4_farthestLevel_23 : decode cX4_farthestLevel 23 = .ok (.istore_n 1, 1) := by decide +kernel
theorem dX4_farthestLevel_24 : decode cX4_farthestLevel 24 = .ok (.iinc 2 1, 3) := by decide +kernel
theorem dX4_farthestLevel_27 : decode cX4_farthestLevel 27 = .ok (.goto (-23), 3) := by decide +kernel
theorem dX4_farthestLevel_30 : decode cX4_farthestLevel 30 = .ok (.iload_n 1, 1) := by decide +kernel
theorem dX4_farthestLevel_31 : decode cX4_farthestLevel 31 = .ok (.ireturn, 1) := by decide +kernel
theorem dX4_lastUnevenCell_0 : decode cX4_lastUnevenCell 0 = .ok (.bipush 39, 2) := by decide +kernel
theorem dX4_lastUnevenCell_2 : decode cX4_lastUnevenCell 2 = .ok (.istore_n 1, 1) := by decide +kernel
theorem dX4_lastUnevenCell_3 : decode cX4_lastUnevenCell 3 = .ok (.iload_n 1, 1) := by decide +kernel
theorem dX4_lastUnevenCell_4 : decode cX4_lastUnevenCell 4 = .ok (.ifCond .lt 20, 3) := by decide +kernel
theorem dX4_lastUnevenCell_7 : decode cX4_lastUnevenCell 7 = .ok (.aload_n 0, 1) := by decide +kernel
theorem dX4_lastUnevenCell_8 : decode cX4_lastUnevenCell 8 = .ok (.getfield 23, 3) := by decide +kernel
theorem dX4_lastUnevenCell_11 : decode cX4_lastUnevenCell 11 = .ok (.iload_n 1, 1) := by decide +kernel
theorem dX4_lastUnevenCell_12 : decode cX4_lastUnevenCell 12 = .ok (.iaload, 1) := by decide +kernel
theorem dX4_lastUnevenCell_13 : decode cX4_lastUnevenCell 13 = .ok (.ifCond .eq 5, 3) := by decide +kernel
theorem dX4_lastUnevenCell_16 : decode cX4_lastUnevenCell 16 = .ok (.iload_n 1, 1) := by decide +kernel
theorem dX4_lastUnevenCell_17 : decode cX4_lastUnevenCell 17 = .ok (.ireturn, 1) := by decide +kernel
theorem dX4_lastUnevenCell_18 : decode cX4_lastUnevenCell 18 = .ok (.iinc 1 (-1), 3) := by decide +kernel
theorem dX4_lastUnevenCell_21 : decode cX4_lastUnevenCell 21 = .ok (.goto (-18), 3) := by decide +kernel
theorem dX4_lastUnevenCell_24 : decode cX4_lastUnevenCell 24 = .ok (.bipush (-6), 2) := by decide +kernel
theorem dX4_lastUnevenCell_26 : decode cX4_lastUnevenCell 26 = .ok (.ireturn, 1) := by decide +kernel
theorem dX5_init_0 : decode cX5_init 0 = .ok (.aload_n 0, 1) := by decide +kernel
theorem dX5_init_1 : decode cX5_init 1 = .ok (.invokespecial 1, 3) := by decide +kernel
theorem dX5_init_4 : decode cX5_init 4 = .ok (.aload_n 0, 1) := by decide +kernel
theorem dX5_init_5 : decode cX5_init 5 = .ok (.new 7, 3) := by decide +kernel
theorem dX5_init_8 : decode cX5_init 8 = .ok (.dup, 1) := by decide +kernel
theorem dX5_init_9 : decode cX5_init 9 = .ok (.invokespecial 9, 3) := by decide +kernel
theorem dX5_init_12 : decode cX5_init 12 = .ok (.putfield 10, 3) := by decide +kernel
theorem dX5_init_15 : decode cX5_init 15 = .ok (.aload_n 0, 1) := by decide +kernel
theorem dX5_init_16 : decode cX5_init 16 = .ok (.new 16, 3) := by decide +kernel
theorem dX5_init_19 : decode cX5_init 19 = .ok (.dup, 1) := by decide +kernel
theorem dX5_init_20 : decode cX5_init 20 = .ok (.invokespecial 18, 3) := by decide +kernel
theorem dX5_init_23 : decode cX5_init 23 = .ok (.putfield 19, 3) := by decide +kernel
theorem dX5_init_26 : decode cX5_init 26 = .ok (.aload_n 0, 1) := by decide +kernel
theorem dX5_init_27 : decode cX5_init 27 = .ok (.new 23, 3) := by decide +kernel
theorem dX5_init_30 : decode cX5_init 30 = .ok (.dup, 1) := by decide +kernel
theorem dX5_init_31 : decode cX5_init 31 = .ok (.invokespecial 25, 3) := by decide +kernel
theorem dX5_init_34 : decode cX5_init 34 = .ok (.putfield 26, 3) := by decide +kernel
theorem dX5_init_37 : decode cX5_init 37 = .ok (.aload_n 0, 1) := by decide +kernel
theorem dX5_init_38 : decode cX5_init 38 = .ok (.iconst 2, 1) := by decide +kernel
theorem dX5_init_39 : decode cX5_init 39 = .ok (.anewarray 7, 3) := by decide +kernel
theorem dX5_init_42 : decode cX5_init 42 = .ok (.putfield 30, 3) := by decide +kernel
theorem dX5_init_45 : decode cX5_init 45 = .ok (.aload_n 0, 1) := by decide +kernel
theorem dX5_init_46 : decode cX5_init 46 = .ok (.iconst 2, 1) := by decide +kernel
theorem dX5_init_47 : decode cX5_init 47 = .ok (.newarray .boolean, 2) := by decide +kernel
theorem dX5_init_49 : decode cX5_init 49 = .ok (.putfield 34, 3) := by decide +kernel
theorem dX5_init_52 : decode cX5_init 52 = .ok (.aload_n 0, 1) := by decide +kernel
theorem dX5_init_53 : decode cX5_init 53 = .ok (.new 7, 3) := by decide +kernel
theorem dX5_init_56 : decode cX5_init 56 = .ok (.dup, 1) := by decide +kernel
theorem dX5_init_57 : decode cX5_init 57 = .ok (.invokespecial 9, 3) := by decide +kernel
theorem dX5_init_60 : decode cX5_init 60 = .ok (.putfield 38, 3) := by decide +kernel
theorem dX5_init_63 : decode cX5_init 63 = .ok (.aload_n 0, 1) := by decide +kernel
theorem dX5_init_64 : decode cX5_init 64 = .ok (.new 7, 3) := by decide +kernel
theorem dX5_init_67 : decode cX5_init 67 = .ok (.dup, 1) := by decide +kernel
theorem dX5_init_68 : decode cX5_init 68 = .ok (.invokespecial 9, 3) := by decide +kernel
theorem dX5_init_71 : decode cX5_init 71 = .ok (.putfield 41, 3) := by decide +kernel
theorem dX5_init_74 : decode cX5_init 74 = .ok (.iconst 0, 1) := by decide +kernel
theorem dX5_init_75 : decode cX5_init 75 = .ok (.istore_n 1, 1) := by decide +kernel
theorem dX5_init_76 : decode cX5_init 76 = .ok (.iload_n 1, 1) := by decide +kernel
theorem dX5_init_77 : decode cX5_init 77 = .ok (.iconst 2, 1) := by decide +kernel
theorem dX5_init_78 : decode cX5_init 78 = .ok (.if_icmp .ge 22, 3) := by decide +kernel
theorem dX5_init_81 : decode cX5_init 81 = .ok (.aload_n 0, 1) := by decide +kernel
theorem dX5_init_82 : decode cX5_init 82 = .ok (.getfield 30, 3) := by decide +kernel
theorem dX5_init_85 : decode cX5_init 85 = .ok (.iload_n 1, 1) := by decide +kernel
theorem dX5_init_86 : decode cX5_init 86 = .ok (.new 7, 3) := by decide +kernel
theorem dX5_init_89 : decode cX5_init 89 = .ok (.dup, 1) := by decide +kernel
theorem dX5_init_90 : decode cX5_init 90 = .ok (.invokespecial 9, 3) := by decide +kernel
theorem dX5_init_93 : decode cX5_init 93 = .ok (.aastore, 1) := by decide +kernel
theorem dX5_init_94 : decode cX5_init 94 = .ok (.iinc 1 1, 3) := by decide +kernel
theorem dX5_init_97 : decode cX5_init 97 = .ok (.goto (-21), 3) := by decide +kernel
theorem dX5_init_100 : decode cX5_init 100 = .ok (.return_, 1) := by decide +kernel
theorem dX5_set_0 : decode cX5_set 0 = .ok (.aload_n 0, 1) := by decide +kernel
theorem dX5_set_1 : decode cX5_set 1 = .ok (.getfield 38, 3) := by decide +kernel
theorem dX5_set_4 : decode cX5_set 4 = .ok (.aload_n 0, 1) := by decide +kernel
theorem dX5_set_5 : decode cX5_set 5 = .ok (.getfield 10, 3) := by decide +kernel
theorem dX5_set_8 : decode cX5_set 8 = .ok (.invokevirtual 44, 3) := by decide +kernel
theorem dX5_set_11 : decode cX5_set 11 = .ok (.aload_n 0, 1) := by decide +kernel
theorem dX5_set_12 : decode cX5_set 12 = .ok (.aload_n 0, 1) := by decide +kernel
theorem dX5_set_13 : decode cX5_set 13 = .ok (.getfield 10, 3) := by decide +kernel
theorem dX5_set_16 : decode cX5_set 16 = .ok (.iload_n 1, 1) := by decide +kernel
theorem dX5_set_17 : decode cX5_set 17 = .ok (.iload_n 2, 1) := by decide +kernel
theorem dX5_set_18 : decode cX5_set 18 = .ok (.invokevirtual 48, 3) := by decide +kernel
theorem dX5_set_21 : decode cX5_set 21 = .ok (.invokevirtual 52, 3) := by decide +kernel
theorem dX5_set_24 : decode cX5_set 24 = .ok (.ireturn, 1) := by decide +kernel
theorem dX5_paddle_0 : decode cX5_paddle 0 = .ok (.aload_n 0, 1) := by decide +kernel
theorem dX5_paddle_1 : decode cX5_paddle 1 = .ok (.getfield 38, 3) := by decide +kernel
theorem dX5_paddle_4 : decode cX5_paddle 4 = .ok (.aload_n 0, 1) := by decide +kernel
theorem dX5_paddle_5 : decode cX5_paddle 5 = .ok (.getfield 10, 3) := by decide +kernel
theorem dX5_paddle_8 : decode cX5_paddle 8 = .ok (.invokevirtual 44, 3) := by decide +kernel
theorem dX5_paddle_11 : decode cX5_paddle 11 = .ok (.aload_n 0, 1) := by decide +kernel
theorem dX5_paddle_12 : decode cX5_paddle 12 = .ok (.aload_n 0, 1) := by decide +kernel
theorem dX5_paddle_13 : decode cX5_paddle 13 = .ok (.getfield 10, 3) := by decide +kernel
theorem dX5_paddle_16 : decode cX5_paddle 16 = .ok (.iload_n 1, 1) := by decide +kernel
theorem dX5_paddle_17 : decode cX5_paddle 17 = .ok (.iload_n 2, 1) := by decide +kernel
theorem dX5_paddle_18 : decode cX5_paddle 18 = .ok (.iload_n 3, 1) := by decide +kernel
theorem dX5_paddle_19 : decode cX5_paddle 19 = .ok (.iload 4, 2) := by decide +kernel
theorem dX5_paddle_21 : decode cX5_paddle 21 = .ok (.iload 5, 2) := by decide +kernel
theorem dX5_paddle_23 : decode cX5_paddle 23 = .ok (.invokevirtual 56, 3) := by decide +kernel
theorem dX5_paddle_26 : decode cX5_paddle 26 = .ok (.invokevirtual 52, 3) := by decide +kernel
theorem dX5_paddle_29 : decode cX5_paddle 29 = .ok (.ireturn, 1) := by decide +kernel
theorem dX5_lift_0 : decode cX5_lift 0 = .ok (.aload_n 0, 1) := by decide +kernel
theorem dX5_lift_1 : decode cX5_lift 1 = .ok (.getfield 38, 3) := by decide +kernel
theorem dX5_lift_4 : decode cX5_lift 4 = .ok (.aload_n 0, 1) := by decide +kernel
theorem dX5_lift_5 : decode cX5_lift 5 = .ok (.getfield 10, 3) := by decide +kernel
theorem dX5_lift_8 : decode cX5_lift 8 = .ok (.invokevirtual 44, 3) := by decide +kernel
theorem dX5_lift_11 : decode cX5_lift 11 = .ok (.aload_n 0, 1) := by decide +kernel
theorem dX5_lift_12 : decode cX5_lift 12 = .ok (.aload_n 0, 1) := by decide +kernel
theorem dX5_lift_13 : decode cX5_lift 13 = .ok (.getfield 10, 3) := by decide +kernel
theorem dX5_lift_16 : decode cX5_lift 16 = .ok (.iload_n 1, 1) := by decide +kernel
theorem dX5_lift_17 : decode cX5_lift 17 = .ok (.invokevirtual 60, 3) := by decide +kernel
theorem dX5_lift_20 : decode cX5_lift 20 = .ok (.invokevirtual 52, 3) := by decide +kernel
theorem dX5_lift_23 : decode cX5_lift 23 = .ok (.ireturn, 1) := by decide +kernel
theorem dX5_again_0 : decode cX5_again 0 = .ok (.aload_n 0, 1) := by decide +kernel
theorem dX5_again_1 : decode cX5_again 1 = .ok (.getfield 38, 3) := by decide +kernel
theorem dX5_again_4 : decode cX5_again 4 = .ok (.aload_n 0, 1) := by decide +kernel
theorem dX5_again_5 : decode cX5_again 5 = .ok (.getfield 10, 3) := by decide +kernel
theorem dX5_again_8 : decode cX5_again 8 = .ok (.invokevirtual 44, 3) := by decide +kernel
theorem dX5_again_11 : decode cX5_again 11 = .ok (.aload_n 0, 1) := by decide +kernel
theorem dX5_again_12 : decode cX5_again 12 = .ok (.aload_n 0, 1) := by decide +kernel
theorem dX5_again_13 : decode cX5_again 13 = .ok (.getfield 10, 3) := by decide +kernel
theorem dX5_again_16 : decode cX5_again 16 = .ok (.iload_n 1, 1) := by decide +kernel
theorem dX5_again_17 : decode cX5_again 17 = .ok (.invokevirtual 63, 3) := by decide +kernel
theorem dX5_again_20 : decode cX5_again 20 = .ok (.invokevirtual 52, 3) := by decide +kernel
theorem dX5_again_23 : decode cX5_again 23 = .ok (.ireturn, 1) := by decide +kernel
theorem dX5_gauge_0 : decode cX5_gauge 0 = .ok (.aload_n 0, 1) := by decide +kernel
theorem dX5_gauge_1 : decode cX5_gauge 1 = .ok (.getfield 38, 3) := by decide +kernel
theorem dX5_gauge_4 : decode cX5_gauge 4 = .ok (.aload_n 0, 1) := by decide +kernel
theorem dX5_gauge_5 : decode cX5_gauge 5 = .ok (.getfield 10, 3) := by decide +kernel
theorem dX5_gauge_8 : decode cX5_gauge 8 = .ok (.invokevirtual 44, 3) := by decide +kernel
theorem dX5_gauge_11 : decode cX5_gauge 11 = .ok (.aload_n 0, 1) := by decide +kernel
theorem dX5_gauge_12 : decode cX5_gauge 12 = .ok (.aload_n 0, 1) := by decide +kernel
theorem dX5_gauge_13 : decode cX5_gauge 13 = .ok (.getfield 10, 3) := by decide +kernel
theorem dX5_gauge_16 : decode cX5_gauge 16 = .ok (.iload_n 1, 1) := by decide +kernel
theorem dX5_gauge_17 : decode cX5_gauge 17 = .ok (.invokevirtual 66, 3) := by decide +kernel
theorem dX5_gauge_20 : decode cX5_gauge 20 = .ok (.invokevirtual 52, 3) := by decide +kernel
theorem dX5_gauge_23 : decode cX5_gauge 23 = .ok (.ireturn, 1) := by decide +kernel
theorem dX5_level_0 : decode cX5_level 0 = .ok (.aload_n 0, 1) := by decide +kernel
theorem dX5_level_1 : decode cX5_level 1 = .ok (.getfield 38, 3) := by decide +kernel
theorem dX5_level_4 : decode cX5_level 4 = .ok (.aload_n 0, 1) := by decide +kernel
theorem dX5_level_5 : decode cX5_level 5 = .ok (.getfield 10, 3) := by decide +kernel
theorem dX5_level_8 : decode cX5_level 8 = .ok (.invokevirtual 44, 3) := by decide +kernel
theorem dX5_level_11 : decode cX5_level 11 = .ok (.aload_n 0, 1) := by decide +kernel
theorem dX5_level_12 : decode cX5_level 12 = .ok (.aload_n 0, 1) := by decide +kernel
theorem dX5_level_13 : decode cX5_level 13 = .ok (.getfield 10, 3) := by decide +kernel
theorem dX5_level_16 : decode cX5_level 16 = .ok (.iload_n 1, 1) := by decide +kernel
theorem dX5_level_17 : decode cX5_level 17 = .ok (.iload_n 2, 1) := by decide +kernel
theorem dX5_level_18 : decode cX5_level 18 = .ok (.invokevirtual 69, 3) := by decide +kernel
theorem dX5_level_21 : decode cX5_level 21 = .ok (.invokevirtual 52, 3) := by decide +kernel
theorem dX5_level_24 : decode cX5_level 24 = .ok (.ireturn, 1) := by decide +kernel
theorem dX5_pass_0 : decode cX5_pass 0 = .ok (.aload_n 0, 1) := by decide +kernel
theorem dX5_pass_1 : decode cX5_pass 1 = .ok (.getfield 38, 3) := by decide +kernel
theorem dX5_pass_4 : decode cX5_pass 4 = .ok (.aload_n 0, 1) := by decide +kernel
theorem dX5_pass_5 : decode cX5_pass 5 = .ok (.getfield 10, 3) := by decide +kernel
theorem dX5_pass_8 : decode cX5_pass 8 = .ok (.invokevirtual 44, 3) := by decide +kernel
theorem dX5_pass_11 : decode cX5_pass 11 = .ok (.aload_n 0, 1) := by decide +kernel
theorem dX5_pass_12 : decode cX5_pass 12 = .ok (.aload_n 0, 1) := by decide +kernel
theorem dX5_pass_13 : decode cX5_pass 13 = .ok (.getfield 10, 3) := by decide +kernel
theorem dX5_pass_16 : decode cX5_pass 16 = .ok (.iload_n 1, 1) := by decide +kernel
theorem dX5_pass_17 : decode cX5_pass 17 = .ok (.invokevirtual 72, 3) := by decide +kernel
theorem dX5_pass_20 : decode cX5_pass 20 = .ok (.invokevirtual 52, 3) := by decide +kernel
theorem dX5_pass_23 : decode cX5_pass 23 = .ok (.ireturn, 1) := by decide +kernel
theorem dX5_recorded_0 : decode cX5_recorded 0 = .ok (.iload_n 1, 1) := by decide +kernel
theorem dX5_recorded_1 : decode cX5_recorded 1 = .ok (.ifCond .lt 14, 3) := by decide +kernel
theorem dX5_recorded_4 : decode cX5_recorded 4 = .ok (.aload_n 0, 1) := by decide +kernel
theorem dX5_recorded_5 : decode cX5_recorded 5 = .ok (.getfield 26, 3) := by decide +kernel
theorem dX5_recorded_8 : decode cX5_recorded 8 = .ok (.aload_n 0, 1) := by decide +kernel
theorem dX5_recorded_9 : decode cX5_recorded 9 = .ok (.getfield 38, 3) := by decide +kernel
theorem dX5_recorded_12 : decode cX5_recorded 12 = .ok (.invokevirtual 75, 3) := by decide +kernel
theorem dX5_recorded_15 : decode cX5_recorded 15 = .ok (.iload_n 1, 1) := by decide +kernel
theorem dX5_recorded_16 : decode cX5_recorded 16 = .ok (.ireturn, 1) := by decide +kernel
theorem dX5_cell_0 : decode cX5_cell 0 = .ok (.iload_n 1, 1) := by decide +kernel
theorem dX5_cell_1 : decode cX5_cell 1 = .ok (.bipush 40, 2) := by decide +kernel
theorem dX5_cell_3 : decode cX5_cell 3 = .ok (.invokestatic 78, 3) := by decide +kernel
theorem dX5_cell_6 : decode cX5_cell 6 = .ok (.ifCond .eq 5, 3) := by decide +kernel
theorem dX5_cell_9 : decode cX5_cell 9 = .ok (.iconst (-1), 1) := by decide +kernel
theorem dX5_cell_10 : decode cX5_cell 10 = .ok (.ireturn, 1) := by decide +kernel
theorem dX5_cell_11 : decode cX5_cell 11 = .ok (.iload_n 2, 1) := by decide +kernel
theorem dX5_cell_12 : decode cX5_cell 12 = .ok (.tableswitch 84 0 3 #[32, 46, 60, 72], 32) := by decide +kernel
theorem dX5_cell_44 : decode cX5_cell 44 = .ok (.aload_n 0, 1) := by decide +kernel
theorem dX5_cell_45 : decode cX5_cell 45 = .ok (.getfield 10, 3) := by decide +kernel
theorem dX5_cell_48 : decode cX5_cell 48 = .ok (.getfield 82, 3) := by decide +kernel
theorem dX5_cell_51 : decode cX5_cell 51 = .ok (.iload_n 1, 1) := by decide +kernel
theorem dX5_cell_52 : decode cX5_cell 52 = .ok (.iaload, 1) := by decide +kernel
theorem dX5_cell_53 : decode cX5_cell 53 = .ok (.sipush 10000, 3) := by decide +kernel
theorem dX5_cell_56 : decode cX5_cell 56 = .ok (.iadd, 1) := by decide +kernel
theorem dX5_cell_57 : decode cX5_cell 57 = .ok (.ireturn, 1) := by decide +kernel
theorem dX5_cell_58 : decode cX5_cell 58 = .ok (.aload_n 0, 1) := by decide +kernel
theorem dX5_cell_59 : decode cX5_cell 59 = .ok (.getfield 10, 3) := by decide +kernel
theorem dX5_cell_62 : decode cX5_cell 62 = .ok (.getfield 86, 3) := by decide +kernel
theorem dX5_cell_65 : decode cX5_cell 65 = .ok (.iload_n 1, 1) := by decide +kernel
theorem dX5_cell_66 : decode cX5_cell 66 = .ok (.iaload, 1) := by decide +kernel
theorem dX5_cell_67 : decode cX5_cell 67 = .ok (.sipush 10000, 3) := by decide +kernel
theorem dX5_cell_70 : decode cX5_cell 70 = .ok (.iadd, 1) := by decide +kernel
theorem dX5_cell_71 : decode cX5_cell 71 = .ok (.ireturn, 1) := by decide +kernel
theorem dX5_cell_72 : decode cX5_cell 72 = .ok (.aload_n 0, 1) := by decide +kernel
theorem dX5_cell_73 : decode cX5_cell 73 = .ok (.getfield 10, 3) := by decide +kernel
theorem dX5_cell_76 : decode cX5_cell 76 = .ok (.iload_n 1, 1) := by decide +kernel
theorem dX5_cell_77 : decode cX5_cell 77 = .ok (.invokevirtual 89, 3) := by decide +kernel
theorem dX5_cell_80 : decode cX5_cell 80 = .ok (.invokestatic 93, 3) := by decide +kernel
theorem dX5_cell_83 : decode cX5_cell 83 = .ok (.ireturn, 1) := by decide +kernel
theorem dX5_cell_84 : decode cX5_cell 84 = .ok (.aload_n 0, 1) := by decide +kernel
theorem dX5_cell_85 : decode cX5_cell 85 = .ok (.getfield 10, 3) := by decide +kernel
theorem dX5_cell_88 : decode cX5_cell 88 = .ok (.iload_n 1, 1) := by decide +kernel
theorem dX5_cell_89 : decode cX5_cell 89 = .ok (.invokevirtual 97, 3) := by decide +kernel
theorem dX5_cell_92 : decode cX5_cell 92 = .ok (.invokestatic 93, 3) := by decide +kernel
theorem dX5_cell_95 : decode cX5_cell 95 = .ok (.ireturn, 1) := by decide +kernel
theorem dX5_cell_96 : decode cX5_cell 96 = .ok (.bipush (-2), 2) := by decide +kernel
theorem dX5_cell_98 : decode cX5_cell 98 = .ok (.ireturn, 1) := by decide +kernel
theorem dX5_ofPaddle_0 : decode cX5_ofPaddle 0 = .ok (.iload_n 1, 1) := by decide +kernel
theorem dX5_ofPaddle_1 : decode cX5_ofPaddle 1 = .ok (.aload_n 0, 1) := by decide +kernel
theorem dX5_ofPaddle_2 : decode cX5_ofPaddle 2 = .ok (.getfield 10, 3) := by decide +kernel
theorem dX5_ofPaddle_5 : decode cX5_ofPaddle 5 = .ok (.getfield 100, 3) := by decide +kernel
theorem dX5_ofPaddle_8 : decode cX5_ofPaddle 8 = .ok (.invokestatic 78, 3) := by decide +kernel
theorem dX5_ofPaddle_11 : decode cX5_ofPaddle 11 = .ok (.ifCond .eq 5, 3) := by decide +kernel
theorem dX5_ofPaddle_14 : decode cX5_ofPaddle 14 = .ok (.iconst (-1), 1) := by decide +kernel
theorem dX5_ofPaddle_15 : decode cX5_ofPaddle 15 = .ok (.ireturn, 1) := by decide +kernel
theorem dX5_ofPaddle_16 : decode cX5_ofPaddle 16 = .ok (.aload_n 0, 1) := by decide +kernel
theorem dX5_ofPaddle_17 : decode cX5_ofPaddle 17 = .ok (.getfield 10, 3) := by decide +kernel
theorem dX5_ofPaddle_20 : decode cX5_ofPaddle 20 = .ok (.getfield 104, 3) := by decide +kernel
theorem dX5_ofPaddle_23 : decode cX5_ofPaddle 23 = .ok (.iload_n 1, 1) := by decide +kernel
theorem dX5_ofPaddle_24 : decode cX5_ofPaddle 24 = .ok (.aaload, 1) := by decide +kernel
theorem dX5_ofPaddle_25 : decode cX5_ofPaddle 25 = .ok (.astore_n 3, 1) := by decide +kernel
theorem dX5_ofPaddle_26 : decode cX5_ofPaddle 26 = .ok (.iload_n 2, 1) := by decide +kernel
theorem dX5_ofPaddle_27 : decode cX5_ofPaddle 27 = .ok (.tableswitch 94 0 6 #[41, 46, 51, 60, 65, 70, 78], 41) := by decide +kernel
theorem dX5_ofPaddle_68 : decode cX5_ofPaddle 68 = .ok (.aload_n 3, 1) := by decide +kernel
theorem dX5_ofPaddle_69 : decode cX5_ofPaddle 69 = .ok (.getfield 108, 3) := by decide +kernel
theorem dX5_ofPaddle_72 : decode cX5_ofPaddle 72 = .ok (.ireturn, 1) := by decide +kernel
theorem dX5_ofPaddle_73 : decode cX5_ofPaddle 73 = .ok (.aload_n 3, 1) := by decide +kernel
theorem dX5_ofPaddle_74 : decode cX5_ofPaddle 74 = .ok (.getfield 113, 3) := by decide +kernel
theorem dX5_ofPaddle_77 : decode cX5_ofPaddle 77 = .ok (.ireturn, 1) := by decide +kernel
theorem dX5_ofPaddle_78 : decode cX5_ofPaddle 78 = .ok (.aload_n 3, 1) := by decide +kernel
theorem dX5_ofPaddle_79 : decode cX5_ofPaddle 79 = .ok (.getfield 116, 3) := by decide +kernel
theorem dX5_ofPaddle_82 : decode cX5_ofPaddle 82 = .ok (.sipush 1000, 3) := by decide +kernel
theorem dX5_ofPaddle_85 : decode cX5_ofPaddle 85 = .ok (.iadd, 1) := by decide +kernel
theorem dX5_ofPaddle_86 : decode cX5_ofPaddle 86 = .ok (.ireturn, 1) := by decide +kernel
theorem dX5_ofPaddle_87 : decode cX5_ofPaddle 87 = .ok (.aload_n 3, 1) := by decide +kernel
theorem dX5_ofPaddle_88 : decode cX5_ofPaddle 88 = .ok (.getfield 119, 3) := by decide +kernel
theorem dX5_ofPaddle_91 : decode cX5_ofPaddle 91 = .ok (.ireturn, 1) := by decide +kernel
theorem dX5_ofPaddle_92 : decode cX5_ofPaddle 92 = .ok (.aload_n 3, 1) := by decide +kernel
theorem dX5_ofPaddle_93 : decode cX5_ofPaddle 93 = .ok (.getfield 122, 3) := by decide +kernel
theorem dX5_ofPaddle_96 : decode cX5_ofPaddle 96 = .ok (.ireturn, 1) := by decide +kernel
theorem dX5_ofPaddle_97 : decode cX5_ofPaddle 97 = .ok (.aload_n 3, 1) := by decide +kernel
theorem dX5_ofPaddle_98 : decode cX5_ofPaddle 98 = .ok (.getfield 125, 3) := by decide +kernel
theorem dX5_ofPaddle_101 : decode cX5_ofPaddle 101 = .ok (.invokestatic 93, 3) := by decide +kernel
theorem dX5_ofPaddle_104 : decode cX5_ofPaddle 104 = .ok (.ireturn, 1) := by decide +kernel
theorem dX5_ofPaddle_105 : decode cX5_ofPaddle 105 = .ok (.aload_n 3, 1) := by decide +kernel
theorem dX5_ofPaddle_106 : decode cX5_ofPaddle 106 = .ok (.aload_n 0, 1) := by decide +kernel
theorem dX5_ofPaddle_107 : decode cX5_ofPaddle 107 = .ok (.getfield 10, 3) := by decide +kernel
theorem dX5_ofPaddle_110 : decode cX5_ofPaddle 110 = .ok (.getfield 129, 3) := by decide +kernel
theorem dX5_ofPaddle_113 : decode cX5_ofPaddle 113 = .ok (.invokevirtual 132, 3) := by decide +kernel
theorem dX5_ofPaddle_116 : decode cX5_ofPaddle 116 = .ok (.sipush 1000, 3) := by decide +kernel
theorem dX5_ofPaddle_119 : decode cX5_ofPaddle 119 = .ok (.iadd, 1) := by decide +kernel
theorem dX5_ofPaddle_120 : decode cX5_ofPaddle 120 = .ok (.ireturn, 1) := by decide +kernel
theorem dX5_ofPaddle_121 : decode cX5_ofPaddle 121 = .ok (.bipush (-2), 2) := by decide +kernel
theorem dX5_ofPaddle_123 : decode cX5_ofPaddle 123 = .ok (.ireturn, 1) := by decide +kernel
theorem dX5_ofGauge_0 : decode cX5_ofGauge 0 = .ok (.iload_n 1, 1) := by decide +kernel
theorem dX5_ofGauge_1 : decode cX5_ofGauge 1 = .ok (.aload_n 0, 1) := by decide +kernel
theorem dX5_ofGauge_2 : decode cX5_ofGauge 2 = .ok (.getfield 10, 3) := by decide +kernel
theorem dX5_ofGauge_5 : decode cX5_ofGauge 5 = .ok (.getfield 135, 3) := by decide +kernel
theorem dX5_ofGauge_8 : decode cX5_ofGauge 8 = .ok (.invokestatic 78, 3) := by decide +kernel
theorem dX5_ofGauge_11 : decode cX5_ofGauge 11 = .ok (.ifCond .eq 5, 3) := by decide +kernel
theorem dX5_ofGauge_14 : decode cX5_ofGauge 14 = .ok (.iconst (-1), 1) := by decide +kernel
theorem dX5_ofGauge_15 : decode cX5_ofGauge 15 = .ok (.ireturn, 1) := by decide +kernel
theorem dX5_ofGauge_16 : decode cX5_ofGauge 16 = .ok (.aload_n 0, 1) := by decide +kernel
theorem dX5_ofGauge_17 : decode cX5_ofGauge 17 = .ok (.getfield 10, 3) := by decide +kernel
theorem dX5_ofGauge_20 : decode cX5_ofGauge 20 = .ok (.getfield 138, 3) := by decide +kernel
theorem dX5_ofGauge_23 : decode cX5_ofGauge 23 = .ok (.iload_n 1, 1) := by decide +kernel
theorem dX5_ofGauge_24 : decode cX5_ofGauge 24 = .ok (.aaload, 1) := by decide +kernel
theorem dX5_ofGauge_25 : decode cX5_ofGauge 25 = .ok (.astore_n 3, 1) := by decide +kernel
theorem dX5_ofGauge_26 : decode cX5_ofGauge 26 = .ok (.iload_n 2, 1) := by decide +kernel
theorem dX5_ofGauge_27 : decode cX5_ofGauge 27 = .ok (.tableswitch 90 0 4 #[33, 38, 43, 64, 85], 33) := by decide +kernel
theorem dX5_ofGauge_60 : decode cX5_ofGauge 60 = .ok (.aload_n 3, 1) := by decide +kernel
theorem dX5_ofGauge_61 : decode cX5_ofGauge 61 = .ok (.getfield 142, 3) := by decide +kernel
theorem dX5_ofGauge_64 : decode cX5_ofGauge 64 = .ok (.ireturn, 1) := by decide +kernel
theorem dX5_ofGauge_65 : decode cX5_ofGauge 65 = .ok (.aload_n 3, 1) := by decide +kernel
theorem dX5_ofGauge_66 : decode cX5_ofGauge 66 = .ok (.getfield 145, 3) := by decide +kernel
theorem dX5_ofGauge_69 : decode cX5_ofGauge 69 = .ok (.ireturn, 1) := by decide +kernel
theorem dX5_ofGauge_70 : decode cX5_ofGauge 70 = .ok (.aload_n 3, 1) := by decide +kernel
theorem dX5_ofGauge_71 : decode cX5_ofGauge 71 = .ok (.getfield 145, 3) := by decide +kernel
theorem dX5_ofGauge_74 : decode cX5_ofGauge 74 = .ok (.ifCond .ne 8, 3) := by decide +kernel
theorem dX5_ofGauge_77 : decode cX5_ofGauge 77 = .ok (.bipush (-6), 2) := by decide +kernel
theorem dX5_ofGauge_79 : decode cX5_ofGauge 79 = .ok (.goto 11, 3) := by decide +kernel
theorem dX5_ofGauge_82 : decode cX5_ofGauge 82 = .ok (.aload_n 3, 1) := by decide +kernel
theorem dX5_ofGauge_83 : decode cX5_ofGauge 83 = .ok (.invokevirtual 148, 3) := by decide +kernel
theorem dX5_ofGauge_86 : decode cX5_ofGauge 86 = .ok (.sipush 10000, 3) := by decide +kernel
theorem dX5_ofGauge_89 : decode cX5_ofGauge 89 = .ok (.iadd, 1) := by decide +kernel
theorem dX5_ofGauge_90 : decode cX5_ofGauge 90 = .ok (.ireturn, 1) := by decide +kernel
theorem dX5_ofGauge_91 : decode cX5_ofGauge 91 = .ok (.aload_n 3, 1) := by decide +kernel
theorem dX5_ofGauge_92 : decode cX5_ofGauge 92 = .ok (.getfield 145, 3) := by decide +kernel
theorem dX5_ofGauge_95 : decode cX5_ofGauge 95 = .ok (.ifCond .ne 8, 3) := by decide +kernel
theorem dX5_ofGauge_98 : decode cX5_ofGauge 98 = .ok (.bipush (-6), 2) := by decide +kernel
theorem dX5_ofGauge_100 : decode cX5_ofGauge 100 = .ok (.goto 11, 3) := by decide +kernel
theorem dX5_ofGauge_103 : decode cX5_ofGauge 103 = .ok (.aload_n 3, 1) := by decide +kernel
theorem dX5_ofGauge_104 : decode cX5_ofGauge 104 = .ok (.invokevirtual 152, 3) := by decide +kernel
theorem dX5_ofGauge_107 : decode cX5_ofGauge 107 = .ok (.sipush 10000, 3) := by decide +kernel
theorem dX5_ofGauge_110 : decode cX5_ofGauge 110 = .ok (.iadd, 1) := by decide +kernel
theorem dX5_ofGauge_111 : decode cX5_ofGauge 111 = .ok (.ireturn, 1) := by decide +kernel
theorem dX5_ofGauge_112 : decode cX5_ofGauge 112 = .ok (.aload_n 3, 1) := by decide +kernel
theorem dX5_ofGauge_113 : decode cX5_ofGauge 113 = .ok (.invokevirtual 155, 3) := by decide +kernel
theorem dX5_ofGauge_116 : decode cX5_ofGauge 116 = .ok (.ireturn, 1) := by decide +kernel
theorem dX5_ofGauge_117 : decode cX5_ofGauge 117 = .ok (.bipush (-2), 2) := by decide +kernel
theorem dX5_ofGauge_119 : decode cX5_ofGauge 119 = .ok (.ireturn, 1) := by decide +kernel
theorem dX5_noted_0 : decode cX5_noted 0 = .ok (.iload_n 1, 1) := by decide +kernel
theorem dX5_noted_1 : decode cX5_noted 1 = .ok (.aload_n 0, 1) := by decide +kernel
theorem dX5_noted_2 : decode cX5_noted 2 = .ok (.getfield 10, 3) := by decide +kernel
theorem dX5_noted_5 : decode cX5_noted 5 = .ok (.getfield 135, 3) := by decide +kernel
theorem dX5_noted_8 : decode cX5_noted 8 = .ok (.invokestatic 78, 3) := by decide +kernel
theorem dX5_noted_11 : decode cX5_noted 11 = .ok (.ifCond .eq 5, 3) := by decide +kernel
theorem dX5_noted_14 : decode cX5_noted 14 = .ok (.iconst (-1), 1) := by decide +kernel
theorem dX5_noted_15 : decode cX5_noted 15 = .ok (.ireturn, 1) := by decide +kernel
theorem dX5_noted_16 : decode cX5_noted 16 = .ok (.aload_n 0, 1) := by decide +kernel
theorem dX5_noted_17 : decode cX5_noted 17 = .ok (.getfield 10, 3) := by decide +kernel
theorem dX5_noted_20 : decode cX5_noted 20 = .ok (.getfield 138, 3) := by decide +kernel
theorem dX5_noted_23 : decode cX5_noted 23 = .ok (.iload_n 1, 1) := by decide +kernel
theorem dX5_noted_24 : decode cX5_noted 24 = .ok (.aaload, 1) := by decide +kernel
theorem dX5_noted_25 : decode cX5_noted 25 = .ok (.astore_n 3, 1) := by decide +kernel
theorem dX5_noted_26 : decode cX5_noted 26 = .ok (.iload_n 2, 1) := by decide +kernel
theorem dX5_noted_27 : decode cX5_noted 27 = .ok (.aload_n 3, 1) := by decide +kernel
theorem dX5_noted_28 : decode cX5_noted 28 = .ok (.getfield 145, 3) := by decide +kernel
theorem dX5_noted_31 : decode cX5_noted 31 = .ok (.invokestatic 78, 3) := by decide +kernel
theorem dX5_noted_34 : decode cX5_noted 34 = .ok (.ifCond .eq 5, 3) := by decide +kernel
theorem dX5_noted_37 : decode cX5_noted 37 = .ok (.iconst (-1), 1) := by decide +kernel
theorem dX5_noted_38 : decode cX5_noted 38 = .ok (.ireturn, 1) := by decide +kernel
theorem dX5_noted_39 : decode cX5_noted 39 = .ok (.aload_n 3, 1) := by decide +kernel
theorem dX5_noted_40 : decode cX5_noted 40 = .ok (.iload_n 2, 1) := by decide +kernel
theorem dX5_noted_41 : decode cX5_noted 41 = .ok (.invokevirtual 158, 3) := by decide +kernel
theorem dX5_noted_44 : decode cX5_noted 44 = .ok (.sipush 10000, 3) := by decide +kernel
theorem dX5_noted_47 : decode cX5_noted 47 = .ok (.iadd, 1) := by decide +kernel
theorem dX5_noted_48 : decode cX5_noted 48 = .ok (.ireturn, 1) := by decide +kernel
theorem dX5_places_0 : decode cX5_places 0 = .ok (.iload_n 1, 1) := by decide +kernel
theorem dX5_places_1 : decode cX5_places 1 = .ok (.iconst 5, 1) := by decide +kernel
theorem dX5_places_2 : decode cX5_places 2 = .ok (.invokestatic 78, 3) := by decide +kernel
theorem dX5_places_5 : decode cX5_places 5 = .ok (.ifCond .eq 9, 3) := by decide +kernel
theorem dX5_places_8 : decode cX5_places 8 = .ok (.ldc2_w 161, 3) := by decide +kernel
theorem dX5_places_11 : decode cX5_places 11 = .ok (.goto 11, 3) := by decide +kernel
theorem dX5_places_14 : decode cX5_places 14 = .ok (.aload_n 0, 1) := by decide +kernel
theorem dX5_places_15 : decode cX5_places 15 = .ok (.getfield 10, 3) := by decide +kernel
theorem dX5_places_18 : decode cX5_places 18 = .ok (.iload_n 1, 1) := by decide +kernel
theorem dX5_places_19 : decode cX5_places 19 = .ok (.invokevirtual 163, 3) := by decide +kernel
theorem dX5_places_22 : decode cX5_places 22 = .ok (.lreturn, 1) := by decide +kernel
theorem dX5_count_0 : decode cX5_count 0 = .ok (.iload_n 1, 1) := by decide +kernel
theorem dX5_count_1 : decode cX5_count 1 = .ok (.tableswitch 167 0 12 #[67, 75, 83, 95, 103, 114, 122, 130, 138, 138, 138, 151, 159], 67) := by decide +kernel
theorem dX5_count_68 : decode cX5_count 68 = .ok (.aload_n 0, 1) := by decide +kernel
theorem dX5_count_69 : decode cX5_count 69 = .ok (.getfield 10, 3) := by decide +kernel
theorem dX5_count_72 : decode cX5_count 72 = .ok (.getfield 129, 3) := by decide +kernel
theorem dX5_count_75 : decode cX5_count 75 = .ok (.ireturn, 1) := by decide +kernel
theorem dX5_count_76 : decode cX5_count 76 = .ok (.aload_n 0, 1) := by decide +kernel
theorem dX5_count_77 : decode cX5_count 77 = .ok (.getfield 10, 3) := by decide +kernel
theorem dX5_count_80 : decode cX5_count 80 = .ok (.getfield 100, 3) := by decide +kernel
theorem dX5_count_83 : decode cX5_count 83 = .ok (.ireturn, 1) := by decide +kernel
theorem dX5_count_84 : decode cX5_count 84 = .ok (.aload_n 0, 1) := by decide +kernel
theorem dX5_count_85 : decode cX5_count 85 = .ok (.getfield 10, 3) := by decide +kernel
theorem dX5_count_88 : decode cX5_count 88 = .ok (.iconst 4, 1) := by decide +kernel
theorem dX5_count_89 : decode cX5_count 89 = .ok (.invokevirtual 163, 3) := by decide +kernel
theorem dX5_count_92 : decode cX5_count 92 = .ok (.invokestatic 167, 3) := by decide +kernel
theorem dX5_count_95 : decode cX5_count 95 = .ok (.ireturn, 1) := by decide +kernel
theorem dX5_count_96 : decode cX5_count 96 = .ok (.aload_n 0, 1) := by decide +kernel
theorem dX5_count_97 : decode cX5_count 97 = .ok (.getfield 10, 3) := by decide +kernel
theorem dX5_count_100 : decode cX5_count 100 = .ok (.getfield 135, 3) := by decide +kernel
theorem dX5_count_103 : decode cX5_count 103 = .ok (.ireturn, 1) := by decide +kernel
theorem dX5_count_104 : decode cX5_count 104 = .ok (.aload_n 0, 1) := by decide +kernel
theorem dX5_count_105 : decode cX5_count 105 = .ok (.getfield 10, 3) := by decide +kernel
theorem dX5_count_108 : decode cX5_count 108 = .ok (.invokevirtual 173, 3) := by decide +kernel
theorem dX5_count_111 : decode cX5_count 111 = .ok (.ldc 176, 2) := by decide +kernel
theorem dX5_count_113 : decode cX5_count 113 = .ok (.iadd, 1) := by decide +kernel
theorem dX5_count_114 : decode cX5_count 114 = .ok (.ireturn, 1) := by decide +kernel
theorem dX5_count_115 : decode cX5_count 115 = .ok (.aload_n 0, 1) := by decide +kernel
theorem dX5_count_116 : decode cX5_count 116 = .ok (.getfield 10, 3) := by decide +kernel
theorem dX5_count_119 : decode cX5_count 119 = .ok (.invokevirtual 177, 3) := by decide +kernel
theorem dX5_count_122 : decode cX5_count 122 = .ok (.ireturn, 1) := by decide +kernel
theorem dX5_count_123 : decode cX5_count 123 = .ok (.aload_n 0, 1) := by decide +kernel
theorem dX5_count_124 : decode cX5_count 124 = .ok (.getfield 10, 3) := by decide +kernel
theorem dX5_count_127 : decode cX5_count 127 = .ok (.invokevirtual 180, 3) := by decide +kernel
theorem dX5_count_130 : decode cX5_count 130 = .ok (.ireturn, 1) := by decide +kernel
theorem dX5_count_131 : decode cX5_count 131 = .ok (.aload_n 0, 1) := by decide +kernel
theorem dX5_count_132 : decode cX5_count 132 = .ok (.getfield 10, 3) := by decide +kernel
theorem dX5_count_135 : decode cX5_count 135 = .ok (.invokevirtual 183, 3) := by decide +kernel
theorem dX5_count_138 : decode cX5_count 138 = .ok (.ireturn, 1) := by decide +kernel
theorem dX5_count_139 : decode cX5_count 139 = .ok (.aload_n 0, 1) := by decide +kernel
theorem dX5_count_140 : decode cX5_count 140 = .ok (.getfield 10, 3) := by decide +kernel
theorem dX5_count_143 : decode cX5_count 143 = .ok (.getfield 186, 3) := by decide +kernel
theorem dX5_count_146 : decode cX5_count 146 = .ok (.iload_n 1, 1) := by decide +kernel
theorem dX5_count_147 : decode cX5_count 147 = .ok (.bipush 8, 2) := by decide +kernel
theorem dX5_count_149 : decode cX5_count 149 = .ok (.isub, 1) := by decide +kernel
theorem dX5_count_150 : decode cX5_count 150 = .ok (.iaload, 1) := by decide +kernel
theorem dX5_count_151 : decode cX5_count 151 = .ok (.ireturn, 1) := by decide +kernel
theorem dX5_count_152 : decode cX5_count 152 = .ok (.aload_n 0, 1) := by decide +kernel
theorem dX5_count_153 : decode cX5_count 153 = .ok (.getfield 19, 3) := by decide +kernel
theorem dX5_count_156 : decode cX5_count 156 = .ok (.getfield 189, 3) := by decide +kernel
theorem dX5_count_159 : decode cX5_count 159 = .ok (.ireturn, 1) := by decide +kernel
theorem dX5_count_160 : decode cX5_count 160 = .ok (.aload_n 0, 1) := by decide +kernel
theorem dX5_count_161 : decode cX5_count 161 = .ok (.getfield 26, 3) := by decide +kernel
theorem dX5_count_164 : decode cX5_count 164 = .ok (.getfield 192, 3) := by decide +kernel
theorem dX5_count_167 : decode cX5_count 167 = .ok (.ireturn, 1) := by decide +kernel
theorem dX5_count_168 : decode cX5_count 168 = .ok (.bipush (-2), 2) := by decide +kernel
theorem dX5_count_170 : decode cX5_count 170 = .ok (.ireturn, 1) := by decide +kernel
theorem dX5_reaches_0 : decode cX5_reaches 0 = .ok (.iload_n 1, 1) := by decide +kernel
theorem dX5_reaches_1 : decode cX5_reaches 1 = .ok (.bipush 40, 2) := by decide +kernel
theorem dX5_reaches_3 : decode cX5_reaches 3 = .ok (.invokestatic 78, 3) := by decide +kernel
theorem dX5_reaches_6 : decode cX5_reaches 6 = .ok (.ifCond .eq 5, 3) := by decide +kernel
theorem dX5_reaches_9 : decode cX5_reaches 9 = .ok (.iconst (-1), 1) := by decide +kernel
theorem dX5_reaches_10 : decode cX5_reaches 10 = .ok (.ireturn, 1) := by decide +kernel
theorem dX5_reaches_11 : decode cX5_reaches 11 = .ok (.iload_n 2, 1) := by decide +kernel
theorem dX5_reaches_12 : decode cX5_reaches 12 = .ok (.iconst 1, 1) := by decide +kernel
theorem dX5_reaches_13 : decode cX5_reaches 13 = .ok (.if_icmp .lt 10, 3) := by decide +kernel
theorem dX5_reaches_16 : decode cX5_reaches 16 = .ok (.iload_n 2, 1) := by decide +kernel
theorem dX5_reaches_17 : decode cX5_reaches 17 = .ok (.sipush 9999, 3) := by decide +kernel
theorem dX5_reaches_20 : decode cX5_reaches 20 = .ok (.if_icmp .le 6, 3) := by decide +kernel
theorem dX5_reaches_23 : decode cX5_reaches 23 = .ok (.bipush (-2), 2) := by decide +kernel
theorem dX5_reaches_25 : decode cX5_reaches 25 = .ok (.ireturn, 1) := by decide +kernel
theorem dX5_reaches_26 : decode cX5_reaches 26 = .ok (.aload_n 0, 1) := by decide +kernel
theorem dX5_reaches_27 : decode cX5_reaches 27 = .ok (.getfield 41, 3) := by decide +kernel
theorem dX5_reaches_30 : decode cX5_reaches 30 = .ok (.aload_n 0, 1) := by decide +kernel
theorem dX5_reaches_31 : decode cX5_reaches 31 = .ok (.getfield 10, 3) := by decide +kernel
theorem dX5_reaches_34 : decode cX5_reaches 34 = .ok (.invokevirtual 44, 3) := by decide +kernel
theorem dX5_reaches_37 : decode cX5_reaches 37 = .ok (.iconst 0, 1) := by decide +kernel
theorem dX5_reaches_38 : decode cX5_reaches 38 = .ok (.istore_n 3, 1) := by decide +kernel
theorem dX5_reaches_39 : decode cX5_reaches 39 = .ok (.iload_n 3, 1) := by decide +kernel
theorem dX5_reaches_40 : decode cX5_reaches 40 = .ok (.sipush 500, 3) := by decide +kernel
theorem dX5_reaches_43 : decode cX5_reaches 43 = .ok (.if_icmp .gt 35, 3) := by decide +kernel
theorem dX5_reaches_46 : decode cX5_reaches 46 = .ok (.aload_n 0, 1) := by decide +kernel
theorem dX5_reaches_47 : decode cX5_reaches 47 = .ok (.getfield 41, 3) := by decide +kernel
theorem dX5_reaches_50 : decode cX5_reaches 50 = .ok (.getfield 82, 3) := by decide +kernel
theorem dX5_reaches_53 : decode cX5_reaches 53 = .ok (.iload_n 1, 1) := by decide +kernel
theorem dX5_reaches_54 : decode cX5_reaches 54 = .ok (.iaload, 1) := by decide +kernel
theorem dX5_reaches_55 : decode cX5_reaches 55 = .ok (.invokestatic 195, 3) := by decide +kernel
theorem dX5_reaches_58 : decode cX5_reaches 58 = .ok (.iload_n 2, 1) := by decide +kernel
theorem dX5_reaches_59 : decode cX5_reaches 59 = .ok (.if_icmp .lt 5, 3) := by decide +kernel
theorem dX5_reaches_62 : decode cX5_reaches 62 = .ok (.iload_n 3, 1) := by decide +kernel
theorem dX5_reaches_63 : decode cX5_reaches 63 = .ok (.ireturn, 1) := by decide +kernel
theorem dX5_reaches_64 : decode cX5_reaches 64 = .ok (.aload_n 0, 1) := by decide +kernel
theorem dX5_reaches_65 : decode cX5_reaches 65 = .ok (.getfield 41, 3) := by decide +kernel
theorem dX5_reaches_68 : decode cX5_reaches 68 = .ok (.invokevirtual 200, 3) := by decide +kernel
theorem dX5_reaches_71 : decode cX5_reaches 71 = .ok (.pop, 1) := by decide +kernel
theorem dX5_reaches_72 : decode cX5_reaches 72 = .ok (.iinc 3 1, 3) := by decide +kernel
theorem dX5_reaches_75 : decode cX5_reaches 75 = .ok (.goto (-36), 3) := by decide +kernel
theorem dX5_reaches_78 : decode cX5_reaches 78 = .ok (.bipush (-6), 2) := by decide +kernel
theorem dX5_reaches_80 : decode cX5_reaches 80 = .ok (.ireturn, 1) := by decide +kernel
theorem dX5_bestPeriod_0 : decode cX5_bestPeriod 0 = .ok (.iload_n 1, 1) := by decide +kernel
theorem dX5_bestPeriod_1 : decode cX5_bestPeriod 1 = .ok (.aload_n 0, 1) := by decide +kernel
theorem dX5_bestPeriod_2 : decode cX5_bestPeriod 2 = .ok (.getfield 10, 3) := by decide +kernel
theorem dX5_bestPeriod_5 : decode cX5_bestPeriod 5 = .ok (.getfield 100, 3) := by decide +kernel
theorem dX5_bestPeriod_8 : decode cX5_bestPeriod 8 = .ok (.invokestatic 78, 3) := by decide +kernel
theorem dX5_bestPeriod_11 : decode cX5_bestPeriod 11 = .ok (.ifCond .ne 12, 3) := by decide +kernel
theorem dX5_bestPeriod_14 : decode cX5_bestPeriod 14 = .ok (.iload_n 2, 1) := by decide +kernel
theorem dX5_bestPeriod_15 : decode cX5_bestPeriod 15 = .ok (.bipush 40, 2) := by decide +kernel
theorem dX5_bestPeriod_17 : decode cX5_bestPeriod 17 = .ok (.invokestatic 78, 3) := by decide +kernel
theorem dX5_bestPeriod_20 : decode cX5_bestPeriod 20 = .ok (.ifCond .eq 5, 3) := by decide +kernel
theorem dX5_bestPeriod_23 : decode cX5_bestPeriod 23 = .ok (.iconst (-1), 1) := by decide +kernel
theorem dX5_bestPeriod_24 : decode cX5_bestPeriod 24 = .ok (.ireturn, 1) := by decide +kernel
theorem dX5_bestPeriod_25 : decode cX5_bestPeriod 25 = .ok (.iload_n 3, 1) := by decide +kernel
theorem dX5_bestPeriod_26 : decode cX5_bestPeriod 26 = .ok (.iconst 1, 1) := by decide +kernel
theorem dX5_bestPeriod_27 : decode cX5_bestPeriod 27 = .ok (.if_icmp .lt 18, 3) := by decide +kernel
theorem dX5_bestPeriod_30 : decode cX5_bestPeriod 30 = .ok (.iload_n 3, 1) := by decide +kernel
theorem dX5_bestPeriod_31 : decode cX5_bestPeriod 31 = .ok (.bipush 99, 2) := by decide +kernel
theorem dX5_bestPeriod_33 : decode cX5_bestPeriod 33 = .ok (.if_icmp .gt 12, 3) := by decide +kernel
theorem dX5_bestPeriod_36 : decode cX5_bestPeriod 36 = .ok (.iload 4, 2) := by decide +kernel
theorem dX5_bestPeriod_38 : decode cX5_bestPeriod 38 = .ok (.iconst 2, 1) := by decide +kernel
theorem dX5_bestPeriod_39 : decode cX5_bestPeriod 39 = .ok (.invokestatic 78, 3) := by decide +kernel
theorem dX5_bestPeriod_42 : decode cX5_bestPeriod 42 = .ok (.ifCond .eq 6, 3) := by decide +kernel
theorem dX5_bestPeriod_45 : decode cX5_bestPeriod 45 = .ok (.bipush (-2), 2) := by decide +kernel
theorem dX5_bestPeriod_47 : decode cX5_bestPeriod 47 = .ok (.ireturn, 1) := by decide +kernel
theorem dX5_bestPeriod_48 : decode cX5_bestPeriod 48 = .ok (.iconst 0, 1) := by decide +kernel
theorem dX5_bestPeriod_49 : decode cX5_bestPeriod 49 = .ok (.istore 5, 2) := by decide +kernel
theorem dX5_bestPeriod_51 : decode cX5_bestPeriod 51 = .ok (.iconst (-1), 1) := by decide +kernel
theorem dX5_bestPeriod_52 : decode cX5_bestPeriod 52 = .ok (.istore 6, 2) := by decide +kernel
theorem dX5_bestPeriod_54 : decode cX5_bestPeriod 54 = .ok (.iconst 1, 1) := by decide +kernel
theorem dX5_bestPeriod_55 : decode cX5_bestPeriod 55 = .ok (.istore 7, 2) := by decide +kernel
theorem dX5_bestPeriod_57 : decode cX5_bestPeriod 57 = .ok (.iload 7, 2) := by decide +kernel
theorem dX5_bestPeriod_59 : decode cX5_bestPeriod 59 = .ok (.bipush 60, 2) := by decide +kernel
theorem dX5_bestPeriod_61 : decode cX5_bestPeriod 61 = .ok (.if_icmp .gt 35, 3) := by decide +kernel
theorem dX5_bestPeriod_64 : decode cX5_bestPeriod 64 = .ok (.aload_n 0, 1) := by decide +kernel
theorem dX5_bestPeriod_65 : decode cX5_bestPeriod 65 = .ok (.iload_n 1, 1) := by decide +kernel
theorem dX5_bestPeriod_66 : decode cX5_bestPeriod 66 = .ok (.iload 7, 2) := by decide +kernel
theorem dX5_bestPeriod_68 : decode cX5_bestPeriod 68 = .ok (.iload_n 2, 1) := by decide +kernel
theorem dX5_bestPeriod_69 : decode cX5_bestPeriod 69 = .ok (.iload_n 3, 1) := by decide +kernel
theorem dX5_bestPeriod_70 : decode cX5_bestPeriod 70 = .ok (.invokevirtual 203, 3) := by decide +kernel
theorem dX5_bestPeriod_73 : decode cX5_bestPeriod 73 = .ok (.istore 8, 2) := by decide +kernel
theorem dX5_bestPeriod_75 : decode cX5_bestPeriod 75 = .ok (.iload 8, 2) := by decide +kernel
theorem dX5_bestPeriod_77 : decode cX5_bestPeriod 77 = .ok (.iload 6, 2) := by decide +kernel
theorem dX5_bestPeriod_79 : decode cX5_bestPeriod 79 = .ok (.if_icmp .le 11, 3) := by decide +kernel
theorem dX5_bestPeriod_82 : decode cX5_bestPeriod 82 = .ok (.iload 8, 2) := by decide +kernel
theorem dX5_bestPeriod_84 : decode cX5_bestPeriod 84 = .ok (.istore 6, 2) := by decide +kernel
theorem dX5_bestPeriod_86 : decode cX5_bestPeriod 86 = .ok (.iload 7, 2) := by decide +kernel
theorem dX5_bestPeriod_88 : decode cX5_bestPeriod 88 = .ok (.istore 5, 2) := by decide +kernel
theorem dX5_bestPeriod_90 : decode cX5_bestPeriod 90 = .ok (.iinc 7 1, 3) := by decide +kernel
theorem dX5_bestPeriod_93 : decode cX5_bestPeriod 93 = .ok (.goto (-36), 3) := by decide +kernel
theorem dX5_bestPeriod_96 : decode cX5_bestPeriod 96 = .ok (.iload 4, 2) := by decide +kernel
theorem dX5_bestPeriod_98 : decode cX5_bestPeriod 98 = .ok (.ifCond .ne 8, 3) := by decide +kernel
theorem dX5_bestPeriod_101 : decode cX5_bestPeriod 101 = .ok (.iload 5, 2) := by decide +kernel
theorem dX5_bestPeriod_103 : decode cX5_bestPeriod 103 = .ok (.goto 5, 3) := by decide +kernel
theorem dX5_bestPeriod_106 : decode cX5_bestPeriod 106 = .ok (.iload 6, 2) := by decide +kernel
theorem dX5_bestPeriod_108 : decode cX5_bestPeriod 108 = .ok (.ireturn, 1) := by decide +kernel
theorem dX5_peakWithPeriod_0 : decode cX5_peakWithPeriod 0 = .ok (.aload_n 0, 1) := by decide +kernel
theorem dX5_peakWithPeriod_1 : decode cX5_peakWithPeriod 1 = .ok (.getfield 41, 3) := by decide +kernel
theorem dX5_peakWithPeriod_4 : decode cX5_peakWithPeriod 4 = .ok (.aload_n 0, 1) := by decide +kernel
theorem dX5_peakWithPeriod_5 : decode cX5_peakWithPeriod 5 = .ok (.getfield 10, 3) := by decide +kernel
theorem dX5_peakWithPeriod_8 : decode cX5_peakWithPeriod 8 = .ok (.invokevirtual 44, 3) := by decide +kernel
theorem dX5_peakWithPeriod_11 : decode cX5_peakWithPeriod 11 = .ok (.aload_n 0, 1) := by decide +kernel
theorem dX5_peakWithPeriod_12 : decode cX5_peakWithPeriod 12 = .ok (.getfield 41, 3) := by decide +kernel
theorem dX5_peakWithPeriod_15 : decode cX5_peakWithPeriod 15 = .ok (.getfield 104, 3) := by decide +kernel
theorem dX5_peakWithPeriod_18 : decode cX5_peakWithPeriod 18 = .ok (.iload_n 1, 1) := by decide +kernel
theorem dX5_peakWithPeriod_19 : decode cX5_peakWithPeriod 19 = .ok (.aaload, 1) := by decide +kernel
theorem dX5_peakWithPeriod_20 : decode cX5_peakWithPeriod 20 = .ok (.iload_n 2, 1) := by decide +kernel
theorem dX5_peakWithPeriod_21 : decode cX5_peakWithPeriod 21 = .ok (.putfield 119, 3) := by decide +kernel
theorem dX5_peakWithPeriod_24 : decode cX5_peakWithPeriod 24 = .ok (.iconst 0, 1) := by decide +kernel
theorem dX5_peakWithPeriod_25 : decode cX5_peakWithPeriod 25 = .ok (.istore 5, 2) := by decide +kernel
theorem dX5_peakWithPeriod_27 : decode cX5_peakWithPeriod 27 = .ok (.iconst 0, 1) := by decide +kernel
theorem dX5_peakWithPeriod_28 : decode cX5_peakWithPeriod 28 = .ok (.istore 6, 2) := by decide +kernel
theorem dX5_peakWithPeriod_30 : decode cX5_peakWithPeriod 30 = .ok (.iload 6, 2) := by decide +kernel
theorem dX5_peakWithPeriod_32 : decode cX5_peakWithPeriod 32 = .ok (.iload 4, 2) := by decide +kernel
theorem dX5_peakWithPeriod_34 : decode cX5_peakWithPeriod 34 = .ok (.if_icmp .ge 36, 3) := by decide +kernel
theorem dX5_peakWithPeriod_37 : decode cX5_peakWithPeriod 37 = .ok (.aload_n 0, 1) := by decide +kernel
theorem dX5_peakWithPeriod_38 : decode cX5_peakWithPeriod 38 = .ok (.getfield 41, 3) := by decide +kernel
theorem dX5_peakWithPeriod_41 : decode cX5_peakWithPeriod 41 = .ok (.invokevirtual 200, 3) := by decide +kernel
theorem dX5_peakWithPeriod_44 : decode cX5_peakWithPeriod 44 = .ok (.pop, 1) := by decide +kernel
theorem dX5_peakWithPeriod_45 : decode cX5_peakWithPeriod 45 = .ok (.iload 5, 2) := by decide +kernel
theorem dX5_peakWithPeriod_47 : decode cX5_peakWithPeriod 47 = .ok (.aload_n 0, 1) := by decide +kernel
theorem dX5_peakWithPeriod_48 : decode cX5_peakWithPeriod 48 = .ok (.getfield 41, 3) := by decide +kernel
theorem dX5_peakWithPeriod_51 : decode cX5_peakWithPeriod 51 = .ok (.getfield 82, 3) := by decide +kernel
theorem dX5_peakWithPeriod_54 : decode cX5_peakWithPeriod 54 = .ok (.iload_n 3, 1) := by decide +kernel
theorem dX5_peakWithPeriod_55 : decode cX5_peakWithPeriod 55 = .ok (.iaload, 1) := by decide +kernel
theorem dX5_peakWithPeriod_56 : decode cX5_peakWithPeriod 56 = .ok (.invokestatic 195, 3) := by decide +kernel
theorem dX5_peakWithPeriod_59 : decode cX5_peakWithPeriod 59 = .ok (.invokestatic 207, 3) := by decide +kernel
theorem dX5_peakWithPeriod_62 : decode cX5_peakWithPeriod 62 = .ok (.istore 5, 2) := by decide +kernel
theorem dX5_peakWithPeriod_64 : decode cX5_peakWithPeriod 64 = .ok (.iinc 6 1, 3) := by decide +kernel
theorem dX5_peakWithPeriod_67 : decode cX5_peakWithPeriod 67 = .ok (.goto (-37), 3) := by decide +kernel
theorem dX5_peakWithPeriod_70 : decode cX5_peakWithPeriod 70 = .ok (.iload 5, 2) := by decide +kernel
theorem dX5_peakWithPeriod_72 : decode cX5_peakWithPeriod 72 = .ok (.ireturn, 1) := by decide +kernel
theorem dX5_calmIn_0 : decode cX5_calmIn 0 = .ok (.aload_n 0, 1) := by decide +kernel
theorem dX5_calmIn_1 : decode cX5_calmIn 1 = .ok (.getfield 41, 3) := by decide +kernel
theorem dX5_calmIn_4 : decode cX5_calmIn 4 = .ok (.aload_n 0, 1) := by decide +kernel
theorem dX5_calmIn_5 : decode cX5_calmIn 5 = .ok (.getfield 10, 3) := by decide +kernel
theorem dX5_calmIn_8 : decode cX5_calmIn 8 = .ok (.invokevirtual 44, 3) := by decide +kernel
theorem dX5_calmIn_11 : decode cX5_calmIn 11 = .ok (.aload_n 0, 1) := by decide +kernel
theorem dX5_calmIn_12 : decode cX5_calmIn 12 = .ok (.getfield 41, 3) := by decide +kernel
theorem dX5_calmIn_15 : decode cX5_calmIn 15 = .ok (.iconst 0, 1) := by decide +kernel
theorem dX5_calmIn_16 : decode cX5_calmIn 16 = .ok (.putfield 100, 3) := by decide +kernel
theorem dX5_calmIn_19 : decode cX5_calmIn 19 = .ok (.iconst 0, 1) := by decide +kernel
theorem dX5_calmIn_20 : decode cX5_calmIn 20 = .ok (.istore_n 1, 1) := by decide +kernel
theorem dX5_calmIn_21 : decode cX5_calmIn 21 = .ok (.iload_n 1, 1) := by decide +kernel
theorem dX5_calmIn_22 : decode cX5_calmIn 22 = .ok (.sipush 500, 3) := by decide +kernel
theorem dX5_calmIn_25 : decode cX5_calmIn 25 = .ok (.if_icmp .gt 29, 3) := by decide +kernel
theorem dX5_calmIn_28 : decode cX5_calmIn 28 = .ok (.aload_n 0, 1) := by decide +kernel
theorem dX5_calmIn_29 : decode cX5_calmIn 29 = .ok (.getfield 41, 3) := by decide +kernel
theorem dX5_calmIn_32 : decode cX5_calmIn 32 = .ok (.invokevirtual 210, 3) := by decide +kernel
theorem dX5_calmIn_35 : decode cX5_calmIn 35 = .ok (.ifCond .eq 5, 3) := by decide +kernel
theorem dX5_calmIn_38 : decode cX5_calmIn 38 = .ok (.iload_n 1, 1) := by decide +kernel
theorem dX5_calmIn_39 : decode cX5_calmIn 39 = .ok (.ireturn, 1) := by decide +kernel
theorem dX5_calmIn_40 : decode cX5_calmIn 40 = .ok (.aload_n 0, 1) := by decide +kernel
theorem dX5_calmIn_41 : decode cX5_calmIn 41 = .ok (.getfield 41, 3) := by decide +kernel
theorem dX5_calmIn_44 : decode cX5_calmIn 44 = .ok (.invokevirtual 200, 3) := by decide +kernel
theorem dX5_calmIn_47 : decode cX5_calmIn 47 = .ok (.pop, 1) := by decide +kernel
theorem dX5_calmIn_48 : decode cX5_calmIn 48 = .ok (.iinc 1 1, 3) := by decide +kernel
theorem dX5_calmIn_51 : decode cX5_calmIn 51 = .ok (.goto (-30), 3) := by decide +kernel
theorem dX5_calmIn_54 : decode cX5_calmIn 54 = .ok (.bipush (-6), 2) := by decide +kernel
theorem dX5_calmIn_56 : decode cX5_calmIn 56 = .ok (.ireturn, 1) := by decide +kernel
theorem dX5_isOutside_0 : decode cX5_isOutside 0 = .ok (.iload_n 0, 1) := by decide +kernel
theorem dX5_isOutside_1 : decode cX5_isOutside 1 = .ok (.ifCond .lt 8, 3) := by decide +kernel
theorem dX5_isOutside_4 : decode cX5_isOutside 4 = .ok (.iload_n 0, 1) := by decide +kernel
theorem dX5_isOutside_5 : decode cX5_isOutside 5 = .ok (.iload_n 1, 1) := by decide +kernel
theorem dX5_isOutside_6 : decode cX5_isOutside 6 = .ok (.if_icmp .lt 7, 3) := by decide +kernel
theorem dX5_isOutside_9 : decode cX5_isOutside 9 = .ok (.iconst 1, 1) := by decide +kernel
theorem dX5_isOutside_10 : decode cX5_isOutside 10 = .ok (.goto 4, 3) := by decide +kernel
theorem dX5_isOutside_13 : decode cX5_isOutside 13 = .ok (.iconst 0, 1) := by decide +kernel
theorem dX5_isOutside_14 : decode cX5_isOutside 14 = .ok (.ireturn, 1) := by decide +kernel
theorem dX5_asNumber_0 : decode cX5_asNumber 0 = .ok (.iload_n 0, 1) := by decide +kernel
theorem dX5_asNumber_1 : decode cX5_asNumber 1 = .ok (.ifCond .eq 7, 3) := by decide +kernel
theorem dX5_asNumber_4 : decode cX5_asNumber 4 = .ok (.iconst 1, 1) := by decide +kernel
theorem dX5_asNumber_5 : decode cX5_asNumber 5 = .ok (.goto 4, 3) := by decide +kernel
theorem dX5_asNumber_8 : decode cX5_asNumber 8 = .ok (.iconst 0, 1) := by decide +kernel
theorem dX5_asNumber_9 : decode cX5_asNumber 9 = .ok (.ireturn, 1) := by decide +kernel
theorem dX5_withinBounds_0 : decode cX5_withinBounds 0 = .ok (.sipush (-9999), 3) := by decide +kernel
theorem dX5_withinBounds_3 : decode cX5_withinBounds 3 = .ok (.sipush 9999, 3) := by decide +kernel
theorem dX5_withinBounds_6 : decode cX5_withinBounds 6 = .ok (.iload_n 0, 1) := by decide +kernel
theorem dX5_withinBounds_7 : decode cX5_withinBounds 7 = .ok (.invokestatic 251, 3) := by decide +kernel
theorem dX5_withinBounds_10 : decode cX5_withinBounds 10 = .ok (.invokestatic 207, 3) := by decide +kernel
theorem dX5_withinBounds_13 : decode cX5_withinBounds 13 = .ok (.ireturn, 1) := by decide +kernel
theorem dJ13_bitCount_95d88_0 : decode cJ13_bitCount_95d88 0 = .ok (.lload_n 0, 1) := by decide +kernel
theorem dJ13_bitCount_95d88_1 : decode cJ13_bitCount_95d88 1 = .ok (.lload_n 0, 1) := by decide +kernel
theorem dJ13_bitCount_95d88_2 : decode cJ13_bitCount_95d88 2 = .ok (.iconst 1, 1) := by decide +kernel
theorem dJ13_bitCount_95d88_3 : decode cJ13_bitCount_95d88 3 = .ok (.lushr, 1) := by decide +kernel
theorem dJ13_bitCount_95d88_4 : decode cJ13_bitCount_95d88 4 = .ok (.ldc2_w 314, 3) := by decide +kernel
theorem dJ13_bitCount_95d88_7 : decode cJ13_bitCount_95d88 7 = .ok (.land, 1) := by decide +kernel
theorem dJ13_bitCount_95d88_8 : decode cJ13_bitCount_95d88 8 = .ok (.lsub, 1) := by decide +kernel
theorem dJ13_bitCount_95d88_9 : decode cJ13_bitCount_95d88 9 = .ok (.lstore_n 0, 1) := by decide +kernel
theorem dJ13_bitCount_95d88_10 : decode cJ13_bitCount_95d88 10 = .ok (.lload_n 0, 1) := by decide +kernel
theorem dJ13_bitCount_95d88_11 : decode cJ13_bitCount_95d88 11 = .ok (.ldc2_w 316, 3) := by decide +kernel
theorem dJ13_bitCount_95d88_14 : decode cJ13_bitCount_95d88 14 = .ok (.land, 1) := by decide +kernel
theorem dJ13_bitCount_95d88_15 : decode cJ13_bitCount_95d88 15 = .ok (.lload_n 0, 1) := by decide +kernel
theorem dJ13_bitCount_95d88_16 : decode cJ13_bitCount_95d88 16 = .ok (.iconst 2, 1) := by decide +kernel
theorem dJ13_bitCount_95d88_17 : decode cJ13_bitCount_95d88 17 = .ok (.lushr, 1) := by decide +kernel
theorem dJ13_bitCount_95d88_18 : decode cJ13_bitCount_95d88 18 = .ok (.ldc2_w 316, 3) := by decide +kernel
theorem dJ13_bitCount_95d88_21 : decode cJ13_bitCount_95d88 21 = .ok (.land, 1) := by decide +kernel
theorem dJ13_bitCount_95d88_22 : decode cJ13_bitCount_95d88 22 = .ok (.ladd, 1) := by decide +kernel
theorem dJ13_bitCount_95d88_23 : decode cJ13_bitCount_95d88 23 = .ok (.lstore_n 0, 1) := by decide +kernel
theorem dJ13_bitCount_95d88_24 : decode cJ13_bitCount_95d88 24 = .ok (.lload_n 0, 1) := by decide +kernel
theorem dJ13_bitCount_95d88_25 : decode cJ13_bitCount_95d88 25 = .ok (.lload_n 0, 1) := by decide +kernel
theorem dJ13_bitCount_95d88_26 : decode cJ13_bitCount_95d88 26 = .ok (.iconst 4, 1) := by decide +kernel
theorem dJ13_bitCount_95d88_27 : decode cJ13_bitCount_95d88 27 = .ok (.lushr, 1) := by decide +kernel
theorem dJ13_bitCount_95d88_28 : decode cJ13_bitCount_95d88 28 = .ok (.ladd, 1) := by decide +kernel
theorem dJ13_bitCount_95d88_29 : decode cJ13_bitCount_95d88 29 = .ok (.ldc2_w 318, 3) := by decide +kernel
theorem dJ13_bitCount_95d88_32 : decode cJ13_bitCount_95d88 32 = .ok (.land, 1) := by decide +kernel
theorem dJ13_bitCount_95d88_33 : decode cJ13_bitCount_95d88 33 = .ok (.lstore_n 0, 1) := by decide +kernel
theorem dJ13_bitCount_95d88_34 : decode cJ13_bitCount_95d88 34 = .ok (.lload_n 0, 1) := by decide +kernel
theorem dJ13_bitCount_95d88_35 : decode cJ13_bitCount_95d88 35 = .ok (.lload_n 0, 1) := by decide +kernel
theorem dJ13_bitCount_95d88_36 : decode cJ13_bitCount_95d88 36 = .ok (.bipush 8, 2) := by decide +kernel
theorem dJ13_bitCount_95d88_38 : decode cJ13_bitCount_95d88 38 = .ok (.lushr, 1) := by decide +kernel
theorem dJ13_bitCount_95d88_39 : decode cJ13_bitCount_95d88 39 = .ok (.ladd, 1) := by decide +kernel
theorem dJ13_bitCount_95d88_40 : decode cJ13_bitCount_95d88 40 = .ok (.lstore_n 0, 1) := by decide +kernel
theorem dJ13_bitCount_95d88_41 : decode cJ13_bitCount_95d88 41 = .ok (.lload_n 0, 1) := by decide +kernel
theorem dJ13_bitCount_95d88_42 : decode cJ13_bitCount_95d88 42 = .ok (.lload_n 0, 1) := by decide +kernel
theorem dJ13_bitCount_95d88_43 : decode cJ13_bitCount_95d88 43 = .ok (.bipush 16, 2) := by decide +kernel
theorem dJ13_bitCount_95d88_45 : decode cJ13_bitCount_95d88 45 = .ok (.lushr, 1) := by decide +kernel
theorem dJ13_bitCount_95d88_46 : decode cJ13_bitCount_95d88 46 = .ok (.ladd, 1) := by decide +kernel
theorem dJ13_bitCount_95d88_47 : decode cJ13_bitCount_95d88 47 = .ok (.lstore_n 0, 1) := by decide +kernel
theorem dJ13_bitCount_95d88_48 : decode cJ13_bitCount_95d88 48 = .ok (.lload_n 0, 1) := by decide +kernel
theorem dJ13_bitCount_95d88_49 : decode cJ13_bitCount_95d88 49 = .ok (.lload_n 0, 1) := by decide +kernel
theorem dJ13_bitCount_95d88_50 : decode cJ13_bitCount_95d88 50 = .ok (.bipush 32, 2) := by decide +kernel
theorem dJ13_bitCount_95d88_52 : decode cJ13_bitCount_95d88 52 = .ok (.lushr, 1) := by decide +kernel
theorem dJ13_bitCount_95d88_53 : decode cJ13_bitCount_95d88 53 = .ok (.ladd, 1) := by decide +kernel
theorem dJ13_bitCount_95d88_54 : decode cJ13_bitCount_95d88 54 = .ok (.lstore_n 0, 1) := by decide +kernel
theorem dJ13_bitCount_95d88_55 : decode cJ13_bitCount_95d88 55 = .ok (.lload_n 0, 1) := by decide +kernel
theorem dJ13_bitCount_95d88_56 : decode cJ13_bitCount_95d88 56 = .ok (.l2i, 1) := by decide +kernel
theorem dJ13_bitCount_95d88_57 : decode cJ13_bitCount_95d88 57 = .ok (.bipush 127, 2) := by decide +kernel
theorem dJ13_bitCount_95d88_59 : decode cJ13_bitCount_95d88 59 = .ok (.iand, 1) := by decide +kernel
theorem dJ13_bitCount_95d88_60 : decode cJ13_bitCount_95d88 60 = .ok (.ireturn, 1) := by decide +kernel
theorem dJ9_floorMod_7cf53_0 : decode cJ9_floorMod_7cf53 0 = .ok (.iload_n 0, 1) := by decide +kernel
theorem dJ9_floorMod_7cf53_1 : decode cJ9_floorMod_7cf53 1 = .ok (.iload_n 1, 1) := by decide +kernel
theorem dJ9_floorMod_7cf53_2 : decode cJ9_floorMod_7cf53 2 = .ok (.irem, 1) := by decide +kernel
theorem dJ9_floorMod_7cf53_3 : decode cJ9_floorMod_7cf53 3 = .ok (.istore_n 2, 1) := by decide +kernel
theorem dJ9_floorMod_7cf53_4 : decode cJ9_floorMod_7cf53 4 = .ok (.iload_n 0, 1) := by decide +kernel
theorem dJ9_floorMod_7cf53_5 : decode cJ9_floorMod_7cf53 5 = .ok (.iload_n 1, 1) := by decide +kernel
theorem dJ9_floorMod_7cf53_6 : decode cJ9_floorMod_7cf53 6 = .ok (.ixor, 1) := by decide +kernel
theorem dJ9_floorMod_7cf53_7 : decode cJ9_floorMod_7cf53 7 = .ok (.ifCond .ge 11, 3) := by decide +kernel
theorem dJ9_floorMod_7cf53_10 : decode cJ9_floorMod_7cf53 10 = .ok (.iload_n 2, 1) := by decide +kernel
theorem dJ9_floorMod_7cf53_11 : decode cJ9_floorMod_7cf53 11 = .ok (.ifCond .eq 7, 3) := by decide +kernel
theorem dJ9_floorMod_7cf53_14 : decode cJ9_floorMod_7cf53 14 = .ok (.iload_n 2, 1) := by decide +kernel
theorem dJ9_floorMod_7cf53_15 : decode cJ9_floorMod_7cf53 15 = .ok (.iload_n 1, 1) := by decide +kernel
theorem dJ9_floorMod_7cf53_16 : decode cJ9_floorMod_7cf53 16 = .ok (.iadd, 1) := by decide +kernel
theorem dJ9_floorMod_7cf53_17 : decode cJ9_floorMod_7cf53 17 = .ok (.ireturn, 1) := by decide +kernel
theorem dJ9_floorMod_7cf53_18 : decode cJ9_floorMod_7cf53 18 = .ok (.iload_n 2, 1) := by decide +kernel
theorem dJ9_floorMod_7cf53_19 : decode cJ9_floorMod_7cf53 19 = .ok (.ireturn, 1) := by decide +kernel
theorem dJ9_abs_0f7a4_0 : decode cJ9_abs_0f7a4 0 = .ok (.iload_n 0, 1) := by decide +kernel
theorem dJ9_abs_0f7a4_1 : decode cJ9_abs_0f7a4 1 = .ok (.ifCond .ge 8, 3) := by decide +kernel
theorem dJ9_abs_0f7a4_4 : decode cJ9_abs_0f7a4 4 = .ok (.iload_n 0, 1) := by decide +kernel
theorem dJ9_abs_0f7a4_5 : decode cJ9_abs_0f7a4 5 = .ok (.ineg, 1) := by decide +kernel
theorem dJ9_abs_0f7a4_6 : decode cJ9_abs_0f7a4 6 = .ok (.goto 4, 3) := by decide +kernel
theorem dJ9_abs_0f7a4_9 : decode cJ9_abs_0f7a4 9 = .ok (.iload_n 0, 1) := by decide +kernel
theorem dJ9_abs_0f7a4_10 : decode cJ9_abs_0f7a4 10 = .ok (.ireturn, 1) := by decide +kernel
theorem dJ9_max_7cf53_0 : decode cJ9_max_7cf53 0 = .ok (.iload_n 0, 1) := by decide +kernel
theorem dJ9_max_7cf53_1 : decode cJ9_max_7cf53 1 = .ok (.iload_n 1, 1) := by decide +kernel
theorem dJ9_max_7cf53_2 : decode cJ9_max_7cf53 2 = .ok (.if_icmp .lt 7, 3) := by decide +kernel
theorem dJ9_max_7cf53_5 : decode cJ9_max_7cf53 5 = .ok (.iload_n 0, 1) := by decide +kernel
theorem dJ9_max_7cf53_6 : decode cJ9_max_7cf53 6 = .ok (.goto 4, 3) := by decide +kernel
theorem dJ9_max_7cf53_9 : decode cJ9_max_7cf53 9 = .ok (.iload_n 1, 1) := by decide +kernel
theorem dJ9_max_7cf53_10 : decode cJ9_max_7cf53 10 = .ok (.ireturn, 1) := by decide +kernel
theorem dJ9_min_7cf53_0 : decode cJ9_min_7cf53 0 = .ok (.iload_n 0, 1) := by decide +kernel
theorem dJ9_min_7cf53_1 : decode cJ9_min_7cf53 1 = .ok (.iload_n 1, 1) := by decide +kernel
theorem dJ9_min_7cf53_2 : decode cJ9_min_7cf53 2 = .ok (.if_icmp .gt 7, 3) := by decide +kernel
theorem dJ9_min_7cf53_5 : decode cJ9_min_7cf53 5 = .ok (.iload_n 0, 1) := by decide +kernel
theorem dJ9_min_7cf53_6 : decode cJ9_min_7cf53 6 = .ok (.goto 4, 3) := by decide +kernel
theorem dJ9_min_7cf53_9 : decode cJ9_min_7cf53 9 = .ok (.iload_n 1, 1) := by decide +kernel
theorem dJ9_min_7cf53_10 : decode cJ9_min_7cf53 10 = .ok (.ireturn, 1) := by decide +kernel
