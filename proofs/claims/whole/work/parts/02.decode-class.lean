theorem dX0_init_0 : decode cX0_init 0 = .ok (.aload_n 0, 1) := by decide +kernel
theorem dX0_init_1 : decode cX0_init 1 = .ok (.invokespecial 3, 3) := by decide +kernel
theorem dX0_init_4 : decode cX0_init 4 = .ok (.aload_n 0, 1) := by decide +kernel
theorem dX0_init_5 : decode cX0_init 5 = .ok (.bipush 60, 2) := by decide +kernel
theorem dX0_init_7 : decode cX0_init 7 = .ok (.newarray .int, 2) := by decide +kernel
theorem dX0_init_9 : decode cX0_init 9 = .ok (.putfield 9, 3) := by decide +kernel
theorem dX0_init_12 : decode cX0_init 12 = .ok (.return_, 1) := by decide +kernel
theorem dX0_copyFrom_0 : decode cX0_copyFrom 0 = .ok (.aload_n 1, 1) := by decide +kernel
theorem dX0_copyFrom_1 : decode cX0_copyFrom 1 = .ok (.getfield 9, 3) := by decide +kernel
theorem dX0_copyFrom_4 : decode cX0_copyFrom 4 = .ok (.iconst 0, 1) := by decide +kernel
theorem dX0_copyFrom_5 : decode cX0_copyFrom 5 = .ok (.aload_n 0, 1) := by decide +kernel
theorem dX0_copyFrom_6 : decode cX0_copyFrom 6 = .ok (.getfield 9, 3) := by decide +kernel
theorem dX0_copyFrom_9 : decode cX0_copyFrom 9 = .ok (.iconst 0, 1) := by decide +kernel
theorem dX0_copyFrom_10 : decode cX0_copyFrom 10 = .ok (.bipush 60, 2) := by decide +kernel
theorem dX0_copyFrom_12 : decode cX0_copyFrom 12 = .ok (.invokestatic 15, 3) := by decide +kernel
theorem dX0_copyFrom_15 : decode cX0_copyFrom 15 = .ok (.aload_n 0, 1) := by decide +kernel
theorem dX0_copyFrom_16 : decode cX0_copyFrom 16 = .ok (.aload_n 1, 1) := by decide +kernel
theorem dX0_copyFrom_17 : decode cX0_copyFrom 17 = .ok (.getfield 21, 3) := by decide +kernel
theorem dX0_copyFrom_20 : decode cX0_copyFrom 20 = .ok (.putfield 21, 3) := by decide +kernel
theorem dX0_copyFrom_23 : decode cX0_copyFrom 23 = .ok (.aload_n 0, 1) := by decide +kernel
theorem dX0_copyFrom_24 : decode cX0_copyFrom 24 = .ok (.aload_n 1, 1) := by decide +kernel
theorem dX0_copyFrom_25 : decode cX0_copyFrom 25 = .ok (.getfield 25, 3) := by decide +kernel
theorem dX0_copyFrom_28 : decode cX0_copyFrom 28 = .ok (.putfield 25, 3) := by decide +kernel
theorem dX0_copyFrom_31 : decode cX0_copyFrom 31 = .ok (.aload_n 0, 1) := by decide +kernel
theorem dX0_copyFrom_32 : decode cX0_copyFrom 32 = .ok (.aload_n 1, 1) := by decide +kernel
theorem dX0_copyFrom_33 : decode cX0_copyFrom 33 = .ok (.getfield 28, 3) := by decide +kernel
theorem dX0_copyFrom_36 : decode cX0_copyFrom 36 = .ok (.putfield 28, 3) := by decide +kernel
theorem dX0_copyFrom_39 : decode cX0_copyFrom 39 = .ok (.return_, 1) := by decide +kernel
theorem dX0_startIn_0 : decode cX0_startIn 0 = .ok (.aload_n 0, 1) := by decide +kernel
theorem dX0_startIn_1 : decode cX0_startIn 1 = .ok (.iload_n 1, 1) := by decide +kernel
theorem dX0_startIn_2 : decode cX0_startIn 2 = .ok (.putfield 21, 3) := by decide +kernel
theorem dX0_startIn_5 : decode cX0_startIn 5 = .ok (.aload_n 0, 1) := by decide +kernel
theorem dX0_startIn_6 : decode cX0_startIn 6 = .ok (.iconst 0, 1) := by decide +kernel
theorem dX0_startIn_7 : decode cX0_startIn 7 = .ok (.putfield 25, 3) := by decide +kernel
theorem dX0_startIn_10 : decode cX0_startIn 10 = .ok (.aload_n 0, 1) := by decide +kernel
theorem dX0_startIn_11 : decode cX0_startIn 11 = .ok (.iconst 0, 1) := by decide +kernel
theorem dX0_startIn_12 : decode cX0_startIn 12 = .ok (.putfield 28, 3) := by decide +kernel
theorem dX0_startIn_15 : decode cX0_startIn 15 = .ok (.return_, 1) := by decide +kernel
theorem dX0_note_0 : decode cX0_note 0 = .ok (.aload_n 0, 1) := by decide +kernel
theorem dX0_note_1 : decode cX0_note 1 = .ok (.getfield 9, 3) := by decide +kernel
theorem dX0_note_4 : decode cX0_note 4 = .ok (.aload_n 0, 1) := by decide +kernel
theorem dX0_note_5 : decode cX0_note 5 = .ok (.getfield 28, 3) := by decide +kernel
theorem dX0_note_8 : decode cX0_note 8 = .ok (.iload_n 1, 1) := by decide +kernel
theorem dX0_note_9 : decode cX0_note 9 = .ok (.iastore, 1) := by decide +kernel
theorem dX0_note_10 : decode cX0_note 10 = .ok (.aload_n 0, 1) := by decide +kernel
theorem dX0_note_11 : decode cX0_note 11 = .ok (.aload_n 0, 1) := by decide +kernel
theorem dX0_note_12 : decode cX0_note 12 = .ok (.getfield 28, 3) := by decide +kernel
theorem dX0_note_15 : decode cX0_note 15 = .ok (.iconst 1, 1) := by decide +kernel
theorem dX0_note_16 : decode cX0_note 16 = .ok (.iadd, 1) := by decide +kernel
theorem dX0_note_17 : decode cX0_note 17 = .ok (.bipush 60, 2) := by decide +kernel
theorem dX0_note_19 : decode cX0_note 19 = .ok (.irem, 1) := by decide +kernel
theorem dX0_note_20 : decode cX0_note 20 = .ok (.putfield 28, 3) := by decide +kernel
theorem dX0_note_23 : decode cX0_note 23 = .ok (.aload_n 0, 1) := by decide +kernel
theorem dX0_note_24 : decode cX0_note 24 = .ok (.aload_n 0, 1) := by decide +kernel
theorem dX0_note_25 : decode cX0_note 25 = .ok (.getfield 25, 3) := by decide +kernel
theorem dX0_note_28 : decode cX0_note 28 = .ok (.iconst 1, 1) := by decide +kernel
theorem dX0_note_29 : decode cX0_note 29 = .ok (.iadd, 1) := by decide +kernel
theorem dX0_note_30 : decode cX0_note 30 = .ok (.bipush 60, 2) := by decide +kernel
theorem dX0_note_32 : decode cX0_note 32 = .ok (.invokestatic 31, 3) := by decide +kernel
theorem dX0_note_35 : decode cX0_note 35 = .ok (.putfield 25, 3) := by decide +kernel
theorem dX0_note_38 : decode cX0_note 38 = .ok (.return_, 1) := by decide +kernel
theorem dX0_levelAgo_0 : decode cX0_levelAgo 0 = .ok (.aload_n 0, 1) := by decide +kernel
theorem dX0_levelAgo_1 : decode cX0_levelAgo 1 = .ok (.getfield 9, 3) := by decide +kernel
theorem dX0_levelAgo_4 : decode cX0_levelAgo 4 = .ok (.aload_n 0, 1) := by decide +kernel
theorem dX0_levelAgo_5 : decode cX0_levelAgo 5 = .ok (.getfield 28, 3) := by decide +kernel
theorem dX0_levelAgo_8 : decode cX0_levelAgo 8 = .ok (.iconst 1, 1) := by decide +kernel
theorem dX0_levelAgo_9 : decode cX0_levelAgo 9 = .ok (.isub, 1) := by decide +kernel
theorem dX0_levelAgo_10 : decode cX0_levelAgo 10 = .ok (.iload_n 1, 1) := by decide +kernel
theorem dX0_levelAgo_11 : decode cX0_levelAgo 11 = .ok (.isub, 1) := by decide +kernel
theorem dX0_levelAgo_12 : decode cX0_levelAgo 12 = .ok (.bipush 60, 2) := by decide +kernel
theorem dX0_levelAgo_14 : decode cX0_levelAgo 14 = .ok (.invokestatic 37, 3) := by decide +kernel
theorem dX0_levelAgo_17 : decode cX0_levelAgo 17 = .ok (.iaload, 1) := by decide +kernel
theorem dX0_levelAgo_18 : decode cX0_levelAgo 18 = .ok (.ireturn, 1) := by decide +kernel
theorem dX0_greatest_0 : decode cX0_greatest 0 = .ok (.sipush (-9999), 3) := by decide +kernel
theorem dX0_greatest_3 : decode cX0_greatest 3 = .ok (.istore_n 1, 1) := by decide +kernel
theorem dX0_greatest_4 : decode cX0_greatest 4 = .ok (.iconst 0, 1) := by decide +kernel
theorem dX0_greatest_5 : decode cX0_greatest 5 = .ok (.istore_n 2, 1) := by decide +kernel
theorem dX0_greatest_6 : decode cX0_greatest 6 = .ok (.iload_n 2, 1) := by decide +kernel
theorem dX0_greatest_7 : decode cX0_greatest 7 = .ok (.aload_n 0, 1) := by decide +kernel
theorem dX0_greatest_8 : decode cX0_greatest 8 = .ok (.getfield 25, 3) := by decide +kernel
theorem dX0_greatest_11 : decode cX0_greatest 11 = .ok (.if_icmp .ge 19, 3) := by decide +kernel
theorem dX0_greatest_14 : decode cX0_greatest 14 = .ok (.iload_n 1, 1) := by decide +kernel
theorem dX0_greatest_15 : decode cX0_greatest 15 = .ok (.aload_n 0, 1) := by decide +kernel
theorem dX0_greatest_16 : decode cX0_greatest 16 = .ok (.iload_n 2, 1) := by decide +kernel
theorem dX0_greatest_17 : decode cX0_greatest 17 = .ok (.invokevirtual 40, 3) := by decide +kernel
theorem dX0_greatest_20 : decode cX0_greatest 20 = .ok (.invokestatic 44, 3) := by decide +kernel
theorem dX0_greatest_23 : decode cX0_greatest 23 = .ok (.istore_n 1, 1) := by decide +kernel
theorem dX0_greatest_24 : decode cX0_greatest 24 = .ok (.iinc 2 1, 3) := by decide +kernel
theorem dX0_greatest_27 : decode cX0_greatest 27 = .ok (.goto (-21), 3) := by decide +kernel
theorem dX0_greatest_30 : decode cX0_greatest 30 = .ok (.iload_n 1, 1) := by decide +kernel
theorem dX0_greatest_31 : decode cX0_greatest 31 = .ok (.ireturn, 1) := by decide +kernel
theorem dX0_least_0 : decode cX0_least 0 = .ok (.sipush 9999, 3) := by decide +kernel
theorem dX0_least_3 : decode cX0_least 3 = .ok (.istore_n 1, 1) := by decide +kernel
theorem dX0_least_4 : decode cX0_least 4 = .ok (.iconst 0, 1) := by decide +kernel
theorem dX0_least_5 : decode cX0_least 5 = .ok (.istore_n 2, 1) := by decide +kernel
theorem dX0_least_6 : decode cX0_least 6 = .ok (.iload_n 2, 1) := by decide +kernel
theorem dX0_least_7 : decode cX0_least 7 = .ok (.aload_n 0, 1) := by decide +kernel
theorem dX0_least_8 : decode cX0_least 8 = .ok (.getfield 25, 3) := by decide +kernel
theorem dX0_least_11 : decode cX0_least 11 = .ok (.if_icmp .ge 19, 3) := by decide +kernel
theorem dX0_least_14 : decode cX0_least 14 = .ok (.iload_n 1, 1) := by decide +kernel
theorem dX0_least_15 : decode cX0_least 15 = .ok (.aload_n 0, 1) := by decide +kernel
theorem dX0_least_16 : decode cX0_least 16 = .ok (.iload_n 2, 1) := by decide +kernel
theorem dX0_least_17 : decode cX0_least 17 = .ok (.invokevirtual 40, 3) := by decide +kernel
theorem dX0_least_20 : decode cX0_least 20 = .ok (.invokestatic 31, 3) := by decide +kernel
theorem dX0_least_23 : decode cX0_least 23 = .ok (.istore_n 1, 1) := by decide +kernel
theorem dX0_least_24 : decode cX0_least 24 = .ok (.iinc 2 1, 3) := by decide +kernel
theorem dX0_least_27 : decode cX0_least 27 = .ok (.goto (-21), 3) := by decide +kernel
theorem dX0_least_30 : decode cX0_least 30 = .ok (.iload_n 1, 1) := by decide +kernel
theorem dX0_least_31 : decode cX0_least 31 = .ok (.ireturn, 1) := by decide +kernel
theorem dX0_rises_0 : decode cX0_rises 0 = .ok (.iconst 0, 1) := by decide +kernel
theorem dX0_rises_1 : decode cX0_rises 1 = .ok (.istore_n 1, 1) := by decide +kernel
theorem dX0_rises_2 : decode cX0_rises 2 = .ok (.iconst 0, 1) := by decide +kernel
theorem dX0_rises_3 : decode cX0_rises 3 = .ok (.istore_n 2, 1) := by decide +kernel
theorem dX0_rises_4 : decode cX0_rises 4 = .ok (.iload_n 2, 1) := by decide +kernel
theorem dX0_rises_5 : decode cX0_rises 5 = .ok (.iconst 1, 1) := by decide +kernel
theorem dX0_rises_6 : decode cX0_rises 6 = .ok (.iadd, 1) := by decide +kernel
theorem dX0_rises_7 : decode cX0_rises 7 = .ok (.aload_n 0, 1) := by decide +kernel
theorem dX0_rises_8 : decode cX0_rises 8 = .ok (.getfield 25, 3) := by decide +kernel
theorem dX0_rises_11 : decode cX0_rises 11 = .ok (.if_icmp .ge 30, 3) := by decide +kernel
theorem dX0_rises_14 : decode cX0_rises 14 = .ok (.aload_n 0, 1) := by decide +kernel
theorem dX0_rises_15 : decode cX0_rises 15 = .ok (.iload_n 2, 1) := by decide +kernel
theorem dX0_rises_16 : decode cX0_rises 16 = .ok (.invokevirtual 40, 3) := by decide +kernel
theorem dX0_rises_19 : decode cX0_rises 19 = .ok (.ifCond .lt 16, 3) := by decide +kernel
theorem dX0_rises_22 : decode cX0_rises 22 = .ok (.aload_n 0, 1) := by decide +kernel
theorem dX0_rises_23 : decode cX0_rises 23 = .ok (.iload_n 2, 1) := by decide +kernel
theorem dX0_rises_24 : decode cX0_rises 24 = .ok (.iconst 1, 1) := by decide +kernel
theorem dX0_rises_25 : decode cX0_rises 25 = .ok (.iadd, 1) := by decide +kernel
theorem dX0_rises_26 : decode cX0_rises 26 = .ok (.invokevirtual 40, 3) := by decide +kernel
theorem dX0_rises_29 : decode cX0_rises 29 = .ok (.ifCond .ge 6, 3) := by decide +kernel
theorem dX0_rises_32 : decode cX0_rises 32 = .ok (.iinc 1 1, 3) := by decide +kernel
theorem dX0_rises_35 : decode cX0_rises 35 = .ok (.iinc 2 1, 3) := by decide +kernel
theorem dX0_rises_38 : decode cX0_rises 38 = .ok (.goto (-34), 3) := by decide +kernel
theorem dX0_rises_41 : decode cX0_rises 41 = .ok (.iload_n 1, 1) := by decide +kernel
theorem dX0_rises_42 : decode cX0_rises 42 = .ok (.ireturn, 1) := by decide +kernel
theorem dX1_init_0 : decode cX1_init 0 = .ok (.aload_n 0, 1) := by decide +kernel
theorem dX1_init_1 : decode cX1_init 1 = .ok (.invokespecial 3, 3) := by decide +kernel
theorem dX1_init_4 : decode cX1_init 4 = .ok (.aload_n 0, 1) := by decide +kernel
theorem dX1_init_5 : decode cX1_init 5 = .ok (.bipush 6, 2) := by decide +kernel
theorem dX1_init_7 : decode cX1_init 7 = .ok (.anewarray 9, 3) := by decide +kernel
theorem dX1_init_10 : decode cX1_init 10 = .ok (.putfield 11, 3) := by decide +kernel
theorem dX1_init_13 : decode cX1_init 13 = .ok (.iconst 0, 1) := by decide +kernel
theorem dX1_init_14 : decode cX1_init 14 = .ok (.istore_n 1, 1) := by decide +kernel
theorem dX1_init_15 : decode cX1_init 15 = .ok (.iload_n 1, 1) := by decide +kernel
theorem dX1_init_16 : decode cX1_init 16 = .ok (.bipush 6, 2) := by decide +kernel
theorem dX1_init_18 : decode cX1_init 18 = .ok (.if_icmp .ge 22, 3) := by decide +kernel
theorem dX1_init_21 : decode cX1_init 21 = .ok (.aload_n 0, 1) := by decide +kernel
theorem dX1_init_22 : decode cX1_init 22 = .ok (.getfield 11, 3) := by decide +kernel
theorem dX1_init_25 : decode cX1_init 25 = .ok (.iload_n 1, 1) := by decide +kernel
theorem dX1_init_26 : decode cX1_init 26 = .ok (.new 9, 3) := by decide +kernel
theorem dX1_init_29 : decode cX1_init 29 = .ok (.dup, 1) := by decide +kernel
theorem dX1_init_30 : decode cX1_init 30 = .ok (.invokespecial 17, 3) := by decide +kernel
theorem dX1_init_33 : decode cX1_init 33 = .ok (.aastore, 1) := by decide +kernel
theorem dX1_init_34 : decode cX1_init 34 = .ok (.iinc 1 1, 3) := by decide +kernel
theorem dX1_init_37 : decode cX1_init 37 = .ok (.goto (-22), 3) := by decide +kernel
theorem dX1_init_40 : decode cX1_init 40 = .ok (.return_, 1) := by decide +kernel
theorem dX1_push_0 : decode cX1_push 0 = .ok (.aload_n 0, 1) := by decide +kernel
theorem dX1_push_1 : decode cX1_push 1 = .ok (.getfield 18, 3) := by decide +kernel
theorem dX1_push_4 : decode cX1_push 4 = .ok (.bipush 6, 2) := by decide +kernel
theorem dX1_push_6 : decode cX1_push 6 = .ok (.if_icmp .lt 7, 3) := by decide +kernel
theorem dX1_push_9 : decode cX1_push 9 = .ok (.aload_n 0, 1) := by decide +kernel
theorem dX1_push_10 : decode cX1_push 10 = .ok (.invokevirtual 22, 3) := by decide +kernel
theorem dX1_push_13 : decode cX1_push 13 = .ok (.aload_n 0, 1) := by decide +kernel
theorem dX1_push_14 : decode cX1_push 14 = .ok (.getfield 11, 3) := by decide +kernel
theorem dX1_push_17 : decode cX1_push 17 = .ok (.aload_n 0, 1) := by decide +kernel
theorem dX1_push_18 : decode cX1_push 18 = .ok (.getfield 18, 3) := by decide +kernel
theorem dX1_push_21 : decode cX1_push 21 = .ok (.aaload, 1) := by decide +kernel
theorem dX1_push_22 : decode cX1_push 22 = .ok (.aload_n 1, 1) := by decide +kernel
theorem dX1_push_23 : decode cX1_push 23 = .ok (.invokevirtual 25, 3) := by decide +kernel
theorem dX1_push_26 : decode cX1_push 26 = .ok (.aload_n 0, 1) := by decide +kernel
theorem dX1_push_27 : decode cX1_push 27 = .ok (.dup, 1) := by decide +kernel
theorem dX1_push_28 : decode cX1_push 28 = .ok (.getfield 18, 3) := by decide +kernel
theorem dX1_push_31 : decode cX1_push 31 = .ok (.iconst 1, 1) := by decide +kernel
theorem dX1_push_32 : decode cX1_push 32 = .ok (.iadd, 1) := by decide +kernel
theorem dX1_push_33 : decode cX1_push 33 = .ok (.putfield 18, 3) := by decide +kernel
theorem dX1_push_36 : decode cX1_push 36 = .ok (.return_, 1) := by decide +kernel
theorem dX1_dropOldest_0 : decode cX1_dropOldest 0 = .ok (.aload_n 0, 1) := by decide +kernel
theorem dX1_dropOldest_1 : decode cX1_dropOldest 1 = .ok (.getfield 11, 3) := by decide +kernel
theorem dX1_dropOldest_4 : decode cX1_dropOldest 4 = .ok (.iconst 0, 1) := by decide +kernel
theorem dX1_dropOldest_5 : decode cX1_dropOldest 5 = .ok (.aaload, 1) := by decide +kernel
theorem dX1_dropOldest_6 : decode cX1_dropOldest 6 = .ok (.astore_n 1, 1) := by decide +kernel
theorem dX1_dropOldest_7 : decode cX1_dropOldest 7 = .ok (.iconst 1, 1) := by decide +kernel
theorem dX1_dropOldest_8 : decode cX1_dropOldest 8 = .ok (.istore_n 2, 1) := by decide +kernel
theorem dX1_dropOldest_9 : decode cX1_dropOldest 9 = .ok (.iload_n 2, 1) := by decide +kernel
theorem dX1_dropOldest_10 : decode cX1_dropOldest 10 = .ok (.bipush 6, 2) := by decide +kernel
theorem dX1_dropOldest_12 : decode cX1_dropOldest 12 = .ok (.if_icmp .ge 23, 3) := by decide +kernel
theorem dX1_dropOldest_15 : decode cX1_dropOldest 15 = .ok (.aload_n 0, 1) := by decide +kernel
theorem dX1_dropOldest_16 : decode cX1_dropOldest 16 = .ok (.getfield 11, 3) := by decide +kernel
theorem dX1_dropOldest_19 : decode cX1_dropOldest 19 = .ok (.iload_n 2, 1) := by decide +kernel
theorem dX1_dropOldest_20 : decode cX1_dropOldest 20 = .ok (.iconst 1, 1) := by decide +kernel
theorem dX1_dropOldest_21 : decode cX1_dropOldest 21 = .ok (.isub, 1) := by decide +kernel
theorem dX1_dropOldest_22 : decode cX1_dropOldest 22 = .ok (.aload_n 0, 1) := by decide +kernel
theorem dX1_dropOldest_23 : decode cX1_dropOldest 23 = .ok (.getfield 11, 3) := by decide +kernel
theorem dX1_dropOldest_26 : decode cX1_dropOldest 26 = .ok (.iload_n 2, 1) := by decide +kernel
theorem dX1_dropOldest_27 : decode cX1_dropOldest 27 = .ok (.aaload, 1) := by decide +kernel
theorem dX1_dropOldest_28 : decode cX1_dropOldest 28 = .ok (.aastore, 1) := by decide +kernel
theorem dX1_dropOldest_29 : decode cX1_dropOldest 29 = .ok (.iinc 2 1, 3) := by decide +kernel
theorem dX1_dropOldest_32 : decode cX1_dropOldest 32 = .ok (.goto (-23), 3) := by decide +kernel
theorem dX1_dropOldest_35 : decode cX1_dropOldest 35 = .ok (.aload_n 0, 1) := by decide +kernel
theorem dX1_dropOldest_36 : decode cX1_dropOldest 36 = .ok (.getfield 11, 3) := by decide +kernel
theorem dX1_dropOldest_39 : decode cX1_dropOldest 39 = .ok (.iconst 5, 1) := by decide +kernel
theorem dX1_dropOldest_40 : decode cX1_dropOldest 40 = .ok (.aload_n 1, 1) := by decide +kernel
theorem dX1_dropOldest_41 : decode cX1_dropOldest 41 = .ok (.aastore, 1) := by decide +kernel
theorem dX1_dropOldest_42 : decode cX1_dropOldest 42 = .ok (.aload_n 0, 1) := by decide +kernel
theorem dX1_dropOldest_43 : decode cX1_dropOldest 43 = .ok (.iconst 5, 1) := by decide +kernel
theorem dX1_dropOldest_44 : decode cX1_dropOldest 44 = .ok (.putfield 18, 3) := by decide +kernel
theorem dX1_dropOldest_47 : decode cX1_dropOldest 47 = .ok (.return_, 1) := by decide +kernel
theorem dX1_popInto_0 : decode cX1_popInto 0 = .ok (.aload_n 0, 1) := by decide +kernel
theorem dX1_popInto_1 : decode cX1_popInto 1 = .ok (.getfield 18, 3) := by decide +kernel
theorem dX1_popInto_4 : decode cX1_popInto 4 = .ok (.ifCond .le 26, 3) := by decide +kernel
theorem dX1_popInto_7 : decode cX1_popInto 7 = .ok (.aload_n 0, 1) := by decide +kernel
theorem dX1_popInto_8 : decode cX1_popInto 8 = .ok (.dup, 1) := by decide +kernel
theorem dX1_popInto_9 : decode cX1_popInto 9 = .ok (.getfield 18, 3) := by decide +kernel
theorem dX1_popInto_12 : decode cX1_popInto 12 = .ok (.iconst 1, 1) := by decide +kernel
theorem dX1_popInto_13 : decode cX1_popInto 13 = .ok (.isub, 1) := by decide +kernel
theorem dX1_popInto_14 : decode cX1_popInto 14 = .ok (.putfield 18, 3) := by decide +kernel
theorem dX1_popInto_17 : decode cX1_popInto 17 = .ok (.aload_n 1, 1) := by decide +kernel
theorem dX1_popInto_18 : decode cX1_popInto 18 = .ok (.aload_n 0, 1) := by decide +kernel
theorem dX1_popInto_19 : decode cX1_popInto 19 = .ok (.getfield 11, 3) := by decide +kernel
theorem dX1_popInto_22 : decode cX1_popInto 22 = .ok (.aload_n 0, 1) := by decide +kernel
theorem dX1_popInto_23 : decode cX1_popInto 23 = .ok (.getfield 18, 3) := by decide +kernel
theorem dX1_popInto_26 : decode cX1_popInto 26 = .ok (.aaload, 1) := by decide +kernel
theorem dX1_popInto_27 : decode cX1_popInto 27 = .ok (.invokevirtual 25, 3) := by decide +kernel
theorem dX1_popInto_30 : decode cX1_popInto 30 = .ok (.return_, 1) := by decide +kernel
theorem dX2_init_0 : decode cX2_init 0 = .ok (.aload_n 0, 1) := by decide +kernel
theorem dX2_init_1 : decode cX2_init 1 = .ok (.invokespecial 3, 3) := by decide +kernel
theorem dX2_init_4 : decode cX2_init 4 = .ok (.aload_n 0, 1) := by decide +kernel
theorem dX2_init_5 : decode cX2_init 5 = .ok (.bipush 80, 2) := by decide +kernel
theorem dX2_init_7 : decode cX2_init 7 = .ok (.newarray .char, 2) := by decide +kernel
theorem dX2_init_9 : decode cX2_init 9 = .ok (.putfield 9, 3) := by decide +kernel
theorem dX2_init_12 : decode cX2_init 12 = .ok (.return_, 1) := by decide +kernel
theorem dX2_append_0 : decode cX2_append 0 = .ok (.lload_n 1, 1) := by decide +kernel
theorem dX2_append_1 : decode cX2_append 1 = .ok (.invokestatic 15, 3) := by decide +kernel
theorem dX2_append_4 : decode cX2_append 4 = .ok (.istore_n 3, 1) := by decide +kernel
theorem dX2_append_5 : decode cX2_append 5 = .ok (.iload_n 3, 1) := by decide +kernel
theorem dX2_append_6 : decode cX2_append 6 = .ok (.ifCond .ge 6, 3) := by decide +kernel
theorem dX2_append_9 : decode cX2_append 9 = .ok (.bipush (-2), 2) := by decide +kernel
theorem dX2_append_11 : decode cX2_append 11 = .ok (.ireturn, 1) := by decide +kernel
theorem dX2_append_12 : decode cX2_append 12 = .ok (.aload_n 0, 1) := by decide +kernel
theorem dX2_append_13 : decode cX2_append 13 = .ok (.getfield 19, 3) := by decide +kernel
theorem dX2_append_16 : decode cX2_append 16 = .ok (.iload_n 3, 1) := by decide +kernel
theorem dX2_append_17 : decode cX2_append 17 = .ok (.iadd, 1) := by decide +kernel
theorem dX2_append_18 : decode cX2_append 18 = .ok (.bipush 80, 2) := by decide +kernel
theorem dX2_append_20 : decode cX2_append 20 = .ok (.if_icmp .le 6, 3) := by decide +kernel
theorem dX2_append_23 : decode cX2_append 23 = .ok (.bipush (-4), 2) := by decide +kernel
theorem dX2_append_25 : decode cX2_append 25 = .ok (.ireturn, 1) := by decide +kernel
theorem dX2_append_26 : decode cX2_append 26 = .ok (.lload_n 1, 1) := by decide +kernel
theorem dX2_append_27 : decode cX2_append 27 = .ok (.lstore 4, 2) := by decide +kernel
theorem dX2_append_29 : decode cX2_append 29 = .ok (.aload_n 0, 1) := by decide +kernel
theorem dX2_append_30 : decode cX2_append 30 = .ok (.getfield 19, 3) := by decide +kernel
theorem dX2_append_33 : decode cX2_append 33 = .ok (.iload_n 3, 1) := by decide +kernel
theorem dX2_append_34 : decode cX2_append 34 = .ok (.iadd, 1) := by decide +kernel
theorem dX2_append_35 : decode cX2_append 35 = .ok (.iconst 1, 1) := by decide +kernel
theorem dX2_append_36 : decode cX2_append 36 = .ok (.isub, 1) := by decide +kernel
theorem dX2_append_37 : decode cX2_append 37 = .ok (.istore 6, 2) := by decide +kernel
theorem dX2_append_39 : decode cX2_append 39 = .ok (.iload 6, 2) := by decide +kernel
theorem dX2_append_41 : decode cX2_append 41 = .ok (.aload_n 0, 1) := by decide +kernel
theorem dX2_append_42 : decode cX2_append 42 = .ok (.getfield 19, 3) := by decide +kernel
theorem dX2_append_45 : decode cX2_append 45 = .ok (.if_icmp .lt 31, 3) := by decide +kernel
theorem dX2_append_48 : decode cX2_append 48 = .ok (.aload_n 0, 1) := by decide +kernel
theorem dX2_append_49 : decode cX2_append 49 = .ok (.getfield 9, 3) := by decide +kernel
theorem dX2_append_52 : decode cX2_append 52 = .ok (.iload 6, 2) := by decide +kernel
theorem dX2_append_54 : decode cX2_append 54 = .ok (.lload 4, 2) := by decide +kernel
theorem dX2_append_56 : decode cX2_append 56 = .ok (.ldc2_w 23, 3) := by decide +kernel
theorem dX2_append_59 : decode cX2_append 59 = .ok (.land, 1) := by decide +kernel
theorem dX2_append_60 : decode cX2_append 60 = .ok (.l2i, 1) := by decide +kernel
theorem dX2_append_61 : decode cX2_append 61 = .ok (.i2c, 1) := by decide +kernel
theorem dX2_append_62 : decode cX2_append 62 = .ok (.castore, 1) := by decide +kernel
theorem dX2_append_63 : decode cX2_append 63 = .ok (.lload 4, 2) := by decide +kernel
theorem dX2_append_65 : decode cX2_append 65 = .ok (.bipush 8, 2) := by decide +kernel
theorem dX2_append_67 : decode cX2_append 67 = .ok (.lushr, 1) := by decide +kernel
theorem dX2_append_68 : decode cX2_append 68 = .ok (.lstore 4, 2) := by decide +kernel
theorem dX2_append_70 : decode cX2_append 70 = .ok (.iinc 6 (-1), 3) := by decide +kernel
theorem dX2_append_73 : decode cX2_append 73 = .ok (.goto (-34), 3) := by decide +kernel
theorem dX2_append_76 : decode cX2_append 76 = .ok (.aload_n 0, 1) := by decide +kernel
theorem dX2_append_77 : decode cX2_append 77 = .ok (.dup, 1) := by decide +kernel
theorem dX2_append_78 : decode cX2_append 78 = .ok (.getfield 19, 3) := by decide +kernel
theorem dX2_append_81 : decode cX2_append 81 = .ok (.iload_n 3, 1) := by decide +kernel
theorem dX2_append_82 : decode cX2_append 82 = .ok (.iadd, 1) := by decide +kernel
theorem dX2_append_83 : decode cX2_append 83 = .ok (.putfield 19, 3) := by decide +kernel
theorem dX2_append_86 : decode cX2_append 86 = .ok (.aload_n 0, 1) := by decide +kernel
theorem dX2_append_87 : decode cX2_append 87 = .ok (.getfield 19, 3) := by decide +kernel
theorem dX2_append_90 : decode cX2_append 90 = .ok (.ireturn, 1) := by decide +kernel
theorem dX2_countOf_0 : decode cX2_countOf 0 = .ok (.iconst 0, 1) := by decide +kernel
theorem dX2_countOf_1 : decode cX2_countOf 1 = .ok (.istore_n 2, 1) := by decide +kernel
theorem dX2_countOf_2 : decode cX2_countOf 2 = .ok (.lload_n 0, 1) := by decide +kernel
theorem dX2_countOf_3 : decode cX2_countOf 3 = .ok (.lstore_n 3, 1) := by decide +kernel
theorem dX2_countOf_4 : decode cX2_countOf 4 = .ok (.iload_n 2, 1) := by decide +kernel
theorem dX2_countOf_5 : decode cX2_countOf 5 = .ok (.bipush 8, 2) := by decide +kernel
theorem dX2_countOf_7 : decode cX2_countOf 7 = .ok (.if_icmp .ge 49, 3) := by decide +kernel
theorem dX2_countOf_10 : decode cX2_countOf 10 = .ok (.lload_n 3, 1) := by decide +kernel
theorem dX2_countOf_11 : decode cX2_countOf 11 = .ok (.ldc2_w 23, 3) := by decide +kernel
theorem dX2_countOf_14 : decode cX2_countOf 14 = .ok (.land, 1) := by decide +kernel
theorem dX2_countOf_15 : decode cX2_countOf 15 = .ok (.lconst 0, 1) := by decide +kernel
theorem dX2_countOf_16 : decode cX2_countOf 16 = .ok (.lcmp, 1) := by decide +kernel
theorem dX2_countOf_17 : decode cX2_countOf 17 = .ok (.ifCond .eq 39, 3) := by decide +kernel
theorem dX2_countOf_20 : decode cX2_countOf 20 = .ok (.lload_n 3, 1) := by decide +kernel
theorem dX2_countOf_21 : decode cX2_countOf 21 = .ok (.ldc2_w 23, 3) := by decide +kernel
theorem dX2_countOf_24 : decode cX2_countOf 24 = .ok (.land, 1) := by decide +kernel
theorem dX2_countOf_25 : decode cX2_countOf 25 = .ok (.l2i, 1) := by decide +kernel
theorem dX2_countOf_26 : decode cX2_countOf 26 = .ok (.istore 5, 2) := by decide +kernel
theorem dX2_countOf_28 : decode cX2_countOf 28 = .ok (.iload 5, 2) := by decide +kernel
theorem dX2_countOf_30 : decode cX2_countOf 30 = .ok (.bipush 33, 2) := by decide +kernel
theorem dX2_countOf_32 : decode cX2_countOf 32 = .ok (.if_icmp .lt 10, 3) := by decide +kernel
theorem dX2_countOf_35 : decode cX2_countOf 35 = .ok (.iload 5, 2) := by decide +kernel
theorem dX2_countOf_37 : decode cX2_countOf 37 = .ok (.bipush 126, 2) := by decide +kernel
theorem dX2_countOf_39 : decode cX2_countOf 39 = .ok (.if_icmp .le 6, 3) := by decide +kernel
theorem dX2_countOf_42 : decode cX2_countOf 42 = .ok (.bipush (-2), 2) := by decide +kernel
theorem dX2_countOf_44 : decode cX2_countOf 44 = .ok (.ireturn, 1) := by decide +kernel
theorem dX2_countOf_45 : decode cX2_countOf 45 = .ok (.iinc 2 1, 3) := by decide +kernel
theorem dX2_countOf_48 : decode cX2_countOf 48 = .ok (.lload_n 3, 1) := by decide +kernel
theorem dX2_countOf_49 : decode cX2_countOf 49 = .ok (.bipush 8, 2) := by decide +kernel
theorem dX2_countOf_51 : decode cX2_countOf 51 = .ok (.lushr, 1) := by decide +kernel
theorem dX2_countOf_52 : decode cX2_countOf 52 = .ok (.lstore_n 3, 1) := by decide +kernel
theorem dX2_countOf_53 : decode cX2_countOf 53 = .ok (.goto (-49), 3) := by decide +kernel
theorem dX2_countOf_56 : decode cX2_countOf 56 = .ok (.iload_n 2, 1) := by decide +kernel
theorem dX2_countOf_57 : decode cX2_countOf 57 = .ok (.ifCond .eq 9, 3) := by decide +kernel
theorem dX2_countOf_60 : decode cX2_countOf 60 = .ok (.lload_n 3, 1) := by decide +kernel
theorem dX2_countOf_61 : decode cX2_countOf 61 = .ok (.lconst 0, 1) := by decide +kernel
theorem dX2_countOf_62 : decode cX2_countOf 62 = .ok (.lcmp, 1) := by decide +kernel
theorem dX2_countOf_63 : decode cX2_countOf 63 = .ok (.ifCond .eq 8, 3) := by decide +kernel
theorem dX2_countOf_66 : decode cX2_countOf 66 = .ok (.bipush (-2), 2) := by decide +kernel
theorem dX2_countOf_68 : decode cX2_countOf 68 = .ok (.goto 4, 3) := by decide +kernel
theorem dX2_countOf_71 : decode cX2_countOf 71 = .ok (.iload_n 2, 1) := by decide +kernel
theorem dX2_countOf_72 : decode cX2_countOf 72 = .ok (.ireturn, 1) := by decide +kernel
theorem dX2_findFault_0 : decode cX2_findFault 0 = .ok (.aload_n 0, 1) := by decide +kernel
theorem dX2_findFault_1 : decode cX2_findFault 1 = .ok (.iconst 0, 1) := by decide +kernel
theorem dX2_findFault_2 : decode cX2_findFault 2 = .ok (.putfield 25, 3) := by decide +kernel
theorem dX2_findFault_5 : decode cX2_findFault 5 = .ok (.iconst 0, 1) := by decide +kernel
theorem dX2_findFault_6 : decode cX2_findFault 6 = .ok (.istore_n 1, 1) := by decide +kernel
theorem dX2_findFault_7 : decode cX2_findFault 7 = .ok (.iload_n 1, 1) := by decide +kernel
theorem dX2_findFault_8 : decode cX2_findFault 8 = .ok (.bipush 80, 2) := by decide +kernel
theorem dX2_findFault_10 : decode cX2_findFault 10 = .ok (.if_icmp .ge 49, 3) := by decide +kernel
theorem dX2_findFault_13 : decode cX2_findFault 13 = .ok (.aload_n 0, 1) := by decide +kernel
theorem dX2_findFault_14 : decode cX2_findFault 14 = .ok (.invokevirtual 28, 3) := by decide +kernel
theorem dX2_findFault_17 : decode cX2_findFault 17 = .ok (.ifCond .ne 8, 3) := by decide +kernel
theorem dX2_findFault_20 : decode cX2_findFault 20 = .ok (.aload_n 0, 1) := by decide +kernel
theorem dX2_findFault_21 : decode cX2_findFault 21 = .ok (.getfield 25, 3) := by decide +kernel
theorem dX2_findFault_24 : decode cX2_findFault 24 = .ok (.ireturn, 1) := by decide +kernel
theorem dX2_findFault_25 : decode cX2_findFault 25 = .ok (.aload_n 0, 1) := by decide +kernel
theorem dX2_findFault_26 : decode cX2_findFault 26 = .ok (.getfield 25, 3) := by decide +kernel
theorem dX2_findFault_29 : decode cX2_findFault 29 = .ok (.aload_n 0, 1) := by decide +kernel
theorem dX2_findFault_30 : decode cX2_findFault 30 = .ok (.getfield 19, 3) := by decide +kernel
theorem dX2_findFault_33 : decode cX2_findFault 33 = .ok (.if_icmp .lt 6, 3) := by decide +kernel
theorem dX2_findFault_36 : decode cX2_findFault 36 = .ok (.bipush (-6), 2) := by decide +kernel
theorem dX2_findFault_38 : decode cX2_findFault 38 = .ok (.ireturn, 1) := by decide +kernel
theorem dX2_findFault_39 : decode cX2_findFault 39 = .ok (.aload_n 0, 1) := by decide +kernel
theorem dX2_findFault_40 : decode cX2_findFault 40 = .ok (.bipush 59, 2) := by decide +kernel
theorem dX2_findFault_42 : decode cX2_findFault 42 = .ok (.invokevirtual 32, 3) := by decide +kernel
theorem dX2_findFault_45 : decode cX2_findFault 45 = .ok (.ifCond .ne 8, 3) := by decide +kernel
theorem dX2_findFault_48 : decode cX2_findFault 48 = .ok (.aload_n 0, 1) := by decide +kernel
theorem dX2_findFault_49 : decode cX2_findFault 49 = .ok (.getfield 25, 3) := by decide +kernel
theorem dX2_findFault_52 : decode cX2_findFault 52 = .ok (.ireturn, 1) := by decide +kernel
theorem dX2_findFault_53 : decode cX2_findFault 53 = .ok (.iinc 1 1, 3) := by decide +kernel
theorem dX2_findFault_56 : decode cX2_findFault 56 = .ok (.goto (-49), 3) := by decide +kernel
theorem dX2_findFault_59 : decode cX2_findFault 59 = .ok (.aload_n 0, 1) := by decide +kernel
theorem dX2_findFault_60 : decode cX2_findFault 60 = .ok (.getfield 25, 3) := by decide +kernel
theorem dX2_findFault_63 : decode cX2_findFault 63 = .ok (.ireturn, 1) := by decide +kernel
theorem dX2_readOrder_0 : decode cX2_readOrder 0 = .ok (.aload_n 0, 1) := by decide +kernel
theorem dX2_readOrder_1 : decode cX2_readOrder 1 = .ok (.aload_n 0, 1) := by decide +kernel
theorem dX2_readOrder_2 : decode cX2_readOrder 2 = .ok (.invokevirtual 36, 3) := by decide +kernel
theorem dX2_readOrder_5 : decode cX2_readOrder 5 = .ok (.putfield 40, 3) := by decide +kernel
theorem dX2_readOrder_8 : decode cX2_readOrder 8 = .ok (.aload_n 0, 1) := by decide +kernel
theorem dX2_readOrder_9 : decode cX2_readOrder 9 = .ok (.getfield 40, 3) := by decide +kernel
theorem dX2_readOrder_12 : decode cX2_readOrder 12 = .ok (.lookupswitch 121 #[(103, 106), (108, 67), (112, 52), (116, 106), (120, 106)], 52) := by decide +kernel
theorem dX2_readOrder_64 : decode cX2_readOrder 64 = .ok (.aload_n 0, 1) := by decide +kernel
theorem dX2_readOrder_65 : decode cX2_readOrder 65 = .ok (.dup, 1) := by decide +kernel
theorem dX2_readOrder_66 : decode cX2_readOrder 66 = .ok (.getfield 25, 3) := by decide +kernel
theorem dX2_readOrder_69 : decode cX2_readOrder 69 = .ok (.iconst 1, 1) := by decide +kernel
theorem dX2_readOrder_70 : decode cX2_readOrder 70 = .ok (.iadd, 1) := by decide +kernel
theorem dX2_readOrder_71 : decode cX2_readOrder 71 = .ok (.putfield 25, 3) := by decide +kernel
theorem dX2_readOrder_74 : decode cX2_readOrder 74 = .ok (.aload_n 0, 1) := by decide +kernel
theorem dX2_readOrder_75 : decode cX2_readOrder 75 = .ok (.invokevirtual 43, 3) := by decide +kernel
theorem dX2_readOrder_78 : decode cX2_readOrder 78 = .ok (.ireturn, 1) := by decide +kernel
theorem dX2_readOrder_79 : decode cX2_readOrder 79 = .ok (.aload_n 0, 1) := by decide +kernel
theorem dX2_readOrder_80 : decode cX2_readOrder 80 = .ok (.dup, 1) := by decide +kernel
theorem dX2_readOrder_81 : decode cX2_readOrder 81 = .ok (.getfield 25, 3) := by decide +kernel
theorem dX2_readOrder_84 : decode cX2_readOrder 84 = .ok (.iconst 1, 1) := by decide +kernel
theorem dX2_readOrder_85 : decode cX2_readOrder 85 = .ok (.iadd, 1) := by decide +kernel
theorem dX2_readOrder_86 : decode cX2_readOrder 86 = .ok (.putfield 25, 3) := by decide +kernel
theorem dX2_readOrder_89 : decode cX2_readOrder 89 = .ok (.aload_n 0, 1) := by decide +kernel
theorem dX2_readOrder_90 : decode cX2_readOrder 90 = .ok (.invokevirtual 46, 3) := by decide +kernel
theorem dX2_readOrder_93 : decode cX2_readOrder 93 = .ok (.ifCond .eq 23, 3) := by decide +kernel
theorem dX2_readOrder_96 : decode cX2_readOrder 96 = .ok (.aload_n 0, 1) := by decide +kernel
theorem dX2_readOrder_97 : decode cX2_readOrder 97 = .ok (.bipush 61, 2) := by decide +kernel
theorem dX2_readOrder_99 : decode cX2_readOrder 99 = .ok (.invokevirtual 32, 3) := by decide +kernel
theorem dX2_readOrder_102 : decode cX2_readOrder 102 = .ok (.ifCond .eq 14, 3) := by decide +kernel
theorem dX2_readOrder_105 : decode cX2_readOrder 105 = .ok (.aload_n 0, 1) := by decide +kernel
theorem dX2_readOrder_106 : decode cX2_readOrder 106 = .ok (.invokevirtual 49, 3) := by decide +kernel
theorem dX2_readOrder_109 : decode cX2_readOrder 109 = .ok (.ifCond .eq 7, 3) := by decide +kernel
theorem dX2_readOrder_112 : decode cX2_readOrder 112 = .ok (.iconst 1, 1) := by decide +kernel
theorem dX2_readOrder_113 : decode cX2_readOrder 113 = .ok (.goto 4, 3) := by decide +kernel
theorem dX2_readOrder_116 : decode cX2_readOrder 116 = .ok (.iconst 0, 1) := by decide +kernel
theorem dX2_readOrder_117 : decode cX2_readOrder 117 = .ok (.ireturn, 1) := by decide +kernel
theorem dX2_readOrder_118 : decode cX2_readOrder 118 = .ok (.aload_n 0, 1) := by decide +kernel
theorem dX2_readOrder_119 : decode cX2_readOrder 119 = .ok (.dup, 1) := by decide +kernel
theorem dX2_readOrder_120 : decode cX2_readOrder 120 = .ok (.getfield 25, 3) := by decide +kernel
theorem dX2_readOrder_123 : decode cX2_readOrder 123 = .ok (.iconst 1, 1) := by decide +kernel
theorem dX2_readOrder_124 : decode cX2_readOrder 124 = .ok (.iadd, 1) := by decide +kernel
theorem dX2_readOrder_125 : decode cX2_readOrder 125 = .ok (.putfield 25, 3) := by decide +kernel
theorem dX2_readOrder_128 : decode cX2_readOrder 128 = .ok (.aload_n 0, 1) := by decide +kernel
theorem dX2_readOrder_129 : decode cX2_readOrder 129 = .ok (.invokevirtual 46, 3) := by decide +kernel
theorem dX2_readOrder_132 : decode cX2_readOrder 132 = .ok (.ireturn, 1) := by decide +kernel
theorem dX2_readOrder_133 : decode cX2_readOrder 133 = .ok (.iconst 0, 1) := by decide +kernel
theorem dX2_readOrder_134 : decode cX2_readOrder 134 = .ok (.ireturn, 1) := by decide +kernel
theorem dX2_readPaddle_0 : decode cX2_readPaddle 0 = .ok (.aload_n 0, 1) := by decide +kernel
theorem dX2_readPaddle_1 : decode cX2_readPaddle 1 = .ok (.invokevirtual 46, 3) := by decide +kernel
theorem dX2_readPaddle_4 : decode cX2_readPaddle 4 = .ok (.ifCond .eq 26, 3) := by decide +kernel
theorem dX2_readPaddle_7 : decode cX2_readPaddle 7 = .ok (.aload_n 0, 1) := by decide +kernel
theorem dX2_readPaddle_8 : decode cX2_readPaddle 8 = .ok (.invokevirtual 52, 3) := by decide +kernel
theorem dX2_readPaddle_11 : decode cX2_readPaddle 11 = .ok (.ifCond .eq 19, 3) := by decide +kernel
theorem dX2_readPaddle_14 : decode cX2_readPaddle 14 = .ok (.aload_n 0, 1) := by decide +kernel
theorem dX2_readPaddle_15 : decode cX2_readPaddle 15 = .ok (.invokevirtual 49, 3) := by decide +kernel
theorem dX2_readPaddle_18 : decode cX2_readPaddle 18 = .ok (.ifCond .eq 12, 3) := by decide +kernel
theorem dX2_readPaddle_21 : decode cX2_readPaddle 21 = .ok (.aload_n 0, 1) := by decide +kernel
theorem dX2_readPaddle_22 : decode cX2_readPaddle 22 = .ok (.bipush 47, 2) := by decide +kernel
theorem dX2_readPaddle_24 : decode cX2_readPaddle 24 = .ok (.invokevirtual 32, 3) := by decide +kernel
theorem dX2_readPaddle_27 : decode cX2_readPaddle 27 = .ok (.ifCond .ne 5, 3) := by decide +kernel
theorem dX2_readPaddle_30 : decode cX2_readPaddle 30 = .ok (.iconst 0, 1) := by decide +kernel
theorem dX2_readPaddle_31 : decode cX2_readPaddle 31 = .ok (.ireturn, 1) := by decide +kernel
theorem dX2_readPaddle_32 : decode cX2_readPaddle 32 = .ok (.aload_n 0, 1) := by decide +kernel
theorem dX2_readPaddle_33 : decode cX2_readPaddle 33 = .ok (.aload_n 0, 1) := by decide +kernel
theorem dX2_readPaddle_34 : decode cX2_readPaddle 34 = .ok (.invokevirtual 55, 3) := by decide +kernel
theorem dX2_readPaddle_37 : decode cX2_readPaddle 37 = .ok (.putfield 58, 3) := by decide +kernel
theorem dX2_readPaddle_40 : decode cX2_readPaddle 40 = .ok (.aload_n 0, 1) := by decide +kernel
theorem dX2_readPaddle_41 : decode cX2_readPaddle 41 = .ok (.iconst 0, 1) := by decide +kernel
theorem dX2_readPaddle_42 : decode cX2_readPaddle 42 = .ok (.putfield 61, 3) := by decide +kernel
theorem dX2_readPaddle_45 : decode cX2_readPaddle 45 = .ok (.aload_n 0, 1) := by decide +kernel
theorem dX2_readPaddle_46 : decode cX2_readPaddle 46 = .ok (.getfield 58, 3) := by decide +kernel
theorem dX2_readPaddle_49 : decode cX2_readPaddle 49 = .ok (.ifCond .lt 20, 3) := by decide +kernel
theorem dX2_readPaddle_52 : decode cX2_readPaddle 52 = .ok (.aload_n 0, 1) := by decide +kernel
theorem dX2_readPaddle_53 : decode cX2_readPaddle 53 = .ok (.bipush 43, 2) := by decide +kernel
theorem dX2_readPaddle_55 : decode cX2_readPaddle 55 = .ok (.invokevirtual 32, 3) := by decide +kernel
theorem dX2_readPaddle_58 : decode cX2_readPaddle 58 = .ok (.ifCond .eq 11, 3) := by decide +kernel
theorem dX2_readPaddle_61 : decode cX2_readPaddle 61 = .ok (.aload_n 0, 1) := by decide +kernel
theorem dX2_readPaddle_62 : decode cX2_readPaddle 62 = .ok (.aload_n 0, 1) := by decide +kernel
theorem dX2_readPaddle_63 : decode cX2_readPaddle 63 = .ok (.invokevirtual 55, 3) := by decide +kernel
theorem dX2_readPaddle_66 : decode cX2_readPaddle 66 = .ok (.putfield 61, 3) := by decide +kernel
theorem dX2_readPaddle_69 : decode cX2_readPaddle 69 = .ok (.aload_n 0, 1) := by decide +kernel
theorem dX2_readPaddle_70 : decode cX2_readPaddle 70 = .ok (.getfield 58, 3) := by decide +kernel
theorem dX2_readPaddle_73 : decode cX2_readPaddle 73 = .ok (.ifCond .lt 14, 3) := by decide +kernel
theorem dX2_readPaddle_76 : decode cX2_readPaddle 76 = .ok (.aload_n 0, 1) := by decide +kernel
theorem dX2_readPaddle_77 : decode cX2_readPaddle 77 = .ok (.getfield 61, 3) := by decide +kernel
theorem dX2_readPaddle_80 : decode cX2_readPaddle 80 = .ok (.ifCond .lt 7, 3) := by decide +kernel
theorem dX2_readPaddle_83 : decode cX2_readPaddle 83 = .ok (.iconst 1, 1) := by decide +kernel
theorem dX2_readPaddle_84 : decode cX2_readPaddle 84 = .ok (.goto 4, 3) := by decide +kernel
theorem dX2_readPaddle_87 : decode cX2_readPaddle 87 = .ok (.iconst 0, 1) := by decide +kernel
theorem dX2_readPaddle_88 : decode cX2_readPaddle 88 = .ok (.ireturn, 1) := by decide +kernel
theorem dX2_readTarget_0 : decode cX2_readTarget 0 = .ok (.aload_n 0, 1) := by decide +kernel
theorem dX2_readTarget_1 : decode cX2_readTarget 1 = .ok (.aload_n 0, 1) := by decide +kernel
theorem dX2_readTarget_2 : decode cX2_readTarget 2 = .ok (.invokevirtual 55, 3) := by decide +kernel
theorem dX2_readTarget_5 : decode cX2_readTarget 5 = .ok (.putfield 64, 3) := by decide +kernel
theorem dX2_readTarget_8 : decode cX2_readTarget 8 = .ok (.aload_n 0, 1) := by decide +kernel
theorem dX2_readTarget_9 : decode cX2_readTarget 9 = .ok (.getfield 64, 3) := by decide +kernel
theorem dX2_readTarget_12 : decode cX2_readTarget 12 = .ok (.ifCond .lt 7, 3) := by decide +kernel
theorem dX2_readTarget_15 : decode cX2_readTarget 15 = .ok (.iconst 1, 1) := by decide +kernel
theorem dX2_readTarget_16 : decode cX2_readTarget 16 = .ok (.goto 4, 3) := by decide +kernel
theorem dX2_readTarget_19 : decode cX2_readTarget 19 = .ok (.iconst 0, 1) := by decide +kernel
theorem dX2_readTarget_20 : decode cX2_readTarget 20 = .ok (.ireturn, 1) := by decide +kernel
theorem dX2_readSort_0 : decode cX2_readSort 0 = .ok (.aload_n 0, 1) := by decide +kernel
theorem dX2_readSort_1 : decode cX2_readSort 1 = .ok (.invokevirtual 36, 3) := by decide +kernel
theorem dX2_readSort_4 : decode cX2_readSort 4 = .ok (.lookupswitch 76 #[(98, 60), (102, 44), (115, 52), (116, 68)], 44) := by decide +kernel
theorem dX2_readSort_48 : decode cX2_readSort 48 = .ok (.aload_n 0, 1) := by decide +kernel
theorem dX2_readSort_49 : decode cX2_readSort 49 = .ok (.iconst 0, 1) := by decide +kernel
theorem dX2_readSort_50 : decode cX2_readSort 50 = .ok (.putfield 67, 3) := by decide +kernel
theorem dX2_readSort_53 : decode cX2_readSort 53 = .ok (.goto 29, 3) := by decide +kernel
theorem dX2_readSort_56 : decode cX2_readSort 56 = .ok (.aload_n 0, 1) := by decide +kernel
theorem dX2_readSort_57 : decode cX2_readSort 57 = .ok (.iconst 1, 1) := by decide +kernel
theorem dX2_readSort_58 : decode cX2_readSort 58 = .ok (.putfield 67, 3) := by decide +kernel
theorem dX2_readSort_61 : decode cX2_readSort 61 = .ok (.goto 21, 3) := by decide +kernel
theorem dX2_readSort_64 : decode cX2_readSort 64 = .ok (.aload_n 0, 1) := by decide +kernel
theorem dX2_readSort_65 : decode cX2_readSort 65 = .ok (.iconst 2, 1) := by decide +kernel
theorem dX2_readSort_66 : decode cX2_readSort 66 = .ok (.putfield 67, 3) := by decide +kernel
theorem dX2_readSort_69 : decode cX2_readSort 69 = .ok (.goto 13, 3) := by decide +kernel
theorem dX2_readSort_72 : decode cX2_readSort 72 = .ok (.aload_n 0, 1) := by decide +kernel
theorem dX2_readSort_73 : decode cX2_readSort 73 = .ok (.iconst 3, 1) := by decide +kernel
theorem dX2_readSort_74 : decode cX2_readSort 74 = .ok (.putfield 67, 3) := by decide +kernel
theorem dX2_readSort_77 : decode cX2_readSort 77 = .ok (.goto 5, 3) := by decide +kernel
theorem dX2_readSort_80 : decode cX2_readSort 80 = .ok (.iconst 0, 1) := by decide +kernel
theorem dX2_readSort_81 : decode cX2_readSort 81 = .ok (.ireturn, 1) := by decide +kernel
theorem dX2_readSort_82 : decode cX2_readSort 82 = .ok (.aload_n 0, 1) := by decide +kernel
theorem dX2_readSort_83 : decode cX2_readSort 83 = .ok (.dup, 1) := by decide +kernel
theorem dX2_readSort_84 : decode cX2_readSort 84 = .ok (.getfield 25, 3) := by decide +kernel
theorem dX2_readSort_87 : decode cX2_readSort 87 = .ok (.iconst 1, 1) := by decide +kernel
theorem dX2_readSort_88 : decode cX2_readSort 88 = .ok (.iadd, 1) := by decide +kernel
theorem dX2_readSort_89 : decode cX2_readSort 89 = .ok (.putfield 25, 3) := by decide +kernel
theorem dX2_readSort_92 : decode cX2_readSort 92 = .ok (.iconst 1, 1) := by decide +kernel
theorem dX2_readSort_93 : decode cX2_readSort 93 = .ok (.ireturn, 1) := by decide +kernel
theorem dX2_readValue_0 : decode cX2_readValue 0 = .ok (.aload_n 0, 1) := by decide +kernel
theorem dX2_readValue_1 : decode cX2_readValue 1 = .ok (.bipush 45, 2) := by decide +kernel
theorem dX2_readValue_3 : decode cX2_readValue 3 = .ok (.invokevirtual 32, 3) := by decide +kernel
theorem dX2_readValue_6 : decode cX2_readValue 6 = .ok (.istore_n 1, 1) := by decide +kernel
theorem dX2_readValue_7 : decode cX2_readValue 7 = .ok (.aload_n 0, 1) := by decide +kernel
theorem dX2_readValue_8 : decode cX2_readValue 8 = .ok (.invokevirtual 55, 3) := by decide +kernel
theorem dX2_readValue_11 : decode cX2_readValue 11 = .ok (.istore_n 2, 1) := by decide +kernel
theorem dX2_readValue_12 : decode cX2_readValue 12 = .ok (.aload_n 0, 1) := by decide +kernel
theorem dX2_readValue_13 : decode cX2_readValue 13 = .ok (.iload_n 1, 1) := by decide +kernel
theorem dX2_readValue_14 : decode cX2_readValue 14 = .ok (.ifCond .eq 8, 3) := by decide +kernel
theorem dX2_readValue_17 : decode cX2_readValue 17 = .ok (.iload_n 2, 1) := by decide +kernel
theorem dX2_readValue_18 : decode cX2_readValue 18 = .ok (.ineg, 1) := by decide +kernel
theorem dX2_readValue_19 : decode cX2_readValue 19 = .ok (.goto 4, 3) := by decide +kernel
theorem dX2_readValue_22 : decode cX2_readValue 22 = .ok (.iload_n 2, 1) := by decide +kernel
theorem dX2_readValue_23 : decode cX2_readValue 23 = .ok (.putfield 70, 3) := by decide +kernel
theorem dX2_readValue_26 : decode cX2_readValue 26 = .ok (.iload_n 2, 1) := by decide +kernel
theorem dX2_readValue_27 : decode cX2_readValue 27 = .ok (.ifCond .lt 7, 3) := by decide +kernel
theorem dX2_readValue_30 : decode cX2_readValue 30 = .ok (.iconst 1, 1) := by decide +kernel
theorem dX2_readValue_31 : decode cX2_readValue 31 = .ok (.goto 4, 3) := by decide +kernel
theorem dX2_readValue_34 : decode cX2_readValue 34 = .ok (.iconst 0, 1) := by decide +kernel
theorem dX2_readValue_35 : decode cX2_readValue 35 = .ok (.ireturn, 1) := by decide +kernel
theorem dX2_readNumber_0 : decode cX2_readNumber 0 = .ok (.aload_n 0, 1) := by decide +kernel
theorem dX2_readNumber_1 : decode cX2_readNumber 1 = .ok (.invokevirtual 73, 3) := by decide +kernel
theorem dX2_readNumber_4 : decode cX2_readNumber 4 = .ok (.ifCond .ne 6, 3) := by decide +kernel
theorem dX2_readNumber_7 : decode cX2_readNumber 7 = .ok (.bipush (-3), 2) := by decide +kernel
theorem dX2_readNumber_9 : decode cX2_readNumber 9 = .ok (.ireturn, 1) := by decide +kernel
theorem dX2_readNumber_10 : decode cX2_readNumber 10 = .ok (.aload_n 0, 1) := by decide +kernel
theorem dX2_readNumber_11 : decode cX2_readNumber 11 = .ok (.invokevirtual 36, 3) := by decide +kernel
theorem dX2_readNumber_14 : decode cX2_readNumber 14 = .ok (.bipush 48, 2) := by decide +kernel
theorem dX2_readNumber_16 : decode cX2_readNumber 16 = .ok (.isub, 1) := by decide +kernel
theorem dX2_readNumber_17 : decode cX2_readNumber 17 = .ok (.istore_n 1, 1) := by decide +kernel
theorem dX2_readNumber_18 : decode cX2_readNumber 18 = .ok (.aload_n 0, 1) := by decide +kernel
theorem dX2_readNumber_19 : decode cX2_readNumber 19 = .ok (.dup, 1) := by decide +kernel
theorem dX2_readNumber_20 : decode cX2_readNumber 20 = .ok (.getfield 25, 3) := by decide +kernel
theorem dX2_readNumber_23 : decode cX2_readNumber 23 = .ok (.iconst 1, 1) := by decide +kernel
theorem dX2_readNumber_24 : decode cX2_readNumber 24 = .ok (.iadd, 1) := by decide +kernel
theorem dX2_readNumber_25 : decode cX2_readNumber 25 = .ok (.putfield 25, 3) := by decide +kernel
theorem dX2_readNumber_28 : decode cX2_readNumber 28 = .ok (.iconst 1, 1) := by decide +kernel
theorem dX2_readNumber_29 : decode cX2_readNumber 29 = .ok (.istore_n 2, 1) := by decide +kernel
theorem dX2_readNumber_30 : decode cX2_readNumber 30 = .ok (.iload_n 2, 1) := by decide +kernel
theorem dX2_readNumber_31 : decode cX2_readNumber 31 = .ok (.iconst 3, 1) := by decide +kernel
theorem dX2_readNumber_32 : decode cX2_readNumber 32 = .ok (.if_icmp .ge 43, 3) := by decide +kernel
theorem dX2_readNumber_35 : decode cX2_readNumber 35 = .ok (.iload_n 1, 1) := by decide +kernel
theorem dX2_readNumber_36 : decode cX2_readNumber 36 = .ok (.ifCond .le 39, 3) := by decide +kernel
theorem dX2_readNumber_39 : decode cX2_readNumber 39 = .ok (.aload_n 0, 1) := by decide +kernel
theorem dX2_readNumber_40 : decode cX2_readNumber 40 = .ok (.invokevirtual 73, 3) := by decide +kernel
theorem dX2_readNumber_43 : decode cX2_readNumber 43 = .ok (.ifCond .eq 32, 3) := by decide +kernel
theorem dX2_readNumber_46 : decode cX2_readNumber 46 = .ok (.bipush 10, 2) := by decide +kernel
theorem dX2_readNumber_48 : decode cX2_readNumber 48 = .ok (.iload_n 1, 1) := by decide +kernel
theorem dX2_readNumber_49 : decode cX2_readNumber 49 = .ok (.imul, 1) := by decide +kernel
theorem dX2_readNumber_50 : decode cX2_readNumber 50 = .ok (.aload_n 0, 1) := by decide +kernel
theorem dX2_readNumber_51 : decode cX2_readNumber 51 = .ok (.invokevirtual 36, 3) := by decide +kernel
theorem dX2_readNumber_54 : decode cX2_readNumber 54 = .ok (.iadd, 1) := by decide +kernel
theorem dX2_readNumber_55 : decode cX2_readNumber 55 = .ok (.bipush 48, 2) := by decide +kernel
theorem dX2_readNumber_57 : decode cX2_readNumber 57 = .ok (.isub, 1) := by decide +kernel
theorem dX2_readNumber_58 : decode cX2_readNumber 58 = .ok (.istore_n 1, 1) := by decide +kernel
theorem dX2_readNumber_59 : decode cX2_readNumber 59 = .ok (.aload_n 0, 1) := by decide +kernel
theorem dX2_readNumber_60 : decode cX2_readNumber 60 = .ok (.dup, 1) := by decide +kernel
theorem dX2_readNumber_61 : decode cX2_readNumber 61 = .ok (.getfield 25, 3) := by decide +kernel
theorem dX2_readNumber_64 : decode cX2_readNumber 64 = .ok (.iconst 1, 1) := by decide +kernel
theorem dX2_readNumber_65 : decode cX2_readNumber 65 = .ok (.iadd, 1) := by decide +kernel
theorem dX2_readNumber_66 : decode cX2_readNumber 66 = .ok (.putfield 25, 3) := by decide +kernel
theorem dX2_readNumber_69 : decode cX2_readNumber 69 = .ok (.iinc 2 1, 3) := by decide +kernel
theorem dX2_readNumber_72 : decode cX2_readNumber 72 = .ok (.goto (-42), 3) := by decide +kernel
theorem dX2_readNumber_75 : decode cX2_readNumber 75 = .ok (.iload_n 1, 1) := by decide +kernel
theorem dX2_readNumber_76 : decode cX2_readNumber 76 = .ok (.ireturn, 1) := by decide +kernel
theorem dX2_isDigitHere_0 : decode cX2_isDigitHere 0 = .ok (.aload_n 0, 1) := by decide +kernel
theorem dX2_isDigitHere_1 : decode cX2_isDigitHere 1 = .ok (.invokevirtual 36, 3) := by decide +kernel
theorem dX2_isDigitHere_4 : decode cX2_isDigitHere 4 = .ok (.bipush 48, 2) := by decide +kernel
theorem dX2_isDigitHere_6 : decode cX2_isDigitHere 6 = .ok (.if_icmp .lt 16, 3) := by decide +kernel
theorem dX2_isDigitHere_9 : decode cX2_isDigitHere 9 = .ok (.aload_n 0, 1) := by decide +kernel
theorem dX2_isDigitHere_10 : decode cX2_isDigitHere 10 = .ok (.invokevirtual 36, 3) := by decide +kernel
theorem dX2_isDigitHere_13 : decode cX2_isDigitHere 13 = .ok (.bipush 57, 2) := by decide +kernel
theorem dX2_isDigitHere_15 : decode cX2_isDigitHere 15 = .ok (.if_icmp .gt 7, 3) := by decide +kernel
theorem dX2_isDigitHere_18 : decode cX2_isDigitHere 18 = .ok (.iconst 1, 1) := by decide +kernel
theorem dX2_isDigitHere_19 : decode cX2_isDigitHere 19 = .ok (.goto 4, 3) := by decide +kernel
theorem dX2_isDigitHere_22 : decode cX2_isDigitHere 22 = .ok (.iconst 0, 1) := by decide +kernel
theorem dX2_isDigitHere_23 : decode cX2_isDigitHere 23 = .ok (.ireturn, 1) := by decide +kernel
theorem dX2_accept_0 : decode cX2_accept 0 = .ok (.aload_n 0, 1) := by decide +kernel
theorem dX2_accept_1 : decode cX2_accept 1 = .ok (.invokevirtual 36, 3) := by decide +kernel
theorem dX2_accept_4 : decode cX2_accept 4 = .ok (.iload_n 1, 1) := by decide +kernel
theorem dX2_accept_5 : decode cX2_accept 5 = .ok (.if_icmp .eq 5, 3) := by decide +kernel
theorem dX2_accept_8 : decode cX2_accept 8 = .ok (.iconst 0, 1) := by decide +kernel
theorem dX2_accept_9 : decode cX2_accept 9 = .ok (.ireturn, 1) := by decide +kernel
theorem dX2_accept_10 : decode cX2_accept 10 = .ok (.aload_n 0, 1) := by decide +kernel
theorem dX2_accept_11 : decode cX2_accept 11 = .ok (.dup, 1) := by decide +kernel
theorem dX2_accept_12 : decode cX2_accept 12 = .ok (.getfield 25, 3) := by decide +kernel
theorem dX2_accept_15 : decode cX2_accept 15 = .ok (.iconst 1, 1) := by decide +kernel
theorem dX2_accept_16 : decode cX2_accept 16 = .ok (.iadd, 1) := by decide +kernel
theorem dX2_accept_17 : decode cX2_accept 17 = .ok (.putfield 25, 3) := by decide +kernel
theorem dX2_accept_20 : decode cX2_accept 20 = .ok (.iconst 1, 1) := by decide +kernel
theorem dX2_accept_21 : decode cX2_accept 21 = .ok (.ireturn, 1) := by decide +kernel
theorem dX2_signHere_0 : decode cX2_signHere 0 = .ok (.aload_n 0, 1) := by decide +kernel
theorem dX2_signHere_1 : decode cX2_signHere 1 = .ok (.getfield 25, 3) := by decide +kernel
theorem dX2_signHere_4 : decode cX2_signHere 4 = .ok (.aload_n 0, 1) := by decide +kernel
theorem dX2_signHere_5 : decode cX2_signHere 5 = .ok (.getfield 19, 3) := by decide +kernel
theorem dX2_signHere_8 : decode cX2_signHere 8 = .ok (.if_icmp .ge 15, 3) := by decide +kernel
theorem dX2_signHere_11 : decode cX2_signHere 11 = .ok (.aload_n 0, 1) := by decide +kernel
theorem dX2_signHere_12 : decode cX2_signHere 12 = .ok (.getfield 9, 3) := by decide +kernel
theorem dX2_signHere_15 : decode cX2_signHere 15 = .ok (.aload_n 0, 1) := by decide +kernel
theorem dX2_signHere_16 : decode cX2_signHere 16 = .ok (.getfield 25, 3) := by decide +kernel
theorem dX2_signHere_19 : decode cX2_signHere 19 = .ok (.caload, 1) := by decide +kernel
theorem dX2_signHere_20 : decode cX2_signHere 20 = .ok (.goto 4, 3) := by decide +kernel
theorem dX2_signHere_23 : decode cX2_signHere 23 = .ok (.iconst 0, 1) := by decide +kernel
theorem dX2_signHere_24 : decode cX2_signHere 24 = .ok (.ireturn, 1) := by decide +kernel
theorem dX3_init_0 : decode cX3_init 0 = .ok (.aload_n 0, 1) := by decide +kernel
theorem dX3_init_1 : decode cX3_init 1 = .ok (.invokespecial 3, 3) := by decide +kernel
theorem dX3_init_4 : decode cX3_init 4 = .ok (.aload_n 0, 1) := by decide +kernel
theorem dX3_init_5 : decode cX3_init 5 = .ok (.iconst 1, 1) := by decide +kernel
theorem dX3_init_6 : decode cX3_init 6 = .ok (.putfield 9, 3) := by decide +kernel
theorem dX3_init_9 : decode cX3_init 9 = .ok (.return_, 1) := by decide +kernel
theorem dX3_copyFrom_0 : decode cX3_copyFrom 0 = .ok (.aload_n 0, 1) := by decide +kernel
theorem dX3_copyFrom_1 : decode cX3_copyFrom 1 = .ok (.aload_n 1, 1) := by decide +kernel
theorem dX3_copyFrom_2 : decode cX3_copyFrom 2 = .ok (.getfield 15, 3) := by decide +kernel
theorem dX3_copyFrom_5 : decode cX3_copyFrom 5 = .ok (.putfield 15, 3) := by decide +kernel
theorem dX3_copyFrom_8 : decode cX3_copyFrom 8 = .ok (.aload_n 0, 1) := by decide +kernel
theorem dX3_copyFrom_9 : decode cX3_copyFrom 9 = .ok (.aload_n 1, 1) := by decide +kernel
theorem dX3_copyFrom_10 : decode cX3_copyFrom 10 = .ok (.getfield 18, 3) := by decide +kernel
theorem dX3_copyFrom_13 : decode cX3_copyFrom 13 = .ok (.putfield 18, 3) := by decide +kernel
theorem dX3_copyFrom_16 : decode cX3_copyFrom 16 = .ok (.aload_n 0, 1) := by decide +kernel
theorem dX3_copyFrom_17 : decode cX3_copyFrom 17 = .ok (.aload_n 1, 1) := by decide +kernel
theorem dX3_copyFrom_18 : decode cX3_copyFrom 18 = .ok (.getfield 21, 3) := by decide +kernel
theorem dX3_copyFrom_21 : decode cX3_copyFrom 21 = .ok (.putfield 21, 3) := by decide +kernel
theorem dX3_copyFrom_24 : decode cX3_copyFrom 24 = .ok (.aload_n 0, 1) := by decide +kernel
theorem dX3_copyFrom_25 : decode cX3_copyFrom 25 = .ok (.aload_n 1, 1) := by decide +kernel
theorem dX3_copyFrom_26 : decode cX3_copyFrom 26 = .ok (.getfield 9, 3) := by decide +kernel
theorem dX3_copyFrom_29 : decode cX3_copyFrom 29 = .ok (.putfield 9, 3) := by decide +kernel
theorem dX3_copyFrom_32 : decode cX3_copyFrom 32 = .ok (.aload_n 0, 1) := by decide +kernel
theorem dX3_copyFrom_33 : decode cX3_copyFrom 33 = .ok (.aload_n 1, 1) := by decide +kernel
theorem dX3_copyFrom_34 : decode cX3_copyFrom 34 = .ok (.getfield 24, 3) := by decide +kernel
theorem dX3_copyFrom_37 : decode cX3_copyFrom 37 = .ok (.putfield 24, 3) := by decide +kernel
theorem dX3_copyFrom_40 : decode cX3_copyFrom 40 = .ok (.aload_n 0, 1) := by decide +kernel
theorem dX3_copyFrom_41 : decode cX3_copyFrom 41 = .ok (.aload_n 1, 1) := by decide +kernel
theorem dX3_copyFrom_42 : decode cX3_copyFrom 42 = .ok (.getfield 27, 3) := by decide +kernel
theorem dX3_copyFrom_45 : decode cX3_copyFrom 45 = .ok (.putfield 27, 3) := by decide +kernel
theorem dX3_copyFrom_48 : decode cX3_copyFrom 48 = .ok (.return_, 1) := by decide +kernel
theorem dX3_isRecipe_0 : decode cX3_isRecipe 0 = .ok (.iload_n 0, 1) := by decide +kernel
theorem dX3_isRecipe_1 : decode cX3_isRecipe 1 = .ok (.iconst 4, 1) := by decide +kernel
theorem dX3_isRecipe_2 : decode cX3_isRecipe 2 = .ok (.invokestatic 31, 3) := by decide +kernel
theorem dX3_isRecipe_5 : decode cX3_isRecipe 5 = .ok (.ifCond .ne 41, 3) := by decide +kernel
theorem dX3_isRecipe_8 : decode cX3_isRecipe 8 = .ok (.iload_n 1, 1) := by decide +kernel
theorem dX3_isRecipe_9 : decode cX3_isRecipe 9 = .ok (.sipush (-999), 3) := by decide +kernel
theorem dX3_isRecipe_12 : decode cX3_isRecipe 12 = .ok (.if_icmp .lt 34, 3) := by decide +kernel
theorem dX3_isRecipe_15 : decode cX3_isRecipe 15 = .ok (.iload_n 1, 1) := by decide +kernel
theorem dX3_isRecipe_16 : decode cX3_isRecipe 16 = .ok (.sipush 999, 3) := by decide +kernel
theorem dX3_isRecipe_19 : decode cX3_isRecipe 19 = .ok (.if_icmp .gt 27, 3) := by decide +kernel
theorem dX3_isRecipe_22 : decode cX3_isRecipe 22 = .ok (.iload_n 2, 1) := by decide +kernel
theorem dX3_isRecipe_23 : decode cX3_isRecipe 23 = .ok (.iconst 1, 1) := by decide +kernel
theorem dX3_isRecipe_24 : decode cX3_isRecipe 24 = .ok (.if_icmp .lt 22, 3) := by decide +kernel
theorem dX3_isRecipe_27 : decode cX3_isRecipe 27 = .ok (.iload_n 2, 1) := by decide +kernel
theorem dX3_isRecipe_28 : decode cX3_isRecipe 28 = .ok (.bipush 60, 2) := by decide +kernel
theorem dX3_isRecipe_30 : decode cX3_isRecipe 30 = .ok (.if_icmp .gt 16, 3) := by decide +kernel
theorem dX3_isRecipe_33 : decode cX3_isRecipe 33 = .ok (.iload_n 3, 1) := by decide +kernel
theorem dX3_isRecipe_34 : decode cX3_isRecipe 34 = .ok (.bipush 60, 2) := by decide +kernel
theorem dX3_isRecipe_36 : decode cX3_isRecipe 36 = .ok (.invokestatic 31, 3) := by decide +kernel
theorem dX3_isRecipe_39 : decode cX3_isRecipe 39 = .ok (.ifCond .ne 7, 3) := by decide +kernel
theorem dX3_isRecipe_42 : decode cX3_isRecipe 42 = .ok (.iconst 1, 1) := by decide +kernel
theorem dX3_isRecipe_43 : decode cX3_isRecipe 43 = .ok (.goto 4, 3) := by decide +kernel
theorem dX3_isRecipe_46 : decode cX3_isRecipe 46 = .ok (.iconst 0, 1) := by decide +kernel
theorem dX3_isRecipe_47 : decode cX3_isRecipe 47 = .ok (.ireturn, 1) := by decide +kernel
theorem dX3_pushAt_0 : decode cX3_pushAt 0 = .ok (.aload_n 0, 1) := by decide +kernel
theorem dX3_pushAt_1 : decode cX3_pushAt 1 = .ok (.getfield 9, 3) := by decide +kernel
theorem dX3_pushAt_4 : decode cX3_pushAt 4 = .ok (.iconst 1, 1) := by decide +kernel
theorem dX3_pushAt_5 : decode cX3_pushAt 5 = .ok (.if_icmp .ge 5, 3) := by decide +kernel
theorem dX3_pushAt_8 : decode cX3_pushAt 8 = .ok (.iconst 0, 1) := by decide +kernel
theorem dX3_pushAt_9 : decode cX3_pushAt 9 = .ok (.ireturn, 1) := by decide +kernel
theorem dX3_pushAt_10 : decode cX3_pushAt 10 = .ok (.iload_n 1, 1) := by decide +kernel
theorem dX3_pushAt_11 : decode cX3_pushAt 11 = .ok (.aload_n 0, 1) := by decide +kernel
theorem dX3_pushAt_12 : decode cX3_pushAt 12 = .ok (.getfield 24, 3) := by decide +kernel
theorem dX3_pushAt_15 : decode cX3_pushAt 15 = .ok (.iadd, 1) := by decide +kernel
theorem dX3_pushAt_16 : decode cX3_pushAt 16 = .ok (.aload_n 0, 1) := by decide +kernel
theorem dX3_pushAt_17 : decode cX3_pushAt 17 = .ok (.getfield 9, 3) := by decide +kernel
theorem dX3_pushAt_20 : decode cX3_pushAt 20 = .ok (.irem, 1) := by decide +kernel
theorem dX3_pushAt_21 : decode cX3_pushAt 21 = .ok (.istore_n 2, 1) := by decide +kernel
theorem dX3_pushAt_22 : decode cX3_pushAt 22 = .ok (.aload_n 0, 1) := by decide +kernel
theorem dX3_pushAt_23 : decode cX3_pushAt 23 = .ok (.getfield 18, 3) := by decide +kernel
theorem dX3_pushAt_26 : decode cX3_pushAt 26 = .ok (.tableswitch 96 1 3 #[26, 45, 68], 26) := by decide +kernel
theorem dX3_pushAt_52 : decode cX3_pushAt 52 = .ok (.aload_n 0, 1) := by decide +kernel
theorem dX3_pushAt_53 : decode cX3_pushAt 53 = .ok (.getfield 21, 3) := by decide +kernel
theorem dX3_pushAt_56 : decode cX3_pushAt 56 = .ok (.iconst 2, 1) := by decide +kernel
theorem dX3_pushAt_57 : decode cX3_pushAt 57 = .ok (.iload_n 2, 1) := by decide +kernel
theorem dX3_pushAt_58 : decode cX3_pushAt 58 = .ok (.imul, 1) := by decide +kernel
theorem dX3_pushAt_59 : decode cX3_pushAt 59 = .ok (.aload_n 0, 1) := by decide +kernel
theorem dX3_pushAt_60 : decode cX3_pushAt 60 = .ok (.getfield 9, 3) := by decide +kernel
theorem dX3_pushAt_63 : decode cX3_pushAt 63 = .ok (.isub, 1) := by decide +kernel
theorem dX3_pushAt_64 : decode cX3_pushAt 64 = .ok (.imul, 1) := by decide +kernel
theorem dX3_pushAt_65 : decode cX3_pushAt 65 = .ok (.aload_n 0, 1) := by decide +kernel
theorem dX3_pushAt_66 : decode cX3_pushAt 66 = .ok (.getfield 9, 3) := by decide +kernel
theorem dX3_pushAt_69 : decode cX3_pushAt 69 = .ok (.idiv, 1) := by decide +kernel
theorem dX3_pushAt_70 : decode cX3_pushAt 70 = .ok (.ireturn, 1) := by decide +kernel
theorem dX3_pushAt_71 : decode cX3_pushAt 71 = .ok (.iconst 2, 1) := by decide +kernel
theorem dX3_pushAt_72 : decode cX3_pushAt 72 = .ok (.iload_n 2, 1) := by decide +kernel
theorem dX3_pushAt_73 : decode cX3_pushAt 73 = .ok (.imul, 1) := by decide +kernel
theorem dX3_pushAt_74 : decode cX3_pushAt 74 = .ok (.aload_n 0, 1) := by decide +kernel
theorem dX3_pushAt_75 : decode cX3_pushAt 75 = .ok (.getfield 9, 3) := by decide +kernel
theorem dX3_pushAt_78 : decode cX3_pushAt 78 = .ok (.if_icmp .ge 10, 3) := by decide +kernel
theorem dX3_pushAt_81 : decode cX3_pushAt 81 = .ok (.aload_n 0, 1) := by decide +kernel
theorem dX3_pushAt_82 : decode cX3_pushAt 82 = .ok (.getfield 21, 3) := by decide +kernel
theorem dX3_pushAt_85 : decode cX3_pushAt 85 = .ok (.goto 8, 3) := by decide +kernel
theorem dX3_pushAt_88 : decode cX3_pushAt 88 = .ok (.aload_n 0, 1) := by decide +kernel
theorem dX3_pushAt_89 : decode cX3_pushAt 89 = .ok (.getfield 21, 3) := by decide +kernel
theorem dX3_pushAt_92 : decode cX3_pushAt 92 = .ok (.ineg, 1) := by decide +kernel
theorem dX3_pushAt_93 : decode cX3_pushAt 93 = .ok (.ireturn, 1) := by decide +kernel
theorem dX3_pushAt_94 : decode cX3_pushAt 94 = .ok (.aload_n 0, 1) := by decide +kernel
theorem dX3_pushAt_95 : decode cX3_pushAt 95 = .ok (.getfield 21, 3) := by decide +kernel
theorem dX3_pushAt_98 : decode cX3_pushAt 98 = .ok (.iconst 4, 1) := by decide +kernel
theorem dX3_pushAt_99 : decode cX3_pushAt 99 = .ok (.iload_n 2, 1) := by decide +kernel
theorem dX3_pushAt_100 : decode cX3_pushAt 100 = .ok (.aload_n 0, 1) := by decide +kernel
theorem dX3_pushAt_101 : decode cX3_pushAt 101 = .ok (.getfield 9, 3) := by decide +kernel
theorem dX3_pushAt_104 : decode cX3_pushAt 104 = .ok (.iload_n 2, 1) := by decide +kernel
theorem dX3_pushAt_105 : decode cX3_pushAt 105 = .ok (.isub, 1) := by decide +kernel
theorem dX3_pushAt_106 : decode cX3_pushAt 106 = .ok (.invokestatic 35, 3) := by decide +kernel
theorem dX3_pushAt_109 : decode cX3_pushAt 109 = .ok (.imul, 1) := by decide +kernel
theorem dX3_pushAt_110 : decode cX3_pushAt 110 = .ok (.aload_n 0, 1) := by decide +kernel
theorem dX3_pushAt_111 : decode cX3_pushAt 111 = .ok (.getfield 9, 3) := by decide +kernel
theorem dX3_pushAt_114 : decode cX3_pushAt 114 = .ok (.isub, 1) := by decide +kernel
theorem dX3_pushAt_115 : decode cX3_pushAt 115 = .ok (.imul, 1) := by decide +kernel
theorem dX3_pushAt_116 : decode cX3_pushAt 116 = .ok (.aload_n 0, 1) := by decide +kernel
theorem dX3_pushAt_117 : decode cX3_pushAt 117 = .ok (.getfield 9, 3) := by decide +kernel
theorem dX3_pushAt_120 : decode cX3_pushAt 120 = .ok (.idiv, 1) := by decide +kernel
theorem dX3_pushAt_121 : decode cX3_pushAt 121 = .ok (.ireturn, 1) := by decide +kernel
theorem dX3_pushAt_122 : decode cX3_pushAt 122 = .ok (.aload_n 0, 1) := by decide +kernel
theorem dX3_pushAt_123 : decode cX3_pushAt 123 = .ok (.getfield 21, 3) := by decide +kernel
theorem dX3_pushAt_126 : decode cX3_pushAt 126 = .ok (.ireturn, 1) := by decide +kernel
theorem dX4_init_0 : decode cX4_init 0 = .ok (.aload_n 0, 1) := by decide +kernel
theorem dX4_init_1 : decode cX4_init 1 = .ok (.invokespecial 3, 3) := by decide +kernel
theorem dX4_init_4 : decode cX4_init 4 = .ok (.aload_n 0, 1) := by decide +kernel
theorem dX4_init_5 : decode cX4_init 5 = .ok (.getstatic 9, 3) := by decide +kernel
theorem dX4_init_8 : decode cX4_init 8 = .ok (.invokevirtual 13, 3) := by decide +kernel
theorem dX4_init_11 : decode cX4_init 11 = .ok (.checkcast 14, 3) := by decide +kernel
theorem dX4_init_14 : decode cX4_init 14 = .ok (.putfield 18, 3) := by decide +kernel
theorem dX4_init_17 : decode cX4_init 17 = .ok (.aload_n 0, 1) := by decide +kernel
theorem dX4_init_18 : decode cX4_init 18 = .ok (.bipush 40, 2) := by decide +kernel
theorem dX4_init_20 : decode cX4_init 20 = .ok (.newarray .int, 2) := by decide +kernel
theorem dX4_init_22 : decode cX4_init 22 = .ok (.putfield 23, 3) := by decide +kernel
theorem dX4_init_25 : decode cX4_init 25 = .ok (.aload_n 0, 1) := by decide +kernel
theorem dX4_init_26 : decode cX4_init 26 = .ok (.bipush 40, 2) := by decide +kernel
theorem dX4_init_28 : decode cX4_init 28 = .ok (.newarray .int, 2) := by decide +kernel
theorem dX4_init_30 : decode cX4_init 30 = .ok (.putfield 26, 3) := by decide +kernel
theorem dX4_init_33 : decode cX4_init 33 = .ok (.aload_n 0, 1) := by decide +kernel
theorem dX4_init_34 : decode cX4_init 34 = .ok (.bipush 6, 2) := by decide +kernel
theorem dX4_init_36 : decode cX4_init 36 = .ok (.anewarray 29, 3) := by decide +kernel
theorem dX4_init_39 : decode cX4_init 39 = .ok (.putfield 31, 3) := by decide +kernel
theorem dX4_init_42 : decode cX4_init 42 = .ok (.aload_n 0, 1) := by decide +kernel
theorem dX4_init_43 : decode cX4_init 43 = .ok (.iconst 4, 1) := by decide +kernel
theorem dX4_init_44 : decode cX4_init 44 = .ok (.anewarray 35, 3) := by decide +kernel
theorem dX4_init_47 : decode cX4_init 47 = .ok (.putfield 37, 3) := by decide +kernel
theorem dX4_init_50 : decode cX4_init 50 = .ok (.iconst 0, 1) := by decide +kernel
theorem dX4_init_51 : decode cX4_init 51 = .ok (.istore_n 1, 1) := by decide +kernel
theorem dX4_init_52 : decode cX4_init 52 = .ok (.iload_n 1, 1) := by decide +kernel
theorem dX4_init_53 : decode cX4_init 53 = .ok (.bipush 6, 2) := by decide +kernel
theorem dX4_init_55 : decode cX4_init 55 = .ok (.if_icmp .ge 22, 3) := by decide +kernel
theorem dX4_init_58 : decode cX4_init 58 = .ok (.aload_n 0, 1) := by decide +kernel
theorem dX4_init_59 : decode cX4_init 59 = .ok (.getfield 31, 3) := by decide +kernel
theorem dX4_init_62 : decode cX4_init 62 = .ok (.iload_n 1, 1) := by decide +kernel
theorem dX4_init_63 : decode cX4_init 63 = .ok (.new 29, 3) := by decide +kernel
theorem dX4_init_66 : decode cX4_init 66 = .ok (.dup, 1) := by decide +kernel
theorem dX4_init_67 : decode cX4_init 67 = .ok (.invokespecial 41, 3) := by decide +kernel
theorem dX4_init_70 : decode cX4_init 70 = .ok (.aastore, 1) := by decide +kernel
theorem dX4_init_71 : decode cX4_init 71 = .ok (.iinc 1 1, 3) := by decide +kernel
theorem dX4_init_74 : decode cX4_init 74 = .ok (.goto (-22), 3) := by decide +kernel
theorem dX4_init_77 : decode cX4_init 77 = .ok (.iconst 0, 1) := by decide +kernel
theorem dX4_init_78 : decode cX4_init 78 = .ok (.istore_n 1, 1) := by decide +kernel
theorem dX4_init_79 : decode cX4_init 79 = .ok (.iload_n 1, 1) := by decide +kernel
theorem dX4_init_80 : decode cX4_init 80 = .ok (.iconst 4, 1) := by decide +kernel
theorem dX4_init_81 : decode cX4_init 81 = .ok (.if_icmp .ge 22, 3) := by decide +kernel
theorem dX4_init_84 : decode cX4_init 84 = .ok (.aload_n 0, 1) := by decide +kernel
theorem dX4_init_85 : decode cX4_init 85 = .ok (.getfield 37, 3) := by decide +kernel
theorem dX4_init_88 : decode cX4_init 88 = .ok (.iload_n 1, 1) := by decide +kernel
theorem dX4_init_89 : decode cX4_init 89 = .ok (.new 35, 3) := by decide +kernel
theorem dX4_init_92 : decode cX4_init 92 = .ok (.dup, 1) := by decide +kernel
theorem dX4_init_93 : decode cX4_init 93 = .ok (.invokespecial 42, 3) := by decide +kernel
theorem dX4_init_96 : decode cX4_init 96 = .ok (.aastore, 1) := by decide +kernel
theorem dX4_init_97 : decode cX4_init 97 = .ok (.iinc 1 1, 3) := by decide +kernel
theorem dX4_init_100 : decode cX4_init 100 = .ok (.goto (-21), 3) := by decide +kernel
theorem dX4_init_103 : decode cX4_init 103 = .ok (.return_, 1) := by decide +kernel
theorem dX4_copyFrom_0 : decode cX4_copyFrom 0 = .ok (.aload_n 1, 1) := by decide +kernel
theorem dX4_copyFrom_1 : decode cX4_copyFrom 1 = .ok (.getfield 18, 3) := by decide +kernel
theorem dX4_copyFrom_4 : decode cX4_copyFrom 4 = .ok (.iconst 0, 1) := by decide +kernel
theorem dX4_copyFrom_5 : decode cX4_copyFrom 5 = .ok (.aload_n 0, 1) := by decide +kernel
theorem dX4_copyFrom_6 : decode cX4_copyFrom 6 = .ok (.getfield 18, 3) := by decide +kernel
theorem dX4_copyFrom_9 : decode cX4_copyFrom 9 = .ok (.iconst 0, 1) := by decide +kernel
theorem dX4_copyFrom_10 : decode cX4_copyFrom 10 = .ok (.iconst 3, 1) := by decide +kernel
theorem dX4_copyFrom_11 : decode cX4_copyFrom 11 = .ok (.invokestatic 43, 3) := by decide +kernel
theorem dX4_copyFrom_14 : decode cX4_copyFrom 14 = .ok (.aload_n 1, 1) := by decide +kernel
theorem dX4_copyFrom_15 : decode cX4_copyFrom 15 = .ok (.getfield 23, 3) := by decide +kernel
theorem dX4_copyFrom_18 : decode cX4_copyFrom 18 = .ok (.iconst 0, 1) := by decide +kernel
theorem dX4_copyFrom_19 : decode cX4_copyFrom 19 = .ok (.aload_n 0, 1) := by decide +kernel
theorem dX4_copyFrom_20 : decode cX4_copyFrom 20 = .ok (.getfield 23, 3) := by decide +kernel
theorem dX4_copyFrom_23 : decode cX4_copyFrom 23 = .ok (.iconst 0, 1) := by decide +kernel
theorem dX4_copyFrom_24 : decode cX4_copyFrom 24 = .ok (.bipush 40, 2) := by decide +kernel
theorem dX4_copyFrom_26 : decode cX4_copyFrom 26 = .ok (.invokestatic 43, 3) := by decide +kernel
theorem dX4_copyFrom_29 : decode cX4_copyFrom 29 = .ok (.aload_n 1, 1) := by decide +kernel
theorem dX4_copyFrom_30 : decode cX4_copyFrom 30 = .ok (.getfield 26, 3) := by decide +kernel
theorem dX4_copyFrom_33 : decode cX4_copyFrom 33 = .ok (.iconst 0, 1) := by decide +kernel
theorem dX4_copyFrom_34 : decode cX4_copyFrom 34 = .ok (.aload_n 0, 1) := by decide +kernel
theorem dX4_copyFrom_35 : decode cX4_copyFrom 35 = .ok (.getfield 26, 3) := by decide +kernel
theorem dX4_copyFrom_38 : decode cX4_copyFrom 38 = .ok (.iconst 0, 1) := by decide +kernel
theorem dX4_copyFrom_39 : decode cX4_copyFrom 39 = .ok (.bipush 40, 2) := by decide +kernel
theorem dX4_copyFrom_41 : decode cX4_copyFrom 41 = .ok (.invokestatic 43, 3) := by decide +kernel
theorem dX4_copyFrom_44 : decode cX4_copyFrom 44 = .ok (.aload_n 0, 1) := by decide +kernel
theorem dX4_copyFrom_45 : decode cX4_copyFrom 45 = .ok (.aload_n 1, 1) := by decide +kernel
theorem dX4_copyFrom_46 : decode cX4_copyFrom 46 = .ok (.getfield 49, 3) := by decide +kernel
theorem dX4_copyFrom_49 : decode cX4_copyFrom 49 = .ok (.putfield 49, 3) := by decide +kernel
theorem dX4_copyFrom_52 : decode cX4_copyFrom 52 = .ok (.iconst 0, 1) := by decide +kernel
theorem dX4_copyFrom_53 : decode cX4_copyFrom 53 = .ok (.istore_n 2, 1) := by decide +kernel
theorem dX4_copyFrom_54 : decode cX4_copyFrom 54 = .ok (.iload_n 2, 1) := by decide +kernel
theorem dX4_copyFrom_55 : decode cX4_copyFrom 55 = .ok (.aload_n 0, 1) := by decide +kernel
theorem dX4_copyFrom_56 : decode cX4_copyFrom 56 = .ok (.getfield 49, 3) := by decide +kernel
theorem dX4_copyFrom_59 : decode cX4_copyFrom 59 = .ok (.if_icmp .ge 24, 3) := by decide +kernel
theorem dX4_copyFrom_62 : decode cX4_copyFrom 62 = .ok (.aload_n 0, 1) := by decide +kernel
theorem dX4_copyFrom_63 : decode cX4_copyFrom 63 = .ok (.getfield 31, 3) := by decide +kernel
theorem dX4_copyFrom_66 : decode cX4_copyFrom 66 = .ok (.iload_n 2, 1) := by decide +kernel
theorem dX4_copyFrom_67 : decode cX4_copyFrom 67 = .ok (.aaload, 1) := by decide +kernel
theorem dX4_copyFrom_68 : decode cX4_copyFrom 68 = .ok (.aload_n 1, 1) := by decide +kernel
theorem dX4_copyFrom_69 : decode cX4_copyFrom 69 = .ok (.getfield 31, 3) := by decide +kernel
theorem dX4_copyFrom_72 : decode cX4_copyFrom 72 = .ok (.iload_n 2, 1) := by decide +kernel
theorem dX4_copyFrom_73 : decode cX4_copyFrom 73 = .ok (.aaload, 1) := by decide +kernel
theorem dX4_copyFrom_74 : decode cX4_copyFrom 74 = .ok (.invokevirtual 53, 3) := by decide +kernel
theorem dX4_copyFrom_77 : decode cX4_copyFrom 77 = .ok (.iinc 2 1, 3) := by decide +kernel
theorem dX4_copyFrom_80 : decode cX4_copyFrom 80 = .ok (.goto (-26), 3) := by decide +kernel
theorem dX4_copyFrom_83 : decode cX4_copyFrom 83 = .ok (.aload_n 0, 1) := by decide +kernel
theorem dX4_copyFrom_84 : decode cX4_copyFrom 84 = .ok (.aload_n 1, 1) := by decide +kernel
theorem dX4_copyFrom_85 : decode cX4_copyFrom 85 = .ok (.getfield 57, 3) := by decide +kernel
theorem dX4_copyFrom_88 : decode cX4_copyFrom 88 = .ok (.putfield 57, 3) := by decide +kernel
theorem dX4_copyFrom_91 : decode cX4_copyFrom 91 = .ok (.iconst 0, 1) := by decide +kernel
theorem dX4_copyFrom_92 : decode cX4_copyFrom 92 = .ok (.istore_n 2, 1) := by decide +kernel
theorem dX4_copyFrom_93 : decode cX4_copyFrom 93 = .ok (.iload_n 2, 1) := by decide +kernel
theorem dX4_copyFrom_94 : decode cX4_copyFrom 94 = .ok (.aload_n 0, 1) := by decide +kernel
theorem dX4_copyFrom_95 : decode cX4_copyFrom 95 = .ok (.getfield 57, 3) := by decide +kernel
theorem dX4_copyFrom_98 : decode cX4_copyFrom 98 = .ok (.if_icmp .ge 24, 3) := by decide +kernel
theorem dX4_copyFrom_101 : decode cX4_copyFrom 101 = .ok (.aload_n 0, 1) := by decide +kernel
theorem dX4_copyFrom_102 : decode cX4_copyFrom 102 = .ok (.getfield 37, 3) := by decide +kernel
theorem dX4_copyFrom_105 : decode cX4_copyFrom 105 = .ok (.iload_n 2, 1) := by decide +kernel
theorem dX4_copyFrom_106 : decode cX4_copyFrom 106 = .ok (.aaload, 1) := by decide +kernel
theorem dX4_copyFrom_107 : decode cX4_copyFrom 107 = .ok (.aload_n 1, 1) := by decide +kernel
theorem dX4_copyFrom_108 : decode cX4_copyFrom 108 = .ok (.getfield 37, 3) := by decide +kernel
theorem dX4_copyFrom_111 : decode cX4_copyFrom 111 = .ok (.iload_n 2, 1) := by decide +kernel
theorem dX4_copyFrom_112 : decode cX4_copyFrom 112 = .ok (.aaload, 1) := by decide +kernel
theorem dX4_copyFrom_113 : decode cX4_copyFrom 113 = .ok (.invokevirtual 60, 3) := by decide +kernel
theorem dX4_copyFrom_116 : decode cX4_copyFrom 116 = .ok (.iinc 2 1, 3) := by decide +kernel
theorem dX4_copyFrom_119 : decode cX4_copyFrom 119 = .ok (.goto (-26), 3) := by decide +kernel
theorem dX4_copyFrom_122 : decode cX4_copyFrom 122 = .ok (.aload_n 0, 1) := by decide +kernel
theorem dX4_copyFrom_123 : decode cX4_copyFrom 123 = .ok (.aload_n 1, 1) := by decide +kernel
theorem dX4_copyFrom_124 : decode cX4_copyFrom 124 = .ok (.getfield 63, 3) := by decide +kernel
theorem dX4_copyFrom_127 : decode cX4_copyFrom 127 = .ok (.putfield 63, 3) := by decide +kernel
theorem dX4_copyFrom_130 : decode cX4_copyFrom 130 = .ok (.return_, 1) := by decide +kernel
theorem dX4_changeSetting_0 : decode cX4_changeSetting 0 = .ok (.iload_n 1, 1) := by decide +kernel
theorem dX4_changeSetting_1 : decode cX4_changeSetting 1 = .ok (.iconst 3, 1) := by decide +kernel
theorem dX4_changeSetting_2 : decode cX4_changeSetting 2 = .ok (.invokestatic 66, 3) := by decide +kernel
theorem dX4_changeSetting_5 : decode cX4_changeSetting 5 = .ok (.ifCond .eq 6, 3) := by decide +kernel
theorem dX4_changeSetting_8 : decode cX4_changeSetting 8 = .ok (.bipush (-2), 2) := by decide +kernel
theorem dX4_changeSetting_10 : decode cX4_changeSetting 10 = .ok (.ireturn, 1) := by decide +kernel
theorem dX4_changeSetting_11 : decode cX4_changeSetting 11 = .ok (.iload_n 2, 1) := by decide +kernel
theorem dX4_changeSetting_12 : decode cX4_changeSetting 12 = .ok (.getstatic 70, 3) := by decide +kernel
theorem dX4_changeSetting_15 : decode cX4_changeSetting 15 = .ok (.iload_n 1, 1) := by decide +kernel
theorem dX4_changeSetting_16 : decode cX4_changeSetting 16 = .ok (.iaload, 1) := by decide +kernel
theorem dX4_changeSetting_17 : decode cX4_changeSetting 17 = .ok (.if_icmp .lt 12, 3) := by decide +kernel
theorem dX4_changeSetting_20 : decode cX4_changeSetting 20 = .ok (.iload_n 2, 1) := by decide +kernel
theorem dX4_changeSetting_21 : decode cX4_changeSetting 21 = .ok (.getstatic 73, 3) := by decide +kernel
theorem dX4_changeSetting_24 : decode cX4_changeSetting 24 = .ok (.iload_n 1, 1) := by decide +kernel
theorem dX4_changeSetting_25 : decode cX4_changeSetting 25 = .ok (.iaload, 1) := by decide +kernel
theorem dX4_changeSetting_26 : decode cX4_changeSetting 26 = .ok (.if_icmp .le 6, 3) := by decide +kernel
theorem dX4_changeSetting_29 : decode cX4_changeSetting 29 = .ok (.bipush (-2), 2) := by decide +kernel
theorem dX4_changeSetting_31 : decode cX4_changeSetting 31 = .ok (.ireturn, 1) := by decide +kernel
theorem dX4_changeSetting_32 : decode cX4_changeSetting 32 = .ok (.aload_n 0, 1) := by decide +kernel
theorem dX4_changeSetting_33 : decode cX4_changeSetting 33 = .ok (.getfield 18, 3) := by decide +kernel
theorem dX4_changeSetting_36 : decode cX4_changeSetting 36 = .ok (.iload_n 1, 1) := by decide +kernel
theorem dX4_changeSetting_37 : decode cX4_changeSetting 37 = .ok (.iaload, 1) := by decide +kernel
theorem dX4_changeSetting_38 : decode cX4_changeSetting 38 = .ok (.istore_n 3, 1) := by decide +kernel
theorem dX4_changeSetting_39 : decode cX4_changeSetting 39 = .ok (.aload_n 0, 1) := by decide +kernel
theorem dX4_changeSetting_40 : decode cX4_changeSetting 40 = .ok (.getfield 18, 3) := by decide +kernel
theorem dX4_changeSetting_43 : decode cX4_changeSetting 43 = .ok (.iload_n 1, 1) := by decide +kernel
theorem dX4_changeSetting_44 : decode cX4_changeSetting 44 = .ok (.iload_n 2, 1) := by decide +kernel
theorem dX4_changeSetting_45 : decode cX4_changeSetting 45 = .ok (.iastore, 1) := by decide +kernel
theorem dX4_changeSetting_46 : decode cX4_changeSetting 46 = .ok (.iload_n 3, 1) := by decide +kernel
theorem dX4_changeSetting_47 : decode cX4_changeSetting 47 = .ok (.ireturn, 1) := by decide +kernel
theorem dX4_placePaddle_0 : decode cX4_placePaddle 0 = .ok (.iload_n 1, 1) := by decide +kernel
theorem dX4_placePaddle_1 : decode cX4_placePaddle 1 = .ok (.bipush 36, 2) := by decide +kernel
theorem dX4_placePaddle_3 : decode cX4_placePaddle 3 = .ok (.invokestatic 66, 3) := by decide +kernel
theorem dX4_placePaddle_6 : decode cX4_placePaddle 6 = .ok (.ifCond .eq 5, 3) := by decide +kernel
theorem dX4_placePaddle_9 : decode cX4_placePaddle 9 = .ok (.iconst (-1), 1) := by decide +kernel
theorem dX4_placePaddle_10 : decode cX4_placePaddle 10 = .ok (.ireturn, 1) := by decide +kernel
theorem dX4_placePaddle_11 : decode cX4_placePaddle 11 = .ok (.iload_n 2, 1) := by decide +kernel
theorem dX4_placePaddle_12 : decode cX4_placePaddle 12 = .ok (.iload_n 3, 1) := by decide +kernel
theorem dX4_placePaddle_13 : decode cX4_placePaddle 13 = .ok (.iload 4, 2) := by decide +kernel
theorem dX4_placePaddle_15 : decode cX4_placePaddle 15 = .ok (.iload 5, 2) := by decide +kernel
theorem dX4_placePaddle_17 : decode cX4_placePaddle 17 = .ok (.invokestatic 76, 3) := by decide +kernel
theorem dX4_placePaddle_20 : decode cX4_placePaddle 20 = .ok (.ifCond .ne 6, 3) := by decide +kernel
theorem dX4_placePaddle_23 : decode cX4_placePaddle 23 = .ok (.bipush (-2), 2) := by decide +kernel
theorem dX4_placePaddle_25 : decode cX4_placePaddle 25 = .ok (.ireturn, 1) := by decide +kernel
theorem dX4_placePaddle_26 : decode cX4_placePaddle 26 = .ok (.aload_n 0, 1) := by decide +kernel
theorem dX4_placePaddle_27 : decode cX4_placePaddle 27 = .ok (.iload_n 1, 1) := by decide +kernel
theorem dX4_placePaddle_28 : decode cX4_placePaddle 28 = .ok (.invokevirtual 80, 3) := by decide +kernel
theorem dX4_placePaddle_31 : decode cX4_placePaddle 31 = .ok (.istore 6, 2) := by decide +kernel
theorem dX4_placePaddle_33 : decode cX4_placePaddle 33 = .ok (.iload 6, 2) := by decide +kernel
theorem dX4_placePaddle_35 : decode cX4_placePaddle 35 = .ok (.ifCond .ge 10, 3) := by decide +kernel
theorem dX4_placePaddle_38 : decode cX4_placePaddle 38 = .ok (.aload_n 0, 1) := by decide +kernel
theorem dX4_placePaddle_39 : decode cX4_placePaddle 39 = .ok (.iload_n 1, 1) := by decide +kernel
theorem dX4_placePaddle_40 : decode cX4_placePaddle 40 = .ok (.invokevirtual 84, 3) := by decide +kernel
theorem dX4_placePaddle_43 : decode cX4_placePaddle 43 = .ok (.istore 6, 2) := by decide +kernel
theorem dX4_placePaddle_45 : decode cX4_placePaddle 45 = .ok (.iload 6, 2) := by decide +kernel
theorem dX4_placePaddle_47 : decode cX4_placePaddle 47 = .ok (.ifCond .ge 6, 3) := by decide +kernel
theorem dX4_placePaddle_50 : decode cX4_placePaddle 50 = .ok (.bipush (-4), 2) := by decide +kernel
theorem dX4_placePaddle_52 : decode cX4_placePaddle 52 = .ok (.ireturn, 1) := by decide +kernel
theorem dX4_placePaddle_53 : decode cX4_placePaddle 53 = .ok (.aload_n 0, 1) := by decide +kernel
theorem dX4_placePaddle_54 : decode cX4_placePaddle 54 = .ok (.getfield 31, 3) := by decide +kernel
theorem dX4_placePaddle_57 : decode cX4_placePaddle 57 = .ok (.iload 6, 2) := by decide +kernel
theorem dX4_placePaddle_59 : decode cX4_placePaddle 59 = .ok (.aaload, 1) := by decide +kernel
theorem dX4_placePaddle_60 : decode cX4_placePaddle 60 = .ok (.astore 7, 2) := by decide +kernel
theorem dX4_placePaddle_62 : decode cX4_placePaddle 62 = .ok (.aload 7, 2) := by decide +kernel
theorem dX4_placePaddle_64 : decode cX4_placePaddle 64 = .ok (.iload_n 1, 1) := by decide +kernel
theorem dX4_placePaddle_65 : decode cX4_placePaddle 65 = .ok (.putfield 87, 3) := by decide +kernel
theorem dX4_placePaddle_68 : decode cX4_placePaddle 68 = .ok (.aload 7, 2) := by decide +kernel
theorem dX4_placePaddle_70 : decode cX4_placePaddle 70 = .ok (.iload_n 2, 1) := by decide +kernel
theorem dX4_placePaddle_71 : decode cX4_placePaddle 71 = .ok (.putfield 90, 3) := by decide +kernel
theorem dX4_placePaddle_74 : decode cX4_placePaddle 74 = .ok (.aload 7, 2) := by decide +kernel
theorem dX4_placePaddle_76 : decode cX4_placePaddle 76 = .ok (.iload_n 3, 1) := by decide +kernel
theorem dX4_placePaddle_77 : decode cX4_placePaddle 77 = .ok (.putfield 93, 3) := by decide +kernel
theorem dX4_placePaddle_80 : decode cX4_placePaddle 80 = .ok (.aload 7, 2) := by decide +kernel
theorem dX4_placePaddle_82 : decode cX4_placePaddle 82 = .ok (.iload 4, 2) := by decide +kernel
theorem dX4_placePaddle_84 : decode cX4_placePaddle 84 = .ok (.putfield 96, 3) := by decide +kernel
theorem dX4_placePaddle_87 : decode cX4_placePaddle 87 = .ok (.aload 7, 2) := by decide +kernel
theorem dX4_placePaddle_89 : decode cX4_placePaddle 89 = .ok (.iload 5, 2) := by decide +kernel
theorem dX4_placePaddle_91 : decode cX4_placePaddle 91 = .ok (.putfield 99, 3) := by decide +kernel
theorem dX4_placePaddle_94 : decode cX4_placePaddle 94 = .ok (.aload 7, 2) := by decide +kernel
theorem dX4_placePaddle_96 : decode cX4_placePaddle 96 = .ok (.iconst 1, 1) := by decide +kernel
theorem dX4_placePaddle_97 : decode cX4_placePaddle 97 = .ok (.putfield 102, 3) := by decide +kernel
theorem dX4_placePaddle_100 : decode cX4_placePaddle 100 = .ok (.aload_n 0, 1) := by decide +kernel
theorem dX4_placePaddle_101 : decode cX4_placePaddle 101 = .ok (.getfield 49, 3) := by decide +kernel
theorem dX4_placePaddle_104 : decode cX4_placePaddle 104 = .ok (.ireturn, 1) := by decide +kernel
theorem dX4_rankIn_0 : decode cX4_rankIn 0 = .ok (.iconst 0, 1) := by decide +kernel
theorem dX4_rankIn_1 : decode cX4_rankIn 1 = .ok (.istore_n 2, 1) := by decide +kernel
theorem dX4_rankIn_2 : decode cX4_rankIn 2 = .ok (.iload_n 2, 1) := by decide +kernel
theorem dX4_rankIn_3 : decode cX4_rankIn 3 = .ok (.aload_n 0, 1) := by decide +kernel
theorem dX4_rankIn_4 : decode cX4_rankIn 4 = .ok (.getfield 49, 3) := by decide +kernel
theorem dX4_rankIn_7 : decode cX4_rankIn 7 = .ok (.if_icmp .ge 24, 3) := by decide +kernel
theorem dX4_rankIn_10 : decode cX4_rankIn 10 = .ok (.aload_n 0, 1) := by decide +kernel
theorem dX4_rankIn_11 : decode cX4_rankIn 11 = .ok (.getfield 31, 3) := by decide +kernel
theorem dX4_rankIn_14 : decode cX4_rankIn 14 = .ok (.iload_n 2, 1) := by decide +kernel
theorem dX4_rankIn_15 : decode cX4_rankIn 15 = .ok (.aaload, 1) := by decide +kernel
theorem dX4_rankIn_16 : decode cX4_rankIn 16 = .ok (.getfield 87, 3) := by decide +kernel
theorem dX4_rankIn_19 : decode cX4_rankIn 19 = .ok (.iload_n 1, 1) := by decide +kernel
theorem dX4_rankIn_20 : decode cX4_rankIn 20 = .ok (.if_icmp .ne 5, 3) := by decide +kernel
theorem dX4_rankIn_23 : decode cX4_rankIn 23 = .ok (.iload_n 2, 1) := by decide +kernel
theorem dX4_rankIn_24 : decode cX4_rankIn 24 = .ok (.ireturn, 1) := by decide +kernel
theorem dX4_rankIn_25 : decode cX4_rankIn 25 = .ok (.iinc 2 1, 3) := by decide +kernel
theorem dX4_rankIn_28 : decode cX4_rankIn 28 = .ok (.goto (-26), 3) := by decide +kernel
theorem dX4_rankIn_31 : decode cX4_rankIn 31 = .ok (.iconst (-1), 1) := by decide +kernel
theorem dX4_rankIn_32 : decode cX4_rankIn 32 = .ok (.ireturn, 1) := by decide +kernel
theorem dX4_openRank_0 : decode cX4_openRank 0 = .ok (.aload_n 0, 1) := by decide +kernel
theorem dX4_openRank_1 : decode cX4_openRank 1 = .ok (.getfield 49, 3) := by decide +kernel
theorem dX4_openRank_4 : decode cX4_openRank 4 = .ok (.bipush 6, 2) := by decide +kernel
theorem dX4_openRank_6 : decode cX4_openRank 6 = .ok (.if_icmp .lt 6, 3) := by decide +kernel
theorem dX4_openRank_9 : decode cX4_openRank 9 = .ok (.bipush (-4), 2) := by decide +kernel
theorem dX4_openRank_11 : decode cX4_openRank 11 = .ok (.ireturn, 1) := by decide +kernel
theorem dX4_openRank_12 : decode cX4_openRank 12 = .ok (.aload_n 0, 1) := by decide +kernel
theorem dX4_openRank_13 : decode cX4_openRank 13 = .ok (.getfield 31, 3) := by decide +kernel
theorem dX4_openRank_16 : decode cX4_openRank 16 = .ok (.aload_n 0, 1) := by decide +kernel
theorem dX4_openRank_17 : decode cX4_openRank 17 = .ok (.getfield 49, 3) := by decide +kernel
theorem dX4_openRank_20 : decode cX4_openRank 20 = .ok (.aaload, 1) := by decide +kernel
theorem dX4_openRank_21 : decode cX4_openRank 21 = .ok (.astore_n 2, 1) := by decide +kernel
theorem dX4_openRank_22 : decode cX4_openRank 22 = .ok (.aload_n 0, 1) := by decide +kernel
theorem dX4_openRank_23 : decode cX4_openRank 23 = .ok (.getfield 49, 3) := by decide +kernel
theorem dX4_openRank_26 : decode cX4_openRank 26 = .ok (.istore_n 3, 1) := by decide +kernel
theorem dX4_openRank_27 : decode cX4_openRank 27 = .ok (.iload_n 3, 1) := by decide +kernel
theorem dX4_openRank_28 : decode cX4_openRank 28 = .ok (.ifCond .le 38, 3) := by decide +kernel
theorem dX4_openRank_31 : decode cX4_openRank 31 = .ok (.aload_n 0, 1) := by decide +kernel
theorem dX4_openRank_32 : decode cX4_openRank 32 = .ok (.getfield 31, 3) := by decide +kernel
theorem dX4_openRank_35 : decode cX4_openRank 35 = .ok (.iload_n 3, 1) := by decide +kernel
theorem dX4_openRank_36 : decode cX4_openRank 36 = .ok (.iconst 1, 1) := by decide +kernel
theorem dX4_openRank_37 : decode cX4_openRank 37 = .ok (.isub, 1) := by decide +kernel
theorem dX4_openRank_38 : decode cX4_openRank 38 = .ok (.aaload, 1) := by decide +kernel
theorem dX4_openRank_39 : decode cX4_openRank 39 = .ok (.getfield 87, 3) := by decide +kernel
theorem dX4_openRank_42 : decode cX4_openRank 42 = .ok (.iload_n 1, 1) := by decide +kernel
theorem dX4_openRank_43 : decode cX4_openRank 43 = .ok (.if_icmp .le 23, 3) := by decide +kernel
theorem dX4_openRank_46 : decode cX4_openRank 46 = .ok (.aload_n 0, 1) := by decide +kernel
theorem dX4_openRank_47 : decode cX4_openRank 47 = .ok (.getfield 31, 3) := by decide +kernel
theorem dX4_openRank_50 : decode cX4_openRank 50 = .ok (.iload_n 3, 1) := by decide +kernel
theorem dX4_openRank_51 : decode cX4_openRank 51 = .ok (.aload_n 0, 1) := by decide +kernel
theorem dX4_openRank_52 : decode cX4_openRank 52 = .ok (.getfield 31, 3) := by decide +kernel
theorem dX4_openRank_55 : decode cX4_openRank 55 = .ok (.iload_n 3, 1) := by decide +kernel
theorem dX4_openRank_56 : decode cX4_openRank 56 = .ok (.iconst 1, 1) := by decide +kernel
theorem dX4_openRank_57 : decode cX4_openRank 57 = .ok (.isub, 1) := by decide +kernel
theorem dX4_openRank_58 : decode cX4_openRank 58 = .ok (.aaload, 1) := by decide +kernel
theorem dX4_openRank_59 : decode cX4_openRank 59 = .ok (.aastore, 1) := by decide +kernel
theorem dX4_openRank_60 : decode cX4_openRank 60 = .ok (.iinc 3 (-1), 3) := by decide +kernel
theorem dX4_openRank_63 : decode cX4_openRank 63 = .ok (.goto (-36), 3) := by decide +kernel
theorem dX4_openRank_66 : decode cX4_openRank 66 = .ok (.aload_n 0, 1) := by decide +kernel
theorem dX4_openRank_67 : decode cX4_openRank 67 = .ok (.getfield 31, 3) := by decide +kernel
theorem dX4_openRank_70 : decode cX4_openRank 70 = .ok (.iload_n 3, 1) := by decide +kernel
theorem dX4_openRank_71 : decode cX4_openRank 71 = .ok (.aload_n 2, 1) := by decide +kernel
theorem dX4_openRank_72 : decode cX4_openRank 72 = .ok (.aastore, 1) := by decide +kernel
theorem dX4_openRank_73 : decode cX4_openRank 73 = .ok (.aload_n 0, 1) := by decide +kernel
theorem dX4_openRank_74 : decode cX4_openRank 74 = .ok (.dup, 1) := by decide +kernel
theorem dX4_openRank_75 : decode cX4_openRank 75 = .ok (.getfield 49, 3) := by decide +kernel
theorem dX4_openRank_78 : decode cX4_openRank 78 = .ok (.iconst 1, 1) := by decide +kernel
theorem dX4_openRank_79 : decode cX4_openRank 79 = .ok (.iadd, 1) := by decide +kernel
theorem dX4_openRank_80 : decode cX4_openRank 80 = .ok (.putfield 49, 3) := by decide +kernel
theorem dX4_openRank_83 : decode cX4_openRank 83 = .ok (.iload_n 3, 1) := by decide +kernel
theorem dX4_openRank_84 : decode cX4_openRank 84 = .ok (.ireturn, 1) := by decide +kernel
theorem dX4_removePaddle_0 : decode cX4_removePaddle 0 = .ok (.aload_n 0, 1) := by decide +kernel
theorem dX4_removePaddle_1 : decode cX4_removePaddle 1 = .ok (.iload_n 1, 1) := by decide +kernel
theorem dX4_removePaddle_2 : decode cX4_removePaddle 2 = .ok (.invokevirtual 80, 3) := by decide +kernel
theorem dX4_removePaddle_5 : decode cX4_removePaddle 5 = .ok (.istore_n 2, 1) := by decide +kernel
theorem dX4_removePaddle_6 : decode cX4_removePaddle 6 = .ok (.iload_n 2, 1) := by decide +kernel
theorem dX4_removePaddle_7 : decode cX4_removePaddle 7 = .ok (.ifCond .ge 5, 3) := by decide +kernel
theorem dX4_removePaddle_10 : decode cX4_removePaddle 10 = .ok (.iconst (-1), 1) := by decide +kernel
theorem dX4_removePaddle_11 : decode cX4_removePaddle 11 = .ok (.ireturn, 1) := by decide +kernel
theorem dX4_removePaddle_12 : decode cX4_removePaddle 12 = .ok (.aload_n 0, 1) := by decide +kernel
theorem dX4_removePaddle_13 : decode cX4_removePaddle 13 = .ok (.getfield 31, 3) := by decide +kernel
theorem dX4_removePaddle_16 : decode cX4_removePaddle 16 = .ok (.iload_n 2, 1) := by decide +kernel
theorem dX4_removePaddle_17 : decode cX4_removePaddle 17 = .ok (.aaload, 1) := by decide +kernel
theorem dX4_removePaddle_18 : decode cX4_removePaddle 18 = .ok (.astore_n 3, 1) := by decide +kernel
theorem dX4_removePaddle_19 : decode cX4_removePaddle 19 = .ok (.aload_n 0, 1) := by decide +kernel
theorem dX4_removePaddle_20 : decode cX4_removePaddle 20 = .ok (.dup, 1) := by decide +kernel
theorem dX4_removePaddle_21 : decode cX4_removePaddle 21 = .ok (.getfield 49, 3) := by decide +kernel
theorem dX4_removePaddle_24 : decode cX4_removePaddle 24 = .ok (.iconst 1, 1) := by decide +kernel
theorem dX4_removePaddle_25 : decode cX4_removePaddle 25 = .ok (.isub, 1) := by decide +kernel
theorem dX4_removePaddle_26 : decode cX4_removePaddle 26 = .ok (.putfield 49, 3) := by decide +kernel
theorem dX4_removePaddle_29 : decode cX4_removePaddle 29 = .ok (.iload_n 2, 1) := by decide +kernel
theorem dX4_removePaddle_30 : decode cX4_removePaddle 30 = .ok (.istore 4, 2) := by decide +kernel
theorem dX4_removePaddle_32 : decode cX4_removePaddle 32 = .ok (.iload 4, 2) := by decide +kernel
theorem dX4_removePaddle_34 : decode cX4_removePaddle 34 = .ok (.aload_n 0, 1) := by decide +kernel
theorem dX4_removePaddle_35 : decode cX4_removePaddle 35 = .ok (.getfield 49, 3) := by decide +kernel
theorem dX4_removePaddle_38 : decode cX4_removePaddle 38 = .ok (.if_icmp .ge 25, 3) := by decide +kernel
theorem dX4_removePaddle_41 : decode cX4_removePaddle 41 = .ok (.aload_n 0, 1) := by decide +kernel
theorem dX4_removePaddle_42 : decode cX4_removePaddle 42 = .ok (.getfield 31, 3) := by decide +kernel
theorem dX4_removePaddle_45 : decode cX4_removePaddle 45 = .ok (.iload 4, 2) := by decide +kernel
theorem dX4_removePaddle_47 : decode cX4_removePaddle 47 = .ok (.aload_n 0, 1) := by decide +kernel
theorem dX4_removePaddle_48 : decode cX4_removePaddle 48 = .ok (.getfield 31, 3) := by decide +kernel
theorem dX4_removePaddle_51 : decode cX4_removePaddle 51 = .ok (.iload 4, 2) := by decide +kernel
theorem dX4_removePaddle_53 : decode cX4_removePaddle 53 = .ok (.iconst 1, 1) := by decide +kernel
theorem dX4_removePaddle_54 : decode cX4_removePaddle 54 = .ok (.iadd, 1) := by decide +kernel
theorem dX4_removePaddle_55 : decode cX4_removePaddle 55 = .ok (.aaload, 1) := by decide +kernel
theorem dX4_removePaddle_56 : decode cX4_removePaddle 56 = .ok (.aastore, 1) := by decide +kernel
theorem dX4_removePaddle_57 : decode cX4_removePaddle 57 = .ok (.iinc 4 1, 3) := by decide +kernel
theorem dX4_removePaddle_60 : decode cX4_removePaddle 60 = .ok (.goto (-28), 3) := by decide +kernel
theorem dX4_removePaddle_63 : decode cX4_removePaddle 63 = .ok (.aload_n 0, 1) := by decide +kernel
theorem dX4_removePaddle_64 : decode cX4_removePaddle 64 = .ok (.getfield 31, 3) := by decide +kernel
theorem dX4_removePaddle_67 : decode cX4_removePaddle 67 = .ok (.aload_n 0, 1) := by decide +kernel
theorem dX4_removePaddle_68 : decode cX4_removePaddle 68 = .ok (.getfield 49, 3) := by decide +kernel
theorem dX4_removePaddle_71 : decode cX4_removePaddle 71 = .ok (.aload_n 3, 1) := by decide +kernel
theorem dX4_removePaddle_72 : decode cX4_removePaddle 72 = .ok (.aastore, 1) := by decide +kernel
theorem dX4_removePaddle_73 : decode cX4_removePaddle 73 = .ok (.aload_n 0, 1) := by decide +kernel
theorem dX4_removePaddle_74 : decode cX4_removePaddle 74 = .ok (.getfield 49, 3) := by decide +kernel
theorem dX4_removePaddle_77 : decode cX4_removePaddle 77 = .ok (.ireturn, 1) := by decide +kernel
theorem dX4_startPaddle_0 : decode cX4_startPaddle 0 = .ok (.aload_n 0, 1) := by decide +kernel
theorem dX4_startPaddle_1 : decode cX4_startPaddle 1 = .ok (.iload_n 1, 1) := by decide +kernel
theorem dX4_startPaddle_2 : decode cX4_startPaddle 2 = .ok (.invokevirtual 80, 3) := by decide +kernel
theorem dX4_startPaddle_5 : decode cX4_startPaddle 5 = .ok (.istore_n 2, 1) := by decide +kernel
theorem dX4_startPaddle_6 : decode cX4_startPaddle 6 = .ok (.iload_n 2, 1) := by decide +kernel
theorem dX4_startPaddle_7 : decode cX4_startPaddle 7 = .ok (.ifCond .ge 5, 3) := by decide +kernel
theorem dX4_startPaddle_10 : decode cX4_startPaddle 10 = .ok (.iconst (-1), 1) := by decide +kernel
theorem dX4_startPaddle_11 : decode cX4_startPaddle 11 = .ok (.ireturn, 1) := by decide +kernel
theorem dX4_startPaddle_12 : decode cX4_startPaddle 12 = .ok (.aload_n 0, 1) := by decide +kernel
theorem dX4_startPaddle_13 : decode cX4_startPaddle 13 = .ok (.getfield 31, 3) := by decide +kernel
theorem dX4_startPaddle_16 : decode cX4_startPaddle 16 = .ok (.iload_n 2, 1) := by decide +kernel
theorem dX4_startPaddle_17 : decode cX4_startPaddle 17 = .ok (.aaload, 1) := by decide +kernel
theorem dX4_startPaddle_18 : decode cX4_startPaddle 18 = .ok (.getfield 102, 3) := by decide +kernel
theorem dX4_startPaddle_21 : decode cX4_startPaddle 21 = .ok (.ifCond .ne 7, 3) := by decide +kernel
theorem dX4_startPaddle_24 : decode cX4_startPaddle 24 = .ok (.iconst 1, 1) := by decide +kernel
theorem dX4_startPaddle_25 : decode cX4_startPaddle 25 = .ok (.goto 4, 3) := by decide +kernel
theorem dX4_startPaddle_28 : decode cX4_startPaddle 28 = .ok (.iconst 0, 1) := by decide +kernel
theorem dX4_startPaddle_29 : decode cX4_startPaddle 29 = .ok (.istore_n 3, 1) := by decide +kernel
theorem dX4_startPaddle_30 : decode cX4_startPaddle 30 = .ok (.aload_n 0, 1) := by decide +kernel
theorem dX4_startPaddle_31 : decode cX4_startPaddle 31 = .ok (.getfield 31, 3) := by decide +kernel
theorem dX4_startPaddle_34 : decode cX4_startPaddle 34 = .ok (.iload_n 2, 1) := by decide +kernel
theorem dX4_startPaddle_35 : decode cX4_startPaddle 35 = .ok (.aaload, 1) := by decide +kernel
theorem dX4_startPaddle_36 : decode cX4_startPaddle 36 = .ok (.iconst 1, 1) := by decide +kernel
theorem dX4_startPaddle_37 : decode cX4_startPaddle 37 = .ok (.putfield 102, 3) := by decide +kernel
theorem dX4_startPaddle_40 : decode cX4_startPaddle 40 = .ok (.iload_n 3, 1) := by decide +kernel
theorem dX4_startPaddle_41 : decode cX4_startPaddle 41 = .ok (.invokestatic 106, 3) := by decide +kernel
theorem dX4_startPaddle_44 : decode cX4_startPaddle 44 = .ok (.ireturn, 1) := by decide +kernel
theorem dX4_placeGauge_0 : decode cX4_placeGauge 0 = .ok (.iload_n 1, 1) := by decide +kernel
theorem dX4_placeGauge_1 : decode cX4_placeGauge 1 = .ok (.bipush 40, 2) := by decide +kernel
theorem dX4_placeGauge_3 : decode cX4_placeGauge 3 = .ok (.invokestatic 66, 3) := by decide +kernel
theorem dX4_placeGauge_6 : decode cX4_placeGauge 6 = .ok (.ifCond .eq 5, 3) := by decide +kernel
theorem dX4_placeGauge_9 : decode cX4_placeGauge 9 = .ok (.iconst (-1), 1) := by decide +kernel
theorem dX4_placeGauge_10 : decode cX4_placeGauge 10 = .ok (.ireturn, 1) := by decide +kernel
theorem dX4_placeGauge_11 : decode cX4_placeGauge 11 = .ok (.aload_n 0, 1) := by decide +kernel
theorem dX4_placeGauge_12 : decode cX4_placeGauge 12 = .ok (.getfield 57, 3) := by decide +kernel
theorem dX4_placeGauge_15 : decode cX4_placeGauge 15 = .ok (.iconst 4, 1) := by decide +kernel
theorem dX4_placeGauge_16 : decode cX4_placeGauge 16 = .ok (.if_icmp .lt 6, 3) := by decide +kernel
theorem dX4_placeGauge_19 : decode cX4_placeGauge 19 = .ok (.bipush (-4), 2) := by decide +kernel
theorem dX4_placeGauge_21 : decode cX4_placeGauge 21 = .ok (.ireturn, 1) := by decide +kernel
theorem dX4_placeGauge_22 : decode cX4_placeGauge 22 = .ok (.aload_n 0, 1) := by decide +kernel
theorem dX4_placeGauge_23 : decode cX4_placeGauge 23 = .ok (.getfield 37, 3) := by decide +kernel
theorem dX4_placeGauge_26 : decode cX4_placeGauge 26 = .ok (.aload_n 0, 1) := by decide +kernel
theorem dX4_placeGauge_27 : decode cX4_placeGauge 27 = .ok (.getfield 57, 3) := by decide +kernel
theorem dX4_placeGauge_30 : decode cX4_placeGauge 30 = .ok (.aaload, 1) := by decide +kernel
theorem dX4_placeGauge_31 : decode cX4_placeGauge 31 = .ok (.iload_n 1, 1) := by decide +kernel
theorem dX4_placeGauge_32 : decode cX4_placeGauge 32 = .ok (.invokevirtual 110, 3) := by decide +kernel
theorem dX4_placeGauge_35 : decode cX4_placeGauge 35 = .ok (.aload_n 0, 1) := by decide +kernel
theorem dX4_placeGauge_36 : decode cX4_placeGauge 36 = .ok (.dup, 1) := by decide +kernel
theorem dX4_placeGauge_37 : decode cX4_placeGauge 37 = .ok (.getfield 57, 3) := by decide +kernel
theorem dX4_placeGauge_40 : decode cX4_placeGauge 40 = .ok (.iconst 1, 1) := by decide +kernel
theorem dX4_placeGauge_41 : decode cX4_placeGauge 41 = .ok (.iadd, 1) := by decide +kernel
theorem dX4_placeGauge_42 : decode cX4_placeGauge 42 = .ok (.putfield 57, 3) := by decide +kernel
theorem dX4_placeGauge_45 : decode cX4_placeGauge 45 = .ok (.aload_n 0, 1) := by decide +kernel
theorem dX4_placeGauge_46 : decode cX4_placeGauge 46 = .ok (.getfield 57, 3) := by decide +kernel
theorem dX4_placeGauge_49 : decode cX4_placeGauge 49 = .ok (.iconst 1, 1) := by decide +kernel
theorem dX4_placeGauge_50 : decode cX4_placeGauge 50 = .ok (.isub, 1) := by decide +kernel
theorem dX4_placeGauge_51 : decode cX4_placeGauge 51 = .ok (.ireturn, 1) := by decide +kernel
theorem dX4_changeLevel_0 : decode cX4_changeLevel 0 = .ok (.iload_n 1, 1) := by decide +kernel
theorem dX4_changeLevel_1 : decode cX4_changeLevel 1 = .ok (.bipush 40, 2) := by decide +kernel
theorem dX4_changeLevel_3 : decode cX4_changeLevel 3 = .ok (.invokestatic 66, 3) := by decide +kernel
theorem dX4_changeLevel_6 : decode cX4_changeLevel 6 = .ok (.ifCond .eq 5, 3) := by decide +kernel
theorem dX4_changeLevel_9 : decode cX4_changeLevel 9 = .ok (.iconst (-1), 1) := by decide +kernel
theorem dX4_changeLevel_10 : decode cX4_changeLevel 10 = .ok (.ireturn, 1) := by decide +kernel
theorem dX4_changeLevel_11 : decode cX4_changeLevel 11 = .ok (.iload_n 2, 1) := by decide +kernel
theorem dX4_changeLevel_12 : decode cX4_changeLevel 12 = .ok (.sipush (-9999), 3) := by decide +kernel
theorem dX4_changeLevel_15 : decode cX4_changeLevel 15 = .ok (.if_icmp .lt 10, 3) := by decide +kernel
theorem dX4_changeLevel_18 : decode cX4_changeLevel 18 = .ok (.iload_n 2, 1) := by decide +kernel
theorem dX4_changeLevel_19 : decode cX4_changeLevel 19 = .ok (.sipush 9999, 3) := by decide +kernel
theorem dX4_changeLevel_22 : decode cX4_changeLevel 22 = .ok (.if_icmp .le 6, 3) := by decide +kernel
theorem dX4_changeLevel_25 : decode cX4_changeLevel 25 = .ok (.bipush (-2), 2) := by decide +kernel
theorem dX4_changeLevel_27 : decode cX4_changeLevel 27 = .ok (.ireturn, 1) := by decide +kernel
theorem dX4_changeLevel_28 : decode cX4_changeLevel 28 = .ok (.aload_n 0, 1) := by decide +kernel
theorem dX4_changeLevel_29 : decode cX4_changeLevel 29 = .ok (.getfield 23, 3) := by decide +kernel
theorem dX4_changeLevel_32 : decode cX4_changeLevel 32 = .ok (.iload_n 1, 1) := by decide +kernel
theorem dX4_changeLevel_33 : decode cX4_changeLevel 33 = .ok (.iaload, 1) := by decide +kernel
theorem dX4_changeLevel_34 : decode cX4_changeLevel 34 = .ok (.istore_n 3, 1) := by decide +kernel
theorem dX4_changeLevel_35 : decode cX4_changeLevel 35 = .ok (.aload_n 0, 1) := by decide +kernel
theorem dX4_changeLevel_36 : decode cX4_changeLevel 36 = .ok (.getfield 23, 3) := by decide +kernel
theorem dX4_changeLevel_39 : decode cX4_changeLevel 39 = .ok (.iload_n 1, 1) := by decide +kernel
theorem dX4_changeLevel_40 : decode cX4_changeLevel 40 = .ok (.iload_n 2, 1) := by decide +kernel
theorem dX4_changeLevel_41 : decode cX4_changeLevel 41 = .ok (.iastore, 1) := by decide +kernel
theorem dX4_changeLevel_42 : decode cX4_changeLevel 42 = .ok (.iload_n 3, 1) := by decide +kernel
theorem dX4_changeLevel_43 : decode cX4_changeLevel 43 = .ok (.sipush 10000, 3) := by decide +kernel
theorem dX4_changeLevel_46 : decode cX4_changeLevel 46 = .ok (.iadd, 1) := by decide +kernel
theorem dX4_changeLevel_47 : decode cX4_changeLevel 47 = .ok (.ireturn, 1) := by decide +kernel
theorem dX4_passSteps_0 : decode cX4_passSteps 0 = .ok (.iload_n 1, 1) := by decide +kernel
theorem dX4_passSteps_1 : decode cX4_passSteps 1 = .ok (.iconst 1, 1) := by decide +kernel
theorem dX4_passSteps_2 : decode cX4_passSteps 2 = .ok (.if_icmp .lt 9, 3) := by decide +kernel
theorem dX4_passSteps_5 : decode cX4_passSteps 5 = .ok (.iload_n 1, 1) := by decide +kernel
theorem dX4_passSteps_6 : decode cX4_passSteps 6 = .ok (.bipush 99, 2) := by decide +kernel
theorem dX4_passSteps_8 : decode cX4_passSteps 8 = .ok (.if_icmp .le 6, 3) := by decide +kernel
theorem dX4_passSteps_11 : decode cX4_passSteps 11 = .ok (.bipush (-2), 2) := by decide +kernel
theorem dX4_passSteps_13 : decode cX4_passSteps 13 = .ok (.ireturn, 1) := by decide +kernel
theorem dX4_passSteps_14 : decode cX4_passSteps 14 = .ok (.aload_n 0, 1) := by decide +kernel
theorem dX4_passSteps_15 : decode cX4_passSteps 15 = .ok (.getfield 63, 3) := by decide +kernel
theorem dX4_passSteps_18 : decode cX4_passSteps 18 = .ok (.iload_n 1, 1) := by decide +kernel
theorem dX4_passSteps_19 : decode cX4_passSteps 19 = .ok (.iadd, 1) := by decide +kernel
theorem dX4_passSteps_20 : decode cX4_passSteps 20 = .ok (.ldc 114, 2) := by decide +kernel
theorem dX4_passSteps_22 : decode cX4_passSteps 22 = .ok (.if_icmp .le 6, 3) := by decide +kernel
theorem dX4_passSteps_25 : decode cX4_passSteps 25 = .ok (.bipush (-5), 2) := by decide +kernel
theorem dX4_passSteps_27 : decode cX4_passSteps 27 = .ok (.ireturn, 1) := by decide +kernel
theorem dX4_passSteps_28 : decode cX4_passSteps 28 = .ok (.iconst 0, 1) := by decide +kernel
theorem dX4_passSteps_29 : decode cX4_passSteps 29 = .ok (.istore_n 2, 1) := by decide +kernel
theorem dX4_passSteps_30 : decode cX4_passSteps 30 = .ok (.iconst 0, 1) := by decide +kernel
theorem dX4_passSteps_31 : decode cX4_passSteps 31 = .ok (.istore_n 3, 1) := by decide +kernel
theorem dX4_passSteps_32 : decode cX4_passSteps 32 = .ok (.iload_n 3, 1) := by decide +kernel
theorem dX4_passSteps_33 : decode cX4_passSteps 33 = .ok (.iload_n 1, 1) := by decide +kernel
theorem dX4_passSteps_34 : decode cX4_passSteps 34 = .ok (.if_icmp .ge 16, 3) := by decide +kernel
theorem dX4_passSteps_37 : decode cX4_passSteps 37 = .ok (.iload_n 2, 1) := by decide +kernel
theorem dX4_passSteps_38 : decode cX4_passSteps 38 = .ok (.aload_n 0, 1) := by decide +kernel
theorem dX4_passSteps_39 : decode cX4_passSteps 39 = .ok (.invokevirtual 115, 3) := by decide +kernel
theorem dX4_passSteps_42 : decode cX4_passSteps 42 = .ok (.iadd, 1) := by decide +kernel
theorem dX4_passSteps_43 : decode cX4_passSteps 43 = .ok (.istore_n 2, 1) := by decide +kernel
theorem dX4_passSteps_44 : decode cX4_passSteps 44 = .ok (.iinc 3 1, 3) := by decide +kernel
theorem dX4_passSteps_47 : decode cX4_passSteps 47 = .ok (.goto (-15), 3) := by decide +kernel
theorem dX4_passSteps_50 : decode cX4_passSteps 50 = .ok (.iload_n 2, 1) := by decide +kernel
theorem dX4_passSteps_51 : decode cX4_passSteps 51 = .ok (.ireturn, 1) := by decide +kernel
theorem dX4_step_0 : decode cX4_step 0 = .ok (.aload_n 0, 1) := by decide +kernel
theorem dX4_step_1 : decode cX4_step 1 = .ok (.invokevirtual 119, 3) := by decide +kernel
theorem dX4_step_4 : decode cX4_step 4 = .ok (.istore_n 1, 1) := by decide +kernel
theorem dX4_step_5 : decode cX4_step 5 = .ok (.aload_n 0, 1) := by decide +kernel
theorem dX4_step_6 : decode cX4_step 6 = .ok (.invokevirtual 122, 3) := by decide +kernel
theorem dX4_step_9 : decode cX4_step 9 = .ok (.aload_n 0, 1) := by decide +kernel
theorem dX4_step_10 : decode cX4_step 10 = .ok (.invokevirtual 125, 3) := by decide +kernel
theorem dX4_step_13 : decode cX4_step 13 = .ok (.aload_n 0, 1) := by decide +kernel
theorem dX4_step_14 : decode cX4_step 14 = .ok (.dup, 1) := by decide +kernel
theorem dX4_step_15 : decode cX4_step 15 = .ok (.getfield 63, 3) := by decide +kernel
theorem dX4_step_18 : decode cX4_step 18 = .ok (.iconst 1, 1) := by decide +kernel
theorem dX4_step_19 : decode cX4_step 19 = .ok (.iadd, 1) := by decide +kernel
theorem dX4_step_20 : decode cX4_step 20 = .ok (.putfield 63, 3) := by decide +kernel
theorem dX4_step_23 : decode cX4_step 23 = .ok (.iconst 0, 1) := by decide +kernel
theorem dX4_step_24 : decode cX4_step 24 = .ok (.istore_n 2, 1) := by decide +kernel
theorem dX4_step_25 : decode cX4_step 25 = .ok (.iload_n 2, 1) := by decide +kernel
theorem dX4_step_26 : decode cX4_step 26 = .ok (.aload_n 0, 1) := by decide +kernel
theorem dX4_step_27 : decode cX4_step 27 = .ok (.getfield 57, 3) := by decide +kernel
theorem dX4_step_30 : decode cX4_step 30 = .ok (.if_icmp .ge 32, 3) := by decide +kernel
theorem dX4_step_33 : decode cX4_step 33 = .ok (.aload_n 0, 1) := by decide +kernel
theorem dX4_step_34 : decode cX4_step 34 = .ok (.getfield 37, 3) := by decide +kernel
theorem dX4_step_37 : decode cX4_step 37 = .ok (.iload_n 2, 1) := by decide +kernel
theorem dX4_step_38 : decode cX4_step 38 = .ok (.aaload, 1) := by decide +kernel
theorem dX4_step_39 : decode cX4_step 39 = .ok (.aload_n 0, 1) := by decide +kernel
theorem dX4_step_40 : decode cX4_step 40 = .ok (.getfield 23, 3) := by decide +kernel
theorem dX4_step_43 : decode cX4_step 43 = .ok (.aload_n 0, 1) := by decide +kernel
theorem dX4_step_44 : decode cX4_step 44 = .ok (.getfield 37, 3) := by decide +kernel
theorem dX4_step_47 : decode cX4_step 47 = .ok (.iload_n 2, 1) := by decide +kernel
theorem dX4_step_48 : decode cX4_step 48 = .ok (.aaload, 1) := by decide +kernel
theorem dX4_step_49 : decode cX4_step 49 = .ok (.getfield 128, 3) := by decide +kernel
theorem dX4_step_52 : decode cX4_step 52 = .ok (.iaload, 1) := by decide +kernel
theorem dX4_step_53 : decode cX4_step 53 = .ok (.invokevirtual 129, 3) := by decide +kernel
theorem dX4_step_56 : decode cX4_step 56 = .ok (.iinc 2 1, 3) := by decide +kernel
theorem dX4_step_59 : decode cX4_step 59 = .ok (.goto (-34), 3) := by decide +kernel
theorem dX4_step_62 : decode cX4_step 62 = .ok (.iload_n 1, 1) := by decide +kernel
theorem dX4_step_63 : decode cX4_step 63 = .ok (.ireturn, 1) := by decide +kernel
theorem dX4_movePaddles_0 : decode cX4_movePaddles 0 = .ok (.iconst 0, 1) := by decide +kernel
theorem dX4_movePaddles_1 : decode cX4_movePaddles 1 = .ok (.istore_n 1, 1) := by decide +kernel
theorem dX4_movePaddles_2 : decode cX4_movePaddles 2 = .ok (.iconst 0, 1) := by decide +kernel
theorem dX4_movePaddles_3 : decode cX4_movePaddles 3 = .ok (.istore_n 2, 1) := by decide +kernel
theorem dX4_movePaddles_4 : decode cX4_movePaddles 4 = .ok (.iload_n 2, 1) := by decide +kernel
theorem dX4_movePaddles_5 : decode cX4_movePaddles 5 = .ok (.aload_n 0, 1) := by decide +kernel
theorem dX4_movePaddles_6 : decode cX4_movePaddles 6 = .ok (.getfield 49, 3) := by decide +kernel
theorem dX4_movePaddles_9 : decode cX4_movePaddles 9 = .ok (.if_icmp .ge 79, 3) := by decide +kernel
theorem dX4_movePaddles_12 : decode cX4_movePaddles 12 = .ok (.aload_n 0, 1) := by decide +kernel
theorem dX4_movePaddles_13 : decode cX4_movePaddles 13 = .ok (.getfield 31, 3) := by decide +kernel
theorem dX4_movePaddles_16 : decode cX4_movePaddles 16 = .ok (.iload_n 2, 1) := by decide +kernel
theorem dX4_movePaddles_17 : decode cX4_movePaddles 17 = .ok (.aaload, 1) := by decide +kernel
theorem dX4_movePaddles_18 : decode cX4_movePaddles 18 = .ok (.astore_n 3, 1) := by decide +kernel
theorem dX4_movePaddles_19 : decode cX4_movePaddles 19 = .ok (.aload_n 3, 1) := by decide +kernel
theorem dX4_movePaddles_20 : decode cX4_movePaddles 20 = .ok (.getfield 102, 3) := by decide +kernel
theorem dX4_movePaddles_23 : decode cX4_movePaddles 23 = .ok (.ifCond .eq 35, 3) := by decide +kernel
theorem dX4_movePaddles_26 : decode cX4_movePaddles 26 = .ok (.aload_n 0, 1) := by decide +kernel
theorem dX4_movePaddles_27 : decode cX4_movePaddles 27 = .ok (.getfield 23, 3) := by decide +kernel
theorem dX4_movePaddles_30 : decode cX4_movePaddles 30 = .ok (.aload_n 3, 1) := by decide +kernel
theorem dX4_movePaddles_31 : decode cX4_movePaddles 31 = .ok (.getfield 87, 3) := by decide +kernel
theorem dX4_movePaddles_34 : decode cX4_movePaddles 34 = .ok (.iaload, 1) := by decide +kernel
theorem dX4_movePaddles_35 : decode cX4_movePaddles 35 = .ok (.invokestatic 132, 3) := by decide +kernel
theorem dX4_movePaddles_38 : decode cX4_movePaddles 38 = .ok (.aload_n 0, 1) := by decide +kernel
theorem dX4_movePaddles_39 : decode cX4_movePaddles 39 = .ok (.getfield 18, 3) := by decide +kernel
theorem dX4_movePaddles_42 : decode cX4_movePaddles 42 = .ok (.iconst 2, 1) := by decide +kernel
theorem dX4_movePaddles_43 : decode cX4_movePaddles 43 = .ok (.iaload, 1) := by decide +kernel
theorem dX4_movePaddles_44 : decode cX4_movePaddles 44 = .ok (.if_icmp .le 14, 3) := by decide +kernel
theorem dX4_movePaddles_47 : decode cX4_movePaddles 47 = .ok (.aload_n 3, 1) := by decide +kernel
theorem dX4_movePaddles_48 : decode cX4_movePaddles 48 = .ok (.iconst 0, 1) := by decide +kernel
theorem dX4_movePaddles_49 : decode cX4_movePaddles 49 = .ok (.putfield 102, 3) := by decide +kernel
theorem dX4_movePaddles_52 : decode cX4_movePaddles 52 = .ok (.iinc 1 1, 3) := by decide +kernel
theorem dX4_movePaddles_55 : decode cX4_movePaddles 55 = .ok (.goto 27, 3) := by decide +kernel
theorem dX4_movePaddles_58 : decode cX4_movePaddles 58 = .ok (.aload_n 3, 1) := by decide +kernel
theorem dX4_movePaddles_59 : decode cX4_movePaddles 59 = .ok (.getfield 102, 3) := by decide +kernel
theorem dX4_movePaddles_62 : decode cX4_movePaddles 62 = .ok (.ifCond .eq 20, 3) := by decide +kernel
theorem dX4_movePaddles_65 : decode cX4_movePaddles 65 = .ok (.aload_n 0, 1) := by decide +kernel
theorem dX4_movePaddles_66 : decode cX4_movePaddles 66 = .ok (.getfield 23, 3) := by decide +kernel
theorem dX4_movePaddles_69 : decode cX4_movePaddles 69 = .ok (.aload_n 3, 1) := by decide +kernel
theorem dX4_movePaddles_70 : decode cX4_movePaddles 70 = .ok (.getfield 87, 3) := by decide +kernel
theorem dX4_movePaddles_73 : decode cX4_movePaddles 73 = .ok (.aload_n 3, 1) := by decide +kernel
theorem dX4_movePaddles_74 : decode cX4_movePaddles 74 = .ok (.aload_n 0, 1) := by decide +kernel
theorem dX4_movePaddles_75 : decode cX4_movePaddles 75 = .ok (.getfield 63, 3) := by decide +kernel
theorem dX4_movePaddles_78 : decode cX4_movePaddles 78 = .ok (.invokevirtual 137, 3) := by decide +kernel
theorem dX4_movePaddles_81 : decode cX4_movePaddles 81 = .ok (.iastore, 1) := by decide +kernel
theorem dX4_movePaddles_82 : decode cX4_movePaddles 82 = .ok (.iinc 2 1, 3) := by decide +kernel
theorem dX4_movePaddles_85 : decode cX4_movePaddles 85 = .ok (.goto (-81), 3) := by decide +kernel
theorem dX4_movePaddles_88 : decode cX4_movePaddles 88 = .ok (.iload_n 1, 1) := by decide +kernel
theorem dX4_movePaddles_89 : decode cX4_movePaddles 89 = .ok (.ireturn, 1) := by decide +kernel
theorem dX4_moveWater_0 : decode cX4_moveWater 0 = .ok (.aload_n 0, 1) := by decide +kernel
theorem dX4_moveWater_1 : decode cX4_moveWater 1 = .ok (.getfield 23, 3) := by decide +kernel
theorem dX4_moveWater_4 : decode cX4_moveWater 4 = .ok (.iconst 0, 1) := by decide +kernel
theorem dX4_moveWater_5 : decode cX4_moveWater 5 = .ok (.iaload, 1) := by decide +kernel
theorem dX4_moveWater_6 : decode cX4_moveWater 6 = .ok (.istore_n 1, 1) := by decide +kernel
theorem dX4_moveWater_7 : decode cX4_moveWater 7 = .ok (.iconst 0, 1) := by decide +kernel
theorem dX4_moveWater_8 : decode cX4_moveWater 8 = .ok (.istore_n 2, 1) := by decide +kernel
theorem dX4_moveWater_9 : decode cX4_moveWater 9 = .ok (.iload_n 2, 1) := by decide +kernel
theorem dX4_moveWater_10 : decode cX4_moveWater 10 = .ok (.bipush 40, 2) := by decide +kernel
theorem dX4_moveWater_12 : decode cX4_moveWater 12 = .ok (.if_icmp .ge 100, 3) := by decide +kernel
theorem dX4_moveWater_15 : decode cX4_moveWater 15 = .ok (.aload_n 0, 1) := by decide +kernel
theorem dX4_moveWater_16 : decode cX4_moveWater 16 = .ok (.getfield 23, 3) := by decide +kernel
theorem dX4_moveWater_19 : decode cX4_moveWater 19 = .ok (.iload_n 2, 1) := by decide +kernel
theorem dX4_moveWater_20 : decode cX4_moveWater 20 = .ok (.iaload, 1) := by decide +kernel
theorem dX4_moveWater_21 : decode cX4_moveWater 21 = .ok (.istore_n 3, 1) := by decide +kernel
theorem dX4_moveWater_22 : decode cX4_moveWater 22 = .ok (.iload_n 2, 1) := by decide +kernel
theorem dX4_moveWater_23 : decode cX4_moveWater 23 = .ok (.iconst 1, 1) := by decide +kernel
theorem dX4_moveWater_24 : decode cX4_moveWater 24 = .ok (.iadd, 1) := by decide +kernel
theorem dX4_moveWater_25 : decode cX4_moveWater 25 = .ok (.bipush 40, 2) := by decide +kernel
theorem dX4_moveWater_27 : decode cX4_moveWater 27 = .ok (.if_icmp .ge 14, 3) := by decide +kernel
theorem dX4_moveWater_30 : decode cX4_moveWater 30 = .ok (.aload_n 0, 1) := by decide +kernel
theorem dX4_moveWater_31 : decode cX4_moveWater 31 = .ok (.getfield 23, 3) := by decide +kernel
theorem dX4_moveWater_34 : decode cX4_moveWater 34 = .ok (.iload_n 2, 1) := by decide +kernel
theorem dX4_moveWater_35 : decode cX4_moveWater 35 = .ok (.iconst 1, 1) := by decide +kernel
theorem dX4_moveWater_36 : decode cX4_moveWater 36 = .ok (.iadd, 1) := by decide +kernel
theorem dX4_moveWater_37 : decode cX4_moveWater 37 = .ok (.iaload, 1) := by decide +kernel
theorem dX4_moveWater_38 : decode cX4_moveWater 38 = .ok (.goto 4, 3) := by decide +kernel
theorem dX4_moveWater_41 : decode cX4_moveWater 41 = .ok (.iload_n 3, 1) := by decide +kernel
theorem dX4_moveWater_42 : decode cX4_moveWater 42 = .ok (.istore 4, 2) := by decide +kernel
theorem dX4_moveWater_44 : decode cX4_moveWater 44 = .ok (.aload_n 0, 1) := by decide +kernel
theorem dX4_moveWater_45 : decode cX4_moveWater 45 = .ok (.getfield 26, 3) := by decide +kernel
theorem dX4_moveWater_48 : decode cX4_moveWater 48 = .ok (.iload_n 2, 1) := by decide +kernel
theorem dX4_moveWater_49 : decode cX4_moveWater 49 = .ok (.iaload, 1) := by decide +kernel
theorem dX4_moveWater_50 : decode cX4_moveWater 50 = .ok (.iload_n 1, 1) := by decide +kernel
theorem dX4_moveWater_51 : decode cX4_moveWater 51 = .ok (.iload 4, 2) := by decide +kernel
theorem dX4_moveWater_53 : decode cX4_moveWater 53 = .ok (.iadd, 1) := by decide +kernel
theorem dX4_moveWater_54 : decode cX4_moveWater 54 = .ok (.iconst 2, 1) := by decide +kernel
theorem dX4_moveWater_55 : decode cX4_moveWater 55 = .ok (.iload_n 3, 1) := by decide +kernel
theorem dX4_moveWater_56 : decode cX4_moveWater 56 = .ok (.imul, 1) := by decide +kernel
theorem dX4_moveWater_57 : decode cX4_moveWater 57 = .ok (.isub, 1) := by decide +kernel
theorem dX4_moveWater_58 : decode cX4_moveWater 58 = .ok (.iconst 4, 1) := by decide +kernel
theorem dX4_moveWater_59 : decode cX4_moveWater 59 = .ok (.idiv, 1) := by decide +kernel
theorem dX4_moveWater_60 : decode cX4_moveWater 60 = .ok (.iadd, 1) := by decide +kernel
theorem dX4_moveWater_61 : decode cX4_moveWater 61 = .ok (.invokestatic 140, 3) := by decide +kernel
theorem dX4_moveWater_64 : decode cX4_moveWater 64 = .ok (.istore 5, 2) := by decide +kernel
theorem dX4_moveWater_66 : decode cX4_moveWater 66 = .ok (.iload 5, 2) := by decide +kernel
theorem dX4_moveWater_68 : decode cX4_moveWater 68 = .ok (.iload 5, 2) := by decide +kernel
theorem dX4_moveWater_70 : decode cX4_moveWater 70 = .ok (.aload_n 0, 1) := by decide +kernel
theorem dX4_moveWater_71 : decode cX4_moveWater 71 = .ok (.getfield 18, 3) := by decide +kernel
theorem dX4_moveWater_74 : decode cX4_moveWater 74 = .ok (.iconst 1, 1) := by decide +kernel
theorem dX4_moveWater_75 : decode cX4_moveWater 75 = .ok (.iaload, 1) := by decide +kernel
theorem dX4_moveWater_76 : decode cX4_moveWater 76 = .ok (.imul, 1) := by decide +kernel
theorem dX4_moveWater_77 : decode cX4_moveWater 77 = .ok (.bipush 100, 2) := by decide +kernel
theorem dX4_moveWater_79 : decode cX4_moveWater 79 = .ok (.idiv, 1) := by decide +kernel
theorem dX4_moveWater_80 : decode cX4_moveWater 80 = .ok (.isub, 1) := by decide +kernel
theorem dX4_moveWater_81 : decode cX4_moveWater 81 = .ok (.istore 5, 2) := by decide +kernel
theorem dX4_moveWater_83 : decode cX4_moveWater 83 = .ok (.aload_n 0, 1) := by decide +kernel
theorem dX4_moveWater_84 : decode cX4_moveWater 84 = .ok (.getfield 26, 3) := by decide +kernel
theorem dX4_moveWater_87 : decode cX4_moveWater 87 = .ok (.iload_n 2, 1) := by decide +kernel
theorem dX4_moveWater_88 : decode cX4_moveWater 88 = .ok (.iload 5, 2) := by decide +kernel
theorem dX4_moveWater_90 : decode cX4_moveWater 90 = .ok (.iastore, 1) := by decide +kernel
theorem dX4_moveWater_91 : decode cX4_moveWater 91 = .ok (.aload_n 0, 1) := by decide +kernel
theorem dX4_moveWater_92 : decode cX4_moveWater 92 = .ok (.getfield 23, 3) := by decide +kernel
theorem dX4_moveWater_95 : decode cX4_moveWater 95 = .ok (.iload_n 2, 1) := by decide +kernel
theorem dX4_moveWater_96 : decode cX4_moveWater 96 = .ok (.iload_n 3, 1) := by decide +kernel
theorem dX4_moveWater_97 : decode cX4_moveWater 97 = .ok (.iload 5, 2) := by decide +kernel
theorem dX4_moveWater_99 : decode cX4_moveWater 99 = .ok (.iadd, 1) := by decide +kernel
theorem dX4_moveWater_100 : decode cX4_moveWater 100 = .ok (.invokestatic 140, 3) := by decide +kernel
theorem dX4_moveWater_103 : decode cX4_moveWater 103 = .ok (.iastore, 1) := by decide +kernel
theorem dX4_moveWater_104 : decode cX4_moveWater 104 = .ok (.iload_n 3, 1) := by decide +kernel
theorem dX4_moveWater_105 : decode cX4_moveWater 105 = .ok (.istore_n 1, 1) := by decide +kernel
theorem dX4_moveWater_106 : decode cX4_moveWater 106 = .ok (.iinc 2 1, 3) := by decide +kernel
theorem dX4_moveWater_109 : decode cX4_moveWater 109 = .ok (.goto (-100), 3) := by decide +kernel
theorem dX4_moveWater_112 : decode cX4_moveWater 112 = .ok (.return_, 1) := by decide +kernel
theorem dX4_calmBeach_0 : decode cX4_calmBeach 0 = .ok (.bipush 36, 2) := by decide +kernel
theorem dX4_calmBeach_2 : decode cX4_calmBeach 2 = .ok (.istore_n 1, 1) := by decide +kernel
theorem dX4_calmBeach_3 : decode cX4_calmBeach 3 = .ok (.iload_n 1, 1) := by decide +kernel
theorem dX4_calmBeach_4 : decode cX4_calmBeach 4 = .ok (.bipush 40, 2) := by decide +kernel
theorem dX4_calmBeach_6 : decode cX4_calmBeach 6 = .ok (.if_icmp .ge 65, 3) := by decide +kernel
theorem dX4_calmBeach_9 : decode cX4_calmBeach 9 = .ok (.aload_n 0, 1) := by decide +kernel
theorem dX4_calmBeach_10 : decode cX4_calmBeach 10 = .ok (.getfield 18, 3) := by decide +kernel
theorem dX4_calmBeach_13 : decode cX4_calmBeach 13 = .ok (.iconst 0, 1) := by decide +kernel
theorem dX4_calmBeach_14 : decode cX4_calmBeach 14 = .ok (.iaload, 1) := by decide +kernel
theorem dX4_calmBeach_15 : decode cX4_calmBeach 15 = .ok (.iload_n 1, 1) := by decide +kernel
theorem dX4_calmBeach_16 : decode cX4_calmBeach 16 = .ok (.bipush 36, 2) := by decide +kernel
theorem dX4_calmBeach_18 : decode cX4_calmBeach 18 = .ok (.isub, 1) := by decide +kernel
theorem dX4_calmBeach_19 : decode cX4_calmBeach 19 = .ok (.iconst 1, 1) := by decide +kernel
theorem dX4_calmBeach_20 : decode cX4_calmBeach 20 = .ok (.iadd, 1) := by decide +kernel
theorem dX4_calmBeach_21 : decode cX4_calmBeach 21 = .ok (.imul, 1) := by decide +kernel
theorem dX4_calmBeach_22 : decode cX4_calmBeach 22 = .ok (.istore_n 2, 1) := by decide +kernel
theorem dX4_calmBeach_23 : decode cX4_calmBeach 23 = .ok (.aload_n 0, 1) := by decide +kernel
theorem dX4_calmBeach_24 : decode cX4_calmBeach 24 = .ok (.getfield 23, 3) := by decide +kernel
theorem dX4_calmBeach_27 : decode cX4_calmBeach 27 = .ok (.iload_n 1, 1) := by decide +kernel
theorem dX4_calmBeach_28 : decode cX4_calmBeach 28 = .ok (.dup2, 1) := by decide +kernel
theorem dX4_calmBeach_29 : decode cX4_calmBeach 29 = .ok (.iaload, 1) := by decide +kernel
theorem dX4_calmBeach_30 : decode cX4_calmBeach 30 = .ok (.aload_n 0, 1) := by decide +kernel
theorem dX4_calmBeach_31 : decode cX4_calmBeach 31 = .ok (.getfield 23, 3) := by decide +kernel
theorem dX4_calmBeach_34 : decode cX4_calmBeach 34 = .ok (.iload_n 1, 1) := by decide +kernel
theorem dX4_calmBeach_35 : decode cX4_calmBeach 35 = .ok (.iaload, 1) := by decide +kernel
theorem dX4_calmBeach_36 : decode cX4_calmBeach 36 = .ok (.iload_n 2, 1) := by decide +kernel
theorem dX4_calmBeach_37 : decode cX4_calmBeach 37 = .ok (.imul, 1) := by decide +kernel
theorem dX4_calmBeach_38 : decode cX4_calmBeach 38 = .ok (.sipush 400, 3) := by decide +kernel
theorem dX4_calmBeach_41 : decode cX4_calmBeach 41 = .ok (.idiv, 1) := by decide +kernel
theorem dX4_calmBeach_42 : decode cX4_calmBeach 42 = .ok (.isub, 1) := by decide +kernel
theorem dX4_calmBeach_43 : decode cX4_calmBeach 43 = .ok (.iastore, 1) := by decide +kernel
theorem dX4_calmBeach_44 : decode cX4_calmBeach 44 = .ok (.aload_n 0, 1) := by decide +kernel
theorem dX4_calmBeach_45 : decode cX4_calmBeach 45 = .ok (.getfield 26, 3) := by decide +kernel
theorem dX4_calmBeach_48 : decode cX4_calmBeach 48 = .ok (.iload_n 1, 1) := by decide +kernel
theorem dX4_calmBeach_49 : decode cX4_calmBeach 49 = .ok (.dup2, 1) := by decide +kernel
theorem dX4_calmBeach_50 : decode cX4_calmBeach 50 = .ok (.iaload, 1) := by decide +kernel
theorem dX4_calmBeach_51 : decode cX4_calmBeach 51 = .ok (.aload_n 0, 1) := by decide +kernel
theorem dX4_calmBeach_52 : decode cX4_calmBeach 52 = .ok (.getfield 26, 3) := by decide +kernel
theorem dX4_calmBeach_55 : decode cX4_calmBeach 55 = .ok (.iload_n 1, 1) := by decide +kernel
theorem dX4_calmBeach_56 : decode cX4_calmBeach 56 = .ok (.iaload, 1) := by decide +kernel
theorem dX4_calmBeach_57 : decode cX4_calmBeach 57 = .ok (.iload_n 2, 1) := by decide +kernel
theorem dX4_calmBeach_58 : decode cX4_calmBeach 58 = .ok (.imul, 1) := by decide +kernel
theorem dX4_calmBeach_59 : decode cX4_calmBeach 59 = .ok (.sipush 400, 3) := by decide +kernel
theorem dX4_calmBeach_62 : decode cX4_calmBeach 62 = .ok (.idiv, 1) := by decide +kernel
theorem dX4_calmBeach_63 : decode cX4_calmBeach 63 = .ok (.isub, 1) := by decide +kernel
theorem dX4_calmBeach_64 : decode cX4_calmBeach 64 = .ok (.iastore, 1) := by decide +kernel
theorem dX4_calmBeach_65 : decode cX4_calmBeach 65 = .ok (.iinc 1 1, 3) := by decide +kernel
theorem dX4_calmBeach_68 : decode cX4_calmBeach 68 = .ok (.goto (-65), 3) := by decide +kernel
theorem dX4_calmBeach_71 : decode cX4_calmBeach 71 = .ok (.return_, 1) := by decide +kernel
theorem dX4_isCrest_0 : decode cX4_isCrest 0 = .ok (.iload_n 1, 1) := by decide +kernel
theorem dX4_isCrest_1 : decode cX4_isCrest 1 = .ok (.iconst 1, 1) := by decide +kernel
theorem dX4_isCrest_2 : decode cX4_isCrest 2 = .ok (.if_icmp .lt 47, 3) := by decide +kernel
theorem dX4_isCrest_5 : decode cX4_isCrest 5 = .ok (.iload_n 1, 1) := by decide +kernel
theorem dX4_isCrest_6 : decode cX4_isCrest 6 = .ok (.bipush 39, 2) := by decide +kernel
theorem dX4_isCrest_8 : decode cX4_isCrest 8 = .ok (.if_icmp .ge 41, 3) := by decide +kernel
theorem dX4_isCrest_11 : decode cX4_isCrest 11 = .ok (.aload_n 0, 1) := by decide +kernel
theorem dX4_isCrest_12 : decode cX4_isCrest 12 = .ok (.getfield 23, 3) := by decide +kernel
theorem dX4_isCrest_15 : decode cX4_isCrest 15 = .ok (.iload_n 1, 1) := by decide +kernel
theorem dX4_isCrest_16 : decode cX4_isCrest 16 = .ok (.iaload, 1) := by decide +kernel
theorem dX4_isCrest_17 : decode cX4_isCrest 17 = .ok (.aload_n 0, 1) := by decide +kernel
theorem dX4_isCrest_18 : decode cX4_isCrest 18 = .ok (.getfield 23, 3) := by decide +kernel
theorem dX4_isCrest_21 : decode cX4_isCrest 21 = .ok (.iload_n 1, 1) := by decide +kernel
theorem dX4_isCrest_22 : decode cX4_isCrest 22 = .ok (.iconst 1, 1) := by decide +kernel
theorem dX4_isCrest_23 : decode cX4_isCrest 23 = .ok (.isub, 1) := by decide +kernel
theorem dX4_isCrest_24 : decode cX4_isCrest 24 = .ok (.iaload, 1) := by decide +kernel
theorem dX4_isCrest_25 : decode cX4_isCrest 25 = .ok (.if_icmp .le 24, 3) := by decide +kernel
theorem dX4_isCrest_28 : decode cX4_isCrest 28 = .ok (.aload_n 0, 1) := by decide +kernel
theorem dX4_isCrest_29 : decode cX4_isCrest 29 = .ok (.getfield 23, 3) := by decide +kernel
theorem dX4_isCrest_32 : decode cX4_isCrest 32 = .ok (.iload_n 1, 1) := by decide +kernel
theorem dX4_isCrest_33 : decode cX4_isCrest 33 = .ok (.iaload, 1) := by decide +kernel
theorem dX4_isCrest_34 : decode cX4_isCrest 34 = .ok (.aload_n 0, 1) := by decide +kernel
theorem dX4_isCrest_35 : decode cX4_isCrest 35 = .ok (.getfield 23, 3) := by decide +kernel
theorem dX4_isCrest_38 : decode cX4_isCrest 38 = .ok (.iload_n 1, 1) := by decide +kernel
theorem dX4_isCrest_39 : decode cX4_isCrest 39 = .ok (.iconst 1, 1) := by decide +kernel
theorem dX4_isCrest_40 : decode cX4_isCrest 40 = .ok (.iadd, 1) := by decide +kernel
theorem dX4_isCrest_41 : decode cX4_isCrest 41 = .ok (.iaload, 1) := by decide +kernel
theorem dX4_isCrest_42 : decode cX4_isCrest 42 = .ok (.if_icmp .le 7, 3) := by decide +kernel
theorem dX4_isCrest_45 : decode cX4_isCrest 45 = .ok (.iconst 1, 1) := by decide +kernel
theorem dX4_isCrest_46 : decode cX4_isCrest 46 = .ok (.goto 4, 3) := by decide +kernel
theorem dX4_isCrest_49 : decode cX4_isCrest 49 = .ok (.iconst 0, 1) := by decide +kernel
theorem dX4_isCrest_50 : decode cX4_isCrest 50 = .ok (.ireturn, 1) := by decide +kernel
theorem dX4_isTrough_0 : decode cX4_isTrough 0 = .ok (.iload_n 1, 1) := by decide +kernel
theorem dX4_isTrough_1 : decode cX4_isTrough 1 = .ok (.iconst 1, 1) := by decide +kernel
theorem dX4_isTrough_2 : decode cX4_isTrough 2 = .ok (.if_icmp .lt 47, 3) := by decide +kernel
theorem dX4_isTrough_5 : decode cX4_isTrough 5 = .ok (.iload_n 1, 1) := by decide +kernel
theorem dX4_isTrough_6 : decode cX4_isTrough 6 = .ok (.bipush 39, 2) := by decide +kernel
theorem dX4_isTrough_8 : decode cX4_isTrough 8 = .ok (.if_icmp .ge 41, 3) := by decide +kernel
theorem dX4_isTrough_11 : decode cX4_isTrough 11 = .ok (.aload_n 0, 1) := by decide +kernel
theorem dX4_isTrough_12 : decode cX4_isTrough 12 = .ok (.getfield 23, 3) := by decide +kernel
theorem dX4_isTrough_15 : decode cX4_isTrough 15 = .ok (.iload_n 1, 1) := by decide +kernel
theorem dX4_isTrough_16 : decode cX4_isTrough 16 = .ok (.iaload, 1) := by decide +kernel
theorem dX4_isTrough_17 : decode cX4_isTrough 17 = .ok (.aload_n 0, 1) := by decide +kernel
theorem dX4_isTrough_18 : decode cX4_isTrough 18 = .ok (.getfield 23, 3) := by decide +kernel
theorem dX4_isTrough_21 : decode cX4_isTrough 21 = .ok (.iload_n 1, 1) := by decide +kernel
theorem dX4_isTrough_22 : decode cX4_isTrough 22 = .ok (.iconst 1, 1) := by decide +kernel
theorem dX4_isTrough_23 : decode cX4_isTrough 23 = .ok (.isub, 1) := by decide +kernel
theorem dX4_isTrough_24 : decode cX4_isTrough 24 = .ok (.iaload, 1) := by decide +kernel
theorem dX4_isTrough_25 : decode cX4_isTrough 25 = .ok (.if_icmp .ge 24, 3) := by decide +kernel
theorem dX4_isTrough_28 : decode cX4_isTrough 28 = .ok (.aload_n 0, 1) := by decide +kernel
theorem dX4_isTrough_29 : decode cX4_isTrough 29 = .ok (.getfield 23, 3) := by decide +kernel
theorem dX4_isTrough_32 : decode cX4_isTrough 32 = .ok (.iload_n 1, 1) := by decide +kernel
theorem dX4_isTrough_33 : decode cX4_isTrough 33 = .ok (.iaload, 1) := by decide +kernel
theorem dX4_isTrough_34 : decode cX4_isTrough 34 = .ok (.aload_n 0, 1) := by decide +kernel
theorem dX4_isTrough_35 : decode cX4_isTrough 35 = .ok (.getfield 23, 3) := by decide +kernel
theorem dX4_isTrough_38 : decode cX4_isTrough 38 = .ok (.iload_n 1, 1) := by decide +kernel
theorem dX4_isTrough_39 : decode cX4_isTrough 39 = .ok (.iconst 1, 1) := by decide +kernel
theorem dX4_isTrough_40 : decode cX4_isTrough 40 = .ok (.iadd, 1) := by decide +kernel
theorem dX4_isTrough_41 : decode cX4_isTrough 41 = .ok (.iaload, 1) := by decide +kernel
theorem dX4_isTrough_42 : decode cX4_isTrough 42 = .ok (.if_icmp .ge 7, 3) := by decide +kernel
theorem dX4_isTrough_45 : decode cX4_isTrough 45 = .ok (.iconst 1, 1) := by decide +kernel
theorem dX4_isTrough_46 : decode cX4_isTrough 46 = .ok (.goto 4, 3) := by decide +kernel
theorem dX4_isTrough_49 : decode cX4_isTrough 49 = .ok (.iconst 0, 1) := by decide +kernel
theorem dX4_isTrough_50 : decode cX4_isTrough 50 = .ok (.ireturn, 1) := by decide +kernel
theorem dX4_isCalm_0 : decode cX4_isCalm 0 = .ok (.iconst 0, 1) := by decide +kernel
theorem dX4_isCalm_1 : decode cX4_isCalm 1 = .ok (.istore_n 1, 1) := by decide +kernel
theorem dX4_isCalm_2 : decode cX4_isCalm 2 = .ok (.iload_n 1, 1) := by decide +kernel
theorem dX4_isCalm_3 : decode cX4_isCalm 3 = .ok (.bipush 40, 2) := by decide +kernel
theorem dX4_isCalm_5 : decode cX4_isCalm 5 = .ok (.if_icmp .ge 29, 3) := by decide +kernel
theorem dX4_isCalm_8 : decode cX4_isCalm 8 = .ok (.aload_n 0, 1) := by decide +kernel
theorem dX4_isCalm_9 : decode cX4_isCalm 9 = .ok (.getfield 23, 3) := by decide +kernel
theorem dX4_isCalm_12 : decode cX4_isCalm 12 = .ok (.iload_n 1, 1) := by decide +kernel
theorem dX4_isCalm_13 : decode cX4_isCalm 13 = .ok (.iaload, 1) := by decide +kernel
theorem dX4_isCalm_14 : decode cX4_isCalm 14 = .ok (.ifCond .ne 12, 3) := by decide +kernel
theorem dX4_isCalm_17 : decode cX4_isCalm 17 = .ok (.aload_n 0, 1) := by decide +kernel
theorem dX4_isCalm_18 : decode cX4_isCalm 18 = .ok (.getfield 26, 3) := by decide +kernel
theorem dX4_isCalm_21 : decode cX4_isCalm 21 = .ok (.iload_n 1, 1) := by decide +kernel
theorem dX4_isCalm_22 : decode cX4_isCalm 22 = .ok (.iaload, 1) := by decide +kernel
theorem dX4_isCalm_23 : decode cX4_isCalm 23 = .ok (.ifCond .eq 5, 3) := by decide +kernel
theorem dX4_isCalm_26 : decode cX4_isCalm 26 = .ok (.iconst 0, 1) := by decide +kernel
theorem dX4_isCalm_27 : decode cX4_isCalm 27 = .ok (.ireturn, 1) := by decide +kernel
theorem dX4_isCalm_28 : decode cX4_isCalm 28 = .ok (.iinc 1 1, 3) := by decide +kernel
theorem dX4_isCalm_31 : decode cX4_isCalm 31 = .ok (.goto (-29), 3) := by decide +kernel
theorem dX4_isCalm_34 : decode cX4_isCalm 34 = .ok (.iconst 1, 1) := by decide +kernel
theorem dX4_isCalm_35 : decode cX4_isCalm 35 = .ok (.ireturn, 1) := by decide +kernel
theorem dX4_cellsThatAre_0 : decode cX4_cellsThatAre 0 = .ok (.lconst 0, 1) := by decide +kernel
theorem dX4_cellsThatAre_1 : decode cX4_cellsThatAre 1 = .ok (.lstore_n 2, 1) := by decide +kernel
theorem dX4_cellsThatAre_2 : decode cX4_cellsThatAre 2 = .ok (.iconst 0, 1) := by decide +kernel
theorem dX4_cellsThatAre_3 : decode cX4_cellsThatAre 3 = .ok (.istore 4, 2) := by decide +kernel
theorem dX4_cellsThatAre_5 : decode cX4_cellsThatAre 5 = .ok (.iload 4, 2) := by decide +kernel
theorem dX4_cellsThatAre_7 : decode cX4_cellsThatAre 7 = .ok (.bipush 40, 2) := by decide +kernel
theorem dX4_cellsThatAre_9 : decode cX4_cellsThatAre 9 = .ok (.if_icmp .ge 26, 3) := by decide +kernel
theorem dX4_cellsThatAre_12 : decode cX4_cellsThatAre 12 = .ok (.aload_n 0, 1) := by decide +kernel
theorem dX4_cellsThatAre_13 : decode cX4_cellsThatAre 13 = .ok (.iload 4, 2) := by decide +kernel
theorem dX4_cellsThatAre_15 : decode cX4_cellsThatAre 15 = .ok (.iload_n 1, 1) := by decide +kernel
theorem dX4_cellsThatAre_16 : decode cX4_cellsThatAre 16 = .ok (.invokevirtual 143, 3) := by decide +kernel
theorem dX4_cellsThatAre_19 : decode cX4_cellsThatAre 19 = .ok (.ifCond .eq 10, 3) := by decide +kernel
theorem dX4_cellsThatAre_22 : decode cX4_cellsThatAre 22 = .ok (.lload_n 2, 1) := by decide +kernel
theorem dX4_cellsThatAre_23 : decode cX4_cellsThatAre 23 = .ok (.lconst 1, 1) := by decide +kernel
theorem dX4_cellsThatAre_24 : decode cX4_cellsThatAre 24 = .ok (.iload 4, 2) := by decide +kernel
theorem dX4_cellsThatAre_26 : decode cX4_cellsThatAre 26 = .ok (.lshl, 1) := by decide +kernel
theorem dX4_cellsThatAre_27 : decode cX4_cellsThatAre 27 = .ok (.lor, 1) := by decide +kernel
theorem dX4_cellsThatAre_28 : decode cX4_cellsThatAre 28 = .ok (.lstore_n 2, 1) := by decide +kernel
theorem dX4_cellsThatAre_29 : decode cX4_cellsThatAre 29 = .ok (.iinc 4 1, 3) := by decide +kernel
theorem dX4_cellsThatAre_32 : decode cX4_cellsThatAre 32 = .ok (.goto (-27), 3) := by decide +kernel
theorem dX4_cellsThatAre_35 : decode cX4_cellsThatAre 35 = .ok (.lload_n 2, 1) := by decide +kernel
theorem dX4_cellsThatAre_36 : decode cX4_cellsThatAre 36 = .ok (.lreturn, 1) := by decide +kernel
theorem dX4_isPlace_0 : decode cX4_isPlace 0 = .ok (.aload_n 0, 1) := by decide +kernel
theorem dX4_isPlace_1 : decode cX4_isPlace 1 = .ok (.iload_n 1, 1) := by decide +kernel
theorem dX4_isPlace_2 : decode cX4_isPlace 2 = .ok (.invokevirtual 80, 3) := by decide +kernel
theorem dX4_isPlace_5 : decode cX4_isPlace 5 = .ok (.istore_n 3, 1) := by decide +kernel
theorem dX4_isPlace_6 : decode cX4_isPlace 6 = .ok (.iload_n 2, 1) := by decide +kernel
theorem dX4_isPlace_7 : decode cX4_isPlace 7 = .ok (.tableswitch 92 0 4 #[33, 39, 45, 60, 70], 33) := by decide +kernel
theorem dX4_isPlace_40 : decode cX4_isPlace 40 = .ok (.aload_n 0, 1) := by decide +kernel
theorem dX4_isPlace_41 : decode cX4_isPlace 41 = .ok (.iload_n 1, 1) := by decide +kernel
theorem dX4_isPlace_42 : decode cX4_isPlace 42 = .ok (.invokevirtual 146, 3) := by decide +kernel
theorem dX4_isPlace_45 : decode cX4_isPlace 45 = .ok (.ireturn, 1) := by decide +kernel
theorem dX4_isPlace_46 : decode cX4_isPlace 46 = .ok (.aload_n 0, 1) := by decide +kernel
theorem dX4_isPlace_47 : decode cX4_isPlace 47 = .ok (.iload_n 1, 1) := by decide +kernel
theorem dX4_isPlace_48 : decode cX4_isPlace 48 = .ok (.invokevirtual 150, 3) := by decide +kernel
theorem dX4_isPlace_51 : decode cX4_isPlace 51 = .ok (.ireturn, 1) := by decide +kernel
theorem dX4_isPlace_52 : decode cX4_isPlace 52 = .ok (.aload_n 0, 1) := by decide +kernel
theorem dX4_isPlace_53 : decode cX4_isPlace 53 = .ok (.getfield 23, 3) := by decide +kernel
theorem dX4_isPlace_56 : decode cX4_isPlace 56 = .ok (.iload_n 1, 1) := by decide +kernel
theorem dX4_isPlace_57 : decode cX4_isPlace 57 = .ok (.iaload, 1) := by decide +kernel
theorem dX4_isPlace_58 : decode cX4_isPlace 58 = .ok (.ifCond .eq 7, 3) := by decide +kernel
theorem dX4_isPlace_61 : decode cX4_isPlace 61 = .ok (.iconst 1, 1) := by decide +kernel
theorem dX4_isPlace_62 : decode cX4_isPlace 62 = .ok (.goto 4, 3) := by decide +kernel
theorem dX4_isPlace_65 : decode cX4_isPlace 65 = .ok (.iconst 0, 1) := by decide +kernel
theorem dX4_isPlace_66 : decode cX4_isPlace 66 = .ok (.ireturn, 1) := by decide +kernel
theorem dX4_isPlace_67 : decode cX4_isPlace 67 = .ok (.iload_n 3, 1) := by decide +kernel
theorem dX4_isPlace_68 : decode cX4_isPlace 68 = .ok (.ifCond .lt 7, 3) := by decide +kernel
theorem dX4_isPlace_71 : decode cX4_isPlace 71 = .ok (.iconst 1, 1) := by decide +kernel
theorem dX4_isPlace_72 : decode cX4_isPlace 72 = .ok (.goto 4, 3) := by decide +kernel
theorem dX4_isPlace_75 : decode cX4_isPlace 75 = .ok (.iconst 0, 1) := by decide +kernel
theorem dX4_isPlace_76 : decode cX4_isPlace 76 = .ok (.ireturn, 1) := by decide +kernel
theorem dX4_isPlace_77 : decode cX4_isPlace 77 = .ok (.iload_n 3, 1) := by decide +kernel
theorem dX4_isPlace_78 : decode cX4_isPlace 78 = .ok (.ifCond .lt 19, 3) := by decide +kernel
theorem dX4_isPlace_81 : decode cX4_isPlace 81 = .ok (.aload_n 0, 1) := by decide +kernel
theorem dX4_isPlace_82 : decode cX4_isPlace 82 = .ok (.getfield 31, 3) := by decide +kernel
theorem dX4_isPlace_85 : decode cX4_isPlace 85 = .ok (.iload_n 3, 1) := by decide +kernel
theorem dX4_isPlace_86 : decode cX4_isPlace 86 = .ok (.aaload, 1) := by decide +kernel
theorem dX4_isPlace_87 : decode cX4_isPlace 87 = .ok (.getfield 102, 3) := by decide +kernel
theorem dX4_isPlace_90 : decode cX4_isPlace 90 = .ok (.ifCond .ne 7, 3) := by decide +kernel
theorem dX4_isPlace_93 : decode cX4_isPlace 93 = .ok (.iconst 1, 1) := by decide +kernel
theorem dX4_isPlace_94 : decode cX4_isPlace 94 = .ok (.goto 4, 3) := by decide +kernel
theorem dX4_isPlace_97 : decode cX4_isPlace 97 = .ok (.iconst 0, 1) := by decide +kernel
theorem dX4_isPlace_98 : decode cX4_isPlace 98 = .ok (.ireturn, 1) := by decide +kernel
theorem dX4_isPlace_99 : decode cX4_isPlace 99 = .ok (.iconst 0, 1) := by decide +kernel
theorem dX4_isPlace_100 : decode cX4_isPlace 100 = .ok (.ireturn, 1) := by decide +kernel
theorem dX4_sumOfLevels_0 : decode cX4_sumOfLevels 0 = .ok (.iconst 0, 1) := by decide +kernel
theorem dX4_sumOfLevels_1 : decode cX4_sumOfLevels 1 = .ok (.istore_n 1, 1) := by decide +kernel
theorem dX4_sumOfLevels_2 : decode cX4_sumOfLevels 2 = .ok (.iconst 0, 1) := by decide +kernel
theorem dX4_sumOfLevels_3 : decode cX4_sumOfLevels 3 = .ok (.istore_n 2, 1) := by decide +kernel
theorem dX4_sumOfLevels_4 : decode cX4_sumOfLevels 4 = .ok (.iload_n 2, 1) := by decide +kernel
theorem dX4_sumOfLevels_5 : decode cX4_sumOfLevels 5 = .ok (.bipush 40, 2) := by decide +kernel
theorem dX4_sumOfLevels_7 : decode cX4_sumOfLevels 7 = .ok (.if_icmp .ge 18, 3) := by decide +kernel
theorem dX4_sumOfLevels_10 : decode cX4_sumOfLevels 10 = .ok (.iload_n 1, 1) := by decide +kernel
theorem dX4_sumOfLevels_11 : decode cX4_sumOfLevels 11 = .ok (.aload_n 0, 1) := by decide +kernel
theorem dX4_sumOfLevels_12 : decode cX4_sumOfLevels 12 = .ok (.getfield 23, 3) := by decide +kernel
theorem dX4_sumOfLevels_15 : decode cX4_sumOfLevels 15 = .ok (.iload_n 2, 1) := by decide +kernel
theorem dX4_sumOfLevels_16 : decode cX4_sumOfLevels 16 = .ok (.iaload, 1) := by decide +kernel
theorem dX4_sumOfLevels_17 : decode cX4_sumOfLevels 17 = .ok (.iadd, 1) := by decide +kernel
theorem dX4_sumOfLevels_18 : decode cX4_sumOfLevels 18 = .ok (.istore_n 1, 1) := by decide +kernel
theorem dX4_sumOfLevels_19 : decode cX4_sumOfLevels 19 = .ok (.iinc 2 1, 3) := by decide +kernel
theorem dX4_sumOfLevels_22 : decode cX4_sumOfLevels 22 = .ok (.goto (-18), 3) := by decide +kernel
theorem dX4_sumOfLevels_25 : decode cX4_sumOfLevels 25 = .ok (.iload_n 1, 1) := by decide +kernel
theorem dX4_sumOfLevels_26 : decode cX4_sumOfLevels 26 = .ok (.ireturn, 1) := by decide +kernel
theorem dX4_motion_0 : decode cX4_motion 0 = .ok (.iconst 0, 1) := by decide +kernel
theorem dX4_motion_1 : decode cX4_motion 1 = .ok (.istore_n 1, 1) := by decide +kernel
theorem dX4_motion_2 : decode cX4_motion 2 = .ok (.iconst 0, 1) := by decide +kernel
theorem dX4_motion_3 : decode cX4_motion 3 = .ok (.istore_n 2, 1) := by decide +kernel
theorem dX4_motion_4 : decode cX4_motion 4 = .ok (.iload_n 2, 1) := by decide +kernel
theorem dX4_motion_5 : decode cX4_motion 5 = .ok (.bipush 40, 2) := by decide +kernel
theorem dX4_motion_7 : decode cX4_motion 7 = .ok (.if_icmp .ge 31, 3) := by decide +kernel
theorem dX4_motion_10 : decode cX4_motion 10 = .ok (.iload_n 1, 1) := by decide +kernel
theorem dX4_motion_11 : decode cX4_motion 11 = .ok (.aload_n 0, 1) := by decide +kernel
theorem dX4_motion_12 : decode cX4_motion 12 = .ok (.getfield 23, 3) := by decide +kernel
theorem dX4_motion_15 : decode cX4_motion 15 = .ok (.iload_n 2, 1) := by decide +kernel
theorem dX4_motion_16 : decode cX4_motion 16 = .ok (.iaload, 1) := by decide +kernel
theorem dX4_motion_17 : decode cX4_motion 17 = .ok (.invokestatic 132, 3) := by decide +kernel
theorem dX4_motion_20 : decode cX4_motion 20 = .ok (.aload_n 0, 1) := by decide +kernel
theorem dX4_motion_21 : decode cX4_motion 21 = .ok (.getfield 26, 3) := by decide +kernel
theorem dX4_motion_24 : decode cX4_motion 24 = .ok (.iload_n 2, 1) := by decide +kernel
theorem dX4_motion_25 : decode cX4_motion 25 = .ok (.iaload, 1) := by decide +kernel
theorem dX4_motion_26 : decode cX4_motion 26 = .ok (.invokestatic 132, 3) := by decide +kernel
theorem dX4_motion_29 : decode cX4_motion 29 = .ok (.iadd, 1) := by decide +kernel
theorem dX4_motion_30 : decode cX4_motion 30 = .ok (.iadd, 1) := by decide +kernel
theorem dX4_motion_31 : decode cX4_motion 31 = .ok (.istore_n 1, 1) := by decide +kernel
theorem dX4_motion_32 : decode cX4_motion 32 = .ok (.iinc 2 1, 3) := by decide +kernel
theorem dX4_motion_35 : decode cX4_motion 35 = .ok (.goto (-31), 3) := by decide +kernel
theorem dX4_motion_38 : decode cX4_motion 38 = .ok (.iload_n 1, 1) := by decide +kernel
theorem dX4_motion_39 : decode cX4_motion 39 = .ok (.ireturn, 1) := by decide +kernel
theorem dX4_farthestLevel_0 : decode cX4_farthestLevel 0 = .ok (.iconst 0, 1) := by decide +kernel
theorem dX4_farthestLevel_1 : decode cX4_farthestLevel 1 = .ok (.istore_n 1, 1) := by decide +kernel
theorem dX4_farthestLevel_2 : decode cX4_farthestLevel 2 = .ok (.iconst 0, 1) := by decide +kernel
theorem dX4_farthestLevel_3 : decode cX4_farthestLevel 3 = .ok (.istore_n 2, 1) := by decide +kernel
theorem dX4_farthestLevel_4 : decode cX4_farthestLevel 4 = .ok (.iload_n 2, 1) := by decide +kernel
theorem dX4_farthestLevel_5 : decode cX4_farthestLevel 5 = .ok (.bipush 40, 2) := by decide +kernel
theorem dX4_farthestLevel_7 : decode cX4_farthestLevel 7 = .ok (.if_icmp .ge 23, 3) := by decide +kernel
theorem dX4_farthestLevel_10 : decode cX4_farthestLevel 10 = .ok (.iload_n 1, 1) := by decide +kernel
theorem dX4_farthestLevel_11 : decode cX4_farthestLevel 11 = .ok (.aload_n 0, 1) := by decide +kernel
theorem dX4_farthestLevel_12 : decode cX4_farthestLevel 12 = .ok (.getfield 23, 3) := by decide +kernel
theorem dX4_farthestLevel_15 : decode cX4_farthestLevel 15 = .ok (.iload_n 2, 1) := by decide +kernel
theorem dX4_farthestLevel_16 : decode cX4_farthestLevel 16 = .ok (.iaload, 1) := by decide +kernel
theorem dX4_farthestLevel_17 : decode cX4_farthestLevel 17 = .ok (.invokestatic 132, 3) := by decide +kernel
theorem dX4_farthestLevel_20 : decode cX4_farthestLevel 20 = .ok (.invokestatic 153, 3) := by decide +kernel
theorem dX4_farthestLevel_23 : decode cX4_farthestLevel 23 = .ok (.istore_n 1, 1) := by decide +kernel
theorem dX4_farthestLevel_24 : decode cX4_farthestLevel 24 = .ok (.iinc 2 1, 3) := by decide +kernel
theorem dX4_farthestLevel_27 : decode cX4_farthestLevel 27 = .ok (.goto (-23), 3) := by decide +kernel
theorem dX4_farthestLevel_30 : decode cX4_farthestLevel 30 = .ok (.iload_n 1, 1) := by decide +kernel
theorem dX4_farthestLevel_31 : decode cX4_farthestLevel 31 = .ok (.ireturn, 1) := by decide +kernel
theorem dX4_lastUnevenCell_0 : decode cX4_lastUnevenCell 0 = .ok (.bipush 39, 2) := by decide +kernel
theorem dX4_lastUnevenCell_2 : decode cX4_lastUnevenCell 2 = .ok (.istore_n 1, 1) := by decide +kernel
theorem dX4_lastUnevenCell_3 : decode cX4_lastUnevenCell 3 = .ok (.iload_n 1, 1) := by decide +kernel
theorem dX4_lastUnevenCell_4 : decode cX4_lastUnevenCell 4 = .ok (.ifCond .lt 20, 3) := by decide +kernel
theorem dX4_lastUnevenCell_7 : decode cX4_lastUnevenCell 7 = .ok (.aload_n 0, 1) := by decide +kernel
theorem dX4_lastUnevenCell_8 : decode cX4_lastUnevenCell 8 = .ok (.getfield 23, 3) := by decide +kernel
theorem dX4_lastUnevenCell_11 : decode cX4_lastUnevenCell 11 = .ok (.iload_n 1, 1) := by decide +kernel
theorem dX4_lastUnevenCell_12 : decode cX4_lastUnevenCell 12 = .ok (.iaload, 1) := by decide +kernel
theorem dX4_lastUnevenCell_13 : decode cX4_lastUnevenCell 13 = .ok (.ifCond .eq 5, 3) := by decide +kernel
theorem dX4_lastUnevenCell_16 : decode cX4_lastUnevenCell 16 = .ok (.iload_n 1, 1) := by decide +kernel
theorem dX4_lastUnevenCell_17 : decode cX4_lastUnevenCell 17 = .ok (.ireturn, 1) := by decide +kernel
theorem dX4_lastUnevenCell_18 : decode cX4_lastUnevenCell 18 = .ok (.iinc 1 (-1), 3) := by decide +kernel
theorem dX4_lastUnevenCell_21 : decode cX4_lastUnevenCell 21 = .ok (.goto (-18), 3) := by decide +kernel
theorem dX4_lastUnevenCell_24 : decode cX4_lastUnevenCell 24 = .ok (.bipush (-6), 2) := by decide +kernel
theorem dX4_lastUnevenCell_26 : decode cX4_lastUnevenCell 26 = .ok (.ireturn, 1) := by decide +kernel
theorem dX5_init_0 : decode cX5_init 0 = .ok (.aload_n 0, 1) := by decide +kernel
theorem dX5_init_1 : decode cX5_init 1 = .ok (.invokespecial 1, 3) := by decide +kernel
theorem dX5_init_4 : decode cX5_init 4 = .ok (.aload_n 0, 1) := by decide +kernel
theorem dX5_init_5 : decode cX5_init 5 = .ok (.new 7, 3) := by decide +kernel
theorem dX5_init_8 : decode cX5_init 8 = .ok (.dup, 1) := by decide +kernel
theorem dX5_init_9 : decode cX5_init 9 = .ok (.invokespecial 9, 3) := by decide +kernel
theorem dX5_init_12 : decode cX5_init 12 = .ok (.putfield 10, 3) := by decide +kernel
theorem dX5_init_15 : decode cX5_init 15 = .ok (.aload_n 0, 1) := by decide +kernel
theorem dX5_init_16 : decode cX5_init 16 = .ok (.new 16, 3) := by decide +kernel
theorem dX5_init_19 : decode cX5_init 19 = .ok (.dup, 1) := by decide +kernel
theorem dX5_init_20 : decode cX5_init 20 = .ok (.invokespecial 18, 3) := by decide +kernel
theorem dX5_init_23 : decode cX5_init 23 = .ok (.putfield 19, 3) := by decide +kernel
theorem dX5_init_26 : decode cX5_init 26 = .ok (.aload_n 0, 1) := by decide +kernel
theorem dX5_init_27 : decode cX5_init 27 = .ok (.new 23, 3) := by decide +kernel
theorem dX5_init_30 : decode cX5_init 30 = .ok (.dup, 1) := by decide +kernel
theorem dX5_init_31 : decode cX5_init 31 = .ok (.invokespecial 25, 3) := by decide +kernel
theorem dX5_init_34 : decode cX5_init 34 = .ok (.putfield 26, 3) := by decide +kernel
theorem dX5_init_37 : decode cX5_init 37 = .ok (.aload_n 0, 1) := by decide +kernel
theorem dX5_init_38 : decode cX5_init 38 = .ok (.iconst 2, 1) := by decide +kernel
theorem dX5_init_39 : decode cX5_init 39 = .ok (.anewarray 7, 3) := by decide +kernel
theorem dX5_init_42 : decode cX5_init 42 = .ok (.putfield 30, 3) := by decide +kernel
theorem dX5_init_45 : decode cX5_init 45 = .ok (.aload_n 0, 1) := by decide +kernel
theorem dX5_init_46 : decode cX5_init 46 = .ok (.iconst 2, 1) := by decide +kernel
theorem dX5_init_47 : decode cX5_init 47 = .ok (.newarray .boolean, 2) := by decide +kernel
theorem dX5_init_49 : decode cX5_init 49 = .ok (.putfield 34, 3) := by decide +kernel
theorem dX5_init_52 : decode cX5_init 52 = .ok (.aload_n 0, 1) := by decide +kernel
theorem dX5_init_53 : decode cX5_init 53 = .ok (.new 7, 3) := by decide +kernel
theorem dX5_init_56 : decode cX5_init 56 = .ok (.dup, 1) := by decide +kernel
theorem dX5_init_57 : decode cX5_init 57 = .ok (.invokespecial 9, 3) := by decide +kernel
theorem dX5_init_60 : decode cX5_init 60 = .ok (.putfield 38, 3) := by decide +kernel
theorem dX5_init_63 : decode cX5_init 63 = .ok (.aload_n 0, 1) := by decide +kernel
theorem dX5_init_64 : decode cX5_init 64 = .ok (.new 7, 3) := by decide +kernel
theorem dX5_init_67 : decode cX5_init 67 = .ok (.dup, 1) := by decide +kernel
theorem dX5_init_68 : decode cX5_init 68 = .ok (.invokespecial 9, 3) := by decide +kernel
theorem dX5_init_71 : decode cX5_init 71 = .ok (.putfield 41, 3) := by decide +kernel
theorem dX5_init_74 : decode cX5_init 74 = .ok (.iconst 0, 1) := by decide +kernel
theorem dX5_init_75 : decode cX5_init 75 = .ok (.istore_n 1, 1) := by decide +kernel
theorem dX5_init_76 : decode cX5_init 76 = .ok (.iload_n 1, 1) := by decide +kernel
theorem dX5_init_77 : decode cX5_init 77 = .ok (.iconst 2, 1) := by decide +kernel
theorem dX5_init_78 : decode cX5_init 78 = .ok (.if_icmp .ge 22, 3) := by decide +kernel
theorem dX5_init_81 : decode cX5_init 81 = .ok (.aload_n 0, 1) := by decide +kernel
theorem dX5_init_82 : decode cX5_init 82 = .ok (.getfield 30, 3) := by decide +kernel
theorem dX5_init_85 : decode cX5_init 85 = .ok (.iload_n 1, 1) := by decide +kernel
theorem dX5_init_86 : decode cX5_init 86 = .ok (.new 7, 3) := by decide +kernel
theorem dX5_init_89 : decode cX5_init 89 = .ok (.dup, 1) := by decide +kernel
theorem dX5_init_90 : decode cX5_init 90 = .ok (.invokespecial 9, 3) := by decide +kernel
theorem dX5_init_93 : decode cX5_init 93 = .ok (.aastore, 1) := by decide +kernel
theorem dX5_init_94 : decode cX5_init 94 = .ok (.iinc 1 1, 3) := by decide +kernel
theorem dX5_init_97 : decode cX5_init 97 = .ok (.goto (-21), 3) := by decide +kernel
theorem dX5_init_100 : decode cX5_init 100 = .ok (.return_, 1) := by decide +kernel
theorem dX5_set_0 : decode cX5_set 0 = .ok (.aload_n 0, 1) := by decide +kernel
theorem dX5_set_1 : decode cX5_set 1 = .ok (.getfield 38, 3) := by decide +kernel
theorem dX5_set_4 : decode cX5_set 4 = .ok (.aload_n 0, 1) := by decide +kernel
theorem dX5_set_5 : decode cX5_set 5 = .ok (.getfield 10, 3) := by decide +kernel
theorem dX5_set_8 : decode cX5_set 8 = .ok (.invokevirtual 44, 3) := by decide +kernel
theorem dX5_set_11 : decode cX5_set 11 = .ok (.aload_n 0, 1) := by decide +kernel
theorem dX5_set_12 : decode cX5_set 12 = .ok (.aload_n 0, 1) := by decide +kernel
theorem dX5_set_13 : decode cX5_set 13 = .ok (.getfield 10, 3) := by decide +kernel
theorem dX5_set_16 : decode cX5_set 16 = .ok (.iload_n 1, 1) := by decide +kernel
theorem dX5_set_17 : decode cX5_set 17 = .ok (.iload_n 2, 1) := by decide +kernel
theorem dX5_set_18 : decode cX5_set 18 = .ok (.invokevirtual 48, 3) := by decide +kernel
theorem dX5_set_21 : decode cX5_set 21 = .ok (.invokevirtual 52, 3) := by decide +kernel
theorem dX5_set_24 : decode cX5_set 24 = .ok (.ireturn, 1) := by decide +kernel
theorem dX5_paddle_0 : decode cX5_paddle 0 = .ok (.aload_n 0, 1) := by decide +kernel
theorem dX5_paddle_1 : decode cX5_paddle 1 = .ok (.getfield 38, 3) := by decide +kernel
theorem dX5_paddle_4 : decode cX5_paddle 4 = .ok (.aload_n 0, 1) := by decide +kernel
theorem dX5_paddle_5 : decode cX5_paddle 5 = .ok (.getfield 10, 3) := by decide +kernel
theorem dX5_paddle_8 : decode cX5_paddle 8 = .ok (.invokevirtual 44, 3) := by decide +kernel
theorem dX5_paddle_11 : decode cX5_paddle 11 = .ok (.aload_n 0, 1) := by decide +kernel
theorem dX5_paddle_12 : decode cX5_paddle 12 = .ok (.aload_n 0, 1) := by decide +kernel
theorem dX5_paddle_13 : decode cX5_paddle 13 = .ok (.getfield 10, 3) := by decide +kernel
theorem dX5_paddle_16 : decode cX5_paddle 16 = .ok (.iload_n 1, 1) := by decide +kernel
theorem dX5_paddle_17 : decode cX5_paddle 17 = .ok (.iload_n 2, 1) := by decide +kernel
theorem dX5_paddle_18 : decode cX5_paddle 18 = .ok (.iload_n 3, 1) := by decide +kernel
theorem dX5_paddle_19 : decode cX5_paddle 19 = .ok (.iload 4, 2) := by decide +kernel
theorem dX5_paddle_21 : decode cX5_paddle 21 = .ok (.iload 5, 2) := by decide +kernel
theorem dX5_paddle_23 : decode cX5_paddle 23 = .ok (.invokevirtual 56, 3) := by decide +kernel
theorem dX5_paddle_26 : decode cX5_paddle 26 = .ok (.invokevirtual 52, 3) := by decide +kernel
theorem dX5_paddle_29 : decode cX5_paddle 29 = .ok (.ireturn, 1) := by decide +kernel
theorem dX5_lift_0 : decode cX5_lift 0 = .ok (.aload_n 0, 1) := by decide +kernel
theorem dX5_lift_1 : decode cX5_lift 1 = .ok (.getfield 38, 3) := by decide +kernel
theorem dX5_lift_4 : decode cX5_lift 4 = .ok (.aload_n 0, 1) := by decide +kernel
theorem dX5_lift_5 : decode cX5_lift 5 = .ok (.getfield 10, 3) := by decide +kernel
theorem dX5_lift_8 : decode cX5_lift 8 = .ok (.invokevirtual 44, 3) := by decide +kernel
theorem dX5_lift_11 : decode cX5_lift 11 = .ok (.aload_n 0, 1) := by decide +kernel
theorem dX5_lift_12 : decode cX5_lift 12 = .ok (.aload_n 0, 1) := by decide +kernel
theorem dX5_lift_13 : decode cX5_lift 13 = .ok (.getfield 10, 3) := by decide +kernel
theorem dX5_lift_16 : decode cX5_lift 16 = .ok (.iload_n 1, 1) := by decide +kernel
theorem dX5_lift_17 : decode cX5_lift 17 = .ok (.invokevirtual 60, 3) := by decide +kernel
theorem dX5_lift_20 : decode cX5_lift 20 = .ok (.invokevirtual 52, 3) := by decide +kernel
theorem dX5_lift_23 : decode cX5_lift 23 = .ok (.ireturn, 1) := by decide +kernel
theorem dX5_again_0 : decode cX5_again 0 = .ok (.aload_n 0, 1) := by decide +kernel
theorem dX5_again_1 : decode cX5_again 1 = .ok (.getfield 38, 3) := by decide +kernel
theorem dX5_again_4 : decode cX5_again 4 = .ok (.aload_n 0, 1) := by decide +kernel
theorem dX5_again_5 : decode cX5_again 5 = .ok (.getfield 10, 3) := by decide +kernel
theorem dX5_again_8 : decode cX5_again 8 = .ok (.invokevirtual 44, 3) := by decide +kernel
theorem dX5_again_11 : decode cX5_again 11 = .ok (.aload_n 0, 1) := by decide +kernel
theorem dX5_again_12 : decode cX5_again 12 = .ok (.aload_n 0, 1) := by decide +kernel
theorem dX5_again_13 : decode cX5_again 13 = .ok (.getfield 10, 3) := by decide +kernel
theorem dX5_again_16 : decode cX5_again 16 = .ok (.iload_n 1, 1) := by decide +kernel
theorem dX5_again_17 : decode cX5_again 17 = .ok (.invokevirtual 63, 3) := by decide +kernel
theorem dX5_again_20 : decode cX5_again 20 = .ok (.invokevirtual 52, 3) := by decide +kernel
theorem dX5_again_23 : decode cX5_again 23 = .ok (.ireturn, 1) := by decide +kernel
theorem dX5_gauge_0 : decode cX5_gauge 0 = .ok (.aload_n 0, 1) := by decide +kernel
theorem dX5_gauge_1 : decode cX5_gauge 1 = .ok (.getfield 38, 3) := by decide +kernel
theorem dX5_gauge_4 : decode cX5_gauge 4 = .ok (.aload_n 0, 1) := by decide +kernel
theorem dX5_gauge_5 : decode cX5_gauge 5 = .ok (.getfield 10, 3) := by decide +kernel
theorem dX5_gauge_8 : decode cX5_gauge 8 = .ok (.invokevirtual 44, 3) := by decide +kernel
theorem dX5_gauge_11 : decode cX5_gauge 11 = .ok (.aload_n 0, 1) := by decide +kernel
theorem dX5_gauge_12 : decode cX5_gauge 12 = .ok (.aload_n 0, 1) := by decide +kernel
theorem dX5_gauge_13 : decode cX5_gauge 13 = .ok (.getfield 10, 3) := by decide +kernel
theorem dX5_gauge_16 : decode cX5_gauge 16 = .ok (.iload_n 1, 1) := by decide +kernel
theorem dX5_gauge_17 : decode cX5_gauge 17 = .ok (.invokevirtual 66, 3) := by decide +kernel
theorem dX5_gauge_20 : decode cX5_gauge 20 = .ok (.invokevirtual 52, 3) := by decide +kernel
theorem dX5_gauge_23 : decode cX5_gauge 23 = .ok (.ireturn, 1) := by decide +kernel
theorem dX5_level_0 : decode cX5_level 0 = .ok (.aload_n 0, 1) := by decide +kernel
theorem dX5_level_1 : decode cX5_level 1 = .ok (.getfield 38, 3) := by decide +kernel
theorem dX5_level_4 : decode cX5_level 4 = .ok (.aload_n 0, 1) := by decide +kernel
theorem dX5_level_5 : decode cX5_level 5 = .ok (.getfield 10, 3) := by decide +kernel
theorem dX5_level_8 : decode cX5_level 8 = .ok (.invokevirtual 44, 3) := by decide +kernel
theorem dX5_level_11 : decode cX5_level 11 = .ok (.aload_n 0, 1) := by decide +kernel
theorem dX5_level_12 : decode cX5_level 12 = .ok (.aload_n 0, 1) := by decide +kernel
theorem dX5_level_13 : decode cX5_level 13 = .ok (.getfield 10, 3) := by decide +kernel
theorem dX5_level_16 : decode cX5_level 16 = .ok (.iload_n 1, 1) := by decide +kernel
theorem dX5_level_17 : decode cX5_level 17 = .ok (.iload_n 2, 1) := by decide +kernel
theorem dX5_level_18 : decode cX5_level 18 = .ok (.invokevirtual 69, 3) := by decide +kernel
theorem dX5_level_21 : decode cX5_level 21 = .ok (.invokevirtual 52, 3) := by decide +kernel
theorem dX5_level_24 : decode cX5_level 24 = .ok (.ireturn, 1) := by decide +kernel
theorem dX5_pass_0 : decode cX5_pass 0 = .ok (.aload_n 0, 1) := by decide +kernel
theorem dX5_pass_1 : decode cX5_pass 1 = .ok (.getfield 38, 3) := by decide +kernel
theorem dX5_pass_4 : decode cX5_pass 4 = .ok (.aload_n 0, 1) := by decide +kernel
theorem dX5_pass_5 : decode cX5_pass 5 = .ok (.getfield 10, 3) := by decide +kernel
theorem dX5_pass_8 : decode cX5_pass 8 = .ok (.invokevirtual 44, 3) := by decide +kernel
theorem dX5_pass_11 : decode cX5_pass 11 = .ok (.aload_n 0, 1) := by decide +kernel
theorem dX5_pass_12 : decode cX5_pass 12 = .ok (.aload_n 0, 1) := by decide +kernel
theorem dX5_pass_13 : decode cX5_pass 13 = .ok (.getfield 10, 3) := by decide +kernel
theorem dX5_pass_16 : decode cX5_pass 16 = .ok (.iload_n 1, 1) := by decide +kernel
theorem dX5_pass_17 : decode cX5_pass 17 = .ok (.invokevirtual 72, 3) := by decide +kernel
theorem dX5_pass_20 : decode cX5_pass 20 = .ok (.invokevirtual 52, 3) := by decide +kernel
theorem dX5_pass_23 : decode cX5_pass 23 = .ok (.ireturn, 1) := by decide +kernel
theorem dX5_recorded_0 : decode cX5_recorded 0 = .ok (.iload_n 1, 1) := by decide +kernel
theorem dX5_recorded_1 : decode cX5_recorded 1 = .ok (.ifCond .lt 14, 3) := by decide +kernel
theorem dX5_recorded_4 : decode cX5_recorded 4 = .ok (.aload_n 0, 1) := by decide +kernel
theorem dX5_recorded_5 : decode cX5_recorded 5 = .ok (.getfield 26, 3) := by decide +kernel
theorem dX5_recorded_8 : decode cX5_recorded 8 = .ok (.aload_n 0, 1) := by decide +kernel
theorem dX5_recorded_9 : decode cX5_recorded 9 = .ok (.getfield 38, 3) := by decide +kernel
theorem dX5_recorded_12 : decode cX5_recorded 12 = .ok (.invokevirtual 75, 3) := by decide +kernel
theorem dX5_recorded_15 : decode cX5_recorded 15 = .ok (.iload_n 1, 1) := by decide +kernel
theorem dX5_recorded_16 : decode cX5_recorded 16 = .ok (.ireturn, 1) := by decide +kernel
theorem dX5_cell_0 : decode cX5_cell 0 = .ok (.iload_n 1, 1) := by decide +kernel
theorem dX5_cell_1 : decode cX5_cell 1 = .ok (.bipush 40, 2) := by decide +kernel
theorem dX5_cell_3 : decode cX5_cell 3 = .ok (.invokestatic 78, 3) := by decide +kernel
theorem dX5_cell_6 : decode cX5_cell 6 = .ok (.ifCond .eq 5, 3) := by decide +kernel
theorem dX5_cell_9 : decode cX5_cell 9 = .ok (.iconst (-1), 1) := by decide +kernel
theorem dX5_cell_10 : decode cX5_cell 10 = .ok (.ireturn, 1) := by decide +kernel
theorem dX5_cell_11 : decode cX5_cell 11 = .ok (.iload_n 2, 1) := by decide +kernel
theorem dX5_cell_12 : decode cX5_cell 12 = .ok (.tableswitch 84 0 3 #[32, 46, 60, 72], 32) := by decide +kernel
theorem dX5_cell_44 : decode cX5_cell 44 = .ok (.aload_n 0, 1) := by decide +kernel
theorem dX5_cell_45 : decode cX5_cell 45 = .ok (.getfield 10, 3) := by decide +kernel
theorem dX5_cell_48 : decode cX5_cell 48 = .ok (.getfield 82, 3) := by decide +kernel
theorem dX5_cell_51 : decode cX5_cell 51 = .ok (.iload_n 1, 1) := by decide +kernel
theorem dX5_cell_52 : decode cX5_cell 52 = .ok (.iaload, 1) := by decide +kernel
theorem dX5_cell_53 : decode cX5_cell 53 = .ok (.sipush 10000, 3) := by decide +kernel
theorem dX5_cell_56 : decode cX5_cell 56 = .ok (.iadd, 1) := by decide +kernel
theorem dX5_cell_57 : decode cX5_cell 57 = .ok (.ireturn, 1) := by decide +kernel
theorem dX5_cell_58 : decode cX5_cell 58 = .ok (.aload_n 0, 1) := by decide +kernel
theorem dX5_cell_59 : decode cX5_cell 59 = .ok (.getfield 10, 3) := by decide +kernel
theorem dX5_cell_62 : decode cX5_cell 62 = .ok (.getfield 86, 3) := by decide +kernel
theorem dX5_cell_65 : decode cX5_cell 65 = .ok (.iload_n 1, 1) := by decide +kernel
theorem dX5_cell_66 : decode cX5_cell 66 = .ok (.iaload, 1) := by decide +kernel
theorem dX5_cell_67 : decode cX5_cell 67 = .ok (.sipush 10000, 3) := by decide +kernel
theorem dX5_cell_70 : decode cX5_cell 70 = .ok (.iadd, 1) := by decide +kernel
theorem dX5_cell_71 : decode cX5_cell 71 = .ok (.ireturn, 1) := by decide +kernel
theorem dX5_cell_72 : decode cX5_cell 72 = .ok (.aload_n 0, 1) := by decide +kernel
theorem dX5_cell_73 : decode cX5_cell 73 = .ok (.getfield 10, 3) := by decide +kernel
theorem dX5_cell_76 : decode cX5_cell 76 = .ok (.iload_n 1, 1) := by decide +kernel
theorem dX5_cell_77 : decode cX5_cell 77 = .ok (.invokevirtual 89, 3) := by decide +kernel
theorem dX5_cell_80 : decode cX5_cell 80 = .ok (.invokestatic 93, 3) := by decide +kernel
theorem dX5_cell_83 : decode cX5_cell 83 = .ok (.ireturn, 1) := by decide +kernel
theorem dX5_cell_84 : decode cX5_cell 84 = .ok (.aload_n 0, 1) := by decide +kernel
theorem dX5_cell_85 : decode cX5_cell 85 = .ok (.getfield 10, 3) := by decide +kernel
theorem dX5_cell_88 : decode cX5_cell 88 = .ok (.iload_n 1, 1) := by decide +kernel
theorem dX5_cell_89 : decode cX5_cell 89 = .ok (.invokevirtual 97, 3) := by decide +kernel
theorem dX5_cell_92 : decode cX5_cell 92 = .ok (.invokestatic 93, 3) := by decide +kernel
theorem dX5_cell_95 : decode cX5_cell 95 = .ok (.ireturn, 1) := by decide +kernel
theorem dX5_cell_96 : decode cX5_cell 96 = .ok (.bipush (-2), 2) := by decide +kernel
theorem dX5_cell_98 : decode cX5_cell 98 = .ok (.ireturn, 1) := by decide +kernel
theorem dX5_ofPaddle_0 : decode cX5_ofPaddle 0 = .ok (.iload_n 1, 1) := by decide +kernel
theorem dX5_ofPaddle_1 : decode cX5_ofPaddle 1 = .ok (.aload_n 0, 1) := by decide +kernel
theorem dX5_ofPaddle_2 : decode cX5_ofPaddle 2 = .ok (.getfield 10, 3) := by decide +kernel
theorem dX5_ofPaddle_5 : decode cX5_ofPaddle 5 = .ok (.getfield 100, 3) := by decide +kernel
theorem dX5_ofPaddle_8 : decode cX5_ofPaddle 8 = .ok (.invokestatic 78, 3) := by decide +kernel
theorem dX5_ofPaddle_11 : decode cX5_ofPaddle 11 = .ok (.ifCond .eq 5, 3) := by decide +kernel
theorem dX5_ofPaddle_14 : decode cX5_ofPaddle 14 = .ok (.iconst (-1), 1) := by decide +kernel
theorem dX5_ofPaddle_15 : decode cX5_ofPaddle 15 = .ok (.ireturn, 1) := by decide +kernel
theorem dX5_ofPaddle_16 : decode cX5_ofPaddle 16 = .ok (.aload_n 0, 1) := by decide +kernel
theorem dX5_ofPaddle_17 : decode cX5_ofPaddle 17 = .ok (.getfield 10, 3) := by decide +kernel
theorem dX5_ofPaddle_20 : decode cX5_ofPaddle 20 = .ok (.getfield 104, 3) := by decide +kernel
theorem dX5_ofPaddle_23 : decode cX5_ofPaddle 23 = .ok (.iload_n 1, 1) := by decide +kernel
theorem dX5_ofPaddle_24 : decode cX5_ofPaddle 24 = .ok (.aaload, 1) := by decide +kernel
theorem dX5_ofPaddle_25 : decode cX5_ofPaddle 25 = .ok (.astore_n 3, 1) := by decide +kernel
theorem dX5_ofPaddle_26 : decode cX5_ofPaddle 26 = .ok (.iload_n 2, 1) := by decide +kernel
theorem dX5_ofPaddle_27 : decode cX5_ofPaddle 27 = .ok (.tableswitch 94 0 6 #[41, 46, 51, 60, 65, 70, 78], 41) := by decide +kernel
theorem dX5_ofPaddle_68 : decode cX5_ofPaddle 68 = .ok (.aload_n 3, 1) := by decide +kernel
theorem dX5_ofPaddle_69 : decode cX5_ofPaddle 69 = .ok (.getfield 108, 3) := by decide +kernel
theorem dX5_ofPaddle_72 : decode cX5_ofPaddle 72 = .ok (.ireturn, 1) := by decide +kernel
theorem dX5_ofPaddle_73 : decode cX5_ofPaddle 73 = .ok (.aload_n 3, 1) := by decide +kernel
theorem dX5_ofPaddle_74 : decode cX5_ofPaddle 74 = .ok (.getfield 113, 3) := by decide +kernel
theorem dX5_ofPaddle_77 : decode cX5_ofPaddle 77 = .ok (.ireturn, 1) := by decide +kernel
theorem dX5_ofPaddle_78 : decode cX5_ofPaddle 78 = .ok (.aload_n 3, 1) := by decide +kernel
theorem dX5_ofPaddle_79 : decode cX5_ofPaddle 79 = .ok (.getfield 116, 3) := by decide +kernel
theorem dX5_ofPaddle_82 : decode cX5_ofPaddle 82 = .ok (.sipush 1000, 3) := by decide +kernel
theorem dX5_ofPaddle_85 : decode cX5_ofPaddle 85 = .ok (.iadd, 1) := by decide +kernel
theorem dX5_ofPaddle_86 : decode cX5_ofPaddle 86 = .ok (.ireturn, 1) := by decide +kernel
theorem dX5_ofPaddle_87 : decode cX5_ofPaddle 87 = .ok (.aload_n 3, 1) := by decide +kernel
theorem dX5_ofPaddle_88 : decode cX5_ofPaddle 88 = .ok (.getfield 119, 3) := by decide +kernel
theorem dX5_ofPaddle_91 : decode cX5_ofPaddle 91 = .ok (.ireturn, 1) := by decide +kernel
theorem dX5_ofPaddle_92 : decode cX5_ofPaddle 92 = .ok (.aload_n 3, 1) := by decide +kernel
theorem dX5_ofPaddle_93 : decode cX5_ofPaddle 93 = .ok (.getfield 122, 3) := by decide +kernel
theorem dX5_ofPaddle_96 : decode cX5_ofPaddle 96 = .ok (.ireturn, 1) := by decide +kernel
theorem dX5_ofPaddle_97 : decode cX5_ofPaddle 97 = .ok (.aload_n 3, 1) := by decide +kernel
theorem dX5_ofPaddle_98 : decode cX5_ofPaddle 98 = .ok (.getfield 125, 3) := by decide +kernel
theorem dX5_ofPaddle_101 : decode cX5_ofPaddle 101 = .ok (.invokestatic 93, 3) := by decide +kernel
theorem dX5_ofPaddle_104 : decode cX5_ofPaddle 104 = .ok (.ireturn, 1) := by decide +kernel
theorem dX5_ofPaddle_105 : decode cX5_ofPaddle 105 = .ok (.aload_n 3, 1) := by decide +kernel
theorem dX5_ofPaddle_106 : decode cX5_ofPaddle 106 = .ok (.aload_n 0, 1) := by decide +kernel
theorem dX5_ofPaddle_107 : decode cX5_ofPaddle 107 = .ok (.getfield 10, 3) := by decide +kernel
theorem dX5_ofPaddle_110 : decode cX5_ofPaddle 110 = .ok (.getfield 129, 3) := by decide +kernel
theorem dX5_ofPaddle_113 : decode cX5_ofPaddle 113 = .ok (.invokevirtual 132, 3) := by decide +kernel
theorem dX5_ofPaddle_116 : decode cX5_ofPaddle 116 = .ok (.sipush 1000, 3) := by decide +kernel
theorem dX5_ofPaddle_119 : decode cX5_ofPaddle 119 = .ok (.iadd, 1) := by decide +kernel
theorem dX5_ofPaddle_120 : decode cX5_ofPaddle 120 = .ok (.ireturn, 1) := by decide +kernel
theorem dX5_ofPaddle_121 : decode cX5_ofPaddle 121 = .ok (.bipush (-2), 2) := by decide +kernel
theorem dX5_ofPaddle_123 : decode cX5_ofPaddle 123 = .ok (.ireturn, 1) := by decide +kernel
theorem dX5_ofGauge_0 : decode cX5_ofGauge 0 = .ok (.iload_n 1, 1) := by decide +kernel
theorem dX5_ofGauge_1 : decode cX5_ofGauge 1 = .ok (.aload_n 0, 1) := by decide +kernel
theorem dX5_ofGauge_2 : decode cX5_ofGauge 2 = .ok (.getfield 10, 3) := by decide +kernel
theorem dX5_ofGauge_5 : decode cX5_ofGauge 5 = .ok (.getfield 135, 3) := by decide +kernel
theorem dX5_ofGauge_8 : decode cX5_ofGauge 8 = .ok (.invokestatic 78, 3) := by decide +kernel
theorem dX5_ofGauge_11 : decode cX5_ofGauge 11 = .ok (.ifCond .eq 5, 3) := by decide +kernel
theorem dX5_ofGauge_14 : decode cX5_ofGauge 14 = .ok (.iconst (-1), 1) := by decide +kernel
theorem dX5_ofGauge_15 : decode cX5_ofGauge 15 = .ok (.ireturn, 1) := by decide +kernel
theorem dX5_ofGauge_16 : decode cX5_ofGauge 16 = .ok (.aload_n 0, 1) := by decide +kernel
theorem dX5_ofGauge_17 : decode cX5_ofGauge 17 = .ok (.getfield 10, 3) := by decide +kernel
theorem dX5_ofGauge_20 : decode cX5_ofGauge 20 = .ok (.getfield 138, 3) := by decide +kernel
theorem dX5_ofGauge_23 : decode cX5_ofGauge 23 = .ok (.iload_n 1, 1) := by decide +kernel
theorem dX5_ofGauge_24 : decode cX5_ofGauge 24 = .ok (.aaload, 1) := by decide +kernel
theorem dX5_ofGauge_25 : decode cX5_ofGauge 25 = .ok (.astore_n 3, 1) := by decide +kernel
theorem dX5_ofGauge_26 : decode cX5_ofGauge 26 = .ok (.iload_n 2, 1) := by decide +kernel
theorem dX5_ofGauge_27 : decode cX5_ofGauge 27 = .ok (.tableswitch 90 0 4 #[33, 38, 43, 64, 85], 33) := by decide +kernel
theorem dX5_ofGauge_60 : decode cX5_ofGauge 60 = .ok (.aload_n 3, 1) := by decide +kernel
theorem dX5_ofGauge_61 : decode cX5_ofGauge 61 = .ok (.getfield 142, 3) := by decide +kernel
theorem dX5_ofGauge_64 : decode cX5_ofGauge 64 = .ok (.ireturn, 1) := by decide +kernel
theorem dX5_ofGauge_65 : decode cX5_ofGauge 65 = .ok (.aload_n 3, 1) := by decide +kernel
theorem dX5_ofGauge_66 : decode cX5_ofGauge 66 = .ok (.getfield 145, 3) := by decide +kernel
theorem dX5_ofGauge_69 : decode cX5_ofGauge 69 = .ok (.ireturn, 1) := by decide +kernel
theorem dX5_ofGauge_70 : decode cX5_ofGauge 70 = .ok (.aload_n 3, 1) := by decide +kernel
theorem dX5_ofGauge_71 : decode cX5_ofGauge 71 = .ok (.getfield 145, 3) := by decide +kernel
theorem dX5_ofGauge_74 : decode cX5_ofGauge 74 = .ok (.ifCond .ne 8, 3) := by decide +kernel
theorem dX5_ofGauge_77 : decode cX5_ofGauge 77 = .ok (.bipush (-6), 2) := by decide +kernel
theorem dX5_ofGauge_79 : decode cX5_ofGauge 79 = .ok (.goto 11, 3) := by decide +kernel
theorem dX5_ofGauge_82 : decode cX5_ofGauge 82 = .ok (.aload_n 3, 1) := by decide +kernel
theorem dX5_ofGauge_83 : decode cX5_ofGauge 83 = .ok (.invokevirtual 148, 3) := by decide +kernel
theorem dX5_ofGauge_86 : decode cX5_ofGauge 86 = .ok (.sipush 10000, 3) := by decide +kernel
theorem dX5_ofGauge_89 : decode cX5_ofGauge 89 = .ok (.iadd, 1) := by decide +kernel
theorem dX5_ofGauge_90 : decode cX5_ofGauge 90 = .ok (.ireturn, 1) := by decide +kernel
theorem dX5_ofGauge_91 : decode cX5_ofGauge 91 = .ok (.aload_n 3, 1) := by decide +kernel
theorem dX5_ofGauge_92 : decode cX5_ofGauge 92 = .ok (.getfield 145, 3) := by decide +kernel
theorem dX5_ofGauge_95 : decode cX5_ofGauge 95 = .ok (.ifCond .ne 8, 3) := by decide +kernel
theorem dX5_ofGauge_98 : decode cX5_ofGauge 98 = .ok (.bipush (-6), 2) := by decide +kernel
theorem dX5_ofGauge_100 : decode cX5_ofGauge 100 = .ok (.goto 11, 3) := by decide +kernel
theorem dX5_ofGauge_103 : decode cX5_ofGauge 103 = .ok (.aload_n 3, 1) := by decide +kernel
theorem dX5_ofGauge_104 : decode cX5_ofGauge 104 = .ok (.invokevirtual 152, 3) := by decide +kernel
theorem dX5_ofGauge_107 : decode cX5_ofGauge 107 = .ok (.sipush 10000, 3) := by decide +kernel
theorem dX5_ofGauge_110 : decode cX5_ofGauge 110 = .ok (.iadd, 1) := by decide +kernel
theorem dX5_ofGauge_111 : decode cX5_ofGauge 111 = .ok (.ireturn, 1) := by decide +kernel
theorem dX5_ofGauge_112 : decode cX5_ofGauge 112 = .ok (.aload_n 3, 1) := by decide +kernel
theorem dX5_ofGauge_113 : decode cX5_ofGauge 113 = .ok (.invokevirtual 155, 3) := by decide +kernel
theorem dX5_ofGauge_116 : decode cX5_ofGauge 116 = .ok (.ireturn, 1) := by decide +kernel
theorem dX5_ofGauge_117 : decode cX5_ofGauge 117 = .ok (.bipush (-2), 2) := by decide +kernel
theorem dX5_ofGauge_119 : decode cX5_ofGauge 119 = .ok (.ireturn, 1) := by decide +kernel
theorem dX5_noted_0 : decode cX5_noted 0 = .ok (.iload_n 1, 1) := by decide +kernel
theorem dX5_noted_1 : decode cX5_noted 1 = .ok (.aload_n 0, 1) := by decide +kernel
theorem dX5_noted_2 : decode cX5_noted 2 = .ok (.getfield 10, 3) := by decide +kernel
theorem dX5_noted_5 : decode cX5_noted 5 = .ok (.getfield 135, 3) := by decide +kernel
theorem dX5_noted_8 : decode cX5_noted 8 = .ok (.invokestatic 78, 3) := by decide +kernel
theorem dX5_noted_11 : decode cX5_noted 11 = .ok (.ifCond .eq 5, 3) := by decide +kernel
theorem dX5_noted_14 : decode cX5_noted 14 = .ok (.iconst (-1), 1) := by decide +kernel
theorem dX5_noted_15 : decode cX5_noted 15 = .ok (.ireturn, 1) := by decide +kernel
theorem dX5_noted_16 : decode cX5_noted 16 = .ok (.aload_n 0, 1) := by decide +kernel
theorem dX5_noted_17 : decode cX5_noted 17 = .ok (.getfield 10, 3) := by decide +kernel
theorem dX5_noted_20 : decode cX5_noted 20 = .ok (.getfield 138, 3) := by decide +kernel
theorem dX5_noted_23 : decode cX5_noted 23 = .ok (.iload_n 1, 1) := by decide +kernel
theorem dX5_noted_24 : decode cX5_noted 24 = .ok (.aaload, 1) := by decide +kernel
theorem dX5_noted_25 : decode cX5_noted 25 = .ok (.astore_n 3, 1) := by decide +kernel
theorem dX5_noted_26 : decode cX5_noted 26 = .ok (.iload_n 2, 1) := by decide +kernel
theorem dX5_noted_27 : decode cX5_noted 27 = .ok (.aload_n 3, 1) := by decide +kernel
theorem dX5_noted_28 : decode cX5_noted 28 = .ok (.getfield 145, 3) := by decide +kernel
theorem dX5_noted_31 : decode cX5_noted 31 = .ok (.invokestatic 78, 3) := by decide +kernel
theorem dX5_noted_34 : decode cX5_noted 34 = .ok (.ifCond .eq 5, 3) := by decide +kernel
theorem dX5_noted_37 : decode cX5_noted 37 = .ok (.iconst (-1), 1) := by decide +kernel
theorem dX5_noted_38 : decode cX5_noted 38 = .ok (.ireturn, 1) := by decide +kernel
theorem dX5_noted_39 : decode cX5_noted 39 = .ok (.aload_n 3, 1) := by decide +kernel
theorem dX5_noted_40 : decode cX5_noted 40 = .ok (.iload_n 2, 1) := by decide +kernel
theorem dX5_noted_41 : decode cX5_noted 41 = .ok (.invokevirtual 158, 3) := by decide +kernel
theorem dX5_noted_44 : decode cX5_noted 44 = .ok (.sipush 10000, 3) := by decide +kernel
theorem dX5_noted_47 : decode cX5_noted 47 = .ok (.iadd, 1) := by decide +kernel
theorem dX5_noted_48 : decode cX5_noted 48 = .ok (.ireturn, 1) := by decide +kernel
theorem dX5_places_0 : decode cX5_places 0 = .ok (.iload_n 1, 1) := by decide +kernel
theorem dX5_places_1 : decode cX5_places 1 = .ok (.iconst 5, 1) := by decide +kernel
theorem dX5_places_2 : decode cX5_places 2 = .ok (.invokestatic 78, 3) := by decide +kernel
theorem dX5_places_5 : decode cX5_places 5 = .ok (.ifCond .eq 9, 3) := by decide +kernel
theorem dX5_places_8 : decode cX5_places 8 = .ok (.ldc2_w 161, 3) := by decide +kernel
theorem dX5_places_11 : decode cX5_places 11 = .ok (.goto 11, 3) := by decide +kernel
theorem dX5_places_14 : decode cX5_places 14 = .ok (.aload_n 0, 1) := by decide +kernel
theorem dX5_places_15 : decode cX5_places 15 = .ok (.getfield 10, 3) := by decide +kernel
theorem dX5_places_18 : decode cX5_places 18 = .ok (.iload_n 1, 1) := by decide +kernel
theorem dX5_places_19 : decode cX5_places 19 = .ok (.invokevirtual 163, 3) := by decide +kernel
theorem dX5_places_22 : decode cX5_places 22 = .ok (.lreturn, 1) := by decide +kernel
theorem dX5_count_0 : decode cX5_count 0 = .ok (.iload_n 1, 1) := by decide +kernel
theorem dX5_count_1 : decode cX5_count 1 = .ok (.tableswitch 167 0 12 #[67, 75, 83, 95, 103, 114, 122, 130, 138, 138, 138, 151, 159], 67) := by decide +kernel
theorem dX5_count_68 : decode cX5_count 68 = .ok (.aload_n 0, 1) := by decide +kernel
theorem dX5_count_69 : decode cX5_count 69 = .ok (.getfield 10, 3) := by decide +kernel
theorem dX5_count_72 : decode cX5_count 72 = .ok (.getfield 129, 3) := by decide +kernel
theorem dX5_count_75 : decode cX5_count 75 = .ok (.ireturn, 1) := by decide +kernel
theorem dX5_count_76 : decode cX5_count 76 = .ok (.aload_n 0, 1) := by decide +kernel
theorem dX5_count_77 : decode cX5_count 77 = .ok (.getfield 10, 3) := by decide +kernel
theorem dX5_count_80 : decode cX5_count 80 = .ok (.getfield 100, 3) := by decide +kernel
theorem dX5_count_83 : decode cX5_count 83 = .ok (.ireturn, 1) := by decide +kernel
theorem dX5_count_84 : decode cX5_count 84 = .ok (.aload_n 0, 1) := by decide +kernel
theorem dX5_count_85 : decode cX5_count 85 = .ok (.getfield 10, 3) := by decide +kernel
theorem dX5_count_88 : decode cX5_count 88 = .ok (.iconst 4, 1) := by decide +kernel
theorem dX5_count_89 : decode cX5_count 89 = .ok (.invokevirtual 163, 3) := by decide +kernel
theorem dX5_count_92 : decode cX5_count 92 = .ok (.invokestatic 167, 3) := by decide +kernel
theorem dX5_count_95 : decode cX5_count 95 = .ok (.ireturn, 1) := by decide +kernel
theorem dX5_count_96 : decode cX5_count 96 = .ok (.aload_n 0, 1) := by decide +kernel
theorem dX5_count_97 : decode cX5_count 97 = .ok (.getfield 10, 3) := by decide +kernel
theorem dX5_count_100 : decode cX5_count 100 = .ok (.getfield 135, 3) := by decide +kernel
theorem dX5_count_103 : decode cX5_count 103 = .ok (.ireturn, 1) := by decide +kernel
theorem dX5_count_104 : decode cX5_count 104 = .ok (.aload_n 0, 1) := by decide +kernel
theorem dX5_count_105 : decode cX5_count 105 = .ok (.getfield 10, 3) := by decide +kernel
theorem dX5_count_108 : decode cX5_count 108 = .ok (.invokevirtual 173, 3) := by decide +kernel
theorem dX5_count_111 : decode cX5_count 111 = .ok (.ldc 176, 2) := by decide +kernel
theorem dX5_count_113 : decode cX5_count 113 = .ok (.iadd, 1) := by decide +kernel
theorem dX5_count_114 : decode cX5_count 114 = .ok (.ireturn, 1) := by decide +kernel
theorem dX5_count_115 : decode cX5_count 115 = .ok (.aload_n 0, 1) := by decide +kernel
theorem dX5_count_116 : decode cX5_count 116 = .ok (.getfield 10, 3) := by decide +kernel
theorem dX5_count_119 : decode cX5_count 119 = .ok (.invokevirtual 177, 3) := by decide +kernel
theorem dX5_count_122 : decode cX5_count 122 = .ok (.ireturn, 1) := by decide +kernel
theorem dX5_count_123 : decode cX5_count 123 = .ok (.aload_n 0, 1) := by decide +kernel
theorem dX5_count_124 : decode cX5_count 124 = .ok (.getfield 10, 3) := by decide +kernel
theorem dX5_count_127 : decode cX5_count 127 = .ok (.invokevirtual 180, 3) := by decide +kernel
theorem dX5_count_130 : decode cX5_count 130 = .ok (.ireturn, 1) := by decide +kernel
theorem dX5_count_131 : decode cX5_count 131 = .ok (.aload_n 0, 1) := by decide +kernel
theorem dX5_count_132 : decode cX5_count 132 = .ok (.getfield 10, 3) := by decide +kernel
theorem dX5_count_135 : decode cX5_count 135 = .ok (.invokevirtual 183, 3) := by decide +kernel
theorem dX5_count_138 : decode cX5_count 138 = .ok (.ireturn, 1) := by decide +kernel
theorem dX5_count_139 : decode cX5_count 139 = .ok (.aload_n 0, 1) := by decide +kernel
theorem dX5_count_140 : decode cX5_count 140 = .ok (.getfield 10, 3) := by decide +kernel
theorem dX5_count_143 : decode cX5_count 143 = .ok (.getfield 186, 3) := by decide +kernel
theorem dX5_count_146 : decode cX5_count 146 = .ok (.iload_n 1, 1) := by decide +kernel
theorem dX5_count_147 : decode cX5_count 147 = .ok (.bipush 8, 2) := by decide +kernel
theorem dX5_count_149 : decode cX5_count 149 = .ok (.isub, 1) := by decide +kernel
theorem dX5_count_150 : decode cX5_count 150 = .ok (.iaload, 1) := by decide +kernel
theorem dX5_count_151 : decode cX5_count 151 = .ok (.ireturn, 1) := by decide +kernel
theorem dX5_count_152 : decode cX5_count 152 = .ok (.aload_n 0, 1) := by decide +kernel
theorem dX5_count_153 : decode cX5_count 153 = .ok (.getfield 19, 3) := by decide +kernel
theorem dX5_count_156 : decode cX5_count 156 = .ok (.getfield 189, 3) := by decide +kernel
theorem dX5_count_159 : decode cX5_count 159 = .ok (.ireturn, 1) := by decide +kernel
theorem dX5_count_160 : decode cX5_count 160 = .ok (.aload_n 0, 1) := by decide +kernel
theorem dX5_count_161 : decode cX5_count 161 = .ok (.getfield 26, 3) := by decide +kernel
theorem dX5_count_164 : decode cX5_count 164 = .ok (.getfield 192, 3) := by decide +kernel
theorem dX5_count_167 : decode cX5_count 167 = .ok (.ireturn, 1) := by decide +kernel
theorem dX5_count_168 : decode cX5_count 168 = .ok (.bipush (-2), 2) := by decide +kernel
theorem dX5_count_170 : decode cX5_count 170 = .ok (.ireturn, 1) := by decide +kernel
theorem dX5_reaches_0 : decode cX5_reaches 0 = .ok (.iload_n 1, 1) := by decide +kernel
theorem dX5_reaches_1 : decode cX5_reaches 1 = .ok (.bipush 40, 2) := by decide +kernel
theorem dX5_reaches_3 : decode cX5_reaches 3 = .ok (.invokestatic 78, 3) := by decide +kernel
theorem dX5_reaches_6 : decode cX5_reaches 6 = .ok (.ifCond .eq 5, 3) := by decide +kernel
theorem dX5_reaches_9 : decode cX5_reaches 9 = .ok (.iconst (-1), 1) := by decide +kernel
theorem dX5_reaches_10 : decode cX5_reaches 10 = .ok (.ireturn, 1) := by decide +kernel
theorem dX5_reaches_11 : decode cX5_reaches 11 = .ok (.iload_n 2, 1) := by decide +kernel
theorem dX5_reaches_12 : decode cX5_reaches 12 = .ok (.iconst 1, 1) := by decide +kernel
theorem dX5_reaches_13 : decode cX5_reaches 13 = .ok (.if_icmp .lt 10, 3) := by decide +kernel
theorem dX5_reaches_16 : decode cX5_reaches 16 = .ok (.iload_n 2, 1) := by decide +kernel
theorem dX5_reaches_17 : decode cX5_reaches 17 = .ok (.sipush 9999, 3) := by decide +kernel
theorem dX5_reaches_20 : decode cX5_reaches 20 = .ok (.if_icmp .le 6, 3) := by decide +kernel
theorem dX5_reaches_23 : decode cX5_reaches 23 = .ok (.bipush (-2), 2) := by decide +kernel
theorem dX5_reaches_25 : decode cX5_reaches 25 = .ok (.ireturn, 1) := by decide +kernel
theorem dX5_reaches_26 : decode cX5_reaches 26 = .ok (.aload_n 0, 1) := by decide +kernel
theorem dX5_reaches_27 : decode cX5_reaches 27 = .ok (.getfield 41, 3) := by decide +kernel
theorem dX5_reaches_30 : decode cX5_reaches 30 = .ok (.aload_n 0, 1) := by decide +kernel
theorem dX5_reaches_31 : decode cX5_reaches 31 = .ok (.getfield 10, 3) := by decide +kernel
theorem dX5_reaches_34 : decode cX5_reaches 34 = .ok (.invokevirtual 44, 3) := by decide +kernel
theorem dX5_reaches_37 : decode cX5_reaches 37 = .ok (.iconst 0, 1) := by decide +kernel
theorem dX5_reaches_38 : decode cX5_reaches 38 = .ok (.istore_n 3, 1) := by decide +kernel
theorem dX5_reaches_39 : decode cX5_reaches 39 = .ok (.iload_n 3, 1) := by decide +kernel
theorem dX5_reaches_40 : decode cX5_reaches 40 = .ok (.sipush 500, 3) := by decide +kernel
theorem dX5_reaches_43 : decode cX5_reaches 43 = .ok (.if_icmp .gt 35, 3) := by decide +kernel
theorem dX5_reaches_46 : decode cX5_reaches 46 = .ok (.aload_n 0, 1) := by decide +kernel
theorem dX5_reaches_47 : decode cX5_reaches 47 = .ok (.getfield 41, 3) := by decide +kernel
theorem dX5_reaches_50 : decode cX5_reaches 50 = .ok (.getfield 82, 3) := by decide +kernel
theorem dX5_reaches_53 : decode cX5_reaches 53 = .ok (.iload_n 1, 1) := by decide +kernel
theorem dX5_reaches_54 : decode cX5_reaches 54 = .ok (.iaload, 1) := by decide +kernel
theorem dX5_reaches_55 : decode cX5_reaches 55 = .ok (.invokestatic 195, 3) := by decide +kernel
theorem dX5_reaches_58 : decode cX5_reaches 58 = .ok (.iload_n 2, 1) := by decide +kernel
theorem dX5_reaches_59 : decode cX5_reaches 59 = .ok (.if_icmp .lt 5, 3) := by decide +kernel
theorem dX5_reaches_62 : decode cX5_reaches 62 = .ok (.iload_n 3, 1) := by decide +kernel
theorem dX5_reaches_63 : decode cX5_reaches 63 = .ok (.ireturn, 1) := by decide +kernel
theorem dX5_reaches_64 : decode cX5_reaches 64 = .ok (.aload_n 0, 1) := by decide +kernel
theorem dX5_reaches_65 : decode cX5_reaches 65 = .ok (.getfield 41, 3) := by decide +kernel
theorem dX5_reaches_68 : decode cX5_reaches 68 = .ok (.invokevirtual 200, 3) := by decide +kernel
theorem dX5_reaches_71 : decode cX5_reaches 71 = .ok (.pop, 1) := by decide +kernel
theorem dX5_reaches_72 : decode cX5_reaches 72 = .ok (.iinc 3 1, 3) := by decide +kernel
theorem dX5_reaches_75 : decode cX5_reaches 75 = .ok (.goto (-36), 3) := by decide +kernel
theorem dX5_reaches_78 : decode cX5_reaches 78 = .ok (.bipush (-6), 2) := by decide +kernel
theorem dX5_reaches_80 : decode cX5_reaches 80 = .ok (.ireturn, 1) := by decide +kernel
theorem dX5_bestPeriod_0 : decode cX5_bestPeriod 0 = .ok (.iload_n 1, 1) := by decide +kernel
theorem dX5_bestPeriod_1 : decode cX5_bestPeriod 1 = .ok (.aload_n 0, 1) := by decide +kernel
theorem dX5_bestPeriod_2 : decode cX5_bestPeriod 2 = .ok (.getfield 10, 3) := by decide +kernel
theorem dX5_bestPeriod_5 : decode cX5_bestPeriod 5 = .ok (.getfield 100, 3) := by decide +kernel
theorem dX5_bestPeriod_8 : decode cX5_bestPeriod 8 = .ok (.invokestatic 78, 3) := by decide +kernel
theorem dX5_bestPeriod_11 : decode cX5_bestPeriod 11 = .ok (.ifCond .ne 12, 3) := by decide +kernel
theorem dX5_bestPeriod_14 : decode cX5_bestPeriod 14 = .ok (.iload_n 2, 1) := by decide +kernel
theorem dX5_bestPeriod_15 : decode cX5_bestPeriod 15 = .ok (.bipush 40, 2) := by decide +kernel
theorem dX5_bestPeriod_17 : decode cX5_bestPeriod 17 = .ok (.invokestatic 78, 3) := by decide +kernel
theorem dX5_bestPeriod_20 : decode cX5_bestPeriod 20 = .ok (.ifCond .eq 5, 3) := by decide +kernel
theorem dX5_bestPeriod_23 : decode cX5_bestPeriod 23 = .ok (.iconst (-1), 1) := by decide +kernel
theorem dX5_bestPeriod_24 : decode cX5_bestPeriod 24 = .ok (.ireturn, 1) := by decide +kernel
theorem dX5_bestPeriod_25 : decode cX5_bestPeriod 25 = .ok (.iload_n 3, 1) := by decide +kernel
theorem dX5_bestPeriod_26 : decode cX5_bestPeriod 26 = .ok (.iconst 1, 1) := by decide +kernel
theorem dX5_bestPeriod_27 : decode cX5_bestPeriod 27 = .ok (.if_icmp .lt 18, 3) := by decide +kernel
theorem dX5_bestPeriod_30 : decode cX5_bestPeriod 30 = .ok (.iload_n 3, 1) := by decide +kernel
theorem dX5_bestPeriod_31 : decode cX5_bestPeriod 31 = .ok (.bipush 99, 2) := by decide +kernel
theorem dX5_bestPeriod_33 : decode cX5_bestPeriod 33 = .ok (.if_icmp .gt 12, 3) := by decide +kernel
theorem dX5_bestPeriod_36 : decode cX5_bestPeriod 36 = .ok (.iload 4, 2) := by decide +kernel
theorem dX5_bestPeriod_38 : decode cX5_bestPeriod 38 = .ok (.iconst 2, 1) := by decide +kernel
theorem dX5_bestPeriod_39 : decode cX5_bestPeriod 39 = .ok (.invokestatic 78, 3) := by decide +kernel
theorem dX5_bestPeriod_42 : decode cX5_bestPeriod 42 = .ok (.ifCond .eq 6, 3) := by decide +kernel
theorem dX5_bestPeriod_45 : decode cX5_bestPeriod 45 = .ok (.bipush (-2), 2) := by decide +kernel
theorem dX5_bestPeriod_47 : decode cX5_bestPeriod 47 = .ok (.ireturn, 1) := by decide +kernel
theorem dX5_bestPeriod_48 : decode cX5_bestPeriod 48 = .ok (.iconst 0, 1) := by decide +kernel
theorem dX5_bestPeriod_49 : decode cX5_bestPeriod 49 = .ok (.istore 5, 2) := by decide +kernel
theorem dX5_bestPeriod_51 : decode cX5_bestPeriod 51 = .ok (.iconst (-1), 1) := by decide +kernel
theorem dX5_bestPeriod_52 : decode cX5_bestPeriod 52 = .ok (.istore 6, 2) := by decide +kernel
theorem dX5_bestPeriod_54 : decode cX5_bestPeriod 54 = .ok (.iconst 1, 1) := by decide +kernel
theorem dX5_bestPeriod_55 : decode cX5_bestPeriod 55 = .ok (.istore 7, 2) := by decide +kernel
theorem dX5_bestPeriod_57 : decode cX5_bestPeriod 57 = .ok (.iload 7, 2) := by decide +kernel
theorem dX5_bestPeriod_59 : decode cX5_bestPeriod 59 = .ok (.bipush 60, 2) := by decide +kernel
theorem dX5_bestPeriod_61 : decode cX5_bestPeriod 61 = .ok (.if_icmp .gt 35, 3) := by decide +kernel
theorem dX5_bestPeriod_64 : decode cX5_bestPeriod 64 = .ok (.aload_n 0, 1) := by decide +kernel
theorem dX5_bestPeriod_65 : decode cX5_bestPeriod 65 = .ok (.iload_n 1, 1) := by decide +kernel
theorem dX5_bestPeriod_66 : decode cX5_bestPeriod 66 = .ok (.iload 7, 2) := by decide +kernel
theorem dX5_bestPeriod_68 : decode cX5_bestPeriod 68 = .ok (.iload_n 2, 1) := by decide +kernel
theorem dX5_bestPeriod_69 : decode cX5_bestPeriod 69 = .ok (.iload_n 3, 1) := by decide +kernel
theorem dX5_bestPeriod_70 : decode cX5_bestPeriod 70 = .ok (.invokevirtual 203, 3) := by decide +kernel
theorem dX5_bestPeriod_73 : decode cX5_bestPeriod 73 = .ok (.istore 8, 2) := by decide +kernel
theorem dX5_bestPeriod_75 : decode cX5_bestPeriod 75 = .ok (.iload 8, 2) := by decide +kernel
theorem dX5_bestPeriod_77 : decode cX5_bestPeriod 77 = .ok (.iload 6, 2) := by decide +kernel
theorem dX5_bestPeriod_79 : decode cX5_bestPeriod 79 = .ok (.if_icmp .le 11, 3) := by decide +kernel
theorem dX5_bestPeriod_82 : decode cX5_bestPeriod 82 = .ok (.iload 8, 2) := by decide +kernel
theorem dX5_bestPeriod_84 : decode cX5_bestPeriod 84 = .ok (.istore 6, 2) := by decide +kernel
theorem dX5_bestPeriod_86 : decode cX5_bestPeriod 86 = .ok (.iload 7, 2) := by decide +kernel
theorem dX5_bestPeriod_88 : decode cX5_bestPeriod 88 = .ok (.istore 5, 2) := by decide +kernel
theorem dX5_bestPeriod_90 : decode cX5_bestPeriod 90 = .ok (.iinc 7 1, 3) := by decide +kernel
theorem dX5_bestPeriod_93 : decode cX5_bestPeriod 93 = .ok (.goto (-36), 3) := by decide +kernel
theorem dX5_bestPeriod_96 : decode cX5_bestPeriod 96 = .ok (.iload 4, 2) := by decide +kernel
theorem dX5_bestPeriod_98 : decode cX5_bestPeriod 98 = .ok (.ifCond .ne 8, 3) := by decide +kernel
theorem dX5_bestPeriod_101 : decode cX5_bestPeriod 101 = .ok (.iload 5, 2) := by decide +kernel
theorem dX5_bestPeriod_103 : decode cX5_bestPeriod 103 = .ok (.goto 5, 3) := by decide +kernel
theorem dX5_bestPeriod_106 : decode cX5_bestPeriod 106 = .ok (.iload 6, 2) := by decide +kernel
theorem dX5_bestPeriod_108 : decode cX5_bestPeriod 108 = .ok (.ireturn, 1) := by decide +kernel
theorem dX5_peakWithPeriod_0 : decode cX5_peakWithPeriod 0 = .ok (.aload_n 0, 1) := by decide +kernel
theorem dX5_peakWithPeriod_1 : decode cX5_peakWithPeriod 1 = .ok (.getfield 41, 3) := by decide +kernel
theorem dX5_peakWithPeriod_4 : decode cX5_peakWithPeriod 4 = .ok (.aload_n 0, 1) := by decide +kernel
theorem dX5_peakWithPeriod_5 : decode cX5_peakWithPeriod 5 = .ok (.getfield 10, 3) := by decide +kernel
theorem dX5_peakWithPeriod_8 : decode cX5_peakWithPeriod 8 = .ok (.invokevirtual 44, 3) := by decide +kernel
theorem dX5_peakWithPeriod_11 : decode cX5_peakWithPeriod 11 = .ok (.aload_n 0, 1) := by decide +kernel
theorem dX5_peakWithPeriod_12 : decode cX5_peakWithPeriod 12 = .ok (.getfield 41, 3) := by decide +kernel
theorem dX5_peakWithPeriod_15 : decode cX5_peakWithPeriod 15 = .ok (.getfield 104, 3) := by decide +kernel
theorem dX5_peakWithPeriod_18 : decode cX5_peakWithPeriod 18 = .ok (.iload_n 1, 1) := by decide +kernel
theorem dX5_peakWithPeriod_19 : decode cX5_peakWithPeriod 19 = .ok (.aaload, 1) := by decide +kernel
theorem dX5_peakWithPeriod_20 : decode cX5_peakWithPeriod 20 = .ok (.iload_n 2, 1) := by decide +kernel
theorem dX5_peakWithPeriod_21 : decode cX5_peakWithPeriod 21 = .ok (.putfield 119, 3) := by decide +kernel
theorem dX5_peakWithPeriod_24 : decode cX5_peakWithPeriod 24 = .ok (.iconst 0, 1) := by decide +kernel
theorem dX5_peakWithPeriod_25 : decode cX5_peakWithPeriod 25 = .ok (.istore 5, 2) := by decide +kernel
theorem dX5_peakWithPeriod_27 : decode cX5_peakWithPeriod 27 = .ok (.iconst 0, 1) := by decide +kernel
theorem dX5_peakWithPeriod_28 : decode cX5_peakWithPeriod 28 = .ok (.istore 6, 2) := by decide +kernel
theorem dX5_peakWithPeriod_30 : decode cX5_peakWithPeriod 30 = .ok (.iload 6, 2) := by decide +kernel
theorem dX5_peakWithPeriod_32 : decode cX5_peakWithPeriod 32 = .ok (.iload 4, 2) := by decide +kernel
theorem dX5_peakWithPeriod_34 : decode cX5_peakWithPeriod 34 = .ok (.if_icmp .ge 36, 3) := by decide +kernel
theorem dX5_peakWithPeriod_37 : decode cX5_peakWithPeriod 37 = .ok (.aload_n 0, 1) := by decide +kernel
theorem dX5_peakWithPeriod_38 : decode cX5_peakWithPeriod 38 = .ok (.getfield 41, 3) := by decide +kernel
theorem dX5_peakWithPeriod_41 : decode cX5_peakWithPeriod 41 = .ok (.invokevirtual 200, 3) := by decide +kernel
theorem dX5_peakWithPeriod_44 : decode cX5_peakWithPeriod 44 = .ok (.pop, 1) := by decide +kernel
theorem dX5_peakWithPeriod_45 : decode cX5_peakWithPeriod 45 = .ok (.iload 5, 2) := by decide +kernel
theorem dX5_peakWithPeriod_47 : decode cX5_peakWithPeriod 47 = .ok (.aload_n 0, 1) := by decide +kernel
theorem dX5_peakWithPeriod_48 : decode cX5_peakWithPeriod 48 = .ok (.getfield 41, 3) := by decide +kernel
theorem dX5_peakWithPeriod_51 : decode cX5_peakWithPeriod 51 = .ok (.getfield 82, 3) := by decide +kernel
theorem dX5_peakWithPeriod_54 : decode cX5_peakWithPeriod 54 = .ok (.iload_n 3, 1) := by decide +kernel
theorem dX5_peakWithPeriod_55 : decode cX5_peakWithPeriod 55 = .ok (.iaload, 1) := by decide +kernel
theorem dX5_peakWithPeriod_56 : decode cX5_peakWithPeriod 56 = .ok (.invokestatic 195, 3) := by decide +kernel
theorem dX5_peakWithPeriod_59 : decode cX5_peakWithPeriod 59 = .ok (.invokestatic 207, 3) := by decide +kernel
theorem dX5_peakWithPeriod_62 : decode cX5_peakWithPeriod 62 = .ok (.istore 5, 2) := by decide +kernel
theorem dX5_peakWithPeriod_64 : decode cX5_peakWithPeriod 64 = .ok (.iinc 6 1, 3) := by decide +kernel
theorem dX5_peakWithPeriod_67 : decode cX5_peakWithPeriod 67 = .ok (.goto (-37), 3) := by decide +kernel
theorem dX5_peakWithPeriod_70 : decode cX5_peakWithPeriod 70 = .ok (.iload 5, 2) := by decide +kernel
theorem dX5_peakWithPeriod_72 : decode cX5_peakWithPeriod 72 = .ok (.ireturn, 1) := by decide +kernel
theorem dX5_calmIn_0 : decode cX5_calmIn 0 = .ok (.aload_n 0, 1) := by decide +kernel
theorem dX5_calmIn_1 : decode cX5_calmIn 1 = .ok (.getfield 41, 3) := by decide +kernel
theorem dX5_calmIn_4 : decode cX5_calmIn 4 = .ok (.aload_n 0, 1) := by decide +kernel
theorem dX5_calmIn_5 : decode cX5_calmIn 5 = .ok (.getfield 10, 3) := by decide +kernel
theorem dX5_calmIn_8 : decode cX5_calmIn 8 = .ok (.invokevirtual 44, 3) := by decide +kernel
theorem dX5_calmIn_11 : decode cX5_calmIn 11 = .ok (.aload_n 0, 1) := by decide +kernel
theorem dX5_calmIn_12 : decode cX5_calmIn 12 = .ok (.getfield 41, 3) := by decide +kernel
theorem dX5_calmIn_15 : decode cX5_calmIn 15 = .ok (.iconst 0, 1) := by decide +kernel
theorem dX5_calmIn_16 : decode cX5_calmIn 16 = .ok (.putfield 100, 3) := by decide +kernel
theorem dX5_calmIn_19 : decode cX5_calmIn 19 = .ok (.iconst 0, 1) := by decide +kernel
theorem dX5_calmIn_20 : decode cX5_calmIn 20 = .ok (.istore_n 1, 1) := by decide +kernel
theorem dX5_calmIn_21 : decode cX5_calmIn 21 = .ok (.iload_n 1, 1) := by decide +kernel
theorem dX5_calmIn_22 : decode cX5_calmIn 22 = .ok (.sipush 500, 3) := by decide +kernel
theorem dX5_calmIn_25 : decode cX5_calmIn 25 = .ok (.if_icmp .gt 29, 3) := by decide +kernel
theorem dX5_calmIn_28 : decode cX5_calmIn 28 = .ok (.aload_n 0, 1) := by decide +kernel
theorem dX5_calmIn_29 : decode cX5_calmIn 29 = .ok (.getfield 41, 3) := by decide +kernel
theorem dX5_calmIn_32 : decode cX5_calmIn 32 = .ok (.invokevirtual 210, 3) := by decide +kernel
theorem dX5_calmIn_35 : decode cX5_calmIn 35 = .ok (.ifCond .eq 5, 3) := by decide +kernel
theorem dX5_calmIn_38 : decode cX5_calmIn 38 = .ok (.iload_n 1, 1) := by decide +kernel
theorem dX5_calmIn_39 : decode cX5_calmIn 39 = .ok (.ireturn, 1) := by decide +kernel
theorem dX5_calmIn_40 : decode cX5_calmIn 40 = .ok (.aload_n 0, 1) := by decide +kernel
theorem dX5_calmIn_41 : decode cX5_calmIn 41 = .ok (.getfield 41, 3) := by decide +kernel
theorem dX5_calmIn_44 : decode cX5_calmIn 44 = .ok (.invokevirtual 200, 3) := by decide +kernel
theorem dX5_calmIn_47 : decode cX5_calmIn 47 = .ok (.pop, 1) := by decide +kernel
theorem dX5_calmIn_48 : decode cX5_calmIn 48 = .ok (.iinc 1 1, 3) := by decide +kernel
theorem dX5_calmIn_51 : decode cX5_calmIn 51 = .ok (.goto (-30), 3) := by decide +kernel
theorem dX5_calmIn_54 : decode cX5_calmIn 54 = .ok (.bipush (-6), 2) := by decide +kernel
theorem dX5_calmIn_56 : decode cX5_calmIn 56 = .ok (.ireturn, 1) := by decide +kernel
theorem dX5_put_0 : decode cX5_put 0 = .ok (.aload_n 0, 1) := by decide +kernel
theorem dX5_put_1 : decode cX5_put 1 = .ok (.getfield 19, 3) := by decide +kernel
theorem dX5_put_4 : decode cX5_put 4 = .ok (.lload_n 1, 1) := by decide +kernel
theorem dX5_put_5 : decode cX5_put 5 = .ok (.invokevirtual 214, 3) := by decide +kernel
theorem dX5_put_8 : decode cX5_put 8 = .ok (.ireturn, 1) := by decide +kernel
theorem dX5_wipe_0 : decode cX5_wipe 0 = .ok (.aload_n 0, 1) := by decide +kernel
theorem dX5_wipe_1 : decode cX5_wipe 1 = .ok (.getfield 19, 3) := by decide +kernel
theorem dX5_wipe_4 : decode cX5_wipe 4 = .ok (.getfield 189, 3) := by decide +kernel
theorem dX5_wipe_7 : decode cX5_wipe 7 = .ok (.istore_n 1, 1) := by decide +kernel
theorem dX5_wipe_8 : decode cX5_wipe 8 = .ok (.aload_n 0, 1) := by decide +kernel
theorem dX5_wipe_9 : decode cX5_wipe 9 = .ok (.getfield 19, 3) := by decide +kernel
theorem dX5_wipe_12 : decode cX5_wipe 12 = .ok (.iconst 0, 1) := by decide +kernel
theorem dX5_wipe_13 : decode cX5_wipe 13 = .ok (.putfield 189, 3) := by decide +kernel
theorem dX5_wipe_16 : decode cX5_wipe 16 = .ok (.iload_n 1, 1) := by decide +kernel
theorem dX5_wipe_17 : decode cX5_wipe 17 = .ok (.ireturn, 1) := by decide +kernel
theorem dX5_fault_0 : decode cX5_fault 0 = .ok (.aload_n 0, 1) := by decide +kernel
theorem dX5_fault_1 : decode cX5_fault 1 = .ok (.getfield 19, 3) := by decide +kernel
theorem dX5_fault_4 : decode cX5_fault 4 = .ok (.invokevirtual 217, 3) := by decide +kernel
theorem dX5_fault_7 : decode cX5_fault 7 = .ok (.ireturn, 1) := by decide +kernel
theorem dX5_carryOut_0 : decode cX5_carryOut 0 = .ok (.aload_n 0, 1) := by decide +kernel
theorem dX5_carryOut_1 : decode cX5_carryOut 1 = .ok (.getfield 19, 3) := by decide +kernel
theorem dX5_carryOut_4 : decode cX5_carryOut 4 = .ok (.invokevirtual 217, 3) := by decide +kernel
theorem dX5_carryOut_7 : decode cX5_carryOut 7 = .ok (.bipush (-6), 2) := by decide +kernel
theorem dX5_carryOut_9 : decode cX5_carryOut 9 = .ok (.if_icmp .eq 6, 3) := by decide +kernel
theorem dX5_carryOut_12 : decode cX5_carryOut 12 = .ok (.bipush (-3), 2) := by decide +kernel
theorem dX5_carryOut_14 : decode cX5_carryOut 14 = .ok (.ireturn, 1) := by decide +kernel
theorem dX5_carryOut_15 : decode cX5_carryOut 15 = .ok (.aload_n 0, 1) := by decide +kernel
theorem dX5_carryOut_16 : decode cX5_carryOut 16 = .ok (.getfield 38, 3) := by decide +kernel
theorem dX5_carryOut_19 : decode cX5_carryOut 19 = .ok (.aload_n 0, 1) := by decide +kernel
theorem dX5_carryOut_20 : decode cX5_carryOut 20 = .ok (.getfield 10, 3) := by decide +kernel
theorem dX5_carryOut_23 : decode cX5_carryOut 23 = .ok (.invokevirtual 44, 3) := by decide +kernel
theorem dX5_carryOut_26 : decode cX5_carryOut 26 = .ok (.aload_n 0, 1) := by decide +kernel
theorem dX5_carryOut_27 : decode cX5_carryOut 27 = .ok (.invokevirtual 220, 3) := by decide +kernel
theorem dX5_carryOut_30 : decode cX5_carryOut 30 = .ok (.istore_n 1, 1) := by decide +kernel
theorem dX5_carryOut_31 : decode cX5_carryOut 31 = .ok (.aload_n 0, 1) := by decide +kernel
theorem dX5_carryOut_32 : decode cX5_carryOut 32 = .ok (.getfield 19, 3) := by decide +kernel
theorem dX5_carryOut_35 : decode cX5_carryOut 35 = .ok (.iconst 0, 1) := by decide +kernel
theorem dX5_carryOut_36 : decode cX5_carryOut 36 = .ok (.putfield 189, 3) := by decide +kernel
theorem dX5_carryOut_39 : decode cX5_carryOut 39 = .ok (.aload_n 0, 1) := by decide +kernel
theorem dX5_carryOut_40 : decode cX5_carryOut 40 = .ok (.iload_n 1, 1) := by decide +kernel
theorem dX5_carryOut_41 : decode cX5_carryOut 41 = .ok (.invokevirtual 52, 3) := by decide +kernel
theorem dX5_carryOut_44 : decode cX5_carryOut 44 = .ok (.ireturn, 1) := by decide +kernel
theorem dX5_carryOrders_0 : decode cX5_carryOrders 0 = .ok (.iconst 0, 1) := by decide +kernel
theorem dX5_carryOrders_1 : decode cX5_carryOrders 1 = .ok (.istore_n 1, 1) := by decide +kernel
theorem dX5_carryOrders_2 : decode cX5_carryOrders 2 = .ok (.aload_n 0, 1) := by decide +kernel
theorem dX5_carryOrders_3 : decode cX5_carryOrders 3 = .ok (.getfield 19, 3) := by decide +kernel
theorem dX5_carryOrders_6 : decode cX5_carryOrders 6 = .ok (.iconst 0, 1) := by decide +kernel
theorem dX5_carryOrders_7 : decode cX5_carryOrders 7 = .ok (.putfield 223, 3) := by decide +kernel
theorem dX5_carryOrders_10 : decode cX5_carryOrders 10 = .ok (.iload_n 1, 1) := by decide +kernel
theorem dX5_carryOrders_11 : decode cX5_carryOrders 11 = .ok (.bipush 80, 2) := by decide +kernel
theorem dX5_carryOrders_13 : decode cX5_carryOrders 13 = .ok (.if_icmp .ge 38, 3) := by decide +kernel
theorem dX5_carryOrders_16 : decode cX5_carryOrders 16 = .ok (.aload_n 0, 1) := by decide +kernel
theorem dX5_carryOrders_17 : decode cX5_carryOrders 17 = .ok (.getfield 19, 3) := by decide +kernel
theorem dX5_carryOrders_20 : decode cX5_carryOrders 20 = .ok (.invokevirtual 226, 3) := by decide +kernel
theorem dX5_carryOrders_23 : decode cX5_carryOrders 23 = .ok (.ifCond .eq 28, 3) := by decide +kernel
theorem dX5_carryOrders_26 : decode cX5_carryOrders 26 = .ok (.aload_n 0, 1) := by decide +kernel
theorem dX5_carryOrders_27 : decode cX5_carryOrders 27 = .ok (.invokevirtual 229, 3) := by decide +kernel
theorem dX5_carryOrders_30 : decode cX5_carryOrders 30 = .ok (.ifCond .lt 21, 3) := by decide +kernel
theorem dX5_carryOrders_33 : decode cX5_carryOrders 33 = .ok (.iinc 1 1, 3) := by decide +kernel
theorem dX5_carryOrders_36 : decode cX5_carryOrders 36 = .ok (.aload_n 0, 1) := by decide +kernel
theorem dX5_carryOrders_37 : decode cX5_carryOrders 37 = .ok (.getfield 19, 3) := by decide +kernel
theorem dX5_carryOrders_40 : decode cX5_carryOrders 40 = .ok (.bipush 59, 2) := by decide +kernel
theorem dX5_carryOrders_42 : decode cX5_carryOrders 42 = .ok (.invokevirtual 232, 3) := by decide +kernel
theorem dX5_carryOrders_45 : decode cX5_carryOrders 45 = .ok (.ifCond .ne (-35), 3) := by decide +kernel
theorem dX5_carryOrders_48 : decode cX5_carryOrders 48 = .ok (.goto 3, 3) := by decide +kernel
theorem dX5_carryOrders_51 : decode cX5_carryOrders 51 = .ok (.iload_n 1, 1) := by decide +kernel
theorem dX5_carryOrders_52 : decode cX5_carryOrders 52 = .ok (.ireturn, 1) := by decide +kernel
theorem dX5_carryOneOrder_0 : decode cX5_carryOneOrder 0 = .ok (.aload_n 0, 1) := by decide +kernel
theorem dX5_carryOneOrder_1 : decode cX5_carryOneOrder 1 = .ok (.getfield 19, 3) := by decide +kernel
theorem dX5_carryOneOrder_4 : decode cX5_carryOneOrder 4 = .ok (.getfield 236, 3) := by decide +kernel
theorem dX5_carryOneOrder_7 : decode cX5_carryOneOrder 7 = .ok (.lookupswitch 129 #[(103, 99), (112, 41), (116, 114), (120, 84)], 41) := by decide +kernel
theorem dX5_carryOneOrder_48 : decode cX5_carryOneOrder 48 = .ok (.aload_n 0, 1) := by decide +kernel
theorem dX5_carryOneOrder_49 : decode cX5_carryOneOrder 49 = .ok (.getfield 10, 3) := by decide +kernel
theorem dX5_carryOneOrder_52 : decode cX5_carryOneOrder 52 = .ok (.aload_n 0, 1) := by decide +kernel
theorem dX5_carryOneOrder_53 : decode cX5_carryOneOrder 53 = .ok (.getfield 19, 3) := by decide +kernel
theorem dX5_carryOneOrder_56 : decode cX5_carryOneOrder 56 = .ok (.getfield 239, 3) := by decide +kernel
theorem dX5_carryOneOrder_59 : decode cX5_carryOneOrder 59 = .ok (.aload_n 0, 1) := by decide +kernel
theorem dX5_carryOneOrder_60 : decode cX5_carryOneOrder 60 = .ok (.getfield 19, 3) := by decide +kernel
theorem dX5_carryOneOrder_63 : decode cX5_carryOneOrder 63 = .ok (.getfield 242, 3) := by decide +kernel
theorem dX5_carryOneOrder_66 : decode cX5_carryOneOrder 66 = .ok (.aload_n 0, 1) := by decide +kernel
theorem dX5_carryOneOrder_67 : decode cX5_carryOneOrder 67 = .ok (.getfield 19, 3) := by decide +kernel
theorem dX5_carryOneOrder_70 : decode cX5_carryOneOrder 70 = .ok (.getfield 243, 3) := by decide +kernel
theorem dX5_carryOneOrder_73 : decode cX5_carryOneOrder 73 = .ok (.aload_n 0, 1) := by decide +kernel
theorem dX5_carryOneOrder_74 : decode cX5_carryOneOrder 74 = .ok (.getfield 19, 3) := by decide +kernel
theorem dX5_carryOneOrder_77 : decode cX5_carryOneOrder 77 = .ok (.getfield 246, 3) := by decide +kernel
theorem dX5_carryOneOrder_80 : decode cX5_carryOneOrder 80 = .ok (.aload_n 0, 1) := by decide +kernel
theorem dX5_carryOneOrder_81 : decode cX5_carryOneOrder 81 = .ok (.getfield 19, 3) := by decide +kernel
theorem dX5_carryOneOrder_84 : decode cX5_carryOneOrder 84 = .ok (.getfield 247, 3) := by decide +kernel
theorem dX5_carryOneOrder_87 : decode cX5_carryOneOrder 87 = .ok (.invokevirtual 56, 3) := by decide +kernel
theorem dX5_carryOneOrder_90 : decode cX5_carryOneOrder 90 = .ok (.ireturn, 1) := by decide +kernel
theorem dX5_carryOneOrder_91 : decode cX5_carryOneOrder 91 = .ok (.aload_n 0, 1) := by decide +kernel
theorem dX5_carryOneOrder_92 : decode cX5_carryOneOrder 92 = .ok (.getfield 10, 3) := by decide +kernel
theorem dX5_carryOneOrder_95 : decode cX5_carryOneOrder 95 = .ok (.aload_n 0, 1) := by decide +kernel
theorem dX5_carryOneOrder_96 : decode cX5_carryOneOrder 96 = .ok (.getfield 19, 3) := by decide +kernel
theorem dX5_carryOneOrder_99 : decode cX5_carryOneOrder 99 = .ok (.getfield 239, 3) := by decide +kernel
theorem dX5_carryOneOrder_102 : decode cX5_carryOneOrder 102 = .ok (.invokevirtual 60, 3) := by decide +kernel
theorem dX5_carryOneOrder_105 : decode cX5_carryOneOrder 105 = .ok (.ireturn, 1) := by decide +kernel
theorem dX5_carryOneOrder_106 : decode cX5_carryOneOrder 106 = .ok (.aload_n 0, 1) := by decide +kernel
theorem dX5_carryOneOrder_107 : decode cX5_carryOneOrder 107 = .ok (.getfield 10, 3) := by decide +kernel
theorem dX5_carryOneOrder_110 : decode cX5_carryOneOrder 110 = .ok (.aload_n 0, 1) := by decide +kernel
theorem dX5_carryOneOrder_111 : decode cX5_carryOneOrder 111 = .ok (.getfield 19, 3) := by decide +kernel
theorem dX5_carryOneOrder_114 : decode cX5_carryOneOrder 114 = .ok (.getfield 239, 3) := by decide +kernel
theorem dX5_carryOneOrder_117 : decode cX5_carryOneOrder 117 = .ok (.invokevirtual 66, 3) := by decide +kernel
theorem dX5_carryOneOrder_120 : decode cX5_carryOneOrder 120 = .ok (.ireturn, 1) := by decide +kernel
theorem dX5_carryOneOrder_121 : decode cX5_carryOneOrder 121 = .ok (.aload_n 0, 1) := by decide +kernel
theorem dX5_carryOneOrder_122 : decode cX5_carryOneOrder 122 = .ok (.getfield 10, 3) := by decide +kernel
theorem dX5_carryOneOrder_125 : decode cX5_carryOneOrder 125 = .ok (.aload_n 0, 1) := by decide +kernel
theorem dX5_carryOneOrder_126 : decode cX5_carryOneOrder 126 = .ok (.getfield 19, 3) := by decide +kernel
theorem dX5_carryOneOrder_129 : decode cX5_carryOneOrder 129 = .ok (.getfield 239, 3) := by decide +kernel
theorem dX5_carryOneOrder_132 : decode cX5_carryOneOrder 132 = .ok (.invokevirtual 72, 3) := by decide +kernel
theorem dX5_carryOneOrder_135 : decode cX5_carryOneOrder 135 = .ok (.ireturn, 1) := by decide +kernel
theorem dX5_carryOneOrder_136 : decode cX5_carryOneOrder 136 = .ok (.aload_n 0, 1) := by decide +kernel
theorem dX5_carryOneOrder_137 : decode cX5_carryOneOrder 137 = .ok (.getfield 10, 3) := by decide +kernel
theorem dX5_carryOneOrder_140 : decode cX5_carryOneOrder 140 = .ok (.aload_n 0, 1) := by decide +kernel
theorem dX5_carryOneOrder_141 : decode cX5_carryOneOrder 141 = .ok (.getfield 19, 3) := by decide +kernel
theorem dX5_carryOneOrder_144 : decode cX5_carryOneOrder 144 = .ok (.getfield 239, 3) := by decide +kernel
theorem dX5_carryOneOrder_147 : decode cX5_carryOneOrder 147 = .ok (.aload_n 0, 1) := by decide +kernel
theorem dX5_carryOneOrder_148 : decode cX5_carryOneOrder 148 = .ok (.getfield 19, 3) := by decide +kernel
theorem dX5_carryOneOrder_151 : decode cX5_carryOneOrder 151 = .ok (.getfield 243, 3) := by decide +kernel
theorem dX5_carryOneOrder_154 : decode cX5_carryOneOrder 154 = .ok (.invokevirtual 69, 3) := by decide +kernel
theorem dX5_carryOneOrder_157 : decode cX5_carryOneOrder 157 = .ok (.ireturn, 1) := by decide +kernel
theorem dX5_undo_0 : decode cX5_undo 0 = .ok (.aload_n 0, 1) := by decide +kernel
theorem dX5_undo_1 : decode cX5_undo 1 = .ok (.getfield 26, 3) := by decide +kernel
theorem dX5_undo_4 : decode cX5_undo 4 = .ok (.getfield 192, 3) := by decide +kernel
theorem dX5_undo_7 : decode cX5_undo 7 = .ok (.ifCond .ne 6, 3) := by decide +kernel
theorem dX5_undo_10 : decode cX5_undo 10 = .ok (.bipush (-5), 2) := by decide +kernel
theorem dX5_undo_12 : decode cX5_undo 12 = .ok (.ireturn, 1) := by decide +kernel
theorem dX5_undo_13 : decode cX5_undo 13 = .ok (.aload_n 0, 1) := by decide +kernel
theorem dX5_undo_14 : decode cX5_undo 14 = .ok (.getfield 26, 3) := by decide +kernel
theorem dX5_undo_17 : decode cX5_undo 17 = .ok (.aload_n 0, 1) := by decide +kernel
theorem dX5_undo_18 : decode cX5_undo 18 = .ok (.getfield 10, 3) := by decide +kernel
theorem dX5_undo_21 : decode cX5_undo 21 = .ok (.invokevirtual 248, 3) := by decide +kernel
theorem dX5_undo_24 : decode cX5_undo 24 = .ok (.aload_n 0, 1) := by decide +kernel
theorem dX5_undo_25 : decode cX5_undo 25 = .ok (.getfield 26, 3) := by decide +kernel
theorem dX5_undo_28 : decode cX5_undo 28 = .ok (.getfield 192, 3) := by decide +kernel
theorem dX5_undo_31 : decode cX5_undo 31 = .ok (.ireturn, 1) := by decide +kernel
theorem dX5_save_0 : decode cX5_save 0 = .ok (.iload_n 1, 1) := by decide +kernel
theorem dX5_save_1 : decode cX5_save 1 = .ok (.iconst 2, 1) := by decide +kernel
theorem dX5_save_2 : decode cX5_save 2 = .ok (.invokestatic 78, 3) := by decide +kernel
theorem dX5_save_5 : decode cX5_save 5 = .ok (.ifCond .eq 6, 3) := by decide +kernel
theorem dX5_save_8 : decode cX5_save 8 = .ok (.bipush (-2), 2) := by decide +kernel
theorem dX5_save_10 : decode cX5_save 10 = .ok (.ireturn, 1) := by decide +kernel
theorem dX5_save_11 : decode cX5_save 11 = .ok (.aload_n 0, 1) := by decide +kernel
theorem dX5_save_12 : decode cX5_save 12 = .ok (.getfield 30, 3) := by decide +kernel
theorem dX5_save_15 : decode cX5_save 15 = .ok (.iload_n 1, 1) := by decide +kernel
theorem dX5_save_16 : decode cX5_save 16 = .ok (.aaload, 1) := by decide +kernel
theorem dX5_save_17 : decode cX5_save 17 = .ok (.aload_n 0, 1) := by decide +kernel
theorem dX5_save_18 : decode cX5_save 18 = .ok (.getfield 10, 3) := by decide +kernel
theorem dX5_save_21 : decode cX5_save 21 = .ok (.invokevirtual 44, 3) := by decide +kernel
theorem dX5_save_24 : decode cX5_save 24 = .ok (.aload_n 0, 1) := by decide +kernel
theorem dX5_save_25 : decode cX5_save 25 = .ok (.getfield 34, 3) := by decide +kernel
theorem dX5_save_28 : decode cX5_save 28 = .ok (.iload_n 1, 1) := by decide +kernel
theorem dX5_save_29 : decode cX5_save 29 = .ok (.iconst 1, 1) := by decide +kernel
theorem dX5_save_30 : decode cX5_save 30 = .ok (.bastore, 1) := by decide +kernel
theorem dX5_save_31 : decode cX5_save 31 = .ok (.aload_n 0, 1) := by decide +kernel
theorem dX5_save_32 : decode cX5_save 32 = .ok (.getfield 10, 3) := by decide +kernel
theorem dX5_save_35 : decode cX5_save 35 = .ok (.getfield 100, 3) := by decide +kernel
theorem dX5_save_38 : decode cX5_save 38 = .ok (.ireturn, 1) := by decide +kernel
theorem dX5_restore_0 : decode cX5_restore 0 = .ok (.iload_n 1, 1) := by decide +kernel
theorem dX5_restore_1 : decode cX5_restore 1 = .ok (.iconst 2, 1) := by decide +kernel
theorem dX5_restore_2 : decode cX5_restore 2 = .ok (.invokestatic 78, 3) := by decide +kernel
theorem dX5_restore_5 : decode cX5_restore 5 = .ok (.ifCond .eq 6, 3) := by decide +kernel
theorem dX5_restore_8 : decode cX5_restore 8 = .ok (.bipush (-2), 2) := by decide +kernel
theorem dX5_restore_10 : decode cX5_restore 10 = .ok (.ireturn, 1) := by decide +kernel
theorem dX5_restore_11 : decode cX5_restore 11 = .ok (.aload_n 0, 1) := by decide +kernel
theorem dX5_restore_12 : decode cX5_restore 12 = .ok (.getfield 34, 3) := by decide +kernel
theorem dX5_restore_15 : decode cX5_restore 15 = .ok (.iload_n 1, 1) := by decide +kernel
theorem dX5_restore_16 : decode cX5_restore 16 = .ok (.baload, 1) := by decide +kernel
theorem dX5_restore_17 : decode cX5_restore 17 = .ok (.ifCond .ne 6, 3) := by decide +kernel
theorem dX5_restore_20 : decode cX5_restore 20 = .ok (.bipush (-5), 2) := by decide +kernel
theorem dX5_restore_22 : decode cX5_restore 22 = .ok (.ireturn, 1) := by decide +kernel
theorem dX5_restore_23 : decode cX5_restore 23 = .ok (.aload_n 0, 1) := by decide +kernel
theorem dX5_restore_24 : decode cX5_restore 24 = .ok (.getfield 26, 3) := by decide +kernel
theorem dX5_restore_27 : decode cX5_restore 27 = .ok (.aload_n 0, 1) := by decide +kernel
theorem dX5_restore_28 : decode cX5_restore 28 = .ok (.getfield 10, 3) := by decide +kernel
theorem dX5_restore_31 : decode cX5_restore 31 = .ok (.invokevirtual 75, 3) := by decide +kernel
theorem dX5_restore_34 : decode cX5_restore 34 = .ok (.aload_n 0, 1) := by decide +kernel
theorem dX5_restore_35 : decode cX5_restore 35 = .ok (.getfield 10, 3) := by decide +kernel
theorem dX5_restore_38 : decode cX5_restore 38 = .ok (.aload_n 0, 1) := by decide +kernel
theorem dX5_restore_39 : decode cX5_restore 39 = .ok (.getfield 30, 3) := by decide +kernel
theorem dX5_restore_42 : decode cX5_restore 42 = .ok (.iload_n 1, 1) := by decide +kernel
theorem dX5_restore_43 : decode cX5_restore 43 = .ok (.aaload, 1) := by decide +kernel
theorem dX5_restore_44 : decode cX5_restore 44 = .ok (.invokevirtual 44, 3) := by decide +kernel
theorem dX5_restore_47 : decode cX5_restore 47 = .ok (.aload_n 0, 1) := by decide +kernel
theorem dX5_restore_48 : decode cX5_restore 48 = .ok (.getfield 10, 3) := by decide +kernel
theorem dX5_restore_51 : decode cX5_restore 51 = .ok (.getfield 100, 3) := by decide +kernel
theorem dX5_restore_54 : decode cX5_restore 54 = .ok (.ireturn, 1) := by decide +kernel
theorem dX5_isOutside_0 : decode cX5_isOutside 0 = .ok (.iload_n 0, 1) := by decide +kernel
theorem dX5_isOutside_1 : decode cX5_isOutside 1 = .ok (.ifCond .lt 8, 3) := by decide +kernel
theorem dX5_isOutside_4 : decode cX5_isOutside 4 = .ok (.iload_n 0, 1) := by decide +kernel
theorem dX5_isOutside_5 : decode cX5_isOutside 5 = .ok (.iload_n 1, 1) := by decide +kernel
theorem dX5_isOutside_6 : decode cX5_isOutside 6 = .ok (.if_icmp .lt 7, 3) := by decide +kernel
theorem dX5_isOutside_9 : decode cX5_isOutside 9 = .ok (.iconst 1, 1) := by decide +kernel
theorem dX5_isOutside_10 : decode cX5_isOutside 10 = .ok (.goto 4, 3) := by decide +kernel
theorem dX5_isOutside_13 : decode cX5_isOutside 13 = .ok (.iconst 0, 1) := by decide +kernel
theorem dX5_isOutside_14 : decode cX5_isOutside 14 = .ok (.ireturn, 1) := by decide +kernel
theorem dX5_asNumber_0 : decode cX5_asNumber 0 = .ok (.iload_n 0, 1) := by decide +kernel
theorem dX5_asNumber_1 : decode cX5_asNumber 1 = .ok (.ifCond .eq 7, 3) := by decide +kernel
theorem dX5_asNumber_4 : decode cX5_asNumber 4 = .ok (.iconst 1, 1) := by decide +kernel
theorem dX5_asNumber_5 : decode cX5_asNumber 5 = .ok (.goto 4, 3) := by decide +kernel
theorem dX5_asNumber_8 : decode cX5_asNumber 8 = .ok (.iconst 0, 1) := by decide +kernel
theorem dX5_asNumber_9 : decode cX5_asNumber 9 = .ok (.ireturn, 1) := by decide +kernel
theorem dX5_withinBounds_0 : decode cX5_withinBounds 0 = .ok (.sipush (-9999), 3) := by decide +kernel
theorem dX5_withinBounds_3 : decode cX5_withinBounds 3 = .ok (.sipush 9999, 3) := by decide +kernel
theorem dX5_withinBounds_6 : decode cX5_withinBounds 6 = .ok (.iload_n 0, 1) := by decide +kernel
theorem dX5_withinBounds_7 : decode cX5_withinBounds 7 = .ok (.invokestatic 251, 3) := by decide +kernel
theorem dX5_withinBounds_10 : decode cX5_withinBounds 10 = .ok (.invokestatic 207, 3) := by decide +kernel
theorem dX5_withinBounds_13 : decode cX5_withinBounds 13 = .ok (.ireturn, 1) := by decide +kernel
theorem dJ13_bitCount_95d88_0 : decode cJ13_bitCount_95d88 0 = .ok (.lload_n 0, 1) := by decide +kernel
theorem dJ13_bitCount_95d88_1 : decode cJ13_bitCount_95d88 1 = .ok (.lload_n 0, 1) := by decide +kernel
theorem dJ13_bitCount_95d88_2 : decode cJ13_bitCount_95d88 2 = .ok (.iconst 1, 1) := by decide +kernel
theorem dJ13_bitCount_95d88_3 : decode cJ13_bitCount_95d88 3 = .ok (.lushr, 1) := by decide +kernel
theorem dJ13_bitCount_95d88_4 : decode cJ13_bitCount_95d88 4 = .ok (.ldc2_w 314, 3) := by decide +kernel
theorem dJ13_bitCount_95d88_7 : decode cJ13_bitCount_95d88 7 = .ok (.land, 1) := by decide +kernel
theorem dJ13_bitCount_95d88_8 : decode cJ13_bitCount_95d88 8 = .ok (.lsub, 1) := by decide +kernel
theorem dJ13_bitCount_95d88_9 : decode cJ13_bitCount_95d88 9 = .ok (.lstore_n 0, 1) := by decide +kernel
theorem dJ13_bitCount_95d88_10 : decode cJ13_bitCount_95d88 10 = .ok (.lload_n 0, 1) := by decide +kernel
theorem dJ13_bitCount_95d88_11 : decode cJ13_bitCount_95d88 11 = .ok (.ldc2_w 316, 3) := by decide +kernel
theorem dJ13_bitCount_95d88_14 : decode cJ13_bitCount_95d88 14 = .ok (.land, 1) := by decide +kernel
theorem dJ13_bitCount_95d88_15 : decode cJ13_bitCount_95d88 15 = .ok (.lload_n 0, 1) := by decide +kernel
theorem dJ13_bitCount_95d88_16 : decode cJ13_bitCount_95d88 16 = .ok (.iconst 2, 1) := by decide +kernel
theorem dJ13_bitCount_95d88_17 : decode cJ13_bitCount_95d88 17 = .ok (.lushr, 1) := by decide +kernel
theorem dJ13_bitCount_95d88_18 : decode cJ13_bitCount_95d88 18 = .ok (.ldc2_w 316, 3) := by decide +kernel
theorem dJ13_bitCount_95d88_21 : decode cJ13_bitCount_95d88 21 = .ok (.land, 1) := by decide +kernel
theorem dJ13_bitCount_95d88_22 : decode cJ13_bitCount_95d88 22 = .ok (.ladd, 1) := by decide +kernel
theorem dJ13_bitCount_95d88_23 : decode cJ13_bitCount_95d88 23 = .ok (.lstore_n 0, 1) := by decide +kernel
theorem dJ13_bitCount_95d88_24 : decode cJ13_bitCount_95d88 24 = .ok (.lload_n 0, 1) := by decide +kernel
theorem dJ13_bitCount_95d88_25 : decode cJ13_bitCount_95d88 25 = .ok (.lload_n 0, 1) := by decide +kernel
theorem dJ13_bitCount_95d88_26 : decode cJ13_bitCount_95d88 26 = .ok (.iconst 4, 1) := by decide +kernel
theorem dJ13_bitCount_95d88_27 : decode cJ13_bitCount_95d88 27 = .ok (.lushr, 1) := by decide +kernel
theorem dJ13_bitCount_95d88_28 : decode cJ13_bitCount_95d88 28 = .ok (.ladd, 1) := by decide +kernel
theorem dJ13_bitCount_95d88_29 : decode cJ13_bitCount_95d88 29 = .ok (.ldc2_w 318, 3) := by decide +kernel
theorem dJ13_bitCount_95d88_32 : decode cJ13_bitCount_95d88 32 = .ok (.land, 1) := by decide +kernel
theorem dJ13_bitCount_95d88_33 : decode cJ13_bitCount_95d88 33 = .ok (.lstore_n 0, 1) := by decide +kernel
theorem dJ13_bitCount_95d88_34 : decode cJ13_bitCount_95d88 34 = .ok (.lload_n 0, 1) := by decide +kernel
theorem dJ13_bitCount_95d88_35 : decode cJ13_bitCount_95d88 35 = .ok (.lload_n 0, 1) := by decide +kernel
theorem dJ13_bitCount_95d88_36 : decode cJ13_bitCount_95d88 36 = .ok (.bipush 8, 2) := by decide +kernel
theorem dJ13_bitCount_95d88_38 : decode cJ13_bitCount_95d88 38 = .ok (.lushr, 1) := by decide +kernel
theorem dJ13_bitCount_95d88_39 : decode cJ13_bitCount_95d88 39 = .ok (.ladd, 1) := by decide +kernel
theorem dJ13_bitCount_95d88_40 : decode cJ13_bitCount_95d88 40 = .ok (.lstore_n 0, 1) := by decide +kernel
theorem dJ13_bitCount_95d88_41 : decode cJ13_bitCount_95d88 41 = .ok (.lload_n 0, 1) := by decide +kernel
theorem dJ13_bitCount_95d88_42 : decode cJ13_bitCount_95d88 42 = .ok (.lload_n 0, 1) := by decide +kernel
theorem dJ13_bitCount_95d88_43 : decode cJ13_bitCount_95d88 43 = .ok (.bipush 16, 2) := by decide +kernel
theorem dJ13_bitCount_95d88_45 : decode cJ13_bitCount_95d88 45 = .ok (.lushr, 1) := by decide +kernel
theorem dJ13_bitCount_95d88_46 : decode cJ13_bitCount_95d88 46 = .ok (.ladd, 1) := by decide +kernel
theorem dJ13_bitCount_95d88_47 : decode cJ13_bitCount_95d88 47 = .ok (.lstore_n 0, 1) := by decide +kernel
theorem dJ13_bitCount_95d88_48 : decode cJ13_bitCount_95d88 48 = .ok (.lload_n 0, 1) := by decide +kernel
theorem dJ13_bitCount_95d88_49 : decode cJ13_bitCount_95d88 49 = .ok (.lload_n 0, 1) := by decide +kernel
theorem dJ13_bitCount_95d88_50 : decode cJ13_bitCount_95d88 50 = .ok (.bipush 32, 2) := by decide +kernel
theorem dJ13_bitCount_95d88_52 : decode cJ13_bitCount_95d88 52 = .ok (.lushr, 1) := by decide +kernel
theorem dJ13_bitCount_95d88_53 : decode cJ13_bitCount_95d88 53 = .ok (.ladd, 1) := by decide +kernel
theorem dJ13_bitCount_95d88_54 : decode cJ13_bitCount_95d88 54 = .ok (.lstore_n 0, 1) := by decide +kernel
theorem dJ13_bitCount_95d88_55 : decode cJ13_bitCount_95d88 55 = .ok (.lload_n 0, 1) := by decide +kernel
theorem dJ13_bitCount_95d88_56 : decode cJ13_bitCount_95d88 56 = .ok (.l2i, 1) := by decide +kernel
theorem dJ13_bitCount_95d88_57 : decode cJ13_bitCount_95d88 57 = .ok (.bipush 127, 2) := by decide +kernel
theorem dJ13_bitCount_95d88_59 : decode cJ13_bitCount_95d88 59 = .ok (.iand, 1) := by decide +kernel
theorem dJ13_bitCount_95d88_60 : decode cJ13_bitCount_95d88 60 = .ok (.ireturn, 1) := by decide +kernel
theorem dJ9_floorMod_7cf53_0 : decode cJ9_floorMod_7cf53 0 = .ok (.iload_n 0, 1) := by decide +kernel
theorem dJ9_floorMod_7cf53_1 : decode cJ9_floorMod_7cf53 1 = .ok (.iload_n 1, 1) := by decide +kernel
theorem dJ9_floorMod_7cf53_2 : decode cJ9_floorMod_7cf53 2 = .ok (.irem, 1) := by decide +kernel
theorem dJ9_floorMod_7cf53_3 : decode cJ9_floorMod_7cf53 3 = .ok (.istore_n 2, 1) := by decide +kernel
theorem dJ9_floorMod_7cf53_4 : decode cJ9_floorMod_7cf53 4 = .ok (.iload_n 0, 1) := by decide +kernel
theorem dJ9_floorMod_7cf53_5 : decode cJ9_floorMod_7cf53 5 = .ok (.iload_n 1, 1) := by decide +kernel
theorem dJ9_floorMod_7cf53_6 : decode cJ9_floorMod_7cf53 6 = .ok (.ixor, 1) := by decide +kernel
theorem dJ9_floorMod_7cf53_7 : decode cJ9_floorMod_7cf53 7 = .ok (.ifCond .ge 11, 3) := by decide +kernel
theorem dJ9_floorMod_7cf53_10 : decode cJ9_floorMod_7cf53 10 = .ok (.iload_n 2, 1) := by decide +kernel
theorem dJ9_floorMod_7cf53_11 : decode cJ9_floorMod_7cf53 11 = .ok (.ifCond .eq 7, 3) := by decide +kernel
theorem dJ9_floorMod_7cf53_14 : decode cJ9_floorMod_7cf53 14 = .ok (.iload_n 2, 1) := by decide +kernel
theorem dJ9_floorMod_7cf53_15 : decode cJ9_floorMod_7cf53 15 = .ok (.iload_n 1, 1) := by decide +kernel
theorem dJ9_floorMod_7cf53_16 : decode cJ9_floorMod_7cf53 16 = .ok (.iadd, 1) := by decide +kernel
theorem dJ9_floorMod_7cf53_17 : decode cJ9_floorMod_7cf53 17 = .ok (.ireturn, 1) := by decide +kernel
theorem dJ9_floorMod_7cf53_18 : decode cJ9_floorMod_7cf53 18 = .ok (.iload_n 2, 1) := by decide +kernel
theorem dJ9_floorMod_7cf53_19 : decode cJ9_floorMod_7cf53 19 = .ok (.ireturn, 1) := by decide +kernel
theorem dJ9_abs_0f7a4_0 : decode cJ9_abs_0f7a4 0 = .ok (.iload_n 0, 1) := by decide +kernel
theorem dJ9_abs_0f7a4_1 : decode cJ9_abs_0f7a4 1 = .ok (.ifCond .ge 8, 3) := by decide +kernel
theorem dJ9_abs_0f7a4_4 : decode cJ9_abs_0f7a4 4 = .ok (.iload_n 0, 1) := by decide +kernel
theorem dJ9_abs_0f7a4_5 : decode cJ9_abs_0f7a4 5 = .ok (.ineg, 1) := by decide +kernel
theorem dJ9_abs_0f7a4_6 : decode cJ9_abs_0f7a4 6 = .ok (.goto 4, 3) := by decide +kernel
theorem dJ9_abs_0f7a4_9 : decode cJ9_abs_0f7a4 9 = .ok (.iload_n 0, 1) := by decide +kernel
theorem dJ9_abs_0f7a4_10 : decode cJ9_abs_0f7a4 10 = .ok (.ireturn, 1) := by decide +kernel
theorem dJ9_max_7cf53_0 : decode cJ9_max_7cf53 0 = .ok (.iload_n 0, 1) := by decide +kernel
theorem dJ9_max_7cf53_1 : decode cJ9_max_7cf53 1 = .ok (.iload_n 1, 1) := by decide +kernel
theorem dJ9_max_7cf53_2 : decode cJ9_max_7cf53 2 = .ok (.if_icmp .lt 7, 3) := by decide +kernel
theorem dJ9_max_7cf53_5 : decode cJ9_max_7cf53 5 = .ok (.iload_n 0, 1) := by decide +kernel
theorem dJ9_max_7cf53_6 : decode cJ9_max_7cf53 6 = .ok (.goto 4, 3) := by decide +kernel
theorem dJ9_max_7cf53_9 : decode cJ9_max_7cf53 9 = .ok (.iload_n 1, 1) := by decide +kernel
theorem dJ9_max_7cf53_10 : decode cJ9_max_7cf53 10 = .ok (.ireturn, 1) := by decide +kernel
theorem dJ9_min_7cf53_0 : decode cJ9_min_7cf53 0 = .ok (.iload_n 0, 1) := by decide +kernel
theorem dJ9_min_7cf53_1 : decode cJ9_min_7cf53 1 = .ok (.iload_n 1, 1) := by decide +kernel
theorem dJ9_min_7cf53_2 : decode cJ9_min_7cf53 2 = .ok (.if_icmp .gt 7, 3) := by decide +kernel
theorem dJ9_min_7cf53_5 : decode cJ9_min_7cf53 5 = .ok (.iload_n 0, 1) := by decide +kernel
theorem dJ9_min_7cf53_6 : decode cJ9_min_7cf53 6 = .ok (.goto 4, 3) := by decide +kernel
theorem dJ9_min_7cf53_9 : decode cJ9_min_7cf53 9 = .ok (.iload_n 1, 1) := by decide +kernel
theorem dJ9_min_7cf53_10 : decode cJ9_min_7cf53 10 = .ok (.ireturn, 1) := by decide +kernel
theorem dL_law_0 : decode cL_law 0 = .ok (.new 7, 3) := by decide +kernel
theorem dL_law_3 : decode cL_law 3 = .ok (.dup, 1) := by decide +kernel
theorem dL_law_4 : decode cL_law 4 = .ok (.invokespecial 9, 3) := by decide +kernel
theorem dL_law_7 : decode cL_law 7 = .ok (.astore_n 1, 1) := by decide +kernel
theorem dL_law_8 : decode cL_law 8 = .ok (.new 10, 3) := by decide +kernel
theorem dL_law_11 : decode cL_law 11 = .ok (.dup, 1) := by decide +kernel
theorem dL_law_12 : decode cL_law 12 = .ok (.invokespecial 12, 3) := by decide +kernel
theorem dL_law_15 : decode cL_law 15 = .ok (.astore_n 2, 1) := by decide +kernel
theorem dL_law_16 : decode cL_law 16 = .ok (.iconst 0, 1) := by decide +kernel
theorem dL_law_17 : decode cL_law 17 = .ok (.istore_n 3, 1) := by decide +kernel
theorem dL_law_18 : decode cL_law 18 = .ok (.iload_n 3, 1) := by decide +kernel
theorem dL_law_19 : decode cL_law 19 = .ok (.aload_n 0, 1) := by decide +kernel
theorem dL_law_20 : decode cL_law 20 = .ok (.arraylength, 1) := by decide +kernel
theorem dL_law_21 : decode cL_law 21 = .ok (.bipush 6, 2) := by decide +kernel
theorem dL_law_23 : decode cL_law 23 = .ok (.isub, 1) := by decide +kernel
theorem dL_law_24 : decode cL_law 24 = .ok (.if_icmp .gt 772, 3) := by decide +kernel
theorem dL_law_27 : decode cL_law 27 = .ok (.aload_n 0, 1) := by decide +kernel
theorem dL_law_28 : decode cL_law 28 = .ok (.iload_n 3, 1) := by decide +kernel
theorem dL_law_29 : decode cL_law 29 = .ok (.iaload, 1) := by decide +kernel
theorem dL_law_30 : decode cL_law 30 = .ok (.bipush 31, 2) := by decide +kernel
theorem dL_law_32 : decode cL_law 32 = .ok (.iand, 1) := by decide +kernel
theorem dL_law_33 : decode cL_law 33 = .ok (.tableswitch 757 0 22 #[107, 140, 203, 226, 249, 272, 305, 328, 361, 394, 427, 460, 484, 507, 540, 593, 606, 659, 672, 685, 698, 711, 734], 107) := by decide +kernel
theorem dL_law_140 : decode cL_law 140 = .ok (.aload_n 1, 1) := by decide +kernel
theorem dL_law_141 : decode cL_law 141 = .ok (.aload_n 0, 1) := by decide +kernel
theorem dL_law_142 : decode cL_law 142 = .ok (.iload_n 3, 1) := by decide +kernel
theorem dL_law_143 : decode cL_law 143 = .ok (.iconst 1, 1) := by decide +kernel
theorem dL_law_144 : decode cL_law 144 = .ok (.iadd, 1) := by decide +kernel
theorem dL_law_145 : decode cL_law 145 = .ok (.iaload, 1) := by decide +kernel
theorem dL_law_146 : decode cL_law 146 = .ok (.aload_n 0, 1) := by decide +kernel
theorem dL_law_147 : decode cL_law 147 = .ok (.iload_n 3, 1) := by decide +kernel
theorem dL_law_148 : decode cL_law 148 = .ok (.iconst 2, 1) := by decide +kernel
theorem dL_law_149 : decode cL_law 149 = .ok (.iadd, 1) := by decide +kernel
theorem dL_law_150 : decode cL_law 150 = .ok (.iaload, 1) := by decide +kernel
theorem dL_law_151 : decode cL_law 151 = .ok (.invokevirtual 13, 3) := by decide +kernel
theorem dL_law_154 : decode cL_law 154 = .ok (.aload_n 2, 1) := by decide +kernel
theorem dL_law_155 : decode cL_law 155 = .ok (.aload_n 0, 1) := by decide +kernel
theorem dL_law_156 : decode cL_law 156 = .ok (.iload_n 3, 1) := by decide +kernel
theorem dL_law_157 : decode cL_law 157 = .ok (.iconst 1, 1) := by decide +kernel
theorem dL_law_158 : decode cL_law 158 = .ok (.iadd, 1) := by decide +kernel
theorem dL_law_159 : decode cL_law 159 = .ok (.iaload, 1) := by decide +kernel
theorem dL_law_160 : decode cL_law 160 = .ok (.aload_n 0, 1) := by decide +kernel
theorem dL_law_161 : decode cL_law 161 = .ok (.iload_n 3, 1) := by decide +kernel
theorem dL_law_162 : decode cL_law 162 = .ok (.iconst 2, 1) := by decide +kernel
theorem dL_law_163 : decode cL_law 163 = .ok (.iadd, 1) := by decide +kernel
theorem dL_law_164 : decode cL_law 164 = .ok (.iaload, 1) := by decide +kernel
theorem dL_law_165 : decode cL_law 165 = .ok (.invokevirtual 17, 3) := by decide +kernel
theorem dL_law_168 : decode cL_law 168 = .ok (.if_icmp .eq 622, 3) := by decide +kernel
theorem dL_law_171 : decode cL_law 171 = .ok (.iconst 0, 1) := by decide +kernel
theorem dL_law_172 : decode cL_law 172 = .ok (.ireturn, 1) := by decide +kernel
theorem dL_law_173 : decode cL_law 173 = .ok (.aload_n 1, 1) := by decide +kernel
theorem dL_law_174 : decode cL_law 174 = .ok (.aload_n 0, 1) := by decide +kernel
theorem dL_law_175 : decode cL_law 175 = .ok (.iload_n 3, 1) := by decide +kernel
theorem dL_law_176 : decode cL_law 176 = .ok (.iconst 1, 1) := by decide +kernel
theorem dL_law_177 : decode cL_law 177 = .ok (.iadd, 1) := by decide +kernel
theorem dL_law_178 : decode cL_law 178 = .ok (.iaload, 1) := by decide +kernel
theorem dL_law_179 : decode cL_law 179 = .ok (.aload_n 0, 1) := by decide +kernel
theorem dL_law_180 : decode cL_law 180 = .ok (.iload_n 3, 1) := by decide +kernel
theorem dL_law_181 : decode cL_law 181 = .ok (.iconst 2, 1) := by decide +kernel
theorem dL_law_182 : decode cL_law 182 = .ok (.iadd, 1) := by decide +kernel
theorem dL_law_183 : decode cL_law 183 = .ok (.iaload, 1) := by decide +kernel
theorem dL_law_184 : decode cL_law 184 = .ok (.aload_n 0, 1) := by decide +kernel
theorem dL_law_185 : decode cL_law 185 = .ok (.iload_n 3, 1) := by decide +kernel
theorem dL_law_186 : decode cL_law 186 = .ok (.iconst 3, 1) := by decide +kernel
theorem dL_law_187 : decode cL_law 187 = .ok (.iadd, 1) := by decide +kernel
theorem dL_law_188 : decode cL_law 188 = .ok (.iaload, 1) := by decide +kernel
theorem dL_law_189 : decode cL_law 189 = .ok (.aload_n 0, 1) := by decide +kernel
theorem dL_law_190 : decode cL_law 190 = .ok (.iload_n 3, 1) := by decide +kernel
theorem dL_law_191 : decode cL_law 191 = .ok (.iconst 4, 1) := by decide +kernel
theorem dL_law_192 : decode cL_law 192 = .ok (.iadd, 1) := by decide +kernel
theorem dL_law_193 : decode cL_law 193 = .ok (.iaload, 1) := by decide +kernel
theorem dL_law_194 : decode cL_law 194 = .ok (.aload_n 0, 1) := by decide +kernel
theorem dL_law_195 : decode cL_law 195 = .ok (.iload_n 3, 1) := by decide +kernel
theorem dL_law_196 : decode cL_law 196 = .ok (.iconst 5, 1) := by decide +kernel
theorem dL_law_197 : decode cL_law 197 = .ok (.iadd, 1) := by decide +kernel
theorem dL_law_198 : decode cL_law 198 = .ok (.iaload, 1) := by decide +kernel
theorem dL_law_199 : decode cL_law 199 = .ok (.invokevirtual 18, 3) := by decide +kernel
theorem dL_law_202 : decode cL_law 202 = .ok (.aload_n 2, 1) := by decide +kernel
theorem dL_law_203 : decode cL_law 203 = .ok (.aload_n 0, 1) := by decide +kernel
theorem dL_law_204 : decode cL_law 204 = .ok (.iload_n 3, 1) := by decide +kernel
theorem dL_law_205 : decode cL_law 205 = .ok (.iconst 1, 1) := by decide +kernel
theorem dL_law_206 : decode cL_law 206 = .ok (.iadd, 1) := by decide +kernel
theorem dL_law_207 : decode cL_law 207 = .ok (.iaload, 1) := by decide +kernel
theorem dL_law_208 : decode cL_law 208 = .ok (.aload_n 0, 1) := by decide +kernel
theorem dL_law_209 : decode cL_law 209 = .ok (.iload_n 3, 1) := by decide +kernel
theorem dL_law_210 : decode cL_law 210 = .ok (.iconst 2, 1) := by decide +kernel
theorem dL_law_211 : decode cL_law 211 = .ok (.iadd, 1) := by decide +kernel
theorem dL_law_212 : decode cL_law 212 = .ok (.iaload, 1) := by decide +kernel
theorem dL_law_213 : decode cL_law 213 = .ok (.aload_n 0, 1) := by decide +kernel
theorem dL_law_214 : decode cL_law 214 = .ok (.iload_n 3, 1) := by decide +kernel
theorem dL_law_215 : decode cL_law 215 = .ok (.iconst 3, 1) := by decide +kernel
theorem dL_law_216 : decode cL_law 216 = .ok (.iadd, 1) := by decide +kernel
theorem dL_law_217 : decode cL_law 217 = .ok (.iaload, 1) := by decide +kernel
theorem dL_law_218 : decode cL_law 218 = .ok (.aload_n 0, 1) := by decide +kernel
theorem dL_law_219 : decode cL_law 219 = .ok (.iload_n 3, 1) := by decide +kernel
theorem dL_law_220 : decode cL_law 220 = .ok (.iconst 4, 1) := by decide +kernel
theorem dL_law_221 : decode cL_law 221 = .ok (.iadd, 1) := by decide +kernel
theorem dL_law_222 : decode cL_law 222 = .ok (.iaload, 1) := by decide +kernel
theorem dL_law_223 : decode cL_law 223 = .ok (.aload_n 0, 1) := by decide +kernel
theorem dL_law_224 : decode cL_law 224 = .ok (.iload_n 3, 1) := by decide +kernel
theorem dL_law_225 : decode cL_law 225 = .ok (.iconst 5, 1) := by decide +kernel
theorem dL_law_226 : decode cL_law 226 = .ok (.iadd, 1) := by decide +kernel
theorem dL_law_227 : decode cL_law 227 = .ok (.iaload, 1) := by decide +kernel
theorem dL_law_228 : decode cL_law 228 = .ok (.invokevirtual 22, 3) := by decide +kernel
theorem dL_law_231 : decode cL_law 231 = .ok (.if_icmp .eq 559, 3) := by decide +kernel
theorem dL_law_234 : decode cL_law 234 = .ok (.iconst 0, 1) := by decide +kernel
theorem dL_law_235 : decode cL_law 235 = .ok (.ireturn, 1) := by decide +kernel
theorem dL_law_236 : decode cL_law 236 = .ok (.aload_n 1, 1) := by decide +kernel
theorem dL_law_237 : decode cL_law 237 = .ok (.aload_n 0, 1) := by decide +kernel
theorem dL_law_238 : decode cL_law 238 = .ok (.iload_n 3, 1) := by decide +kernel
theorem dL_law_239 : decode cL_law 239 = .ok (.iconst 1, 1) := by decide +kernel
theorem dL_law_240 : decode cL_law 240 = .ok (.iadd, 1) := by decide +kernel
theorem dL_law_241 : decode cL_law 241 = .ok (.iaload, 1) := by decide +kernel
theorem dL_law_242 : decode cL_law 242 = .ok (.invokevirtual 23, 3) := by decide +kernel
theorem dL_law_245 : decode cL_law 245 = .ok (.aload_n 2, 1) := by decide +kernel
theorem dL_law_246 : decode cL_law 246 = .ok (.aload_n 0, 1) := by decide +kernel
theorem dL_law_247 : decode cL_law 247 = .ok (.iload_n 3, 1) := by decide +kernel
theorem dL_law_248 : decode cL_law 248 = .ok (.iconst 1, 1) := by decide +kernel
theorem dL_law_249 : decode cL_law 249 = .ok (.iadd, 1) := by decide +kernel
theorem dL_law_250 : decode cL_law 250 = .ok (.iaload, 1) := by decide +kernel
theorem dL_law_251 : decode cL_law 251 = .ok (.invokevirtual 27, 3) := by decide +kernel
theorem dL_law_254 : decode cL_law 254 = .ok (.if_icmp .eq 536, 3) := by decide +kernel
theorem dL_law_257 : decode cL_law 257 = .ok (.iconst 0, 1) := by decide +kernel
theorem dL_law_258 : decode cL_law 258 = .ok (.ireturn, 1) := by decide +kernel
theorem dL_law_259 : decode cL_law 259 = .ok (.aload_n 1, 1) := by decide +kernel
theorem dL_law_260 : decode cL_law 260 = .ok (.aload_n 0, 1) := by decide +kernel
theorem dL_law_261 : decode cL_law 261 = .ok (.iload_n 3, 1) := by decide +kernel
theorem dL_law_262 : decode cL_law 262 = .ok (.iconst 1, 1) := by decide +kernel
theorem dL_law_263 : decode cL_law 263 = .ok (.iadd, 1) := by decide +kernel
theorem dL_law_264 : decode cL_law 264 = .ok (.iaload, 1) := by decide +kernel
theorem dL_law_265 : decode cL_law 265 = .ok (.invokevirtual 28, 3) := by decide +kernel
theorem dL_law_268 : decode cL_law 268 = .ok (.aload_n 2, 1) := by decide +kernel
theorem dL_law_269 : decode cL_law 269 = .ok (.aload_n 0, 1) := by decide +kernel
theorem dL_law_270 : decode cL_law 270 = .ok (.iload_n 3, 1) := by decide +kernel
theorem dL_law_271 : decode cL_law 271 = .ok (.iconst 1, 1) := by decide +kernel
theorem dL_law_272 : decode cL_law 272 = .ok (.iadd, 1) := by decide +kernel
theorem dL_law_273 : decode cL_law 273 = .ok (.iaload, 1) := by decide +kernel
theorem dL_law_274 : decode cL_law 274 = .ok (.invokevirtual 31, 3) := by decide +kernel
theorem dL_law_277 : decode cL_law 277 = .ok (.if_icmp .eq 513, 3) := by decide +kernel
theorem dL_law_280 : decode cL_law 280 = .ok (.iconst 0, 1) := by decide +kernel
theorem dL_law_281 : decode cL_law 281 = .ok (.ireturn, 1) := by decide +kernel
theorem dL_law_282 : decode cL_law 282 = .ok (.aload_n 1, 1) := by decide +kernel
theorem dL_law_283 : decode cL_law 283 = .ok (.aload_n 0, 1) := by decide +kernel
theorem dL_law_284 : decode cL_law 284 = .ok (.iload_n 3, 1) := by decide +kernel
theorem dL_law_285 : decode cL_law 285 = .ok (.iconst 1, 1) := by decide +kernel
theorem dL_law_286 : decode cL_law 286 = .ok (.iadd, 1) := by decide +kernel
theorem dL_law_287 : decode cL_law 287 = .ok (.iaload, 1) := by decide +kernel
theorem dL_law_288 : decode cL_law 288 = .ok (.invokevirtual 32, 3) := by decide +kernel
theorem dL_law_291 : decode cL_law 291 = .ok (.aload_n 2, 1) := by decide +kernel
theorem dL_law_292 : decode cL_law 292 = .ok (.aload_n 0, 1) := by decide +kernel
theorem dL_law_293 : decode cL_law 293 = .ok (.iload_n 3, 1) := by decide +kernel
theorem dL_law_294 : decode cL_law 294 = .ok (.iconst 1, 1) := by decide +kernel
theorem dL_law_295 : decode cL_law 295 = .ok (.iadd, 1) := by decide +kernel
theorem dL_law_296 : decode cL_law 296 = .ok (.iaload, 1) := by decide +kernel
theorem dL_law_297 : decode cL_law 297 = .ok (.invokevirtual 35, 3) := by decide +kernel
theorem dL_law_300 : decode cL_law 300 = .ok (.if_icmp .eq 490, 3) := by decide +kernel
theorem dL_law_303 : decode cL_law 303 = .ok (.iconst 0, 1) := by decide +kernel
theorem dL_law_304 : decode cL_law 304 = .ok (.ireturn, 1) := by decide +kernel
theorem dL_law_305 : decode cL_law 305 = .ok (.aload_n 1, 1) := by decide +kernel
theorem dL_law_306 : decode cL_law 306 = .ok (.aload_n 0, 1) := by decide +kernel
theorem dL_law_307 : decode cL_law 307 = .ok (.iload_n 3, 1) := by decide +kernel
theorem dL_law_308 : decode cL_law 308 = .ok (.iconst 1, 1) := by decide +kernel
theorem dL_law_309 : decode cL_law 309 = .ok (.iadd, 1) := by decide +kernel
theorem dL_law_310 : decode cL_law 310 = .ok (.iaload, 1) := by decide +kernel
theorem dL_law_311 : decode cL_law 311 = .ok (.aload_n 0, 1) := by decide +kernel
theorem dL_law_312 : decode cL_law 312 = .ok (.iload_n 3, 1) := by decide +kernel
theorem dL_law_313 : decode cL_law 313 = .ok (.iconst 2, 1) := by decide +kernel
theorem dL_law_314 : decode cL_law 314 = .ok (.iadd, 1) := by decide +kernel
theorem dL_law_315 : decode cL_law 315 = .ok (.iaload, 1) := by decide +kernel
theorem dL_law_316 : decode cL_law 316 = .ok (.invokevirtual 36, 3) := by decide +kernel
theorem dL_law_319 : decode cL_law 319 = .ok (.aload_n 2, 1) := by decide +kernel
theorem dL_law_320 : decode cL_law 320 = .ok (.aload_n 0, 1) := by decide +kernel
theorem dL_law_321 : decode cL_law 321 = .ok (.iload_n 3, 1) := by decide +kernel
theorem dL_law_322 : decode cL_law 322 = .ok (.iconst 1, 1) := by decide +kernel
theorem dL_law_323 : decode cL_law 323 = .ok (.iadd, 1) := by decide +kernel
theorem dL_law_324 : decode cL_law 324 = .ok (.iaload, 1) := by decide +kernel
theorem dL_law_325 : decode cL_law 325 = .ok (.aload_n 0, 1) := by decide +kernel
theorem dL_law_326 : decode cL_law 326 = .ok (.iload_n 3, 1) := by decide +kernel
theorem dL_law_327 : decode cL_law 327 = .ok (.iconst 2, 1) := by decide +kernel
theorem dL_law_328 : decode cL_law 328 = .ok (.iadd, 1) := by decide +kernel
theorem dL_law_329 : decode cL_law 329 = .ok (.iaload, 1) := by decide +kernel
theorem dL_law_330 : decode cL_law 330 = .ok (.invokevirtual 39, 3) := by decide +kernel
theorem dL_law_333 : decode cL_law 333 = .ok (.if_icmp .eq 457, 3) := by decide +kernel
theorem dL_law_336 : decode cL_law 336 = .ok (.iconst 0, 1) := by decide +kernel
theorem dL_law_337 : decode cL_law 337 = .ok (.ireturn, 1) := by decide +kernel
theorem dL_law_338 : decode cL_law 338 = .ok (.aload_n 1, 1) := by decide +kernel
theorem dL_law_339 : decode cL_law 339 = .ok (.aload_n 0, 1) := by decide +kernel
theorem dL_law_340 : decode cL_law 340 = .ok (.iload_n 3, 1) := by decide +kernel
theorem dL_law_341 : decode cL_law 341 = .ok (.iconst 1, 1) := by decide +kernel
theorem dL_law_342 : decode cL_law 342 = .ok (.iadd, 1) := by decide +kernel
theorem dL_law_343 : decode cL_law 343 = .ok (.iaload, 1) := by decide +kernel
theorem dL_law_344 : decode cL_law 344 = .ok (.invokevirtual 40, 3) := by decide +kernel
theorem dL_law_347 : decode cL_law 347 = .ok (.aload_n 2, 1) := by decide +kernel
theorem dL_law_348 : decode cL_law 348 = .ok (.aload_n 0, 1) := by decide +kernel
theorem dL_law_349 : decode cL_law 349 = .ok (.iload_n 3, 1) := by decide +kernel
theorem dL_law_350 : decode cL_law 350 = .ok (.iconst 1, 1) := by decide +kernel
theorem dL_law_351 : decode cL_law 351 = .ok (.iadd, 1) := by decide +kernel
theorem dL_law_352 : decode cL_law 352 = .ok (.iaload, 1) := by decide +kernel
theorem dL_law_353 : decode cL_law 353 = .ok (.invokevirtual 43, 3) := by decide +kernel
theorem dL_law_356 : decode cL_law 356 = .ok (.if_icmp .eq 434, 3) := by decide +kernel
theorem dL_law_359 : decode cL_law 359 = .ok (.iconst 0, 1) := by decide +kernel
theorem dL_law_360 : decode cL_law 360 = .ok (.ireturn, 1) := by decide +kernel
theorem dL_law_361 : decode cL_law 361 = .ok (.aload_n 1, 1) := by decide +kernel
theorem dL_law_362 : decode cL_law 362 = .ok (.aload_n 0, 1) := by decide +kernel
theorem dL_law_363 : decode cL_law 363 = .ok (.iload_n 3, 1) := by decide +kernel
theorem dL_law_364 : decode cL_law 364 = .ok (.iconst 1, 1) := by decide +kernel
theorem dL_law_365 : decode cL_law 365 = .ok (.iadd, 1) := by decide +kernel
theorem dL_law_366 : decode cL_law 366 = .ok (.iaload, 1) := by decide +kernel
theorem dL_law_367 : decode cL_law 367 = .ok (.aload_n 0, 1) := by decide +kernel
theorem dL_law_368 : decode cL_law 368 = .ok (.iload_n 3, 1) := by decide +kernel
theorem dL_law_369 : decode cL_law 369 = .ok (.iconst 2, 1) := by decide +kernel
theorem dL_law_370 : decode cL_law 370 = .ok (.iadd, 1) := by decide +kernel
theorem dL_law_371 : decode cL_law 371 = .ok (.iaload, 1) := by decide +kernel
theorem dL_law_372 : decode cL_law 372 = .ok (.invokevirtual 44, 3) := by decide +kernel
theorem dL_law_375 : decode cL_law 375 = .ok (.aload_n 2, 1) := by decide +kernel
theorem dL_law_376 : decode cL_law 376 = .ok (.aload_n 0, 1) := by decide +kernel
theorem dL_law_377 : decode cL_law 377 = .ok (.iload_n 3, 1) := by decide +kernel
theorem dL_law_378 : decode cL_law 378 = .ok (.iconst 1, 1) := by decide +kernel
theorem dL_law_379 : decode cL_law 379 = .ok (.iadd, 1) := by decide +kernel
theorem dL_law_380 : decode cL_law 380 = .ok (.iaload, 1) := by decide +kernel
theorem dL_law_381 : decode cL_law 381 = .ok (.aload_n 0, 1) := by decide +kernel
theorem dL_law_382 : decode cL_law 382 = .ok (.iload_n 3, 1) := by decide +kernel
theorem dL_law_383 : decode cL_law 383 = .ok (.iconst 2, 1) := by decide +kernel
theorem dL_law_384 : decode cL_law 384 = .ok (.iadd, 1) := by decide +kernel
theorem dL_law_385 : decode cL_law 385 = .ok (.iaload, 1) := by decide +kernel
theorem dL_law_386 : decode cL_law 386 = .ok (.invokevirtual 47, 3) := by decide +kernel
theorem dL_law_389 : decode cL_law 389 = .ok (.if_icmp .eq 401, 3) := by decide +kernel
theorem dL_law_392 : decode cL_law 392 = .ok (.iconst 0, 1) := by decide +kernel
theorem dL_law_393 : decode cL_law 393 = .ok (.ireturn, 1) := by decide +kernel
theorem dL_law_394 : decode cL_law 394 = .ok (.aload_n 1, 1) := by decide +kernel
theorem dL_law_395 : decode cL_law 395 = .ok (.aload_n 0, 1) := by decide +kernel
theorem dL_law_396 : decode cL_law 396 = .ok (.iload_n 3, 1) := by decide +kernel
theorem dL_law_397 : decode cL_law 397 = .ok (.iconst 1, 1) := by decide +kernel
theorem dL_law_398 : decode cL_law 398 = .ok (.iadd, 1) := by decide +kernel
theorem dL_law_399 : decode cL_law 399 = .ok (.iaload, 1) := by decide +kernel
theorem dL_law_400 : decode cL_law 400 = .ok (.aload_n 0, 1) := by decide +kernel
theorem dL_law_401 : decode cL_law 401 = .ok (.iload_n 3, 1) := by decide +kernel
theorem dL_law_402 : decode cL_law 402 = .ok (.iconst 2, 1) := by decide +kernel
theorem dL_law_403 : decode cL_law 403 = .ok (.iadd, 1) := by decide +kernel
theorem dL_law_404 : decode cL_law 404 = .ok (.iaload, 1) := by decide +kernel
theorem dL_law_405 : decode cL_law 405 = .ok (.invokevirtual 48, 3) := by decide +kernel
theorem dL_law_408 : decode cL_law 408 = .ok (.aload_n 2, 1) := by decide +kernel
theorem dL_law_409 : decode cL_law 409 = .ok (.aload_n 0, 1) := by decide +kernel
theorem dL_law_410 : decode cL_law 410 = .ok (.iload_n 3, 1) := by decide +kernel
theorem dL_law_411 : decode cL_law 411 = .ok (.iconst 1, 1) := by decide +kernel
theorem dL_law_412 : decode cL_law 412 = .ok (.iadd, 1) := by decide +kernel
theorem dL_law_413 : decode cL_law 413 = .ok (.iaload, 1) := by decide +kernel
theorem dL_law_414 : decode cL_law 414 = .ok (.aload_n 0, 1) := by decide +kernel
theorem dL_law_415 : decode cL_law 415 = .ok (.iload_n 3, 1) := by decide +kernel
theorem dL_law_416 : decode cL_law 416 = .ok (.iconst 2, 1) := by decide +kernel
theorem dL_law_417 : decode cL_law 417 = .ok (.iadd, 1) := by decide +kernel
theorem dL_law_418 : decode cL_law 418 = .ok (.iaload, 1) := by decide +kernel
theorem dL_law_419 : decode cL_law 419 = .ok (.invokevirtual 51, 3) := by decide +kernel
theorem dL_law_422 : decode cL_law 422 = .ok (.if_icmp .eq 368, 3) := by decide +kernel
theorem dL_law_425 : decode cL_law 425 = .ok (.iconst 0, 1) := by decide +kernel
theorem dL_law_426 : decode cL_law 426 = .ok (.ireturn, 1) := by decide +kernel
theorem dL_law_427 : decode cL_law 427 = .ok (.aload_n 1, 1) := by decide +kernel
theorem dL_law_428 : decode cL_law 428 = .ok (.aload_n 0, 1) := by decide +kernel
theorem dL_law_429 : decode cL_law 429 = .ok (.iload_n 3, 1) := by decide +kernel
theorem dL_law_430 : decode cL_law 430 = .ok (.iconst 1, 1) := by decide +kernel
theorem dL_law_431 : decode cL_law 431 = .ok (.iadd, 1) := by decide +kernel
theorem dL_law_432 : decode cL_law 432 = .ok (.iaload, 1) := by decide +kernel
theorem dL_law_433 : decode cL_law 433 = .ok (.aload_n 0, 1) := by decide +kernel
theorem dL_law_434 : decode cL_law 434 = .ok (.iload_n 3, 1) := by decide +kernel
theorem dL_law_435 : decode cL_law 435 = .ok (.iconst 2, 1) := by decide +kernel
theorem dL_law_436 : decode cL_law 436 = .ok (.iadd, 1) := by decide +kernel
theorem dL_law_437 : decode cL_law 437 = .ok (.iaload, 1) := by decide +kernel
theorem dL_law_438 : decode cL_law 438 = .ok (.invokevirtual 52, 3) := by decide +kernel
theorem dL_law_441 : decode cL_law 441 = .ok (.aload_n 2, 1) := by decide +kernel
theorem dL_law_442 : decode cL_law 442 = .ok (.aload_n 0, 1) := by decide +kernel
theorem dL_law_443 : decode cL_law 443 = .ok (.iload_n 3, 1) := by decide +kernel
theorem dL_law_444 : decode cL_law 444 = .ok (.iconst 1, 1) := by decide +kernel
theorem dL_law_445 : decode cL_law 445 = .ok (.iadd, 1) := by decide +kernel
theorem dL_law_446 : decode cL_law 446 = .ok (.iaload, 1) := by decide +kernel
theorem dL_law_447 : decode cL_law 447 = .ok (.aload_n 0, 1) := by decide +kernel
theorem dL_law_448 : decode cL_law 448 = .ok (.iload_n 3, 1) := by decide +kernel
theorem dL_law_449 : decode cL_law 449 = .ok (.iconst 2, 1) := by decide +kernel
theorem dL_law_450 : decode cL_law 450 = .ok (.iadd, 1) := by decide +kernel
theorem dL_law_451 : decode cL_law 451 = .ok (.iaload, 1) := by decide +kernel
theorem dL_law_452 : decode cL_law 452 = .ok (.invokevirtual 55, 3) := by decide +kernel
theorem dL_law_455 : decode cL_law 455 = .ok (.if_icmp .eq 335, 3) := by decide +kernel
theorem dL_law_458 : decode cL_law 458 = .ok (.iconst 0, 1) := by decide +kernel
theorem dL_law_459 : decode cL_law 459 = .ok (.ireturn, 1) := by decide +kernel
theorem dL_law_460 : decode cL_law 460 = .ok (.aload_n 1, 1) := by decide +kernel
theorem dL_law_461 : decode cL_law 461 = .ok (.aload_n 0, 1) := by decide +kernel
theorem dL_law_462 : decode cL_law 462 = .ok (.iload_n 3, 1) := by decide +kernel
theorem dL_law_463 : decode cL_law 463 = .ok (.iconst 1, 1) := by decide +kernel
theorem dL_law_464 : decode cL_law 464 = .ok (.iadd, 1) := by decide +kernel
theorem dL_law_465 : decode cL_law 465 = .ok (.iaload, 1) := by decide +kernel
theorem dL_law_466 : decode cL_law 466 = .ok (.aload_n 0, 1) := by decide +kernel
theorem dL_law_467 : decode cL_law 467 = .ok (.iload_n 3, 1) := by decide +kernel
theorem dL_law_468 : decode cL_law 468 = .ok (.iconst 2, 1) := by decide +kernel
theorem dL_law_469 : decode cL_law 469 = .ok (.iadd, 1) := by decide +kernel
theorem dL_law_470 : decode cL_law 470 = .ok (.iaload, 1) := by decide +kernel
theorem dL_law_471 : decode cL_law 471 = .ok (.invokevirtual 56, 3) := by decide +kernel
theorem dL_law_474 : decode cL_law 474 = .ok (.aload_n 2, 1) := by decide +kernel
theorem dL_law_475 : decode cL_law 475 = .ok (.aload_n 0, 1) := by decide +kernel
theorem dL_law_476 : decode cL_law 476 = .ok (.iload_n 3, 1) := by decide +kernel
theorem dL_law_477 : decode cL_law 477 = .ok (.iconst 1, 1) := by decide +kernel
theorem dL_law_478 : decode cL_law 478 = .ok (.iadd, 1) := by decide +kernel
theorem dL_law_479 : decode cL_law 479 = .ok (.iaload, 1) := by decide +kernel
theorem dL_law_480 : decode cL_law 480 = .ok (.aload_n 0, 1) := by decide +kernel
theorem dL_law_481 : decode cL_law 481 = .ok (.iload_n 3, 1) := by decide +kernel
theorem dL_law_482 : decode cL_law 482 = .ok (.iconst 2, 1) := by decide +kernel
theorem dL_law_483 : decode cL_law 483 = .ok (.iadd, 1) := by decide +kernel
theorem dL_law_484 : decode cL_law 484 = .ok (.iaload, 1) := by decide +kernel
theorem dL_law_485 : decode cL_law 485 = .ok (.invokevirtual 59, 3) := by decide +kernel
theorem dL_law_488 : decode cL_law 488 = .ok (.if_icmp .eq 302, 3) := by decide +kernel
theorem dL_law_491 : decode cL_law 491 = .ok (.iconst 0, 1) := by decide +kernel
theorem dL_law_492 : decode cL_law 492 = .ok (.ireturn, 1) := by decide +kernel
theorem dL_law_493 : decode cL_law 493 = .ok (.aload_n 1, 1) := by decide +kernel
theorem dL_law_494 : decode cL_law 494 = .ok (.aload_n 0, 1) := by decide +kernel
theorem dL_law_495 : decode cL_law 495 = .ok (.iload_n 3, 1) := by decide +kernel
theorem dL_law_496 : decode cL_law 496 = .ok (.iconst 1, 1) := by decide +kernel
theorem dL_law_497 : decode cL_law 497 = .ok (.iadd, 1) := by decide +kernel
theorem dL_law_498 : decode cL_law 498 = .ok (.iaload, 1) := by decide +kernel
theorem dL_law_499 : decode cL_law 499 = .ok (.invokevirtual 60, 3) := by decide +kernel
theorem dL_law_502 : decode cL_law 502 = .ok (.aload_n 2, 1) := by decide +kernel
theorem dL_law_503 : decode cL_law 503 = .ok (.aload_n 0, 1) := by decide +kernel
theorem dL_law_504 : decode cL_law 504 = .ok (.iload_n 3, 1) := by decide +kernel
theorem dL_law_505 : decode cL_law 505 = .ok (.iconst 1, 1) := by decide +kernel
theorem dL_law_506 : decode cL_law 506 = .ok (.iadd, 1) := by decide +kernel
theorem dL_law_507 : decode cL_law 507 = .ok (.iaload, 1) := by decide +kernel
theorem dL_law_508 : decode cL_law 508 = .ok (.invokevirtual 64, 3) := by decide +kernel
theorem dL_law_511 : decode cL_law 511 = .ok (.lcmp, 1) := by decide +kernel
theorem dL_law_512 : decode cL_law 512 = .ok (.ifCond .eq 278, 3) := by decide +kernel
theorem dL_law_515 : decode cL_law 515 = .ok (.iconst 0, 1) := by decide +kernel
theorem dL_law_516 : decode cL_law 516 = .ok (.ireturn, 1) := by decide +kernel
theorem dL_law_517 : decode cL_law 517 = .ok (.aload_n 1, 1) := by decide +kernel
theorem dL_law_518 : decode cL_law 518 = .ok (.aload_n 0, 1) := by decide +kernel
theorem dL_law_519 : decode cL_law 519 = .ok (.iload_n 3, 1) := by decide +kernel
theorem dL_law_520 : decode cL_law 520 = .ok (.iconst 1, 1) := by decide +kernel
theorem dL_law_521 : decode cL_law 521 = .ok (.iadd, 1) := by decide +kernel
theorem dL_law_522 : decode cL_law 522 = .ok (.iaload, 1) := by decide +kernel
theorem dL_law_523 : decode cL_law 523 = .ok (.invokevirtual 65, 3) := by decide +kernel
theorem dL_law_526 : decode cL_law 526 = .ok (.aload_n 2, 1) := by decide +kernel
theorem dL_law_527 : decode cL_law 527 = .ok (.aload_n 0, 1) := by decide +kernel
theorem dL_law_528 : decode cL_law 528 = .ok (.iload_n 3, 1) := by decide +kernel
theorem dL_law_529 : decode cL_law 529 = .ok (.iconst 1, 1) := by decide +kernel
theorem dL_law_530 : decode cL_law 530 = .ok (.iadd, 1) := by decide +kernel
theorem dL_law_531 : decode cL_law 531 = .ok (.iaload, 1) := by decide +kernel
theorem dL_law_532 : decode cL_law 532 = .ok (.invokevirtual 68, 3) := by decide +kernel
theorem dL_law_535 : decode cL_law 535 = .ok (.if_icmp .eq 255, 3) := by decide +kernel
theorem dL_law_538 : decode cL_law 538 = .ok (.iconst 0, 1) := by decide +kernel
theorem dL_law_539 : decode cL_law 539 = .ok (.ireturn, 1) := by decide +kernel
theorem dL_law_540 : decode cL_law 540 = .ok (.aload_n 1, 1) := by decide +kernel
theorem dL_law_541 : decode cL_law 541 = .ok (.aload_n 0, 1) := by decide +kernel
theorem dL_law_542 : decode cL_law 542 = .ok (.iload_n 3, 1) := by decide +kernel
theorem dL_law_543 : decode cL_law 543 = .ok (.iconst 1, 1) := by decide +kernel
theorem dL_law_544 : decode cL_law 544 = .ok (.iadd, 1) := by decide +kernel
theorem dL_law_545 : decode cL_law 545 = .ok (.iaload, 1) := by decide +kernel
theorem dL_law_546 : decode cL_law 546 = .ok (.aload_n 0, 1) := by decide +kernel
theorem dL_law_547 : decode cL_law 547 = .ok (.iload_n 3, 1) := by decide +kernel
theorem dL_law_548 : decode cL_law 548 = .ok (.iconst 2, 1) := by decide +kernel
theorem dL_law_549 : decode cL_law 549 = .ok (.iadd, 1) := by decide +kernel
theorem dL_law_550 : decode cL_law 550 = .ok (.iaload, 1) := by decide +kernel
theorem dL_law_551 : decode cL_law 551 = .ok (.invokevirtual 69, 3) := by decide +kernel
theorem dL_law_554 : decode cL_law 554 = .ok (.aload_n 2, 1) := by decide +kernel
theorem dL_law_555 : decode cL_law 555 = .ok (.aload_n 0, 1) := by decide +kernel
theorem dL_law_556 : decode cL_law 556 = .ok (.iload_n 3, 1) := by decide +kernel
theorem dL_law_557 : decode cL_law 557 = .ok (.iconst 1, 1) := by decide +kernel
theorem dL_law_558 : decode cL_law 558 = .ok (.iadd, 1) := by decide +kernel
theorem dL_law_559 : decode cL_law 559 = .ok (.iaload, 1) := by decide +kernel
theorem dL_law_560 : decode cL_law 560 = .ok (.aload_n 0, 1) := by decide +kernel
theorem dL_law_561 : decode cL_law 561 = .ok (.iload_n 3, 1) := by decide +kernel
theorem dL_law_562 : decode cL_law 562 = .ok (.iconst 2, 1) := by decide +kernel
theorem dL_law_563 : decode cL_law 563 = .ok (.iadd, 1) := by decide +kernel
theorem dL_law_564 : decode cL_law 564 = .ok (.iaload, 1) := by decide +kernel
theorem dL_law_565 : decode cL_law 565 = .ok (.invokevirtual 72, 3) := by decide +kernel
theorem dL_law_568 : decode cL_law 568 = .ok (.if_icmp .eq 222, 3) := by decide +kernel
theorem dL_law_571 : decode cL_law 571 = .ok (.iconst 0, 1) := by decide +kernel
theorem dL_law_572 : decode cL_law 572 = .ok (.ireturn, 1) := by decide +kernel
theorem dL_law_573 : decode cL_law 573 = .ok (.aload_n 1, 1) := by decide +kernel
theorem dL_law_574 : decode cL_law 574 = .ok (.aload_n 0, 1) := by decide +kernel
theorem dL_law_575 : decode cL_law 575 = .ok (.iload_n 3, 1) := by decide +kernel
theorem dL_law_576 : decode cL_law 576 = .ok (.iconst 1, 1) := by decide +kernel
theorem dL_law_577 : decode cL_law 577 = .ok (.iadd, 1) := by decide +kernel
theorem dL_law_578 : decode cL_law 578 = .ok (.iaload, 1) := by decide +kernel
theorem dL_law_579 : decode cL_law 579 = .ok (.aload_n 0, 1) := by decide +kernel
theorem dL_law_580 : decode cL_law 580 = .ok (.iload_n 3, 1) := by decide +kernel
theorem dL_law_581 : decode cL_law 581 = .ok (.iconst 2, 1) := by decide +kernel
theorem dL_law_582 : decode cL_law 582 = .ok (.iadd, 1) := by decide +kernel
theorem dL_law_583 : decode cL_law 583 = .ok (.iaload, 1) := by decide +kernel
theorem dL_law_584 : decode cL_law 584 = .ok (.aload_n 0, 1) := by decide +kernel
theorem dL_law_585 : decode cL_law 585 = .ok (.iload_n 3, 1) := by decide +kernel
theorem dL_law_586 : decode cL_law 586 = .ok (.iconst 3, 1) := by decide +kernel
theorem dL_law_587 : decode cL_law 587 = .ok (.iadd, 1) := by decide +kernel
theorem dL_law_588 : decode cL_law 588 = .ok (.iaload, 1) := by decide +kernel
theorem dL_law_589 : decode cL_law 589 = .ok (.aload_n 0, 1) := by decide +kernel
theorem dL_law_590 : decode cL_law 590 = .ok (.iload_n 3, 1) := by decide +kernel
theorem dL_law_591 : decode cL_law 591 = .ok (.iconst 4, 1) := by decide +kernel
theorem dL_law_592 : decode cL_law 592 = .ok (.iadd, 1) := by decide +kernel
theorem dL_law_593 : decode cL_law 593 = .ok (.iaload, 1) := by decide +kernel
theorem dL_law_594 : decode cL_law 594 = .ok (.invokevirtual 73, 3) := by decide +kernel
theorem dL_law_597 : decode cL_law 597 = .ok (.aload_n 2, 1) := by decide +kernel
theorem dL_law_598 : decode cL_law 598 = .ok (.aload_n 0, 1) := by decide +kernel
theorem dL_law_599 : decode cL_law 599 = .ok (.iload_n 3, 1) := by decide +kernel
theorem dL_law_600 : decode cL_law 600 = .ok (.iconst 1, 1) := by decide +kernel
theorem dL_law_601 : decode cL_law 601 = .ok (.iadd, 1) := by decide +kernel
theorem dL_law_602 : decode cL_law 602 = .ok (.iaload, 1) := by decide +kernel
theorem dL_law_603 : decode cL_law 603 = .ok (.aload_n 0, 1) := by decide +kernel
theorem dL_law_604 : decode cL_law 604 = .ok (.iload_n 3, 1) := by decide +kernel
theorem dL_law_605 : decode cL_law 605 = .ok (.iconst 2, 1) := by decide +kernel
theorem dL_law_606 : decode cL_law 606 = .ok (.iadd, 1) := by decide +kernel
theorem dL_law_607 : decode cL_law 607 = .ok (.iaload, 1) := by decide +kernel
theorem dL_law_608 : decode cL_law 608 = .ok (.aload_n 0, 1) := by decide +kernel
theorem dL_law_609 : decode cL_law 609 = .ok (.iload_n 3, 1) := by decide +kernel
theorem dL_law_610 : decode cL_law 610 = .ok (.iconst 3, 1) := by decide +kernel
theorem dL_law_611 : decode cL_law 611 = .ok (.iadd, 1) := by decide +kernel
theorem dL_law_612 : decode cL_law 612 = .ok (.iaload, 1) := by decide +kernel
theorem dL_law_613 : decode cL_law 613 = .ok (.aload_n 0, 1) := by decide +kernel
theorem dL_law_614 : decode cL_law 614 = .ok (.iload_n 3, 1) := by decide +kernel
theorem dL_law_615 : decode cL_law 615 = .ok (.iconst 4, 1) := by decide +kernel
theorem dL_law_616 : decode cL_law 616 = .ok (.iadd, 1) := by decide +kernel
theorem dL_law_617 : decode cL_law 617 = .ok (.iaload, 1) := by decide +kernel
theorem dL_law_618 : decode cL_law 618 = .ok (.invokevirtual 77, 3) := by decide +kernel
theorem dL_law_621 : decode cL_law 621 = .ok (.if_icmp .eq 169, 3) := by decide +kernel
theorem dL_law_624 : decode cL_law 624 = .ok (.iconst 0, 1) := by decide +kernel
theorem dL_law_625 : decode cL_law 625 = .ok (.ireturn, 1) := by decide +kernel
theorem dL_law_626 : decode cL_law 626 = .ok (.aload_n 1, 1) := by decide +kernel
theorem dL_law_627 : decode cL_law 627 = .ok (.invokevirtual 78, 3) := by decide +kernel
theorem dL_law_630 : decode cL_law 630 = .ok (.aload_n 2, 1) := by decide +kernel
theorem dL_law_631 : decode cL_law 631 = .ok (.invokevirtual 82, 3) := by decide +kernel
theorem dL_law_634 : decode cL_law 634 = .ok (.if_icmp .eq 156, 3) := by decide +kernel
theorem dL_law_637 : decode cL_law 637 = .ok (.iconst 0, 1) := by decide +kernel
theorem dL_law_638 : decode cL_law 638 = .ok (.ireturn, 1) := by decide +kernel
theorem dL_law_639 : decode cL_law 639 = .ok (.aload_n 1, 1) := by decide +kernel
theorem dL_law_640 : decode cL_law 640 = .ok (.aload_n 0, 1) := by decide +kernel
theorem dL_law_641 : decode cL_law 641 = .ok (.iload_n 3, 1) := by decide +kernel
theorem dL_law_642 : decode cL_law 642 = .ok (.iconst 1, 1) := by decide +kernel
theorem dL_law_643 : decode cL_law 643 = .ok (.iadd, 1) := by decide +kernel
theorem dL_law_644 : decode cL_law 644 = .ok (.iaload, 1) := by decide +kernel
theorem dL_law_645 : decode cL_law 645 = .ok (.i2l, 1) := by decide +kernel
theorem dL_law_646 : decode cL_law 646 = .ok (.bipush 32, 2) := by decide +kernel
theorem dL_law_648 : decode cL_law 648 = .ok (.lshl, 1) := by decide +kernel
theorem dL_law_649 : decode cL_law 649 = .ok (.aload_n 0, 1) := by decide +kernel
theorem dL_law_650 : decode cL_law 650 = .ok (.iload_n 3, 1) := by decide +kernel
theorem dL_law_651 : decode cL_law 651 = .ok (.iconst 2, 1) := by decide +kernel
theorem dL_law_652 : decode cL_law 652 = .ok (.iadd, 1) := by decide +kernel
theorem dL_law_653 : decode cL_law 653 = .ok (.iaload, 1) := by decide +kernel
theorem dL_law_654 : decode cL_law 654 = .ok (.i2l, 1) := by decide +kernel
theorem dL_law_655 : decode cL_law 655 = .ok (.ldc2_w 83, 3) := by decide +kernel
theorem dL_law_658 : decode cL_law 658 = .ok (.land, 1) := by decide +kernel
theorem dL_law_659 : decode cL_law 659 = .ok (.lor, 1) := by decide +kernel
theorem dL_law_660 : decode cL_law 660 = .ok (.invokevirtual 85, 3) := by decide +kernel
theorem dL_law_663 : decode cL_law 663 = .ok (.aload_n 2, 1) := by decide +kernel
theorem dL_law_664 : decode cL_law 664 = .ok (.aload_n 0, 1) := by decide +kernel
theorem dL_law_665 : decode cL_law 665 = .ok (.iload_n 3, 1) := by decide +kernel
theorem dL_law_666 : decode cL_law 666 = .ok (.iconst 1, 1) := by decide +kernel
theorem dL_law_667 : decode cL_law 667 = .ok (.iadd, 1) := by decide +kernel
theorem dL_law_668 : decode cL_law 668 = .ok (.iaload, 1) := by decide +kernel
theorem dL_law_669 : decode cL_law 669 = .ok (.i2l, 1) := by decide +kernel
theorem dL_law_670 : decode cL_law 670 = .ok (.bipush 32, 2) := by decide +kernel
theorem dL_law_672 : decode cL_law 672 = .ok (.lshl, 1) := by decide +kernel
theorem dL_law_673 : decode cL_law 673 = .ok (.aload_n 0, 1) := by decide +kernel
theorem dL_law_674 : decode cL_law 674 = .ok (.iload_n 3, 1) := by decide +kernel
theorem dL_law_675 : decode cL_law 675 = .ok (.iconst 2, 1) := by decide +kernel
theorem dL_law_676 : decode cL_law 676 = .ok (.iadd, 1) := by decide +kernel
theorem dL_law_677 : decode cL_law 677 = .ok (.iaload, 1) := by decide +kernel
theorem dL_law_678 : decode cL_law 678 = .ok (.i2l, 1) := by decide +kernel
theorem dL_law_679 : decode cL_law 679 = .ok (.ldc2_w 83, 3) := by decide +kernel
theorem dL_law_682 : decode cL_law 682 = .ok (.land, 1) := by decide +kernel
theorem dL_law_683 : decode cL_law 683 = .ok (.lor, 1) := by decide +kernel
theorem dL_law_684 : decode cL_law 684 = .ok (.invokevirtual 89, 3) := by decide +kernel
theorem dL_law_687 : decode cL_law 687 = .ok (.if_icmp .eq 103, 3) := by decide +kernel
theorem dL_law_690 : decode cL_law 690 = .ok (.iconst 0, 1) := by decide +kernel
theorem dL_law_691 : decode cL_law 691 = .ok (.ireturn, 1) := by decide +kernel
theorem dL_law_692 : decode cL_law 692 = .ok (.aload_n 1, 1) := by decide +kernel
theorem dL_law_693 : decode cL_law 693 = .ok (.invokevirtual 90, 3) := by decide +kernel
theorem dL_law_696 : decode cL_law 696 = .ok (.aload_n 2, 1) := by decide +kernel
theorem dL_law_697 : decode cL_law 697 = .ok (.invokevirtual 93, 3) := by decide +kernel
theorem dL_law_700 : decode cL_law 700 = .ok (.if_icmp .eq 90, 3) := by decide +kernel
theorem dL_law_703 : decode cL_law 703 = .ok (.iconst 0, 1) := by decide +kernel
theorem dL_law_704 : decode cL_law 704 = .ok (.ireturn, 1) := by decide +kernel
theorem dL_law_705 : decode cL_law 705 = .ok (.aload_n 1, 1) := by decide +kernel
theorem dL_law_706 : decode cL_law 706 = .ok (.invokevirtual 94, 3) := by decide +kernel
theorem dL_law_709 : decode cL_law 709 = .ok (.aload_n 2, 1) := by decide +kernel
theorem dL_law_710 : decode cL_law 710 = .ok (.invokevirtual 97, 3) := by decide +kernel
theorem dL_law_713 : decode cL_law 713 = .ok (.if_icmp .eq 77, 3) := by decide +kernel
theorem dL_law_716 : decode cL_law 716 = .ok (.iconst 0, 1) := by decide +kernel
theorem dL_law_717 : decode cL_law 717 = .ok (.ireturn, 1) := by decide +kernel
theorem dL_law_718 : decode cL_law 718 = .ok (.aload_n 1, 1) := by decide +kernel
theorem dL_law_719 : decode cL_law 719 = .ok (.invokevirtual 98, 3) := by decide +kernel
theorem dL_law_722 : decode cL_law 722 = .ok (.aload_n 2, 1) := by decide +kernel
theorem dL_law_723 : decode cL_law 723 = .ok (.invokevirtual 101, 3) := by decide +kernel
theorem dL_law_726 : decode cL_law 726 = .ok (.if_icmp .eq 64, 3) := by decide +kernel
theorem dL_law_729 : decode cL_law 729 = .ok (.iconst 0, 1) := by decide +kernel
theorem dL_law_730 : decode cL_law 730 = .ok (.ireturn, 1) := by decide +kernel
theorem dL_law_731 : decode cL_law 731 = .ok (.aload_n 1, 1) := by decide +kernel
theorem dL_law_732 : decode cL_law 732 = .ok (.invokevirtual 102, 3) := by decide +kernel
theorem dL_law_735 : decode cL_law 735 = .ok (.aload_n 2, 1) := by decide +kernel
theorem dL_law_736 : decode cL_law 736 = .ok (.invokevirtual 105, 3) := by decide +kernel
theorem dL_law_739 : decode cL_law 739 = .ok (.if_icmp .eq 51, 3) := by decide +kernel
theorem dL_law_742 : decode cL_law 742 = .ok (.iconst 0, 1) := by decide +kernel
theorem dL_law_743 : decode cL_law 743 = .ok (.ireturn, 1) := by decide +kernel
theorem dL_law_744 : decode cL_law 744 = .ok (.aload_n 1, 1) := by decide +kernel
theorem dL_law_745 : decode cL_law 745 = .ok (.aload_n 0, 1) := by decide +kernel
theorem dL_law_746 : decode cL_law 746 = .ok (.iload_n 3, 1) := by decide +kernel
theorem dL_law_747 : decode cL_law 747 = .ok (.iconst 1, 1) := by decide +kernel
theorem dL_law_748 : decode cL_law 748 = .ok (.iadd, 1) := by decide +kernel
theorem dL_law_749 : decode cL_law 749 = .ok (.iaload, 1) := by decide +kernel
theorem dL_law_750 : decode cL_law 750 = .ok (.invokevirtual 106, 3) := by decide +kernel
theorem dL_law_753 : decode cL_law 753 = .ok (.aload_n 2, 1) := by decide +kernel
theorem dL_law_754 : decode cL_law 754 = .ok (.aload_n 0, 1) := by decide +kernel
theorem dL_law_755 : decode cL_law 755 = .ok (.iload_n 3, 1) := by decide +kernel
theorem dL_law_756 : decode cL_law 756 = .ok (.iconst 1, 1) := by decide +kernel
theorem dL_law_757 : decode cL_law 757 = .ok (.iadd, 1) := by decide +kernel
theorem dL_law_758 : decode cL_law 758 = .ok (.iaload, 1) := by decide +kernel
theorem dL_law_759 : decode cL_law 759 = .ok (.invokevirtual 109, 3) := by decide +kernel
theorem dL_law_762 : decode cL_law 762 = .ok (.if_icmp .eq 28, 3) := by decide +kernel
theorem dL_law_765 : decode cL_law 765 = .ok (.iconst 0, 1) := by decide +kernel
theorem dL_law_766 : decode cL_law 766 = .ok (.ireturn, 1) := by decide +kernel
theorem dL_law_767 : decode cL_law 767 = .ok (.aload_n 1, 1) := by decide +kernel
theorem dL_law_768 : decode cL_law 768 = .ok (.aload_n 0, 1) := by decide +kernel
theorem dL_law_769 : decode cL_law 769 = .ok (.iload_n 3, 1) := by decide +kernel
theorem dL_law_770 : decode cL_law 770 = .ok (.iconst 1, 1) := by decide +kernel
theorem dL_law_771 : decode cL_law 771 = .ok (.iadd, 1) := by decide +kernel
theorem dL_law_772 : decode cL_law 772 = .ok (.iaload, 1) := by decide +kernel
theorem dL_law_773 : decode cL_law 773 = .ok (.invokevirtual 110, 3) := by decide +kernel
theorem dL_law_776 : decode cL_law 776 = .ok (.aload_n 2, 1) := by decide +kernel
theorem dL_law_777 : decode cL_law 777 = .ok (.aload_n 0, 1) := by decide +kernel
theorem dL_law_778 : decode cL_law 778 = .ok (.iload_n 3, 1) := by decide +kernel
theorem dL_law_779 : decode cL_law 779 = .ok (.iconst 1, 1) := by decide +kernel
theorem dL_law_780 : decode cL_law 780 = .ok (.iadd, 1) := by decide +kernel
theorem dL_law_781 : decode cL_law 781 = .ok (.iaload, 1) := by decide +kernel
theorem dL_law_782 : decode cL_law 782 = .ok (.invokevirtual 113, 3) := by decide +kernel
theorem dL_law_785 : decode cL_law 785 = .ok (.if_icmp .eq 5, 3) := by decide +kernel
theorem dL_law_788 : decode cL_law 788 = .ok (.iconst 0, 1) := by decide +kernel
theorem dL_law_789 : decode cL_law 789 = .ok (.ireturn, 1) := by decide +kernel
theorem dL_law_790 : decode cL_law 790 = .ok (.iinc 3 6, 3) := by decide +kernel
theorem dL_law_793 : decode cL_law 793 = .ok (.goto (-775), 3) := by decide +kernel
theorem dL_law_796 : decode cL_law 796 = .ok (.iconst 1, 1) := by decide +kernel
theorem dL_law_797 : decode cL_law 797 = .ok (.ireturn, 1) := by decide +kernel
